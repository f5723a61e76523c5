
def KPk (z u : ZT) : Prop := (u.1 1) = (z.1 1) ∧ (u.2.1 6) = (z.2.1 6) ∧ (u.2.1 7) = (z.2.1 7) ∧ (u.2.1 8) = (z.2.1 8) ∧ (u.2.1 9) = (z.2.1 9) ∧ (u.1 0) = (z.1 0) ∧ (u.2.1 15) = (z.2.1 15) ∧ (u.2.1 2) = (z.2.1 2) ∧ (u.2.1 3) = (z.2.1 3) ∧ (u.2.1 4) = (z.2.1 4) ∧ (u.2.1 5) = (z.2.1 5) ∧ (u.1 13) = (z.1 13) ∧ (u.2.1 17) = (z.2.1 17) ∧ (u.2.1 18) = (z.2.1 18) ∧ (u.1 32) = (z.1 32) ∧ (u.2.1 27) = (z.2.1 27) ∧ (u.1 30) = (z.1 30) ∧ (u.2.1 23) = (z.2.1 23) ∧ (u.2.1 24) = (z.2.1 24) ∧ (u.2.1 25) = (z.2.1 25) ∧ (u.2.1 26) = (z.2.1 26) ∧ (u.1 31) = (z.1 31) ∧ (u.1 36) = (z.1 36) ∧ (u.1 37) = (z.1 37) ∧ (u.1 38) = (z.1 38) ∧ (u.2.2.1 2) = (z.2.2.1 2) ∧ (u.1 39) = (z.1 39) ∧ (u.1 40) = (z.1 40) ∧ (u.1 41) = (z.1 41) ∧ (u.2.2.1 3) = (z.2.2.1 3) ∧ (u.1 42) = (z.1 42) ∧ (u.1 43) = (z.1 43) ∧ (u.1 44) = (z.1 44) ∧ (u.2.2.1 4) = (z.2.2.1 4) ∧ (u.1 45) = (z.1 45) ∧ (u.1 46) = (z.1 46) ∧ (u.1 47) = (z.1 47) ∧ (u.2.2.1 5) = (z.2.2.1 5) ∧ (u.1 48) = (z.1 48) ∧ (u.1 49) = (z.1 49) ∧ (u.1 50) = (z.1 50) ∧ (u.2.2.1 6) = (z.2.2.1 6) ∧ (u.1 51) = (z.1 51) ∧ (u.1 52) = (z.1 52) ∧ (u.1 53) = (z.1 53) ∧ (u.2.2.1 7) = (z.2.2.1 7)
def KPS_k (z u : ZT) : Prop := (u.2.1 28) = (z.2.1 28) ∧ (u.2.1 29) = (z.2.1 29) ∧ (u.2.1 30) = (z.2.1 30) ∧ (u.2.1 32) = (z.2.1 32) ∧ (u.2.1 33) = (z.2.1 33) ∧ (u.2.1 35) = (z.2.1 35) ∧ (u.2.1 36) = (z.2.1 36) ∧ (u.2.1 37) = (z.2.1 37) ∧ (u.2.1 38) = (z.2.1 38) ∧ (u.2.1 39) = (z.2.1 39) ∧ (u.2.1 40) = (z.2.1 40) ∧ (u.2.1 41) = (z.2.1 41) ∧ (u.2.2.2.2.2.1 0) = (z.2.2.2.2.2.1 0) ∧ (u.2.1 31) = (z.2.1 31) ∧ (u.2.1 34) = (z.2.1 34)
def KPL (z u : ZT) (x1 : Int32) : Prop := KPk z u ∧ KPS_k z u ∧ (u.1 2) = (z.1 2) ∧ (((x1 < 0 ∨ 4 ≤ x1 / (10 : Int32) ∨ ¬ (x1 - x1 / (10 : Int32) * (10 : Int32) < 8)) ∧ (u.1 6) = (z.1 6)) ∨ (¬ (x1 < 0 ∨ 4 ≤ x1 / (10 : Int32) ∨ ¬ (x1 - x1 / (10 : Int32) * (10 : Int32) < 8)) ∧ (u.1 6) = 0))
theorem kw_111 : Cond.methodLink RX2 3 objectInit ∈ zW := zwC (i := 37) zc_1 rfl rfl
theorem kw_112 : Cond.classLink RX2 36 "AlreadyJudged$Suit" ∈ zW := zwC (i := 38) zc_1 rfl rfl
theorem kw_114 : Cond.classLink RX2 42 "AlreadyJudged$Law" ∈ zW := zwC (i := 40) zc_1 rfl rfl
theorem kw_145 : Cond.fieldLink RX2 44 "AlreadyJudged$Court" "laws" "[LAlreadyJudged$Law;" ∈ zW := zwC (i := 71) zc_1 rfl rfl
theorem zh_cX2_init_0 : zck [42, 183, 0, 3, 42, 16, 40, 188, 10, 181, 0, 9, 42, 16, 40, 188, 10, 181, 0, 15, 42, 16] (zdu 0 cX2_init.data.toList) = true := by decide +kernel
theorem dX2_init_0 : decode cX2_init 0 = .ok (.aload_n 0, 1) := zo_42 zh_cX2_init_0 0 rfl
theorem dX2_init_1 : decode cX2_init 1 = .ok (.invokespecial 3, 3) := zo_183 zh_cX2_init_0 1 rfl
theorem dX2_init_4 : decode cX2_init 4 = .ok (.aload_n 0, 1) := zo_42 zh_cX2_init_0 4 rfl
theorem dX2_init_5 : decode cX2_init 5 = .ok (.bipush 40, 2) := zo_p16 zh_cX2_init_0 5 40 rfl rfl
theorem dX2_init_7 : decode cX2_init 7 = .ok (.newarray .int, 2) := zo_188_int zh_cX2_init_0 7 rfl
theorem dX2_init_9 : decode cX2_init 9 = .ok (.putfield 9, 3) := zo_181 zh_cX2_init_0 9 rfl
theorem dX2_init_12 : decode cX2_init 12 = .ok (.aload_n 0, 1) := zo_42 zh_cX2_init_0 12 rfl
theorem dX2_init_13 : decode cX2_init 13 = .ok (.bipush 40, 2) := zo_p16 zh_cX2_init_0 13 40 rfl rfl
theorem dX2_init_15 : decode cX2_init 15 = .ok (.newarray .int, 2) := zo_188_int zh_cX2_init_0 15 rfl
theorem dX2_init_17 : decode cX2_init 17 = .ok (.putfield 15, 3) := zo_181 zh_cX2_init_0 17 rfl
theorem zh_cX2_init_1 : zck [42, 16, 40, 188, 10, 181, 0, 18, 42, 16, 40, 188, 10, 181, 0, 21, 42, 16, 32, 188, 10, 181] (zdu 20 cX2_init.data.toList) = true := by decide +kernel
theorem dX2_init_20 : decode cX2_init 20 = .ok (.aload_n 0, 1) := zo_42 zh_cX2_init_1 0 rfl
theorem dX2_init_21 : decode cX2_init 21 = .ok (.bipush 40, 2) := zo_p16 zh_cX2_init_1 1 40 rfl rfl
theorem dX2_init_23 : decode cX2_init 23 = .ok (.newarray .int, 2) := zo_188_int zh_cX2_init_1 3 rfl
theorem dX2_init_25 : decode cX2_init 25 = .ok (.putfield 18, 3) := zo_181 zh_cX2_init_1 5 rfl
theorem dX2_init_28 : decode cX2_init 28 = .ok (.aload_n 0, 1) := zo_42 zh_cX2_init_1 8 rfl
theorem dX2_init_29 : decode cX2_init 29 = .ok (.bipush 40, 2) := zo_p16 zh_cX2_init_1 9 40 rfl rfl
theorem dX2_init_31 : decode cX2_init 31 = .ok (.newarray .int, 2) := zo_188_int zh_cX2_init_1 11 rfl
theorem dX2_init_33 : decode cX2_init 33 = .ok (.putfield 21, 3) := zo_181 zh_cX2_init_1 13 rfl
theorem dX2_init_36 : decode cX2_init 36 = .ok (.aload_n 0, 1) := zo_42 zh_cX2_init_1 16 rfl
theorem dX2_init_37 : decode cX2_init 37 = .ok (.bipush 32, 2) := zo_p16 zh_cX2_init_1 17 32 rfl rfl
theorem dX2_init_39 : decode cX2_init 39 = .ok (.newarray .int, 2) := zo_188_int zh_cX2_init_1 19 rfl
theorem zh_cX2_init_2 : zck [10, 181, 0, 24, 42, 16, 32, 188, 10, 181, 0, 27, 42, 16, 32, 188, 10, 181, 0, 30, 42, 16] (zdu 40 cX2_init.data.toList) = true := by decide +kernel
theorem dX2_init_41 : decode cX2_init 41 = .ok (.putfield 24, 3) := zo_181 zh_cX2_init_2 1 rfl
theorem dX2_init_44 : decode cX2_init 44 = .ok (.aload_n 0, 1) := zo_42 zh_cX2_init_2 4 rfl
theorem dX2_init_45 : decode cX2_init 45 = .ok (.bipush 32, 2) := zo_p16 zh_cX2_init_2 5 32 rfl rfl
theorem dX2_init_47 : decode cX2_init 47 = .ok (.newarray .int, 2) := zo_188_int zh_cX2_init_2 7 rfl
theorem dX2_init_49 : decode cX2_init 49 = .ok (.putfield 27, 3) := zo_181 zh_cX2_init_2 9 rfl
theorem dX2_init_52 : decode cX2_init 52 = .ok (.aload_n 0, 1) := zo_42 zh_cX2_init_2 12 rfl
theorem dX2_init_53 : decode cX2_init 53 = .ok (.bipush 32, 2) := zo_p16 zh_cX2_init_2 13 32 rfl rfl
theorem dX2_init_55 : decode cX2_init 55 = .ok (.newarray .int, 2) := zo_188_int zh_cX2_init_2 15 rfl
theorem dX2_init_57 : decode cX2_init 57 = .ok (.putfield 30, 3) := zo_181 zh_cX2_init_2 17 rfl
theorem zh_cX2_init_3 : zck [42, 16, 32, 188, 10, 181, 0, 33, 42, 16, 40, 189, 0, 36, 181, 0, 38, 42, 16, 32, 189, 0] (zdu 60 cX2_init.data.toList) = true := by decide +kernel
theorem dX2_init_60 : decode cX2_init 60 = .ok (.aload_n 0, 1) := zo_42 zh_cX2_init_3 0 rfl
theorem dX2_init_61 : decode cX2_init 61 = .ok (.bipush 32, 2) := zo_p16 zh_cX2_init_3 1 32 rfl rfl
theorem dX2_init_63 : decode cX2_init 63 = .ok (.newarray .int, 2) := zo_188_int zh_cX2_init_3 3 rfl
theorem dX2_init_65 : decode cX2_init 65 = .ok (.putfield 33, 3) := zo_181 zh_cX2_init_3 5 rfl
theorem dX2_init_68 : decode cX2_init 68 = .ok (.aload_n 0, 1) := zo_42 zh_cX2_init_3 8 rfl
theorem dX2_init_69 : decode cX2_init 69 = .ok (.bipush 40, 2) := zo_p16 zh_cX2_init_3 9 40 rfl rfl
theorem zo_189 {c : ByteArray} {s : Nat} {K : List Nat} (h : zck K (zdu s c.data.toList) = true) (k : Nat) {v : Nat} (hk : zt3 K k 189 v = true) : decode c (s + k) = .ok (.anewarray v, 3) := zde ((zbd (zu1 (zh3 h hk).1)).trans ((zbd (f := fun x => pure (Instr.anewarray x)) (zh3 h hk).2).trans rfl))
theorem dX2_init_71 : decode cX2_init 71 = .ok (.anewarray 36, 3) := zo_189 zh_cX2_init_3 11 rfl
theorem dX2_init_74 : decode cX2_init 74 = .ok (.putfield 38, 3) := zo_181 zh_cX2_init_3 14 rfl
theorem dX2_init_77 : decode cX2_init 77 = .ok (.aload_n 0, 1) := zo_42 zh_cX2_init_3 17 rfl
theorem dX2_init_78 : decode cX2_init 78 = .ok (.bipush 32, 2) := zo_p16 zh_cX2_init_3 18 32 rfl rfl
theorem zh_cX2_init_4 : zck [189, 0, 42, 181, 0, 44, 177] (zdu 80 cX2_init.data.toList) = true := by decide +kernel
theorem dX2_init_80 : decode cX2_init 80 = .ok (.anewarray 42, 3) := zo_189 zh_cX2_init_4 0 rfl
theorem dX2_init_83 : decode cX2_init 83 = .ok (.putfield 44, 3) := zo_181 zh_cX2_init_4 3 rfl
theorem dX2_init_86 : decode cX2_init 86 = .ok (.return_, 1) := zo_177 zh_cX2_init_4 6 rfl
abbrev z_X2_init : List Cond := .code yX2_init cX2_init 1 none :: zW
abbrev rm_X2_init : Room := { frames := 1, cells := 10, slots := 360, locals := 20 }
set_option maxHeartbeats 4000000 in
set_option maxRecDepth 100000 in
theorem ci_X2_init (l : Launch) (D : va_G) (cs : Nat → ClassId) (h0 : Nat)  (sz : Nat) : Met l yX2_init z_X2_init rm_X2_init (va_Pc [.ref h0] (zPreO D cs [(h0, .inr (2, [.null, .null, .null, .null, .null, .null, .null, .null, .null, .null, .int 0, .int 0, .int 0]))] sz)) (va_Qv (fun _ : Nat → Nat => True) (fun (u : Nat → Nat) (t : State) => va_P D classes [(h0, .inr (2, [.ref (u 0), .ref (u 1), .ref (u 2), .ref (u 3), .ref (u 4), .ref (u 5), .ref (u 6), .ref (u 7), .ref (u 8), .ref (u 9), .int 0, .int 0, .int 0])), ((u 0), .inl (cs 0, 40, .inl (fun _ => 0))), ((u 1), .inl (cs 0, 40, .inl (fun _ => 0))), ((u 2), .inl (cs 0, 40, .inl (fun _ => 0))), ((u 3), .inl (cs 0, 40, .inl (fun _ => 0))), ((u 4), .inl (cs 0, 32, .inl (fun _ => 0))), ((u 5), .inl (cs 0, 32, .inl (fun _ => 0))), ((u 6), .inl (cs 0, 32, .inl (fun _ => 0))), ((u 7), .inl (cs 0, 32, .inl (fun _ => 0))), ((u 8), .inl (cs 5, 40, .inr (.inr (.inr (.inr (fun _ => none)))))), ((u 9), .inl (cs 6, 32, .inr (.inr (.inr (.inr (fun _ => none))))))] t.heap ∧ va_D (va_A [(h0, .inr (2, [.null, .null, .null, .null, .null, .null, .null, .null, .null, .null, .int 0, .int 0, .int 0]))] sz) [(h0, .inr (2, [.ref (u 0), .ref (u 1), .ref (u 2), .ref (u 3), .ref (u 4), .ref (u 5), .ref (u 6), .ref (u 7), .ref (u 8), .ref (u 9), .int 0, .int 0, .int 0])), ((u 0), .inl (cs 0, 40, .inl (fun _ => 0))), ((u 1), .inl (cs 0, 40, .inl (fun _ => 0))), ((u 2), .inl (cs 0, 40, .inl (fun _ => 0))), ((u 3), .inl (cs 0, 40, .inl (fun _ => 0))), ((u 4), .inl (cs 0, 32, .inl (fun _ => 0))), ((u 5), .inl (cs 0, 32, .inl (fun _ => 0))), ((u 6), .inl (cs 0, 32, .inl (fun _ => 0))), ((u 7), .inl (cs 0, 32, .inl (fun _ => 0))), ((u 8), .inl (cs 5, 40, .inr (.inr (.inr (.inr (fun _ => none)))))), ((u 9), .inl (cs 6, 32, .inr (.inr (.inr (.inr (fun _ => none))))))]) (va_A [(h0, .inr (2, [.null, .null, .null, .null, .null, .null, .null, .null, .null, .null, .int 0, .int 0, .int 0]))] sz)) 10 360 (va_A [(h0, .inr (2, [.null, .null, .null, .null, .null, .null, .null, .null, .null, .null, .int 0, .int 0, .int 0]))] sz) := by
  refine Met.ofW (cc := cX2_init) (maxL := 1) (ret := none) (by decide) rfl ?_
  intro p e s m args below meth c s₁ B hml hv
  obtain ⟨rfl, ⟨hsz, hP, hK, hD0⟩, hO⟩ := hv
  subst hsz
  have hD := hD0.self (sz := s.heap.size)
  have hx := B.exec
  have hb := B.bytes
  have hr := B.returns
  have ht : ∀ w ∈ zW, w.before _ s = true := fun w hw => atoms_spec (ws := z_X2_init) B.pre w (List.mem_cons_of_mem _ hw)
  have hown : s.vm.findClass RX2 = some m.cls := findClass_of_methodNamed B.named
  have hlocks := B.notSynchronized
  have hin : meth.name = "<init>" := (name_of_methodNamed B.named B.method).1
  generalize hAe : va_A [(h0, .inr (2, [.null, .null, .null, .null, .null, .null, .null, .null, .null, .null, .int 0, .int 0, .int 0]))] s.heap.size = A at hD ⊢
  have hA : ∀ q : Nat, s.heap.size ≤ q → A q := fun q h => by rw [← hAe]; exact Or.inr h
  have hS : va_S A s.heap s.heap [] := va_S.rf
  have hl := lv_entry ([.ref h0]) (n := 1) (Nat.le_of_ble_eq_true rfl)
  rw [lg_entry_eq]
  generalize (lg_sl ([.ref h0]) ++ List.replicate (1 - (lg_sl ([.ref h0])).length) Slot.unset).toArray = ls at hl ⊢
  obtain ⟨H, hH⟩ : ∃ H, H = s.heap := ⟨_, rfl⟩
  have hS : va_S A s.heap H [] := by rw [hH]; exact va_S.rf
  rw [← hH]
  have hP : va_P D classes [(h0, .inr (2, [.null, .null, .null, .null, .null, .null, .null, .null, .null, .null, .int 0, .int 0, .int 0]))] H := by rw [hH]; exact hP
  clear hH
  refine lv_aload_n hx hb dX2_init_0 rfl (lv_at hl 0 rfl) ?_
  refine W.objInit hx hb hown (ht _ kw_111) (ht _ kw_104) (ht _ kw_105) rfl (by rw [hml]; exact hl.1) rfl dX2_init_1 (Nat.le_of_ble_eq_true rfl) (Nat.le_of_ble_eq_true rfl) ?_
  refine W.eq (g2 := F0 m 4 ls []) rfl ?_
  refine lv_aload_n hx hb dX2_init_4 rfl (lv_at hl 0 rfl) ?_
  refine lv_bipush (v := (40 : Int32)) hx hb dX2_init_5 (by decide) ?_
  refine zk_newa (atype := .int) (ty := .int) (a0 := (40, .inl (fun _ => 0))) (N' := 40) hx hb (ht _ kw_184) rfl hK 0 rfl (by intro C h; cases h) hP hD hS hA (fun _ => rfl) (by decide) (by decide) (Nat.le_of_ble_eq_true rfl) (Nat.le_of_ble_eq_true rfl) (Nat.le_of_ble_eq_true rfl) dX2_init_7 (fun q_0 H hP hD hS => ?_)
  refine va_putF (D := D) (ci := 2) (v := .ref q_0) (ty := .array .int) (C := RX2) (T := TX2) (N := 13) hx hb ht iX2 tyX2 tyX2_ok nmX2 hown hK hP hD hS 0 rfl rfl 0 (by decide) (ht _ kw_116) (fun _ h9 => h9) rfl hin rfl (by decide +kernel) rfl rfl (Nat.le_of_ble_eq_true rfl) dX2_init_9 (fun H locs hP hD hS => ?_)
  refine lv_aload_n hx hb dX2_init_12 rfl (lv_at hl 0 rfl) ?_
  refine lv_bipush (v := (40 : Int32)) hx hb dX2_init_13 (by decide) ?_
  refine zk_newa (atype := .int) (ty := .int) (a0 := (40, .inl (fun _ => 0))) (N' := 40) hx hb (ht _ kw_184) rfl hK 0 rfl (by intro C h; cases h) hP hD hS hA (fun _ => rfl) (by decide) (by decide) (Nat.le_of_ble_eq_true rfl) (Nat.le_of_ble_eq_true rfl) (Nat.le_of_ble_eq_true rfl) dX2_init_15 (fun q_1 H hP hD hS => ?_)
  refine va_putF (D := D) (ci := 2) (v := .ref q_1) (ty := .array .int) (C := RX2) (T := TX2) (N := 13) hx hb ht iX2 tyX2 tyX2_ok nmX2 hown hK hP hD hS 0 rfl rfl 1 (by decide) (ht _ kw_119) (fun _ h9 => h9) rfl hin rfl (by decide +kernel) rfl rfl (Nat.le_of_ble_eq_true rfl) dX2_init_17 (fun H locs hP hD hS => ?_)
  refine lv_aload_n hx hb dX2_init_20 rfl (lv_at hl 0 rfl) ?_
  refine lv_bipush (v := (40 : Int32)) hx hb dX2_init_21 (by decide) ?_
  refine zk_newa (atype := .int) (ty := .int) (a0 := (40, .inl (fun _ => 0))) (N' := 40) hx hb (ht _ kw_184) rfl hK 0 rfl (by intro C h; cases h) hP hD hS hA (fun _ => rfl) (by decide) (by decide) (Nat.le_of_ble_eq_true rfl) (Nat.le_of_ble_eq_true rfl) (Nat.le_of_ble_eq_true rfl) dX2_init_23 (fun q_2 H hP hD hS => ?_)
  refine va_putF (D := D) (ci := 2) (v := .ref q_2) (ty := .array .int) (C := RX2) (T := TX2) (N := 13) hx hb ht iX2 tyX2 tyX2_ok nmX2 hown hK hP hD hS 0 rfl rfl 2 (by decide) (ht _ kw_122) (fun _ h9 => h9) rfl hin rfl (by decide +kernel) rfl rfl (Nat.le_of_ble_eq_true rfl) dX2_init_25 (fun H locs hP hD hS => ?_)
  refine lv_aload_n hx hb dX2_init_28 rfl (lv_at hl 0 rfl) ?_
  refine lv_bipush (v := (40 : Int32)) hx hb dX2_init_29 (by decide) ?_
  refine zk_newa (atype := .int) (ty := .int) (a0 := (40, .inl (fun _ => 0))) (N' := 40) hx hb (ht _ kw_184) rfl hK 0 rfl (by intro C h; cases h) hP hD hS hA (fun _ => rfl) (by decide) (by decide) (Nat.le_of_ble_eq_true rfl) (Nat.le_of_ble_eq_true rfl) (Nat.le_of_ble_eq_true rfl) dX2_init_31 (fun q_3 H hP hD hS => ?_)
  refine va_putF (D := D) (ci := 2) (v := .ref q_3) (ty := .array .int) (C := RX2) (T := TX2) (N := 13) hx hb ht iX2 tyX2 tyX2_ok nmX2 hown hK hP hD hS 0 rfl rfl 3 (by decide) (ht _ kw_125) (fun _ h9 => h9) rfl hin rfl (by decide +kernel) rfl rfl (Nat.le_of_ble_eq_true rfl) dX2_init_33 (fun H locs hP hD hS => ?_)
  have hP : va_P D classes [(h0, .inr (2, [.ref q_0, .ref q_1, .ref q_2, .ref q_3, .null, .null, .null, .null, .null, .null, .int 0, .int 0, .int 0])), (q_0, .inl (cs 0, 40, .inl (fun _ => 0))), (q_1, .inl (cs 0, 40, .inl (fun _ => 0))), (q_2, .inl (cs 0, 40, .inl (fun _ => 0))), (q_3, .inl (cs 0, 40, .inl (fun _ => 0)))] H := hP
  have hD : va_D A [(h0, .inr (2, [.ref q_0, .ref q_1, .ref q_2, .ref q_3, .null, .null, .null, .null, .null, .null, .int 0, .int 0, .int 0])), (q_0, .inl (cs 0, 40, .inl (fun _ => 0))), (q_1, .inl (cs 0, 40, .inl (fun _ => 0))), (q_2, .inl (cs 0, 40, .inl (fun _ => 0))), (q_3, .inl (cs 0, 40, .inl (fun _ => 0)))] := hD
  refine lv_aload_n hx hb dX2_init_36 rfl (lv_at hl 0 rfl) ?_
  refine lv_bipush (v := (32 : Int32)) hx hb dX2_init_37 (by decide) ?_
  refine zk_newa (atype := .int) (ty := .int) (a0 := (32, .inl (fun _ => 0))) (N' := 32) hx hb (ht _ kw_184) rfl hK 0 rfl (by intro C h; cases h) hP hD hS hA (fun _ => rfl) (by decide) (by decide) (Nat.le_of_ble_eq_true rfl) (Nat.le_of_ble_eq_true rfl) (Nat.le_of_ble_eq_true rfl) dX2_init_39 (fun q_4 H hP hD hS => ?_)
  refine va_putF (D := D) (ci := 2) (v := .ref q_4) (ty := .array .int) (C := RX2) (T := TX2) (N := 13) hx hb ht iX2 tyX2 tyX2_ok nmX2 hown hK hP hD hS 0 rfl rfl 4 (by decide) (ht _ kw_129) (fun _ h9 => h9) rfl hin rfl (by decide +kernel) rfl rfl (Nat.le_of_ble_eq_true rfl) dX2_init_41 (fun H locs hP hD hS => ?_)
  refine lv_aload_n hx hb dX2_init_44 rfl (lv_at hl 0 rfl) ?_
  refine lv_bipush (v := (32 : Int32)) hx hb dX2_init_45 (by decide) ?_
  refine zk_newa (atype := .int) (ty := .int) (a0 := (32, .inl (fun _ => 0))) (N' := 32) hx hb (ht _ kw_184) rfl hK 0 rfl (by intro C h; cases h) hP hD hS hA (fun _ => rfl) (by decide) (by decide) (Nat.le_of_ble_eq_true rfl) (Nat.le_of_ble_eq_true rfl) (Nat.le_of_ble_eq_true rfl) dX2_init_47 (fun q_5 H hP hD hS => ?_)
  refine va_putF (D := D) (ci := 2) (v := .ref q_5) (ty := .array .int) (C := RX2) (T := TX2) (N := 13) hx hb ht iX2 tyX2 tyX2_ok nmX2 hown hK hP hD hS 0 rfl rfl 5 (by decide) (ht _ kw_133) (fun _ h9 => h9) rfl hin rfl (by decide +kernel) rfl rfl (Nat.le_of_ble_eq_true rfl) dX2_init_49 (fun H locs hP hD hS => ?_)
  refine lv_aload_n hx hb dX2_init_52 rfl (lv_at hl 0 rfl) ?_
  refine lv_bipush (v := (32 : Int32)) hx hb dX2_init_53 (by decide) ?_
  refine zk_newa (atype := .int) (ty := .int) (a0 := (32, .inl (fun _ => 0))) (N' := 32) hx hb (ht _ kw_184) rfl hK 0 rfl (by intro C h; cases h) hP hD hS hA (fun _ => rfl) (by decide) (by decide) (Nat.le_of_ble_eq_true rfl) (Nat.le_of_ble_eq_true rfl) (Nat.le_of_ble_eq_true rfl) dX2_init_55 (fun q_6 H hP hD hS => ?_)
  refine va_putF (D := D) (ci := 2) (v := .ref q_6) (ty := .array .int) (C := RX2) (T := TX2) (N := 13) hx hb ht iX2 tyX2 tyX2_ok nmX2 hown hK hP hD hS 0 rfl rfl 6 (by decide) (ht _ kw_137) (fun _ h9 => h9) rfl hin rfl (by decide +kernel) rfl rfl (Nat.le_of_ble_eq_true rfl) dX2_init_57 (fun H locs hP hD hS => ?_)
  refine lv_aload_n hx hb dX2_init_60 rfl (lv_at hl 0 rfl) ?_
  refine lv_bipush (v := (32 : Int32)) hx hb dX2_init_61 (by decide) ?_
  refine zk_newa (atype := .int) (ty := .int) (a0 := (32, .inl (fun _ => 0))) (N' := 32) hx hb (ht _ kw_184) rfl hK 0 rfl (by intro C h; cases h) hP hD hS hA (fun _ => rfl) (by decide) (by decide) (Nat.le_of_ble_eq_true rfl) (Nat.le_of_ble_eq_true rfl) (Nat.le_of_ble_eq_true rfl) dX2_init_63 (fun q_7 H hP hD hS => ?_)
  refine va_putF (D := D) (ci := 2) (v := .ref q_7) (ty := .array .int) (C := RX2) (T := TX2) (N := 13) hx hb ht iX2 tyX2 tyX2_ok nmX2 hown hK hP hD hS 0 rfl rfl 7 (by decide) (ht _ kw_140) (fun _ h9 => h9) rfl hin rfl (by decide +kernel) rfl rfl (Nat.le_of_ble_eq_true rfl) dX2_init_65 (fun H locs hP hD hS => ?_)
  have hP : va_P D classes [(h0, .inr (2, [.ref q_0, .ref q_1, .ref q_2, .ref q_3, .ref q_4, .ref q_5, .ref q_6, .ref q_7, .null, .null, .int 0, .int 0, .int 0])), (q_0, .inl (cs 0, 40, .inl (fun _ => 0))), (q_1, .inl (cs 0, 40, .inl (fun _ => 0))), (q_2, .inl (cs 0, 40, .inl (fun _ => 0))), (q_3, .inl (cs 0, 40, .inl (fun _ => 0))), (q_4, .inl (cs 0, 32, .inl (fun _ => 0))), (q_5, .inl (cs 0, 32, .inl (fun _ => 0))), (q_6, .inl (cs 0, 32, .inl (fun _ => 0))), (q_7, .inl (cs 0, 32, .inl (fun _ => 0)))] H := hP
  have hD : va_D A [(h0, .inr (2, [.ref q_0, .ref q_1, .ref q_2, .ref q_3, .ref q_4, .ref q_5, .ref q_6, .ref q_7, .null, .null, .int 0, .int 0, .int 0])), (q_0, .inl (cs 0, 40, .inl (fun _ => 0))), (q_1, .inl (cs 0, 40, .inl (fun _ => 0))), (q_2, .inl (cs 0, 40, .inl (fun _ => 0))), (q_3, .inl (cs 0, 40, .inl (fun _ => 0))), (q_4, .inl (cs 0, 32, .inl (fun _ => 0))), (q_5, .inl (cs 0, 32, .inl (fun _ => 0))), (q_6, .inl (cs 0, 32, .inl (fun _ => 0))), (q_7, .inl (cs 0, 32, .inl (fun _ => 0)))] := hD
  refine lv_aload_n hx hb dX2_init_68 rfl (lv_at hl 0 rfl) ?_
  refine lv_bipush (v := (40 : Int32)) hx hb dX2_init_69 (by decide) ?_
  refine zk_newq (C := "AlreadyJudged$Suit") (N' := 40) hx hb hown (ht _ kw_112) hO.1 hK 5 rfl hP hD hS hA (by decide) (by decide) (Nat.le_of_ble_eq_true rfl) (Nat.le_of_ble_eq_true rfl) (Nat.le_of_ble_eq_true rfl) dX2_init_71 (fun q_8 H hP hD hS => ?_)
  refine va_putF (D := D) (ci := 2) (v := .ref q_8) (ty := .array (.object "AlreadyJudged$Suit")) (C := RX2) (T := TX2) (N := 13) hx hb ht iX2 tyX2 tyX2_ok nmX2 hown hK hP hD hS 0 rfl rfl 8 (by decide) (ht _ kw_143) (fun _ h9 => h9) rfl hin rfl (by decide +kernel) rfl rfl (Nat.le_of_ble_eq_true rfl) dX2_init_74 (fun H locs hP hD hS => ?_)
  refine lv_aload_n hx hb dX2_init_77 rfl (lv_at hl 0 rfl) ?_
  refine lv_bipush (v := (32 : Int32)) hx hb dX2_init_78 (by decide) ?_
  refine zk_newq (C := "AlreadyJudged$Law") (N' := 32) hx hb hown (ht _ kw_114) hO.2.1 hK 6 rfl hP hD hS hA (by decide) (by decide) (Nat.le_of_ble_eq_true rfl) (Nat.le_of_ble_eq_true rfl) (Nat.le_of_ble_eq_true rfl) dX2_init_80 (fun q_9 H hP hD hS => ?_)
  refine va_putF (D := D) (ci := 2) (v := .ref q_9) (ty := .array (.object "AlreadyJudged$Law")) (C := RX2) (T := TX2) (N := 13) hx hb ht iX2 tyX2 tyX2_ok nmX2 hown hK hP hD hS 0 rfl rfl 9 (by decide) (ht _ kw_145) (fun _ h9 => h9) rfl hin rfl (by decide +kernel) rfl rfl (Nat.le_of_ble_eq_true rfl) dX2_init_83 (fun H locs hP hD hS => ?_)
  have hP : va_P D classes [(h0, .inr (2, [.ref q_0, .ref q_1, .ref q_2, .ref q_3, .ref q_4, .ref q_5, .ref q_6, .ref q_7, .ref q_8, .ref q_9, .int 0, .int 0, .int 0])), (q_0, .inl (cs 0, 40, .inl (fun _ => 0))), (q_1, .inl (cs 0, 40, .inl (fun _ => 0))), (q_2, .inl (cs 0, 40, .inl (fun _ => 0))), (q_3, .inl (cs 0, 40, .inl (fun _ => 0))), (q_4, .inl (cs 0, 32, .inl (fun _ => 0))), (q_5, .inl (cs 0, 32, .inl (fun _ => 0))), (q_6, .inl (cs 0, 32, .inl (fun _ => 0))), (q_7, .inl (cs 0, 32, .inl (fun _ => 0))), (q_8, .inl (cs 5, 40, .inr (.inr (.inr (.inr (fun _ => none)))))), (q_9, .inl (cs 6, 32, .inr (.inr (.inr (.inr (fun _ => none))))))] H := hP
  have hD : va_D A [(h0, .inr (2, [.ref q_0, .ref q_1, .ref q_2, .ref q_3, .ref q_4, .ref q_5, .ref q_6, .ref q_7, .ref q_8, .ref q_9, .int 0, .int 0, .int 0])), (q_0, .inl (cs 0, 40, .inl (fun _ => 0))), (q_1, .inl (cs 0, 40, .inl (fun _ => 0))), (q_2, .inl (cs 0, 40, .inl (fun _ => 0))), (q_3, .inl (cs 0, 40, .inl (fun _ => 0))), (q_4, .inl (cs 0, 32, .inl (fun _ => 0))), (q_5, .inl (cs 0, 32, .inl (fun _ => 0))), (q_6, .inl (cs 0, 32, .inl (fun _ => 0))), (q_7, .inl (cs 0, 32, .inl (fun _ => 0))), (q_8, .inl (cs 5, 40, .inr (.inr (.inr (.inr (fun _ => none)))))), (q_9, .inl (cs 6, 32, .inr (.inr (.inr (.inr (fun _ => none))))))] := hD
  refine W.widen (k := 10) (n := 360) (Nat.le_of_ble_eq_true rfl) (Nat.le_of_ble_eq_true rfl) ?_
  exact W.vret hx hb hr (fun t ht2 hW => ⟨⟨fun k => [q_0, q_1, q_2, q_3, q_4, q_5, q_6, q_7, q_8, q_9].getD k 0, rfl, trivial, by rw [ht2]; exact hP, hD⟩, hS.F ht2⟩) hS.2.2 dX2_init_86 hlocks
theorem kw_234 : Cond.methodLink RX9 3 objectInit ∈ zW := zwC (i := 160) zc_1 rfl rfl
theorem zh_cX9_init_0 : zck [42, 183, 0, 3, 42, 16, 120, 188, 10, 181, 0, 9, 177] (zdu 0 cX9_init.data.toList) = true := by decide +kernel
theorem dX9_init_0 : decode cX9_init 0 = .ok (.aload_n 0, 1) := zo_42 zh_cX9_init_0 0 rfl
theorem dX9_init_1 : decode cX9_init 1 = .ok (.invokespecial 3, 3) := zo_183 zh_cX9_init_0 1 rfl
theorem dX9_init_4 : decode cX9_init 4 = .ok (.aload_n 0, 1) := zo_42 zh_cX9_init_0 4 rfl
theorem dX9_init_5 : decode cX9_init 5 = .ok (.bipush 120, 2) := zo_p16 zh_cX9_init_0 5 120 rfl rfl
theorem dX9_init_7 : decode cX9_init 7 = .ok (.newarray .int, 2) := zo_188_int zh_cX9_init_0 7 rfl
theorem dX9_init_9 : decode cX9_init 9 = .ok (.putfield 9, 3) := zo_181 zh_cX9_init_0 9 rfl
theorem dX9_init_12 : decode cX9_init 12 = .ok (.return_, 1) := zo_177 zh_cX9_init_0 12 rfl
abbrev z_X9_init : List Cond := .code yX9_init cX9_init 1 none :: zW
abbrev rm_X9_init : Room := { frames := 1, cells := 1, slots := 120, locals := 20 }
set_option maxHeartbeats 4000000 in
set_option maxRecDepth 100000 in
theorem ci_X9_init (l : Launch) (D : va_G) (cs : Nat → ClassId) (h0 : Nat)  (sz : Nat) : Met l yX9_init z_X9_init rm_X9_init (va_Pc [.ref h0] (zPre D cs [(h0, .inr (9, [.null, .int 0]))] sz)) (va_Qv (fun _ : Nat → Nat => True) (fun (u : Nat → Nat) (t : State) => va_P D classes [(h0, .inr (9, [.ref (u 0), .int 0])), ((u 0), .inl (cs 0, 120, .inl (fun _ => 0)))] t.heap ∧ va_D (va_A [(h0, .inr (9, [.null, .int 0]))] sz) [(h0, .inr (9, [.ref (u 0), .int 0])), ((u 0), .inl (cs 0, 120, .inl (fun _ => 0)))]) (va_A [(h0, .inr (9, [.null, .int 0]))] sz)) 1 120 (va_A [(h0, .inr (9, [.null, .int 0]))] sz) := by
  refine Met.ofW (cc := cX9_init) (maxL := 1) (ret := none) (by decide) rfl ?_
  intro p e s m args below meth c s₁ B hml hv
  obtain ⟨rfl, hsz, hP, hK, hD0⟩ := hv
  subst hsz
  have hD := hD0.self (sz := s.heap.size)
  have hx := B.exec
  have hb := B.bytes
  have hr := B.returns
  have ht : ∀ w ∈ zW, w.before _ s = true := fun w hw => atoms_spec (ws := z_X9_init) B.pre w (List.mem_cons_of_mem _ hw)
  have hown : s.vm.findClass RX9 = some m.cls := findClass_of_methodNamed B.named
  have hlocks := B.notSynchronized
  have hin : meth.name = "<init>" := (name_of_methodNamed B.named B.method).1
  generalize hAe : va_A [(h0, .inr (9, [.null, .int 0]))] s.heap.size = A at hD ⊢
  have hA : ∀ q : Nat, s.heap.size ≤ q → A q := fun q h => by rw [← hAe]; exact Or.inr h
  have hS : va_S A s.heap s.heap [] := va_S.rf
  have hl := lv_entry ([.ref h0]) (n := 1) (Nat.le_of_ble_eq_true rfl)
  rw [lg_entry_eq]
  generalize (lg_sl ([.ref h0]) ++ List.replicate (1 - (lg_sl ([.ref h0])).length) Slot.unset).toArray = ls at hl ⊢
  obtain ⟨H, hH⟩ : ∃ H, H = s.heap := ⟨_, rfl⟩
  have hS : va_S A s.heap H [] := by rw [hH]; exact va_S.rf
  rw [← hH]
  have hP : va_P D classes [(h0, .inr (9, [.null, .int 0]))] H := by rw [hH]; exact hP
  clear hH
  refine lv_aload_n hx hb dX9_init_0 rfl (lv_at hl 0 rfl) ?_
  refine W.objInit hx hb hown (ht _ kw_234) (ht _ kw_104) (ht _ kw_105) rfl (by rw [hml]; exact hl.1) rfl dX9_init_1 (Nat.le_of_ble_eq_true rfl) (Nat.le_of_ble_eq_true rfl) ?_
  refine W.eq (g2 := F0 m 4 ls []) rfl ?_
  refine lv_aload_n hx hb dX9_init_4 rfl (lv_at hl 0 rfl) ?_
  refine lv_bipush (v := (120 : Int32)) hx hb dX9_init_5 (by decide) ?_
  refine zk_newa (atype := .int) (ty := .int) (a0 := (120, .inl (fun _ => 0))) (N' := 120) hx hb (ht _ kw_184) rfl hK 0 rfl (by intro C h; cases h) hP hD hS hA (fun _ => rfl) (by decide) (by decide) (Nat.le_of_ble_eq_true rfl) (Nat.le_of_ble_eq_true rfl) (Nat.le_of_ble_eq_true rfl) dX9_init_7 (fun q_0 H hP hD hS => ?_)
  refine va_putF (D := D) (ci := 9) (v := .ref q_0) (ty := .array .int) (C := RX9) (T := TX9) (N := 2) hx hb ht iX9 tyX9 tyX9_ok nmX9 hown hK hP hD hS 0 rfl rfl 0 (by decide) (ht _ kw_235) (fun _ h9 => h9) rfl hin rfl (by decide +kernel) rfl rfl (Nat.le_of_ble_eq_true rfl) dX9_init_9 (fun H locs hP hD hS => ?_)
  have hP : va_P D classes [(h0, .inr (9, [.ref q_0, .int 0])), (q_0, .inl (cs 0, 120, .inl (fun _ => 0)))] H := hP
  have hD : va_D A [(h0, .inr (9, [.ref q_0, .int 0])), (q_0, .inl (cs 0, 120, .inl (fun _ => 0)))] := hD
  refine W.widen (k := 1) (n := 120) (Nat.le_of_ble_eq_true rfl) (Nat.le_of_ble_eq_true rfl) ?_
  exact W.vret hx hb hr (fun t ht2 hW => ⟨⟨fun k => [q_0].getD k 0, rfl, trivial, by rw [ht2]; exact hP, hD⟩, hS.F ht2⟩) hS.2.2 dX9_init_12 hlocks
theorem kw_273 : Cond.methodLink RX5 3 objectInit ∈ zW := zwC (i := 199) zc_1 rfl rfl
theorem zh_cX5_init_0 : zck [42, 183, 0, 3, 42, 16, 121, 188, 10, 181, 0, 9, 42, 43, 181, 0, 15, 177] (zdu 0 cX5_init.data.toList) = true := by decide +kernel
theorem dX5_init_0 : decode cX5_init 0 = .ok (.aload_n 0, 1) := zo_42 zh_cX5_init_0 0 rfl
theorem dX5_init_1 : decode cX5_init 1 = .ok (.invokespecial 3, 3) := zo_183 zh_cX5_init_0 1 rfl
theorem dX5_init_4 : decode cX5_init 4 = .ok (.aload_n 0, 1) := zo_42 zh_cX5_init_0 4 rfl
theorem dX5_init_5 : decode cX5_init 5 = .ok (.bipush 121, 2) := zo_p16 zh_cX5_init_0 5 121 rfl rfl
theorem dX5_init_7 : decode cX5_init 7 = .ok (.newarray .int, 2) := zo_188_int zh_cX5_init_0 7 rfl
theorem dX5_init_9 : decode cX5_init 9 = .ok (.putfield 9, 3) := zo_181 zh_cX5_init_0 9 rfl
theorem dX5_init_12 : decode cX5_init 12 = .ok (.aload_n 0, 1) := zo_42 zh_cX5_init_0 12 rfl
theorem dX5_init_13 : decode cX5_init 13 = .ok (.aload_n 1, 1) := zo_43 zh_cX5_init_0 13 rfl
theorem dX5_init_14 : decode cX5_init 14 = .ok (.putfield 15, 3) := zo_181 zh_cX5_init_0 14 rfl
theorem dX5_init_17 : decode cX5_init 17 = .ok (.return_, 1) := zo_177 zh_cX5_init_0 17 rfl
abbrev z_X5_init : List Cond := .code yX5_init cX5_init 2 none :: zW
abbrev rm_X5_init : Room := { frames := 1, cells := 1, slots := 121, locals := 20 }
set_option maxHeartbeats 4000000 in
set_option maxRecDepth 100000 in
theorem ci_X5_init (l : Launch) (D : va_G) (cs : Nat → ClassId) (h0 : Nat) (p1 : Nat) (sz : Nat) : Met l yX5_init z_X5_init rm_X5_init (va_Pc [.ref h0, .ref p1] (zPre D cs [(h0, .inr (5, [.null, .null, .int 0, .int 0, .int 0]))] sz)) (va_Qv (fun _ : Nat → Nat => True) (fun (u : Nat → Nat) (t : State) => va_P D classes [(h0, .inr (5, [.ref p1, .ref (u 0), .int 0, .int 0, .int 0])), ((u 0), .inl (cs 0, 121, .inl (fun _ => 0)))] t.heap ∧ va_D (va_A [(h0, .inr (5, [.null, .null, .int 0, .int 0, .int 0]))] sz) [(h0, .inr (5, [.ref p1, .ref (u 0), .int 0, .int 0, .int 0])), ((u 0), .inl (cs 0, 121, .inl (fun _ => 0)))]) (va_A [(h0, .inr (5, [.null, .null, .int 0, .int 0, .int 0]))] sz)) 1 121 (va_A [(h0, .inr (5, [.null, .null, .int 0, .int 0, .int 0]))] sz) := by
  refine Met.ofW (cc := cX5_init) (maxL := 2) (ret := none) (by decide) rfl ?_
  intro p e s m args below meth c s₁ B hml hv
  obtain ⟨rfl, hsz, hP, hK, hD0⟩ := hv
  subst hsz
  have hD := hD0.self (sz := s.heap.size)
  have hx := B.exec
  have hb := B.bytes
  have hr := B.returns
  have ht : ∀ w ∈ zW, w.before _ s = true := fun w hw => atoms_spec (ws := z_X5_init) B.pre w (List.mem_cons_of_mem _ hw)
  have hown : s.vm.findClass RX5 = some m.cls := findClass_of_methodNamed B.named
  have hlocks := B.notSynchronized
  have hin : meth.name = "<init>" := (name_of_methodNamed B.named B.method).1
  generalize hAe : va_A [(h0, .inr (5, [.null, .null, .int 0, .int 0, .int 0]))] s.heap.size = A at hD ⊢
  have hA : ∀ q : Nat, s.heap.size ≤ q → A q := fun q h => by rw [← hAe]; exact Or.inr h
  have hS : va_S A s.heap s.heap [] := va_S.rf
  have hl := lv_entry ([.ref h0, .ref p1]) (n := 2) (Nat.le_of_ble_eq_true rfl)
  rw [lg_entry_eq]
  generalize (lg_sl ([.ref h0, .ref p1]) ++ List.replicate (2 - (lg_sl ([.ref h0, .ref p1])).length) Slot.unset).toArray = ls at hl ⊢
  obtain ⟨H, hH⟩ : ∃ H, H = s.heap := ⟨_, rfl⟩
  have hS : va_S A s.heap H [] := by rw [hH]; exact va_S.rf
  rw [← hH]
  have hP : va_P D classes [(h0, .inr (5, [.null, .null, .int 0, .int 0, .int 0]))] H := by rw [hH]; exact hP
  clear hH
  refine lv_aload_n hx hb dX5_init_0 rfl (lv_at hl 0 rfl) ?_
  refine W.objInit hx hb hown (ht _ kw_273) (ht _ kw_104) (ht _ kw_105) rfl (by rw [hml]; exact hl.1) rfl dX5_init_1 (Nat.le_of_ble_eq_true rfl) (Nat.le_of_ble_eq_true rfl) ?_
  refine W.eq (g2 := F0 m 4 ls []) rfl ?_
  refine lv_aload_n hx hb dX5_init_4 rfl (lv_at hl 0 rfl) ?_
  refine lv_bipush (v := (121 : Int32)) hx hb dX5_init_5 (by decide) ?_
  refine zk_newa (atype := .int) (ty := .int) (a0 := (121, .inl (fun _ => 0))) (N' := 121) hx hb (ht _ kw_184) rfl hK 0 rfl (by intro C h; cases h) hP hD hS hA (fun _ => rfl) (by decide) (by decide) (Nat.le_of_ble_eq_true rfl) (Nat.le_of_ble_eq_true rfl) (Nat.le_of_ble_eq_true rfl) dX5_init_7 (fun q_0 H hP hD hS => ?_)
  refine va_putF (D := D) (ci := 5) (v := .ref q_0) (ty := .array .int) (C := RX5) (T := TX5) (N := 5) hx hb ht iX5 tyX5 tyX5_ok nmX5 hown hK hP hD hS 0 rfl rfl 1 (by decide) (ht _ kw_275) (fun _ h9 => h9) rfl hin rfl (by decide +kernel) rfl rfl (Nat.le_of_ble_eq_true rfl) dX5_init_9 (fun H locs hP hD hS => ?_)
  refine lv_aload_n hx hb dX5_init_12 rfl (lv_at hl 0 rfl) ?_
  refine lv_aload_n hx hb dX5_init_13 rfl (lv_at hl 1 rfl) ?_
  refine va_putF (D := D) (ci := 5) (v := .ref p1) (ty := .object "AlreadyJudged$Tape") (C := RX5) (T := TX5) (N := 5) hx hb ht iX5 tyX5 tyX5_ok nmX5 hown hK hP hD hS 0 rfl rfl 0 (by decide) (ht _ kw_274) (fun _ h9 => h9) rfl hin rfl (by decide +kernel) rfl rfl (Nat.le_of_ble_eq_true rfl) dX5_init_14 (fun H locs hP hD hS => ?_)
  have hP : va_P D classes [(h0, .inr (5, [.ref p1, .ref q_0, .int 0, .int 0, .int 0])), (q_0, .inl (cs 0, 121, .inl (fun _ => 0)))] H := hP
  have hD : va_D A [(h0, .inr (5, [.ref p1, .ref q_0, .int 0, .int 0, .int 0])), (q_0, .inl (cs 0, 121, .inl (fun _ => 0)))] := hD
  refine W.widen (k := 1) (n := 121) (Nat.le_of_ble_eq_true rfl) (Nat.le_of_ble_eq_true rfl) ?_
  exact W.vret hx hb hr (fun t ht2 hW => ⟨⟨fun k => [q_0].getD k 0, rfl, trivial, by rw [ht2]; exact hP, hD⟩, hS.F ht2⟩) hS.2.2 dX5_init_17 hlocks
theorem kw_250 : Cond.methodLink RX8 3 objectInit ∈ zW := zwC (i := 176) zc_1 rfl rfl
theorem zh_cX8_init_0 : zck [42, 183, 0, 3, 42, 43, 181, 0, 9, 177] (zdu 0 cX8_init.data.toList) = true := by decide +kernel
theorem dX8_init_0 : decode cX8_init 0 = .ok (.aload_n 0, 1) := zo_42 zh_cX8_init_0 0 rfl
theorem dX8_init_1 : decode cX8_init 1 = .ok (.invokespecial 3, 3) := zo_183 zh_cX8_init_0 1 rfl
theorem dX8_init_4 : decode cX8_init 4 = .ok (.aload_n 0, 1) := zo_42 zh_cX8_init_0 4 rfl
theorem dX8_init_5 : decode cX8_init 5 = .ok (.aload_n 1, 1) := zo_43 zh_cX8_init_0 5 rfl
theorem dX8_init_6 : decode cX8_init 6 = .ok (.putfield 9, 3) := zo_181 zh_cX8_init_0 6 rfl
theorem dX8_init_9 : decode cX8_init 9 = .ok (.return_, 1) := zo_177 zh_cX8_init_0 9 rfl
abbrev z_X8_init : List Cond := .code yX8_init cX8_init 2 none :: zW
abbrev rm_X8_init : Room := { frames := 1, cells := 0, slots := 0, locals := 20 }
set_option maxHeartbeats 4000000 in
set_option maxRecDepth 100000 in
theorem ci_X8_init (l : Launch) (D : va_G) (cs : Nat → ClassId) (h0 : Nat) (p1 : Nat) (sz : Nat) : Met l yX8_init z_X8_init rm_X8_init (va_Pc [.ref h0, .ref p1] (zPre D cs [(h0, .inr (8, [.null, .null, .int 0, .int 0, .int 0]))] sz)) (va_Qv (fun _ : Nat → Nat => True) (fun (u : Nat → Nat) (t : State) => va_P D classes [(h0, .inr (8, [.ref p1, .null, .int 0, .int 0, .int 0]))] t.heap ∧ va_D (va_A [(h0, .inr (8, [.null, .null, .int 0, .int 0, .int 0]))] sz) [(h0, .inr (8, [.ref p1, .null, .int 0, .int 0, .int 0]))]) (va_A [(h0, .inr (8, [.null, .null, .int 0, .int 0, .int 0]))] sz)) 0 0 (va_A [(h0, .inr (8, [.null, .null, .int 0, .int 0, .int 0]))] sz) := by
  refine Met.ofW (cc := cX8_init) (maxL := 2) (ret := none) (by decide) rfl ?_
  intro p e s m args below meth c s₁ B hml hv
  obtain ⟨rfl, hsz, hP, hK, hD0⟩ := hv
  subst hsz
  have hD := hD0.self (sz := s.heap.size)
  have hx := B.exec
  have hb := B.bytes
  have hr := B.returns
  have ht : ∀ w ∈ zW, w.before _ s = true := fun w hw => atoms_spec (ws := z_X8_init) B.pre w (List.mem_cons_of_mem _ hw)
  have hown : s.vm.findClass RX8 = some m.cls := findClass_of_methodNamed B.named
  have hlocks := B.notSynchronized
  have hin : meth.name = "<init>" := (name_of_methodNamed B.named B.method).1
  generalize hAe : va_A [(h0, .inr (8, [.null, .null, .int 0, .int 0, .int 0]))] s.heap.size = A at hD ⊢
  have hA : ∀ q : Nat, s.heap.size ≤ q → A q := fun q h => by rw [← hAe]; exact Or.inr h
  have hS : va_S A s.heap s.heap [] := va_S.rf
  have hl := lv_entry ([.ref h0, .ref p1]) (n := 2) (Nat.le_of_ble_eq_true rfl)
  rw [lg_entry_eq]
  generalize (lg_sl ([.ref h0, .ref p1]) ++ List.replicate (2 - (lg_sl ([.ref h0, .ref p1])).length) Slot.unset).toArray = ls at hl ⊢
  obtain ⟨H, hH⟩ : ∃ H, H = s.heap := ⟨_, rfl⟩
  have hS : va_S A s.heap H [] := by rw [hH]; exact va_S.rf
  rw [← hH]
  have hP : va_P D classes [(h0, .inr (8, [.null, .null, .int 0, .int 0, .int 0]))] H := by rw [hH]; exact hP
  clear hH
  refine lv_aload_n hx hb dX8_init_0 rfl (lv_at hl 0 rfl) ?_
  refine W.objInit hx hb hown (ht _ kw_250) (ht _ kw_104) (ht _ kw_105) rfl (by rw [hml]; exact hl.1) rfl dX8_init_1 (Nat.le_of_ble_eq_true rfl) (Nat.le_of_ble_eq_true rfl) ?_
  refine W.eq (g2 := F0 m 4 ls []) rfl ?_
  refine lv_aload_n hx hb dX8_init_4 rfl (lv_at hl 0 rfl) ?_
  refine lv_aload_n hx hb dX8_init_5 rfl (lv_at hl 1 rfl) ?_
  refine va_putF (D := D) (ci := 8) (v := .ref p1) (ty := .object "AlreadyJudged$Tape") (C := RX8) (T := TX8) (N := 5) hx hb ht iX8 tyX8 tyX8_ok nmX8 hown hK hP hD hS 0 rfl rfl 0 (by decide) (ht _ kw_251) (fun _ h9 => h9) rfl hin rfl (by decide +kernel) rfl rfl (Nat.le_of_ble_eq_true rfl) dX8_init_6 (fun H locs hP hD hS => ?_)
  have hP : va_P D classes [(h0, .inr (8, [.ref p1, .null, .int 0, .int 0, .int 0]))] H := hP
  have hD : va_D A [(h0, .inr (8, [.ref p1, .null, .int 0, .int 0, .int 0]))] := hD
  refine W.widen (k := 0) (n := 0) (Nat.le_of_ble_eq_true rfl) (Nat.le_of_ble_eq_true rfl) ?_
  exact W.vret hx hb hr (fun t ht2 hW => ⟨⟨fun k => [].getD k 0, rfl, trivial, by rw [ht2]; exact hP, hD⟩, hS.F ht2⟩) hS.2.2 dX8_init_9 hlocks
theorem kw_302 : Cond.methodLink RX7 3 objectInit ∈ zW := zwC (i := 228) zc_1 rfl rfl
theorem zh_cX7_init_0 : zck [42, 183, 0, 3, 42, 2, 181, 0, 9, 42, 16, 32, 188, 10, 181, 0, 15, 177] (zdu 0 cX7_init.data.toList) = true := by decide +kernel
theorem dX7_init_0 : decode cX7_init 0 = .ok (.aload_n 0, 1) := zo_42 zh_cX7_init_0 0 rfl
theorem dX7_init_1 : decode cX7_init 1 = .ok (.invokespecial 3, 3) := zo_183 zh_cX7_init_0 1 rfl
theorem dX7_init_4 : decode cX7_init 4 = .ok (.aload_n 0, 1) := zo_42 zh_cX7_init_0 4 rfl
theorem dX7_init_5 : decode cX7_init 5 = .ok (.iconst (-1), 1) := zo_2 zh_cX7_init_0 5 rfl
theorem dX7_init_6 : decode cX7_init 6 = .ok (.putfield 9, 3) := zo_181 zh_cX7_init_0 6 rfl
theorem dX7_init_9 : decode cX7_init 9 = .ok (.aload_n 0, 1) := zo_42 zh_cX7_init_0 9 rfl
theorem dX7_init_10 : decode cX7_init 10 = .ok (.bipush 32, 2) := zo_p16 zh_cX7_init_0 10 32 rfl rfl
theorem dX7_init_12 : decode cX7_init 12 = .ok (.newarray .int, 2) := zo_188_int zh_cX7_init_0 12 rfl
theorem dX7_init_14 : decode cX7_init 14 = .ok (.putfield 15, 3) := zo_181 zh_cX7_init_0 14 rfl
theorem dX7_init_17 : decode cX7_init 17 = .ok (.return_, 1) := zo_177 zh_cX7_init_0 17 rfl
abbrev z_X7_init : List Cond := .code yX7_init cX7_init 1 none :: zW
abbrev rm_X7_init : Room := { frames := 1, cells := 1, slots := 32, locals := 20 }
set_option maxHeartbeats 4000000 in
set_option maxRecDepth 100000 in
theorem ci_X7_init (l : Launch) (D : va_G) (cs : Nat → ClassId) (h0 : Nat)  (sz : Nat) : Met l yX7_init z_X7_init rm_X7_init (va_Pc [.ref h0] (zPre D cs [(h0, .inr (7, [.int 0, .int 0, .int 0, .int 0, .int 0, .int 0, .int 0, .null, .int 0, .int 0, .int 0, .int 0, .int 0, .int 0, .int 0]))] sz)) (va_Qv (fun _ : Nat → Nat => True) (fun (u : Nat → Nat) (t : State) => va_P D classes [(h0, .inr (7, [.int 0, .int 0, .int 0, .int 0, .int 0, .int 0, .int (-1 : Int32), .ref (u 0), .int 0, .int 0, .int 0, .int 0, .int 0, .int 0, .int 0])), ((u 0), .inl (cs 0, 32, .inl (fun _ => 0)))] t.heap ∧ va_D (va_A [(h0, .inr (7, [.int 0, .int 0, .int 0, .int 0, .int 0, .int 0, .int 0, .null, .int 0, .int 0, .int 0, .int 0, .int 0, .int 0, .int 0]))] sz) [(h0, .inr (7, [.int 0, .int 0, .int 0, .int 0, .int 0, .int 0, .int (-1 : Int32), .ref (u 0), .int 0, .int 0, .int 0, .int 0, .int 0, .int 0, .int 0])), ((u 0), .inl (cs 0, 32, .inl (fun _ => 0)))]) (va_A [(h0, .inr (7, [.int 0, .int 0, .int 0, .int 0, .int 0, .int 0, .int 0, .null, .int 0, .int 0, .int 0, .int 0, .int 0, .int 0, .int 0]))] sz)) 1 32 (va_A [(h0, .inr (7, [.int 0, .int 0, .int 0, .int 0, .int 0, .int 0, .int 0, .null, .int 0, .int 0, .int 0, .int 0, .int 0, .int 0, .int 0]))] sz) := by
  refine Met.ofW (cc := cX7_init) (maxL := 1) (ret := none) (by decide) rfl ?_
  intro p e s m args below meth c s₁ B hml hv
  obtain ⟨rfl, hsz, hP, hK, hD0⟩ := hv
  subst hsz
  have hD := hD0.self (sz := s.heap.size)
  have hx := B.exec
  have hb := B.bytes
  have hr := B.returns
  have ht : ∀ w ∈ zW, w.before _ s = true := fun w hw => atoms_spec (ws := z_X7_init) B.pre w (List.mem_cons_of_mem _ hw)
  have hown : s.vm.findClass RX7 = some m.cls := findClass_of_methodNamed B.named
  have hlocks := B.notSynchronized
  have hin : meth.name = "<init>" := (name_of_methodNamed B.named B.method).1
  generalize hAe : va_A [(h0, .inr (7, [.int 0, .int 0, .int 0, .int 0, .int 0, .int 0, .int 0, .null, .int 0, .int 0, .int 0, .int 0, .int 0, .int 0, .int 0]))] s.heap.size = A at hD ⊢
  have hA : ∀ q : Nat, s.heap.size ≤ q → A q := fun q h => by rw [← hAe]; exact Or.inr h
  have hS : va_S A s.heap s.heap [] := va_S.rf
  have hl := lv_entry ([.ref h0]) (n := 1) (Nat.le_of_ble_eq_true rfl)
  rw [lg_entry_eq]
  generalize (lg_sl ([.ref h0]) ++ List.replicate (1 - (lg_sl ([.ref h0])).length) Slot.unset).toArray = ls at hl ⊢
  obtain ⟨H, hH⟩ : ∃ H, H = s.heap := ⟨_, rfl⟩
  have hS : va_S A s.heap H [] := by rw [hH]; exact va_S.rf
  rw [← hH]
  have hP : va_P D classes [(h0, .inr (7, [.int 0, .int 0, .int 0, .int 0, .int 0, .int 0, .int 0, .null, .int 0, .int 0, .int 0, .int 0, .int 0, .int 0, .int 0]))] H := by rw [hH]; exact hP
  clear hH
  refine lv_aload_n hx hb dX7_init_0 rfl (lv_at hl 0 rfl) ?_
  refine W.objInit hx hb hown (ht _ kw_302) (ht _ kw_104) (ht _ kw_105) rfl (by rw [hml]; exact hl.1) rfl dX7_init_1 (Nat.le_of_ble_eq_true rfl) (Nat.le_of_ble_eq_true rfl) ?_
  refine W.eq (g2 := F0 m 4 ls []) rfl ?_
  refine lv_aload_n hx hb dX7_init_4 rfl (lv_at hl 0 rfl) ?_
  refine lv_iconst (v := (-1 : Int32)) hx hb dX7_init_5 (by decide) ?_
  refine va_put (D := D) (ci := 7) (v := .int (-1 : Int32)) (ty := .int) (C := RX7) (T := TX7) (N := 15) hx hb ht iX7 tyX7 tyX7_ok nmX7 hown hK hP hD hS 0 rfl rfl 6 (by decide) (ht _ kw_330) (fun _ h9 => h9) rfl (by decide +kernel) rfl rfl (Nat.le_of_ble_eq_true rfl) dX7_init_6 (fun H locs hP hD hS => ?_)
  refine lv_aload_n hx hb dX7_init_9 rfl (lv_at hl 0 rfl) ?_
  refine lv_bipush (v := (32 : Int32)) hx hb dX7_init_10 (by decide) ?_
  refine zk_newa (atype := .int) (ty := .int) (a0 := (32, .inl (fun _ => 0))) (N' := 32) hx hb (ht _ kw_184) rfl hK 0 rfl (by intro C h; cases h) hP hD hS hA (fun _ => rfl) (by decide) (by decide) (Nat.le_of_ble_eq_true rfl) (Nat.le_of_ble_eq_true rfl) (Nat.le_of_ble_eq_true rfl) dX7_init_12 (fun q_0 H hP hD hS => ?_)
  refine va_putF (D := D) (ci := 7) (v := .ref q_0) (ty := .array .int) (C := RX7) (T := TX7) (N := 15) hx hb ht iX7 tyX7 tyX7_ok nmX7 hown hK hP hD hS 0 rfl rfl 7 (by decide) (ht _ kw_333) (fun _ h9 => h9) rfl hin rfl (by decide +kernel) rfl rfl (Nat.le_of_ble_eq_true rfl) dX7_init_14 (fun H locs hP hD hS => ?_)
  have hP : va_P D classes [(h0, .inr (7, [.int 0, .int 0, .int 0, .int 0, .int 0, .int 0, .int (-1 : Int32), .ref q_0, .int 0, .int 0, .int 0, .int 0, .int 0, .int 0, .int 0])), (q_0, .inl (cs 0, 32, .inl (fun _ => 0)))] H := hP
  have hD : va_D A [(h0, .inr (7, [.int 0, .int 0, .int 0, .int 0, .int 0, .int 0, .int (-1 : Int32), .ref q_0, .int 0, .int 0, .int 0, .int 0, .int 0, .int 0, .int 0])), (q_0, .inl (cs 0, 32, .inl (fun _ => 0)))] := hD
  refine W.widen (k := 1) (n := 32) (Nat.le_of_ble_eq_true rfl) (Nat.le_of_ble_eq_true rfl) ?_
  exact W.vret hx hb hr (fun t ht2 hW => ⟨⟨fun k => [q_0].getD k 0, rfl, trivial, by rw [ht2]; exact hP, hD⟩, hS.F ht2⟩) hS.2.2 dX7_init_17 hlocks
theorem kw_296 : Cond.methodLink RX10 3 objectInit ∈ zW := zwC (i := 222) zc_1 rfl rfl
theorem kw_297 : Cond.classLink RX10 27 RX7 ∈ zW := zwC (i := 223) zc_1 rfl rfl
theorem kw_298 : Cond.instantiable RX7 15 ∈ zW := zwC (i := 224) zc_1 rfl rfl
theorem kw_300 : Cond.instanceMethod yX7_init ∈ zW := zwC (i := 226) zc_1 rfl rfl
theorem kw_301 : Cond.code yX7_init cX7_init 1 none ∈ zW := zwC (i := 227) zc_1 rfl rfl
theorem zh_cX10_init_0 : zck [42, 183, 0, 3, 42, 8, 188, 10, 181, 0, 9, 42, 8, 188, 10, 181, 0, 15, 42, 8, 188, 10] (zdu 0 cX10_init.data.toList) = true := by decide +kernel
theorem dX10_init_0 : decode cX10_init 0 = .ok (.aload_n 0, 1) := zo_42 zh_cX10_init_0 0 rfl
theorem dX10_init_1 : decode cX10_init 1 = .ok (.invokespecial 3, 3) := zo_183 zh_cX10_init_0 1 rfl
theorem dX10_init_4 : decode cX10_init 4 = .ok (.aload_n 0, 1) := zo_42 zh_cX10_init_0 4 rfl
theorem dX10_init_5 : decode cX10_init 5 = .ok (.iconst 5, 1) := zo_8 zh_cX10_init_0 5 rfl
theorem dX10_init_6 : decode cX10_init 6 = .ok (.newarray .int, 2) := zo_188_int zh_cX10_init_0 6 rfl
theorem dX10_init_8 : decode cX10_init 8 = .ok (.putfield 9, 3) := zo_181 zh_cX10_init_0 8 rfl
theorem dX10_init_11 : decode cX10_init 11 = .ok (.aload_n 0, 1) := zo_42 zh_cX10_init_0 11 rfl
theorem dX10_init_12 : decode cX10_init 12 = .ok (.iconst 5, 1) := zo_8 zh_cX10_init_0 12 rfl
theorem dX10_init_13 : decode cX10_init 13 = .ok (.newarray .int, 2) := zo_188_int zh_cX10_init_0 13 rfl
theorem dX10_init_15 : decode cX10_init 15 = .ok (.putfield 15, 3) := zo_181 zh_cX10_init_0 15 rfl
theorem dX10_init_18 : decode cX10_init 18 = .ok (.aload_n 0, 1) := zo_42 zh_cX10_init_0 18 rfl
theorem dX10_init_19 : decode cX10_init 19 = .ok (.iconst 5, 1) := zo_8 zh_cX10_init_0 19 rfl
theorem zh_cX10_init_1 : zck [188, 10, 181, 0, 18, 42, 16, 125, 188, 10, 181, 0, 21, 42, 8, 188, 10, 181, 0, 24, 42, 187] (zdu 20 cX10_init.data.toList) = true := by decide +kernel
theorem dX10_init_20 : decode cX10_init 20 = .ok (.newarray .int, 2) := zo_188_int zh_cX10_init_1 0 rfl
theorem dX10_init_22 : decode cX10_init 22 = .ok (.putfield 18, 3) := zo_181 zh_cX10_init_1 2 rfl
theorem dX10_init_25 : decode cX10_init 25 = .ok (.aload_n 0, 1) := zo_42 zh_cX10_init_1 5 rfl
theorem dX10_init_26 : decode cX10_init 26 = .ok (.bipush 125, 2) := zo_p16 zh_cX10_init_1 6 125 rfl rfl
theorem dX10_init_28 : decode cX10_init 28 = .ok (.newarray .int, 2) := zo_188_int zh_cX10_init_1 8 rfl
theorem dX10_init_30 : decode cX10_init 30 = .ok (.putfield 21, 3) := zo_181 zh_cX10_init_1 10 rfl
theorem dX10_init_33 : decode cX10_init 33 = .ok (.aload_n 0, 1) := zo_42 zh_cX10_init_1 13 rfl
theorem dX10_init_34 : decode cX10_init 34 = .ok (.iconst 5, 1) := zo_8 zh_cX10_init_1 14 rfl
theorem dX10_init_35 : decode cX10_init 35 = .ok (.newarray .int, 2) := zo_188_int zh_cX10_init_1 15 rfl
theorem dX10_init_37 : decode cX10_init 37 = .ok (.putfield 24, 3) := zo_181 zh_cX10_init_1 17 rfl
theorem zh_cX10_init_2 : zck [42, 187, 0, 27, 89, 183, 0, 29, 181, 0, 30, 177] (zdu 40 cX10_init.data.toList) = true := by decide +kernel
theorem dX10_init_40 : decode cX10_init 40 = .ok (.aload_n 0, 1) := zo_42 zh_cX10_init_2 0 rfl
theorem zo_187 {c : ByteArray} {s : Nat} {K : List Nat} (h : zck K (zdu s c.data.toList) = true) (k : Nat) {v : Nat} (hk : zt3 K k 187 v = true) : decode c (s + k) = .ok (.new v, 3) := zde ((zbd (zu1 (zh3 h hk).1)).trans ((zbd (f := fun x => pure (Instr.new x)) (zh3 h hk).2).trans rfl))
theorem dX10_init_41 : decode cX10_init 41 = .ok (.new 27, 3) := zo_187 zh_cX10_init_2 1 rfl
theorem dX10_init_44 : decode cX10_init 44 = .ok (.dup, 1) := zo_89 zh_cX10_init_2 4 rfl
theorem dX10_init_45 : decode cX10_init 45 = .ok (.invokespecial 29, 3) := zo_183 zh_cX10_init_2 5 rfl
theorem dX10_init_48 : decode cX10_init 48 = .ok (.putfield 30, 3) := zo_181 zh_cX10_init_2 8 rfl
theorem dX10_init_51 : decode cX10_init 51 = .ok (.return_, 1) := zo_177 zh_cX10_init_2 11 rfl
abbrev z_X10_init : List Cond := .code yX10_init cX10_init 1 none :: zW
abbrev rm_X10_init : Room := { frames := 2, cells := 7, slots := 192, locals := 40 }
set_option maxHeartbeats 4000000 in
set_option maxRecDepth 100000 in
theorem ci_X10_init (l : Launch) (D : va_G) (cs : Nat → ClassId) (h0 : Nat)  (sz : Nat) : Met l yX10_init z_X10_init rm_X10_init (va_Pc [.ref h0] (zPreO D cs [(h0, .inr (10, [.null, .null, .int 0, .null, .null, .null, .null, .int 0, .int 0]))] sz)) (va_Qv (fun _ : Nat → Nat => True) (fun (u : Nat → Nat) (t : State) => va_P D classes [(h0, .inr (10, [.ref (u 0), .ref (u 1), .int 0, .ref (u 2), .ref (u 3), .ref (u 4), .ref (u 5), .int 0, .int 0])), ((u 0), .inl (cs 0, 5, .inl (fun _ => 0))), ((u 1), .inl (cs 0, 5, .inl (fun _ => 0))), ((u 2), .inl (cs 0, 5, .inl (fun _ => 0))), ((u 3), .inl (cs 0, 125, .inl (fun _ => 0))), ((u 4), .inl (cs 0, 5, .inl (fun _ => 0))), ((u 5), .inr (7, [.int 0, .int 0, .int 0, .int 0, .int 0, .int 0, .int (-1 : Int32), .ref (u 6), .int 0, .int 0, .int 0, .int 0, .int 0, .int 0, .int 0])), ((u 6), .inl (cs 0, 32, .inl (fun _ => 0)))] t.heap ∧ va_D (va_A [(h0, .inr (10, [.null, .null, .int 0, .null, .null, .null, .null, .int 0, .int 0]))] sz) [(h0, .inr (10, [.ref (u 0), .ref (u 1), .int 0, .ref (u 2), .ref (u 3), .ref (u 4), .ref (u 5), .int 0, .int 0])), ((u 0), .inl (cs 0, 5, .inl (fun _ => 0))), ((u 1), .inl (cs 0, 5, .inl (fun _ => 0))), ((u 2), .inl (cs 0, 5, .inl (fun _ => 0))), ((u 3), .inl (cs 0, 125, .inl (fun _ => 0))), ((u 4), .inl (cs 0, 5, .inl (fun _ => 0))), ((u 5), .inr (7, [.int 0, .int 0, .int 0, .int 0, .int 0, .int 0, .int (-1 : Int32), .ref (u 6), .int 0, .int 0, .int 0, .int 0, .int 0, .int 0, .int 0])), ((u 6), .inl (cs 0, 32, .inl (fun _ => 0)))]) (va_A [(h0, .inr (10, [.null, .null, .int 0, .null, .null, .null, .null, .int 0, .int 0]))] sz)) 7 192 (va_A [(h0, .inr (10, [.null, .null, .int 0, .null, .null, .null, .null, .int 0, .int 0]))] sz) := by
  refine Met.ofW (cc := cX10_init) (maxL := 1) (ret := none) (by decide) rfl ?_
  intro p e s m args below meth c s₁ B hml hv
  obtain ⟨rfl, ⟨hsz, hP, hK, hD0⟩, hO⟩ := hv
  subst hsz
  have hD := hD0.self (sz := s.heap.size)
  have hx := B.exec
  have hb := B.bytes
  have hr := B.returns
  have ht : ∀ w ∈ zW, w.before _ s = true := fun w hw => atoms_spec (ws := z_X10_init) B.pre w (List.mem_cons_of_mem _ hw)
  have hown : s.vm.findClass RX10 = some m.cls := findClass_of_methodNamed B.named
  have hlocks := B.notSynchronized
  have hin : meth.name = "<init>" := (name_of_methodNamed B.named B.method).1
  generalize hAe : va_A [(h0, .inr (10, [.null, .null, .int 0, .null, .null, .null, .null, .int 0, .int 0]))] s.heap.size = A at hD ⊢
  have hA : ∀ q : Nat, s.heap.size ≤ q → A q := fun q h => by rw [← hAe]; exact Or.inr h
  have hS : va_S A s.heap s.heap [] := va_S.rf
  have hl := lv_entry ([.ref h0]) (n := 1) (Nat.le_of_ble_eq_true rfl)
  rw [lg_entry_eq]
  generalize (lg_sl ([.ref h0]) ++ List.replicate (1 - (lg_sl ([.ref h0])).length) Slot.unset).toArray = ls at hl ⊢
  obtain ⟨H, hH⟩ : ∃ H, H = s.heap := ⟨_, rfl⟩
  have hS : va_S A s.heap H [] := by rw [hH]; exact va_S.rf
  rw [← hH]
  have hP : va_P D classes [(h0, .inr (10, [.null, .null, .int 0, .null, .null, .null, .null, .int 0, .int 0]))] H := by rw [hH]; exact hP
  clear hH
  refine lv_aload_n hx hb dX10_init_0 rfl (lv_at hl 0 rfl) ?_
  refine W.objInit hx hb hown (ht _ kw_296) (ht _ kw_104) (ht _ kw_105) rfl (by rw [hml]; exact hl.1) rfl dX10_init_1 (Nat.le_of_ble_eq_true rfl) (Nat.le_of_ble_eq_true rfl) ?_
  refine W.eq (g2 := F0 m 4 ls []) rfl ?_
  refine lv_aload_n hx hb dX10_init_4 rfl (lv_at hl 0 rfl) ?_
  refine lv_iconst (v := (5 : Int32)) hx hb dX10_init_5 (by decide) ?_
  refine zk_newa (atype := .int) (ty := .int) (a0 := (5, .inl (fun _ => 0))) (N' := 5) hx hb (ht _ kw_184) rfl hK 0 rfl (by intro C h; cases h) hP hD hS hA (fun _ => rfl) (by decide) (by decide) (Nat.le_of_ble_eq_true rfl) (Nat.le_of_ble_eq_true rfl) (Nat.le_of_ble_eq_true rfl) dX10_init_6 (fun q_0 H hP hD hS => ?_)
  refine va_putF (D := D) (ci := 10) (v := .ref q_0) (ty := .array .int) (C := RX10) (T := TX10) (N := 9) hx hb ht iX10 tyX10 tyX10_ok nmX10 hown hK hP hD hS 0 rfl rfl 0 (by decide) (ht _ kw_387) (fun _ h9 => h9) rfl hin rfl (by decide +kernel) rfl rfl (Nat.le_of_ble_eq_true rfl) dX10_init_8 (fun H locs hP hD hS => ?_)
  refine lv_aload_n hx hb dX10_init_11 rfl (lv_at hl 0 rfl) ?_
  refine lv_iconst (v := (5 : Int32)) hx hb dX10_init_12 (by decide) ?_
  refine zk_newa (atype := .int) (ty := .int) (a0 := (5, .inl (fun _ => 0))) (N' := 5) hx hb (ht _ kw_184) rfl hK 0 rfl (by intro C h; cases h) hP hD hS hA (fun _ => rfl) (by decide) (by decide) (Nat.le_of_ble_eq_true rfl) (Nat.le_of_ble_eq_true rfl) (Nat.le_of_ble_eq_true rfl) dX10_init_13 (fun q_1 H hP hD hS => ?_)
  refine va_putF (D := D) (ci := 10) (v := .ref q_1) (ty := .array .int) (C := RX10) (T := TX10) (N := 9) hx hb ht iX10 tyX10 tyX10_ok nmX10 hown hK hP hD hS 0 rfl rfl 1 (by decide) (ht _ kw_388) (fun _ h9 => h9) rfl hin rfl (by decide +kernel) rfl rfl (Nat.le_of_ble_eq_true rfl) dX10_init_15 (fun H locs hP hD hS => ?_)
  refine lv_aload_n hx hb dX10_init_18 rfl (lv_at hl 0 rfl) ?_
  refine lv_iconst (v := (5 : Int32)) hx hb dX10_init_19 (by decide) ?_
  refine zk_newa (atype := .int) (ty := .int) (a0 := (5, .inl (fun _ => 0))) (N' := 5) hx hb (ht _ kw_184) rfl hK 0 rfl (by intro C h; cases h) hP hD hS hA (fun _ => rfl) (by decide) (by decide) (Nat.le_of_ble_eq_true rfl) (Nat.le_of_ble_eq_true rfl) (Nat.le_of_ble_eq_true rfl) dX10_init_20 (fun q_2 H hP hD hS => ?_)
  refine va_putF (D := D) (ci := 10) (v := .ref q_2) (ty := .array .int) (C := RX10) (T := TX10) (N := 9) hx hb ht iX10 tyX10 tyX10_ok nmX10 hown hK hP hD hS 0 rfl rfl 3 (by decide) (ht _ kw_391) (fun _ h9 => h9) rfl hin rfl (by decide +kernel) rfl rfl (Nat.le_of_ble_eq_true rfl) dX10_init_22 (fun H locs hP hD hS => ?_)
  refine lv_aload_n hx hb dX10_init_25 rfl (lv_at hl 0 rfl) ?_
  refine lv_bipush (v := (125 : Int32)) hx hb dX10_init_26 (by decide) ?_
  refine zk_newa (atype := .int) (ty := .int) (a0 := (125, .inl (fun _ => 0))) (N' := 125) hx hb (ht _ kw_184) rfl hK 0 rfl (by intro C h; cases h) hP hD hS hA (fun _ => rfl) (by decide) (by decide) (Nat.le_of_ble_eq_true rfl) (Nat.le_of_ble_eq_true rfl) (Nat.le_of_ble_eq_true rfl) dX10_init_28 (fun q_3 H hP hD hS => ?_)
  refine va_putF (D := D) (ci := 10) (v := .ref q_3) (ty := .array .int) (C := RX10) (T := TX10) (N := 9) hx hb ht iX10 tyX10 tyX10_ok nmX10 hown hK hP hD hS 0 rfl rfl 4 (by decide) (ht _ kw_392) (fun _ h9 => h9) rfl hin rfl (by decide +kernel) rfl rfl (Nat.le_of_ble_eq_true rfl) dX10_init_30 (fun H locs hP hD hS => ?_)
  have hP : va_P D classes [(h0, .inr (10, [.ref q_0, .ref q_1, .int 0, .ref q_2, .ref q_3, .null, .null, .int 0, .int 0])), (q_0, .inl (cs 0, 5, .inl (fun _ => 0))), (q_1, .inl (cs 0, 5, .inl (fun _ => 0))), (q_2, .inl (cs 0, 5, .inl (fun _ => 0))), (q_3, .inl (cs 0, 125, .inl (fun _ => 0)))] H := hP
  have hD : va_D A [(h0, .inr (10, [.ref q_0, .ref q_1, .int 0, .ref q_2, .ref q_3, .null, .null, .int 0, .int 0])), (q_0, .inl (cs 0, 5, .inl (fun _ => 0))), (q_1, .inl (cs 0, 5, .inl (fun _ => 0))), (q_2, .inl (cs 0, 5, .inl (fun _ => 0))), (q_3, .inl (cs 0, 125, .inl (fun _ => 0)))] := hD
  refine lv_aload_n hx hb dX10_init_33 rfl (lv_at hl 0 rfl) ?_
  refine lv_iconst (v := (5 : Int32)) hx hb dX10_init_34 (by decide) ?_
  refine zk_newa (atype := .int) (ty := .int) (a0 := (5, .inl (fun _ => 0))) (N' := 5) hx hb (ht _ kw_184) rfl hK 0 rfl (by intro C h; cases h) hP hD hS hA (fun _ => rfl) (by decide) (by decide) (Nat.le_of_ble_eq_true rfl) (Nat.le_of_ble_eq_true rfl) (Nat.le_of_ble_eq_true rfl) dX10_init_35 (fun q_4 H hP hD hS => ?_)
  refine va_putF (D := D) (ci := 10) (v := .ref q_4) (ty := .array .int) (C := RX10) (T := TX10) (N := 9) hx hb ht iX10 tyX10 tyX10_ok nmX10 hown hK hP hD hS 0 rfl rfl 5 (by decide) (ht _ kw_393) (fun _ h9 => h9) rfl hin rfl (by decide +kernel) rfl rfl (Nat.le_of_ble_eq_true rfl) dX10_init_37 (fun H locs hP hD hS => ?_)
  refine lv_aload_n hx hb dX10_init_40 rfl (lv_at hl 0 rfl) ?_
  refine va_new (ci := 7) (fs := [.int 0, .int 0, .int 0, .int 0, .int 0, .int 0, .int 0, .null, .int 0, .int 0, .int 0, .int 0, .int 0, .int 0, .int 0]) (C := RX7) (T := TX7) (N := 15) hx hb ht iX7 tyX7 tyX7_ok hown (ht _ kw_297) (ht _ kw_298) (ht _ kw_82) hK hP hD hS hA rfl (zkDX7) (Nat.le_of_ble_eq_true rfl) (Nat.le_of_ble_eq_true rfl) dX10_init_41 (fun q_5 H hP hD hS => ?_)
  refine lv_dup hx hb dX10_init_44 rfl ?_
  have hP : va_P D classes [(h0, .inr (10, [.ref q_0, .ref q_1, .int 0, .ref q_2, .ref q_3, .ref q_4, .null, .int 0, .int 0])), (q_0, .inl (cs 0, 5, .inl (fun _ => 0))), (q_1, .inl (cs 0, 5, .inl (fun _ => 0))), (q_2, .inl (cs 0, 5, .inl (fun _ => 0))), (q_3, .inl (cs 0, 125, .inl (fun _ => 0))), (q_4, .inl (cs 0, 5, .inl (fun _ => 0))), (q_5, .inr (7, [.int 0, .int 0, .int 0, .int 0, .int 0, .int 0, .int 0, .null, .int 0, .int 0, .int 0, .int 0, .int 0, .int 0, .int 0]))] H := hP
  have hD : va_D A [(h0, .inr (10, [.ref q_0, .ref q_1, .int 0, .ref q_2, .ref q_3, .ref q_4, .null, .int 0, .int 0])), (q_0, .inl (cs 0, 5, .inl (fun _ => 0))), (q_1, .inl (cs 0, 5, .inl (fun _ => 0))), (q_2, .inl (cs 0, 5, .inl (fun _ => 0))), (q_3, .inl (cs 0, 125, .inl (fun _ => 0))), (q_4, .inl (cs 0, 5, .inl (fun _ => 0))), (q_5, .inr (7, [.int 0, .int 0, .int 0, .int 0, .int 0, .int 0, .int 0, .null, .int 0, .int 0, .int 0, .int 0, .int 0, .int 0, .int 0]))] := hD
  refine zk_jv (post := fun _ => True) (w1 := fun (u : Nat → Nat) => [(q_5, .inr (7, [.int 0, .int 0, .int 0, .int 0, .int 0, .int 0, .int (-1 : Int32), .ref (u 0), .int 0, .int 0, .int 0, .int 0, .int 0, .int 0, .int 0])), ((u 0), .inl (cs 0, 32, .inl (fun _ => 0)))]) (As := []) (rest := [.ref q_5, .ref h0]) (ci_X7_init l D cs q_5  H.size) ⟨hx, hb, hml, hown, ht⟩ (⟨va_cnB 0 ht (zGN kw_301) rfl rfl rfl (zOn (q := (RX10, 29, yX7_init)) hO 3 rfl) (ht _ kw_82) (by decide +kernel) ⟨Nat.le_of_ble_eq_true rfl, Nat.le_of_ble_eq_true rfl⟩, rfl, ht _ kw_300⟩) hP hD hS hK hA [6] [0, 1, 2, 3, 4, 5] rfl rfl rfl rfl (by decide) rfl hl.1 (Nat.le_of_ble_eq_true rfl) dX10_init_45 ⟨Nat.le_of_ble_eq_true rfl, Nat.le_of_ble_eq_true rfl⟩ (fun qq_45 H locs hq hP hD hS => ?_)
  have hP : va_P D classes [(h0, .inr (10, [.ref q_0, .ref q_1, .int 0, .ref q_2, .ref q_3, .ref q_4, .null, .int 0, .int 0])), (q_0, .inl (cs 0, 5, .inl (fun _ => 0))), (q_1, .inl (cs 0, 5, .inl (fun _ => 0))), (q_2, .inl (cs 0, 5, .inl (fun _ => 0))), (q_3, .inl (cs 0, 125, .inl (fun _ => 0))), (q_4, .inl (cs 0, 5, .inl (fun _ => 0))), (q_5, .inr (7, [.int 0, .int 0, .int 0, .int 0, .int 0, .int 0, .int (-1 : Int32), .ref (qq_45 0), .int 0, .int 0, .int 0, .int 0, .int 0, .int 0, .int 0])), ((qq_45 0), .inl (cs 0, 32, .inl (fun _ => 0)))] H := hP
  have hD : va_D A [(h0, .inr (10, [.ref q_0, .ref q_1, .int 0, .ref q_2, .ref q_3, .ref q_4, .null, .int 0, .int 0])), (q_0, .inl (cs 0, 5, .inl (fun _ => 0))), (q_1, .inl (cs 0, 5, .inl (fun _ => 0))), (q_2, .inl (cs 0, 5, .inl (fun _ => 0))), (q_3, .inl (cs 0, 125, .inl (fun _ => 0))), (q_4, .inl (cs 0, 5, .inl (fun _ => 0))), (q_5, .inr (7, [.int 0, .int 0, .int 0, .int 0, .int 0, .int 0, .int (-1 : Int32), .ref (qq_45 0), .int 0, .int 0, .int 0, .int 0, .int 0, .int 0, .int 0])), ((qq_45 0), .inl (cs 0, 32, .inl (fun _ => 0)))] := hD
  refine va_putF (D := D) (ci := 10) (v := .ref q_5) (ty := .object "AlreadyJudged$Suit") (C := RX10) (T := TX10) (N := 9) hx hb ht iX10 tyX10 tyX10_ok nmX10 hown hK hP hD hS 0 rfl rfl 6 (by decide) (ht _ kw_394) (fun _ h9 => h9) rfl hin rfl (by decide +kernel) rfl rfl (Nat.le_of_ble_eq_true rfl) dX10_init_48 (fun H locs hP hD hS => ?_)
  have hP : va_P D classes [(h0, .inr (10, [.ref q_0, .ref q_1, .int 0, .ref q_2, .ref q_3, .ref q_4, .ref q_5, .int 0, .int 0])), (q_0, .inl (cs 0, 5, .inl (fun _ => 0))), (q_1, .inl (cs 0, 5, .inl (fun _ => 0))), (q_2, .inl (cs 0, 5, .inl (fun _ => 0))), (q_3, .inl (cs 0, 125, .inl (fun _ => 0))), (q_4, .inl (cs 0, 5, .inl (fun _ => 0))), (q_5, .inr (7, [.int 0, .int 0, .int 0, .int 0, .int 0, .int 0, .int (-1 : Int32), .ref (qq_45 0), .int 0, .int 0, .int 0, .int 0, .int 0, .int 0, .int 0])), ((qq_45 0), .inl (cs 0, 32, .inl (fun _ => 0)))] H := hP
  have hD : va_D A [(h0, .inr (10, [.ref q_0, .ref q_1, .int 0, .ref q_2, .ref q_3, .ref q_4, .ref q_5, .int 0, .int 0])), (q_0, .inl (cs 0, 5, .inl (fun _ => 0))), (q_1, .inl (cs 0, 5, .inl (fun _ => 0))), (q_2, .inl (cs 0, 5, .inl (fun _ => 0))), (q_3, .inl (cs 0, 125, .inl (fun _ => 0))), (q_4, .inl (cs 0, 5, .inl (fun _ => 0))), (q_5, .inr (7, [.int 0, .int 0, .int 0, .int 0, .int 0, .int 0, .int (-1 : Int32), .ref (qq_45 0), .int 0, .int 0, .int 0, .int 0, .int 0, .int 0, .int 0])), ((qq_45 0), .inl (cs 0, 32, .inl (fun _ => 0)))] := hD
  refine W.widen (k := 7) (n := 192) (Nat.le_of_ble_eq_true rfl) (Nat.le_of_ble_eq_true rfl) ?_
  exact W.vret hx hb hr (fun t ht2 hW => ⟨⟨fun k => [q_0, q_1, q_2, q_3, q_4, q_5, (qq_45 0)].getD k 0, rfl, trivial, by rw [ht2]; exact hP, hD⟩, hS.F ht2⟩) hS.2.2 dX10_init_51 hlocks
theorem kw_423 : Cond.methodLink RX1 3 objectInit ∈ zW := zwC (i := 109) zc_2 rfl rfl
theorem zh_cX1_init_0 : zck [42, 183, 0, 3, 42, 16, 40, 188, 10, 181, 0, 9, 42, 16, 40, 188, 10, 181, 0, 15, 42, 16] (zdu 0 cX1_init.data.toList) = true := by decide +kernel
theorem dX1_init_0 : decode cX1_init 0 = .ok (.aload_n 0, 1) := zo_42 zh_cX1_init_0 0 rfl
theorem dX1_init_1 : decode cX1_init 1 = .ok (.invokespecial 3, 3) := zo_183 zh_cX1_init_0 1 rfl
theorem dX1_init_4 : decode cX1_init 4 = .ok (.aload_n 0, 1) := zo_42 zh_cX1_init_0 4 rfl
theorem dX1_init_5 : decode cX1_init 5 = .ok (.bipush 40, 2) := zo_p16 zh_cX1_init_0 5 40 rfl rfl
theorem dX1_init_7 : decode cX1_init 7 = .ok (.newarray .int, 2) := zo_188_int zh_cX1_init_0 7 rfl
theorem dX1_init_9 : decode cX1_init 9 = .ok (.putfield 9, 3) := zo_181 zh_cX1_init_0 9 rfl
theorem dX1_init_12 : decode cX1_init 12 = .ok (.aload_n 0, 1) := zo_42 zh_cX1_init_0 12 rfl
theorem dX1_init_13 : decode cX1_init 13 = .ok (.bipush 40, 2) := zo_p16 zh_cX1_init_0 13 40 rfl rfl
theorem dX1_init_15 : decode cX1_init 15 = .ok (.newarray .int, 2) := zo_188_int zh_cX1_init_0 15 rfl
theorem dX1_init_17 : decode cX1_init 17 = .ok (.putfield 15, 3) := zo_181 zh_cX1_init_0 17 rfl
theorem zh_cX1_init_1 : zck [42, 16, 40, 188, 10, 181, 0, 18, 42, 16, 40, 188, 10, 181, 0, 21, 42, 43, 181, 0, 24, 177] (zdu 20 cX1_init.data.toList) = true := by decide +kernel
theorem dX1_init_20 : decode cX1_init 20 = .ok (.aload_n 0, 1) := zo_42 zh_cX1_init_1 0 rfl
theorem dX1_init_21 : decode cX1_init 21 = .ok (.bipush 40, 2) := zo_p16 zh_cX1_init_1 1 40 rfl rfl
theorem dX1_init_23 : decode cX1_init 23 = .ok (.newarray .int, 2) := zo_188_int zh_cX1_init_1 3 rfl
theorem dX1_init_25 : decode cX1_init 25 = .ok (.putfield 18, 3) := zo_181 zh_cX1_init_1 5 rfl
theorem dX1_init_28 : decode cX1_init 28 = .ok (.aload_n 0, 1) := zo_42 zh_cX1_init_1 8 rfl
theorem dX1_init_29 : decode cX1_init 29 = .ok (.bipush 40, 2) := zo_p16 zh_cX1_init_1 9 40 rfl rfl
theorem dX1_init_31 : decode cX1_init 31 = .ok (.newarray .int, 2) := zo_188_int zh_cX1_init_1 11 rfl
theorem dX1_init_33 : decode cX1_init 33 = .ok (.putfield 21, 3) := zo_181 zh_cX1_init_1 13 rfl
theorem dX1_init_36 : decode cX1_init 36 = .ok (.aload_n 0, 1) := zo_42 zh_cX1_init_1 16 rfl
theorem dX1_init_37 : decode cX1_init 37 = .ok (.aload_n 1, 1) := zo_43 zh_cX1_init_1 17 rfl
theorem dX1_init_38 : decode cX1_init 38 = .ok (.putfield 24, 3) := zo_181 zh_cX1_init_1 18 rfl
theorem zh_cX1_init_2 : zck [24, 177] (zdu 40 cX1_init.data.toList) = true := by decide +kernel
theorem dX1_init_41 : decode cX1_init 41 = .ok (.return_, 1) := zo_177 zh_cX1_init_2 1 rfl
abbrev z_X1_init : List Cond := .code yX1_init cX1_init 2 none :: zW
abbrev rm_X1_init : Room := { frames := 1, cells := 4, slots := 160, locals := 20 }
set_option maxHeartbeats 4000000 in
set_option maxRecDepth 100000 in
theorem ci_X1_init (l : Launch) (D : va_G) (cs : Nat → ClassId) (h0 : Nat) (p1 : Nat) (sz : Nat) : Met l yX1_init z_X1_init rm_X1_init (va_Pc [.ref h0, .ref p1] (zPre D cs [(h0, .inr (1, [.null, .null, .null, .null, .null, .int 0, .int 0]))] sz)) (va_Qv (fun _ : Nat → Nat => True) (fun (u : Nat → Nat) (t : State) => va_P D classes [(h0, .inr (1, [.ref p1, .ref (u 0), .ref (u 1), .ref (u 2), .ref (u 3), .int 0, .int 0])), ((u 0), .inl (cs 0, 40, .inl (fun _ => 0))), ((u 1), .inl (cs 0, 40, .inl (fun _ => 0))), ((u 2), .inl (cs 0, 40, .inl (fun _ => 0))), ((u 3), .inl (cs 0, 40, .inl (fun _ => 0)))] t.heap ∧ va_D (va_A [(h0, .inr (1, [.null, .null, .null, .null, .null, .int 0, .int 0]))] sz) [(h0, .inr (1, [.ref p1, .ref (u 0), .ref (u 1), .ref (u 2), .ref (u 3), .int 0, .int 0])), ((u 0), .inl (cs 0, 40, .inl (fun _ => 0))), ((u 1), .inl (cs 0, 40, .inl (fun _ => 0))), ((u 2), .inl (cs 0, 40, .inl (fun _ => 0))), ((u 3), .inl (cs 0, 40, .inl (fun _ => 0)))]) (va_A [(h0, .inr (1, [.null, .null, .null, .null, .null, .int 0, .int 0]))] sz)) 4 160 (va_A [(h0, .inr (1, [.null, .null, .null, .null, .null, .int 0, .int 0]))] sz) := by
  refine Met.ofW (cc := cX1_init) (maxL := 2) (ret := none) (by decide) rfl ?_
  intro p e s m args below meth c s₁ B hml hv
  obtain ⟨rfl, hsz, hP, hK, hD0⟩ := hv
  subst hsz
  have hD := hD0.self (sz := s.heap.size)
  have hx := B.exec
  have hb := B.bytes
  have hr := B.returns
  have ht : ∀ w ∈ zW, w.before _ s = true := fun w hw => atoms_spec (ws := z_X1_init) B.pre w (List.mem_cons_of_mem _ hw)
  have hown : s.vm.findClass RX1 = some m.cls := findClass_of_methodNamed B.named
  have hlocks := B.notSynchronized
  have hin : meth.name = "<init>" := (name_of_methodNamed B.named B.method).1
  generalize hAe : va_A [(h0, .inr (1, [.null, .null, .null, .null, .null, .int 0, .int 0]))] s.heap.size = A at hD ⊢
  have hA : ∀ q : Nat, s.heap.size ≤ q → A q := fun q h => by rw [← hAe]; exact Or.inr h
  have hS : va_S A s.heap s.heap [] := va_S.rf
  have hl := lv_entry ([.ref h0, .ref p1]) (n := 2) (Nat.le_of_ble_eq_true rfl)
  rw [lg_entry_eq]
  generalize (lg_sl ([.ref h0, .ref p1]) ++ List.replicate (2 - (lg_sl ([.ref h0, .ref p1])).length) Slot.unset).toArray = ls at hl ⊢
  obtain ⟨H, hH⟩ : ∃ H, H = s.heap := ⟨_, rfl⟩
  have hS : va_S A s.heap H [] := by rw [hH]; exact va_S.rf
  rw [← hH]
  have hP : va_P D classes [(h0, .inr (1, [.null, .null, .null, .null, .null, .int 0, .int 0]))] H := by rw [hH]; exact hP
  clear hH
  refine lv_aload_n hx hb dX1_init_0 rfl (lv_at hl 0 rfl) ?_
  refine W.objInit hx hb hown (ht _ kw_423) (ht _ kw_104) (ht _ kw_105) rfl (by rw [hml]; exact hl.1) rfl dX1_init_1 (Nat.le_of_ble_eq_true rfl) (Nat.le_of_ble_eq_true rfl) ?_
  refine W.eq (g2 := F0 m 4 ls []) rfl ?_
  refine lv_aload_n hx hb dX1_init_4 rfl (lv_at hl 0 rfl) ?_
  refine lv_bipush (v := (40 : Int32)) hx hb dX1_init_5 (by decide) ?_
  refine zk_newa (atype := .int) (ty := .int) (a0 := (40, .inl (fun _ => 0))) (N' := 40) hx hb (ht _ kw_184) rfl hK 0 rfl (by intro C h; cases h) hP hD hS hA (fun _ => rfl) (by decide) (by decide) (Nat.le_of_ble_eq_true rfl) (Nat.le_of_ble_eq_true rfl) (Nat.le_of_ble_eq_true rfl) dX1_init_7 (fun q_0 H hP hD hS => ?_)
  refine va_putF (D := D) (ci := 1) (v := .ref q_0) (ty := .array .int) (C := RX1) (T := TX1) (N := 7) hx hb ht iX1 tyX1 tyX1_ok nmX1 hown hK hP hD hS 0 rfl rfl 1 (by decide) (ht _ kw_425) (fun _ h9 => h9) rfl hin rfl (by decide +kernel) rfl rfl (Nat.le_of_ble_eq_true rfl) dX1_init_9 (fun H locs hP hD hS => ?_)
  refine lv_aload_n hx hb dX1_init_12 rfl (lv_at hl 0 rfl) ?_
  refine lv_bipush (v := (40 : Int32)) hx hb dX1_init_13 (by decide) ?_
  refine zk_newa (atype := .int) (ty := .int) (a0 := (40, .inl (fun _ => 0))) (N' := 40) hx hb (ht _ kw_184) rfl hK 0 rfl (by intro C h; cases h) hP hD hS hA (fun _ => rfl) (by decide) (by decide) (Nat.le_of_ble_eq_true rfl) (Nat.le_of_ble_eq_true rfl) (Nat.le_of_ble_eq_true rfl) dX1_init_15 (fun q_1 H hP hD hS => ?_)
  refine va_putF (D := D) (ci := 1) (v := .ref q_1) (ty := .array .int) (C := RX1) (T := TX1) (N := 7) hx hb ht iX1 tyX1 tyX1_ok nmX1 hown hK hP hD hS 0 rfl rfl 2 (by decide) (ht _ kw_426) (fun _ h9 => h9) rfl hin rfl (by decide +kernel) rfl rfl (Nat.le_of_ble_eq_true rfl) dX1_init_17 (fun H locs hP hD hS => ?_)
  refine lv_aload_n hx hb dX1_init_20 rfl (lv_at hl 0 rfl) ?_
  refine lv_bipush (v := (40 : Int32)) hx hb dX1_init_21 (by decide) ?_
  refine zk_newa (atype := .int) (ty := .int) (a0 := (40, .inl (fun _ => 0))) (N' := 40) hx hb (ht _ kw_184) rfl hK 0 rfl (by intro C h; cases h) hP hD hS hA (fun _ => rfl) (by decide) (by decide) (Nat.le_of_ble_eq_true rfl) (Nat.le_of_ble_eq_true rfl) (Nat.le_of_ble_eq_true rfl) dX1_init_23 (fun q_2 H hP hD hS => ?_)
  refine va_putF (D := D) (ci := 1) (v := .ref q_2) (ty := .array .int) (C := RX1) (T := TX1) (N := 7) hx hb ht iX1 tyX1 tyX1_ok nmX1 hown hK hP hD hS 0 rfl rfl 3 (by decide) (ht _ kw_427) (fun _ h9 => h9) rfl hin rfl (by decide +kernel) rfl rfl (Nat.le_of_ble_eq_true rfl) dX1_init_25 (fun H locs hP hD hS => ?_)
  refine lv_aload_n hx hb dX1_init_28 rfl (lv_at hl 0 rfl) ?_
  refine lv_bipush (v := (40 : Int32)) hx hb dX1_init_29 (by decide) ?_
  refine zk_newa (atype := .int) (ty := .int) (a0 := (40, .inl (fun _ => 0))) (N' := 40) hx hb (ht _ kw_184) rfl hK 0 rfl (by intro C h; cases h) hP hD hS hA (fun _ => rfl) (by decide) (by decide) (Nat.le_of_ble_eq_true rfl) (Nat.le_of_ble_eq_true rfl) (Nat.le_of_ble_eq_true rfl) dX1_init_31 (fun q_3 H hP hD hS => ?_)
  refine va_putF (D := D) (ci := 1) (v := .ref q_3) (ty := .array .int) (C := RX1) (T := TX1) (N := 7) hx hb ht iX1 tyX1 tyX1_ok nmX1 hown hK hP hD hS 0 rfl rfl 4 (by decide) (ht _ kw_428) (fun _ h9 => h9) rfl hin rfl (by decide +kernel) rfl rfl (Nat.le_of_ble_eq_true rfl) dX1_init_33 (fun H locs hP hD hS => ?_)
  have hP : va_P D classes [(h0, .inr (1, [.null, .ref q_0, .ref q_1, .ref q_2, .ref q_3, .int 0, .int 0])), (q_0, .inl (cs 0, 40, .inl (fun _ => 0))), (q_1, .inl (cs 0, 40, .inl (fun _ => 0))), (q_2, .inl (cs 0, 40, .inl (fun _ => 0))), (q_3, .inl (cs 0, 40, .inl (fun _ => 0)))] H := hP
  have hD : va_D A [(h0, .inr (1, [.null, .ref q_0, .ref q_1, .ref q_2, .ref q_3, .int 0, .int 0])), (q_0, .inl (cs 0, 40, .inl (fun _ => 0))), (q_1, .inl (cs 0, 40, .inl (fun _ => 0))), (q_2, .inl (cs 0, 40, .inl (fun _ => 0))), (q_3, .inl (cs 0, 40, .inl (fun _ => 0)))] := hD
  refine lv_aload_n hx hb dX1_init_36 rfl (lv_at hl 0 rfl) ?_
  refine lv_aload_n hx hb dX1_init_37 rfl (lv_at hl 1 rfl) ?_
  refine va_putF (D := D) (ci := 1) (v := .ref p1) (ty := .object "AlreadyJudged$Court") (C := RX1) (T := TX1) (N := 7) hx hb ht iX1 tyX1 tyX1_ok nmX1 hown hK hP hD hS 0 rfl rfl 0 (by decide) (ht _ kw_424) (fun _ h9 => h9) rfl hin rfl (by decide +kernel) rfl rfl (Nat.le_of_ble_eq_true rfl) dX1_init_38 (fun H locs hP hD hS => ?_)
  have hP : va_P D classes [(h0, .inr (1, [.ref p1, .ref q_0, .ref q_1, .ref q_2, .ref q_3, .int 0, .int 0])), (q_0, .inl (cs 0, 40, .inl (fun _ => 0))), (q_1, .inl (cs 0, 40, .inl (fun _ => 0))), (q_2, .inl (cs 0, 40, .inl (fun _ => 0))), (q_3, .inl (cs 0, 40, .inl (fun _ => 0)))] H := hP
  have hD : va_D A [(h0, .inr (1, [.ref p1, .ref q_0, .ref q_1, .ref q_2, .ref q_3, .int 0, .int 0])), (q_0, .inl (cs 0, 40, .inl (fun _ => 0))), (q_1, .inl (cs 0, 40, .inl (fun _ => 0))), (q_2, .inl (cs 0, 40, .inl (fun _ => 0))), (q_3, .inl (cs 0, 40, .inl (fun _ => 0)))] := hD
  refine W.widen (k := 4) (n := 160) (Nat.le_of_ble_eq_true rfl) (Nat.le_of_ble_eq_true rfl) ?_
  exact W.vret hx hb hr (fun t ht2 hW => ⟨⟨fun k => [q_0, q_1, q_2, q_3].getD k 0, rfl, trivial, by rw [ht2]; exact hP, hD⟩, hS.F ht2⟩) hS.2.2 dX1_init_41 hlocks
theorem kw_452 : Cond.methodLink RX0 3 objectInit ∈ zW := zwC (i := 138) zc_2 rfl rfl
theorem zh_cX0_init_0 : zck [42, 183, 0, 3, 42, 16, 24, 188, 10, 181, 0, 9, 177] (zdu 0 cX0_init.data.toList) = true := by decide +kernel
theorem dX0_init_0 : decode cX0_init 0 = .ok (.aload_n 0, 1) := zo_42 zh_cX0_init_0 0 rfl
theorem dX0_init_1 : decode cX0_init 1 = .ok (.invokespecial 3, 3) := zo_183 zh_cX0_init_0 1 rfl
theorem dX0_init_4 : decode cX0_init 4 = .ok (.aload_n 0, 1) := zo_42 zh_cX0_init_0 4 rfl
theorem dX0_init_5 : decode cX0_init 5 = .ok (.bipush 24, 2) := zo_p16 zh_cX0_init_0 5 24 rfl rfl
theorem dX0_init_7 : decode cX0_init 7 = .ok (.newarray .int, 2) := zo_188_int zh_cX0_init_0 7 rfl
theorem dX0_init_9 : decode cX0_init 9 = .ok (.putfield 9, 3) := zo_181 zh_cX0_init_0 9 rfl
theorem dX0_init_12 : decode cX0_init 12 = .ok (.return_, 1) := zo_177 zh_cX0_init_0 12 rfl
abbrev z_X0_init : List Cond := .code yX0_init cX0_init 1 none :: zW
abbrev rm_X0_init : Room := { frames := 1, cells := 1, slots := 24, locals := 20 }
set_option maxHeartbeats 4000000 in
set_option maxRecDepth 100000 in
theorem ci_X0_init (l : Launch) (D : va_G) (cs : Nat → ClassId) (h0 : Nat)  (sz : Nat) : Met l yX0_init z_X0_init rm_X0_init (va_Pc [.ref h0] (zPre D cs [(h0, .inr (0, [.null, .int 0, .int 0, .int 0, .int 0]))] sz)) (va_Qv (fun _ : Nat → Nat => True) (fun (u : Nat → Nat) (t : State) => va_P D classes [(h0, .inr (0, [.ref (u 0), .int 0, .int 0, .int 0, .int 0])), ((u 0), .inl (cs 0, 24, .inl (fun _ => 0)))] t.heap ∧ va_D (va_A [(h0, .inr (0, [.null, .int 0, .int 0, .int 0, .int 0]))] sz) [(h0, .inr (0, [.ref (u 0), .int 0, .int 0, .int 0, .int 0])), ((u 0), .inl (cs 0, 24, .inl (fun _ => 0)))]) (va_A [(h0, .inr (0, [.null, .int 0, .int 0, .int 0, .int 0]))] sz)) 1 24 (va_A [(h0, .inr (0, [.null, .int 0, .int 0, .int 0, .int 0]))] sz) := by
  refine Met.ofW (cc := cX0_init) (maxL := 1) (ret := none) (by decide) rfl ?_
  intro p e s m args below meth c s₁ B hml hv
  obtain ⟨rfl, hsz, hP, hK, hD0⟩ := hv
  subst hsz
  have hD := hD0.self (sz := s.heap.size)
  have hx := B.exec
  have hb := B.bytes
  have hr := B.returns
  have ht : ∀ w ∈ zW, w.before _ s = true := fun w hw => atoms_spec (ws := z_X0_init) B.pre w (List.mem_cons_of_mem _ hw)
  have hown : s.vm.findClass RX0 = some m.cls := findClass_of_methodNamed B.named
  have hlocks := B.notSynchronized
  have hin : meth.name = "<init>" := (name_of_methodNamed B.named B.method).1
  generalize hAe : va_A [(h0, .inr (0, [.null, .int 0, .int 0, .int 0, .int 0]))] s.heap.size = A at hD ⊢
  have hA : ∀ q : Nat, s.heap.size ≤ q → A q := fun q h => by rw [← hAe]; exact Or.inr h
  have hS : va_S A s.heap s.heap [] := va_S.rf
  have hl := lv_entry ([.ref h0]) (n := 1) (Nat.le_of_ble_eq_true rfl)
  rw [lg_entry_eq]
  generalize (lg_sl ([.ref h0]) ++ List.replicate (1 - (lg_sl ([.ref h0])).length) Slot.unset).toArray = ls at hl ⊢
  obtain ⟨H, hH⟩ : ∃ H, H = s.heap := ⟨_, rfl⟩
  have hS : va_S A s.heap H [] := by rw [hH]; exact va_S.rf
  rw [← hH]
  have hP : va_P D classes [(h0, .inr (0, [.null, .int 0, .int 0, .int 0, .int 0]))] H := by rw [hH]; exact hP
  clear hH
  refine lv_aload_n hx hb dX0_init_0 rfl (lv_at hl 0 rfl) ?_
  refine W.objInit hx hb hown (ht _ kw_452) (ht _ kw_104) (ht _ kw_105) rfl (by rw [hml]; exact hl.1) rfl dX0_init_1 (Nat.le_of_ble_eq_true rfl) (Nat.le_of_ble_eq_true rfl) ?_
  refine W.eq (g2 := F0 m 4 ls []) rfl ?_
  refine lv_aload_n hx hb dX0_init_4 rfl (lv_at hl 0 rfl) ?_
  refine lv_bipush (v := (24 : Int32)) hx hb dX0_init_5 (by decide) ?_
  refine zk_newa (atype := .int) (ty := .int) (a0 := (24, .inl (fun _ => 0))) (N' := 24) hx hb (ht _ kw_184) rfl hK 0 rfl (by intro C h; cases h) hP hD hS hA (fun _ => rfl) (by decide) (by decide) (Nat.le_of_ble_eq_true rfl) (Nat.le_of_ble_eq_true rfl) (Nat.le_of_ble_eq_true rfl) dX0_init_7 (fun q_0 H hP hD hS => ?_)
  refine va_putF (D := D) (ci := 0) (v := .ref q_0) (ty := .array .int) (C := RX0) (T := TX0) (N := 5) hx hb ht iX0 tyX0 tyX0_ok nmX0 hown hK hP hD hS 0 rfl rfl 0 (by decide) (ht _ kw_453) (fun _ h9 => h9) rfl hin rfl (by decide +kernel) rfl rfl (Nat.le_of_ble_eq_true rfl) dX0_init_9 (fun H locs hP hD hS => ?_)
  have hP : va_P D classes [(h0, .inr (0, [.ref q_0, .int 0, .int 0, .int 0, .int 0])), (q_0, .inl (cs 0, 24, .inl (fun _ => 0)))] H := hP
  have hD : va_D A [(h0, .inr (0, [.ref q_0, .int 0, .int 0, .int 0, .int 0])), (q_0, .inl (cs 0, 24, .inl (fun _ => 0)))] := hD
  refine W.widen (k := 1) (n := 24) (Nat.le_of_ble_eq_true rfl) (Nat.le_of_ble_eq_true rfl) ?_
  exact W.vret hx hb hr (fun t ht2 hW => ⟨⟨fun k => [q_0].getD k 0, rfl, trivial, by rw [ht2]; exact hP, hD⟩, hS.F ht2⟩) hS.2.2 dX0_init_12 hlocks
theorem kw_679 : Cond.methodLink RX6 3 objectInit ∈ zW := zwC (i := 125) zc_3 rfl rfl
theorem zh_cX6_init_0 : zck [42, 183, 0, 3, 42, 2, 181, 0, 11, 42, 16, 60, 188, 11, 181, 0, 15, 177] (zdu 0 cX6_init.data.toList) = true := by decide +kernel
theorem dX6_init_0 : decode cX6_init 0 = .ok (.aload_n 0, 1) := zo_42 zh_cX6_init_0 0 rfl
theorem dX6_init_1 : decode cX6_init 1 = .ok (.invokespecial 3, 3) := zo_183 zh_cX6_init_0 1 rfl
theorem dX6_init_4 : decode cX6_init 4 = .ok (.aload_n 0, 1) := zo_42 zh_cX6_init_0 4 rfl
theorem dX6_init_5 : decode cX6_init 5 = .ok (.iconst (-1), 1) := zo_2 zh_cX6_init_0 5 rfl
theorem dX6_init_6 : decode cX6_init 6 = .ok (.putfield 11, 3) := zo_181 zh_cX6_init_0 6 rfl
theorem dX6_init_9 : decode cX6_init 9 = .ok (.aload_n 0, 1) := zo_42 zh_cX6_init_0 9 rfl
theorem dX6_init_10 : decode cX6_init 10 = .ok (.bipush 60, 2) := zo_p16 zh_cX6_init_0 10 60 rfl rfl
theorem dX6_init_12 : decode cX6_init 12 = .ok (.newarray .long, 2) := zo_188_long zh_cX6_init_0 12 rfl
theorem dX6_init_14 : decode cX6_init 14 = .ok (.putfield 15, 3) := zo_181 zh_cX6_init_0 14 rfl
theorem dX6_init_17 : decode cX6_init 17 = .ok (.return_, 1) := zo_177 zh_cX6_init_0 17 rfl
abbrev z_X6_init : List Cond := .code yX6_init cX6_init 1 none :: zW
abbrev rm_X6_init : Room := { frames := 1, cells := 1, slots := 60, locals := 20 }
set_option maxHeartbeats 4000000 in
set_option maxRecDepth 100000 in
theorem ci_X6_init (l : Launch) (D : va_G) (cs : Nat → ClassId) (h0 : Nat)  (sz : Nat) : Met l yX6_init z_X6_init rm_X6_init (va_Pc [.ref h0] (zPre D cs [(h0, .inr (6, [.int 0, .int 0, .int 0, .null]))] sz)) (va_Qv (fun _ : Nat → Nat => True) (fun (u : Nat → Nat) (t : State) => va_P D classes [(h0, .inr (6, [.int (-1 : Int32), .int 0, .int 0, .ref (u 0)])), ((u 0), .inl (cs 1, 60, .inr (.inl (fun _ => 0))))] t.heap ∧ va_D (va_A [(h0, .inr (6, [.int 0, .int 0, .int 0, .null]))] sz) [(h0, .inr (6, [.int (-1 : Int32), .int 0, .int 0, .ref (u 0)])), ((u 0), .inl (cs 1, 60, .inr (.inl (fun _ => 0))))]) (va_A [(h0, .inr (6, [.int 0, .int 0, .int 0, .null]))] sz)) 1 60 (va_A [(h0, .inr (6, [.int 0, .int 0, .int 0, .null]))] sz) := by
  refine Met.ofW (cc := cX6_init) (maxL := 1) (ret := none) (by decide) rfl ?_
  intro p e s m args below meth c s₁ B hml hv
  obtain ⟨rfl, hsz, hP, hK, hD0⟩ := hv
  subst hsz
  have hD := hD0.self (sz := s.heap.size)
  have hx := B.exec
  have hb := B.bytes
  have hr := B.returns
  have ht : ∀ w ∈ zW, w.before _ s = true := fun w hw => atoms_spec (ws := z_X6_init) B.pre w (List.mem_cons_of_mem _ hw)
  have hown : s.vm.findClass RX6 = some m.cls := findClass_of_methodNamed B.named
  have hlocks := B.notSynchronized
  have hin : meth.name = "<init>" := (name_of_methodNamed B.named B.method).1
  generalize hAe : va_A [(h0, .inr (6, [.int 0, .int 0, .int 0, .null]))] s.heap.size = A at hD ⊢
  have hA : ∀ q : Nat, s.heap.size ≤ q → A q := fun q h => by rw [← hAe]; exact Or.inr h
  have hS : va_S A s.heap s.heap [] := va_S.rf
  have hl := lv_entry ([.ref h0]) (n := 1) (Nat.le_of_ble_eq_true rfl)
  rw [lg_entry_eq]
  generalize (lg_sl ([.ref h0]) ++ List.replicate (1 - (lg_sl ([.ref h0])).length) Slot.unset).toArray = ls at hl ⊢
  obtain ⟨H, hH⟩ : ∃ H, H = s.heap := ⟨_, rfl⟩
  have hS : va_S A s.heap H [] := by rw [hH]; exact va_S.rf
  rw [← hH]
  have hP : va_P D classes [(h0, .inr (6, [.int 0, .int 0, .int 0, .null]))] H := by rw [hH]; exact hP
  clear hH
  refine lv_aload_n hx hb dX6_init_0 rfl (lv_at hl 0 rfl) ?_
  refine W.objInit hx hb hown (ht _ kw_679) (ht _ kw_104) (ht _ kw_105) rfl (by rw [hml]; exact hl.1) rfl dX6_init_1 (Nat.le_of_ble_eq_true rfl) (Nat.le_of_ble_eq_true rfl) ?_
  refine W.eq (g2 := F0 m 4 ls []) rfl ?_
  refine lv_aload_n hx hb dX6_init_4 rfl (lv_at hl 0 rfl) ?_
  refine lv_iconst (v := (-1 : Int32)) hx hb dX6_init_5 (by decide) ?_
  refine va_put (D := D) (ci := 6) (v := .int (-1 : Int32)) (ty := .int) (C := RX6) (T := TX6) (N := 4) hx hb ht iX6 tyX6 tyX6_ok nmX6 hown hK hP hD hS 0 rfl rfl 0 (by decide) (ht _ kw_680) (fun _ h9 => h9) rfl (by decide +kernel) rfl rfl (Nat.le_of_ble_eq_true rfl) dX6_init_6 (fun H locs hP hD hS => ?_)
  refine lv_aload_n hx hb dX6_init_9 rfl (lv_at hl 0 rfl) ?_
  refine lv_bipush (v := (60 : Int32)) hx hb dX6_init_10 (by decide) ?_
  refine zk_newa (atype := .long) (ty := .long) (a0 := (60, .inr (.inl (fun _ => 0)))) (N' := 60) hx hb (ht _ kw_228) rfl hK 1 rfl (by intro C h; cases h) hP hD hS hA (fun _ => rfl) (by decide) (by decide) (Nat.le_of_ble_eq_true rfl) (Nat.le_of_ble_eq_true rfl) (Nat.le_of_ble_eq_true rfl) dX6_init_12 (fun q_0 H hP hD hS => ?_)
  refine va_putF (D := D) (ci := 6) (v := .ref q_0) (ty := .array .long) (C := RX6) (T := TX6) (N := 4) hx hb ht iX6 tyX6 tyX6_ok nmX6 hown hK hP hD hS 0 rfl rfl 3 (by decide) (ht _ kw_685) (fun _ h9 => h9) rfl hin rfl (by decide +kernel) rfl rfl (Nat.le_of_ble_eq_true rfl) dX6_init_14 (fun H locs hP hD hS => ?_)
  have hP : va_P D classes [(h0, .inr (6, [.int (-1 : Int32), .int 0, .int 0, .ref q_0])), (q_0, .inl (cs 1, 60, .inr (.inl (fun _ => 0))))] H := hP
  have hD : va_D A [(h0, .inr (6, [.int (-1 : Int32), .int 0, .int 0, .ref q_0])), (q_0, .inl (cs 1, 60, .inr (.inl (fun _ => 0))))] := hD
  refine W.widen (k := 1) (n := 60) (Nat.le_of_ble_eq_true rfl) (Nat.le_of_ble_eq_true rfl) ?_
  exact W.vret hx hb hr (fun t ht2 hW => ⟨⟨fun k => [q_0].getD k 0, rfl, trivial, by rw [ht2]; exact hP, hD⟩, hS.F ht2⟩) hS.2.2 dX6_init_17 hlocks
theorem kw_190 : Cond.methodLink RX3 3 objectInit ∈ zW := zwC (i := 116) zc_1 rfl rfl
theorem zh_cX3_init_0 : zck [42, 183, 0, 3, 42, 16, 11, 188, 10, 181, 0, 9, 42, 16, 36, 188, 10, 181, 0, 17, 42, 16] (zdu 0 cX3_init.data.toList) = true := by decide +kernel
theorem dX3_init_0 : decode cX3_init 0 = .ok (.aload_n 0, 1) := zo_42 zh_cX3_init_0 0 rfl
theorem dX3_init_1 : decode cX3_init 1 = .ok (.invokespecial 3, 3) := zo_183 zh_cX3_init_0 1 rfl
theorem dX3_init_4 : decode cX3_init 4 = .ok (.aload_n 0, 1) := zo_42 zh_cX3_init_0 4 rfl
theorem dX3_init_5 : decode cX3_init 5 = .ok (.bipush 11, 2) := zo_p16 zh_cX3_init_0 5 11 rfl rfl
theorem dX3_init_7 : decode cX3_init 7 = .ok (.newarray .int, 2) := zo_188_int zh_cX3_init_0 7 rfl
theorem dX3_init_9 : decode cX3_init 9 = .ok (.putfield 9, 3) := zo_181 zh_cX3_init_0 9 rfl
theorem dX3_init_12 : decode cX3_init 12 = .ok (.aload_n 0, 1) := zo_42 zh_cX3_init_0 12 rfl
theorem dX3_init_13 : decode cX3_init 13 = .ok (.bipush 36, 2) := zo_p16 zh_cX3_init_0 13 36 rfl rfl
theorem dX3_init_15 : decode cX3_init 15 = .ok (.newarray .int, 2) := zo_188_int zh_cX3_init_0 15 rfl
theorem dX3_init_17 : decode cX3_init 17 = .ok (.putfield 17, 3) := zo_181 zh_cX3_init_0 17 rfl
theorem zh_cX3_init_1 : zck [42, 16, 7, 188, 11, 181, 0, 20, 42, 16, 7, 188, 11, 181, 0, 24, 42, 16, 20, 188, 10, 181] (zdu 20 cX3_init.data.toList) = true := by decide +kernel
theorem dX3_init_20 : decode cX3_init 20 = .ok (.aload_n 0, 1) := zo_42 zh_cX3_init_1 0 rfl
theorem dX3_init_21 : decode cX3_init 21 = .ok (.bipush 7, 2) := zo_p16 zh_cX3_init_1 1 7 rfl rfl
theorem dX3_init_23 : decode cX3_init 23 = .ok (.newarray .long, 2) := zo_188_long zh_cX3_init_1 3 rfl
theorem dX3_init_25 : decode cX3_init 25 = .ok (.putfield 20, 3) := zo_181 zh_cX3_init_1 5 rfl
theorem dX3_init_28 : decode cX3_init 28 = .ok (.aload_n 0, 1) := zo_42 zh_cX3_init_1 8 rfl
theorem dX3_init_29 : decode cX3_init 29 = .ok (.bipush 7, 2) := zo_p16 zh_cX3_init_1 9 7 rfl rfl
theorem dX3_init_31 : decode cX3_init 31 = .ok (.newarray .long, 2) := zo_188_long zh_cX3_init_1 11 rfl
theorem dX3_init_33 : decode cX3_init 33 = .ok (.putfield 24, 3) := zo_181 zh_cX3_init_1 13 rfl
theorem dX3_init_36 : decode cX3_init 36 = .ok (.aload_n 0, 1) := zo_42 zh_cX3_init_1 16 rfl
theorem dX3_init_37 : decode cX3_init 37 = .ok (.bipush 20, 2) := zo_p16 zh_cX3_init_1 17 20 rfl rfl
theorem dX3_init_39 : decode cX3_init 39 = .ok (.newarray .int, 2) := zo_188_int zh_cX3_init_1 19 rfl
theorem zh_cX3_init_2 : zck [10, 181, 0, 27, 42, 16, 20, 188, 10, 181, 0, 30, 42, 16, 20, 188, 10, 181, 0, 33, 42, 43] (zdu 40 cX3_init.data.toList) = true := by decide +kernel
theorem dX3_init_41 : decode cX3_init 41 = .ok (.putfield 27, 3) := zo_181 zh_cX3_init_2 1 rfl
theorem dX3_init_44 : decode cX3_init 44 = .ok (.aload_n 0, 1) := zo_42 zh_cX3_init_2 4 rfl
theorem dX3_init_45 : decode cX3_init 45 = .ok (.bipush 20, 2) := zo_p16 zh_cX3_init_2 5 20 rfl rfl
theorem dX3_init_47 : decode cX3_init 47 = .ok (.newarray .int, 2) := zo_188_int zh_cX3_init_2 7 rfl
theorem dX3_init_49 : decode cX3_init 49 = .ok (.putfield 30, 3) := zo_181 zh_cX3_init_2 9 rfl
theorem dX3_init_52 : decode cX3_init 52 = .ok (.aload_n 0, 1) := zo_42 zh_cX3_init_2 12 rfl
theorem dX3_init_53 : decode cX3_init 53 = .ok (.bipush 20, 2) := zo_p16 zh_cX3_init_2 13 20 rfl rfl
theorem dX3_init_55 : decode cX3_init 55 = .ok (.newarray .int, 2) := zo_188_int zh_cX3_init_2 15 rfl
theorem dX3_init_57 : decode cX3_init 57 = .ok (.putfield 33, 3) := zo_181 zh_cX3_init_2 17 rfl
theorem zh_cX3_init_3 : zck [42, 43, 181, 0, 36, 177] (zdu 60 cX3_init.data.toList) = true := by decide +kernel
theorem dX3_init_60 : decode cX3_init 60 = .ok (.aload_n 0, 1) := zo_42 zh_cX3_init_3 0 rfl
theorem dX3_init_61 : decode cX3_init 61 = .ok (.aload_n 1, 1) := zo_43 zh_cX3_init_3 1 rfl
theorem dX3_init_62 : decode cX3_init 62 = .ok (.putfield 36, 3) := zo_181 zh_cX3_init_3 2 rfl
theorem dX3_init_65 : decode cX3_init 65 = .ok (.return_, 1) := zo_177 zh_cX3_init_3 5 rfl
abbrev z_X3_init : List Cond := .code yX3_init cX3_init 2 none :: zW
abbrev rm_X3_init : Room := { frames := 1, cells := 7, slots := 121, locals := 20 }
set_option maxHeartbeats 4000000 in
set_option maxRecDepth 100000 in
theorem ci_X3_init (l : Launch) (D : va_G) (cs : Nat → ClassId) (h0 : Nat) (p1 : Nat) (sz : Nat) : Met l yX3_init z_X3_init rm_X3_init (va_Pc [.ref h0, .ref p1] (zPre D cs [(h0, .inr (3, [.null, .null, .null, .null, .null, .null, .null, .null, .int 0, .int 0, .int 0]))] sz)) (va_Qv (fun _ : Nat → Nat => True) (fun (u : Nat → Nat) (t : State) => va_P D classes [(h0, .inr (3, [.ref p1, .ref (u 0), .ref (u 1), .ref (u 2), .ref (u 3), .ref (u 4), .ref (u 5), .ref (u 6), .int 0, .int 0, .int 0])), ((u 0), .inl (cs 0, 11, .inl (fun _ => 0))), ((u 1), .inl (cs 0, 36, .inl (fun _ => 0))), ((u 2), .inl (cs 1, 7, .inr (.inl (fun _ => 0)))), ((u 3), .inl (cs 1, 7, .inr (.inl (fun _ => 0)))), ((u 4), .inl (cs 0, 20, .inl (fun _ => 0))), ((u 5), .inl (cs 0, 20, .inl (fun _ => 0))), ((u 6), .inl (cs 0, 20, .inl (fun _ => 0)))] t.heap ∧ va_D (va_A [(h0, .inr (3, [.null, .null, .null, .null, .null, .null, .null, .null, .int 0, .int 0, .int 0]))] sz) [(h0, .inr (3, [.ref p1, .ref (u 0), .ref (u 1), .ref (u 2), .ref (u 3), .ref (u 4), .ref (u 5), .ref (u 6), .int 0, .int 0, .int 0])), ((u 0), .inl (cs 0, 11, .inl (fun _ => 0))), ((u 1), .inl (cs 0, 36, .inl (fun _ => 0))), ((u 2), .inl (cs 1, 7, .inr (.inl (fun _ => 0)))), ((u 3), .inl (cs 1, 7, .inr (.inl (fun _ => 0)))), ((u 4), .inl (cs 0, 20, .inl (fun _ => 0))), ((u 5), .inl (cs 0, 20, .inl (fun _ => 0))), ((u 6), .inl (cs 0, 20, .inl (fun _ => 0)))]) (va_A [(h0, .inr (3, [.null, .null, .null, .null, .null, .null, .null, .null, .int 0, .int 0, .int 0]))] sz)) 7 121 (va_A [(h0, .inr (3, [.null, .null, .null, .null, .null, .null, .null, .null, .int 0, .int 0, .int 0]))] sz) := by
  refine Met.ofW (cc := cX3_init) (maxL := 2) (ret := none) (by decide) rfl ?_
  intro p e s m args below meth c s₁ B hml hv
  obtain ⟨rfl, hsz, hP, hK, hD0⟩ := hv
  subst hsz
  have hD := hD0.self (sz := s.heap.size)
  have hx := B.exec
  have hb := B.bytes
  have hr := B.returns
  have ht : ∀ w ∈ zW, w.before _ s = true := fun w hw => atoms_spec (ws := z_X3_init) B.pre w (List.mem_cons_of_mem _ hw)
  have hown : s.vm.findClass RX3 = some m.cls := findClass_of_methodNamed B.named
  have hlocks := B.notSynchronized
  have hin : meth.name = "<init>" := (name_of_methodNamed B.named B.method).1
  generalize hAe : va_A [(h0, .inr (3, [.null, .null, .null, .null, .null, .null, .null, .null, .int 0, .int 0, .int 0]))] s.heap.size = A at hD ⊢
  have hA : ∀ q : Nat, s.heap.size ≤ q → A q := fun q h => by rw [← hAe]; exact Or.inr h
  have hS : va_S A s.heap s.heap [] := va_S.rf
  have hl := lv_entry ([.ref h0, .ref p1]) (n := 2) (Nat.le_of_ble_eq_true rfl)
  rw [lg_entry_eq]
  generalize (lg_sl ([.ref h0, .ref p1]) ++ List.replicate (2 - (lg_sl ([.ref h0, .ref p1])).length) Slot.unset).toArray = ls at hl ⊢
  obtain ⟨H, hH⟩ : ∃ H, H = s.heap := ⟨_, rfl⟩
  have hS : va_S A s.heap H [] := by rw [hH]; exact va_S.rf
  rw [← hH]
  have hP : va_P D classes [(h0, .inr (3, [.null, .null, .null, .null, .null, .null, .null, .null, .int 0, .int 0, .int 0]))] H := by rw [hH]; exact hP
  clear hH
  refine lv_aload_n hx hb dX3_init_0 rfl (lv_at hl 0 rfl) ?_
  refine W.objInit hx hb hown (ht _ kw_190) (ht _ kw_104) (ht _ kw_105) rfl (by rw [hml]; exact hl.1) rfl dX3_init_1 (Nat.le_of_ble_eq_true rfl) (Nat.le_of_ble_eq_true rfl) ?_
  refine W.eq (g2 := F0 m 4 ls []) rfl ?_
  refine lv_aload_n hx hb dX3_init_4 rfl (lv_at hl 0 rfl) ?_
  refine lv_bipush (v := (11 : Int32)) hx hb dX3_init_5 (by decide) ?_
  refine zk_newa (atype := .int) (ty := .int) (a0 := (11, .inl (fun _ => 0))) (N' := 11) hx hb (ht _ kw_184) rfl hK 0 rfl (by intro C h; cases h) hP hD hS hA (fun _ => rfl) (by decide) (by decide) (Nat.le_of_ble_eq_true rfl) (Nat.le_of_ble_eq_true rfl) (Nat.le_of_ble_eq_true rfl) dX3_init_7 (fun q_0 H hP hD hS => ?_)
  refine va_putF (D := D) (ci := 3) (v := .ref q_0) (ty := .array .int) (C := RX3) (T := TX3) (N := 11) hx hb ht iX3 tyX3 tyX3_ok nmX3 hown hK hP hD hS 0 rfl rfl 1 (by decide) (ht _ kw_193) (fun _ h9 => h9) rfl hin rfl (by decide +kernel) rfl rfl (Nat.le_of_ble_eq_true rfl) dX3_init_9 (fun H locs hP hD hS => ?_)
  refine lv_aload_n hx hb dX3_init_12 rfl (lv_at hl 0 rfl) ?_
  refine lv_bipush (v := (36 : Int32)) hx hb dX3_init_13 (by decide) ?_
  refine zk_newa (atype := .int) (ty := .int) (a0 := (36, .inl (fun _ => 0))) (N' := 36) hx hb (ht _ kw_184) rfl hK 0 rfl (by intro C h; cases h) hP hD hS hA (fun _ => rfl) (by decide) (by decide) (Nat.le_of_ble_eq_true rfl) (Nat.le_of_ble_eq_true rfl) (Nat.le_of_ble_eq_true rfl) dX3_init_15 (fun q_1 H hP hD hS => ?_)
  refine va_putF (D := D) (ci := 3) (v := .ref q_1) (ty := .array .int) (C := RX3) (T := TX3) (N := 11) hx hb ht iX3 tyX3 tyX3_ok nmX3 hown hK hP hD hS 0 rfl rfl 2 (by decide) (ht _ kw_194) (fun _ h9 => h9) rfl hin rfl (by decide +kernel) rfl rfl (Nat.le_of_ble_eq_true rfl) dX3_init_17 (fun H locs hP hD hS => ?_)
  refine lv_aload_n hx hb dX3_init_20 rfl (lv_at hl 0 rfl) ?_
  refine lv_bipush (v := (7 : Int32)) hx hb dX3_init_21 (by decide) ?_
  refine zk_newa (atype := .long) (ty := .long) (a0 := (7, .inr (.inl (fun _ => 0)))) (N' := 7) hx hb (ht _ kw_228) rfl hK 1 rfl (by intro C h; cases h) hP hD hS hA (fun _ => rfl) (by decide) (by decide) (Nat.le_of_ble_eq_true rfl) (Nat.le_of_ble_eq_true rfl) (Nat.le_of_ble_eq_true rfl) dX3_init_23 (fun q_2 H hP hD hS => ?_)
  refine va_putF (D := D) (ci := 3) (v := .ref q_2) (ty := .array .long) (C := RX3) (T := TX3) (N := 11) hx hb ht iX3 tyX3 tyX3_ok nmX3 hown hK hP hD hS 0 rfl rfl 3 (by decide) (ht _ kw_195) (fun _ h9 => h9) rfl hin rfl (by decide +kernel) rfl rfl (Nat.le_of_ble_eq_true rfl) dX3_init_25 (fun H locs hP hD hS => ?_)
  refine lv_aload_n hx hb dX3_init_28 rfl (lv_at hl 0 rfl) ?_
  refine lv_bipush (v := (7 : Int32)) hx hb dX3_init_29 (by decide) ?_
  refine zk_newa (atype := .long) (ty := .long) (a0 := (7, .inr (.inl (fun _ => 0)))) (N' := 7) hx hb (ht _ kw_228) rfl hK 1 rfl (by intro C h; cases h) hP hD hS hA (fun _ => rfl) (by decide) (by decide) (Nat.le_of_ble_eq_true rfl) (Nat.le_of_ble_eq_true rfl) (Nat.le_of_ble_eq_true rfl) dX3_init_31 (fun q_3 H hP hD hS => ?_)
  refine va_putF (D := D) (ci := 3) (v := .ref q_3) (ty := .array .long) (C := RX3) (T := TX3) (N := 11) hx hb ht iX3 tyX3 tyX3_ok nmX3 hown hK hP hD hS 0 rfl rfl 4 (by decide) (ht _ kw_196) (fun _ h9 => h9) rfl hin rfl (by decide +kernel) rfl rfl (Nat.le_of_ble_eq_true rfl) dX3_init_33 (fun H locs hP hD hS => ?_)
  have hP : va_P D classes [(h0, .inr (3, [.null, .ref q_0, .ref q_1, .ref q_2, .ref q_3, .null, .null, .null, .int 0, .int 0, .int 0])), (q_0, .inl (cs 0, 11, .inl (fun _ => 0))), (q_1, .inl (cs 0, 36, .inl (fun _ => 0))), (q_2, .inl (cs 1, 7, .inr (.inl (fun _ => 0)))), (q_3, .inl (cs 1, 7, .inr (.inl (fun _ => 0))))] H := hP
  have hD : va_D A [(h0, .inr (3, [.null, .ref q_0, .ref q_1, .ref q_2, .ref q_3, .null, .null, .null, .int 0, .int 0, .int 0])), (q_0, .inl (cs 0, 11, .inl (fun _ => 0))), (q_1, .inl (cs 0, 36, .inl (fun _ => 0))), (q_2, .inl (cs 1, 7, .inr (.inl (fun _ => 0)))), (q_3, .inl (cs 1, 7, .inr (.inl (fun _ => 0))))] := hD
  refine lv_aload_n hx hb dX3_init_36 rfl (lv_at hl 0 rfl) ?_
  refine lv_bipush (v := (20 : Int32)) hx hb dX3_init_37 (by decide) ?_
  refine zk_newa (atype := .int) (ty := .int) (a0 := (20, .inl (fun _ => 0))) (N' := 20) hx hb (ht _ kw_184) rfl hK 0 rfl (by intro C h; cases h) hP hD hS hA (fun _ => rfl) (by decide) (by decide) (Nat.le_of_ble_eq_true rfl) (Nat.le_of_ble_eq_true rfl) (Nat.le_of_ble_eq_true rfl) dX3_init_39 (fun q_4 H hP hD hS => ?_)
  refine va_putF (D := D) (ci := 3) (v := .ref q_4) (ty := .array .int) (C := RX3) (T := TX3) (N := 11) hx hb ht iX3 tyX3 tyX3_ok nmX3 hown hK hP hD hS 0 rfl rfl 5 (by decide) (ht _ kw_197) (fun _ h9 => h9) rfl hin rfl (by decide +kernel) rfl rfl (Nat.le_of_ble_eq_true rfl) dX3_init_41 (fun H locs hP hD hS => ?_)
  refine lv_aload_n hx hb dX3_init_44 rfl (lv_at hl 0 rfl) ?_
  refine lv_bipush (v := (20 : Int32)) hx hb dX3_init_45 (by decide) ?_
  refine zk_newa (atype := .int) (ty := .int) (a0 := (20, .inl (fun _ => 0))) (N' := 20) hx hb (ht _ kw_184) rfl hK 0 rfl (by intro C h; cases h) hP hD hS hA (fun _ => rfl) (by decide) (by decide) (Nat.le_of_ble_eq_true rfl) (Nat.le_of_ble_eq_true rfl) (Nat.le_of_ble_eq_true rfl) dX3_init_47 (fun q_5 H hP hD hS => ?_)
  refine va_putF (D := D) (ci := 3) (v := .ref q_5) (ty := .array .int) (C := RX3) (T := TX3) (N := 11) hx hb ht iX3 tyX3 tyX3_ok nmX3 hown hK hP hD hS 0 rfl rfl 6 (by decide) (ht _ kw_199) (fun _ h9 => h9) rfl hin rfl (by decide +kernel) rfl rfl (Nat.le_of_ble_eq_true rfl) dX3_init_49 (fun H locs hP hD hS => ?_)
  refine lv_aload_n hx hb dX3_init_52 rfl (lv_at hl 0 rfl) ?_
  refine lv_bipush (v := (20 : Int32)) hx hb dX3_init_53 (by decide) ?_
  refine zk_newa (atype := .int) (ty := .int) (a0 := (20, .inl (fun _ => 0))) (N' := 20) hx hb (ht _ kw_184) rfl hK 0 rfl (by intro C h; cases h) hP hD hS hA (fun _ => rfl) (by decide) (by decide) (Nat.le_of_ble_eq_true rfl) (Nat.le_of_ble_eq_true rfl) (Nat.le_of_ble_eq_true rfl) dX3_init_55 (fun q_6 H hP hD hS => ?_)
  refine va_putF (D := D) (ci := 3) (v := .ref q_6) (ty := .array .int) (C := RX3) (T := TX3) (N := 11) hx hb ht iX3 tyX3 tyX3_ok nmX3 hown hK hP hD hS 0 rfl rfl 7 (by decide) (ht _ kw_200) (fun _ h9 => h9) rfl hin rfl (by decide +kernel) rfl rfl (Nat.le_of_ble_eq_true rfl) dX3_init_57 (fun H locs hP hD hS => ?_)
  refine lv_aload_n hx hb dX3_init_60 rfl (lv_at hl 0 rfl) ?_
  refine lv_aload_n hx hb dX3_init_61 rfl (lv_at hl 1 rfl) ?_
  refine va_putF (D := D) (ci := 3) (v := .ref p1) (ty := .object "AlreadyJudged$Court") (C := RX3) (T := TX3) (N := 11) hx hb ht iX3 tyX3 tyX3_ok nmX3 hown hK hP hD hS 0 rfl rfl 0 (by decide) (ht _ kw_191) (fun _ h9 => h9) rfl hin rfl (by decide +kernel) rfl rfl (Nat.le_of_ble_eq_true rfl) dX3_init_62 (fun H locs hP hD hS => ?_)
  have hP : va_P D classes [(h0, .inr (3, [.ref p1, .ref q_0, .ref q_1, .ref q_2, .ref q_3, .ref q_4, .ref q_5, .ref q_6, .int 0, .int 0, .int 0])), (q_0, .inl (cs 0, 11, .inl (fun _ => 0))), (q_1, .inl (cs 0, 36, .inl (fun _ => 0))), (q_2, .inl (cs 1, 7, .inr (.inl (fun _ => 0)))), (q_3, .inl (cs 1, 7, .inr (.inl (fun _ => 0)))), (q_4, .inl (cs 0, 20, .inl (fun _ => 0))), (q_5, .inl (cs 0, 20, .inl (fun _ => 0))), (q_6, .inl (cs 0, 20, .inl (fun _ => 0)))] H := hP
  have hD : va_D A [(h0, .inr (3, [.ref p1, .ref q_0, .ref q_1, .ref q_2, .ref q_3, .ref q_4, .ref q_5, .ref q_6, .int 0, .int 0, .int 0])), (q_0, .inl (cs 0, 11, .inl (fun _ => 0))), (q_1, .inl (cs 0, 36, .inl (fun _ => 0))), (q_2, .inl (cs 1, 7, .inr (.inl (fun _ => 0)))), (q_3, .inl (cs 1, 7, .inr (.inl (fun _ => 0)))), (q_4, .inl (cs 0, 20, .inl (fun _ => 0))), (q_5, .inl (cs 0, 20, .inl (fun _ => 0))), (q_6, .inl (cs 0, 20, .inl (fun _ => 0)))] := hD
  refine W.widen (k := 7) (n := 121) (Nat.le_of_ble_eq_true rfl) (Nat.le_of_ble_eq_true rfl) ?_
  exact W.vret hx hb hr (fun t ht2 hW => ⟨⟨fun k => [q_0, q_1, q_2, q_3, q_4, q_5, q_6].getD k 0, rfl, trivial, by rw [ht2]; exact hP, hD⟩, hS.F ht2⟩) hS.2.2 dX3_init_65 hlocks
theorem kw_669 : Cond.methodLink RX4 1 objectInit ∈ zW := zwC (i := 115) zc_3 rfl rfl
theorem zh_cX4_init_0 : zck [42, 183, 0, 1, 42, 43, 181, 0, 7, 177] (zdu 0 cX4_init.data.toList) = true := by decide +kernel
theorem dX4_init_0 : decode cX4_init 0 = .ok (.aload_n 0, 1) := zo_42 zh_cX4_init_0 0 rfl
theorem dX4_init_1 : decode cX4_init 1 = .ok (.invokespecial 1, 3) := zo_183 zh_cX4_init_0 1 rfl
theorem dX4_init_4 : decode cX4_init 4 = .ok (.aload_n 0, 1) := zo_42 zh_cX4_init_0 4 rfl
theorem dX4_init_5 : decode cX4_init 5 = .ok (.aload_n 1, 1) := zo_43 zh_cX4_init_0 5 rfl
theorem dX4_init_6 : decode cX4_init 6 = .ok (.putfield 7, 3) := zo_181 zh_cX4_init_0 6 rfl
theorem dX4_init_9 : decode cX4_init 9 = .ok (.return_, 1) := zo_177 zh_cX4_init_0 9 rfl
abbrev z_X4_init : List Cond := .code yX4_init cX4_init 2 none :: zW
abbrev rm_X4_init : Room := { frames := 1, cells := 0, slots := 0, locals := 20 }
set_option maxHeartbeats 4000000 in
set_option maxRecDepth 100000 in
theorem ci_X4_init (l : Launch) (D : va_G) (cs : Nat → ClassId) (h0 : Nat) (p1 : Nat) (sz : Nat) : Met l yX4_init z_X4_init rm_X4_init (va_Pc [.ref h0, .ref p1] (zPre D cs [(h0, .inr (4, [.null]))] sz)) (va_Qv (fun _ : Nat → Nat => True) (fun (u : Nat → Nat) (t : State) => va_P D classes [(h0, .inr (4, [.ref p1]))] t.heap ∧ va_D (va_A [(h0, .inr (4, [.null]))] sz) [(h0, .inr (4, [.ref p1]))]) (va_A [(h0, .inr (4, [.null]))] sz)) 0 0 (va_A [(h0, .inr (4, [.null]))] sz) := by
  refine Met.ofW (cc := cX4_init) (maxL := 2) (ret := none) (by decide) rfl ?_
  intro p e s m args below meth c s₁ B hml hv
  obtain ⟨rfl, hsz, hP, hK, hD0⟩ := hv
  subst hsz
  have hD := hD0.self (sz := s.heap.size)
  have hx := B.exec
  have hb := B.bytes
  have hr := B.returns
  have ht : ∀ w ∈ zW, w.before _ s = true := fun w hw => atoms_spec (ws := z_X4_init) B.pre w (List.mem_cons_of_mem _ hw)
  have hown : s.vm.findClass RX4 = some m.cls := findClass_of_methodNamed B.named
  have hlocks := B.notSynchronized
  have hin : meth.name = "<init>" := (name_of_methodNamed B.named B.method).1
  generalize hAe : va_A [(h0, .inr (4, [.null]))] s.heap.size = A at hD ⊢
  have hA : ∀ q : Nat, s.heap.size ≤ q → A q := fun q h => by rw [← hAe]; exact Or.inr h
  have hS : va_S A s.heap s.heap [] := va_S.rf
  have hl := lv_entry ([.ref h0, .ref p1]) (n := 2) (Nat.le_of_ble_eq_true rfl)
  rw [lg_entry_eq]
  generalize (lg_sl ([.ref h0, .ref p1]) ++ List.replicate (2 - (lg_sl ([.ref h0, .ref p1])).length) Slot.unset).toArray = ls at hl ⊢
  obtain ⟨H, hH⟩ : ∃ H, H = s.heap := ⟨_, rfl⟩
  have hS : va_S A s.heap H [] := by rw [hH]; exact va_S.rf
  rw [← hH]
  have hP : va_P D classes [(h0, .inr (4, [.null]))] H := by rw [hH]; exact hP
  clear hH
  refine lv_aload_n hx hb dX4_init_0 rfl (lv_at hl 0 rfl) ?_
  refine W.objInit hx hb hown (ht _ kw_669) (ht _ kw_104) (ht _ kw_105) rfl (by rw [hml]; exact hl.1) rfl dX4_init_1 (Nat.le_of_ble_eq_true rfl) (Nat.le_of_ble_eq_true rfl) ?_
  refine W.eq (g2 := F0 m 4 ls []) rfl ?_
  refine lv_aload_n hx hb dX4_init_4 rfl (lv_at hl 0 rfl) ?_
  refine lv_aload_n hx hb dX4_init_5 rfl (lv_at hl 1 rfl) ?_
  refine va_putF (D := D) (ci := 4) (v := .ref p1) (ty := .array .int) (C := RX4) (T := TX4) (N := 1) hx hb ht iX4 tyX4 tyX4_ok nmX4 hown hK hP hD hS 0 rfl rfl 0 (by decide) (ht _ kw_670) (fun _ h9 => h9) rfl hin rfl (by decide +kernel) rfl rfl (Nat.le_of_ble_eq_true rfl) dX4_init_6 (fun H locs hP hD hS => ?_)
  have hP : va_P D classes [(h0, .inr (4, [.ref p1]))] H := hP
  have hD : va_D A [(h0, .inr (4, [.ref p1]))] := hD
  refine W.widen (k := 0) (n := 0) (Nat.le_of_ble_eq_true rfl) (Nat.le_of_ble_eq_true rfl) ?_
  exact W.vret hx hb hr (fun t ht2 hW => ⟨⟨fun k => [].getD k 0, rfl, trivial, by rw [ht2]; exact hP, hD⟩, hS.F ht2⟩) hS.2.2 dX4_init_9 hlocks
theorem kw_239 : Cond.fieldLink RX5 36 "AlreadyJudged$Tape" "size" "I" ∈ zW := zwC (i := 165) zc_1 rfl rfl
theorem kw_541 : Cond.methodLink RX5 29 yX5_readLine ∈ zW := zwC (i := 227) zc_2 rfl rfl
theorem kw_542 : Cond.instanceMethod yX5_readLine ∈ zW := zwC (i := 228) zc_2 rfl rfl
theorem kw_543 : Cond.selects RX5 yX5_readLine yX5_readLine ∈ zW := zwC (i := 229) zc_2 rfl rfl
theorem kw_544 : Cond.code yX5_readLine cX5_readLine 2 none ∈ zW := zwC (i := 230) zc_2 rfl rfl
theorem kw_650 : Cond.classLink RX5 42 RX4 ∈ zW := zwC (i := 96) zc_3 rfl rfl
theorem kw_651 : Cond.instantiable RX4 1 ∈ zW := zwC (i := 97) zc_3 rfl rfl
theorem kw_652 : Cond.methodLink RX5 44 yJ7_copyOf_59c91 ∈ zW := zwC (i := 98) zc_3 rfl rfl
theorem kw_653 : Cond.static yJ7_copyOf_59c91 ∈ zW := zwC (i := 99) zc_3 rfl rfl
theorem kw_654 : Cond.code yJ7_copyOf_59c91 cJ7_copyOf_59c91 3 (some (.array .int)) ∈ zW := zwC (i := 100) zc_3 rfl rfl
theorem kw_655 : Cond.methodLink RJ7 316 yClI ∈ zW := zwC (i := 101) zc_3 rfl rfl
theorem kw_656 : Cond.sameMethod "[I" "java/lang/Object" "clone" "()Ljava/lang/Object;" ∈ zW := zwC (i := 102) zc_3 rfl rfl
theorem kw_657 : Cond.native yClO ∈ zW := zwC (i := 103) zc_3 rfl rfl
theorem kw_658 : Cond.instanceMethod yClO ∈ zW := zwC (i := 104) zc_3 rfl rfl
theorem kw_659 : Cond.selects "[I" yClI yClO ∈ zW := zwC (i := 105) zc_3 rfl rfl
theorem kw_661 : Cond.classLink RJ7 317 "[I" ∈ zW := zwC (i := 107) zc_3 rfl rfl
theorem kw_662 : Cond.methodLink RJ7 304 Lib.Math.min.name ∈ zW := zwC (i := 108) zc_3 rfl rfl
theorem kw_663 : Cond.methodLink RJ7 150 arraycopyName ∈ zW := zwC (i := 109) zc_3 rfl rfl
theorem kw_666 : Cond.methodLink RX5 50 yX4_init ∈ zW := zwC (i := 112) zc_3 rfl rfl
theorem kw_667 : Cond.instanceMethod yX4_init ∈ zW := zwC (i := 113) zc_3 rfl rfl
theorem kw_668 : Cond.code yX4_init cX4_init 2 none ∈ zW := zwC (i := 114) zc_3 rfl rfl
theorem zh_cX5_read_0 : zck [42, 3, 181, 0, 19, 42, 3, 181, 0, 23, 42, 2, 181, 0, 26, 42, 182, 0, 29, 3, 60, 27] (zdu 0 cX5_read.data.toList) = true := by decide +kernel
theorem dX5_read_0 : decode cX5_read 0 = .ok (.aload_n 0, 1) := zo_42 zh_cX5_read_0 0 rfl
theorem dX5_read_1 : decode cX5_read 1 = .ok (.iconst 0, 1) := zo_3 zh_cX5_read_0 1 rfl
theorem dX5_read_2 : decode cX5_read 2 = .ok (.putfield 19, 3) := zo_181 zh_cX5_read_0 2 rfl
theorem dX5_read_5 : decode cX5_read 5 = .ok (.aload_n 0, 1) := zo_42 zh_cX5_read_0 5 rfl
theorem dX5_read_6 : decode cX5_read 6 = .ok (.iconst 0, 1) := zo_3 zh_cX5_read_0 6 rfl
theorem dX5_read_7 : decode cX5_read 7 = .ok (.putfield 23, 3) := zo_181 zh_cX5_read_0 7 rfl
theorem dX5_read_10 : decode cX5_read 10 = .ok (.aload_n 0, 1) := zo_42 zh_cX5_read_0 10 rfl
theorem dX5_read_11 : decode cX5_read 11 = .ok (.iconst (-1), 1) := zo_2 zh_cX5_read_0 11 rfl
theorem dX5_read_12 : decode cX5_read 12 = .ok (.putfield 26, 3) := zo_181 zh_cX5_read_0 12 rfl
theorem dX5_read_15 : decode cX5_read 15 = .ok (.aload_n 0, 1) := zo_42 zh_cX5_read_0 15 rfl
theorem dX5_read_16 : decode cX5_read 16 = .ok (.invokevirtual 29, 3) := zo_182 zh_cX5_read_0 16 rfl
theorem dX5_read_19 : decode cX5_read 19 = .ok (.iconst 0, 1) := zo_3 zh_cX5_read_0 19 rfl
theorem zh_cX5_read_1 : zck [60, 27, 16, 120, 162, 0, 22, 42, 16, 59, 182, 0, 32, 153, 0, 13, 42, 182, 0, 29, 132, 1] (zdu 20 cX5_read.data.toList) = true := by decide +kernel
theorem dX5_read_20 : decode cX5_read 20 = .ok (.istore_n 1, 1) := zo_60 zh_cX5_read_1 0 rfl
theorem dX5_read_21 : decode cX5_read 21 = .ok (.iload_n 1, 1) := zo_27 zh_cX5_read_1 1 rfl
theorem dX5_read_22 : decode cX5_read 22 = .ok (.bipush 120, 2) := zo_p16 zh_cX5_read_1 2 120 rfl rfl
theorem dX5_read_24 : decode cX5_read 24 = .ok (.if_icmp .ge 22, 3) := zo_p162 zh_cX5_read_1 4 22 rfl rfl
theorem dX5_read_27 : decode cX5_read 27 = .ok (.aload_n 0, 1) := zo_42 zh_cX5_read_1 7 rfl
theorem dX5_read_28 : decode cX5_read 28 = .ok (.bipush 59, 2) := zo_p16 zh_cX5_read_1 8 59 rfl rfl
theorem dX5_read_30 : decode cX5_read 30 = .ok (.invokevirtual 32, 3) := zo_182 zh_cX5_read_1 10 rfl
theorem dX5_read_33 : decode cX5_read 33 = .ok (.ifCond .eq 13, 3) := zo_p153 zh_cX5_read_1 13 13 rfl rfl
theorem dX5_read_36 : decode cX5_read 36 = .ok (.aload_n 0, 1) := zo_42 zh_cX5_read_1 16 rfl
theorem dX5_read_37 : decode cX5_read 37 = .ok (.invokevirtual 29, 3) := zo_182 zh_cX5_read_1 17 rfl
theorem zh_cX5_read_2 : zck [132, 1, 1, 167, 255, 234, 42, 180, 0, 19, 42, 180, 0, 15, 180, 0, 36, 162, 0, 7, 42, 182] (zdu 40 cX5_read.data.toList) = true := by decide +kernel
theorem dX5_read_40 : decode cX5_read 40 = .ok (.iinc 1 1, 3) := zo_p132 zh_cX5_read_2 0 1 rfl rfl
theorem dX5_read_43 : decode cX5_read 43 = .ok (.goto (-22), 3) := zo_n167 zh_cX5_read_2 3 21 rfl rfl
theorem dX5_read_46 : decode cX5_read 46 = .ok (.aload_n 0, 1) := zo_42 zh_cX5_read_2 6 rfl
theorem dX5_read_47 : decode cX5_read 47 = .ok (.getfield 19, 3) := zo_180 zh_cX5_read_2 7 rfl
theorem dX5_read_50 : decode cX5_read 50 = .ok (.aload_n 0, 1) := zo_42 zh_cX5_read_2 10 rfl
theorem dX5_read_51 : decode cX5_read 51 = .ok (.getfield 15, 3) := zo_180 zh_cX5_read_2 11 rfl
theorem dX5_read_54 : decode cX5_read 54 = .ok (.getfield 36, 3) := zo_180 zh_cX5_read_2 14 rfl
theorem dX5_read_57 : decode cX5_read 57 = .ok (.if_icmp .ge 7, 3) := zo_p162 zh_cX5_read_2 17 7 rfl rfl
theorem zh_cX5_read_3 : zck [42, 182, 0, 39, 42, 180, 0, 26, 156, 0, 24, 187, 0, 42, 89, 42, 180, 0, 9, 42, 180, 0] (zdu 60 cX5_read.data.toList) = true := by decide +kernel
theorem dX5_read_60 : decode cX5_read 60 = .ok (.aload_n 0, 1) := zo_42 zh_cX5_read_3 0 rfl
theorem dX5_read_61 : decode cX5_read 61 = .ok (.invokevirtual 39, 3) := zo_182 zh_cX5_read_3 1 rfl
theorem dX5_read_64 : decode cX5_read 64 = .ok (.aload_n 0, 1) := zo_42 zh_cX5_read_3 4 rfl
theorem dX5_read_65 : decode cX5_read 65 = .ok (.getfield 26, 3) := zo_180 zh_cX5_read_3 5 rfl
theorem dX5_read_68 : decode cX5_read 68 = .ok (.ifCond .ge 24, 3) := zo_p156 zh_cX5_read_3 8 24 rfl rfl
theorem dX5_read_71 : decode cX5_read 71 = .ok (.new 42, 3) := zo_187 zh_cX5_read_3 11 rfl
theorem dX5_read_74 : decode cX5_read 74 = .ok (.dup, 1) := zo_89 zh_cX5_read_3 14 rfl
theorem dX5_read_75 : decode cX5_read 75 = .ok (.aload_n 0, 1) := zo_42 zh_cX5_read_3 15 rfl
theorem dX5_read_76 : decode cX5_read 76 = .ok (.getfield 9, 3) := zo_180 zh_cX5_read_3 16 rfl
theorem dX5_read_79 : decode cX5_read 79 = .ok (.aload_n 0, 1) := zo_42 zh_cX5_read_3 19 rfl
theorem zh_cX5_read_4 : zck [180, 0, 23, 184, 0, 44, 183, 0, 50, 167, 0, 4, 1, 176] (zdu 80 cX5_read.data.toList) = true := by decide +kernel
theorem dX5_read_80 : decode cX5_read 80 = .ok (.getfield 23, 3) := zo_180 zh_cX5_read_4 0 rfl
theorem dX5_read_83 : decode cX5_read 83 = .ok (.invokestatic 44, 3) := zo_184 zh_cX5_read_4 3 rfl
theorem dX5_read_86 : decode cX5_read 86 = .ok (.invokespecial 50, 3) := zo_183 zh_cX5_read_4 6 rfl
theorem dX5_read_89 : decode cX5_read 89 = .ok (.goto 4, 3) := zo_p167 zh_cX5_read_4 9 4 rfl rfl
theorem dX5_read_92 : decode cX5_read 92 = .ok (.aconst_null, 1) := zo_1 zh_cX5_read_4 12 rfl
theorem dX5_read_93 : decode cX5_read 93 = .ok (.areturn, 1) := zo_176 zh_cX5_read_4 13 rfl
theorem zh_cJ7_copyOf_59c91_0 : zck [27, 42, 190, 160, 0, 11, 42, 182, 1, 60, 192, 1, 61, 176, 27, 188, 10, 77, 42, 3, 44, 3] (zdu 0 cJ7_copyOf_59c91.data.toList) = true := by decide +kernel
theorem dJ7_copyOf_59c91_0 : decode cJ7_copyOf_59c91 0 = .ok (.iload_n 1, 1) := zo_27 zh_cJ7_copyOf_59c91_0 0 rfl
theorem dJ7_copyOf_59c91_1 : decode cJ7_copyOf_59c91 1 = .ok (.aload_n 0, 1) := zo_42 zh_cJ7_copyOf_59c91_0 1 rfl
theorem dJ7_copyOf_59c91_2 : decode cJ7_copyOf_59c91 2 = .ok (.arraylength, 1) := zo_190 zh_cJ7_copyOf_59c91_0 2 rfl
theorem dJ7_copyOf_59c91_3 : decode cJ7_copyOf_59c91 3 = .ok (.if_icmp .ne 11, 3) := zo_p160 zh_cJ7_copyOf_59c91_0 3 11 rfl rfl
theorem dJ7_copyOf_59c91_6 : decode cJ7_copyOf_59c91 6 = .ok (.aload_n 0, 1) := zo_42 zh_cJ7_copyOf_59c91_0 6 rfl
theorem dJ7_copyOf_59c91_7 : decode cJ7_copyOf_59c91 7 = .ok (.invokevirtual 316, 3) := zo_182 zh_cJ7_copyOf_59c91_0 7 rfl
theorem zo_192 {c : ByteArray} {s : Nat} {K : List Nat} (h : zck K (zdu s c.data.toList) = true) (k : Nat) {v : Nat} (hk : zt3 K k 192 v = true) : decode c (s + k) = .ok (.checkcast v, 3) := zde ((zbd (zu1 (zh3 h hk).1)).trans ((zbd (f := fun x => pure (Instr.checkcast x)) (zh3 h hk).2).trans rfl))
theorem dJ7_copyOf_59c91_10 : decode cJ7_copyOf_59c91 10 = .ok (.checkcast 317, 3) := zo_192 zh_cJ7_copyOf_59c91_0 10 rfl
theorem dJ7_copyOf_59c91_13 : decode cJ7_copyOf_59c91 13 = .ok (.areturn, 1) := zo_176 zh_cJ7_copyOf_59c91_0 13 rfl
theorem dJ7_copyOf_59c91_14 : decode cJ7_copyOf_59c91 14 = .ok (.iload_n 1, 1) := zo_27 zh_cJ7_copyOf_59c91_0 14 rfl
theorem dJ7_copyOf_59c91_15 : decode cJ7_copyOf_59c91 15 = .ok (.newarray .int, 2) := zo_188_int zh_cJ7_copyOf_59c91_0 15 rfl
theorem dJ7_copyOf_59c91_17 : decode cJ7_copyOf_59c91 17 = .ok (.astore_n 2, 1) := zo_77 zh_cJ7_copyOf_59c91_0 17 rfl
theorem dJ7_copyOf_59c91_18 : decode cJ7_copyOf_59c91 18 = .ok (.aload_n 0, 1) := zo_42 zh_cJ7_copyOf_59c91_0 18 rfl
theorem dJ7_copyOf_59c91_19 : decode cJ7_copyOf_59c91 19 = .ok (.iconst 0, 1) := zo_3 zh_cJ7_copyOf_59c91_0 19 rfl
theorem zh_cJ7_copyOf_59c91_1 : zck [44, 3, 42, 190, 27, 184, 1, 48, 184, 0, 150, 44, 176] (zdu 20 cJ7_copyOf_59c91.data.toList) = true := by decide +kernel
theorem dJ7_copyOf_59c91_20 : decode cJ7_copyOf_59c91 20 = .ok (.aload_n 2, 1) := zo_44 zh_cJ7_copyOf_59c91_1 0 rfl
theorem dJ7_copyOf_59c91_21 : decode cJ7_copyOf_59c91 21 = .ok (.iconst 0, 1) := zo_3 zh_cJ7_copyOf_59c91_1 1 rfl
theorem dJ7_copyOf_59c91_22 : decode cJ7_copyOf_59c91 22 = .ok (.aload_n 0, 1) := zo_42 zh_cJ7_copyOf_59c91_1 2 rfl
theorem dJ7_copyOf_59c91_23 : decode cJ7_copyOf_59c91 23 = .ok (.arraylength, 1) := zo_190 zh_cJ7_copyOf_59c91_1 3 rfl
theorem dJ7_copyOf_59c91_24 : decode cJ7_copyOf_59c91 24 = .ok (.iload_n 1, 1) := zo_27 zh_cJ7_copyOf_59c91_1 4 rfl
theorem dJ7_copyOf_59c91_25 : decode cJ7_copyOf_59c91 25 = .ok (.invokestatic 304, 3) := zo_184 zh_cJ7_copyOf_59c91_1 5 rfl
theorem dJ7_copyOf_59c91_28 : decode cJ7_copyOf_59c91 28 = .ok (.invokestatic 150, 3) := zo_184 zh_cJ7_copyOf_59c91_1 8 rfl
theorem dJ7_copyOf_59c91_31 : decode cJ7_copyOf_59c91 31 = .ok (.aload_n 2, 1) := zo_44 zh_cJ7_copyOf_59c91_1 11 rfl
theorem dJ7_copyOf_59c91_32 : decode cJ7_copyOf_59c91 32 = .ok (.areturn, 1) := zo_176 zh_cJ7_copyOf_59c91_1 12 rfl
abbrev z_X5_read : List Cond := .code yX5_read cX5_read 2 (some (.object "AlreadyJudged$Law")) :: zW
abbrev wl_X5_read (ad : Nat → Nat) (cs : Nat → ClassId)  (tape_size : Int32) (tape_bytes : Nat → Int32) (lr_size : Int32) (lr_at : Int32) (lr_fault : Int32) (lr_code : Nat → Int32) : va_W := [((ad 23), .inr (9, [.ref (ad 24), .int tape_size])), ((ad 24), .inl (cs 0, 120, .inl tape_bytes)), ((ad 26), .inr (5, [.ref (ad 23), .ref (ad 27), .int lr_size, .int lr_at, .int lr_fault])), ((ad 27), .inl (cs 0, 121, .inl lr_code))]
def Q_X5_read (D : va_G) (cs : Nat → ClassId) (ad : Nat → Nat) (tape_size : Int32) (tape_bytes : Nat → Int32) (A : Nat → Prop) (R : Bool × Int32 × Int32 × Int32 × (Nat → Int32)) : Array Value → State → Outcome → State → Prop :=
  va_Qq (fun (r : Option Nat) (z : (Int32 × Int32 × Int32 × (Nat → Int32)) × Nat × Nat) => r = (if R.1 = true then some z.2.1 else none) ∧ z.1 = R.2) (fun (z : (Int32 × Int32 × Int32 × (Nat → Int32)) × Nat × Nat) (t : State) => va_P D classes ((wl_X5_read ad cs tape_size tape_bytes z.1.1 z.1.2.1 z.1.2.2.1 z.1.2.2.2) ++ (if R.1 = true then [(z.2.1, .inr (4, [.ref z.2.2])), (z.2.2, .inl (cs 0, z.1.1.toNatClampNeg, .inl (va_cpy z.1.2.2.2 (fun _ => 0) 0 0 z.1.1.toNatClampNeg)))] else [])) t.heap ∧ va_D A ((wl_X5_read ad cs tape_size tape_bytes z.1.1 z.1.2.1 z.1.2.2.1 z.1.2.2.2) ++ (if R.1 = true then [(z.2.1, .inr (4, [.ref z.2.2])), (z.2.2, .inl (cs 0, z.1.1.toNatClampNeg, .inl (va_cpy z.1.2.2.2 (fun _ => 0) 0 0 z.1.1.toNatClampNeg)))] else []))) A
abbrev rm_X5_read : Room := { frames := 302, cells := 2, slots := 122, locals := 6825 }
theorem g_X5_29 : GoodIn zW (wsV RX5 29 RX5 yX5_readLine z_X5_readLine) := zGV kw_541 kw_542 kw_543 kw_80 kw_544
theorem hd_X5_readLine : yX5_readLine.cls ≠ "java/lang/invoke/MethodHandle" ∧ yX5_readLine.cls ≠ "java/lang/invoke/VarHandle" ∧ (parseMethodDescriptor yX5_readLine.desc).map (fun d => d.parameters.length) = some 0 := by decide +kernel

theorem zz_cl {x : Int32} {n : Nat} (g : ¬ (x < 0 ∨ n ≤ x.toNatClampNeg)) (y : Int32) (hy : y.toInt = n) : x < y := by
  have h1 : ¬ n ≤ x.toNatClampNeg := fun z => g (Or.inr z)
  have h2 : x.toNatClampNeg = x.toInt.toNat := rfl
  rw [Int32.lt_iff_toInt_lt]
  omega
abbrev z_J7_copyOf_59c91 : List Cond := .code yJ7_copyOf_59c91 cJ7_copyOf_59c91 3 (some (.array .int)) :: zW
abbrev rm_J7_copyOf_59c91 : Room := { frames := 1, cells := 1, slots := 121, locals := 2000 }
set_option maxHeartbeats 4000000 in
set_option maxRecDepth 100000 in
theorem c_copyOfA (l : Launch) (D : va_G) (cs : Nat → ClassId) (h0 : Nat) (sz : Nat) (f : Nat → Int32) (x1 : Int32) (g : ¬ (x1 < 0 ∨ 121 ≤ x1.toNatClampNeg)) : Met l yJ7_copyOf_59c91 z_J7_copyOf_59c91 rm_J7_copyOf_59c91 (va_Pc [.ref h0, .int x1] (zPre D cs [(h0, .inl (cs 0, 121, .inl f))] sz)) (va_Qr (fun (_ : Unit) => True) (fun (_ : Unit) (a : Nat) (t : State) => va_P D classes [(h0, .inl (cs 0, 121, .inl f)), (a, .inl (cs 0, x1.toNatClampNeg, .inl (va_cpy f (fun _ => 0) 0 0 x1.toNatClampNeg)))] t.heap ∧ va_D (va_A [(h0, .inl (cs 0, 121, .inl f))] sz) [(h0, .inl (cs 0, 121, .inl f)), (a, .inl (cs 0, x1.toNatClampNeg, .inl (va_cpy f (fun _ => 0) 0 0 x1.toNatClampNeg)))]) (va_A [(h0, .inl (cs 0, 121, .inl f))] sz)) 1 121 (va_A [(h0, .inl (cs 0, 121, .inl f))] sz) := by
  have hlt : x1 < 121 := zz_cl g 121 (by decide)
  have hn0 : ¬ x1 < 0 := fun z => g (Or.inl z)
  have hn1 : ¬ 121 ≤ x1.toNatClampNeg := fun z => g (Or.inr z)
  refine Met.ofW (cc := cJ7_copyOf_59c91) (maxL := 3) (ret := (some (.array .int))) (by decide) rfl ?_
  intro p e s m args below meth c s₁ B hml hv
  obtain ⟨rfl, hsz, hP, hK, hD0⟩ := hv
  subst hsz
  have hD := hD0.self (sz := s.heap.size)
  have hx := B.exec
  have hb := B.bytes
  have hr := B.returns
  have ht : ∀ w ∈ zW, w.before _ s = true := fun w hw => atoms_spec (ws := z_J7_copyOf_59c91) B.pre w (List.mem_cons_of_mem _ hw)
  have hown : s.vm.findClass RJ7 = some m.cls := findClass_of_methodNamed B.named
  have hlocks := B.notSynchronized
  generalize hAe : va_A [(h0, .inl (cs 0, 121, .inl f))] s.heap.size = A at hD ⊢
  have hA : ∀ q : Nat, s.heap.size ≤ q → A q := fun q h => by rw [← hAe]; exact Or.inr h
  have hS : va_S A s.heap s.heap [] := va_S.rf
  have hl := lv_entry ([.ref h0, .int x1]) (n := 3) (Nat.le_of_ble_eq_true rfl)
  rw [lg_entry_eq]
  generalize (lg_sl ([.ref h0, .int x1]) ++ List.replicate (3 - (lg_sl ([.ref h0, .int x1])).length) Slot.unset).toArray = ls at hl ⊢
  refine lv_iload_n hx hb dJ7_copyOf_59c91_0 rfl (lv_at hl 1 rfl) ?_
  refine lv_aload_n hx hb dJ7_copyOf_59c91_1 rfl (lv_at hl 0 rfl) ?_
  refine va_alen (v := (121 : Int32)) hx hb hK hP 0 0 rfl rfl rfl dJ7_copyOf_59c91_2 ?_
  refine lv_icmp_ne (tgt := 14) hx hb dJ7_copyOf_59c91_3 (by decide) (fun c_1 => ?_) (fun c_1 => absurd hlt (by rw [c_1]; decide))
  refine lv_iload_n hx hb dJ7_copyOf_59c91_14 rfl (lv_at hl 1 rfl) ?_
  refine zk_newa (atype := .int) (ty := .int) (a0 := (x1.toNatClampNeg, .inl (fun _ => 0))) (N' := x1.toNatClampNeg) hx hb (ht _ kw_184) rfl hK 0 rfl (by intro C h; cases h) hP hD hS hA (fun _ => rfl) hn0 rfl (by show x1.toNatClampNeg * 4 ≤ 536870912; omega) (by show 0 + 1 ≤ 1; omega) (by show 0 + x1.toNatClampNeg ≤ 121; omega) dJ7_copyOf_59c91_15 (fun q H hP hD hS => ?_)
  refine W.widen (k := 1) (n := 121) (by omega) (by omega) ?_
  refine lv_astore_n (lv' := [(2, .ref q), (0, .ref h0), (1, .int x1)]) hx hb dJ7_copyOf_59c91_17 rfl hl (by decide) rfl (fun ls hl => ?_)
  refine lv_aload_n hx hb dJ7_copyOf_59c91_18 rfl (lv_at hl 1 rfl) ?_
  refine lv_iconst (v := (0 : Int32)) hx hb dJ7_copyOf_59c91_19 (by decide) ?_
  refine lv_aload_n hx hb dJ7_copyOf_59c91_20 rfl (lv_at hl 0 rfl) ?_
  refine lv_iconst (v := (0 : Int32)) hx hb dJ7_copyOf_59c91_21 (by decide) ?_
  refine lv_aload_n hx hb dJ7_copyOf_59c91_22 rfl (lv_at hl 1 rfl) ?_
  refine va_alen (v := (121 : Int32)) hx hb hK hP 0 0 rfl rfl rfl dJ7_copyOf_59c91_23 ?_
  refine lv_iload_n hx hb dJ7_copyOf_59c91_24 rfl (lv_at hl 2 rfl) ?_
  refine va_mmin hx hb (by rw [hml]; exact hl.1.symm) hown (ht _ kw_662) (ht _ kw_606) (ht _ kw_89) (ht _ kw_607) (Nat.le_of_ble_eq_true rfl) (Nat.le_of_ble_eq_true rfl) (Nat.le_of_ble_eq_true rfl) (Nat.le_of_ble_eq_true rfl) dJ7_copyOf_59c91_25 ?_
  refine W.eq (g2 := F0 m 28 ls [.int x1, .int 0, .ref q, .int 0, .ref h0]) (by rw [if_pos hlt]) ?_
  refine va_copyi hx hb (by rw [hml]; exact hl.1.symm) hown (ht _ kw_663) (ht _ kw_665) (ht _ kw_664) (ht _ kw_93) hK hP hD hS 0 1 0 0 rfl rfl rfl rfl rfl (by decide) (by decide) hn0 (by show 0 + x1.toNatClampNeg ≤ 121; omega) (by show 0 + x1.toNatClampNeg ≤ x1.toNatClampNeg; omega) (fun i hi => rfl) (Nat.le_of_ble_eq_true rfl) (Nat.le_of_ble_eq_true rfl) dJ7_copyOf_59c91_28 (fun H locs hP hD hS => ?_)
  have hP : va_P D classes [(h0, .inl (cs 0, 121, .inl f)), (q, .inl (cs 0, x1.toNatClampNeg, .inl (va_cpy f (fun _ => 0) 0 0 x1.toNatClampNeg)))] H := hP
  have hD : va_D A [(h0, .inl (cs 0, 121, .inl f)), (q, .inl (cs 0, x1.toNatClampNeg, .inl (va_cpy f (fun _ => 0) 0 0 x1.toNatClampNeg)))] := hD
  refine lv_aload_n hx hb dJ7_copyOf_59c91_31 rfl (lv_at hl 0 rfl) ?_
  exact W.aret (v := .ref q) hx hb hr (Or.inr ⟨_, rfl⟩) (Or.inr ⟨_, rfl⟩) (fun t ht2 hW => ⟨⟨(), q, rfl, trivial, by rw [ht2]; exact hP, hD⟩, hS.F ht2⟩) hS.2.2 dJ7_copyOf_59c91_32 hlocks
theorem arr_eq {cA : ClassId} {n : Nat} {f g : Nat → Int32} (h : ∀ j, j < n → f j = g j) : vp_cell cA (n, .inl f) = vp_cell cA (n, .inl g) := by
  rw [vp_cell_i, vp_cell_i]
  unfold arrV
  congr 1
  congr 1
  funext j
  exact congrArg Value.int (h j.val j.isLt)
theorem zD_same {A : Nat → Prop} {w w2 : va_W} (h : va_D A w) (hs : ∀ (k : Nat) (p : Nat × va_E), w2[k]? = some p → ∃ p0, w[k]? = some p0 ∧ p0.1 = p.1) : va_D A w2 := by
  refine ⟨fun i j p q hi hj e => ?_, fun k q hk => ?_⟩
  · obtain ⟨p0, a1, b1⟩ := hs i p hi
    obtain ⟨q0, a2, b2⟩ := hs j q hj
    exact h.1 i j p0 q0 a1 a2 (by rw [b1, b2]; exact e)
  · obtain ⟨q0, a1, b1⟩ := hs k q hk
    rw [← b1]
    exact h.2 k q0 a1
set_option maxHeartbeats 4000000 in
set_option maxRecDepth 100000 in
theorem c_copyOfB (l : Launch) (D : va_G) (cs : Nat → ClassId) (k : (Nat → Nat) × (Nat → Nat)) (h0 : Nat) (sz : Nat) (f : Nat → Int32) : Met l yJ7_copyOf_59c91 z_J7_copyOf_59c91 rm_J7_copyOf_59c91 (va_Pc [.ref h0, .int (121 : Int32)] (zPreE k D cs [(h0, .inl (cs 0, 121, .inl f))] sz)) (va_Qr (fun (_ : Unit) => True) (fun (_ : Unit) (a : Nat) (t : State) => va_P D classes [(h0, .inl (cs 0, 121, .inl f)), (a, .inl (cs 0, (121 : Int32).toNatClampNeg, .inl (va_cpy f (fun _ => 0) 0 0 (121 : Int32).toNatClampNeg)))] t.heap ∧ va_D (va_A [(h0, .inl (cs 0, 121, .inl f))] sz) [(h0, .inl (cs 0, 121, .inl f)), (a, .inl (cs 0, (121 : Int32).toNatClampNeg, .inl (va_cpy f (fun _ => 0) 0 0 (121 : Int32).toNatClampNeg)))]) (va_A [(h0, .inl (cs 0, 121, .inl f))] sz)) 1 121 (va_A [(h0, .inl (cs 0, 121, .inl f))] sz) := by
  refine Met.ofW (cc := cJ7_copyOf_59c91) (maxL := 3) (ret := (some (.array .int))) (by decide) rfl ?_
  intro p e s m args below meth c s₁ B hml hv
  obtain ⟨rfl, ⟨⟨hsz, hP, hK, hD0⟩, hO⟩, hE⟩ := hv
  subst hsz
  have hD := hD0.self (sz := s.heap.size)
  have hx := B.exec
  have hb := B.bytes
  have hr := B.returns
  have ht : ∀ w ∈ zW, w.before _ s = true := fun w hw => atoms_spec (ws := z_J7_copyOf_59c91) B.pre w (List.mem_cons_of_mem _ hw)
  have hown : s.vm.findClass RJ7 = some m.cls := findClass_of_methodNamed B.named
  have hlocks := B.notSynchronized
  generalize hAe : va_A [(h0, .inl (cs 0, 121, .inl f))] s.heap.size = A at hD ⊢
  have hA : ∀ q : Nat, s.heap.size ≤ q → A q := fun q h => by rw [← hAe]; exact Or.inr h
  have hS : va_S A s.heap s.heap [] := va_S.rf
  have hnm : s.vm.findClass "[I" = some (cs 0) := by
    have h := (hK.2 0 (cs 0, .int) rfl).2
    have h1 : s.vm.findClass ("[" ++ FieldType.toString .int) = some (cs 0) := h
    have e1 : ("[" ++ FieldType.toString .int) = "[I" := by decide
    rw [e1] at h1
    exact h1
  have hl := lv_entry ([.ref h0, .int (121 : Int32)]) (n := 3) (Nat.le_of_ble_eq_true rfl)
  rw [lg_entry_eq]
  generalize (lg_sl ([.ref h0, .int (121 : Int32)]) ++ List.replicate (3 - (lg_sl ([.ref h0, .int (121 : Int32)])).length) Slot.unset).toArray = ls at hl ⊢
  refine lv_iload_n hx hb dJ7_copyOf_59c91_0 rfl (lv_at hl 1 rfl) ?_
  refine lv_aload_n hx hb dJ7_copyOf_59c91_1 rfl (lv_at hl 0 rfl) ?_
  refine va_alen (v := (121 : Int32)) hx hb hK hP 0 0 rfl rfl rfl dJ7_copyOf_59c91_2 ?_
  refine lv_icmp_ne (tgt := 14) hx hb dJ7_copyOf_59c91_3 (by decide) (fun c_1 => absurd rfl c_1) (fun c_1 => ?_)
  refine lv_aload_n hx hb dJ7_copyOf_59c91_6 rfl (lv_at hl 0 rfl) ?_
  refine va_clone (ad := "[I") (ty := .int) hx hb (by rw [hml]; exact hl.1.symm) hown (ht _ kw_655) (ht _ kw_656) (ht _ kw_657) (ht _ kw_658) (ht _ kw_659) hE.2.2.2.2 hK hP hD hS hA 0 0 rfl rfl hnm (fun i v hv => va_fit (F := fun j => .int (f j)) (fun _ _ => rfl) i v hv) (Nat.le_of_ble_eq_true rfl) (Nat.le_of_ble_eq_true rfl) (Nat.le_of_ble_eq_true rfl) (Nat.le_of_ble_eq_true rfl) dJ7_copyOf_59c91_7 (fun q H hK2 hP hD hS => ?_)
  refine va_castA hx hb hown (ht _ kw_661) hP 1 rfl hnm dJ7_copyOf_59c91_10 ?_
  refine W.widen (k := 1) (n := 121) (Nat.le_of_ble_eq_true rfl) (Nat.le_of_ble_eq_true rfl) ?_
  have e121 : (121 : Int32).toNatClampNeg = 121 := by decide
  have hP2 : va_P D classes [(h0, .inl (cs 0, 121, .inl f)), (q, .inl (cs 0, (121 : Int32).toNatClampNeg, .inl (va_cpy f (fun _ => 0) 0 0 (121 : Int32).toNatClampNeg)))] H := by
    rw [e121]
    intro i y hy
    match i, hy with
    | 0, hy => exact hP 0 y hy
    | 1, hy =>
      cases hy
      have h2 : H[q]? = some (vp_cell (cs 0) (121, .inl f)) := hP 1 _ rfl
      show H[q]? = some (vp_cell (cs 0) (121, .inl (va_cpy f (fun _ => 0) 0 0 121)))
      rw [h2]
      exact congrArg some (arr_eq (fun j hj => by unfold va_cpy; rw [if_pos ⟨Nat.zero_le _, by omega⟩, Nat.sub_zero, Nat.zero_add]))
    | n + 2, hy => cases hy
  have hD2 : va_D A [(h0, .inl (cs 0, 121, .inl f)), (q, .inl (cs 0, (121 : Int32).toNatClampNeg, .inl (va_cpy f (fun _ => 0) 0 0 (121 : Int32).toNatClampNeg)))] := by
    refine zD_same hD (fun i y hy => ?_)
    match i, hy with
    | 0, hy => exact ⟨y, hy, rfl⟩
    | 1, hy => cases hy; exact ⟨_, rfl, rfl⟩
    | n + 2, hy => cases hy
  exact W.aret (v := .ref q) hx hb hr (Or.inr ⟨_, rfl⟩) (Or.inr ⟨_, rfl⟩) (fun t ht2 hW => ⟨⟨(), q, rfl, trivial, by rw [ht2]; exact hP2, hD2⟩, hS.F ht2⟩) hS.2.2 dJ7_copyOf_59c91_13 hlocks
theorem c_copyOf (l : Launch) (D : va_G) (cs : Nat → ClassId) (k : (Nat → Nat) × (Nat → Nat)) (h0 : Nat) (sz : Nat) (f : Nat → Int32) (x1 : Int32) (g : ¬ (x1 < 0 ∨ 122 ≤ x1.toNatClampNeg)) : Met l yJ7_copyOf_59c91 z_J7_copyOf_59c91 rm_J7_copyOf_59c91 (va_Pc [.ref h0, .int x1] (zPreE k D cs [(h0, .inl (cs 0, 121, .inl f))] sz)) (va_Qr (fun (_ : Unit) => True) (fun (_ : Unit) (a : Nat) (t : State) => va_P D classes [(h0, .inl (cs 0, 121, .inl f)), (a, .inl (cs 0, x1.toNatClampNeg, .inl (va_cpy f (fun _ => 0) 0 0 x1.toNatClampNeg)))] t.heap ∧ va_D (va_A [(h0, .inl (cs 0, 121, .inl f))] sz) [(h0, .inl (cs 0, 121, .inl f)), (a, .inl (cs 0, x1.toNatClampNeg, .inl (va_cpy f (fun _ => 0) 0 0 x1.toNatClampNeg)))]) (va_A [(h0, .inl (cs 0, 121, .inl f))] sz)) 1 121 (va_A [(h0, .inl (cs 0, 121, .inl f))] sz) := by
  by_cases hq : x1 = 121
  · subst hq
    exact c_copyOfB l D cs k h0 sz f
  · refine zMetE (c_copyOfA l D cs h0 sz f x1 (fun z => ?_))
    rcases z with z | z
    · exact g (Or.inl z)
    · have e121 : (121 : Int32).toInt = 121 := by decide
      have h1 : x1.toNatClampNeg = x1.toInt.toNat := rfl
      have h2 : x1.toInt ≠ 121 := fun z2 => hq (Int32.toInt_inj.mp (z2.trans e121.symm))
      exact g (Or.inr (by omega))
theorem g_X5_copyOf : GoodIn zW (va_wsS RX5 44 yJ7_copyOf_59c91 z_J7_copyOf_59c91) := zGS kw_652 kw_653 kw_92 kw_654
set_option maxHeartbeats 4000000 in
set_option maxRecDepth 100000 in
theorem zz_law71 {p : Program} {l : Launch} {e : Env} {s : State} {m : MethodId} {args : Array Value} {below : List Frame} {meth : Method} {c : Code} {A : Nat → Prop} {D : va_G} {cs : Nat → ClassId} {ad : Nat → Nat} {tape_size : Int32} {tape_bytes : Nat → Int32} (C0 : zC p s m args meth c cX5_read 2 (some (.object "AlreadyJudged$Law")) RX5 zW) (hK : va_K D classes (zT cs) s) {k : (Nat → Nat) × (Nat → Nat)} (hO : zO s) (hE : zE k A s) (hA : ∀ q : Nat, s.heap.size ≤ q → A q) (lr_size : Int32) (lr_at : Int32) (lr_fault : Int32) (lr_code : Nat → Int32) (g : ¬ (lr_size < 0 ∨ 122 ≤ lr_size.toNatClampNeg)) (H : Heap) (locs : List Loc) (ls : Array Slot) (hP : va_P D classes (wl_X5_read ad cs tape_size tape_bytes lr_size lr_at lr_fault lr_code) H) (hD : va_D A (wl_X5_read ad cs tape_size tape_bytes lr_size lr_at lr_fault lr_code)) (hS : va_S A s.heap H locs) (hl : lv_has ls 2 [(0, .ref (ad 26))]) : W p l e rm_X5_read s m args below meth c H locs 0 0 (MQ below (Q_X5_read D cs ad tape_size tape_bytes A (true, lr_size, lr_at, lr_fault, lr_code)) args s 2 122 A) (F0 m 71 ls []) := by
  obtain ⟨hx, hb, hr, hml, hown, ht, hlocks⟩ := id C0
  refine va_new (ci := 4) (fs := [.null]) (C := RX4) (T := TX4) (N := 1) hx hb ht iX4 tyX4 tyX4_ok hown (ht _ kw_650) (ht _ kw_651) (ht _ kw_91) hK hP hD hS hA rfl (zkDX4) (Nat.le_of_ble_eq_true rfl) (Nat.le_of_ble_eq_true rfl) dX5_read_71 (fun qL H hP hD hS => ?_)
  have hP : va_P D classes ((wl_X5_read ad cs tape_size tape_bytes lr_size lr_at lr_fault lr_code) ++ [(qL, .inr (4, [.null]))]) H := hP
  have hD : va_D A ((wl_X5_read ad cs tape_size tape_bytes lr_size lr_at lr_fault lr_code) ++ [(qL, .inr (4, [.null]))]) := hD
  refine lv_dup hx hb dX5_read_74 rfl ?_
  refine lv_aload_n hx hb dX5_read_75 rfl (lv_at hl 0 rfl) ?_
  refine va_get (D := D) (ci := 5) (v := .ref (ad 27)) (C := RX5) (T := TX5) (N := 5) hx hb ht iX5 hown hK hP 2 rfl rfl 1 (by decide) (ht _ kw_275) (fun _ h9 => h9) rfl dX5_read_76 ?_
  refine lv_aload_n hx hb dX5_read_79 rfl (lv_at hl 0 rfl) ?_
  refine va_get (D := D) (ci := 5) (v := .int lr_size) (C := RX5) (T := TX5) (N := 5) hx hb ht iX5 hown hK hP 2 rfl rfl 2 (by decide) (ht _ kw_276) (fun _ h9 => h9) rfl dX5_read_80 ?_
  have hPc : va_P D classes [(ad 27, .inl (cs 0, 121, .inl lr_code))] H := hP.sub [3] rfl
  have hDc : va_D A [(ad 27, .inl (cs 0, 121, .inl lr_code))] := hD.sub [3] rfl rfl
  have hFc := va_free (wc := [(ad 27, .inl (cs 0, 121, .inl lr_code))]) hD hS hA [3] rfl
  refine va_callr (va_runS (As := [.ref (ad 27), .int lr_size]) (rest := [.ref qL, .ref qL]) ⟨hx, hb, hml, hown, ht⟩ (c_copyOf l D cs k (ad 27) H.size lr_code lr_size g) (va_cwS 2 ht g_X5_copyOf rfl rfl rfl (by decide +kernel) ⟨Nat.le_of_ble_eq_true rfl, Nat.le_of_ble_eq_true rfl⟩) ⟨zPreE_blind, fun U hU hW => ⟨rfl, ⟨⟨by rw [hU], by rw [hU]; exact hPc, va_K.moved hW.alike hK, hDc.weaken (fun _ _ _ _ => trivial)⟩, zO.warm hW hO⟩, hE.go hW hU hS hFc⟩⟩ rfl rfl hl.1 rfl (lv_room (Nat.le_of_ble_eq_true rfl)) dX5_read_83 ⟨Nat.le_of_ble_eq_true rfl, Nat.le_of_ble_eq_true rfl⟩) hS (fun q _ h => hFc q h) hFc (fun u qC t H1 locs1 ht2 hvm hw hB hz1 hk1 hS => ?_)
  have hB : va_P D classes [(ad 27, .inl (cs 0, 121, .inl lr_code)), (qC, .inl (cs 0, lr_size.toNatClampNeg, .inl (va_cpy lr_code (fun _ => 0) 0 0 lr_size.toNatClampNeg)))] t.heap ∧ va_D (va_A [(ad 27, .inl (cs 0, 121, .inl lr_code))] H.size) [(ad 27, .inl (cs 0, 121, .inl lr_code)), (qC, .inl (cs 0, lr_size.toNatClampNeg, .inl (va_cpy lr_code (fun _ => 0) 0 0 lr_size.toNatClampNeg)))] := hB
  rw [ht2] at hB
  obtain ⟨hP, hD⟩ := va_join (wr := [((ad 23), .inr (9, [.ref (ad 24), .int tape_size])), ((ad 24), .inl (cs 0, 120, .inl tape_bytes)), ((ad 26), .inr (5, [.ref (ad 23), .ref (ad 27), .int lr_size, .int lr_at, .int lr_fault])), (qL, .inr (4, [.null]))]) hP hD [3] [0, 1, 2, 4] rfl rfl (by decide) (by decide) hk1 hFc hB.1 hB.2
  have hP : va_P D classes ((wl_X5_read ad cs tape_size tape_bytes lr_size lr_at lr_fault lr_code) ++ [(qL, .inr (4, [.null])), (qC, .inl (cs 0, lr_size.toNatClampNeg, .inl (va_cpy lr_code (fun _ => 0) 0 0 lr_size.toNatClampNeg)))]) H1 := hP.sub [0, 1, 2, 4, 3, 5] rfl
  have hD : va_D A ((wl_X5_read ad cs tape_size tape_bytes lr_size lr_at lr_fault lr_code) ++ [(qL, .inr (4, [.null])), (qC, .inl (cs 0, lr_size.toNatClampNeg, .inl (va_cpy lr_code (fun _ => 0) 0 0 lr_size.toNatClampNeg)))]) := hD.sub [0, 1, 2, 4, 3, 5] rfl rfl
  refine zk_iv (post := fun _ => True) (w1 := fun (_ : Nat → Nat) => [(qL, .inr (4, [.ref qC]))]) (As := [.ref qC]) (rest := [.ref qL]) (ci_X4_init l D cs qL qC H1.size) ⟨hx, hb, hml, hown, ht⟩ (cwI 1 ht (zGN kw_668) rfl rfl rfl (ht _ kw_91) (ht _ kw_666) (ht _ kw_667) rfl (by decide +kernel) ⟨Nat.le_of_ble_eq_true rfl, Nat.le_of_ble_eq_true rfl⟩) hP hD hS hK hA [4] [0, 1, 2, 3, 5] rfl rfl rfl rfl (by decide) rfl hl.1 (Nat.le_of_ble_eq_true rfl) dX5_read_86 ⟨Nat.le_of_ble_eq_true rfl, Nat.le_of_ble_eq_true rfl⟩ (fun u H locs hq hP hD hS => ?_)
  have hP : va_P D classes ((wl_X5_read ad cs tape_size tape_bytes lr_size lr_at lr_fault lr_code) ++ [(qL, .inr (4, [.ref qC])), (qC, .inl (cs 0, lr_size.toNatClampNeg, .inl (va_cpy lr_code (fun _ => 0) 0 0 lr_size.toNatClampNeg)))]) H := hP.sub [0, 1, 2, 3, 5, 4] rfl
  have hD : va_D A ((wl_X5_read ad cs tape_size tape_bytes lr_size lr_at lr_fault lr_code) ++ [(qL, .inr (4, [.ref qC])), (qC, .inl (cs 0, lr_size.toNatClampNeg, .inl (va_cpy lr_code (fun _ => 0) 0 0 lr_size.toNatClampNeg)))]) := hD.sub [0, 1, 2, 3, 5, 4] rfl rfl
  refine lv_goto (tgt := 93) hx hb dX5_read_89 (by decide) ?_
  refine W.widen (k := 2) (n := 122) (Nat.le_of_ble_eq_true rfl) (Nat.le_of_ble_eq_true rfl) ?_
  exact W.aret (v := va_rf (some qL)) hx hb hr (Or.inl ⟨_, rfl⟩) (Or.inr ⟨_, rfl⟩) (fun t ht2 hW => ⟨⟨some qL, ((lr_size, lr_at, lr_fault, lr_code), qL, qC), rfl, ⟨rfl, rfl⟩, by rw [ht2]; exact hP, hD⟩, hS.F ht2⟩) hS.2.2 dX5_read_93 hlocks

def B_X5_read_64   (g21 : Int32 → Int32 → Int32 → Int32 → (Nat → Int32) → (Option (Bool × Int32 × Int32 × Int32 × (Nat → Int32)))) (tape_size : Int32) (tape_bytes : Nat → Int32) (lr_size : Int32) (lr_at : Int32) (lr_fault : Int32) (lr_code : Nat → Int32) : Option (Bool × Int32 × Int32 × Int32 × (Nat → Int32)) :=
  (if 0 ≤ lr_fault then (some (false, lr_size, lr_at, lr_fault, lr_code)) else (if (lr_size < 0 ∨ 122 ≤ lr_size.toNatClampNeg) then none else (some (true, lr_size, lr_at, lr_fault, lr_code))))
def B_X5_read_46   (g21 : Int32 → Int32 → Int32 → Int32 → (Nat → Int32) → (Option (Bool × Int32 × Int32 × Int32 × (Nat → Int32)))) (tape_size : Int32) (tape_bytes : Nat → Int32) (lr_size : Int32) (lr_at : Int32) (lr_fault : Int32) (lr_code : Nat → Int32) : Option (Bool × Int32 × Int32 × Int32 × (Nat → Int32)) :=
  (if tape_size ≤ lr_at then (B_X5_read_64 g21 tape_size tape_bytes lr_size lr_at lr_fault lr_code) else (zk_b1 (f_X5_fail lr_size lr_at lr_fault) (fun u_18 => (B_X5_read_64 g21 tape_size tape_bytes lr_size lr_at u_18 lr_code))))
def B_X5_read_21   (g21 : Int32 → Int32 → Int32 → Int32 → (Nat → Int32) → (Option (Bool × Int32 × Int32 × Int32 × (Nat → Int32)))) (tape_size : Int32) (tape_bytes : Nat → Int32) (x1 : Int32) (lr_size : Int32) (lr_at : Int32) (lr_fault : Int32) (lr_code : Nat → Int32) : Option (Bool × Int32 × Int32 × Int32 × (Nat → Int32)) :=
  (if (120 : Int32) ≤ x1 then (B_X5_read_46 g21 tape_size tape_bytes lr_size lr_at lr_fault lr_code) else (zk_b2 (f_X5_accept (59 : Int32) tape_size tape_bytes lr_size lr_at lr_fault) (fun r_7 u_8 => (if r_7 = 0 then (B_X5_read_46 g21 tape_size tape_bytes lr_size u_8 lr_fault lr_code) else (zk_b4 (f_X5_readLine tape_size tape_bytes lr_size u_8 lr_fault lr_code) (fun u_11 u_12 u_13 u_14 => (zk_let (x1 + (1 : Int32)) (fun v_16 => (g21 v_16 u_11 u_12 u_13 u_14)))))))))
def B_X5_read_0   (g21 : Int32 → Int32 → Int32 → Int32 → (Nat → Int32) → (Option (Bool × Int32 × Int32 × Int32 × (Nat → Int32)))) (tape_size : Int32) (tape_bytes : Nat → Int32) (lr_size : Int32) (lr_at : Int32) (lr_fault : Int32) (lr_code : Nat → Int32) : Option (Bool × Int32 × Int32 × Int32 × (Nat → Int32)) :=
  (zk_b4 (f_X5_readLine tape_size tape_bytes (0 : Int32) (0 : Int32) (-1 : Int32) lr_code) (fun u_1 u_2 u_3 u_4 => (g21 (0 : Int32) u_1 u_2 u_3 u_4)))
def G_X5_read   (tape_size : Int32) (tape_bytes : Nat → Int32) (n : Nat) : (Int32 → Int32 → Int32 → Int32 → (Nat → Int32) → (Option (Bool × Int32 × Int32 × Int32 × (Nat → Int32)))) :=
  Nat.rec (motive := fun _ => (Int32 → Int32 → Int32 → Int32 → (Nat → Int32) → (Option (Bool × Int32 × Int32 × Int32 × (Nat → Int32))))) ((fun _ _ _ _ _ => none)) (fun _ ih => (B_X5_read_21   ih tape_size tape_bytes)) n
def f_X5_read   (n : Nat)  (tape_size : Int32) (tape_bytes : Nat → Int32) (lr_size : Int32) (lr_at : Int32) (lr_fault : Int32) (lr_code : Nat → Int32) : Option (Bool × Int32 × Int32 × Int32 × (Nat → Int32)) := B_X5_read_0   ((G_X5_read   tape_size tape_bytes n)) tape_size tape_bytes  lr_size lr_at lr_fault lr_code
set_option maxHeartbeats 4000000 in
set_option maxRecDepth 100000 in
theorem L_X5_read_64 {p : Program} {l : Launch} {e : Env} {s : State} {m : MethodId} {args : Array Value} {below : List Frame} {meth : Method} {c : Code} {A : Nat → Prop} {D : va_G} {cs : Nat → ClassId} {ad : Nat → Nat} {tape_size : Int32} {tape_bytes : Nat → Int32} {R : Bool × Int32 × Int32 × Int32 × (Nat → Int32)} {g21 : Int32 → Int32 → Int32 → Int32 → (Nat → Int32) → (Option (Bool × Int32 × Int32 × Int32 × (Nat → Int32)))} (C0 : zC p s m args meth c cX5_read 2 (some (.object "AlreadyJudged$Law")) RX5 zW) (hK : va_K D classes (zT cs) s) {k : (Nat → Nat) × (Nat → Nat)} (hO : zO s) (hE : zE k A s) (hA : ∀ q : Nat, s.heap.size ≤ q → A q) (ih21 : ∀ (x1 : Int32) (lr_size : Int32) (lr_at : Int32) (lr_fault : Int32) (lr_code : Nat → Int32) (h : g21 x1 lr_size lr_at lr_fault lr_code = some R) (H : Heap) (locs : List Loc) (ls : Array Slot) (hP : va_P D classes (wl_X5_read ad cs tape_size tape_bytes lr_size lr_at lr_fault lr_code) H) (hD : va_D A (wl_X5_read ad cs tape_size tape_bytes lr_size lr_at lr_fault lr_code)) (hS : va_S A s.heap H locs) (hl : lv_has ls 2 [(0, .ref (ad 26)), (1, .int x1)]), W p l e rm_X5_read s m args below meth c H locs 0 0 (MQ below (Q_X5_read D cs ad tape_size tape_bytes A R) args s 2 122 A) (F0 m 21 ls [])) (lr_size : Int32) (lr_at : Int32) (lr_fault : Int32) (lr_code : Nat → Int32) (h : B_X5_read_64 g21 tape_size tape_bytes lr_size lr_at lr_fault lr_code = some R) (H : Heap) (locs : List Loc) (ls : Array Slot) (hP : va_P D classes (wl_X5_read ad cs tape_size tape_bytes lr_size lr_at lr_fault lr_code) H) (hD : va_D A (wl_X5_read ad cs tape_size tape_bytes lr_size lr_at lr_fault lr_code)) (hS : va_S A s.heap H locs) (hl : lv_has ls 2 [(0, .ref (ad 26))]) : W p l e rm_X5_read s m args below meth c H locs 0 0 (MQ below (Q_X5_read D cs ad tape_size tape_bytes A R) args s 2 122 A) (F0 m 64 ls []) := by
  obtain ⟨hx, hb, hr, hml, hown, ht, hlocks⟩ := id C0
  refine lv_aload_n hx hb dX5_read_64 rfl (lv_at hl 0 rfl) ?_
  refine va_get (D := D) (ci := 5) (v := .int lr_fault) (C := RX5) (T := TX5) (N := 5) hx hb ht iX5 hown hK hP 2 rfl rfl 4 (by decide) (ht _ kw_278) (fun _ h9 => h9) rfl dX5_read_65 ?_
  refine lv_if_ge (tgt := 92) hx hb dX5_read_68 (by decide) (fun c_20 => ?_) (fun c_20 => ?_)
  · have h := zk_t c_20 h
    refine lv_null hx hb dX5_read_92 ?_
    have hR := Option.some.inj h
    subst hR
    refine W.widen (k := 2) (n := 122) (Nat.zero_le _) (Nat.zero_le _) ?_
    exact W.aret (v := va_rf none) hx hb hr (Or.inl ⟨_, rfl⟩) (Or.inl rfl) (fun t ht2 hW => ⟨⟨none, ((lr_size, lr_at, lr_fault, lr_code), 0, 0), rfl, ⟨rfl, rfl⟩, by rw [ht2]; exact hP, hD⟩, hS.F ht2⟩) hS.2.2 dX5_read_93 hlocks
  · have h := zk_f c_20 h
    obtain ⟨g_21, h⟩ := zk_gd h
    have hR := Option.some.inj h
    subst hR
    exact zz_law71 C0 hK hO hE hA lr_size lr_at lr_fault lr_code g_21 H locs ls hP hD hS (lv_sub hl [0] rfl)
set_option maxHeartbeats 4000000 in
set_option maxRecDepth 100000 in
theorem L_X5_read_46 {p : Program} {l : Launch} {e : Env} {s : State} {m : MethodId} {args : Array Value} {below : List Frame} {meth : Method} {c : Code} {A : Nat → Prop} {D : va_G} {cs : Nat → ClassId} {ad : Nat → Nat} {tape_size : Int32} {tape_bytes : Nat → Int32} {R : Bool × Int32 × Int32 × Int32 × (Nat → Int32)} {g21 : Int32 → Int32 → Int32 → Int32 → (Nat → Int32) → (Option (Bool × Int32 × Int32 × Int32 × (Nat → Int32)))} (C0 : zC p s m args meth c cX5_read 2 (some (.object "AlreadyJudged$Law")) RX5 zW) (hK : va_K D classes (zT cs) s) {k : (Nat → Nat) × (Nat → Nat)} (hO : zO s) (hE : zE k A s) (hA : ∀ q : Nat, s.heap.size ≤ q → A q) (ih21 : ∀ (x1 : Int32) (lr_size : Int32) (lr_at : Int32) (lr_fault : Int32) (lr_code : Nat → Int32) (h : g21 x1 lr_size lr_at lr_fault lr_code = some R) (H : Heap) (locs : List Loc) (ls : Array Slot) (hP : va_P D classes (wl_X5_read ad cs tape_size tape_bytes lr_size lr_at lr_fault lr_code) H) (hD : va_D A (wl_X5_read ad cs tape_size tape_bytes lr_size lr_at lr_fault lr_code)) (hS : va_S A s.heap H locs) (hl : lv_has ls 2 [(0, .ref (ad 26)), (1, .int x1)]), W p l e rm_X5_read s m args below meth c H locs 0 0 (MQ below (Q_X5_read D cs ad tape_size tape_bytes A R) args s 2 122 A) (F0 m 21 ls [])) (lr_size : Int32) (lr_at : Int32) (lr_fault : Int32) (lr_code : Nat → Int32) (h : B_X5_read_46 g21 tape_size tape_bytes lr_size lr_at lr_fault lr_code = some R) (H : Heap) (locs : List Loc) (ls : Array Slot) (hP : va_P D classes (wl_X5_read ad cs tape_size tape_bytes lr_size lr_at lr_fault lr_code) H) (hD : va_D A (wl_X5_read ad cs tape_size tape_bytes lr_size lr_at lr_fault lr_code)) (hS : va_S A s.heap H locs) (hl : lv_has ls 2 [(0, .ref (ad 26))]) : W p l e rm_X5_read s m args below meth c H locs 0 0 (MQ below (Q_X5_read D cs ad tape_size tape_bytes A R) args s 2 122 A) (F0 m 46 ls []) := by
  obtain ⟨hx, hb, hr, hml, hown, ht, hlocks⟩ := id C0
  refine lv_aload_n hx hb dX5_read_46 rfl (lv_at hl 0 rfl) ?_
  refine va_get (D := D) (ci := 5) (v := .int lr_at) (C := RX5) (T := TX5) (N := 5) hx hb ht iX5 hown hK hP 2 rfl rfl 3 (by decide) (ht _ kw_277) (fun _ h9 => h9) rfl dX5_read_47 ?_
  refine lv_aload_n hx hb dX5_read_50 rfl (lv_at hl 0 rfl) ?_
  refine va_get (D := D) (ci := 5) (v := .ref (ad 23)) (C := RX5) (T := TX5) (N := 5) hx hb ht iX5 hown hK hP 2 rfl rfl 0 (by decide) (ht _ kw_274) (fun _ h9 => h9) rfl dX5_read_51 ?_
  refine va_get (D := D) (ci := 9) (v := .int tape_size) (C := RX9) (T := TX9) (N := 2) hx hb ht iX9 hown hK hP 0 rfl rfl 1 (by decide) (ht _ kw_239) (fun _ h9 => h9) rfl dX5_read_54 ?_
  refine lv_icmp_ge (tgt := 64) hx hb dX5_read_57 (by decide) (fun c_17 => ?_) (fun c_17 => ?_)
  · have h := zk_t c_17 h
    exact L_X5_read_64 C0 hK hO hE hA  ih21 lr_size lr_at lr_fault lr_code h H locs ls hP hD hS (lv_sub hl [0] rfl)
  · have h := zk_f c_17 h
    refine lv_aload_n hx hb dX5_read_60 rfl (lv_at hl 0 rfl) ?_
    obtain ⟨u_18, hc_19, h⟩ := zk_o1 h
    refine zz_vv (post := (fun u => u = u_18)) (w1 := fun u => (wl_X5_fail ad cs lr_size lr_at u)) (As := []) (rest := []) (c_X5_fail l D cs ad  H.size lr_size lr_at lr_fault u_18 hc_19) ⟨hx, hb, hml, hown, ht⟩ (cwV 0 ht g_X5_39 rfl rfl rfl ⟨rfl, hd_X5_fail⟩ ⟨Nat.le_of_ble_eq_true rfl, Nat.le_of_ble_eq_true rfl⟩) (va_recv hK hP (ci := 5) (q0 := 2) rfl rfl) hP hD hS hK hA [2] rfl rfl [(ad 26)] rfl (fun _ => rfl) rfl hl.1 (Nat.le_of_ble_eq_true rfl) dX5_read_61 ⟨Nat.le_of_ble_eq_true rfl, Nat.le_of_ble_eq_true rfl⟩ (fun u H locs hq hP hS => ?_)
    cases hq
    have hP : va_P D classes (wl_X5_read ad cs tape_size tape_bytes lr_size lr_at u_18 lr_code) H := hP
    have hD : va_D A (wl_X5_read ad cs tape_size tape_bytes lr_size lr_at u_18 lr_code) := zDk hD [(ad 23), (ad 24), (ad 26), (ad 27)] rfl rfl
    exact L_X5_read_64 C0 hK hO hE hA  ih21 lr_size lr_at u_18 lr_code h H locs ls hP hD hS (lv_sub hl [0] rfl)
set_option maxHeartbeats 4000000 in
set_option maxRecDepth 100000 in
theorem L_X5_read_21 {p : Program} {l : Launch} {e : Env} {s : State} {m : MethodId} {args : Array Value} {below : List Frame} {meth : Method} {c : Code} {A : Nat → Prop} {D : va_G} {cs : Nat → ClassId} {ad : Nat → Nat} {tape_size : Int32} {tape_bytes : Nat → Int32} {R : Bool × Int32 × Int32 × Int32 × (Nat → Int32)} {g21 : Int32 → Int32 → Int32 → Int32 → (Nat → Int32) → (Option (Bool × Int32 × Int32 × Int32 × (Nat → Int32)))} (C0 : zC p s m args meth c cX5_read 2 (some (.object "AlreadyJudged$Law")) RX5 zW) (hK : va_K D classes (zT cs) s) {k : (Nat → Nat) × (Nat → Nat)} (hO : zO s) (hE : zE k A s) (hA : ∀ q : Nat, s.heap.size ≤ q → A q) (ih21 : ∀ (x1 : Int32) (lr_size : Int32) (lr_at : Int32) (lr_fault : Int32) (lr_code : Nat → Int32) (h : g21 x1 lr_size lr_at lr_fault lr_code = some R) (H : Heap) (locs : List Loc) (ls : Array Slot) (hP : va_P D classes (wl_X5_read ad cs tape_size tape_bytes lr_size lr_at lr_fault lr_code) H) (hD : va_D A (wl_X5_read ad cs tape_size tape_bytes lr_size lr_at lr_fault lr_code)) (hS : va_S A s.heap H locs) (hl : lv_has ls 2 [(0, .ref (ad 26)), (1, .int x1)]), W p l e rm_X5_read s m args below meth c H locs 0 0 (MQ below (Q_X5_read D cs ad tape_size tape_bytes A R) args s 2 122 A) (F0 m 21 ls [])) (x1 : Int32) (lr_size : Int32) (lr_at : Int32) (lr_fault : Int32) (lr_code : Nat → Int32) (h : B_X5_read_21 g21 tape_size tape_bytes x1 lr_size lr_at lr_fault lr_code = some R) (H : Heap) (locs : List Loc) (ls : Array Slot) (hP : va_P D classes (wl_X5_read ad cs tape_size tape_bytes lr_size lr_at lr_fault lr_code) H) (hD : va_D A (wl_X5_read ad cs tape_size tape_bytes lr_size lr_at lr_fault lr_code)) (hS : va_S A s.heap H locs) (hl : lv_has ls 2 [(0, .ref (ad 26)), (1, .int x1)]) : W p l e rm_X5_read s m args below meth c H locs 0 0 (MQ below (Q_X5_read D cs ad tape_size tape_bytes A R) args s 2 122 A) (F0 m 21 ls []) := by
  obtain ⟨hx, hb, hr, hml, hown, ht, hlocks⟩ := id C0
  refine lv_iload_n hx hb dX5_read_21 rfl (lv_at hl 1 rfl) ?_
  refine lv_bipush (v := (120 : Int32)) hx hb dX5_read_22 (by decide) ?_
  refine lv_icmp_ge (tgt := 46) hx hb dX5_read_24 (by decide) (fun c_6 => ?_) (fun c_6 => ?_)
  · have h := zk_t c_6 h
    exact L_X5_read_46 C0 hK hO hE hA  ih21 lr_size lr_at lr_fault lr_code h H locs ls hP hD hS (lv_sub hl [0] rfl)
  · have h := zk_f c_6 h
    refine lv_aload_n hx hb dX5_read_27 rfl (lv_at hl 0 rfl) ?_
    refine lv_bipush (v := (59 : Int32)) hx hb dX5_read_28 (by decide) ?_
    obtain ⟨r_7, u_8, hc_9, h⟩ := zk_o2 h
    refine zz_vi (post := (fun r u => (r, u) = (r_7, u_8))) (w1 := fun u => (wl_X5_accept ad cs tape_size tape_bytes lr_size u lr_fault)) (As := [.int (59 : Int32)]) (rest := []) (c_X5_accept l D cs ad  H.size (59 : Int32) tape_size tape_bytes lr_size lr_at lr_fault (r_7, u_8) hc_9) ⟨hx, hb, hml, hown, ht⟩ (cwV 1 ht g_X5_32 rfl rfl rfl ⟨rfl, hd_X5_accept⟩ ⟨Nat.le_of_ble_eq_true rfl, Nat.le_of_ble_eq_true rfl⟩) (va_recv hK hP (ci := 5) (q0 := 2) rfl rfl) hP hD hS hK hA [0, 1, 2] rfl rfl [(ad 23), (ad 24), (ad 26)] rfl (fun _ => rfl) rfl hl.1 (Nat.le_of_ble_eq_true rfl) dX5_read_30 ⟨Nat.le_of_ble_eq_true rfl, Nat.le_of_ble_eq_true rfl⟩ (fun r u H locs hq hP hS => ?_)
    cases hq
    have hP : va_P D classes (wl_X5_read ad cs tape_size tape_bytes lr_size u_8 lr_fault lr_code) H := hP
    have hD : va_D A (wl_X5_read ad cs tape_size tape_bytes lr_size u_8 lr_fault lr_code) := zDk hD [(ad 23), (ad 24), (ad 26), (ad 27)] rfl rfl
    refine lv_if_eq (tgt := 46) hx hb dX5_read_33 (by decide) (fun c_10 => ?_) (fun c_10 => ?_)
    · have h := zk_t c_10 h
      exact L_X5_read_46 C0 hK hO hE hA  ih21 lr_size u_8 lr_fault lr_code h H locs ls hP hD hS (lv_sub hl [0] rfl)
    · have h := zk_f c_10 h
      refine lv_aload_n hx hb dX5_read_36 rfl (lv_at hl 0 rfl) ?_
      obtain ⟨u_11, u_12, u_13, u_14, hc_15, h⟩ := zk_o4 h
      refine zk_vvE (post := (fun u => u = (u_11, u_12, u_13, u_14))) (w1 := fun u => (wl_X5_readLine ad cs tape_size tape_bytes u.1 u.2.1 u.2.2.1 u.2.2.2)) (As := []) (rest := []) hE hO (c_X5_readLine l D cs ad k H.size tape_size tape_bytes lr_size u_8 lr_fault lr_code (u_11, u_12, u_13, u_14) hc_15) ⟨hx, hb, hml, hown, ht⟩ (cwV 0 ht g_X5_29 rfl rfl rfl ⟨rfl, hd_X5_readLine⟩ ⟨Nat.le_of_ble_eq_true rfl, Nat.le_of_ble_eq_true rfl⟩) (va_recv hK hP (ci := 5) (q0 := 2) rfl rfl) hP hD hS hK hA [0, 1, 2, 3] [] rfl rfl rfl rfl (by decide) rfl hl.1 (Nat.le_of_ble_eq_true rfl) dX5_read_37 ⟨Nat.le_of_ble_eq_true rfl, Nat.le_of_ble_eq_true rfl⟩ (fun u H locs hq hP hD hS => ?_)
      cases hq
      have hP : va_P D classes (wl_X5_read ad cs tape_size tape_bytes u_11 u_12 u_13 u_14) H := hP.sub [0, 1, 2, 3] rfl
      have hD : va_D A (wl_X5_read ad cs tape_size tape_bytes u_11 u_12 u_13 u_14) := hD.sub [0, 1, 2, 3] rfl rfl
      obtain ⟨v_16, ev_16, h⟩ := zk_lt h
      refine lv_iinc (v := v_16) (lv' := [(1, .int v_16), (0, .ref (ad 26))]) hx hb dX5_read_40 hl (k := 1) rfl (by rw [ev_16]; rfl) (by decide) rfl (fun ls hl => ?_)
      refine lv_goto (tgt := 21) hx hb dX5_read_43 (by decide) ?_
      exact ih21 v_16 u_11 u_12 u_13 u_14 h H locs ls hP hD hS (lv_sub hl [1, 0] rfl)
set_option maxHeartbeats 4000000 in
set_option maxRecDepth 100000 in
theorem L_X5_read_0 {p : Program} {l : Launch} {e : Env} {s : State} {m : MethodId} {args : Array Value} {below : List Frame} {meth : Method} {c : Code} {A : Nat → Prop} {D : va_G} {cs : Nat → ClassId} {ad : Nat → Nat} {tape_size : Int32} {tape_bytes : Nat → Int32} {R : Bool × Int32 × Int32 × Int32 × (Nat → Int32)} {g21 : Int32 → Int32 → Int32 → Int32 → (Nat → Int32) → (Option (Bool × Int32 × Int32 × Int32 × (Nat → Int32)))} (C0 : zC p s m args meth c cX5_read 2 (some (.object "AlreadyJudged$Law")) RX5 zW) (hK : va_K D classes (zT cs) s) {k : (Nat → Nat) × (Nat → Nat)} (hO : zO s) (hE : zE k A s) (hA : ∀ q : Nat, s.heap.size ≤ q → A q) (ih21 : ∀ (x1 : Int32) (lr_size : Int32) (lr_at : Int32) (lr_fault : Int32) (lr_code : Nat → Int32) (h : g21 x1 lr_size lr_at lr_fault lr_code = some R) (H : Heap) (locs : List Loc) (ls : Array Slot) (hP : va_P D classes (wl_X5_read ad cs tape_size tape_bytes lr_size lr_at lr_fault lr_code) H) (hD : va_D A (wl_X5_read ad cs tape_size tape_bytes lr_size lr_at lr_fault lr_code)) (hS : va_S A s.heap H locs) (hl : lv_has ls 2 [(0, .ref (ad 26)), (1, .int x1)]), W p l e rm_X5_read s m args below meth c H locs 0 0 (MQ below (Q_X5_read D cs ad tape_size tape_bytes A R) args s 2 122 A) (F0 m 21 ls [])) (lr_size : Int32) (lr_at : Int32) (lr_fault : Int32) (lr_code : Nat → Int32) (h : B_X5_read_0 g21 tape_size tape_bytes lr_size lr_at lr_fault lr_code = some R) (H : Heap) (locs : List Loc) (ls : Array Slot) (hP : va_P D classes (wl_X5_read ad cs tape_size tape_bytes lr_size lr_at lr_fault lr_code) H) (hD : va_D A (wl_X5_read ad cs tape_size tape_bytes lr_size lr_at lr_fault lr_code)) (hS : va_S A s.heap H locs) (hl : lv_has ls 2 [(0, .ref (ad 26))]) : W p l e rm_X5_read s m args below meth c H locs 0 0 (MQ below (Q_X5_read D cs ad tape_size tape_bytes A R) args s 2 122 A) (F0 m 0 ls []) := by
  obtain ⟨hx, hb, hr, hml, hown, ht, hlocks⟩ := id C0
  refine lv_aload_n hx hb dX5_read_0 rfl (lv_at hl 0 rfl) ?_
  refine lv_iconst (v := (0 : Int32)) hx hb dX5_read_1 (by decide) ?_
  refine va_put (D := D) (ci := 5) (v := .int (0 : Int32)) (ty := .int) (C := RX5) (T := TX5) (N := 5) hx hb ht iX5 tyX5 tyX5_ok nmX5 hown hK hP hD hS 2 rfl rfl 3 (by decide) (ht _ kw_277) (fun _ h9 => h9) rfl (by decide +kernel) rfl rfl (Nat.le_of_ble_eq_true rfl) dX5_read_2 (fun H locs hP hD hS => ?_)
  have hP : va_P D classes (wl_X5_read ad cs tape_size tape_bytes lr_size (0 : Int32) lr_fault lr_code) H := hP
  have hD : va_D A (wl_X5_read ad cs tape_size tape_bytes lr_size (0 : Int32) lr_fault lr_code) := hD
  refine lv_aload_n hx hb dX5_read_5 rfl (lv_at hl 0 rfl) ?_
  refine lv_iconst (v := (0 : Int32)) hx hb dX5_read_6 (by decide) ?_
  refine va_put (D := D) (ci := 5) (v := .int (0 : Int32)) (ty := .int) (C := RX5) (T := TX5) (N := 5) hx hb ht iX5 tyX5 tyX5_ok nmX5 hown hK hP hD hS 2 rfl rfl 2 (by decide) (ht _ kw_276) (fun _ h9 => h9) rfl (by decide +kernel) rfl rfl (Nat.le_of_ble_eq_true rfl) dX5_read_7 (fun H locs hP hD hS => ?_)
  have hP : va_P D classes (wl_X5_read ad cs tape_size tape_bytes (0 : Int32) (0 : Int32) lr_fault lr_code) H := hP
  have hD : va_D A (wl_X5_read ad cs tape_size tape_bytes (0 : Int32) (0 : Int32) lr_fault lr_code) := hD
  refine lv_aload_n hx hb dX5_read_10 rfl (lv_at hl 0 rfl) ?_
  refine lv_iconst (v := (-1 : Int32)) hx hb dX5_read_11 (by decide) ?_
  refine va_put (D := D) (ci := 5) (v := .int (-1 : Int32)) (ty := .int) (C := RX5) (T := TX5) (N := 5) hx hb ht iX5 tyX5 tyX5_ok nmX5 hown hK hP hD hS 2 rfl rfl 4 (by decide) (ht _ kw_278) (fun _ h9 => h9) rfl (by decide +kernel) rfl rfl (Nat.le_of_ble_eq_true rfl) dX5_read_12 (fun H locs hP hD hS => ?_)
  have hP : va_P D classes (wl_X5_read ad cs tape_size tape_bytes (0 : Int32) (0 : Int32) (-1 : Int32) lr_code) H := hP
  have hD : va_D A (wl_X5_read ad cs tape_size tape_bytes (0 : Int32) (0 : Int32) (-1 : Int32) lr_code) := hD
  refine lv_aload_n hx hb dX5_read_15 rfl (lv_at hl 0 rfl) ?_
  obtain ⟨u_1, u_2, u_3, u_4, hc_5, h⟩ := zk_o4 h
  refine zk_vvE (post := (fun u => u = (u_1, u_2, u_3, u_4))) (w1 := fun u => (wl_X5_readLine ad cs tape_size tape_bytes u.1 u.2.1 u.2.2.1 u.2.2.2)) (As := []) (rest := []) hE hO (c_X5_readLine l D cs ad k H.size tape_size tape_bytes (0 : Int32) (0 : Int32) (-1 : Int32) lr_code (u_1, u_2, u_3, u_4) hc_5) ⟨hx, hb, hml, hown, ht⟩ (cwV 0 ht g_X5_29 rfl rfl rfl ⟨rfl, hd_X5_readLine⟩ ⟨Nat.le_of_ble_eq_true rfl, Nat.le_of_ble_eq_true rfl⟩) (va_recv hK hP (ci := 5) (q0 := 2) rfl rfl) hP hD hS hK hA [0, 1, 2, 3] [] rfl rfl rfl rfl (by decide) rfl hl.1 (Nat.le_of_ble_eq_true rfl) dX5_read_16 ⟨Nat.le_of_ble_eq_true rfl, Nat.le_of_ble_eq_true rfl⟩ (fun u H locs hq hP hD hS => ?_)
  cases hq
  have hP : va_P D classes (wl_X5_read ad cs tape_size tape_bytes u_1 u_2 u_3 u_4) H := hP.sub [0, 1, 2, 3] rfl
  have hD : va_D A (wl_X5_read ad cs tape_size tape_bytes u_1 u_2 u_3 u_4) := hD.sub [0, 1, 2, 3] rfl rfl
  refine lv_iconst (v := (0 : Int32)) hx hb dX5_read_19 (by decide) ?_
  refine lv_istore_n (lv' := [(1, .int (0 : Int32)), (0, .ref (ad 26))]) hx hb dX5_read_20 rfl hl (by decide) rfl (fun ls hl => ?_)
  exact ih21 (0 : Int32) u_1 u_2 u_3 u_4 h H locs ls hP hD hS (lv_sub hl [1, 0] rfl)
theorem LG_X5_read {p : Program} {l : Launch} {e : Env} {s : State} {m : MethodId} {args : Array Value} {below : List Frame} {meth : Method} {c : Code} {A : Nat → Prop} {D : va_G} {cs : Nat → ClassId} {ad : Nat → Nat} {tape_size : Int32} {tape_bytes : Nat → Int32} {R : Bool × Int32 × Int32 × Int32 × (Nat → Int32)} (C0 : zC p s m args meth c cX5_read 2 (some (.object "AlreadyJudged$Law")) RX5 zW) (hK : va_K D classes (zT cs) s) {k : (Nat → Nat) × (Nat → Nat)} (hO : zO s) (hE : zE k A s) (hA : ∀ q : Nat, s.heap.size ≤ q → A q) : ∀ n : Nat, (∀ (x1 : Int32) (lr_size : Int32) (lr_at : Int32) (lr_fault : Int32) (lr_code : Nat → Int32) (h : (G_X5_read   tape_size tape_bytes n) x1 lr_size lr_at lr_fault lr_code = some R) (H : Heap) (locs : List Loc) (ls : Array Slot) (hP : va_P D classes (wl_X5_read ad cs tape_size tape_bytes lr_size lr_at lr_fault lr_code) H) (hD : va_D A (wl_X5_read ad cs tape_size tape_bytes lr_size lr_at lr_fault lr_code)) (hS : va_S A s.heap H locs) (hl : lv_has ls 2 [(0, .ref (ad 26)), (1, .int x1)]), W p l e rm_X5_read s m args below meth c H locs 0 0 (MQ below (Q_X5_read D cs ad tape_size tape_bytes A R) args s 2 122 A) (F0 m 21 ls [])) := by
  intro n
  induction n with
  | zero =>
    refine ?_ <;> (intros; rename_i h _ _ _ _ _ _ _; cases h)
  | succ n ih =>
    exact L_X5_read_21 C0 hK hO hE hA  ih
set_option maxHeartbeats 4000000 in
set_option maxRecDepth 100000 in
theorem c_X5_read (l : Launch) (D : va_G) (cs : Nat → ClassId) (ad : Nat → Nat) (k : (Nat → Nat) × (Nat → Nat)) (sz : Nat) (n : Nat)  (tape_size : Int32) (tape_bytes : Nat → Int32) (lr_size : Int32) (lr_at : Int32) (lr_fault : Int32) (lr_code : Nat → Int32) (R : Bool × Int32 × Int32 × Int32 × (Nat → Int32)) (h : f_X5_read   n  tape_size tape_bytes lr_size lr_at lr_fault lr_code = some R) : Met l yX5_read (z_X5_read) rm_X5_read (va_Pc [.ref (ad 26)] (zPreE k D cs (wl_X5_read ad cs tape_size tape_bytes lr_size lr_at lr_fault lr_code) sz)) (Q_X5_read D cs ad tape_size tape_bytes (va_A (wl_X5_read ad cs tape_size tape_bytes lr_size lr_at lr_fault lr_code) sz) R) 2 122 (va_A (wl_X5_read ad cs tape_size tape_bytes lr_size lr_at lr_fault lr_code) sz) := by
  refine Met.ofW (cc := cX5_read) (maxL := 2) (ret := (some (.object "AlreadyJudged$Law"))) (by decide) rfl ?_
  intro p e s m args below meth c s₁ B hml hv
  obtain ⟨rfl, ⟨⟨hsz, hP, hK, hD0⟩, hO⟩, hE⟩ := hv
  subst hsz
  have hD := hD0.self (sz := s.heap.size)
  have C0 : zC p s m _ meth c cX5_read 2 (some (.object "AlreadyJudged$Law")) RX5 zW := ⟨B.exec, B.bytes, B.returns, hml, findClass_of_methodNamed B.named, fun w hw => atoms_spec (ws := z_X5_read) B.pre w (List.mem_cons_of_mem _ hw), B.notSynchronized⟩
  have hA : ∀ q : Nat, s.heap.size ≤ q → va_A (wl_X5_read ad cs tape_size tape_bytes lr_size lr_at lr_fault lr_code) s.heap.size q := fun q h => Or.inr h
  have hl := lv_entry ([.ref (ad 26)]) (n := 2) (Nat.le_of_ble_eq_true rfl)
  rw [lg_entry_eq]
  generalize (lg_sl ([.ref (ad 26)]) ++ List.replicate (2 - (lg_sl ([.ref (ad 26)])).length) Slot.unset).toArray = ls at hl ⊢
  exact L_X5_read_0 C0 hK hO hE hA  ((LG_X5_read C0 hK hO hE hA  n))  lr_size lr_at lr_fault lr_code h s.heap [] ls hP hD va_S.rf hl



def zix (x : Int32) : Bool := match f_J0_indexOf_0f7a4 4 ((x.toUInt32 % 65536).toInt32) with
  | some R => decide (-1 ≤ R.1.toInt ∧ R.1.toInt ≤ 10)
  | none => false
theorem zix_all : (List.range 256).all (fun n => zix (Int32.ofNat n)) = true := by decide +kernel
theorem zix_of (x : Int32) (h : 0 ≤ x.toInt ∧ x.toInt ≤ 255) : zix x = true := by
  have h1 := List.all_eq_true.mp zix_all x.toInt.toNat (List.mem_range.mpr (by omega))
  have e : Int32.ofNat x.toInt.toNat = x := by
    apply Int32.toInt_inj.mp
    rw [Int32.toInt_ofNat_of_lt (by omega)]
    omega
  rw [e] at h1
  exact h1
def ZXQ (x : Int32) : Prop := ∃ y : Int32, (0 ≤ y.toInt ∧ y.toInt ≤ 255) ∧ x = (y.toUInt32 % 65536).toInt32
theorem s_J0_indexOf_0f7a4 (i0 : Nat) (x1 : Int32) (k0 : i0 = 4) (k1 : ZXQ x1) : zp (f_J0_indexOf_0f7a4 i0 x1) (fun R => (-1 ≤ R.1.toInt ∧ R.1.toInt ≤ 10)) := by
  obtain ⟨y, hy, e⟩ := k1
  subst k0
  subst e
  have h := zix_of y hy
  unfold zix at h
  cases hf : f_J0_indexOf_0f7a4 4 ((y.toUInt32 % 65536).toInt32) with
  | none => rw [hf] at h; exact absurd h (by decide)
  | some R => rw [hf] at h; exact ⟨R, rfl, of_decide_eq_true h⟩
theorem zb_tok {x t : Int32} (h : 0 ≤ x.toInt ∧ x.toInt ≤ 16383) (ht : 0 ≤ t.toInt ∧ t.toInt ≤ 31) : 0 ≤ ((x <<< ((5 : Int32) &&& 31)) ||| t).toInt ∧ ((x <<< ((5 : Int32) &&& 31)) ||| t).toInt ≤ 524287 := by
  have e5 : ((5 : Int32) &&& 31) = 5 := by decide
  rw [e5]
  have hx : x.toBitVec.toNat = x.toInt.toNat ∧ x.toInt = (x.toBitVec.toNat : Int) := by
    have h1 : x.toInt = x.toBitVec.toInt := rfl
    have h2 := h.1
    rw [h1, BitVec.toInt_eq_toNat_cond] at h2 ⊢
    have h3 := x.toBitVec.isLt
    split at h2
    · rename_i hc
      rw [if_pos hc]
      omega
    · omega
  have htt : t.toBitVec.toNat = t.toInt.toNat ∧ t.toInt = (t.toBitVec.toNat : Int) := by
    have h1 : t.toInt = t.toBitVec.toInt := rfl
    have h2 := ht.1
    rw [h1, BitVec.toInt_eq_toNat_cond] at h2 ⊢
    have h3 := t.toBitVec.isLt
    split at h2
    · rename_i hc
      rw [if_pos hc]
      omega
    · omega
  have hsh : (x <<< (5 : Int32)).toBitVec.toNat = x.toBitVec.toNat * 32 := by
    show (x.toBitVec <<< ((5 : Int32).toBitVec.smod 32)).toNat = _
    rw [show ((5 : Int32).toBitVec.smod 32) = 5#32 by decide]
    rw [BitVec.shiftLeft_eq', show (5#32).toNat = 5 by decide, BitVec.toNat_shiftLeft, Nat.shiftLeft_eq]
    exact Nat.mod_eq_of_lt (by omega)
  have hor : ((x <<< (5 : Int32)) ||| t).toBitVec.toNat = x.toBitVec.toNat * 32 + t.toBitVec.toNat := by
    rw [Int32.toBitVec_or, BitVec.toNat_or, hsh]
    have h32 : t.toBitVec.toNat < 2 ^ 5 := by omega
    have := Nat.shiftLeft_add_eq_or_of_lt h32 x.toBitVec.toNat
    rw [Nat.shiftLeft_eq] at this
    exact this.symm
  have hfin : ((x <<< (5 : Int32)) ||| t).toInt = (((x <<< (5 : Int32)) ||| t).toBitVec.toNat : Int) := by
    show ((x <<< (5 : Int32)) ||| t).toBitVec.toInt = _
    rw [BitVec.toInt_eq_toNat_cond, if_pos (by omega)]
  rw [hfin, hor]
  omega

set_option maxHeartbeats 4000000 in
set_option maxRecDepth 20000 in
theorem s_X5_accept  (x1 : Int32) (tape_size : Int32) (tape_bytes : Nat → Int32) (lr_size : Int32) (lr_at : Int32) (lr_fault : Int32) (k0 : 0 ≤ tape_size.toInt ∧ tape_size.toInt ≤ 120) (k1 : AR (0) (255) tape_bytes) (k2 : 0 ≤ lr_size.toInt ∧ lr_size.toInt ≤ 121) (k3 : 0 ≤ lr_at.toInt ∧ lr_at.toInt ≤ 120) (k4 : -1 ≤ lr_fault.toInt ∧ lr_fault.toInt ≤ 120) (k5 : 0 ≤ x1.toInt) : zp (f_X5_accept x1 tape_size tape_bytes lr_size lr_at lr_fault) (fun R => (0 ≤ R.2.toInt ∧ R.2.toInt ≤ 120)) := by
  have rg_x1 := zi_rng x1
  (try dsimp only at k5); (try simp only [zi_cl, Int32.lt_iff_toInt_lt, Int32.le_iff_toInt_le, ← Int32.toInt_inj, Int32.toInt_add, Int32.toInt_sub, Int32.toInt_mul, true_and, and_true, false_and, and_false, or_false, false_or, or_true, true_or, not_true_eq_false, not_false_eq_true, implies_true, forall_const, zl_0, zl_1] at k5); (try simp (disch := omega) only [zi_bm2, zi_bm] at k5)
  unfold f_X5_accept
  unfold B_X5_accept_0
  refine zp_ite (fun c1 => ?_) (fun c1 => ?_)
  · (try dsimp only at c1); (try simp only [zi_cl, Int32.lt_iff_toInt_lt, Int32.le_iff_toInt_le, ← Int32.toInt_inj, Int32.toInt_add, Int32.toInt_sub, Int32.toInt_mul, true_and, and_true, false_and, and_false, or_false, false_or, or_true, true_or, not_true_eq_false, not_false_eq_true, implies_true, forall_const, zl_0, zl_1] at c1); (try simp (disch := omega) only [zi_bm2, zi_bm] at c1)
    exact zp_i k3
  · (try dsimp only at c1); (try simp only [zi_cl, Int32.lt_iff_toInt_lt, Int32.le_iff_toInt_le, ← Int32.toInt_inj, Int32.toInt_add, Int32.toInt_sub, Int32.toInt_mul, true_and, and_true, false_and, and_false, or_false, false_or, or_true, true_or, not_true_eq_false, not_false_eq_true, implies_true, forall_const, zl_0, zl_1] at c1); (try simp (disch := omega) only [zi_bm2, zi_bm] at c1)
    refine zp_b2 (s_X9_byteAt lr_at tape_size tape_bytes k0 k1) (fun r_2_2 u_3_3 h4 => ?_)
    obtain ⟨p5, p6, p7⟩ := h4
    (try dsimp only at p5); (try simp only [zi_cl, Int32.lt_iff_toInt_lt, Int32.le_iff_toInt_le, ← Int32.toInt_inj, Int32.toInt_add, Int32.toInt_sub, Int32.toInt_mul, true_and, and_true, false_and, and_false, or_false, false_or, or_true, true_or, not_true_eq_false, not_false_eq_true, implies_true, forall_const, zl_0, zl_1] at p5); (try simp (disch := omega) only [zi_bm2, zi_bm] at p5)
    (try dsimp only at p6); (try simp only [zi_cl, Int32.lt_iff_toInt_lt, Int32.le_iff_toInt_le, ← Int32.toInt_inj, Int32.toInt_add, Int32.toInt_sub, Int32.toInt_mul, true_and, and_true, false_and, and_false, or_false, false_or, or_true, true_or, not_true_eq_false, not_false_eq_true, implies_true, forall_const, zl_0, zl_1] at p6); (try simp (disch := omega) only [zi_bm2, zi_bm] at p6)
    (try dsimp only at p7); (try simp only [zi_cl, Int32.lt_iff_toInt_lt, Int32.le_iff_toInt_le, ← Int32.toInt_inj, Int32.toInt_add, Int32.toInt_sub, Int32.toInt_mul, true_and, and_true, false_and, and_false, or_false, false_or, or_true, true_or, not_true_eq_false, not_false_eq_true, implies_true, forall_const, zl_0, zl_1] at p7); (try simp (disch := omega) only [zi_bm2, zi_bm] at p7)
    refine zp_ite (fun c8 => ?_) (fun c8 => ?_)
    · (try dsimp only at c8); (try simp only [zi_cl, Int32.lt_iff_toInt_lt, Int32.le_iff_toInt_le, ← Int32.toInt_inj, Int32.toInt_add, Int32.toInt_sub, Int32.toInt_mul, true_and, and_true, false_and, and_false, or_false, false_or, or_true, true_or, not_true_eq_false, not_false_eq_true, implies_true, forall_const, zl_0, zl_1] at c8); (try simp (disch := omega) only [zi_bm2, zi_bm] at c8)
      refine zp_let (fun v_6_9 ev_6_9 => ?_)
      (try dsimp only at ev_6_9); (try simp only [zi_cl, Int32.lt_iff_toInt_lt, Int32.le_iff_toInt_le, ← Int32.toInt_inj, Int32.toInt_add, Int32.toInt_sub, Int32.toInt_mul, true_and, and_true, false_and, and_false, or_false, false_or, or_true, true_or, not_true_eq_false, not_false_eq_true, implies_true, forall_const, zl_0, zl_1] at ev_6_9); (try simp (disch := omega) only [zi_bm2, zi_bm] at ev_6_9)
      exact zp_i (by (first | with_reducible assumption | omega | assumption | ((try dsimp only); (try simp only [zi_cl, Int32.lt_iff_toInt_lt, Int32.le_iff_toInt_le, ← Int32.toInt_inj, Int32.toInt_add, Int32.toInt_sub, Int32.toInt_mul, true_and, and_true, false_and, and_false, or_false, false_or, or_true, true_or, not_true_eq_false, not_false_eq_true, implies_true, forall_const, zl_0, zl_1]) <;> first | omega | (simp (disch := omega) only [zi_bm2, zi_bm]; omega) | omega)))
    · (try dsimp only at c8); (try simp only [zi_cl, Int32.lt_iff_toInt_lt, Int32.le_iff_toInt_le, ← Int32.toInt_inj, Int32.toInt_add, Int32.toInt_sub, Int32.toInt_mul, true_and, and_true, false_and, and_false, or_false, false_or, or_true, true_or, not_true_eq_false, not_false_eq_true, implies_true, forall_const, zl_0, zl_1] at c8); (try simp (disch := omega) only [zi_bm2, zi_bm] at c8)
      exact zp_i k3

set_option maxHeartbeats 4000000 in
set_option maxRecDepth 20000 in
theorem s_X5_fail  (lr_size : Int32) (lr_at : Int32) (lr_fault : Int32) (k0 : 0 ≤ lr_size.toInt ∧ lr_size.toInt ≤ 121) (k1 : 0 ≤ lr_at.toInt ∧ lr_at.toInt ≤ 120) (k2 : -1 ≤ lr_fault.toInt ∧ lr_fault.toInt ≤ 120) : zp (f_X5_fail lr_size lr_at lr_fault) (fun R => (-1 ≤ R.toInt ∧ R.toInt ≤ 120)) := by
  unfold f_X5_fail
  unfold B_X5_fail_0
  refine zp_ite (fun c1 => ?_) (fun c1 => ?_)
  · (try dsimp only at c1); (try simp only [zi_cl, Int32.lt_iff_toInt_lt, Int32.le_iff_toInt_le, ← Int32.toInt_inj, Int32.toInt_add, Int32.toInt_sub, Int32.toInt_mul, true_and, and_true, false_and, and_false, or_false, false_or, or_true, true_or, not_true_eq_false, not_false_eq_true, implies_true, forall_const, zl_0, zl_1] at c1); (try simp (disch := omega) only [zi_bm2, zi_bm] at c1)
    exact zp_i k2
  · (try dsimp only at c1); (try simp only [zi_cl, Int32.lt_iff_toInt_lt, Int32.le_iff_toInt_le, ← Int32.toInt_inj, Int32.toInt_add, Int32.toInt_sub, Int32.toInt_mul, true_and, and_true, false_and, and_false, or_false, false_or, or_true, true_or, not_true_eq_false, not_false_eq_true, implies_true, forall_const, zl_0, zl_1] at c1); (try simp (disch := omega) only [zi_bm2, zi_bm] at c1)
    exact zp_i (by (first | with_reducible assumption | omega | assumption | ((try dsimp only); (try simp only [zi_cl, Int32.lt_iff_toInt_lt, Int32.le_iff_toInt_le, ← Int32.toInt_inj, Int32.toInt_add, Int32.toInt_sub, Int32.toInt_mul, true_and, and_true, false_and, and_false, or_false, false_or, or_true, true_or, not_true_eq_false, not_false_eq_true, implies_true, forall_const, zl_0, zl_1]) <;> first | omega | (simp (disch := omega) only [zi_bm2, zi_bm]; omega) | omega)))

set_option maxHeartbeats 4000000 in
set_option maxRecDepth 20000 in
theorem s_X5_emit  (x1 : Int32) (lr_size : Int32) (lr_at : Int32) (lr_fault : Int32) (lr_code : Nat → Int32) (k0 : 0 ≤ lr_size.toInt ∧ lr_size.toInt ≤ 121) (k1 : 0 ≤ lr_at.toInt ∧ lr_at.toInt ≤ 120) (k2 : -1 ≤ lr_fault.toInt ∧ lr_fault.toInt ≤ 120) (k3 : AR (0) (524287) lr_code) (k4 : 0 ≤ x1.toInt ∧ x1.toInt ≤ 524287) : zp (f_X5_emit x1 lr_size lr_at lr_fault lr_code) (fun R => (0 ≤ R.1.toInt ∧ R.1.toInt ≤ 121) ∧ (AR (0) (524287) R.2)) := by
  have rg_x1 := zi_rng x1
  (try dsimp only at k4); (try simp only [zi_cl, Int32.lt_iff_toInt_lt, Int32.le_iff_toInt_le, ← Int32.toInt_inj, Int32.toInt_add, Int32.toInt_sub, Int32.toInt_mul, true_and, and_true, false_and, and_false, or_false, false_or, or_true, true_or, not_true_eq_false, not_false_eq_true, implies_true, forall_const, zl_0, zl_1, zl_121] at k4); (try simp (disch := omega) only [zi_bm2, zi_bm] at k4)
  unfold f_X5_emit
  unfold B_X5_emit_0
  refine zp_ite (fun c1 => ?_) (fun c1 => ?_)
  · (try dsimp only at c1); (try simp only [zi_cl, Int32.lt_iff_toInt_lt, Int32.le_iff_toInt_le, ← Int32.toInt_inj, Int32.toInt_add, Int32.toInt_sub, Int32.toInt_mul, true_and, and_true, false_and, and_false, or_false, false_or, or_true, true_or, not_true_eq_false, not_false_eq_true, implies_true, forall_const, zl_0, zl_1, zl_121] at c1); (try simp (disch := omega) only [zi_bm2, zi_bm] at c1)
    exact zp_i ⟨k0, k3⟩
  · (try dsimp only at c1); (try simp only [zi_cl, Int32.lt_iff_toInt_lt, Int32.le_iff_toInt_le, ← Int32.toInt_inj, Int32.toInt_add, Int32.toInt_sub, Int32.toInt_mul, true_and, and_true, false_and, and_false, or_false, false_or, or_true, true_or, not_true_eq_false, not_false_eq_true, implies_true, forall_const, zl_0, zl_1, zl_121] at c1); (try simp (disch := omega) only [zi_bm2, zi_bm] at c1)
    refine zp_ite (fun c2 => ?_) (fun c2 => ?_)
    · (try dsimp only at c2); (try simp only [zi_cl, Int32.lt_iff_toInt_lt, Int32.le_iff_toInt_le, ← Int32.toInt_inj, Int32.toInt_add, Int32.toInt_sub, Int32.toInt_mul, true_and, and_true, false_and, and_false, or_false, false_or, or_true, true_or, not_true_eq_false, not_false_eq_true, implies_true, forall_const, zl_0, zl_1, zl_121] at c2); (try simp (disch := omega) only [zi_bm2, zi_bm] at c2)
      exact zp_i ⟨k0, k3⟩
    · (try dsimp only at c2); (try simp only [zi_cl, Int32.lt_iff_toInt_lt, Int32.le_iff_toInt_le, ← Int32.toInt_inj, Int32.toInt_add, Int32.toInt_sub, Int32.toInt_mul, true_and, and_true, false_and, and_false, or_false, false_or, or_true, true_or, not_true_eq_false, not_false_eq_true, implies_true, forall_const, zl_0, zl_1, zl_121] at c2); (try simp (disch := omega) only [zi_bm2, zi_bm] at c2)
      refine zp_g (by first | ((try simp only [zi_cl, Int32.lt_iff_toInt_lt, Int32.le_iff_toInt_le, ← Int32.toInt_inj, Int32.toInt_add, Int32.toInt_sub, Int32.toInt_mul, true_and, and_true, false_and, and_false, or_false, false_or, or_true, true_or, not_true_eq_false, not_false_eq_true, zl_0, zl_1, zl_121]) <;> first | omega | (simp (disch := omega) only [zi_bm2, zi_bm]; omega) | assumption | omega) | (first | with_reducible assumption | omega | assumption | ((try dsimp only); (try simp only [zi_cl, Int32.lt_iff_toInt_lt, Int32.le_iff_toInt_le, ← Int32.toInt_inj, Int32.toInt_add, Int32.toInt_sub, Int32.toInt_mul, true_and, and_true, false_and, and_false, or_false, false_or, or_true, true_or, not_true_eq_false, not_false_eq_true, implies_true, forall_const, zl_0, zl_1, zl_121]) <;> first | omega | (simp (disch := omega) only [zi_bm2, zi_bm]; omega) | omega))) ?_
      have q4 := k3 (lr_size.toNatClampNeg)
      (try dsimp only at q4); (try simp only [zi_cl, Int32.lt_iff_toInt_lt, Int32.le_iff_toInt_le, ← Int32.toInt_inj, Int32.toInt_add, Int32.toInt_sub, Int32.toInt_mul, true_and, and_true, false_and, and_false, or_false, false_or, or_true, true_or, not_true_eq_false, not_false_eq_true, implies_true, forall_const, zl_0, zl_1, zl_121] at q4); (try simp (disch := omega) only [zi_bm2, zi_bm] at q4)
      refine zp_letA (lo := 0) (hi := 524287) k3 (by (first | with_reducible assumption | omega | assumption | ((try dsimp only); (try simp only [zi_cl, Int32.lt_iff_toInt_lt, Int32.le_iff_toInt_le, ← Int32.toInt_inj, Int32.toInt_add, Int32.toInt_sub, Int32.toInt_mul, true_and, and_true, false_and, and_false, or_false, false_or, or_true, true_or, not_true_eq_false, not_false_eq_true, implies_true, forall_const, zl_0, zl_1, zl_121]) <;> first | omega | (simp (disch := omega) only [zi_bm2, zi_bm]; omega) | omega))) (fun f_4_3 hf_4_3 uf_4_3 => ?_)
      (try dsimp only at uf_4_3); (try simp only [zi_cl, Int32.lt_iff_toInt_lt, Int32.le_iff_toInt_le, ← Int32.toInt_inj, Int32.toInt_add, Int32.toInt_sub, Int32.toInt_mul, true_and, and_true, false_and, and_false, or_false, false_or, or_true, true_or, not_true_eq_false, not_false_eq_true, implies_true, forall_const, zl_0, zl_1, zl_121] at uf_4_3); (try simp (disch := omega) only [zi_bm2, zi_bm] at uf_4_3)
      refine zp_let (fun v_5_5 ev_5_5 => ?_)
      (try dsimp only at ev_5_5); (try simp only [zi_cl, Int32.lt_iff_toInt_lt, Int32.le_iff_toInt_le, ← Int32.toInt_inj, Int32.toInt_add, Int32.toInt_sub, Int32.toInt_mul, true_and, and_true, false_and, and_false, or_false, false_or, or_true, true_or, not_true_eq_false, not_false_eq_true, implies_true, forall_const, zl_0, zl_1, zl_121] at ev_5_5); (try simp (disch := omega) only [zi_bm2, zi_bm] at ev_5_5)
      exact zp_i ⟨(by (first | with_reducible assumption | omega | assumption | ((try dsimp only); (try simp only [zi_cl, Int32.lt_iff_toInt_lt, Int32.le_iff_toInt_le, ← Int32.toInt_inj, Int32.toInt_add, Int32.toInt_sub, Int32.toInt_mul, true_and, and_true, false_and, and_false, or_false, false_or, or_true, true_or, not_true_eq_false, not_false_eq_true, implies_true, forall_const, zl_0, zl_1, zl_121]) <;> first | omega | (simp (disch := omega) only [zi_bm2, zi_bm]; omega) | omega))), hf_4_3⟩

set_option maxHeartbeats 4000000 in
set_option maxRecDepth 20000 in
theorem s_X5_mayOpen  (x1 : Int32) (lr_size : Int32) (lr_at : Int32) (lr_fault : Int32) (k0 : 0 ≤ lr_size.toInt ∧ lr_size.toInt ≤ 121) (k1 : 0 ≤ lr_at.toInt ∧ lr_at.toInt ≤ 120) (k2 : -1 ≤ lr_fault.toInt ∧ lr_fault.toInt ≤ 120) (k3 : 0 ≤ x1.toInt ∧ x1.toInt ≤ 6) (k4 : lr_at.toInt ≤ 119) : zp (f_X5_mayOpen x1 lr_size lr_at lr_fault) (fun R => ((R.1.toInt = 0 ∨ R.1.toInt = 1) ∧ (R.1.toInt = 1 → x1.toInt ≤ 5)) ∧ (0 ≤ R.2.1.toInt ∧ R.2.1.toInt ≤ 120) ∧ (-1 ≤ R.2.2.toInt ∧ R.2.2.toInt ≤ 120)) := by
  have rg_x1 := zi_rng x1
  (try dsimp only at k3); (try simp only [zi_cl, Int32.lt_iff_toInt_lt, Int32.le_iff_toInt_le, ← Int32.toInt_inj, Int32.toInt_add, Int32.toInt_sub, Int32.toInt_mul, true_and, and_true, false_and, and_false, or_false, false_or, or_true, true_or, not_true_eq_false, not_false_eq_true, implies_true, forall_const, zl_0, zl_1, zl_6] at k3); (try simp (disch := omega) only [zi_bm2, zi_bm] at k3)
  (try dsimp only at k4); (try simp only [zi_cl, Int32.lt_iff_toInt_lt, Int32.le_iff_toInt_le, ← Int32.toInt_inj, Int32.toInt_add, Int32.toInt_sub, Int32.toInt_mul, true_and, and_true, false_and, and_false, or_false, false_or, or_true, true_or, not_true_eq_false, not_false_eq_true, implies_true, forall_const, zl_0, zl_1, zl_6] at k4); (try simp (disch := omega) only [zi_bm2, zi_bm] at k4)
  unfold f_X5_mayOpen
  unfold B_X5_mayOpen_0
  refine zp_ite (fun c1 => ?_) (fun c1 => ?_)
  · (try dsimp only at c1); (try simp only [zi_cl, Int32.lt_iff_toInt_lt, Int32.le_iff_toInt_le, ← Int32.toInt_inj, Int32.toInt_add, Int32.toInt_sub, Int32.toInt_mul, true_and, and_true, false_and, and_false, or_false, false_or, or_true, true_or, not_true_eq_false, not_false_eq_true, implies_true, forall_const, zl_0, zl_1, zl_6] at c1); (try simp (disch := omega) only [zi_bm2, zi_bm] at c1)
    refine zp_let (fun v_2_2 ev_2_2 => ?_)
    (try dsimp only at ev_2_2); (try simp only [zi_cl, Int32.lt_iff_toInt_lt, Int32.le_iff_toInt_le, ← Int32.toInt_inj, Int32.toInt_add, Int32.toInt_sub, Int32.toInt_mul, true_and, and_true, false_and, and_false, or_false, false_or, or_true, true_or, not_true_eq_false, not_false_eq_true, implies_true, forall_const, zl_0, zl_1, zl_6] at ev_2_2); (try simp (disch := omega) only [zi_bm2, zi_bm] at ev_2_2)
    exact zp_i ⟨(by (first | with_reducible assumption | omega | assumption | ((try dsimp only); (try simp only [zi_cl, Int32.lt_iff_toInt_lt, Int32.le_iff_toInt_le, ← Int32.toInt_inj, Int32.toInt_add, Int32.toInt_sub, Int32.toInt_mul, true_and, and_true, false_and, and_false, or_false, false_or, or_true, true_or, not_true_eq_false, not_false_eq_true, implies_true, forall_const, zl_0, zl_1, zl_6]) <;> first | omega | (simp (disch := omega) only [zi_bm2, zi_bm]; omega) | omega))), (by (first | with_reducible assumption | omega | assumption | ((try dsimp only); (try simp only [zi_cl, Int32.lt_iff_toInt_lt, Int32.le_iff_toInt_le, ← Int32.toInt_inj, Int32.toInt_add, Int32.toInt_sub, Int32.toInt_mul, true_and, and_true, false_and, and_false, or_false, false_or, or_true, true_or, not_true_eq_false, not_false_eq_true, implies_true, forall_const, zl_0, zl_1, zl_6]) <;> first | omega | (simp (disch := omega) only [zi_bm2, zi_bm]; omega) | omega))), k2⟩
  · (try dsimp only at c1); (try simp only [zi_cl, Int32.lt_iff_toInt_lt, Int32.le_iff_toInt_le, ← Int32.toInt_inj, Int32.toInt_add, Int32.toInt_sub, Int32.toInt_mul, true_and, and_true, false_and, and_false, or_false, false_or, or_true, true_or, not_true_eq_false, not_false_eq_true, implies_true, forall_const, zl_0, zl_1, zl_6] at c1); (try simp (disch := omega) only [zi_bm2, zi_bm] at c1)
    refine zp_b1 (s_X5_fail lr_size lr_at lr_fault k0 k1 k2) (fun u_3_3 h4 => ?_)
    have p5 := h4
    (try dsimp only at p5); (try simp only [zi_cl, Int32.lt_iff_toInt_lt, Int32.le_iff_toInt_le, ← Int32.toInt_inj, Int32.toInt_add, Int32.toInt_sub, Int32.toInt_mul, true_and, and_true, false_and, and_false, or_false, false_or, or_true, true_or, not_true_eq_false, not_false_eq_true, implies_true, forall_const, zl_0, zl_1, zl_6] at p5); (try simp (disch := omega) only [zi_bm2, zi_bm] at p5)
    exact zp_i ⟨(by (first | with_reducible assumption | omega | assumption | ((try dsimp only); (try simp only [zi_cl, Int32.lt_iff_toInt_lt, Int32.le_iff_toInt_le, ← Int32.toInt_inj, Int32.toInt_add, Int32.toInt_sub, Int32.toInt_mul, true_and, and_true, false_and, and_false, or_false, false_or, or_true, true_or, not_true_eq_false, not_false_eq_true, implies_true, forall_const, zl_0, zl_1, zl_6]) <;> first | omega | (simp (disch := omega) only [zi_bm2, zi_bm]; omega) | omega))), k1, p5⟩

set_option maxHeartbeats 4000000 in
set_option maxRecDepth 20000 in
theorem s_X5_operatorAt  (x1 : Int32) (tape_size : Int32) (tape_bytes : Nat → Int32) (lr_size : Int32) (lr_at : Int32) (lr_fault : Int32) (k0 : 0 ≤ tape_size.toInt ∧ tape_size.toInt ≤ 120) (k1 : AR (0) (255) tape_bytes) (k2 : 0 ≤ lr_size.toInt ∧ lr_size.toInt ≤ 121) (k3 : 0 ≤ lr_at.toInt ∧ lr_at.toInt ≤ 120) (k4 : -1 ≤ lr_fault.toInt ∧ lr_fault.toInt ≤ 120) : zp (f_X5_operatorAt x1 tape_size tape_bytes lr_size lr_at lr_fault) (fun R => (-1 ≤ R.1.toInt ∧ R.1.toInt ≤ 15) ∧ (R.1.toInt = -1 ∨ lr_at.toInt ≤ 119)) := by
  have rg_x1 := zi_rng x1
  unfold f_X5_operatorAt
  unfold B_X5_operatorAt_0
  refine zp_b2 (s_X9_byteAt lr_at tape_size tape_bytes k0 k1) (fun r_1_1 u_2_2 h3 => ?_)
  obtain ⟨p4, p5, p6⟩ := h3
  (try dsimp only at p4); (try simp only [zi_cl, Int32.lt_iff_toInt_lt, Int32.le_iff_toInt_le, ← Int32.toInt_inj, Int32.toInt_add, Int32.toInt_sub, Int32.toInt_mul, true_and, and_true, false_and, and_false, or_false, false_or, or_true, true_or, not_true_eq_false, not_false_eq_true, implies_true, forall_const, zl_m1, zl_0, zl_1, zl_2, zl_3, zl_6, zl_7, zl_8, zl_9, zl_10, zl_11, zl_12, zl_13, zl_14, zl_15, zl_37, zl_38, zl_42, zl_43, zl_45, zl_47, zl_60, zl_61, zl_62, zl_124] at p4); (try simp (disch := omega) only [zi_bm2, zi_bm] at p4)
  (try dsimp only at p5); (try simp only [zi_cl, Int32.lt_iff_toInt_lt, Int32.le_iff_toInt_le, ← Int32.toInt_inj, Int32.toInt_add, Int32.toInt_sub, Int32.toInt_mul, true_and, and_true, false_and, and_false, or_false, false_or, or_true, true_or, not_true_eq_false, not_false_eq_true, implies_true, forall_const, zl_m1, zl_0, zl_1, zl_2, zl_3, zl_6, zl_7, zl_8, zl_9, zl_10, zl_11, zl_12, zl_13, zl_14, zl_15, zl_37, zl_38, zl_42, zl_43, zl_45, zl_47, zl_60, zl_61, zl_62, zl_124] at p5); (try simp (disch := omega) only [zi_bm2, zi_bm] at p5)
  (try dsimp only at p6); (try simp only [zi_cl, Int32.lt_iff_toInt_lt, Int32.le_iff_toInt_le, ← Int32.toInt_inj, Int32.toInt_add, Int32.toInt_sub, Int32.toInt_mul, true_and, and_true, false_and, and_false, or_false, false_or, or_true, true_or, not_true_eq_false, not_false_eq_true, implies_true, forall_const, zl_m1, zl_0, zl_1, zl_2, zl_3, zl_6, zl_7, zl_8, zl_9, zl_10, zl_11, zl_12, zl_13, zl_14, zl_15, zl_37, zl_38, zl_42, zl_43, zl_45, zl_47, zl_60, zl_61, zl_62, zl_124] at p6); (try simp (disch := omega) only [zi_bm2, zi_bm] at p6)
  refine zp_ite (fun c7 => ?_) (fun c7 => ?_)
  · (try dsimp only at c7); (try simp only [zi_cl, Int32.lt_iff_toInt_lt, Int32.le_iff_toInt_le, ← Int32.toInt_inj, Int32.toInt_add, Int32.toInt_sub, Int32.toInt_mul, true_and, and_true, false_and, and_false, or_false, false_or, or_true, true_or, not_true_eq_false, not_false_eq_true, implies_true, forall_const, zl_m1, zl_0, zl_1, zl_2, zl_3, zl_6, zl_7, zl_8, zl_9, zl_10, zl_11, zl_12, zl_13, zl_14, zl_15, zl_37, zl_38, zl_42, zl_43, zl_45, zl_47, zl_60, zl_61, zl_62, zl_124] at c7); (try simp (disch := omega) only [zi_bm2, zi_bm] at c7)
    refine zp_ite (fun c8 => ?_) (fun c8 => ?_)
    · (try dsimp only at c8); (try simp only [zi_cl, Int32.lt_iff_toInt_lt, Int32.le_iff_toInt_le, ← Int32.toInt_inj, Int32.toInt_add, Int32.toInt_sub, Int32.toInt_mul, true_and, and_true, false_and, and_false, or_false, false_or, or_true, true_or, not_true_eq_false, not_false_eq_true, implies_true, forall_const, zl_m1, zl_0, zl_1, zl_2, zl_3, zl_6, zl_7, zl_8, zl_9, zl_10, zl_11, zl_12, zl_13, zl_14, zl_15, zl_37, zl_38, zl_42, zl_43, zl_45, zl_47, zl_60, zl_61, zl_62, zl_124] at c8); (try simp (disch := omega) only [zi_bm2, zi_bm] at c8)
      exact zp_i ⟨(by (first | with_reducible assumption | omega | assumption | ((try dsimp only); (try simp only [zi_cl, Int32.lt_iff_toInt_lt, Int32.le_iff_toInt_le, ← Int32.toInt_inj, Int32.toInt_add, Int32.toInt_sub, Int32.toInt_mul, true_and, and_true, false_and, and_false, or_false, false_or, or_true, true_or, not_true_eq_false, not_false_eq_true, implies_true, forall_const, zl_m1, zl_0, zl_1, zl_2, zl_3, zl_6, zl_7, zl_8, zl_9, zl_10, zl_11, zl_12, zl_13, zl_14, zl_15, zl_37, zl_38, zl_42, zl_43, zl_45, zl_47, zl_60, zl_61, zl_62, zl_124]) <;> first | omega | (simp (disch := omega) only [zi_bm2, zi_bm]; omega) | omega))), (by (first | with_reducible assumption | omega | assumption | ((try dsimp only); (try simp only [zi_cl, Int32.lt_iff_toInt_lt, Int32.le_iff_toInt_le, ← Int32.toInt_inj, Int32.toInt_add, Int32.toInt_sub, Int32.toInt_mul, true_and, and_true, false_and, and_false, or_false, false_or, or_true, true_or, not_true_eq_false, not_false_eq_true, implies_true, forall_const, zl_m1, zl_0, zl_1, zl_2, zl_3, zl_6, zl_7, zl_8, zl_9, zl_10, zl_11, zl_12, zl_13, zl_14, zl_15, zl_37, zl_38, zl_42, zl_43, zl_45, zl_47, zl_60, zl_61, zl_62, zl_124]) <;> first | omega | (simp (disch := omega) only [zi_bm2, zi_bm]; omega) | omega)))⟩
    · (try dsimp only at c8); (try simp only [zi_cl, Int32.lt_iff_toInt_lt, Int32.le_iff_toInt_le, ← Int32.toInt_inj, Int32.toInt_add, Int32.toInt_sub, Int32.toInt_mul, true_and, and_true, false_and, and_false, or_false, false_or, or_true, true_or, not_true_eq_false, not_false_eq_true, implies_true, forall_const, zl_m1, zl_0, zl_1, zl_2, zl_3, zl_6, zl_7, zl_8, zl_9, zl_10, zl_11, zl_12, zl_13, zl_14, zl_15, zl_37, zl_38, zl_42, zl_43, zl_45, zl_47, zl_60, zl_61, zl_62, zl_124] at c8); (try simp (disch := omega) only [zi_bm2, zi_bm] at c8)
      exact zp_i ⟨(by (first | with_reducible assumption | omega | assumption | ((try dsimp only); (try simp only [zi_cl, Int32.lt_iff_toInt_lt, Int32.le_iff_toInt_le, ← Int32.toInt_inj, Int32.toInt_add, Int32.toInt_sub, Int32.toInt_mul, true_and, and_true, false_and, and_false, or_false, false_or, or_true, true_or, not_true_eq_false, not_false_eq_true, implies_true, forall_const, zl_m1, zl_0, zl_1, zl_2, zl_3, zl_6, zl_7, zl_8, zl_9, zl_10, zl_11, zl_12, zl_13, zl_14, zl_15, zl_37, zl_38, zl_42, zl_43, zl_45, zl_47, zl_60, zl_61, zl_62, zl_124]) <;> first | omega | (simp (disch := omega) only [zi_bm2, zi_bm]; omega) | omega))), (by (first | with_reducible assumption | omega | assumption | ((try dsimp only); (try simp only [zi_cl, Int32.lt_iff_toInt_lt, Int32.le_iff_toInt_le, ← Int32.toInt_inj, Int32.toInt_add, Int32.toInt_sub, Int32.toInt_mul, true_and, and_true, false_and, and_false, or_false, false_or, or_true, true_or, not_true_eq_false, not_false_eq_true, implies_true, forall_const, zl_m1, zl_0, zl_1, zl_2, zl_3, zl_6, zl_7, zl_8, zl_9, zl_10, zl_11, zl_12, zl_13, zl_14, zl_15, zl_37, zl_38, zl_42, zl_43, zl_45, zl_47, zl_60, zl_61, zl_62, zl_124]) <;> first | omega | (simp (disch := omega) only [zi_bm2, zi_bm]; omega) | omega)))⟩
  · (try dsimp only at c7); (try simp only [zi_cl, Int32.lt_iff_toInt_lt, Int32.le_iff_toInt_le, ← Int32.toInt_inj, Int32.toInt_add, Int32.toInt_sub, Int32.toInt_mul, true_and, and_true, false_and, and_false, or_false, false_or, or_true, true_or, not_true_eq_false, not_false_eq_true, implies_true, forall_const, zl_m1, zl_0, zl_1, zl_2, zl_3, zl_6, zl_7, zl_8, zl_9, zl_10, zl_11, zl_12, zl_13, zl_14, zl_15, zl_37, zl_38, zl_42, zl_43, zl_45, zl_47, zl_60, zl_61, zl_62, zl_124] at c7); (try simp (disch := omega) only [zi_bm2, zi_bm] at c7)
    refine zp_ite (fun c9 => ?_) (fun c9 => ?_)
    · (try dsimp only at c9); (try simp only [zi_cl, Int32.lt_iff_toInt_lt, Int32.le_iff_toInt_le, ← Int32.toInt_inj, Int32.toInt_add, Int32.toInt_sub, Int32.toInt_mul, true_and, and_true, false_and, and_false, or_false, false_or, or_true, true_or, not_true_eq_false, not_false_eq_true, implies_true, forall_const, zl_m1, zl_0, zl_1, zl_2, zl_3, zl_6, zl_7, zl_8, zl_9, zl_10, zl_11, zl_12, zl_13, zl_14, zl_15, zl_37, zl_38, zl_42, zl_43, zl_45, zl_47, zl_60, zl_61, zl_62, zl_124] at c9); (try simp (disch := omega) only [zi_bm2, zi_bm] at c9)
      refine zp_ite (fun c10 => ?_) (fun c10 => ?_)
      · (try dsimp only at c10); (try simp only [zi_cl, Int32.lt_iff_toInt_lt, Int32.le_iff_toInt_le, ← Int32.toInt_inj, Int32.toInt_add, Int32.toInt_sub, Int32.toInt_mul, true_and, and_true, false_and, and_false, or_false, false_or, or_true, true_or, not_true_eq_false, not_false_eq_true, implies_true, forall_const, zl_m1, zl_0, zl_1, zl_2, zl_3, zl_6, zl_7, zl_8, zl_9, zl_10, zl_11, zl_12, zl_13, zl_14, zl_15, zl_37, zl_38, zl_42, zl_43, zl_45, zl_47, zl_60, zl_61, zl_62, zl_124] at c10); (try simp (disch := omega) only [zi_bm2, zi_bm] at c10)
        exact zp_i ⟨(by (first | with_reducible assumption | omega | assumption | ((try dsimp only); (try simp only [zi_cl, Int32.lt_iff_toInt_lt, Int32.le_iff_toInt_le, ← Int32.toInt_inj, Int32.toInt_add, Int32.toInt_sub, Int32.toInt_mul, true_and, and_true, false_and, and_false, or_false, false_or, or_true, true_or, not_true_eq_false, not_false_eq_true, implies_true, forall_const, zl_m1, zl_0, zl_1, zl_2, zl_3, zl_6, zl_7, zl_8, zl_9, zl_10, zl_11, zl_12, zl_13, zl_14, zl_15, zl_37, zl_38, zl_42, zl_43, zl_45, zl_47, zl_60, zl_61, zl_62, zl_124]) <;> first | omega | (simp (disch := omega) only [zi_bm2, zi_bm]; omega) | omega))), (by (first | with_reducible assumption | omega | assumption | ((try dsimp only); (try simp only [zi_cl, Int32.lt_iff_toInt_lt, Int32.le_iff_toInt_le, ← Int32.toInt_inj, Int32.toInt_add, Int32.toInt_sub, Int32.toInt_mul, true_and, and_true, false_and, and_false, or_false, false_or, or_true, true_or, not_true_eq_false, not_false_eq_true, implies_true, forall_const, zl_m1, zl_0, zl_1, zl_2, zl_3, zl_6, zl_7, zl_8, zl_9, zl_10, zl_11, zl_12, zl_13, zl_14, zl_15, zl_37, zl_38, zl_42, zl_43, zl_45, zl_47, zl_60, zl_61, zl_62, zl_124]) <;> first | omega | (simp (disch := omega) only [zi_bm2, zi_bm]; omega) | omega)))⟩
      · (try dsimp only at c10); (try simp only [zi_cl, Int32.lt_iff_toInt_lt, Int32.le_iff_toInt_le, ← Int32.toInt_inj, Int32.toInt_add, Int32.toInt_sub, Int32.toInt_mul, true_and, and_true, false_and, and_false, or_false, false_or, or_true, true_or, not_true_eq_false, not_false_eq_true, implies_true, forall_const, zl_m1, zl_0, zl_1, zl_2, zl_3, zl_6, zl_7, zl_8, zl_9, zl_10, zl_11, zl_12, zl_13, zl_14, zl_15, zl_37, zl_38, zl_42, zl_43, zl_45, zl_47, zl_60, zl_61, zl_62, zl_124] at c10); (try simp (disch := omega) only [zi_bm2, zi_bm] at c10)
        exact zp_i ⟨(by (first | with_reducible assumption | omega | assumption | ((try dsimp only); (try simp only [zi_cl, Int32.lt_iff_toInt_lt, Int32.le_iff_toInt_le, ← Int32.toInt_inj, Int32.toInt_add, Int32.toInt_sub, Int32.toInt_mul, true_and, and_true, false_and, and_false, or_false, false_or, or_true, true_or, not_true_eq_false, not_false_eq_true, implies_true, forall_const, zl_m1, zl_0, zl_1, zl_2, zl_3, zl_6, zl_7, zl_8, zl_9, zl_10, zl_11, zl_12, zl_13, zl_14, zl_15, zl_37, zl_38, zl_42, zl_43, zl_45, zl_47, zl_60, zl_61, zl_62, zl_124]) <;> first | omega | (simp (disch := omega) only [zi_bm2, zi_bm]; omega) | omega))), (by (first | with_reducible assumption | omega | assumption | ((try dsimp only); (try simp only [zi_cl, Int32.lt_iff_toInt_lt, Int32.le_iff_toInt_le, ← Int32.toInt_inj, Int32.toInt_add, Int32.toInt_sub, Int32.toInt_mul, true_and, and_true, false_and, and_false, or_false, false_or, or_true, true_or, not_true_eq_false, not_false_eq_true, implies_true, forall_const, zl_m1, zl_0, zl_1, zl_2, zl_3, zl_6, zl_7, zl_8, zl_9, zl_10, zl_11, zl_12, zl_13, zl_14, zl_15, zl_37, zl_38, zl_42, zl_43, zl_45, zl_47, zl_60, zl_61, zl_62, zl_124]) <;> first | omega | (simp (disch := omega) only [zi_bm2, zi_bm]; omega) | omega)))⟩
    · (try dsimp only at c9); (try simp only [zi_cl, Int32.lt_iff_toInt_lt, Int32.le_iff_toInt_le, ← Int32.toInt_inj, Int32.toInt_add, Int32.toInt_sub, Int32.toInt_mul, true_and, and_true, false_and, and_false, or_false, false_or, or_true, true_or, not_true_eq_false, not_false_eq_true, implies_true, forall_const, zl_m1, zl_0, zl_1, zl_2, zl_3, zl_6, zl_7, zl_8, zl_9, zl_10, zl_11, zl_12, zl_13, zl_14, zl_15, zl_37, zl_38, zl_42, zl_43, zl_45, zl_47, zl_60, zl_61, zl_62, zl_124] at c9); (try simp (disch := omega) only [zi_bm2, zi_bm] at c9)
      refine zp_ite (fun c11 => ?_) (fun c11 => ?_)
      · (try dsimp only at c11); (try simp only [zi_cl, Int32.lt_iff_toInt_lt, Int32.le_iff_toInt_le, ← Int32.toInt_inj, Int32.toInt_add, Int32.toInt_sub, Int32.toInt_mul, true_and, and_true, false_and, and_false, or_false, false_or, or_true, true_or, not_true_eq_false, not_false_eq_true, implies_true, forall_const, zl_m1, zl_0, zl_1, zl_2, zl_3, zl_6, zl_7, zl_8, zl_9, zl_10, zl_11, zl_12, zl_13, zl_14, zl_15, zl_37, zl_38, zl_42, zl_43, zl_45, zl_47, zl_60, zl_61, zl_62, zl_124] at c11); (try simp (disch := omega) only [zi_bm2, zi_bm] at c11)
        refine zp_ite (fun c12 => ?_) (fun c12 => ?_)
        · (try dsimp only at c12); (try simp only [zi_cl, Int32.lt_iff_toInt_lt, Int32.le_iff_toInt_le, ← Int32.toInt_inj, Int32.toInt_add, Int32.toInt_sub, Int32.toInt_mul, true_and, and_true, false_and, and_false, or_false, false_or, or_true, true_or, not_true_eq_false, not_false_eq_true, implies_true, forall_const, zl_m1, zl_0, zl_1, zl_2, zl_3, zl_6, zl_7, zl_8, zl_9, zl_10, zl_11, zl_12, zl_13, zl_14, zl_15, zl_37, zl_38, zl_42, zl_43, zl_45, zl_47, zl_60, zl_61, zl_62, zl_124] at c12); (try simp (disch := omega) only [zi_bm2, zi_bm] at c12)
          exact zp_i ⟨(by (first | with_reducible assumption | omega | assumption | ((try dsimp only); (try simp only [zi_cl, Int32.lt_iff_toInt_lt, Int32.le_iff_toInt_le, ← Int32.toInt_inj, Int32.toInt_add, Int32.toInt_sub, Int32.toInt_mul, true_and, and_true, false_and, and_false, or_false, false_or, or_true, true_or, not_true_eq_false, not_false_eq_true, implies_true, forall_const, zl_m1, zl_0, zl_1, zl_2, zl_3, zl_6, zl_7, zl_8, zl_9, zl_10, zl_11, zl_12, zl_13, zl_14, zl_15, zl_37, zl_38, zl_42, zl_43, zl_45, zl_47, zl_60, zl_61, zl_62, zl_124]) <;> first | omega | (simp (disch := omega) only [zi_bm2, zi_bm]; omega) | omega))), (by (first | with_reducible assumption | omega | assumption | ((try dsimp only); (try simp only [zi_cl, Int32.lt_iff_toInt_lt, Int32.le_iff_toInt_le, ← Int32.toInt_inj, Int32.toInt_add, Int32.toInt_sub, Int32.toInt_mul, true_and, and_true, false_and, and_false, or_false, false_or, or_true, true_or, not_true_eq_false, not_false_eq_true, implies_true, forall_const, zl_m1, zl_0, zl_1, zl_2, zl_3, zl_6, zl_7, zl_8, zl_9, zl_10, zl_11, zl_12, zl_13, zl_14, zl_15, zl_37, zl_38, zl_42, zl_43, zl_45, zl_47, zl_60, zl_61, zl_62, zl_124]) <;> first | omega | (simp (disch := omega) only [zi_bm2, zi_bm]; omega) | omega)))⟩
        · (try dsimp only at c12); (try simp only [zi_cl, Int32.lt_iff_toInt_lt, Int32.le_iff_toInt_le, ← Int32.toInt_inj, Int32.toInt_add, Int32.toInt_sub, Int32.toInt_mul, true_and, and_true, false_and, and_false, or_false, false_or, or_true, true_or, not_true_eq_false, not_false_eq_true, implies_true, forall_const, zl_m1, zl_0, zl_1, zl_2, zl_3, zl_6, zl_7, zl_8, zl_9, zl_10, zl_11, zl_12, zl_13, zl_14, zl_15, zl_37, zl_38, zl_42, zl_43, zl_45, zl_47, zl_60, zl_61, zl_62, zl_124] at c12); (try simp (disch := omega) only [zi_bm2, zi_bm] at c12)
          refine zp_ite (fun c13 => ?_) (fun c13 => ?_)
          · (try dsimp only at c13); (try simp only [zi_cl, Int32.lt_iff_toInt_lt, Int32.le_iff_toInt_le, ← Int32.toInt_inj, Int32.toInt_add, Int32.toInt_sub, Int32.toInt_mul, true_and, and_true, false_and, and_false, or_false, false_or, or_true, true_or, not_true_eq_false, not_false_eq_true, implies_true, forall_const, zl_m1, zl_0, zl_1, zl_2, zl_3, zl_6, zl_7, zl_8, zl_9, zl_10, zl_11, zl_12, zl_13, zl_14, zl_15, zl_37, zl_38, zl_42, zl_43, zl_45, zl_47, zl_60, zl_61, zl_62, zl_124] at c13); (try simp (disch := omega) only [zi_bm2, zi_bm] at c13)
            exact zp_i ⟨(by (first | with_reducible assumption | omega | assumption | ((try dsimp only); (try simp only [zi_cl, Int32.lt_iff_toInt_lt, Int32.le_iff_toInt_le, ← Int32.toInt_inj, Int32.toInt_add, Int32.toInt_sub, Int32.toInt_mul, true_and, and_true, false_and, and_false, or_false, false_or, or_true, true_or, not_true_eq_false, not_false_eq_true, implies_true, forall_const, zl_m1, zl_0, zl_1, zl_2, zl_3, zl_6, zl_7, zl_8, zl_9, zl_10, zl_11, zl_12, zl_13, zl_14, zl_15, zl_37, zl_38, zl_42, zl_43, zl_45, zl_47, zl_60, zl_61, zl_62, zl_124]) <;> first | omega | (simp (disch := omega) only [zi_bm2, zi_bm]; omega) | omega))), (by (first | with_reducible assumption | omega | assumption | ((try dsimp only); (try simp only [zi_cl, Int32.lt_iff_toInt_lt, Int32.le_iff_toInt_le, ← Int32.toInt_inj, Int32.toInt_add, Int32.toInt_sub, Int32.toInt_mul, true_and, and_true, false_and, and_false, or_false, false_or, or_true, true_or, not_true_eq_false, not_false_eq_true, implies_true, forall_const, zl_m1, zl_0, zl_1, zl_2, zl_3, zl_6, zl_7, zl_8, zl_9, zl_10, zl_11, zl_12, zl_13, zl_14, zl_15, zl_37, zl_38, zl_42, zl_43, zl_45, zl_47, zl_60, zl_61, zl_62, zl_124]) <;> first | omega | (simp (disch := omega) only [zi_bm2, zi_bm]; omega) | omega)))⟩
          · (try dsimp only at c13); (try simp only [zi_cl, Int32.lt_iff_toInt_lt, Int32.le_iff_toInt_le, ← Int32.toInt_inj, Int32.toInt_add, Int32.toInt_sub, Int32.toInt_mul, true_and, and_true, false_and, and_false, or_false, false_or, or_true, true_or, not_true_eq_false, not_false_eq_true, implies_true, forall_const, zl_m1, zl_0, zl_1, zl_2, zl_3, zl_6, zl_7, zl_8, zl_9, zl_10, zl_11, zl_12, zl_13, zl_14, zl_15, zl_37, zl_38, zl_42, zl_43, zl_45, zl_47, zl_60, zl_61, zl_62, zl_124] at c13); (try simp (disch := omega) only [zi_bm2, zi_bm] at c13)
            refine zp_ite (fun c14 => ?_) (fun c14 => ?_)
            · (try dsimp only at c14); (try simp only [zi_cl, Int32.lt_iff_toInt_lt, Int32.le_iff_toInt_le, ← Int32.toInt_inj, Int32.toInt_add, Int32.toInt_sub, Int32.toInt_mul, true_and, and_true, false_and, and_false, or_false, false_or, or_true, true_or, not_true_eq_false, not_false_eq_true, implies_true, forall_const, zl_m1, zl_0, zl_1, zl_2, zl_3, zl_6, zl_7, zl_8, zl_9, zl_10, zl_11, zl_12, zl_13, zl_14, zl_15, zl_37, zl_38, zl_42, zl_43, zl_45, zl_47, zl_60, zl_61, zl_62, zl_124] at c14); (try simp (disch := omega) only [zi_bm2, zi_bm] at c14)
              exact zp_i ⟨(by (first | with_reducible assumption | omega | assumption | ((try dsimp only); (try simp only [zi_cl, Int32.lt_iff_toInt_lt, Int32.le_iff_toInt_le, ← Int32.toInt_inj, Int32.toInt_add, Int32.toInt_sub, Int32.toInt_mul, true_and, and_true, false_and, and_false, or_false, false_or, or_true, true_or, not_true_eq_false, not_false_eq_true, implies_true, forall_const, zl_m1, zl_0, zl_1, zl_2, zl_3, zl_6, zl_7, zl_8, zl_9, zl_10, zl_11, zl_12, zl_13, zl_14, zl_15, zl_37, zl_38, zl_42, zl_43, zl_45, zl_47, zl_60, zl_61, zl_62, zl_124]) <;> first | omega | (simp (disch := omega) only [zi_bm2, zi_bm]; omega) | omega))), (by (first | with_reducible assumption | omega | assumption | ((try dsimp only); (try simp only [zi_cl, Int32.lt_iff_toInt_lt, Int32.le_iff_toInt_le, ← Int32.toInt_inj, Int32.toInt_add, Int32.toInt_sub, Int32.toInt_mul, true_and, and_true, false_and, and_false, or_false, false_or, or_true, true_or, not_true_eq_false, not_false_eq_true, implies_true, forall_const, zl_m1, zl_0, zl_1, zl_2, zl_3, zl_6, zl_7, zl_8, zl_9, zl_10, zl_11, zl_12, zl_13, zl_14, zl_15, zl_37, zl_38, zl_42, zl_43, zl_45, zl_47, zl_60, zl_61, zl_62, zl_124]) <;> first | omega | (simp (disch := omega) only [zi_bm2, zi_bm]; omega) | omega)))⟩
            · (try dsimp only at c14); (try simp only [zi_cl, Int32.lt_iff_toInt_lt, Int32.le_iff_toInt_le, ← Int32.toInt_inj, Int32.toInt_add, Int32.toInt_sub, Int32.toInt_mul, true_and, and_true, false_and, and_false, or_false, false_or, or_true, true_or, not_true_eq_false, not_false_eq_true, implies_true, forall_const, zl_m1, zl_0, zl_1, zl_2, zl_3, zl_6, zl_7, zl_8, zl_9, zl_10, zl_11, zl_12, zl_13, zl_14, zl_15, zl_37, zl_38, zl_42, zl_43, zl_45, zl_47, zl_60, zl_61, zl_62, zl_124] at c14); (try simp (disch := omega) only [zi_bm2, zi_bm] at c14)
              exact zp_i ⟨(by (first | with_reducible assumption | omega | assumption | ((try dsimp only); (try simp only [zi_cl, Int32.lt_iff_toInt_lt, Int32.le_iff_toInt_le, ← Int32.toInt_inj, Int32.toInt_add, Int32.toInt_sub, Int32.toInt_mul, true_and, and_true, false_and, and_false, or_false, false_or, or_true, true_or, not_true_eq_false, not_false_eq_true, implies_true, forall_const, zl_m1, zl_0, zl_1, zl_2, zl_3, zl_6, zl_7, zl_8, zl_9, zl_10, zl_11, zl_12, zl_13, zl_14, zl_15, zl_37, zl_38, zl_42, zl_43, zl_45, zl_47, zl_60, zl_61, zl_62, zl_124]) <;> first | omega | (simp (disch := omega) only [zi_bm2, zi_bm]; omega) | omega))), (by (first | with_reducible assumption | omega | assumption | ((try dsimp only); (try simp only [zi_cl, Int32.lt_iff_toInt_lt, Int32.le_iff_toInt_le, ← Int32.toInt_inj, Int32.toInt_add, Int32.toInt_sub, Int32.toInt_mul, true_and, and_true, false_and, and_false, or_false, false_or, or_true, true_or, not_true_eq_false, not_false_eq_true, implies_true, forall_const, zl_m1, zl_0, zl_1, zl_2, zl_3, zl_6, zl_7, zl_8, zl_9, zl_10, zl_11, zl_12, zl_13, zl_14, zl_15, zl_37, zl_38, zl_42, zl_43, zl_45, zl_47, zl_60, zl_61, zl_62, zl_124]) <;> first | omega | (simp (disch := omega) only [zi_bm2, zi_bm]; omega) | omega)))⟩
      · (try dsimp only at c11); (try simp only [zi_cl, Int32.lt_iff_toInt_lt, Int32.le_iff_toInt_le, ← Int32.toInt_inj, Int32.toInt_add, Int32.toInt_sub, Int32.toInt_mul, true_and, and_true, false_and, and_false, or_false, false_or, or_true, true_or, not_true_eq_false, not_false_eq_true, implies_true, forall_const, zl_m1, zl_0, zl_1, zl_2, zl_3, zl_6, zl_7, zl_8, zl_9, zl_10, zl_11, zl_12, zl_13, zl_14, zl_15, zl_37, zl_38, zl_42, zl_43, zl_45, zl_47, zl_60, zl_61, zl_62, zl_124] at c11); (try simp (disch := omega) only [zi_bm2, zi_bm] at c11)
        refine zp_ite (fun c15 => ?_) (fun c15 => ?_)
        · (try dsimp only at c15); (try simp only [zi_cl, Int32.lt_iff_toInt_lt, Int32.le_iff_toInt_le, ← Int32.toInt_inj, Int32.toInt_add, Int32.toInt_sub, Int32.toInt_mul, true_and, and_true, false_and, and_false, or_false, false_or, or_true, true_or, not_true_eq_false, not_false_eq_true, implies_true, forall_const, zl_m1, zl_0, zl_1, zl_2, zl_3, zl_6, zl_7, zl_8, zl_9, zl_10, zl_11, zl_12, zl_13, zl_14, zl_15, zl_37, zl_38, zl_42, zl_43, zl_45, zl_47, zl_60, zl_61, zl_62, zl_124] at c15); (try simp (disch := omega) only [zi_bm2, zi_bm] at c15)
          refine zp_ite (fun c16 => ?_) (fun c16 => ?_)
          · (try dsimp only at c16); (try simp only [zi_cl, Int32.lt_iff_toInt_lt, Int32.le_iff_toInt_le, ← Int32.toInt_inj, Int32.toInt_add, Int32.toInt_sub, Int32.toInt_mul, true_and, and_true, false_and, and_false, or_false, false_or, or_true, true_or, not_true_eq_false, not_false_eq_true, implies_true, forall_const, zl_m1, zl_0, zl_1, zl_2, zl_3, zl_6, zl_7, zl_8, zl_9, zl_10, zl_11, zl_12, zl_13, zl_14, zl_15, zl_37, zl_38, zl_42, zl_43, zl_45, zl_47, zl_60, zl_61, zl_62, zl_124] at c16); (try simp (disch := omega) only [zi_bm2, zi_bm] at c16)
            exact zp_i ⟨(by (first | with_reducible assumption | omega | assumption | ((try dsimp only); (try simp only [zi_cl, Int32.lt_iff_toInt_lt, Int32.le_iff_toInt_le, ← Int32.toInt_inj, Int32.toInt_add, Int32.toInt_sub, Int32.toInt_mul, true_and, and_true, false_and, and_false, or_false, false_or, or_true, true_or, not_true_eq_false, not_false_eq_true, implies_true, forall_const, zl_m1, zl_0, zl_1, zl_2, zl_3, zl_6, zl_7, zl_8, zl_9, zl_10, zl_11, zl_12, zl_13, zl_14, zl_15, zl_37, zl_38, zl_42, zl_43, zl_45, zl_47, zl_60, zl_61, zl_62, zl_124]) <;> first | omega | (simp (disch := omega) only [zi_bm2, zi_bm]; omega) | omega))), (by (first | with_reducible assumption | omega | assumption | ((try dsimp only); (try simp only [zi_cl, Int32.lt_iff_toInt_lt, Int32.le_iff_toInt_le, ← Int32.toInt_inj, Int32.toInt_add, Int32.toInt_sub, Int32.toInt_mul, true_and, and_true, false_and, and_false, or_false, false_or, or_true, true_or, not_true_eq_false, not_false_eq_true, implies_true, forall_const, zl_m1, zl_0, zl_1, zl_2, zl_3, zl_6, zl_7, zl_8, zl_9, zl_10, zl_11, zl_12, zl_13, zl_14, zl_15, zl_37, zl_38, zl_42, zl_43, zl_45, zl_47, zl_60, zl_61, zl_62, zl_124]) <;> first | omega | (simp (disch := omega) only [zi_bm2, zi_bm]; omega) | omega)))⟩
          · (try dsimp only at c16); (try simp only [zi_cl, Int32.lt_iff_toInt_lt, Int32.le_iff_toInt_le, ← Int32.toInt_inj, Int32.toInt_add, Int32.toInt_sub, Int32.toInt_mul, true_and, and_true, false_and, and_false, or_false, false_or, or_true, true_or, not_true_eq_false, not_false_eq_true, implies_true, forall_const, zl_m1, zl_0, zl_1, zl_2, zl_3, zl_6, zl_7, zl_8, zl_9, zl_10, zl_11, zl_12, zl_13, zl_14, zl_15, zl_37, zl_38, zl_42, zl_43, zl_45, zl_47, zl_60, zl_61, zl_62, zl_124] at c16); (try simp (disch := omega) only [zi_bm2, zi_bm] at c16)
            refine zp_ite (fun c17 => ?_) (fun c17 => ?_)
            · (try dsimp only at c17); (try simp only [zi_cl, Int32.lt_iff_toInt_lt, Int32.le_iff_toInt_le, ← Int32.toInt_inj, Int32.toInt_add, Int32.toInt_sub, Int32.toInt_mul, true_and, and_true, false_and, and_false, or_false, false_or, or_true, true_or, not_true_eq_false, not_false_eq_true, implies_true, forall_const, zl_m1, zl_0, zl_1, zl_2, zl_3, zl_6, zl_7, zl_8, zl_9, zl_10, zl_11, zl_12, zl_13, zl_14, zl_15, zl_37, zl_38, zl_42, zl_43, zl_45, zl_47, zl_60, zl_61, zl_62, zl_124] at c17); (try simp (disch := omega) only [zi_bm2, zi_bm] at c17)
              exact zp_i ⟨(by (first | with_reducible assumption | omega | assumption | ((try dsimp only); (try simp only [zi_cl, Int32.lt_iff_toInt_lt, Int32.le_iff_toInt_le, ← Int32.toInt_inj, Int32.toInt_add, Int32.toInt_sub, Int32.toInt_mul, true_and, and_true, false_and, and_false, or_false, false_or, or_true, true_or, not_true_eq_false, not_false_eq_true, implies_true, forall_const, zl_m1, zl_0, zl_1, zl_2, zl_3, zl_6, zl_7, zl_8, zl_9, zl_10, zl_11, zl_12, zl_13, zl_14, zl_15, zl_37, zl_38, zl_42, zl_43, zl_45, zl_47, zl_60, zl_61, zl_62, zl_124]) <;> first | omega | (simp (disch := omega) only [zi_bm2, zi_bm]; omega) | omega))), (by (first | with_reducible assumption | omega | assumption | ((try dsimp only); (try simp only [zi_cl, Int32.lt_iff_toInt_lt, Int32.le_iff_toInt_le, ← Int32.toInt_inj, Int32.toInt_add, Int32.toInt_sub, Int32.toInt_mul, true_and, and_true, false_and, and_false, or_false, false_or, or_true, true_or, not_true_eq_false, not_false_eq_true, implies_true, forall_const, zl_m1, zl_0, zl_1, zl_2, zl_3, zl_6, zl_7, zl_8, zl_9, zl_10, zl_11, zl_12, zl_13, zl_14, zl_15, zl_37, zl_38, zl_42, zl_43, zl_45, zl_47, zl_60, zl_61, zl_62, zl_124]) <;> first | omega | (simp (disch := omega) only [zi_bm2, zi_bm]; omega) | omega)))⟩
            · (try dsimp only at c17); (try simp only [zi_cl, Int32.lt_iff_toInt_lt, Int32.le_iff_toInt_le, ← Int32.toInt_inj, Int32.toInt_add, Int32.toInt_sub, Int32.toInt_mul, true_and, and_true, false_and, and_false, or_false, false_or, or_true, true_or, not_true_eq_false, not_false_eq_true, implies_true, forall_const, zl_m1, zl_0, zl_1, zl_2, zl_3, zl_6, zl_7, zl_8, zl_9, zl_10, zl_11, zl_12, zl_13, zl_14, zl_15, zl_37, zl_38, zl_42, zl_43, zl_45, zl_47, zl_60, zl_61, zl_62, zl_124] at c17); (try simp (disch := omega) only [zi_bm2, zi_bm] at c17)
              exact zp_i ⟨(by (first | with_reducible assumption | omega | assumption | ((try dsimp only); (try simp only [zi_cl, Int32.lt_iff_toInt_lt, Int32.le_iff_toInt_le, ← Int32.toInt_inj, Int32.toInt_add, Int32.toInt_sub, Int32.toInt_mul, true_and, and_true, false_and, and_false, or_false, false_or, or_true, true_or, not_true_eq_false, not_false_eq_true, implies_true, forall_const, zl_m1, zl_0, zl_1, zl_2, zl_3, zl_6, zl_7, zl_8, zl_9, zl_10, zl_11, zl_12, zl_13, zl_14, zl_15, zl_37, zl_38, zl_42, zl_43, zl_45, zl_47, zl_60, zl_61, zl_62, zl_124]) <;> first | omega | (simp (disch := omega) only [zi_bm2, zi_bm]; omega) | omega))), (by (first | with_reducible assumption | omega | assumption | ((try dsimp only); (try simp only [zi_cl, Int32.lt_iff_toInt_lt, Int32.le_iff_toInt_le, ← Int32.toInt_inj, Int32.toInt_add, Int32.toInt_sub, Int32.toInt_mul, true_and, and_true, false_and, and_false, or_false, false_or, or_true, true_or, not_true_eq_false, not_false_eq_true, implies_true, forall_const, zl_m1, zl_0, zl_1, zl_2, zl_3, zl_6, zl_7, zl_8, zl_9, zl_10, zl_11, zl_12, zl_13, zl_14, zl_15, zl_37, zl_38, zl_42, zl_43, zl_45, zl_47, zl_60, zl_61, zl_62, zl_124]) <;> first | omega | (simp (disch := omega) only [zi_bm2, zi_bm]; omega) | omega)))⟩
        · (try dsimp only at c15); (try simp only [zi_cl, Int32.lt_iff_toInt_lt, Int32.le_iff_toInt_le, ← Int32.toInt_inj, Int32.toInt_add, Int32.toInt_sub, Int32.toInt_mul, true_and, and_true, false_and, and_false, or_false, false_or, or_true, true_or, not_true_eq_false, not_false_eq_true, implies_true, forall_const, zl_m1, zl_0, zl_1, zl_2, zl_3, zl_6, zl_7, zl_8, zl_9, zl_10, zl_11, zl_12, zl_13, zl_14, zl_15, zl_37, zl_38, zl_42, zl_43, zl_45, zl_47, zl_60, zl_61, zl_62, zl_124] at c15); (try simp (disch := omega) only [zi_bm2, zi_bm] at c15)
          refine zp_ite (fun c18 => ?_) (fun c18 => ?_)
          · (try dsimp only at c18); (try simp only [zi_cl, Int32.lt_iff_toInt_lt, Int32.le_iff_toInt_le, ← Int32.toInt_inj, Int32.toInt_add, Int32.toInt_sub, Int32.toInt_mul, true_and, and_true, false_and, and_false, or_false, false_or, or_true, true_or, not_true_eq_false, not_false_eq_true, implies_true, forall_const, zl_m1, zl_0, zl_1, zl_2, zl_3, zl_6, zl_7, zl_8, zl_9, zl_10, zl_11, zl_12, zl_13, zl_14, zl_15, zl_37, zl_38, zl_42, zl_43, zl_45, zl_47, zl_60, zl_61, zl_62, zl_124] at c18); (try simp (disch := omega) only [zi_bm2, zi_bm] at c18)
            exact zp_i ⟨(by (first | with_reducible assumption | omega | assumption | ((try dsimp only); (try simp only [zi_cl, Int32.lt_iff_toInt_lt, Int32.le_iff_toInt_le, ← Int32.toInt_inj, Int32.toInt_add, Int32.toInt_sub, Int32.toInt_mul, true_and, and_true, false_and, and_false, or_false, false_or, or_true, true_or, not_true_eq_false, not_false_eq_true, implies_true, forall_const, zl_m1, zl_0, zl_1, zl_2, zl_3, zl_6, zl_7, zl_8, zl_9, zl_10, zl_11, zl_12, zl_13, zl_14, zl_15, zl_37, zl_38, zl_42, zl_43, zl_45, zl_47, zl_60, zl_61, zl_62, zl_124]) <;> first | omega | (simp (disch := omega) only [zi_bm2, zi_bm]; omega) | omega))), (by (first | with_reducible assumption | omega | assumption | ((try dsimp only); (try simp only [zi_cl, Int32.lt_iff_toInt_lt, Int32.le_iff_toInt_le, ← Int32.toInt_inj, Int32.toInt_add, Int32.toInt_sub, Int32.toInt_mul, true_and, and_true, false_and, and_false, or_false, false_or, or_true, true_or, not_true_eq_false, not_false_eq_true, implies_true, forall_const, zl_m1, zl_0, zl_1, zl_2, zl_3, zl_6, zl_7, zl_8, zl_9, zl_10, zl_11, zl_12, zl_13, zl_14, zl_15, zl_37, zl_38, zl_42, zl_43, zl_45, zl_47, zl_60, zl_61, zl_62, zl_124]) <;> first | omega | (simp (disch := omega) only [zi_bm2, zi_bm]; omega) | omega)))⟩
          · (try dsimp only at c18); (try simp only [zi_cl, Int32.lt_iff_toInt_lt, Int32.le_iff_toInt_le, ← Int32.toInt_inj, Int32.toInt_add, Int32.toInt_sub, Int32.toInt_mul, true_and, and_true, false_and, and_false, or_false, false_or, or_true, true_or, not_true_eq_false, not_false_eq_true, implies_true, forall_const, zl_m1, zl_0, zl_1, zl_2, zl_3, zl_6, zl_7, zl_8, zl_9, zl_10, zl_11, zl_12, zl_13, zl_14, zl_15, zl_37, zl_38, zl_42, zl_43, zl_45, zl_47, zl_60, zl_61, zl_62, zl_124] at c18); (try simp (disch := omega) only [zi_bm2, zi_bm] at c18)
            refine zp_ite (fun c19 => ?_) (fun c19 => ?_)
            · (try dsimp only at c19); (try simp only [zi_cl, Int32.lt_iff_toInt_lt, Int32.le_iff_toInt_le, ← Int32.toInt_inj, Int32.toInt_add, Int32.toInt_sub, Int32.toInt_mul, true_and, and_true, false_and, and_false, or_false, false_or, or_true, true_or, not_true_eq_false, not_false_eq_true, implies_true, forall_const, zl_m1, zl_0, zl_1, zl_2, zl_3, zl_6, zl_7, zl_8, zl_9, zl_10, zl_11, zl_12, zl_13, zl_14, zl_15, zl_37, zl_38, zl_42, zl_43, zl_45, zl_47, zl_60, zl_61, zl_62, zl_124] at c19); (try simp (disch := omega) only [zi_bm2, zi_bm] at c19)
              exact zp_i ⟨(by (first | with_reducible assumption | omega | assumption | ((try dsimp only); (try simp only [zi_cl, Int32.lt_iff_toInt_lt, Int32.le_iff_toInt_le, ← Int32.toInt_inj, Int32.toInt_add, Int32.toInt_sub, Int32.toInt_mul, true_and, and_true, false_and, and_false, or_false, false_or, or_true, true_or, not_true_eq_false, not_false_eq_true, implies_true, forall_const, zl_m1, zl_0, zl_1, zl_2, zl_3, zl_6, zl_7, zl_8, zl_9, zl_10, zl_11, zl_12, zl_13, zl_14, zl_15, zl_37, zl_38, zl_42, zl_43, zl_45, zl_47, zl_60, zl_61, zl_62, zl_124]) <;> first | omega | (simp (disch := omega) only [zi_bm2, zi_bm]; omega) | omega))), (by (first | with_reducible assumption | omega | assumption | ((try dsimp only); (try simp only [zi_cl, Int32.lt_iff_toInt_lt, Int32.le_iff_toInt_le, ← Int32.toInt_inj, Int32.toInt_add, Int32.toInt_sub, Int32.toInt_mul, true_and, and_true, false_and, and_false, or_false, false_or, or_true, true_or, not_true_eq_false, not_false_eq_true, implies_true, forall_const, zl_m1, zl_0, zl_1, zl_2, zl_3, zl_6, zl_7, zl_8, zl_9, zl_10, zl_11, zl_12, zl_13, zl_14, zl_15, zl_37, zl_38, zl_42, zl_43, zl_45, zl_47, zl_60, zl_61, zl_62, zl_124]) <;> first | omega | (simp (disch := omega) only [zi_bm2, zi_bm]; omega) | omega)))⟩
            · (try dsimp only at c19); (try simp only [zi_cl, Int32.lt_iff_toInt_lt, Int32.le_iff_toInt_le, ← Int32.toInt_inj, Int32.toInt_add, Int32.toInt_sub, Int32.toInt_mul, true_and, and_true, false_and, and_false, or_false, false_or, or_true, true_or, not_true_eq_false, not_false_eq_true, implies_true, forall_const, zl_m1, zl_0, zl_1, zl_2, zl_3, zl_6, zl_7, zl_8, zl_9, zl_10, zl_11, zl_12, zl_13, zl_14, zl_15, zl_37, zl_38, zl_42, zl_43, zl_45, zl_47, zl_60, zl_61, zl_62, zl_124] at c19); (try simp (disch := omega) only [zi_bm2, zi_bm] at c19)
              refine zp_ite (fun c20 => ?_) (fun c20 => ?_)
              · (try dsimp only at c20); (try simp only [zi_cl, Int32.lt_iff_toInt_lt, Int32.le_iff_toInt_le, ← Int32.toInt_inj, Int32.toInt_add, Int32.toInt_sub, Int32.toInt_mul, true_and, and_true, false_and, and_false, or_false, false_or, or_true, true_or, not_true_eq_false, not_false_eq_true, implies_true, forall_const, zl_m1, zl_0, zl_1, zl_2, zl_3, zl_6, zl_7, zl_8, zl_9, zl_10, zl_11, zl_12, zl_13, zl_14, zl_15, zl_37, zl_38, zl_42, zl_43, zl_45, zl_47, zl_60, zl_61, zl_62, zl_124] at c20); (try simp (disch := omega) only [zi_bm2, zi_bm] at c20)
                exact zp_i ⟨(by (first | with_reducible assumption | omega | assumption | ((try dsimp only); (try simp only [zi_cl, Int32.lt_iff_toInt_lt, Int32.le_iff_toInt_le, ← Int32.toInt_inj, Int32.toInt_add, Int32.toInt_sub, Int32.toInt_mul, true_and, and_true, false_and, and_false, or_false, false_or, or_true, true_or, not_true_eq_false, not_false_eq_true, implies_true, forall_const, zl_m1, zl_0, zl_1, zl_2, zl_3, zl_6, zl_7, zl_8, zl_9, zl_10, zl_11, zl_12, zl_13, zl_14, zl_15, zl_37, zl_38, zl_42, zl_43, zl_45, zl_47, zl_60, zl_61, zl_62, zl_124]) <;> first | omega | (simp (disch := omega) only [zi_bm2, zi_bm]; omega) | omega))), (by (first | with_reducible assumption | omega | assumption | ((try dsimp only); (try simp only [zi_cl, Int32.lt_iff_toInt_lt, Int32.le_iff_toInt_le, ← Int32.toInt_inj, Int32.toInt_add, Int32.toInt_sub, Int32.toInt_mul, true_and, and_true, false_and, and_false, or_false, false_or, or_true, true_or, not_true_eq_false, not_false_eq_true, implies_true, forall_const, zl_m1, zl_0, zl_1, zl_2, zl_3, zl_6, zl_7, zl_8, zl_9, zl_10, zl_11, zl_12, zl_13, zl_14, zl_15, zl_37, zl_38, zl_42, zl_43, zl_45, zl_47, zl_60, zl_61, zl_62, zl_124]) <;> first | omega | (simp (disch := omega) only [zi_bm2, zi_bm]; omega) | omega)))⟩
              · (try dsimp only at c20); (try simp only [zi_cl, Int32.lt_iff_toInt_lt, Int32.le_iff_toInt_le, ← Int32.toInt_inj, Int32.toInt_add, Int32.toInt_sub, Int32.toInt_mul, true_and, and_true, false_and, and_false, or_false, false_or, or_true, true_or, not_true_eq_false, not_false_eq_true, implies_true, forall_const, zl_m1, zl_0, zl_1, zl_2, zl_3, zl_6, zl_7, zl_8, zl_9, zl_10, zl_11, zl_12, zl_13, zl_14, zl_15, zl_37, zl_38, zl_42, zl_43, zl_45, zl_47, zl_60, zl_61, zl_62, zl_124] at c20); (try simp (disch := omega) only [zi_bm2, zi_bm] at c20)
                exact zp_i ⟨(by (first | with_reducible assumption | omega | assumption | ((try dsimp only); (try simp only [zi_cl, Int32.lt_iff_toInt_lt, Int32.le_iff_toInt_le, ← Int32.toInt_inj, Int32.toInt_add, Int32.toInt_sub, Int32.toInt_mul, true_and, and_true, false_and, and_false, or_false, false_or, or_true, true_or, not_true_eq_false, not_false_eq_true, implies_true, forall_const, zl_m1, zl_0, zl_1, zl_2, zl_3, zl_6, zl_7, zl_8, zl_9, zl_10, zl_11, zl_12, zl_13, zl_14, zl_15, zl_37, zl_38, zl_42, zl_43, zl_45, zl_47, zl_60, zl_61, zl_62, zl_124]) <;> first | omega | (simp (disch := omega) only [zi_bm2, zi_bm]; omega) | omega))), (by (first | with_reducible assumption | omega | assumption | ((try dsimp only); (try simp only [zi_cl, Int32.lt_iff_toInt_lt, Int32.le_iff_toInt_le, ← Int32.toInt_inj, Int32.toInt_add, Int32.toInt_sub, Int32.toInt_mul, true_and, and_true, false_and, and_false, or_false, false_or, or_true, true_or, not_true_eq_false, not_false_eq_true, implies_true, forall_const, zl_m1, zl_0, zl_1, zl_2, zl_3, zl_6, zl_7, zl_8, zl_9, zl_10, zl_11, zl_12, zl_13, zl_14, zl_15, zl_37, zl_38, zl_42, zl_43, zl_45, zl_47, zl_60, zl_61, zl_62, zl_124]) <;> first | omega | (simp (disch := omega) only [zi_bm2, zi_bm]; omega) | omega)))⟩

theorem zg0_G_X5_readNumber   (tape_size : Int32) (tape_bytes : Nat → Int32) (lr_fault : Int32) (n : Nat) (y0 : Int32) (y1 : Int32) (y2 : Int32) (y3 : Int32) (y4 : (Nat → Int32)) : (G_X5_readNumber tape_size tape_bytes lr_fault (n + 1)) y0 y1 y2 y3 y4 = B_X5_readNumber_4   (G_X5_readNumber tape_size tape_bytes lr_fault n) tape_size tape_bytes lr_fault y0 y1 y2 y3 y4 := rfl
set_option maxHeartbeats 4000000 in
set_option maxRecDepth 20000 in
theorem l_X5_readNumber  (tape_size : Int32) (tape_bytes : Nat → Int32) (lr_fault : Int32) (h_tape_size : 0 ≤ tape_size.toInt ∧ tape_size.toInt ≤ 120) (h_tape_bytes : AR (0) (255) tape_bytes) (h_lr_fault : -1 ≤ lr_fault.toInt ∧ lr_fault.toInt ≤ 120) : ∀ n : Nat, (∀ (x1 : Int32) (x2 : Int32) (lr_size : Int32) (lr_at : Int32) (lr_code : Nat → Int32), (0 ≤ lr_size.toInt ∧ lr_size.toInt ≤ 121) → (0 ≤ lr_at.toInt ∧ lr_at.toInt ≤ 120) → (AR (0) (524287) lr_code) → (0 ≤ x2.toInt ∧ x2.toInt ≤ 4) → (0 ≤ x1.toInt ∧ (x2.toInt = 0 → x1.toInt = 0) ∧ (x2.toInt = 1 → x1.toInt ≤ 9) ∧ (x2.toInt = 2 → x1.toInt ≤ 99) ∧ (x2.toInt = 3 → x1.toInt ≤ 999) ∧ (x2.toInt = 4 → x1.toInt ≤ 9999)) → (5 - x2.toInt).toNat < n → zp ((G_X5_readNumber tape_size tape_bytes lr_fault n) x1 x2 lr_size lr_at lr_code) (fun R => (0 ≤ R.1.toInt ∧ R.1.toInt ≤ 121) ∧ (0 ≤ R.2.1.toInt ∧ R.2.1.toInt ≤ 120) ∧ (AR (0) (524287) R.2.2))) := by
  intro n
  induction n with
  | zero =>
    exact (fun x1 x2 lr_size lr_at lr_code _ _ _ _ _ hm => absurd hm (Nat.not_lt_zero _))
  | succ n ih =>
    refine ?_
    · intro x1 x2 lr_size lr_at lr_code k0 k1 k2 k3 k4 hm
      have rg_x1 := zi_rng x1
      have rg_x2 := zi_rng x2
      (try dsimp only at k3); (try simp only [zi_cl, Int32.lt_iff_toInt_lt, Int32.le_iff_toInt_le, ← Int32.toInt_inj, Int32.toInt_add, Int32.toInt_sub, Int32.toInt_mul, true_and, and_true, false_and, and_false, or_false, false_or, or_true, true_or, not_true_eq_false, not_false_eq_true, implies_true, forall_const, zl_0, zl_1, zl_4, zl_5, zl_10, zl_48] at k3); (try simp (disch := omega) only [zi_bm2, zi_bm] at k3)
      (try dsimp only at k4); (try simp only [zi_cl, Int32.lt_iff_toInt_lt, Int32.le_iff_toInt_le, ← Int32.toInt_inj, Int32.toInt_add, Int32.toInt_sub, Int32.toInt_mul, true_and, and_true, false_and, and_false, or_false, false_or, or_true, true_or, not_true_eq_false, not_false_eq_true, implies_true, forall_const, zl_0, zl_1, zl_4, zl_5, zl_10, zl_48] at k4); (try simp (disch := omega) only [zi_bm2, zi_bm] at k4)
      rw [zg0_G_X5_readNumber]
      unfold B_X5_readNumber_4
      refine zp_ite (fun c1 => ?_) (fun c1 => ?_)
      · (try dsimp only at c1); (try simp only [zi_cl, Int32.lt_iff_toInt_lt, Int32.le_iff_toInt_le, ← Int32.toInt_inj, Int32.toInt_add, Int32.toInt_sub, Int32.toInt_mul, true_and, and_true, false_and, and_false, or_false, false_or, or_true, true_or, not_true_eq_false, not_false_eq_true, implies_true, forall_const, zl_0, zl_1, zl_4, zl_5, zl_10, zl_48] at c1); (try simp (disch := omega) only [zi_bm2, zi_bm] at c1)
        unfold B_X5_readNumber_59
        have z4 := zb_tok (x := x1) (t := (0 : Int32)) (by omega) (by decide)
        (try dsimp only at z4); (try simp only [zi_cl, Int32.lt_iff_toInt_lt, Int32.le_iff_toInt_le, ← Int32.toInt_inj, Int32.toInt_add, Int32.toInt_sub, Int32.toInt_mul, true_and, and_true, false_and, and_false, or_false, false_or, or_true, true_or, not_true_eq_false, not_false_eq_true, implies_true, forall_const, zl_0, zl_1, zl_4, zl_5, zl_10, zl_48] at z4); (try simp (disch := omega) only [zi_bm2, zi_bm] at z4)
        refine zp_b2 (s_X5_emit ((x1 <<< ((5 : Int32) &&& 31)) ||| (0 : Int32)) lr_size lr_at lr_fault lr_code k0 k1 h_lr_fault k2 (by (first | with_reducible assumption | omega | assumption | ((try dsimp only); (try simp only [zi_cl, Int32.lt_iff_toInt_lt, Int32.le_iff_toInt_le, ← Int32.toInt_inj, Int32.toInt_add, Int32.toInt_sub, Int32.toInt_mul, true_and, and_true, false_and, and_false, or_false, false_or, or_true, true_or, not_true_eq_false, not_false_eq_true, implies_true, forall_const, zl_0, zl_1, zl_4, zl_5, zl_10, zl_48]) <;> first | omega | (simp (disch := omega) only [zi_bm2, zi_bm]; omega) | omega)))) (fun u_12_2 u_13_3 h5 => ?_)
        obtain ⟨p6, p7⟩ := h5
        (try dsimp only at p6); (try simp only [zi_cl, Int32.lt_iff_toInt_lt, Int32.le_iff_toInt_le, ← Int32.toInt_inj, Int32.toInt_add, Int32.toInt_sub, Int32.toInt_mul, true_and, and_true, false_and, and_false, or_false, false_or, or_true, true_or, not_true_eq_false, not_false_eq_true, implies_true, forall_const, zl_0, zl_1, zl_4, zl_5, zl_10, zl_48] at p6); (try simp (disch := omega) only [zi_bm2, zi_bm] at p6)
        have p7 : AR (0) (524287) u_13_3 := p7
        exact zp_i ⟨p6, k1, p7⟩
      · (try dsimp only at c1); (try simp only [zi_cl, Int32.lt_iff_toInt_lt, Int32.le_iff_toInt_le, ← Int32.toInt_inj, Int32.toInt_add, Int32.toInt_sub, Int32.toInt_mul, true_and, and_true, false_and, and_false, or_false, false_or, or_true, true_or, not_true_eq_false, not_false_eq_true, implies_true, forall_const, zl_0, zl_1, zl_4, zl_5, zl_10, zl_48] at c1); (try simp (disch := omega) only [zi_bm2, zi_bm] at c1)
        refine zp_b2 (s_X9_isDigitAt lr_at tape_size tape_bytes h_tape_size h_tape_bytes) (fun r_2_8 u_3_9 h10 => ?_)
        have p11 := h10
        (try dsimp only at p11); (try simp only [zi_cl, Int32.lt_iff_toInt_lt, Int32.le_iff_toInt_le, ← Int32.toInt_inj, Int32.toInt_add, Int32.toInt_sub, Int32.toInt_mul, true_and, and_true, false_and, and_false, or_false, false_or, or_true, true_or, not_true_eq_false, not_false_eq_true, implies_true, forall_const, zl_0, zl_1, zl_4, zl_5, zl_10, zl_48] at p11); (try simp (disch := omega) only [zi_bm2, zi_bm] at p11)
        refine zp_ite (fun c12 => ?_) (fun c12 => ?_)
        · (try dsimp only at c12); (try simp only [zi_cl, Int32.lt_iff_toInt_lt, Int32.le_iff_toInt_le, ← Int32.toInt_inj, Int32.toInt_add, Int32.toInt_sub, Int32.toInt_mul, true_and, and_true, false_and, and_false, or_false, false_or, or_true, true_or, not_true_eq_false, not_false_eq_true, implies_true, forall_const, zl_0, zl_1, zl_4, zl_5, zl_10, zl_48] at c12); (try simp (disch := omega) only [zi_bm2, zi_bm] at c12)
          unfold B_X5_readNumber_59
          have z15 := zb_tok (x := x1) (t := (0 : Int32)) (by omega) (by decide)
          (try dsimp only at z15); (try simp only [zi_cl, Int32.lt_iff_toInt_lt, Int32.le_iff_toInt_le, ← Int32.toInt_inj, Int32.toInt_add, Int32.toInt_sub, Int32.toInt_mul, true_and, and_true, false_and, and_false, or_false, false_or, or_true, true_or, not_true_eq_false, not_false_eq_true, implies_true, forall_const, zl_0, zl_1, zl_4, zl_5, zl_10, zl_48] at z15); (try simp (disch := omega) only [zi_bm2, zi_bm] at z15)
          refine zp_b2 (s_X5_emit ((x1 <<< ((5 : Int32) &&& 31)) ||| (0 : Int32)) lr_size lr_at lr_fault lr_code k0 k1 h_lr_fault k2 (by (first | with_reducible assumption | omega | assumption | ((try dsimp only); (try simp only [zi_cl, Int32.lt_iff_toInt_lt, Int32.le_iff_toInt_le, ← Int32.toInt_inj, Int32.toInt_add, Int32.toInt_sub, Int32.toInt_mul, true_and, and_true, false_and, and_false, or_false, false_or, or_true, true_or, not_true_eq_false, not_false_eq_true, implies_true, forall_const, zl_0, zl_1, zl_4, zl_5, zl_10, zl_48]) <;> first | omega | (simp (disch := omega) only [zi_bm2, zi_bm]; omega) | omega)))) (fun u_12_13 u_13_14 h16 => ?_)
          obtain ⟨p17, p18⟩ := h16
          (try dsimp only at p17); (try simp only [zi_cl, Int32.lt_iff_toInt_lt, Int32.le_iff_toInt_le, ← Int32.toInt_inj, Int32.toInt_add, Int32.toInt_sub, Int32.toInt_mul, true_and, and_true, false_and, and_false, or_false, false_or, or_true, true_or, not_true_eq_false, not_false_eq_true, implies_true, forall_const, zl_0, zl_1, zl_4, zl_5, zl_10, zl_48] at p17); (try simp (disch := omega) only [zi_bm2, zi_bm] at p17)
          have p18 : AR (0) (524287) u_13_14 := p18
          exact zp_i ⟨p17, k1, p18⟩
        · (try dsimp only at c12); (try simp only [zi_cl, Int32.lt_iff_toInt_lt, Int32.le_iff_toInt_le, ← Int32.toInt_inj, Int32.toInt_add, Int32.toInt_sub, Int32.toInt_mul, true_and, and_true, false_and, and_false, or_false, false_or, or_true, true_or, not_true_eq_false, not_false_eq_true, implies_true, forall_const, zl_0, zl_1, zl_4, zl_5, zl_10, zl_48] at c12); (try simp (disch := omega) only [zi_bm2, zi_bm] at c12)
          refine zp_b2 (s_X9_byteAt lr_at tape_size tape_bytes h_tape_size h_tape_bytes) (fun r_6_19 u_7_20 h21 => ?_)
          obtain ⟨p22, p23, p24⟩ := h21
          (try dsimp only at p22); (try simp only [zi_cl, Int32.lt_iff_toInt_lt, Int32.le_iff_toInt_le, ← Int32.toInt_inj, Int32.toInt_add, Int32.toInt_sub, Int32.toInt_mul, true_and, and_true, false_and, and_false, or_false, false_or, or_true, true_or, not_true_eq_false, not_false_eq_true, implies_true, forall_const, zl_0, zl_1, zl_4, zl_5, zl_10, zl_48] at p22); (try simp (disch := omega) only [zi_bm2, zi_bm] at p22)
          (try dsimp only at p23); (try simp only [zi_cl, Int32.lt_iff_toInt_lt, Int32.le_iff_toInt_le, ← Int32.toInt_inj, Int32.toInt_add, Int32.toInt_sub, Int32.toInt_mul, true_and, and_true, false_and, and_false, or_false, false_or, or_true, true_or, not_true_eq_false, not_false_eq_true, implies_true, forall_const, zl_0, zl_1, zl_4, zl_5, zl_10, zl_48] at p23); (try simp (disch := omega) only [zi_bm2, zi_bm] at p23)
          (try dsimp only at p24); (try simp only [zi_cl, Int32.lt_iff_toInt_lt, Int32.le_iff_toInt_le, ← Int32.toInt_inj, Int32.toInt_add, Int32.toInt_sub, Int32.toInt_mul, true_and, and_true, false_and, and_false, or_false, false_or, or_true, true_or, not_true_eq_false, not_false_eq_true, implies_true, forall_const, zl_0, zl_1, zl_4, zl_5, zl_10, zl_48] at p24); (try simp (disch := omega) only [zi_bm2, zi_bm] at p24)
          refine zp_let (fun v_9_25 ev_9_25 => ?_)
          (try dsimp only at ev_9_25); (try simp only [zi_cl, Int32.lt_iff_toInt_lt, Int32.le_iff_toInt_le, ← Int32.toInt_inj, Int32.toInt_add, Int32.toInt_sub, Int32.toInt_mul, true_and, and_true, false_and, and_false, or_false, false_or, or_true, true_or, not_true_eq_false, not_false_eq_true, implies_true, forall_const, zl_0, zl_1, zl_4, zl_5, zl_10, zl_48] at ev_9_25); (try simp (disch := omega) only [zi_bm2, zi_bm] at ev_9_25)
          refine zp_let (fun v_10_26 ev_10_26 => ?_)
          (try dsimp only at ev_10_26); (try simp only [zi_cl, Int32.lt_iff_toInt_lt, Int32.le_iff_toInt_le, ← Int32.toInt_inj, Int32.toInt_add, Int32.toInt_sub, Int32.toInt_mul, true_and, and_true, false_and, and_false, or_false, false_or, or_true, true_or, not_true_eq_false, not_false_eq_true, implies_true, forall_const, zl_0, zl_1, zl_4, zl_5, zl_10, zl_48] at ev_10_26); (try simp (disch := omega) only [zi_bm2, zi_bm] at ev_10_26)
          refine zp_let (fun v_11_27 ev_11_27 => ?_)
          (try dsimp only at ev_11_27); (try simp only [zi_cl, Int32.lt_iff_toInt_lt, Int32.le_iff_toInt_le, ← Int32.toInt_inj, Int32.toInt_add, Int32.toInt_sub, Int32.toInt_mul, true_and, and_true, false_and, and_false, or_false, false_or, or_true, true_or, not_true_eq_false, not_false_eq_true, implies_true, forall_const, zl_0, zl_1, zl_4, zl_5, zl_10, zl_48] at ev_11_27); (try simp (disch := omega) only [zi_bm2, zi_bm] at ev_11_27)
          exact ih v_9_25 v_11_27 lr_size v_10_26 lr_code k0 (by (first | with_reducible assumption | omega | assumption | ((try dsimp only); (try simp only [zi_cl, Int32.lt_iff_toInt_lt, Int32.le_iff_toInt_le, ← Int32.toInt_inj, Int32.toInt_add, Int32.toInt_sub, Int32.toInt_mul, true_and, and_true, false_and, and_false, or_false, false_or, or_true, true_or, not_true_eq_false, not_false_eq_true, implies_true, forall_const, zl_0, zl_1, zl_4, zl_5, zl_10, zl_48]) <;> first | omega | (simp (disch := omega) only [zi_bm2, zi_bm]; omega) | omega))) k2 (by (first | with_reducible assumption | omega | assumption | ((try dsimp only); (try simp only [zi_cl, Int32.lt_iff_toInt_lt, Int32.le_iff_toInt_le, ← Int32.toInt_inj, Int32.toInt_add, Int32.toInt_sub, Int32.toInt_mul, true_and, and_true, false_and, and_false, or_false, false_or, or_true, true_or, not_true_eq_false, not_false_eq_true, implies_true, forall_const, zl_0, zl_1, zl_4, zl_5, zl_10, zl_48]) <;> first | omega | (simp (disch := omega) only [zi_bm2, zi_bm]; omega) | omega))) (by (first | with_reducible assumption | omega | assumption | ((try dsimp only); (try simp only [zi_cl, Int32.lt_iff_toInt_lt, Int32.le_iff_toInt_le, ← Int32.toInt_inj, Int32.toInt_add, Int32.toInt_sub, Int32.toInt_mul, true_and, and_true, false_and, and_false, or_false, false_or, or_true, true_or, not_true_eq_false, not_false_eq_true, implies_true, forall_const, zl_0, zl_1, zl_4, zl_5, zl_10, zl_48]) <;> first | omega | (simp (disch := omega) only [zi_bm2, zi_bm]; omega) | omega))) (by (first | with_reducible assumption | omega | assumption | ((try dsimp only); (try simp only [zi_cl, Int32.lt_iff_toInt_lt, Int32.le_iff_toInt_le, ← Int32.toInt_inj, Int32.toInt_add, Int32.toInt_sub, Int32.toInt_mul, true_and, and_true, false_and, and_false, or_false, false_or, or_true, true_or, not_true_eq_false, not_false_eq_true, implies_true, forall_const, zl_0, zl_1, zl_4, zl_5, zl_10, zl_48]) <;> first | omega | (simp (disch := omega) only [zi_bm2, zi_bm]; omega) | omega)))
set_option maxHeartbeats 4000000 in
set_option maxRecDepth 20000 in
theorem s_X5_readNumber  (tape_size : Int32) (tape_bytes : Nat → Int32) (lr_size : Int32) (lr_at : Int32) (lr_fault : Int32) (lr_code : Nat → Int32) (k0 : 0 ≤ tape_size.toInt ∧ tape_size.toInt ≤ 120) (k1 : AR (0) (255) tape_bytes) (k2 : 0 ≤ lr_size.toInt ∧ lr_size.toInt ≤ 121) (k3 : 0 ≤ lr_at.toInt ∧ lr_at.toInt ≤ 120) (k4 : -1 ≤ lr_fault.toInt ∧ lr_fault.toInt ≤ 120) (k5 : AR (0) (524287) lr_code) : zp (f_X5_readNumber 100000 tape_size tape_bytes lr_size lr_at lr_fault lr_code) (fun R => (0 ≤ R.1.toInt ∧ R.1.toInt ≤ 121) ∧ (0 ≤ R.2.1.toInt ∧ R.2.1.toInt ≤ 120) ∧ (AR (0) (524287) R.2.2)) := by
  unfold f_X5_readNumber
  unfold B_X5_readNumber_0
  exact (l_X5_readNumber  tape_size tape_bytes lr_fault k0 k1 k4 100000) (0 : Int32) (0 : Int32) lr_size lr_at lr_code k2 k3 k5 (by (first | with_reducible assumption | omega | assumption | ((try dsimp only); (try simp only [zi_cl, Int32.lt_iff_toInt_lt, Int32.le_iff_toInt_le, ← Int32.toInt_inj, Int32.toInt_add, Int32.toInt_sub, Int32.toInt_mul, true_and, and_true, false_and, and_false, or_false, false_or, or_true, true_or, not_true_eq_false, not_false_eq_true, implies_true, forall_const, zl_0, zl_1, zl_4, zl_5, zl_10, zl_48]) <;> first | omega | (simp (disch := omega) only [zi_bm2, zi_bm]; omega) | omega))) (by (first | with_reducible assumption | omega | assumption | ((try dsimp only); (try simp only [zi_cl, Int32.lt_iff_toInt_lt, Int32.le_iff_toInt_le, ← Int32.toInt_inj, Int32.toInt_add, Int32.toInt_sub, Int32.toInt_mul, true_and, and_true, false_and, and_false, or_false, false_or, or_true, true_or, not_true_eq_false, not_false_eq_true, implies_true, forall_const, zl_0, zl_1, zl_4, zl_5, zl_10, zl_48]) <;> first | omega | (simp (disch := omega) only [zi_bm2, zi_bm]; omega) | omega))) (by (first | with_reducible assumption | omega | assumption | ((try dsimp only); (try simp only [zi_cl, Int32.lt_iff_toInt_lt, Int32.le_iff_toInt_le, ← Int32.toInt_inj, Int32.toInt_add, Int32.toInt_sub, Int32.toInt_mul, true_and, and_true, false_and, and_false, or_false, false_or, or_true, true_or, not_true_eq_false, not_false_eq_true, implies_true, forall_const, zl_0, zl_1, zl_4, zl_5, zl_10, zl_48]) <;> first | omega | (simp (disch := omega) only [zi_bm2, zi_bm]; omega) | omega)))

set_option maxHeartbeats 4000000 in
set_option maxRecDepth 20000 in
theorem b_X5_readName_15 (s0 : Int32) (lr_size : Int32) (lr_at : Int32) (lr_fault : Int32) (lr_code : Nat → Int32) (k0 : 0 ≤ lr_size.toInt ∧ lr_size.toInt ≤ 121) (k1 : 0 ≤ lr_at.toInt ∧ lr_at.toInt ≤ 120) (k2 : -1 ≤ lr_fault.toInt ∧ lr_fault.toInt ≤ 120) (k3 : AR (0) (524287) lr_code) (k4 : -1 ≤ s0.toInt ∧ s0.toInt ≤ 10) (k5 : s0.toInt = -1 ∨ lr_at.toInt ≤ 119) : zp (B_X5_readName_15 s0 lr_size lr_at lr_fault lr_code) (fun R => (0 ≤ R.1.toInt ∧ R.1.toInt ≤ 121) ∧ (0 ≤ R.2.1.toInt ∧ R.2.1.toInt ≤ 120) ∧ (-1 ≤ R.2.2.1.toInt ∧ R.2.2.1.toInt ≤ 120) ∧ (AR (0) (524287) R.2.2.2)) := by
  (try dsimp only at k4); (try simp only [zi_cl, Int32.lt_iff_toInt_lt, Int32.le_iff_toInt_le, ← Int32.toInt_inj, Int32.toInt_add, Int32.toInt_sub, Int32.toInt_mul, true_and, and_true, false_and, and_false, or_false, false_or, or_true, true_or, not_true_eq_false, not_false_eq_true, implies_true, forall_const, zl_m1, zl_0, zl_1, zl_5] at k4); (try simp (disch := omega) only [zi_bm2, zi_bm] at k4)
  (try dsimp only at k5); (try simp only [zi_cl, Int32.lt_iff_toInt_lt, Int32.le_iff_toInt_le, ← Int32.toInt_inj, Int32.toInt_add, Int32.toInt_sub, Int32.toInt_mul, true_and, and_true, false_and, and_false, or_false, false_or, or_true, true_or, not_true_eq_false, not_false_eq_true, implies_true, forall_const, zl_m1, zl_0, zl_1, zl_5] at k5); (try simp (disch := omega) only [zi_bm2, zi_bm] at k5)
  unfold B_X5_readName_15
  refine zp_ite (fun c1 => ?_) (fun c1 => ?_)
  · (try dsimp only at c1); (try simp only [zi_cl, Int32.lt_iff_toInt_lt, Int32.le_iff_toInt_le, ← Int32.toInt_inj, Int32.toInt_add, Int32.toInt_sub, Int32.toInt_mul, true_and, and_true, false_and, and_false, or_false, false_or, or_true, true_or, not_true_eq_false, not_false_eq_true, implies_true, forall_const, zl_m1, zl_0, zl_1, zl_5] at c1); (try simp (disch := omega) only [zi_bm2, zi_bm] at c1)
    refine zp_let (fun v_6_2 ev_6_2 => ?_)
    (try dsimp only at ev_6_2); (try simp only [zi_cl, Int32.lt_iff_toInt_lt, Int32.le_iff_toInt_le, ← Int32.toInt_inj, Int32.toInt_add, Int32.toInt_sub, Int32.toInt_mul, true_and, and_true, false_and, and_false, or_false, false_or, or_true, true_or, not_true_eq_false, not_false_eq_true, implies_true, forall_const, zl_m1, zl_0, zl_1, zl_5] at ev_6_2); (try simp (disch := omega) only [zi_bm2, zi_bm] at ev_6_2)
    have z5 := zb_tok (x := s0) (t := (1 : Int32)) (by omega) (by decide)
    (try dsimp only at z5); (try simp only [zi_cl, Int32.lt_iff_toInt_lt, Int32.le_iff_toInt_le, ← Int32.toInt_inj, Int32.toInt_add, Int32.toInt_sub, Int32.toInt_mul, true_and, and_true, false_and, and_false, or_false, false_or, or_true, true_or, not_true_eq_false, not_false_eq_true, implies_true, forall_const, zl_m1, zl_0, zl_1, zl_5] at z5); (try simp (disch := omega) only [zi_bm2, zi_bm] at z5)
    refine zp_b2 (s_X5_emit ((s0 <<< ((5 : Int32) &&& 31)) ||| (1 : Int32)) lr_size v_6_2 lr_fault lr_code k0 (by (first | with_reducible assumption | omega | assumption | ((try dsimp only); (try simp only [zi_cl, Int32.lt_iff_toInt_lt, Int32.le_iff_toInt_le, ← Int32.toInt_inj, Int32.toInt_add, Int32.toInt_sub, Int32.toInt_mul, true_and, and_true, false_and, and_false, or_false, false_or, or_true, true_or, not_true_eq_false, not_false_eq_true, implies_true, forall_const, zl_m1, zl_0, zl_1, zl_5]) <;> first | omega | (simp (disch := omega) only [zi_bm2, zi_bm]; omega) | omega))) k2 k3 (by (first | with_reducible assumption | omega | assumption | ((try dsimp only); (try simp only [zi_cl, Int32.lt_iff_toInt_lt, Int32.le_iff_toInt_le, ← Int32.toInt_inj, Int32.toInt_add, Int32.toInt_sub, Int32.toInt_mul, true_and, and_true, false_and, and_false, or_false, false_or, or_true, true_or, not_true_eq_false, not_false_eq_true, implies_true, forall_const, zl_m1, zl_0, zl_1, zl_5]) <;> first | omega | (simp (disch := omega) only [zi_bm2, zi_bm]; omega) | omega)))) (fun u_7_3 u_8_4 h6 => ?_)
    obtain ⟨p7, p8⟩ := h6
    (try dsimp only at p7); (try simp only [zi_cl, Int32.lt_iff_toInt_lt, Int32.le_iff_toInt_le, ← Int32.toInt_inj, Int32.toInt_add, Int32.toInt_sub, Int32.toInt_mul, true_and, and_true, false_and, and_false, or_false, false_or, or_true, true_or, not_true_eq_false, not_false_eq_true, implies_true, forall_const, zl_m1, zl_0, zl_1, zl_5] at p7); (try simp (disch := omega) only [zi_bm2, zi_bm] at p7)
    have p8 : AR (0) (524287) u_8_4 := p8
    exact zp_i ⟨p7, (by (first | with_reducible assumption | omega | assumption | ((try dsimp only); (try simp only [zi_cl, Int32.lt_iff_toInt_lt, Int32.le_iff_toInt_le, ← Int32.toInt_inj, Int32.toInt_add, Int32.toInt_sub, Int32.toInt_mul, true_and, and_true, false_and, and_false, or_false, false_or, or_true, true_or, not_true_eq_false, not_false_eq_true, implies_true, forall_const, zl_m1, zl_0, zl_1, zl_5]) <;> first | omega | (simp (disch := omega) only [zi_bm2, zi_bm]; omega) | omega))), k2, p8⟩
  · (try dsimp only at c1); (try simp only [zi_cl, Int32.lt_iff_toInt_lt, Int32.le_iff_toInt_le, ← Int32.toInt_inj, Int32.toInt_add, Int32.toInt_sub, Int32.toInt_mul, true_and, and_true, false_and, and_false, or_false, false_or, or_true, true_or, not_true_eq_false, not_false_eq_true, implies_true, forall_const, zl_m1, zl_0, zl_1, zl_5] at c1); (try simp (disch := omega) only [zi_bm2, zi_bm] at c1)
    refine zp_b1 (s_X5_fail lr_size lr_at lr_fault k0 k1 k2) (fun u_10_9 h10 => ?_)
    have p11 := h10
    (try dsimp only at p11); (try simp only [zi_cl, Int32.lt_iff_toInt_lt, Int32.le_iff_toInt_le, ← Int32.toInt_inj, Int32.toInt_add, Int32.toInt_sub, Int32.toInt_mul, true_and, and_true, false_and, and_false, or_false, false_or, or_true, true_or, not_true_eq_false, not_false_eq_true, implies_true, forall_const, zl_m1, zl_0, zl_1, zl_5] at p11); (try simp (disch := omega) only [zi_bm2, zi_bm] at p11)
    exact zp_i ⟨k0, k1, p11, k3⟩
set_option maxHeartbeats 4000000 in
set_option maxRecDepth 20000 in
theorem s_X5_readName  (x1 : Int32) (lr_size : Int32) (lr_at : Int32) (lr_fault : Int32) (lr_code : Nat → Int32) (k0 : 0 ≤ lr_size.toInt ∧ lr_size.toInt ≤ 121) (k1 : 0 ≤ lr_at.toInt ∧ lr_at.toInt ≤ 120) (k2 : -1 ≤ lr_fault.toInt ∧ lr_fault.toInt ≤ 120) (k3 : AR (0) (524287) lr_code) (k4 : -1 ≤ x1.toInt ∧ x1.toInt ≤ 255) (k5 : x1.toInt = -1 ∨ lr_at.toInt ≤ 119) : zp (f_X5_readName x1 lr_size lr_at lr_fault lr_code) (fun R => (0 ≤ R.1.toInt ∧ R.1.toInt ≤ 121) ∧ (0 ≤ R.2.1.toInt ∧ R.2.1.toInt ≤ 120) ∧ (-1 ≤ R.2.2.1.toInt ∧ R.2.2.1.toInt ≤ 120) ∧ (AR (0) (524287) R.2.2.2)) := by
  have rg_x1 := zi_rng x1
  (try dsimp only at k4); (try simp only [zi_cl, Int32.lt_iff_toInt_lt, Int32.le_iff_toInt_le, ← Int32.toInt_inj, Int32.toInt_add, Int32.toInt_sub, Int32.toInt_mul, true_and, and_true, false_and, and_false, or_false, false_or, or_true, true_or, not_true_eq_false, not_false_eq_true, implies_true, forall_const, zl_m1, zl_0, zl_1, zl_5] at k4); (try simp (disch := omega) only [zi_bm2, zi_bm] at k4)
  (try dsimp only at k5); (try simp only [zi_cl, Int32.lt_iff_toInt_lt, Int32.le_iff_toInt_le, ← Int32.toInt_inj, Int32.toInt_add, Int32.toInt_sub, Int32.toInt_mul, true_and, and_true, false_and, and_false, or_false, false_or, or_true, true_or, not_true_eq_false, not_false_eq_true, implies_true, forall_const, zl_m1, zl_0, zl_1, zl_5] at k5); (try simp (disch := omega) only [zi_bm2, zi_bm] at k5)
  unfold f_X5_readName
  unfold B_X5_readName_0
  refine zp_ite (fun c1 => ?_) (fun c1 => ?_)
  · (try dsimp only at c1); (try simp only [zi_cl, Int32.lt_iff_toInt_lt, Int32.le_iff_toInt_le, ← Int32.toInt_inj, Int32.toInt_add, Int32.toInt_sub, Int32.toInt_mul, true_and, and_true, false_and, and_false, or_false, false_or, or_true, true_or, not_true_eq_false, not_false_eq_true, implies_true, forall_const, zl_m1, zl_0, zl_1, zl_5] at c1); (try simp (disch := omega) only [zi_bm2, zi_bm] at c1)
    refine zp_b2 (s_J0_indexOf_0f7a4 4 ((x1.toUInt32 % 65536).toInt32) (by (first | with_reducible assumption | omega | assumption | ((try dsimp only); (try simp only [zi_cl, Int32.lt_iff_toInt_lt, Int32.le_iff_toInt_le, ← Int32.toInt_inj, Int32.toInt_add, Int32.toInt_sub, Int32.toInt_mul, true_and, and_true, false_and, and_false, or_false, false_or, or_true, true_or, not_true_eq_false, not_false_eq_true, implies_true, forall_const, zl_m1, zl_0, zl_1, zl_5]) <;> first | omega | (simp (disch := omega) only [zi_bm2, zi_bm]; omega) | omega))) ⟨x1, (by (first | with_reducible assumption | omega | assumption | ((try dsimp only); (try simp only [zi_cl, Int32.lt_iff_toInt_lt, Int32.le_iff_toInt_le, ← Int32.toInt_inj, Int32.toInt_add, Int32.toInt_sub, Int32.toInt_mul, true_and, and_true, false_and, and_false, or_false, false_or, or_true, true_or, not_true_eq_false, not_false_eq_true, implies_true, forall_const, zl_m1, zl_0, zl_1, zl_5]) <;> first | omega | (simp (disch := omega) only [zi_bm2, zi_bm]; omega) | omega))), rfl⟩) (fun r_2_2 u_3_3 h4 => ?_)
    have p5 := h4
    (try dsimp only at p5); (try simp only [zi_cl, Int32.lt_iff_toInt_lt, Int32.le_iff_toInt_le, ← Int32.toInt_inj, Int32.toInt_add, Int32.toInt_sub, Int32.toInt_mul, true_and, and_true, false_and, and_false, or_false, false_or, or_true, true_or, not_true_eq_false, not_false_eq_true, implies_true, forall_const, zl_m1, zl_0, zl_1, zl_5] at p5); (try simp (disch := omega) only [zi_bm2, zi_bm] at p5)
    exact b_X5_readName_15 r_2_2 lr_size lr_at lr_fault lr_code k0 k1 k2 k3 (by (first | with_reducible assumption | omega | assumption | ((try dsimp only); (try simp only [zi_cl, Int32.lt_iff_toInt_lt, Int32.le_iff_toInt_le, ← Int32.toInt_inj, Int32.toInt_add, Int32.toInt_sub, Int32.toInt_mul, true_and, and_true, false_and, and_false, or_false, false_or, or_true, true_or, not_true_eq_false, not_false_eq_true, implies_true, forall_const, zl_m1, zl_0, zl_1, zl_5]) <;> first | omega | (simp (disch := omega) only [zi_bm2, zi_bm]; omega) | omega))) (by (first | with_reducible assumption | omega | assumption | ((try dsimp only); (try simp only [zi_cl, Int32.lt_iff_toInt_lt, Int32.le_iff_toInt_le, ← Int32.toInt_inj, Int32.toInt_add, Int32.toInt_sub, Int32.toInt_mul, true_and, and_true, false_and, and_false, or_false, false_or, or_true, true_or, not_true_eq_false, not_false_eq_true, implies_true, forall_const, zl_m1, zl_0, zl_1, zl_5]) <;> first | omega | (simp (disch := omega) only [zi_bm2, zi_bm]; omega) | omega)))
  · (try dsimp only at c1); (try simp only [zi_cl, Int32.lt_iff_toInt_lt, Int32.le_iff_toInt_le, ← Int32.toInt_inj, Int32.toInt_add, Int32.toInt_sub, Int32.toInt_mul, true_and, and_true, false_and, and_false, or_false, false_or, or_true, true_or, not_true_eq_false, not_false_eq_true, implies_true, forall_const, zl_m1, zl_0, zl_1, zl_5] at c1); (try simp (disch := omega) only [zi_bm2, zi_bm] at c1)
    exact b_X5_readName_15 (-1 : Int32) lr_size lr_at lr_fault lr_code k0 k1 k2 k3 (by (first | with_reducible assumption | omega | assumption | ((try dsimp only); (try simp only [zi_cl, Int32.lt_iff_toInt_lt, Int32.le_iff_toInt_le, ← Int32.toInt_inj, Int32.toInt_add, Int32.toInt_sub, Int32.toInt_mul, true_and, and_true, false_and, and_false, or_false, false_or, or_true, true_or, not_true_eq_false, not_false_eq_true, implies_true, forall_const, zl_m1, zl_0, zl_1, zl_5]) <;> first | omega | (simp (disch := omega) only [zi_bm2, zi_bm]; omega) | omega))) (by (first | with_reducible assumption | omega | assumption | ((try dsimp only); (try simp only [zi_cl, Int32.lt_iff_toInt_lt, Int32.le_iff_toInt_le, ← Int32.toInt_inj, Int32.toInt_add, Int32.toInt_sub, Int32.toInt_mul, true_and, and_true, false_and, and_false, or_false, false_or, or_true, true_or, not_true_eq_false, not_false_eq_true, implies_true, forall_const, zl_m1, zl_0, zl_1, zl_5]) <;> first | omega | (simp (disch := omega) only [zi_bm2, zi_bm]; omega) | omega)))

theorem zg0_G_X5_readLevel  (r_X5_readLevel : Int32 → Int32 → Int32 → (Nat → Int32) → Int32 → Int32 → Int32 → (Nat → Int32) → (Option (Int32 × Int32 × Int32 × (Nat → Int32)))) (r_X5_readOperand : Int32 → Int32 → (Nat → Int32) → Int32 → Int32 → Int32 → (Nat → Int32) → (Option (Int32 × Int32 × Int32 × (Nat → Int32)))) (tape_size : Int32) (tape_bytes : Nat → Int32) (n : Nat) (y0 : Int32) (y1 : Int32) (y2 : Int32) (y3 : Int32) (y4 : Int32) (y5 : Int32) (y6 : (Nat → Int32)) : (G_X5_readLevel r_X5_readLevel r_X5_readOperand tape_size tape_bytes (n + 1)) y0 y1 y2 y3 y4 y5 y6 = B_X5_readLevel_21  r_X5_readLevel r_X5_readOperand (G_X5_readLevel r_X5_readLevel r_X5_readOperand tape_size tape_bytes n) tape_size tape_bytes y0 y1 y2 y3 y4 y5 y6 := rfl
set_option maxHeartbeats 4000000 in
set_option maxRecDepth 20000 in
theorem l_X5_readLevel  (d : Nat) (r_X5_readLevel : Int32 → Int32 → Int32 → (Nat → Int32) → Int32 → Int32 → Int32 → (Nat → Int32) → (Option (Int32 × Int32 × Int32 × (Nat → Int32)))) (r_X5_readOperand : Int32 → Int32 → (Nat → Int32) → Int32 → Int32 → Int32 → (Nat → Int32) → (Option (Int32 × Int32 × Int32 × (Nat → Int32)))) (hr_X5_readLevel : ∀ (x1 : Int32) (x2 : Int32) (tape_size : Int32) (tape_bytes : Nat → Int32) (lr_size : Int32) (lr_at : Int32) (lr_fault : Int32) (lr_code : Nat → Int32), (0 ≤ tape_size.toInt ∧ tape_size.toInt ≤ 120) → (AR (0) (255) tape_bytes) → (0 ≤ lr_size.toInt ∧ lr_size.toInt ≤ 121) → (0 ≤ lr_at.toInt ∧ lr_at.toInt ≤ 120) → (-1 ≤ lr_fault.toInt ∧ lr_fault.toInt ≤ 120) → (AR (0) (524287) lr_code) → (0 ≤ x1.toInt ∧ x1.toInt ≤ 5) → (0 ≤ x2.toInt ∧ x2.toInt ≤ 6) → ((6 - x2.toInt) * 7 + 6 - x1.toInt).toNat < d → zp (r_X5_readLevel x1 x2 tape_size tape_bytes lr_size lr_at lr_fault lr_code) (fun R => (0 ≤ R.1.toInt ∧ R.1.toInt ≤ 121) ∧ (0 ≤ R.2.1.toInt ∧ R.2.1.toInt ≤ 120) ∧ (-1 ≤ R.2.2.1.toInt ∧ R.2.2.1.toInt ≤ 120) ∧ (AR (0) (524287) R.2.2.2))) (hr_X5_readOperand : ∀ (x1 : Int32) (tape_size : Int32) (tape_bytes : Nat → Int32) (lr_size : Int32) (lr_at : Int32) (lr_fault : Int32) (lr_code : Nat → Int32), (0 ≤ tape_size.toInt ∧ tape_size.toInt ≤ 120) → (AR (0) (255) tape_bytes) → (0 ≤ lr_size.toInt ∧ lr_size.toInt ≤ 121) → (0 ≤ lr_at.toInt ∧ lr_at.toInt ≤ 120) → (-1 ≤ lr_fault.toInt ∧ lr_fault.toInt ≤ 120) → (AR (0) (524287) lr_code) → (0 ≤ x1.toInt ∧ x1.toInt ≤ 6) → ((6 - x1.toInt) * 7).toNat < d → zp (r_X5_readOperand x1 tape_size tape_bytes lr_size lr_at lr_fault lr_code) (fun R => (0 ≤ R.1.toInt ∧ R.1.toInt ≤ 121) ∧ (0 ≤ R.2.1.toInt ∧ R.2.1.toInt ≤ 120) ∧ (-1 ≤ R.2.2.1.toInt ∧ R.2.2.1.toInt ≤ 120) ∧ (AR (0) (524287) R.2.2.2))) (tape_size : Int32) (tape_bytes : Nat → Int32) (h_tape_size : 0 ≤ tape_size.toInt ∧ tape_size.toInt ≤ 120) (h_tape_bytes : AR (0) (255) tape_bytes) : ∀ n : Nat, (∀ (x1 : Int32) (x2 : Int32) (x3 : Int32) (lr_size : Int32) (lr_at : Int32) (lr_fault : Int32) (lr_code : Nat → Int32), (0 ≤ lr_size.toInt ∧ lr_size.toInt ≤ 121) → (0 ≤ lr_at.toInt ∧ lr_at.toInt ≤ 120) → (-1 ≤ lr_fault.toInt ∧ lr_fault.toInt ≤ 120) → (AR (0) (524287) lr_code) → (0 ≤ x1.toInt ∧ x1.toInt ≤ 5) → (0 ≤ x2.toInt ∧ x2.toInt ≤ 6) → (0 ≤ x3.toInt ∧ x3.toInt ≤ 120) → (x1.toInt ≤ 4) → (((6 - x2.toInt) * 7 + 6 - x1.toInt).toNat < d + 1) → (121 - x3.toInt).toNat < n → zp ((G_X5_readLevel r_X5_readLevel r_X5_readOperand tape_size tape_bytes n) x1 x2 x3 lr_size lr_at lr_fault lr_code) (fun R => (0 ≤ R.1.toInt ∧ R.1.toInt ≤ 121) ∧ (0 ≤ R.2.1.toInt ∧ R.2.1.toInt ≤ 120) ∧ (-1 ≤ R.2.2.1.toInt ∧ R.2.2.1.toInt ≤ 120) ∧ (AR (0) (524287) R.2.2.2))) := by
  intro n
  induction n with
  | zero =>
    exact (fun x1 x2 x3 lr_size lr_at lr_fault lr_code _ _ _ _ _ _ _ _ _ hm => absurd hm (Nat.not_lt_zero _))
  | succ n ih =>
    refine ?_
    · intro x1 x2 x3 lr_size lr_at lr_fault lr_code k0 k1 k2 k3 k4 k5 k6 k7 k8 hm
      have rg_x1 := zi_rng x1
      have rg_x2 := zi_rng x2
      have rg_x3 := zi_rng x3
      (try dsimp only at k4); (try simp only [zi_cl, Int32.lt_iff_toInt_lt, Int32.le_iff_toInt_le, ← Int32.toInt_inj, Int32.toInt_add, Int32.toInt_sub, Int32.toInt_mul, true_and, and_true, false_and, and_false, or_false, false_or, or_true, true_or, not_true_eq_false, not_false_eq_true, implies_true, forall_const, zl_0, zl_1, zl_2, zl_4, zl_120] at k4); (try simp (disch := omega) only [zi_bm2, zi_bm] at k4)
      (try dsimp only at k5); (try simp only [zi_cl, Int32.lt_iff_toInt_lt, Int32.le_iff_toInt_le, ← Int32.toInt_inj, Int32.toInt_add, Int32.toInt_sub, Int32.toInt_mul, true_and, and_true, false_and, and_false, or_false, false_or, or_true, true_or, not_true_eq_false, not_false_eq_true, implies_true, forall_const, zl_0, zl_1, zl_2, zl_4, zl_120] at k5); (try simp (disch := omega) only [zi_bm2, zi_bm] at k5)
      (try dsimp only at k6); (try simp only [zi_cl, Int32.lt_iff_toInt_lt, Int32.le_iff_toInt_le, ← Int32.toInt_inj, Int32.toInt_add, Int32.toInt_sub, Int32.toInt_mul, true_and, and_true, false_and, and_false, or_false, false_or, or_true, true_or, not_true_eq_false, not_false_eq_true, implies_true, forall_const, zl_0, zl_1, zl_2, zl_4, zl_120] at k6); (try simp (disch := omega) only [zi_bm2, zi_bm] at k6)
      (try dsimp only at k7); (try simp only [zi_cl, Int32.lt_iff_toInt_lt, Int32.le_iff_toInt_le, ← Int32.toInt_inj, Int32.toInt_add, Int32.toInt_sub, Int32.toInt_mul, true_and, and_true, false_and, and_false, or_false, false_or, or_true, true_or, not_true_eq_false, not_false_eq_true, implies_true, forall_const, zl_0, zl_1, zl_2, zl_4, zl_120] at k7); (try simp (disch := omega) only [zi_bm2, zi_bm] at k7)
      (try dsimp only at k8); (try simp only [zi_cl, Int32.lt_iff_toInt_lt, Int32.le_iff_toInt_le, ← Int32.toInt_inj, Int32.toInt_add, Int32.toInt_sub, Int32.toInt_mul, true_and, and_true, false_and, and_false, or_false, false_or, or_true, true_or, not_true_eq_false, not_false_eq_true, implies_true, forall_const, zl_0, zl_1, zl_2, zl_4, zl_120] at k8); (try simp (disch := omega) only [zi_bm2, zi_bm] at k8)
      rw [zg0_G_X5_readLevel]
      unfold B_X5_readLevel_21
      refine zp_ite (fun c1 => ?_) (fun c1 => ?_)
      · (try dsimp only at c1); (try simp only [zi_cl, Int32.lt_iff_toInt_lt, Int32.le_iff_toInt_le, ← Int32.toInt_inj, Int32.toInt_add, Int32.toInt_sub, Int32.toInt_mul, true_and, and_true, false_and, and_false, or_false, false_or, or_true, true_or, not_true_eq_false, not_false_eq_true, implies_true, forall_const, zl_0, zl_1, zl_2, zl_4, zl_120] at c1); (try simp (disch := omega) only [zi_bm2, zi_bm] at c1)
        exact zp_i ⟨k0, k1, k2, k3⟩
      · (try dsimp only at c1); (try simp only [zi_cl, Int32.lt_iff_toInt_lt, Int32.le_iff_toInt_le, ← Int32.toInt_inj, Int32.toInt_add, Int32.toInt_sub, Int32.toInt_mul, true_and, and_true, false_and, and_false, or_false, false_or, or_true, true_or, not_true_eq_false, not_false_eq_true, implies_true, forall_const, zl_0, zl_1, zl_2, zl_4, zl_120] at c1); (try simp (disch := omega) only [zi_bm2, zi_bm] at c1)
        refine zp_ite (fun c2 => ?_) (fun c2 => ?_)
        · (try dsimp only at c2); (try simp only [zi_cl, Int32.lt_iff_toInt_lt, Int32.le_iff_toInt_le, ← Int32.toInt_inj, Int32.toInt_add, Int32.toInt_sub, Int32.toInt_mul, true_and, and_true, false_and, and_false, or_false, false_or, or_true, true_or, not_true_eq_false, not_false_eq_true, implies_true, forall_const, zl_0, zl_1, zl_2, zl_4, zl_120] at c2); (try simp (disch := omega) only [zi_bm2, zi_bm] at c2)
          exact zp_i ⟨k0, k1, k2, k3⟩
        · (try dsimp only at c2); (try simp only [zi_cl, Int32.lt_iff_toInt_lt, Int32.le_iff_toInt_le, ← Int32.toInt_inj, Int32.toInt_add, Int32.toInt_sub, Int32.toInt_mul, true_and, and_true, false_and, and_false, or_false, false_or, or_true, true_or, not_true_eq_false, not_false_eq_true, implies_true, forall_const, zl_0, zl_1, zl_2, zl_4, zl_120] at c2); (try simp (disch := omega) only [zi_bm2, zi_bm] at c2)
          refine zp_b2 (s_X5_operatorAt x1 tape_size tape_bytes lr_size lr_at lr_fault h_tape_size h_tape_bytes k0 k1 k2) (fun r_14_3 u_15_4 h5 => ?_)
          obtain ⟨p6, p7⟩ := h5
          (try dsimp only at p6); (try simp only [zi_cl, Int32.lt_iff_toInt_lt, Int32.le_iff_toInt_le, ← Int32.toInt_inj, Int32.toInt_add, Int32.toInt_sub, Int32.toInt_mul, true_and, and_true, false_and, and_false, or_false, false_or, or_true, true_or, not_true_eq_false, not_false_eq_true, implies_true, forall_const, zl_0, zl_1, zl_2, zl_4, zl_120] at p6); (try simp (disch := omega) only [zi_bm2, zi_bm] at p6)
          (try dsimp only at p7); (try simp only [zi_cl, Int32.lt_iff_toInt_lt, Int32.le_iff_toInt_le, ← Int32.toInt_inj, Int32.toInt_add, Int32.toInt_sub, Int32.toInt_mul, true_and, and_true, false_and, and_false, or_false, false_or, or_true, true_or, not_true_eq_false, not_false_eq_true, implies_true, forall_const, zl_0, zl_1, zl_2, zl_4, zl_120] at p7); (try simp (disch := omega) only [zi_bm2, zi_bm] at p7)
          refine zp_ite (fun c8 => ?_) (fun c8 => ?_)
          · (try dsimp only at c8); (try simp only [zi_cl, Int32.lt_iff_toInt_lt, Int32.le_iff_toInt_le, ← Int32.toInt_inj, Int32.toInt_add, Int32.toInt_sub, Int32.toInt_mul, true_and, and_true, false_and, and_false, or_false, false_or, or_true, true_or, not_true_eq_false, not_false_eq_true, implies_true, forall_const, zl_0, zl_1, zl_2, zl_4, zl_120] at c8); (try simp (disch := omega) only [zi_bm2, zi_bm] at c8)
            refine zp_let (fun v_18_9 ev_18_9 => ?_)
            (try dsimp only at ev_18_9); (try simp only [zi_cl, Int32.lt_iff_toInt_lt, Int32.le_iff_toInt_le, ← Int32.toInt_inj, Int32.toInt_add, Int32.toInt_sub, Int32.toInt_mul, true_and, and_true, false_and, and_false, or_false, false_or, or_true, true_or, not_true_eq_false, not_false_eq_true, implies_true, forall_const, zl_0, zl_1, zl_2, zl_4, zl_120] at ev_18_9); (try simp (disch := omega) only [zi_bm2, zi_bm] at ev_18_9)
            refine zp_b4 (hr_X5_readLevel (x1 + (1 : Int32)) x2 tape_size tape_bytes lr_size v_18_9 lr_fault lr_code h_tape_size h_tape_bytes k0 (by (first | with_reducible assumption | omega | assumption | ((try dsimp only); (try simp only [zi_cl, Int32.lt_iff_toInt_lt, Int32.le_iff_toInt_le, ← Int32.toInt_inj, Int32.toInt_add, Int32.toInt_sub, Int32.toInt_mul, true_and, and_true, false_and, and_false, or_false, false_or, or_true, true_or, not_true_eq_false, not_false_eq_true, implies_true, forall_const, zl_0, zl_1, zl_2, zl_4, zl_120]) <;> first | omega | (simp (disch := omega) only [zi_bm2, zi_bm]; omega) | omega))) k2 k3 (by (first | with_reducible assumption | omega | assumption | ((try dsimp only); (try simp only [zi_cl, Int32.lt_iff_toInt_lt, Int32.le_iff_toInt_le, ← Int32.toInt_inj, Int32.toInt_add, Int32.toInt_sub, Int32.toInt_mul, true_and, and_true, false_and, and_false, or_false, false_or, or_true, true_or, not_true_eq_false, not_false_eq_true, implies_true, forall_const, zl_0, zl_1, zl_2, zl_4, zl_120]) <;> first | omega | (simp (disch := omega) only [zi_bm2, zi_bm]; omega) | omega))) (by (first | with_reducible assumption | omega | assumption | ((try dsimp only); (try simp only [zi_cl, Int32.lt_iff_toInt_lt, Int32.le_iff_toInt_le, ← Int32.toInt_inj, Int32.toInt_add, Int32.toInt_sub, Int32.toInt_mul, true_and, and_true, false_and, and_false, or_false, false_or, or_true, true_or, not_true_eq_false, not_false_eq_true, implies_true, forall_const, zl_0, zl_1, zl_2, zl_4, zl_120]) <;> first | omega | (simp (disch := omega) only [zi_bm2, zi_bm]; omega) | omega))) (by (first | with_reducible assumption | omega | assumption | ((try dsimp only); (try simp only [zi_cl, Int32.lt_iff_toInt_lt, Int32.le_iff_toInt_le, ← Int32.toInt_inj, Int32.toInt_add, Int32.toInt_sub, Int32.toInt_mul, true_and, and_true, false_and, and_false, or_false, false_or, or_true, true_or, not_true_eq_false, not_false_eq_true, implies_true, forall_const, zl_0, zl_1, zl_2, zl_4, zl_120]) <;> first | omega | (simp (disch := omega) only [zi_bm2, zi_bm]; omega) | omega)))) (fun u_19_10 u_20_11 u_21_12 u_22_13 h14 => ?_)
            obtain ⟨p15, p16, p17, p18⟩ := h14
            (try dsimp only at p15); (try simp only [zi_cl, Int32.lt_iff_toInt_lt, Int32.le_iff_toInt_le, ← Int32.toInt_inj, Int32.toInt_add, Int32.toInt_sub, Int32.toInt_mul, true_and, and_true, false_and, and_false, or_false, false_or, or_true, true_or, not_true_eq_false, not_false_eq_true, implies_true, forall_const, zl_0, zl_1, zl_2, zl_4, zl_120] at p15); (try simp (disch := omega) only [zi_bm2, zi_bm] at p15)
            (try dsimp only at p16); (try simp only [zi_cl, Int32.lt_iff_toInt_lt, Int32.le_iff_toInt_le, ← Int32.toInt_inj, Int32.toInt_add, Int32.toInt_sub, Int32.toInt_mul, true_and, and_true, false_and, and_false, or_false, false_or, or_true, true_or, not_true_eq_false, not_false_eq_true, implies_true, forall_const, zl_0, zl_1, zl_2, zl_4, zl_120] at p16); (try simp (disch := omega) only [zi_bm2, zi_bm] at p16)
            (try dsimp only at p17); (try simp only [zi_cl, Int32.lt_iff_toInt_lt, Int32.le_iff_toInt_le, ← Int32.toInt_inj, Int32.toInt_add, Int32.toInt_sub, Int32.toInt_mul, true_and, and_true, false_and, and_false, or_false, false_or, or_true, true_or, not_true_eq_false, not_false_eq_true, implies_true, forall_const, zl_0, zl_1, zl_2, zl_4, zl_120] at p17); (try simp (disch := omega) only [zi_bm2, zi_bm] at p17)
            have p18 : AR (0) (524287) u_22_13 := p18
            refine zp_b2 (s_X5_emit r_14_3 u_19_10 u_20_11 u_21_12 u_22_13 p15 p16 p17 p18 (by (first | with_reducible assumption | omega | assumption | ((try dsimp only); (try simp only [zi_cl, Int32.lt_iff_toInt_lt, Int32.le_iff_toInt_le, ← Int32.toInt_inj, Int32.toInt_add, Int32.toInt_sub, Int32.toInt_mul, true_and, and_true, false_and, and_false, or_false, false_or, or_true, true_or, not_true_eq_false, not_false_eq_true, implies_true, forall_const, zl_0, zl_1, zl_2, zl_4, zl_120]) <;> first | omega | (simp (disch := omega) only [zi_bm2, zi_bm]; omega) | omega)))) (fun u_24_19 u_25_20 h21 => ?_)
            obtain ⟨p22, p23⟩ := h21
            (try dsimp only at p22); (try simp only [zi_cl, Int32.lt_iff_toInt_lt, Int32.le_iff_toInt_le, ← Int32.toInt_inj, Int32.toInt_add, Int32.toInt_sub, Int32.toInt_mul, true_and, and_true, false_and, and_false, or_false, false_or, or_true, true_or, not_true_eq_false, not_false_eq_true, implies_true, forall_const, zl_0, zl_1, zl_2, zl_4, zl_120] at p22); (try simp (disch := omega) only [zi_bm2, zi_bm] at p22)
            have p23 : AR (0) (524287) u_25_20 := p23
            refine zp_ite (fun c24 => ?_) (fun c24 => ?_)
            · (try dsimp only at c24); (try simp only [zi_cl, Int32.lt_iff_toInt_lt, Int32.le_iff_toInt_le, ← Int32.toInt_inj, Int32.toInt_add, Int32.toInt_sub, Int32.toInt_mul, true_and, and_true, false_and, and_false, or_false, false_or, or_true, true_or, not_true_eq_false, not_false_eq_true, implies_true, forall_const, zl_0, zl_1, zl_2, zl_4, zl_120] at c24); (try simp (disch := omega) only [zi_bm2, zi_bm] at c24)
              exact zp_i ⟨p22, p16, p17, p23⟩
            · (try dsimp only at c24); (try simp only [zi_cl, Int32.lt_iff_toInt_lt, Int32.le_iff_toInt_le, ← Int32.toInt_inj, Int32.toInt_add, Int32.toInt_sub, Int32.toInt_mul, true_and, and_true, false_and, and_false, or_false, false_or, or_true, true_or, not_true_eq_false, not_false_eq_true, implies_true, forall_const, zl_0, zl_1, zl_2, zl_4, zl_120] at c24); (try simp (disch := omega) only [zi_bm2, zi_bm] at c24)
              refine zp_let (fun v_28_25 ev_28_25 => ?_)
              (try dsimp only at ev_28_25); (try simp only [zi_cl, Int32.lt_iff_toInt_lt, Int32.le_iff_toInt_le, ← Int32.toInt_inj, Int32.toInt_add, Int32.toInt_sub, Int32.toInt_mul, true_and, and_true, false_and, and_false, or_false, false_or, or_true, true_or, not_true_eq_false, not_false_eq_true, implies_true, forall_const, zl_0, zl_1, zl_2, zl_4, zl_120] at ev_28_25); (try simp (disch := omega) only [zi_bm2, zi_bm] at ev_28_25)
              exact ih x1 x2 v_28_25 u_24_19 u_20_11 u_21_12 u_25_20 p22 p16 p17 p23 (by (first | with_reducible assumption | omega | assumption | ((try dsimp only); (try simp only [zi_cl, Int32.lt_iff_toInt_lt, Int32.le_iff_toInt_le, ← Int32.toInt_inj, Int32.toInt_add, Int32.toInt_sub, Int32.toInt_mul, true_and, and_true, false_and, and_false, or_false, false_or, or_true, true_or, not_true_eq_false, not_false_eq_true, implies_true, forall_const, zl_0, zl_1, zl_2, zl_4, zl_120]) <;> first | omega | (simp (disch := omega) only [zi_bm2, zi_bm]; omega) | omega))) (by (first | with_reducible assumption | omega | assumption | ((try dsimp only); (try simp only [zi_cl, Int32.lt_iff_toInt_lt, Int32.le_iff_toInt_le, ← Int32.toInt_inj, Int32.toInt_add, Int32.toInt_sub, Int32.toInt_mul, true_and, and_true, false_and, and_false, or_false, false_or, or_true, true_or, not_true_eq_false, not_false_eq_true, implies_true, forall_const, zl_0, zl_1, zl_2, zl_4, zl_120]) <;> first | omega | (simp (disch := omega) only [zi_bm2, zi_bm]; omega) | omega))) (by (first | with_reducible assumption | omega | assumption | ((try dsimp only); (try simp only [zi_cl, Int32.lt_iff_toInt_lt, Int32.le_iff_toInt_le, ← Int32.toInt_inj, Int32.toInt_add, Int32.toInt_sub, Int32.toInt_mul, true_and, and_true, false_and, and_false, or_false, false_or, or_true, true_or, not_true_eq_false, not_false_eq_true, implies_true, forall_const, zl_0, zl_1, zl_2, zl_4, zl_120]) <;> first | omega | (simp (disch := omega) only [zi_bm2, zi_bm]; omega) | omega))) (by (first | with_reducible assumption | omega | assumption | ((try dsimp only); (try simp only [zi_cl, Int32.lt_iff_toInt_lt, Int32.le_iff_toInt_le, ← Int32.toInt_inj, Int32.toInt_add, Int32.toInt_sub, Int32.toInt_mul, true_and, and_true, false_and, and_false, or_false, false_or, or_true, true_or, not_true_eq_false, not_false_eq_true, implies_true, forall_const, zl_0, zl_1, zl_2, zl_4, zl_120]) <;> first | omega | (simp (disch := omega) only [zi_bm2, zi_bm]; omega) | omega))) (by (first | with_reducible assumption | omega | assumption | ((try dsimp only); (try simp only [zi_cl, Int32.lt_iff_toInt_lt, Int32.le_iff_toInt_le, ← Int32.toInt_inj, Int32.toInt_add, Int32.toInt_sub, Int32.toInt_mul, true_and, and_true, false_and, and_false, or_false, false_or, or_true, true_or, not_true_eq_false, not_false_eq_true, implies_true, forall_const, zl_0, zl_1, zl_2, zl_4, zl_120]) <;> first | omega | (simp (disch := omega) only [zi_bm2, zi_bm]; omega) | omega))) (by (first | with_reducible assumption | omega | assumption | ((try dsimp only); (try simp only [zi_cl, Int32.lt_iff_toInt_lt, Int32.le_iff_toInt_le, ← Int32.toInt_inj, Int32.toInt_add, Int32.toInt_sub, Int32.toInt_mul, true_and, and_true, false_and, and_false, or_false, false_or, or_true, true_or, not_true_eq_false, not_false_eq_true, implies_true, forall_const, zl_0, zl_1, zl_2, zl_4, zl_120]) <;> first | omega | (simp (disch := omega) only [zi_bm2, zi_bm]; omega) | omega)))
          · (try dsimp only at c8); (try simp only [zi_cl, Int32.lt_iff_toInt_lt, Int32.le_iff_toInt_le, ← Int32.toInt_inj, Int32.toInt_add, Int32.toInt_sub, Int32.toInt_mul, true_and, and_true, false_and, and_false, or_false, false_or, or_true, true_or, not_true_eq_false, not_false_eq_true, implies_true, forall_const, zl_0, zl_1, zl_2, zl_4, zl_120] at c8); (try simp (disch := omega) only [zi_bm2, zi_bm] at c8)
            exact zp_i ⟨k0, k1, k2, k3⟩
set_option maxHeartbeats 4000000 in
set_option maxRecDepth 20000 in
theorem s_X5_readLevel  (d : Nat) (r_X5_readLevel : Int32 → Int32 → Int32 → (Nat → Int32) → Int32 → Int32 → Int32 → (Nat → Int32) → (Option (Int32 × Int32 × Int32 × (Nat → Int32)))) (r_X5_readOperand : Int32 → Int32 → (Nat → Int32) → Int32 → Int32 → Int32 → (Nat → Int32) → (Option (Int32 × Int32 × Int32 × (Nat → Int32)))) (hr_X5_readLevel : ∀ (x1 : Int32) (x2 : Int32) (tape_size : Int32) (tape_bytes : Nat → Int32) (lr_size : Int32) (lr_at : Int32) (lr_fault : Int32) (lr_code : Nat → Int32), (0 ≤ tape_size.toInt ∧ tape_size.toInt ≤ 120) → (AR (0) (255) tape_bytes) → (0 ≤ lr_size.toInt ∧ lr_size.toInt ≤ 121) → (0 ≤ lr_at.toInt ∧ lr_at.toInt ≤ 120) → (-1 ≤ lr_fault.toInt ∧ lr_fault.toInt ≤ 120) → (AR (0) (524287) lr_code) → (0 ≤ x1.toInt ∧ x1.toInt ≤ 5) → (0 ≤ x2.toInt ∧ x2.toInt ≤ 6) → ((6 - x2.toInt) * 7 + 6 - x1.toInt).toNat < d → zp (r_X5_readLevel x1 x2 tape_size tape_bytes lr_size lr_at lr_fault lr_code) (fun R => (0 ≤ R.1.toInt ∧ R.1.toInt ≤ 121) ∧ (0 ≤ R.2.1.toInt ∧ R.2.1.toInt ≤ 120) ∧ (-1 ≤ R.2.2.1.toInt ∧ R.2.2.1.toInt ≤ 120) ∧ (AR (0) (524287) R.2.2.2))) (hr_X5_readOperand : ∀ (x1 : Int32) (tape_size : Int32) (tape_bytes : Nat → Int32) (lr_size : Int32) (lr_at : Int32) (lr_fault : Int32) (lr_code : Nat → Int32), (0 ≤ tape_size.toInt ∧ tape_size.toInt ≤ 120) → (AR (0) (255) tape_bytes) → (0 ≤ lr_size.toInt ∧ lr_size.toInt ≤ 121) → (0 ≤ lr_at.toInt ∧ lr_at.toInt ≤ 120) → (-1 ≤ lr_fault.toInt ∧ lr_fault.toInt ≤ 120) → (AR (0) (524287) lr_code) → (0 ≤ x1.toInt ∧ x1.toInt ≤ 6) → ((6 - x1.toInt) * 7).toNat < d → zp (r_X5_readOperand x1 tape_size tape_bytes lr_size lr_at lr_fault lr_code) (fun R => (0 ≤ R.1.toInt ∧ R.1.toInt ≤ 121) ∧ (0 ≤ R.2.1.toInt ∧ R.2.1.toInt ≤ 120) ∧ (-1 ≤ R.2.2.1.toInt ∧ R.2.2.1.toInt ≤ 120) ∧ (AR (0) (524287) R.2.2.2))) (x1 : Int32) (x2 : Int32) (tape_size : Int32) (tape_bytes : Nat → Int32) (lr_size : Int32) (lr_at : Int32) (lr_fault : Int32) (lr_code : Nat → Int32) (k0 : 0 ≤ tape_size.toInt ∧ tape_size.toInt ≤ 120) (k1 : AR (0) (255) tape_bytes) (k2 : 0 ≤ lr_size.toInt ∧ lr_size.toInt ≤ 121) (k3 : 0 ≤ lr_at.toInt ∧ lr_at.toInt ≤ 120) (k4 : -1 ≤ lr_fault.toInt ∧ lr_fault.toInt ≤ 120) (k5 : AR (0) (524287) lr_code) (k6 : 0 ≤ x1.toInt ∧ x1.toInt ≤ 5) (k7 : 0 ≤ x2.toInt ∧ x2.toInt ≤ 6) (hD : ((6 - x2.toInt) * 7 + 6 - x1.toInt).toNat < d + 1) : zp (f_X5_readLevel r_X5_readLevel r_X5_readOperand 100000 x1 x2 tape_size tape_bytes lr_size lr_at lr_fault lr_code) (fun R => (0 ≤ R.1.toInt ∧ R.1.toInt ≤ 121) ∧ (0 ≤ R.2.1.toInt ∧ R.2.1.toInt ≤ 120) ∧ (-1 ≤ R.2.2.1.toInt ∧ R.2.2.1.toInt ≤ 120) ∧ (AR (0) (524287) R.2.2.2)) := by
  have rg_x1 := zi_rng x1
  have rg_x2 := zi_rng x2
  (try dsimp only at k6); (try simp only [zi_cl, Int32.lt_iff_toInt_lt, Int32.le_iff_toInt_le, ← Int32.toInt_inj, Int32.toInt_add, Int32.toInt_sub, Int32.toInt_mul, true_and, and_true, false_and, and_false, or_false, false_or, or_true, true_or, not_true_eq_false, not_false_eq_true, implies_true, forall_const, zl_0, zl_1, zl_2, zl_4, zl_120] at k6); (try simp (disch := omega) only [zi_bm2, zi_bm] at k6)
  (try dsimp only at k7); (try simp only [zi_cl, Int32.lt_iff_toInt_lt, Int32.le_iff_toInt_le, ← Int32.toInt_inj, Int32.toInt_add, Int32.toInt_sub, Int32.toInt_mul, true_and, and_true, false_and, and_false, or_false, false_or, or_true, true_or, not_true_eq_false, not_false_eq_true, implies_true, forall_const, zl_0, zl_1, zl_2, zl_4, zl_120] at k7); (try simp (disch := omega) only [zi_bm2, zi_bm] at k7)
  unfold f_X5_readLevel
  unfold B_X5_readLevel_0
  refine zp_ite (fun c1 => ?_) (fun c1 => ?_)
  · (try dsimp only at c1); (try simp only [zi_cl, Int32.lt_iff_toInt_lt, Int32.le_iff_toInt_le, ← Int32.toInt_inj, Int32.toInt_add, Int32.toInt_sub, Int32.toInt_mul, true_and, and_true, false_and, and_false, or_false, false_or, or_true, true_or, not_true_eq_false, not_false_eq_true, implies_true, forall_const, zl_0, zl_1, zl_2, zl_4, zl_120] at c1); (try simp (disch := omega) only [zi_bm2, zi_bm] at c1)
    refine zp_b4 (hr_X5_readLevel (x1 + (1 : Int32)) x2 tape_size tape_bytes lr_size lr_at lr_fault lr_code k0 k1 k2 k3 k4 k5 (by (first | with_reducible assumption | omega | assumption | ((try dsimp only); (try simp only [zi_cl, Int32.lt_iff_toInt_lt, Int32.le_iff_toInt_le, ← Int32.toInt_inj, Int32.toInt_add, Int32.toInt_sub, Int32.toInt_mul, true_and, and_true, false_and, and_false, or_false, false_or, or_true, true_or, not_true_eq_false, not_false_eq_true, implies_true, forall_const, zl_0, zl_1, zl_2, zl_4, zl_120]) <;> first | omega | (simp (disch := omega) only [zi_bm2, zi_bm]; omega) | omega))) (by (first | with_reducible assumption | omega | assumption | ((try dsimp only); (try simp only [zi_cl, Int32.lt_iff_toInt_lt, Int32.le_iff_toInt_le, ← Int32.toInt_inj, Int32.toInt_add, Int32.toInt_sub, Int32.toInt_mul, true_and, and_true, false_and, and_false, or_false, false_or, or_true, true_or, not_true_eq_false, not_false_eq_true, implies_true, forall_const, zl_0, zl_1, zl_2, zl_4, zl_120]) <;> first | omega | (simp (disch := omega) only [zi_bm2, zi_bm]; omega) | omega))) (by (first | with_reducible assumption | omega | assumption | ((try dsimp only); (try simp only [zi_cl, Int32.lt_iff_toInt_lt, Int32.le_iff_toInt_le, ← Int32.toInt_inj, Int32.toInt_add, Int32.toInt_sub, Int32.toInt_mul, true_and, and_true, false_and, and_false, or_false, false_or, or_true, true_or, not_true_eq_false, not_false_eq_true, implies_true, forall_const, zl_0, zl_1, zl_2, zl_4, zl_120]) <;> first | omega | (simp (disch := omega) only [zi_bm2, zi_bm]; omega) | omega)))) (fun u_2_2 u_3_3 u_4_4 u_5_5 h6 => ?_)
    obtain ⟨p7, p8, p9, p10⟩ := h6
    (try dsimp only at p7); (try simp only [zi_cl, Int32.lt_iff_toInt_lt, Int32.le_iff_toInt_le, ← Int32.toInt_inj, Int32.toInt_add, Int32.toInt_sub, Int32.toInt_mul, true_and, and_true, false_and, and_false, or_false, false_or, or_true, true_or, not_true_eq_false, not_false_eq_true, implies_true, forall_const, zl_0, zl_1, zl_2, zl_4, zl_120] at p7); (try simp (disch := omega) only [zi_bm2, zi_bm] at p7)
    (try dsimp only at p8); (try simp only [zi_cl, Int32.lt_iff_toInt_lt, Int32.le_iff_toInt_le, ← Int32.toInt_inj, Int32.toInt_add, Int32.toInt_sub, Int32.toInt_mul, true_and, and_true, false_and, and_false, or_false, false_or, or_true, true_or, not_true_eq_false, not_false_eq_true, implies_true, forall_const, zl_0, zl_1, zl_2, zl_4, zl_120] at p8); (try simp (disch := omega) only [zi_bm2, zi_bm] at p8)
    (try dsimp only at p9); (try simp only [zi_cl, Int32.lt_iff_toInt_lt, Int32.le_iff_toInt_le, ← Int32.toInt_inj, Int32.toInt_add, Int32.toInt_sub, Int32.toInt_mul, true_and, and_true, false_and, and_false, or_false, false_or, or_true, true_or, not_true_eq_false, not_false_eq_true, implies_true, forall_const, zl_0, zl_1, zl_2, zl_4, zl_120] at p9); (try simp (disch := omega) only [zi_bm2, zi_bm] at p9)
    have p10 : AR (0) (524287) u_5_5 := p10
    exact (l_X5_readLevel  d r_X5_readLevel r_X5_readOperand hr_X5_readLevel hr_X5_readOperand tape_size tape_bytes k0 k1 100000) x1 x2 (0 : Int32) u_2_2 u_3_3 u_4_4 u_5_5 p7 p8 p9 p10 (by (first | with_reducible assumption | omega | assumption | ((try dsimp only); (try simp only [zi_cl, Int32.lt_iff_toInt_lt, Int32.le_iff_toInt_le, ← Int32.toInt_inj, Int32.toInt_add, Int32.toInt_sub, Int32.toInt_mul, true_and, and_true, false_and, and_false, or_false, false_or, or_true, true_or, not_true_eq_false, not_false_eq_true, implies_true, forall_const, zl_0, zl_1, zl_2, zl_4, zl_120]) <;> first | omega | (simp (disch := omega) only [zi_bm2, zi_bm]; omega) | omega))) (by (first | with_reducible assumption | omega | assumption | ((try dsimp only); (try simp only [zi_cl, Int32.lt_iff_toInt_lt, Int32.le_iff_toInt_le, ← Int32.toInt_inj, Int32.toInt_add, Int32.toInt_sub, Int32.toInt_mul, true_and, and_true, false_and, and_false, or_false, false_or, or_true, true_or, not_true_eq_false, not_false_eq_true, implies_true, forall_const, zl_0, zl_1, zl_2, zl_4, zl_120]) <;> first | omega | (simp (disch := omega) only [zi_bm2, zi_bm]; omega) | omega))) (by (first | with_reducible assumption | omega | assumption | ((try dsimp only); (try simp only [zi_cl, Int32.lt_iff_toInt_lt, Int32.le_iff_toInt_le, ← Int32.toInt_inj, Int32.toInt_add, Int32.toInt_sub, Int32.toInt_mul, true_and, and_true, false_and, and_false, or_false, false_or, or_true, true_or, not_true_eq_false, not_false_eq_true, implies_true, forall_const, zl_0, zl_1, zl_2, zl_4, zl_120]) <;> first | omega | (simp (disch := omega) only [zi_bm2, zi_bm]; omega) | omega))) (by (first | with_reducible assumption | omega | assumption | ((try dsimp only); (try simp only [zi_cl, Int32.lt_iff_toInt_lt, Int32.le_iff_toInt_le, ← Int32.toInt_inj, Int32.toInt_add, Int32.toInt_sub, Int32.toInt_mul, true_and, and_true, false_and, and_false, or_false, false_or, or_true, true_or, not_true_eq_false, not_false_eq_true, implies_true, forall_const, zl_0, zl_1, zl_2, zl_4, zl_120]) <;> first | omega | (simp (disch := omega) only [zi_bm2, zi_bm]; omega) | omega))) (by (first | with_reducible assumption | omega | assumption | ((try dsimp only); (try simp only [zi_cl, Int32.lt_iff_toInt_lt, Int32.le_iff_toInt_le, ← Int32.toInt_inj, Int32.toInt_add, Int32.toInt_sub, Int32.toInt_mul, true_and, and_true, false_and, and_false, or_false, false_or, or_true, true_or, not_true_eq_false, not_false_eq_true, implies_true, forall_const, zl_0, zl_1, zl_2, zl_4, zl_120]) <;> first | omega | (simp (disch := omega) only [zi_bm2, zi_bm]; omega) | omega))) (by (first | with_reducible assumption | omega | assumption | ((try dsimp only); (try simp only [zi_cl, Int32.lt_iff_toInt_lt, Int32.le_iff_toInt_le, ← Int32.toInt_inj, Int32.toInt_add, Int32.toInt_sub, Int32.toInt_mul, true_and, and_true, false_and, and_false, or_false, false_or, or_true, true_or, not_true_eq_false, not_false_eq_true, implies_true, forall_const, zl_0, zl_1, zl_2, zl_4, zl_120]) <;> first | omega | (simp (disch := omega) only [zi_bm2, zi_bm]; omega) | omega)))
  · (try dsimp only at c1); (try simp only [zi_cl, Int32.lt_iff_toInt_lt, Int32.le_iff_toInt_le, ← Int32.toInt_inj, Int32.toInt_add, Int32.toInt_sub, Int32.toInt_mul, true_and, and_true, false_and, and_false, or_false, false_or, or_true, true_or, not_true_eq_false, not_false_eq_true, implies_true, forall_const, zl_0, zl_1, zl_2, zl_4, zl_120] at c1); (try simp (disch := omega) only [zi_bm2, zi_bm] at c1)
    refine zp_b4 (hr_X5_readOperand x2 tape_size tape_bytes lr_size lr_at lr_fault lr_code k0 k1 k2 k3 k4 k5 (by (first | with_reducible assumption | omega | assumption | ((try dsimp only); (try simp only [zi_cl, Int32.lt_iff_toInt_lt, Int32.le_iff_toInt_le, ← Int32.toInt_inj, Int32.toInt_add, Int32.toInt_sub, Int32.toInt_mul, true_and, and_true, false_and, and_false, or_false, false_or, or_true, true_or, not_true_eq_false, not_false_eq_true, implies_true, forall_const, zl_0, zl_1, zl_2, zl_4, zl_120]) <;> first | omega | (simp (disch := omega) only [zi_bm2, zi_bm]; omega) | omega))) (by (first | with_reducible assumption | omega | assumption | ((try dsimp only); (try simp only [zi_cl, Int32.lt_iff_toInt_lt, Int32.le_iff_toInt_le, ← Int32.toInt_inj, Int32.toInt_add, Int32.toInt_sub, Int32.toInt_mul, true_and, and_true, false_and, and_false, or_false, false_or, or_true, true_or, not_true_eq_false, not_false_eq_true, implies_true, forall_const, zl_0, zl_1, zl_2, zl_4, zl_120]) <;> first | omega | (simp (disch := omega) only [zi_bm2, zi_bm]; omega) | omega)))) (fun u_7_11 u_8_12 u_9_13 u_10_14 h15 => ?_)
    obtain ⟨p16, p17, p18, p19⟩ := h15
    (try dsimp only at p16); (try simp only [zi_cl, Int32.lt_iff_toInt_lt, Int32.le_iff_toInt_le, ← Int32.toInt_inj, Int32.toInt_add, Int32.toInt_sub, Int32.toInt_mul, true_and, and_true, false_and, and_false, or_false, false_or, or_true, true_or, not_true_eq_false, not_false_eq_true, implies_true, forall_const, zl_0, zl_1, zl_2, zl_4, zl_120] at p16); (try simp (disch := omega) only [zi_bm2, zi_bm] at p16)
    (try dsimp only at p17); (try simp only [zi_cl, Int32.lt_iff_toInt_lt, Int32.le_iff_toInt_le, ← Int32.toInt_inj, Int32.toInt_add, Int32.toInt_sub, Int32.toInt_mul, true_and, and_true, false_and, and_false, or_false, false_or, or_true, true_or, not_true_eq_false, not_false_eq_true, implies_true, forall_const, zl_0, zl_1, zl_2, zl_4, zl_120] at p17); (try simp (disch := omega) only [zi_bm2, zi_bm] at p17)
    (try dsimp only at p18); (try simp only [zi_cl, Int32.lt_iff_toInt_lt, Int32.le_iff_toInt_le, ← Int32.toInt_inj, Int32.toInt_add, Int32.toInt_sub, Int32.toInt_mul, true_and, and_true, false_and, and_false, or_false, false_or, or_true, true_or, not_true_eq_false, not_false_eq_true, implies_true, forall_const, zl_0, zl_1, zl_2, zl_4, zl_120] at p18); (try simp (disch := omega) only [zi_bm2, zi_bm] at p18)
    have p19 : AR (0) (524287) u_10_14 := p19
    exact zp_i ⟨p16, p17, p18, p19⟩

set_option maxHeartbeats 4000000 in
set_option maxRecDepth 20000 in
theorem s_X5_readOperand  (d : Nat) (r_X5_readLevel : Int32 → Int32 → Int32 → (Nat → Int32) → Int32 → Int32 → Int32 → (Nat → Int32) → (Option (Int32 × Int32 × Int32 × (Nat → Int32)))) (r_X5_readOperand : Int32 → Int32 → (Nat → Int32) → Int32 → Int32 → Int32 → (Nat → Int32) → (Option (Int32 × Int32 × Int32 × (Nat → Int32)))) (hr_X5_readLevel : ∀ (x1 : Int32) (x2 : Int32) (tape_size : Int32) (tape_bytes : Nat → Int32) (lr_size : Int32) (lr_at : Int32) (lr_fault : Int32) (lr_code : Nat → Int32), (0 ≤ tape_size.toInt ∧ tape_size.toInt ≤ 120) → (AR (0) (255) tape_bytes) → (0 ≤ lr_size.toInt ∧ lr_size.toInt ≤ 121) → (0 ≤ lr_at.toInt ∧ lr_at.toInt ≤ 120) → (-1 ≤ lr_fault.toInt ∧ lr_fault.toInt ≤ 120) → (AR (0) (524287) lr_code) → (0 ≤ x1.toInt ∧ x1.toInt ≤ 5) → (0 ≤ x2.toInt ∧ x2.toInt ≤ 6) → ((6 - x2.toInt) * 7 + 6 - x1.toInt).toNat < d → zp (r_X5_readLevel x1 x2 tape_size tape_bytes lr_size lr_at lr_fault lr_code) (fun R => (0 ≤ R.1.toInt ∧ R.1.toInt ≤ 121) ∧ (0 ≤ R.2.1.toInt ∧ R.2.1.toInt ≤ 120) ∧ (-1 ≤ R.2.2.1.toInt ∧ R.2.2.1.toInt ≤ 120) ∧ (AR (0) (524287) R.2.2.2))) (hr_X5_readOperand : ∀ (x1 : Int32) (tape_size : Int32) (tape_bytes : Nat → Int32) (lr_size : Int32) (lr_at : Int32) (lr_fault : Int32) (lr_code : Nat → Int32), (0 ≤ tape_size.toInt ∧ tape_size.toInt ≤ 120) → (AR (0) (255) tape_bytes) → (0 ≤ lr_size.toInt ∧ lr_size.toInt ≤ 121) → (0 ≤ lr_at.toInt ∧ lr_at.toInt ≤ 120) → (-1 ≤ lr_fault.toInt ∧ lr_fault.toInt ≤ 120) → (AR (0) (524287) lr_code) → (0 ≤ x1.toInt ∧ x1.toInt ≤ 6) → ((6 - x1.toInt) * 7).toNat < d → zp (r_X5_readOperand x1 tape_size tape_bytes lr_size lr_at lr_fault lr_code) (fun R => (0 ≤ R.1.toInt ∧ R.1.toInt ≤ 121) ∧ (0 ≤ R.2.1.toInt ∧ R.2.1.toInt ≤ 120) ∧ (-1 ≤ R.2.2.1.toInt ∧ R.2.2.1.toInt ≤ 120) ∧ (AR (0) (524287) R.2.2.2))) (x1 : Int32) (tape_size : Int32) (tape_bytes : Nat → Int32) (lr_size : Int32) (lr_at : Int32) (lr_fault : Int32) (lr_code : Nat → Int32) (k0 : 0 ≤ tape_size.toInt ∧ tape_size.toInt ≤ 120) (k1 : AR (0) (255) tape_bytes) (k2 : 0 ≤ lr_size.toInt ∧ lr_size.toInt ≤ 121) (k3 : 0 ≤ lr_at.toInt ∧ lr_at.toInt ≤ 120) (k4 : -1 ≤ lr_fault.toInt ∧ lr_fault.toInt ≤ 120) (k5 : AR (0) (524287) lr_code) (k6 : 0 ≤ x1.toInt ∧ x1.toInt ≤ 6) (hD : ((6 - x1.toInt) * 7).toNat < d + 1) : zp (f_X5_readOperand r_X5_readLevel r_X5_readOperand x1 tape_size tape_bytes lr_size lr_at lr_fault lr_code) (fun R => (0 ≤ R.1.toInt ∧ R.1.toInt ≤ 121) ∧ (0 ≤ R.2.1.toInt ∧ R.2.1.toInt ≤ 120) ∧ (-1 ≤ R.2.2.1.toInt ∧ R.2.2.1.toInt ≤ 120) ∧ (AR (0) (524287) R.2.2.2)) := by
  have rg_x1 := zi_rng x1
  (try dsimp only at k6); (try simp only [zi_cl, Int32.lt_iff_toInt_lt, Int32.le_iff_toInt_le, ← Int32.toInt_inj, Int32.toInt_add, Int32.toInt_sub, Int32.toInt_mul, true_and, and_true, false_and, and_false, or_false, false_or, or_true, true_or, not_true_eq_false, not_false_eq_true, implies_true, forall_const, zl_0, zl_1, zl_4, zl_5, zl_33, zl_40, zl_41, zl_45] at k6); (try simp (disch := omega) only [zi_bm2, zi_bm] at k6)
  unfold f_X5_readOperand
  unfold B_X5_readOperand_0
  refine zp_b2 (s_X9_byteAt lr_at tape_size tape_bytes k0 k1) (fun r_1_1 u_2_2 h3 => ?_)
  obtain ⟨p4, p5, p6⟩ := h3
  (try dsimp only at p4); (try simp only [zi_cl, Int32.lt_iff_toInt_lt, Int32.le_iff_toInt_le, ← Int32.toInt_inj, Int32.toInt_add, Int32.toInt_sub, Int32.toInt_mul, true_and, and_true, false_and, and_false, or_false, false_or, or_true, true_or, not_true_eq_false, not_false_eq_true, implies_true, forall_const, zl_0, zl_1, zl_4, zl_5, zl_33, zl_40, zl_41, zl_45] at p4); (try simp (disch := omega) only [zi_bm2, zi_bm] at p4)
  (try dsimp only at p5); (try simp only [zi_cl, Int32.lt_iff_toInt_lt, Int32.le_iff_toInt_le, ← Int32.toInt_inj, Int32.toInt_add, Int32.toInt_sub, Int32.toInt_mul, true_and, and_true, false_and, and_false, or_false, false_or, or_true, true_or, not_true_eq_false, not_false_eq_true, implies_true, forall_const, zl_0, zl_1, zl_4, zl_5, zl_33, zl_40, zl_41, zl_45] at p5); (try simp (disch := omega) only [zi_bm2, zi_bm] at p5)
  (try dsimp only at p6); (try simp only [zi_cl, Int32.lt_iff_toInt_lt, Int32.le_iff_toInt_le, ← Int32.toInt_inj, Int32.toInt_add, Int32.toInt_sub, Int32.toInt_mul, true_and, and_true, false_and, and_false, or_false, false_or, or_true, true_or, not_true_eq_false, not_false_eq_true, implies_true, forall_const, zl_0, zl_1, zl_4, zl_5, zl_33, zl_40, zl_41, zl_45] at p6); (try simp (disch := omega) only [zi_bm2, zi_bm] at p6)
  refine zp_ite (fun c7 => ?_) (fun c7 => ?_)
  · (try dsimp only at c7); (try simp only [zi_cl, Int32.lt_iff_toInt_lt, Int32.le_iff_toInt_le, ← Int32.toInt_inj, Int32.toInt_add, Int32.toInt_sub, Int32.toInt_mul, true_and, and_true, false_and, and_false, or_false, false_or, or_true, true_or, not_true_eq_false, not_false_eq_true, implies_true, forall_const, zl_0, zl_1, zl_4, zl_5, zl_33, zl_40, zl_41, zl_45] at c7); (try simp (disch := omega) only [zi_bm2, zi_bm] at c7)
    refine zp_b2 (s_X9_isDigitAt lr_at tape_size tape_bytes k0 k1) (fun r_5_8 u_6_9 h10 => ?_)
    have p11 := h10
    (try dsimp only at p11); (try simp only [zi_cl, Int32.lt_iff_toInt_lt, Int32.le_iff_toInt_le, ← Int32.toInt_inj, Int32.toInt_add, Int32.toInt_sub, Int32.toInt_mul, true_and, and_true, false_and, and_false, or_false, false_or, or_true, true_or, not_true_eq_false, not_false_eq_true, implies_true, forall_const, zl_0, zl_1, zl_4, zl_5, zl_33, zl_40, zl_41, zl_45] at p11); (try simp (disch := omega) only [zi_bm2, zi_bm] at p11)
    refine zp_ite (fun c12 => ?_) (fun c12 => ?_)
    · (try dsimp only at c12); (try simp only [zi_cl, Int32.lt_iff_toInt_lt, Int32.le_iff_toInt_le, ← Int32.toInt_inj, Int32.toInt_add, Int32.toInt_sub, Int32.toInt_mul, true_and, and_true, false_and, and_false, or_false, false_or, or_true, true_or, not_true_eq_false, not_false_eq_true, implies_true, forall_const, zl_0, zl_1, zl_4, zl_5, zl_33, zl_40, zl_41, zl_45] at c12); (try simp (disch := omega) only [zi_bm2, zi_bm] at c12)
      refine zp_ite (fun c13 => ?_) (fun c13 => ?_)
      · (try dsimp only at c13); (try simp only [zi_cl, Int32.lt_iff_toInt_lt, Int32.le_iff_toInt_le, ← Int32.toInt_inj, Int32.toInt_add, Int32.toInt_sub, Int32.toInt_mul, true_and, and_true, false_and, and_false, or_false, false_or, or_true, true_or, not_true_eq_false, not_false_eq_true, implies_true, forall_const, zl_0, zl_1, zl_4, zl_5, zl_33, zl_40, zl_41, zl_45] at c13); (try simp (disch := omega) only [zi_bm2, zi_bm] at c13)
        unfold B_X5_readOperand_53
        refine zp_b3 (s_X5_mayOpen x1 lr_size lr_at lr_fault k2 k3 k4 (by (first | with_reducible assumption | omega | assumption | ((try dsimp only); (try simp only [zi_cl, Int32.lt_iff_toInt_lt, Int32.le_iff_toInt_le, ← Int32.toInt_inj, Int32.toInt_add, Int32.toInt_sub, Int32.toInt_mul, true_and, and_true, false_and, and_false, or_false, false_or, or_true, true_or, not_true_eq_false, not_false_eq_true, implies_true, forall_const, zl_0, zl_1, zl_4, zl_5, zl_33, zl_40, zl_41, zl_45]) <;> first | omega | (simp (disch := omega) only [zi_bm2, zi_bm]; omega) | omega))) (by (first | with_reducible assumption | omega | assumption | ((try dsimp only); (try simp only [zi_cl, Int32.lt_iff_toInt_lt, Int32.le_iff_toInt_le, ← Int32.toInt_inj, Int32.toInt_add, Int32.toInt_sub, Int32.toInt_mul, true_and, and_true, false_and, and_false, or_false, false_or, or_true, true_or, not_true_eq_false, not_false_eq_true, implies_true, forall_const, zl_0, zl_1, zl_4, zl_5, zl_33, zl_40, zl_41, zl_45]) <;> first | omega | (simp (disch := omega) only [zi_bm2, zi_bm]; omega) | omega)))) (fun r_37_14 u_38_15 u_39_16 h17 => ?_)
        obtain ⟨p18, p19, p20⟩ := h17
        (try dsimp only at p18); (try simp only [zi_cl, Int32.lt_iff_toInt_lt, Int32.le_iff_toInt_le, ← Int32.toInt_inj, Int32.toInt_add, Int32.toInt_sub, Int32.toInt_mul, true_and, and_true, false_and, and_false, or_false, false_or, or_true, true_or, not_true_eq_false, not_false_eq_true, implies_true, forall_const, zl_0, zl_1, zl_4, zl_5, zl_33, zl_40, zl_41, zl_45] at p18); (try simp (disch := omega) only [zi_bm2, zi_bm] at p18)
        (try dsimp only at p19); (try simp only [zi_cl, Int32.lt_iff_toInt_lt, Int32.le_iff_toInt_le, ← Int32.toInt_inj, Int32.toInt_add, Int32.toInt_sub, Int32.toInt_mul, true_and, and_true, false_and, and_false, or_false, false_or, or_true, true_or, not_true_eq_false, not_false_eq_true, implies_true, forall_const, zl_0, zl_1, zl_4, zl_5, zl_33, zl_40, zl_41, zl_45] at p19); (try simp (disch := omega) only [zi_bm2, zi_bm] at p19)
        (try dsimp only at p20); (try simp only [zi_cl, Int32.lt_iff_toInt_lt, Int32.le_iff_toInt_le, ← Int32.toInt_inj, Int32.toInt_add, Int32.toInt_sub, Int32.toInt_mul, true_and, and_true, false_and, and_false, or_false, false_or, or_true, true_or, not_true_eq_false, not_false_eq_true, implies_true, forall_const, zl_0, zl_1, zl_4, zl_5, zl_33, zl_40, zl_41, zl_45] at p20); (try simp (disch := omega) only [zi_bm2, zi_bm] at p20)
        refine zp_ite (fun c21 => ?_) (fun c21 => ?_)
        · (try dsimp only at c21); (try simp only [zi_cl, Int32.lt_iff_toInt_lt, Int32.le_iff_toInt_le, ← Int32.toInt_inj, Int32.toInt_add, Int32.toInt_sub, Int32.toInt_mul, true_and, and_true, false_and, and_false, or_false, false_or, or_true, true_or, not_true_eq_false, not_false_eq_true, implies_true, forall_const, zl_0, zl_1, zl_4, zl_5, zl_33, zl_40, zl_41, zl_45] at c21); (try simp (disch := omega) only [zi_bm2, zi_bm] at c21)
          exact zp_i ⟨k2, p19, p20, k5⟩
        · (try dsimp only at c21); (try simp only [zi_cl, Int32.lt_iff_toInt_lt, Int32.le_iff_toInt_le, ← Int32.toInt_inj, Int32.toInt_add, Int32.toInt_sub, Int32.toInt_mul, true_and, and_true, false_and, and_false, or_false, false_or, or_true, true_or, not_true_eq_false, not_false_eq_true, implies_true, forall_const, zl_0, zl_1, zl_4, zl_5, zl_33, zl_40, zl_41, zl_45] at c21); (try simp (disch := omega) only [zi_bm2, zi_bm] at c21)
          refine zp_b4 (hr_X5_readOperand (x1 + (1 : Int32)) tape_size tape_bytes lr_size u_38_15 u_39_16 lr_code k0 k1 k2 p19 p20 k5 (by (first | with_reducible assumption | omega | assumption | ((try dsimp only); (try simp only [zi_cl, Int32.lt_iff_toInt_lt, Int32.le_iff_toInt_le, ← Int32.toInt_inj, Int32.toInt_add, Int32.toInt_sub, Int32.toInt_mul, true_and, and_true, false_and, and_false, or_false, false_or, or_true, true_or, not_true_eq_false, not_false_eq_true, implies_true, forall_const, zl_0, zl_1, zl_4, zl_5, zl_33, zl_40, zl_41, zl_45]) <;> first | omega | (simp (disch := omega) only [zi_bm2, zi_bm]; omega) | omega))) (by (first | with_reducible assumption | omega | assumption | ((try dsimp only); (try simp only [zi_cl, Int32.lt_iff_toInt_lt, Int32.le_iff_toInt_le, ← Int32.toInt_inj, Int32.toInt_add, Int32.toInt_sub, Int32.toInt_mul, true_and, and_true, false_and, and_false, or_false, false_or, or_true, true_or, not_true_eq_false, not_false_eq_true, implies_true, forall_const, zl_0, zl_1, zl_4, zl_5, zl_33, zl_40, zl_41, zl_45]) <;> first | omega | (simp (disch := omega) only [zi_bm2, zi_bm]; omega) | omega)))) (fun u_42_22 u_43_23 u_44_24 u_45_25 h26 => ?_)
          obtain ⟨p27, p28, p29, p30⟩ := h26
          (try dsimp only at p27); (try simp only [zi_cl, Int32.lt_iff_toInt_lt, Int32.le_iff_toInt_le, ← Int32.toInt_inj, Int32.toInt_add, Int32.toInt_sub, Int32.toInt_mul, true_and, and_true, false_and, and_false, or_false, false_or, or_true, true_or, not_true_eq_false, not_false_eq_true, implies_true, forall_const, zl_0, zl_1, zl_4, zl_5, zl_33, zl_40, zl_41, zl_45] at p27); (try simp (disch := omega) only [zi_bm2, zi_bm] at p27)
          (try dsimp only at p28); (try simp only [zi_cl, Int32.lt_iff_toInt_lt, Int32.le_iff_toInt_le, ← Int32.toInt_inj, Int32.toInt_add, Int32.toInt_sub, Int32.toInt_mul, true_and, and_true, false_and, and_false, or_false, false_or, or_true, true_or, not_true_eq_false, not_false_eq_true, implies_true, forall_const, zl_0, zl_1, zl_4, zl_5, zl_33, zl_40, zl_41, zl_45] at p28); (try simp (disch := omega) only [zi_bm2, zi_bm] at p28)
          (try dsimp only at p29); (try simp only [zi_cl, Int32.lt_iff_toInt_lt, Int32.le_iff_toInt_le, ← Int32.toInt_inj, Int32.toInt_add, Int32.toInt_sub, Int32.toInt_mul, true_and, and_true, false_and, and_false, or_false, false_or, or_true, true_or, not_true_eq_false, not_false_eq_true, implies_true, forall_const, zl_0, zl_1, zl_4, zl_5, zl_33, zl_40, zl_41, zl_45] at p29); (try simp (disch := omega) only [zi_bm2, zi_bm] at p29)
          have p30 : AR (0) (524287) u_45_25 := p30
          refine zp_ite (fun c31 => ?_) (fun c31 => ?_)
          · (try dsimp only at c31); (try simp only [zi_cl, Int32.lt_iff_toInt_lt, Int32.le_iff_toInt_le, ← Int32.toInt_inj, Int32.toInt_add, Int32.toInt_sub, Int32.toInt_mul, true_and, and_true, false_and, and_false, or_false, false_or, or_true, true_or, not_true_eq_false, not_false_eq_true, implies_true, forall_const, zl_0, zl_1, zl_4, zl_5, zl_33, zl_40, zl_41, zl_45] at c31); (try simp (disch := omega) only [zi_bm2, zi_bm] at c31)
            unfold B_X5_readOperand_80
            refine zp_b2 (s_X5_emit (4 : Int32) u_42_22 u_43_23 u_44_24 u_45_25 p27 p28 p29 p30 (by (first | with_reducible assumption | omega | assumption | ((try dsimp only); (try simp only [zi_cl, Int32.lt_iff_toInt_lt, Int32.le_iff_toInt_le, ← Int32.toInt_inj, Int32.toInt_add, Int32.toInt_sub, Int32.toInt_mul, true_and, and_true, false_and, and_false, or_false, false_or, or_true, true_or, not_true_eq_false, not_false_eq_true, implies_true, forall_const, zl_0, zl_1, zl_4, zl_5, zl_33, zl_40, zl_41, zl_45]) <;> first | omega | (simp (disch := omega) only [zi_bm2, zi_bm]; omega) | omega)))) (fun u_48_32 u_49_33 h34 => ?_)
            obtain ⟨p35, p36⟩ := h34
            (try dsimp only at p35); (try simp only [zi_cl, Int32.lt_iff_toInt_lt, Int32.le_iff_toInt_le, ← Int32.toInt_inj, Int32.toInt_add, Int32.toInt_sub, Int32.toInt_mul, true_and, and_true, false_and, and_false, or_false, false_or, or_true, true_or, not_true_eq_false, not_false_eq_true, implies_true, forall_const, zl_0, zl_1, zl_4, zl_5, zl_33, zl_40, zl_41, zl_45] at p35); (try simp (disch := omega) only [zi_bm2, zi_bm] at p35)
            have p36 : AR (0) (524287) u_49_33 := p36
            exact zp_i ⟨p35, p28, p29, p36⟩
          · (try dsimp only at c31); (try simp only [zi_cl, Int32.lt_iff_toInt_lt, Int32.le_iff_toInt_le, ← Int32.toInt_inj, Int32.toInt_add, Int32.toInt_sub, Int32.toInt_mul, true_and, and_true, false_and, and_false, or_false, false_or, or_true, true_or, not_true_eq_false, not_false_eq_true, implies_true, forall_const, zl_0, zl_1, zl_4, zl_5, zl_33, zl_40, zl_41, zl_45] at c31); (try simp (disch := omega) only [zi_bm2, zi_bm] at c31)
            unfold B_X5_readOperand_80
            refine zp_b2 (s_X5_emit (5 : Int32) u_42_22 u_43_23 u_44_24 u_45_25 p27 p28 p29 p30 (by (first | with_reducible assumption | omega | assumption | ((try dsimp only); (try simp only [zi_cl, Int32.lt_iff_toInt_lt, Int32.le_iff_toInt_le, ← Int32.toInt_inj, Int32.toInt_add, Int32.toInt_sub, Int32.toInt_mul, true_and, and_true, false_and, and_false, or_false, false_or, or_true, true_or, not_true_eq_false, not_false_eq_true, implies_true, forall_const, zl_0, zl_1, zl_4, zl_5, zl_33, zl_40, zl_41, zl_45]) <;> first | omega | (simp (disch := omega) only [zi_bm2, zi_bm]; omega) | omega)))) (fun u_48_37 u_49_38 h39 => ?_)
            obtain ⟨p40, p41⟩ := h39
            (try dsimp only at p40); (try simp only [zi_cl, Int32.lt_iff_toInt_lt, Int32.le_iff_toInt_le, ← Int32.toInt_inj, Int32.toInt_add, Int32.toInt_sub, Int32.toInt_mul, true_and, and_true, false_and, and_false, or_false, false_or, or_true, true_or, not_true_eq_false, not_false_eq_true, implies_true, forall_const, zl_0, zl_1, zl_4, zl_5, zl_33, zl_40, zl_41, zl_45] at p40); (try simp (disch := omega) only [zi_bm2, zi_bm] at p40)
            have p41 : AR (0) (524287) u_49_38 := p41
            exact zp_i ⟨p40, p28, p29, p41⟩
      · (try dsimp only at c13); (try simp only [zi_cl, Int32.lt_iff_toInt_lt, Int32.le_iff_toInt_le, ← Int32.toInt_inj, Int32.toInt_add, Int32.toInt_sub, Int32.toInt_mul, true_and, and_true, false_and, and_false, or_false, false_or, or_true, true_or, not_true_eq_false, not_false_eq_true, implies_true, forall_const, zl_0, zl_1, zl_4, zl_5, zl_33, zl_40, zl_41, zl_45] at c13); (try simp (disch := omega) only [zi_bm2, zi_bm] at c13)
        refine zp_ite (fun c42 => ?_) (fun c42 => ?_)
        · (try dsimp only at c42); (try simp only [zi_cl, Int32.lt_iff_toInt_lt, Int32.le_iff_toInt_le, ← Int32.toInt_inj, Int32.toInt_add, Int32.toInt_sub, Int32.toInt_mul, true_and, and_true, false_and, and_false, or_false, false_or, or_true, true_or, not_true_eq_false, not_false_eq_true, implies_true, forall_const, zl_0, zl_1, zl_4, zl_5, zl_33, zl_40, zl_41, zl_45] at c42); (try simp (disch := omega) only [zi_bm2, zi_bm] at c42)
          unfold B_X5_readOperand_53
          refine zp_b3 (s_X5_mayOpen x1 lr_size lr_at lr_fault k2 k3 k4 (by (first | with_reducible assumption | omega | assumption | ((try dsimp only); (try simp only [zi_cl, Int32.lt_iff_toInt_lt, Int32.le_iff_toInt_le, ← Int32.toInt_inj, Int32.toInt_add, Int32.toInt_sub, Int32.toInt_mul, true_and, and_true, false_and, and_false, or_false, false_or, or_true, true_or, not_true_eq_false, not_false_eq_true, implies_true, forall_const, zl_0, zl_1, zl_4, zl_5, zl_33, zl_40, zl_41, zl_45]) <;> first | omega | (simp (disch := omega) only [zi_bm2, zi_bm]; omega) | omega))) (by (first | with_reducible assumption | omega | assumption | ((try dsimp only); (try simp only [zi_cl, Int32.lt_iff_toInt_lt, Int32.le_iff_toInt_le, ← Int32.toInt_inj, Int32.toInt_add, Int32.toInt_sub, Int32.toInt_mul, true_and, and_true, false_and, and_false, or_false, false_or, or_true, true_or, not_true_eq_false, not_false_eq_true, implies_true, forall_const, zl_0, zl_1, zl_4, zl_5, zl_33, zl_40, zl_41, zl_45]) <;> first | omega | (simp (disch := omega) only [zi_bm2, zi_bm]; omega) | omega)))) (fun r_37_43 u_38_44 u_39_45 h46 => ?_)
          obtain ⟨p47, p48, p49⟩ := h46
          (try dsimp only at p47); (try simp only [zi_cl, Int32.lt_iff_toInt_lt, Int32.le_iff_toInt_le, ← Int32.toInt_inj, Int32.toInt_add, Int32.toInt_sub, Int32.toInt_mul, true_and, and_true, false_and, and_false, or_false, false_or, or_true, true_or, not_true_eq_false, not_false_eq_true, implies_true, forall_const, zl_0, zl_1, zl_4, zl_5, zl_33, zl_40, zl_41, zl_45] at p47); (try simp (disch := omega) only [zi_bm2, zi_bm] at p47)
          (try dsimp only at p48); (try simp only [zi_cl, Int32.lt_iff_toInt_lt, Int32.le_iff_toInt_le, ← Int32.toInt_inj, Int32.toInt_add, Int32.toInt_sub, Int32.toInt_mul, true_and, and_true, false_and, and_false, or_false, false_or, or_true, true_or, not_true_eq_false, not_false_eq_true, implies_true, forall_const, zl_0, zl_1, zl_4, zl_5, zl_33, zl_40, zl_41, zl_45] at p48); (try simp (disch := omega) only [zi_bm2, zi_bm] at p48)
          (try dsimp only at p49); (try simp only [zi_cl, Int32.lt_iff_toInt_lt, Int32.le_iff_toInt_le, ← Int32.toInt_inj, Int32.toInt_add, Int32.toInt_sub, Int32.toInt_mul, true_and, and_true, false_and, and_false, or_false, false_or, or_true, true_or, not_true_eq_false, not_false_eq_true, implies_true, forall_const, zl_0, zl_1, zl_4, zl_5, zl_33, zl_40, zl_41, zl_45] at p49); (try simp (disch := omega) only [zi_bm2, zi_bm] at p49)
          refine zp_ite (fun c50 => ?_) (fun c50 => ?_)
          · (try dsimp only at c50); (try simp only [zi_cl, Int32.lt_iff_toInt_lt, Int32.le_iff_toInt_le, ← Int32.toInt_inj, Int32.toInt_add, Int32.toInt_sub, Int32.toInt_mul, true_and, and_true, false_and, and_false, or_false, false_or, or_true, true_or, not_true_eq_false, not_false_eq_true, implies_true, forall_const, zl_0, zl_1, zl_4, zl_5, zl_33, zl_40, zl_41, zl_45] at c50); (try simp (disch := omega) only [zi_bm2, zi_bm] at c50)
            exact zp_i ⟨k2, p48, p49, k5⟩
          · (try dsimp only at c50); (try simp only [zi_cl, Int32.lt_iff_toInt_lt, Int32.le_iff_toInt_le, ← Int32.toInt_inj, Int32.toInt_add, Int32.toInt_sub, Int32.toInt_mul, true_and, and_true, false_and, and_false, or_false, false_or, or_true, true_or, not_true_eq_false, not_false_eq_true, implies_true, forall_const, zl_0, zl_1, zl_4, zl_5, zl_33, zl_40, zl_41, zl_45] at c50); (try simp (disch := omega) only [zi_bm2, zi_bm] at c50)
            refine zp_b4 (hr_X5_readOperand (x1 + (1 : Int32)) tape_size tape_bytes lr_size u_38_44 u_39_45 lr_code k0 k1 k2 p48 p49 k5 (by (first | with_reducible assumption | omega | assumption | ((try dsimp only); (try simp only [zi_cl, Int32.lt_iff_toInt_lt, Int32.le_iff_toInt_le, ← Int32.toInt_inj, Int32.toInt_add, Int32.toInt_sub, Int32.toInt_mul, true_and, and_true, false_and, and_false, or_false, false_or, or_true, true_or, not_true_eq_false, not_false_eq_true, implies_true, forall_const, zl_0, zl_1, zl_4, zl_5, zl_33, zl_40, zl_41, zl_45]) <;> first | omega | (simp (disch := omega) only [zi_bm2, zi_bm]; omega) | omega))) (by (first | with_reducible assumption | omega | assumption | ((try dsimp only); (try simp only [zi_cl, Int32.lt_iff_toInt_lt, Int32.le_iff_toInt_le, ← Int32.toInt_inj, Int32.toInt_add, Int32.toInt_sub, Int32.toInt_mul, true_and, and_true, false_and, and_false, or_false, false_or, or_true, true_or, not_true_eq_false, not_false_eq_true, implies_true, forall_const, zl_0, zl_1, zl_4, zl_5, zl_33, zl_40, zl_41, zl_45]) <;> first | omega | (simp (disch := omega) only [zi_bm2, zi_bm]; omega) | omega)))) (fun u_42_51 u_43_52 u_44_53 u_45_54 h55 => ?_)
            obtain ⟨p56, p57, p58, p59⟩ := h55
            (try dsimp only at p56); (try simp only [zi_cl, Int32.lt_iff_toInt_lt, Int32.le_iff_toInt_le, ← Int32.toInt_inj, Int32.toInt_add, Int32.toInt_sub, Int32.toInt_mul, true_and, and_true, false_and, and_false, or_false, false_or, or_true, true_or, not_true_eq_false, not_false_eq_true, implies_true, forall_const, zl_0, zl_1, zl_4, zl_5, zl_33, zl_40, zl_41, zl_45] at p56); (try simp (disch := omega) only [zi_bm2, zi_bm] at p56)
            (try dsimp only at p57); (try simp only [zi_cl, Int32.lt_iff_toInt_lt, Int32.le_iff_toInt_le, ← Int32.toInt_inj, Int32.toInt_add, Int32.toInt_sub, Int32.toInt_mul, true_and, and_true, false_and, and_false, or_false, false_or, or_true, true_or, not_true_eq_false, not_false_eq_true, implies_true, forall_const, zl_0, zl_1, zl_4, zl_5, zl_33, zl_40, zl_41, zl_45] at p57); (try simp (disch := omega) only [zi_bm2, zi_bm] at p57)
            (try dsimp only at p58); (try simp only [zi_cl, Int32.lt_iff_toInt_lt, Int32.le_iff_toInt_le, ← Int32.toInt_inj, Int32.toInt_add, Int32.toInt_sub, Int32.toInt_mul, true_and, and_true, false_and, and_false, or_false, false_or, or_true, true_or, not_true_eq_false, not_false_eq_true, implies_true, forall_const, zl_0, zl_1, zl_4, zl_5, zl_33, zl_40, zl_41, zl_45] at p58); (try simp (disch := omega) only [zi_bm2, zi_bm] at p58)
            have p59 : AR (0) (524287) u_45_54 := p59
            refine zp_ite (fun c60 => ?_) (fun c60 => ?_)
            · (try dsimp only at c60); (try simp only [zi_cl, Int32.lt_iff_toInt_lt, Int32.le_iff_toInt_le, ← Int32.toInt_inj, Int32.toInt_add, Int32.toInt_sub, Int32.toInt_mul, true_and, and_true, false_and, and_false, or_false, false_or, or_true, true_or, not_true_eq_false, not_false_eq_true, implies_true, forall_const, zl_0, zl_1, zl_4, zl_5, zl_33, zl_40, zl_41, zl_45] at c60); (try simp (disch := omega) only [zi_bm2, zi_bm] at c60)
              unfold B_X5_readOperand_80
              refine zp_b2 (s_X5_emit (4 : Int32) u_42_51 u_43_52 u_44_53 u_45_54 p56 p57 p58 p59 (by (first | with_reducible assumption | omega | assumption | ((try dsimp only); (try simp only [zi_cl, Int32.lt_iff_toInt_lt, Int32.le_iff_toInt_le, ← Int32.toInt_inj, Int32.toInt_add, Int32.toInt_sub, Int32.toInt_mul, true_and, and_true, false_and, and_false, or_false, false_or, or_true, true_or, not_true_eq_false, not_false_eq_true, implies_true, forall_const, zl_0, zl_1, zl_4, zl_5, zl_33, zl_40, zl_41, zl_45]) <;> first | omega | (simp (disch := omega) only [zi_bm2, zi_bm]; omega) | omega)))) (fun u_48_61 u_49_62 h63 => ?_)
              obtain ⟨p64, p65⟩ := h63
              (try dsimp only at p64); (try simp only [zi_cl, Int32.lt_iff_toInt_lt, Int32.le_iff_toInt_le, ← Int32.toInt_inj, Int32.toInt_add, Int32.toInt_sub, Int32.toInt_mul, true_and, and_true, false_and, and_false, or_false, false_or, or_true, true_or, not_true_eq_false, not_false_eq_true, implies_true, forall_const, zl_0, zl_1, zl_4, zl_5, zl_33, zl_40, zl_41, zl_45] at p64); (try simp (disch := omega) only [zi_bm2, zi_bm] at p64)
              have p65 : AR (0) (524287) u_49_62 := p65
              exact zp_i ⟨p64, p57, p58, p65⟩
            · (try dsimp only at c60); (try simp only [zi_cl, Int32.lt_iff_toInt_lt, Int32.le_iff_toInt_le, ← Int32.toInt_inj, Int32.toInt_add, Int32.toInt_sub, Int32.toInt_mul, true_and, and_true, false_and, and_false, or_false, false_or, or_true, true_or, not_true_eq_false, not_false_eq_true, implies_true, forall_const, zl_0, zl_1, zl_4, zl_5, zl_33, zl_40, zl_41, zl_45] at c60); (try simp (disch := omega) only [zi_bm2, zi_bm] at c60)
              unfold B_X5_readOperand_80
              refine zp_b2 (s_X5_emit (5 : Int32) u_42_51 u_43_52 u_44_53 u_45_54 p56 p57 p58 p59 (by (first | with_reducible assumption | omega | assumption | ((try dsimp only); (try simp only [zi_cl, Int32.lt_iff_toInt_lt, Int32.le_iff_toInt_le, ← Int32.toInt_inj, Int32.toInt_add, Int32.toInt_sub, Int32.toInt_mul, true_and, and_true, false_and, and_false, or_false, false_or, or_true, true_or, not_true_eq_false, not_false_eq_true, implies_true, forall_const, zl_0, zl_1, zl_4, zl_5, zl_33, zl_40, zl_41, zl_45]) <;> first | omega | (simp (disch := omega) only [zi_bm2, zi_bm]; omega) | omega)))) (fun u_48_66 u_49_67 h68 => ?_)
              obtain ⟨p69, p70⟩ := h68
              (try dsimp only at p69); (try simp only [zi_cl, Int32.lt_iff_toInt_lt, Int32.le_iff_toInt_le, ← Int32.toInt_inj, Int32.toInt_add, Int32.toInt_sub, Int32.toInt_mul, true_and, and_true, false_and, and_false, or_false, false_or, or_true, true_or, not_true_eq_false, not_false_eq_true, implies_true, forall_const, zl_0, zl_1, zl_4, zl_5, zl_33, zl_40, zl_41, zl_45] at p69); (try simp (disch := omega) only [zi_bm2, zi_bm] at p69)
              have p70 : AR (0) (524287) u_49_67 := p70
              exact zp_i ⟨p69, p57, p58, p70⟩
        · (try dsimp only at c42); (try simp only [zi_cl, Int32.lt_iff_toInt_lt, Int32.le_iff_toInt_le, ← Int32.toInt_inj, Int32.toInt_add, Int32.toInt_sub, Int32.toInt_mul, true_and, and_true, false_and, and_false, or_false, false_or, or_true, true_or, not_true_eq_false, not_false_eq_true, implies_true, forall_const, zl_0, zl_1, zl_4, zl_5, zl_33, zl_40, zl_41, zl_45] at c42); (try simp (disch := omega) only [zi_bm2, zi_bm] at c42)
          refine zp_ite (fun c71 => ?_) (fun c71 => ?_)
          · (try dsimp only at c71); (try simp only [zi_cl, Int32.lt_iff_toInt_lt, Int32.le_iff_toInt_le, ← Int32.toInt_inj, Int32.toInt_add, Int32.toInt_sub, Int32.toInt_mul, true_and, and_true, false_and, and_false, or_false, false_or, or_true, true_or, not_true_eq_false, not_false_eq_true, implies_true, forall_const, zl_0, zl_1, zl_4, zl_5, zl_33, zl_40, zl_41, zl_45] at c71); (try simp (disch := omega) only [zi_bm2, zi_bm] at c71)
            refine zp_b3 (s_X5_mayOpen x1 lr_size lr_at lr_fault k2 k3 k4 (by (first | with_reducible assumption | omega | assumption | ((try dsimp only); (try simp only [zi_cl, Int32.lt_iff_toInt_lt, Int32.le_iff_toInt_le, ← Int32.toInt_inj, Int32.toInt_add, Int32.toInt_sub, Int32.toInt_mul, true_and, and_true, false_and, and_false, or_false, false_or, or_true, true_or, not_true_eq_false, not_false_eq_true, implies_true, forall_const, zl_0, zl_1, zl_4, zl_5, zl_33, zl_40, zl_41, zl_45]) <;> first | omega | (simp (disch := omega) only [zi_bm2, zi_bm]; omega) | omega))) (by (first | with_reducible assumption | omega | assumption | ((try dsimp only); (try simp only [zi_cl, Int32.lt_iff_toInt_lt, Int32.le_iff_toInt_le, ← Int32.toInt_inj, Int32.toInt_add, Int32.toInt_sub, Int32.toInt_mul, true_and, and_true, false_and, and_false, or_false, false_or, or_true, true_or, not_true_eq_false, not_false_eq_true, implies_true, forall_const, zl_0, zl_1, zl_4, zl_5, zl_33, zl_40, zl_41, zl_45]) <;> first | omega | (simp (disch := omega) only [zi_bm2, zi_bm]; omega) | omega)))) (fun r_17_72 u_18_73 u_19_74 h75 => ?_)
            obtain ⟨p76, p77, p78⟩ := h75
            (try dsimp only at p76); (try simp only [zi_cl, Int32.lt_iff_toInt_lt, Int32.le_iff_toInt_le, ← Int32.toInt_inj, Int32.toInt_add, Int32.toInt_sub, Int32.toInt_mul, true_and, and_true, false_and, and_false, or_false, false_or, or_true, true_or, not_true_eq_false, not_false_eq_true, implies_true, forall_const, zl_0, zl_1, zl_4, zl_5, zl_33, zl_40, zl_41, zl_45] at p76); (try simp (disch := omega) only [zi_bm2, zi_bm] at p76)
            (try dsimp only at p77); (try simp only [zi_cl, Int32.lt_iff_toInt_lt, Int32.le_iff_toInt_le, ← Int32.toInt_inj, Int32.toInt_add, Int32.toInt_sub, Int32.toInt_mul, true_and, and_true, false_and, and_false, or_false, false_or, or_true, true_or, not_true_eq_false, not_false_eq_true, implies_true, forall_const, zl_0, zl_1, zl_4, zl_5, zl_33, zl_40, zl_41, zl_45] at p77); (try simp (disch := omega) only [zi_bm2, zi_bm] at p77)
            (try dsimp only at p78); (try simp only [zi_cl, Int32.lt_iff_toInt_lt, Int32.le_iff_toInt_le, ← Int32.toInt_inj, Int32.toInt_add, Int32.toInt_sub, Int32.toInt_mul, true_and, and_true, false_and, and_false, or_false, false_or, or_true, true_or, not_true_eq_false, not_false_eq_true, implies_true, forall_const, zl_0, zl_1, zl_4, zl_5, zl_33, zl_40, zl_41, zl_45] at p78); (try simp (disch := omega) only [zi_bm2, zi_bm] at p78)
            refine zp_ite (fun c79 => ?_) (fun c79 => ?_)
            · (try dsimp only at c79); (try simp only [zi_cl, Int32.lt_iff_toInt_lt, Int32.le_iff_toInt_le, ← Int32.toInt_inj, Int32.toInt_add, Int32.toInt_sub, Int32.toInt_mul, true_and, and_true, false_and, and_false, or_false, false_or, or_true, true_or, not_true_eq_false, not_false_eq_true, implies_true, forall_const, zl_0, zl_1, zl_4, zl_5, zl_33, zl_40, zl_41, zl_45] at c79); (try simp (disch := omega) only [zi_bm2, zi_bm] at c79)
              exact zp_i ⟨k2, p77, p78, k5⟩
            · (try dsimp only at c79); (try simp only [zi_cl, Int32.lt_iff_toInt_lt, Int32.le_iff_toInt_le, ← Int32.toInt_inj, Int32.toInt_add, Int32.toInt_sub, Int32.toInt_mul, true_and, and_true, false_and, and_false, or_false, false_or, or_true, true_or, not_true_eq_false, not_false_eq_true, implies_true, forall_const, zl_0, zl_1, zl_4, zl_5, zl_33, zl_40, zl_41, zl_45] at c79); (try simp (disch := omega) only [zi_bm2, zi_bm] at c79)
              refine zp_b4 (hr_X5_readLevel (0 : Int32) (x1 + (1 : Int32)) tape_size tape_bytes lr_size u_18_73 u_19_74 lr_code k0 k1 k2 p77 p78 k5 (by (first | with_reducible assumption | omega | assumption | ((try dsimp only); (try simp only [zi_cl, Int32.lt_iff_toInt_lt, Int32.le_iff_toInt_le, ← Int32.toInt_inj, Int32.toInt_add, Int32.toInt_sub, Int32.toInt_mul, true_and, and_true, false_and, and_false, or_false, false_or, or_true, true_or, not_true_eq_false, not_false_eq_true, implies_true, forall_const, zl_0, zl_1, zl_4, zl_5, zl_33, zl_40, zl_41, zl_45]) <;> first | omega | (simp (disch := omega) only [zi_bm2, zi_bm]; omega) | omega))) (by (first | with_reducible assumption | omega | assumption | ((try dsimp only); (try simp only [zi_cl, Int32.lt_iff_toInt_lt, Int32.le_iff_toInt_le, ← Int32.toInt_inj, Int32.toInt_add, Int32.toInt_sub, Int32.toInt_mul, true_and, and_true, false_and, and_false, or_false, false_or, or_true, true_or, not_true_eq_false, not_false_eq_true, implies_true, forall_const, zl_0, zl_1, zl_4, zl_5, zl_33, zl_40, zl_41, zl_45]) <;> first | omega | (simp (disch := omega) only [zi_bm2, zi_bm]; omega) | omega))) (by (first | with_reducible assumption | omega | assumption | ((try dsimp only); (try simp only [zi_cl, Int32.lt_iff_toInt_lt, Int32.le_iff_toInt_le, ← Int32.toInt_inj, Int32.toInt_add, Int32.toInt_sub, Int32.toInt_mul, true_and, and_true, false_and, and_false, or_false, false_or, or_true, true_or, not_true_eq_false, not_false_eq_true, implies_true, forall_const, zl_0, zl_1, zl_4, zl_5, zl_33, zl_40, zl_41, zl_45]) <;> first | omega | (simp (disch := omega) only [zi_bm2, zi_bm]; omega) | omega)))) (fun u_22_80 u_23_81 u_24_82 u_25_83 h84 => ?_)
              obtain ⟨p85, p86, p87, p88⟩ := h84
              (try dsimp only at p85); (try simp only [zi_cl, Int32.lt_iff_toInt_lt, Int32.le_iff_toInt_le, ← Int32.toInt_inj, Int32.toInt_add, Int32.toInt_sub, Int32.toInt_mul, true_and, and_true, false_and, and_false, or_false, false_or, or_true, true_or, not_true_eq_false, not_false_eq_true, implies_true, forall_const, zl_0, zl_1, zl_4, zl_5, zl_33, zl_40, zl_41, zl_45] at p85); (try simp (disch := omega) only [zi_bm2, zi_bm] at p85)
              (try dsimp only at p86); (try simp only [zi_cl, Int32.lt_iff_toInt_lt, Int32.le_iff_toInt_le, ← Int32.toInt_inj, Int32.toInt_add, Int32.toInt_sub, Int32.toInt_mul, true_and, and_true, false_and, and_false, or_false, false_or, or_true, true_or, not_true_eq_false, not_false_eq_true, implies_true, forall_const, zl_0, zl_1, zl_4, zl_5, zl_33, zl_40, zl_41, zl_45] at p86); (try simp (disch := omega) only [zi_bm2, zi_bm] at p86)
              (try dsimp only at p87); (try simp only [zi_cl, Int32.lt_iff_toInt_lt, Int32.le_iff_toInt_le, ← Int32.toInt_inj, Int32.toInt_add, Int32.toInt_sub, Int32.toInt_mul, true_and, and_true, false_and, and_false, or_false, false_or, or_true, true_or, not_true_eq_false, not_false_eq_true, implies_true, forall_const, zl_0, zl_1, zl_4, zl_5, zl_33, zl_40, zl_41, zl_45] at p87); (try simp (disch := omega) only [zi_bm2, zi_bm] at p87)
              have p88 : AR (0) (524287) u_25_83 := p88
              refine zp_b2 (s_X5_accept (41 : Int32) tape_size tape_bytes u_22_80 u_23_81 u_24_82 k0 k1 p85 p86 p87 (by (first | with_reducible assumption | omega | assumption | ((try dsimp only); (try simp only [zi_cl, Int32.lt_iff_toInt_lt, Int32.le_iff_toInt_le, ← Int32.toInt_inj, Int32.toInt_add, Int32.toInt_sub, Int32.toInt_mul, true_and, and_true, false_and, and_false, or_false, false_or, or_true, true_or, not_true_eq_false, not_false_eq_true, implies_true, forall_const, zl_0, zl_1, zl_4, zl_5, zl_33, zl_40, zl_41, zl_45]) <;> first | omega | (simp (disch := omega) only [zi_bm2, zi_bm]; omega) | omega)))) (fun r_27_89 u_28_90 h91 => ?_)
              have p92 := h91
              (try dsimp only at p92); (try simp only [zi_cl, Int32.lt_iff_toInt_lt, Int32.le_iff_toInt_le, ← Int32.toInt_inj, Int32.toInt_add, Int32.toInt_sub, Int32.toInt_mul, true_and, and_true, false_and, and_false, or_false, false_or, or_true, true_or, not_true_eq_false, not_false_eq_true, implies_true, forall_const, zl_0, zl_1, zl_4, zl_5, zl_33, zl_40, zl_41, zl_45] at p92); (try simp (disch := omega) only [zi_bm2, zi_bm] at p92)
              refine zp_ite (fun c93 => ?_) (fun c93 => ?_)
              · (try dsimp only at c93); (try simp only [zi_cl, Int32.lt_iff_toInt_lt, Int32.le_iff_toInt_le, ← Int32.toInt_inj, Int32.toInt_add, Int32.toInt_sub, Int32.toInt_mul, true_and, and_true, false_and, and_false, or_false, false_or, or_true, true_or, not_true_eq_false, not_false_eq_true, implies_true, forall_const, zl_0, zl_1, zl_4, zl_5, zl_33, zl_40, zl_41, zl_45] at c93); (try simp (disch := omega) only [zi_bm2, zi_bm] at c93)
                refine zp_b1 (s_X5_fail u_22_80 u_28_90 u_24_82 p85 p92 p87) (fun u_31_94 h95 => ?_)
                have p96 := h95
                (try dsimp only at p96); (try simp only [zi_cl, Int32.lt_iff_toInt_lt, Int32.le_iff_toInt_le, ← Int32.toInt_inj, Int32.toInt_add, Int32.toInt_sub, Int32.toInt_mul, true_and, and_true, false_and, and_false, or_false, false_or, or_true, true_or, not_true_eq_false, not_false_eq_true, implies_true, forall_const, zl_0, zl_1, zl_4, zl_5, zl_33, zl_40, zl_41, zl_45] at p96); (try simp (disch := omega) only [zi_bm2, zi_bm] at p96)
                exact zp_i ⟨p85, p92, p96, p88⟩
              · (try dsimp only at c93); (try simp only [zi_cl, Int32.lt_iff_toInt_lt, Int32.le_iff_toInt_le, ← Int32.toInt_inj, Int32.toInt_add, Int32.toInt_sub, Int32.toInt_mul, true_and, and_true, false_and, and_false, or_false, false_or, or_true, true_or, not_true_eq_false, not_false_eq_true, implies_true, forall_const, zl_0, zl_1, zl_4, zl_5, zl_33, zl_40, zl_41, zl_45] at c93); (try simp (disch := omega) only [zi_bm2, zi_bm] at c93)
                exact zp_i ⟨p85, p92, p87, p88⟩
          · (try dsimp only at c71); (try simp only [zi_cl, Int32.lt_iff_toInt_lt, Int32.le_iff_toInt_le, ← Int32.toInt_inj, Int32.toInt_add, Int32.toInt_sub, Int32.toInt_mul, true_and, and_true, false_and, and_false, or_false, false_or, or_true, true_or, not_true_eq_false, not_false_eq_true, implies_true, forall_const, zl_0, zl_1, zl_4, zl_5, zl_33, zl_40, zl_41, zl_45] at c71); (try simp (disch := omega) only [zi_bm2, zi_bm] at c71)
            refine zp_b4 (s_X5_readName r_1_1 lr_size lr_at lr_fault lr_code k2 k3 k4 k5 (by (first | with_reducible assumption | omega | assumption | ((try dsimp only); (try simp only [zi_cl, Int32.lt_iff_toInt_lt, Int32.le_iff_toInt_le, ← Int32.toInt_inj, Int32.toInt_add, Int32.toInt_sub, Int32.toInt_mul, true_and, and_true, false_and, and_false, or_false, false_or, or_true, true_or, not_true_eq_false, not_false_eq_true, implies_true, forall_const, zl_0, zl_1, zl_4, zl_5, zl_33, zl_40, zl_41, zl_45]) <;> first | omega | (simp (disch := omega) only [zi_bm2, zi_bm]; omega) | omega))) (by (first | with_reducible assumption | omega | assumption | ((try dsimp only); (try simp only [zi_cl, Int32.lt_iff_toInt_lt, Int32.le_iff_toInt_le, ← Int32.toInt_inj, Int32.toInt_add, Int32.toInt_sub, Int32.toInt_mul, true_and, and_true, false_and, and_false, or_false, false_or, or_true, true_or, not_true_eq_false, not_false_eq_true, implies_true, forall_const, zl_0, zl_1, zl_4, zl_5, zl_33, zl_40, zl_41, zl_45]) <;> first | omega | (simp (disch := omega) only [zi_bm2, zi_bm]; omega) | omega)))) (fun u_12_97 u_13_98 u_14_99 u_15_100 h101 => ?_)
            obtain ⟨p102, p103, p104, p105⟩ := h101
            (try dsimp only at p102); (try simp only [zi_cl, Int32.lt_iff_toInt_lt, Int32.le_iff_toInt_le, ← Int32.toInt_inj, Int32.toInt_add, Int32.toInt_sub, Int32.toInt_mul, true_and, and_true, false_and, and_false, or_false, false_or, or_true, true_or, not_true_eq_false, not_false_eq_true, implies_true, forall_const, zl_0, zl_1, zl_4, zl_5, zl_33, zl_40, zl_41, zl_45] at p102); (try simp (disch := omega) only [zi_bm2, zi_bm] at p102)
            (try dsimp only at p103); (try simp only [zi_cl, Int32.lt_iff_toInt_lt, Int32.le_iff_toInt_le, ← Int32.toInt_inj, Int32.toInt_add, Int32.toInt_sub, Int32.toInt_mul, true_and, and_true, false_and, and_false, or_false, false_or, or_true, true_or, not_true_eq_false, not_false_eq_true, implies_true, forall_const, zl_0, zl_1, zl_4, zl_5, zl_33, zl_40, zl_41, zl_45] at p103); (try simp (disch := omega) only [zi_bm2, zi_bm] at p103)
            (try dsimp only at p104); (try simp only [zi_cl, Int32.lt_iff_toInt_lt, Int32.le_iff_toInt_le, ← Int32.toInt_inj, Int32.toInt_add, Int32.toInt_sub, Int32.toInt_mul, true_and, and_true, false_and, and_false, or_false, false_or, or_true, true_or, not_true_eq_false, not_false_eq_true, implies_true, forall_const, zl_0, zl_1, zl_4, zl_5, zl_33, zl_40, zl_41, zl_45] at p104); (try simp (disch := omega) only [zi_bm2, zi_bm] at p104)
            have p105 : AR (0) (524287) u_15_100 := p105
            exact zp_i ⟨p102, p103, p104, p105⟩
    · (try dsimp only at c12); (try simp only [zi_cl, Int32.lt_iff_toInt_lt, Int32.le_iff_toInt_le, ← Int32.toInt_inj, Int32.toInt_add, Int32.toInt_sub, Int32.toInt_mul, true_and, and_true, false_and, and_false, or_false, false_or, or_true, true_or, not_true_eq_false, not_false_eq_true, implies_true, forall_const, zl_0, zl_1, zl_4, zl_5, zl_33, zl_40, zl_41, zl_45] at c12); (try simp (disch := omega) only [zi_bm2, zi_bm] at c12)
      refine zp_b3 (s_X5_readNumber tape_size tape_bytes lr_size lr_at lr_fault lr_code k0 k1 k2 k3 k4 k5) (fun u_33_106 u_34_107 u_35_108 h109 => ?_)
      obtain ⟨p110, p111, p112⟩ := h109
      (try dsimp only at p110); (try simp only [zi_cl, Int32.lt_iff_toInt_lt, Int32.le_iff_toInt_le, ← Int32.toInt_inj, Int32.toInt_add, Int32.toInt_sub, Int32.toInt_mul, true_and, and_true, false_and, and_false, or_false, false_or, or_true, true_or, not_true_eq_false, not_false_eq_true, implies_true, forall_const, zl_0, zl_1, zl_4, zl_5, zl_33, zl_40, zl_41, zl_45] at p110); (try simp (disch := omega) only [zi_bm2, zi_bm] at p110)
      (try dsimp only at p111); (try simp only [zi_cl, Int32.lt_iff_toInt_lt, Int32.le_iff_toInt_le, ← Int32.toInt_inj, Int32.toInt_add, Int32.toInt_sub, Int32.toInt_mul, true_and, and_true, false_and, and_false, or_false, false_or, or_true, true_or, not_true_eq_false, not_false_eq_true, implies_true, forall_const, zl_0, zl_1, zl_4, zl_5, zl_33, zl_40, zl_41, zl_45] at p111); (try simp (disch := omega) only [zi_bm2, zi_bm] at p111)
      have p112 : AR (0) (524287) u_35_108 := p112
      exact zp_i ⟨p110, p111, k4, p112⟩
  · (try dsimp only at c7); (try simp only [zi_cl, Int32.lt_iff_toInt_lt, Int32.le_iff_toInt_le, ← Int32.toInt_inj, Int32.toInt_add, Int32.toInt_sub, Int32.toInt_mul, true_and, and_true, false_and, and_false, or_false, false_or, or_true, true_or, not_true_eq_false, not_false_eq_true, implies_true, forall_const, zl_0, zl_1, zl_4, zl_5, zl_33, zl_40, zl_41, zl_45] at c7); (try simp (disch := omega) only [zi_bm2, zi_bm] at c7)
    exact zp_i ⟨k2, k3, k4, k5⟩

set_option maxHeartbeats 4000000 in
set_option maxRecDepth 20000 in
theorem sg_lawgrp : ∀ n : Nat, (∀ (x1 : Int32) (x2 : Int32) (tape_size : Int32) (tape_bytes : Nat → Int32) (lr_size : Int32) (lr_at : Int32) (lr_fault : Int32) (lr_code : Nat → Int32), (0 ≤ tape_size.toInt ∧ tape_size.toInt ≤ 120) → (AR (0) (255) tape_bytes) → (0 ≤ lr_size.toInt ∧ lr_size.toInt ≤ 121) → (0 ≤ lr_at.toInt ∧ lr_at.toInt ≤ 120) → (-1 ≤ lr_fault.toInt ∧ lr_fault.toInt ≤ 120) → (AR (0) (524287) lr_code) → (0 ≤ x1.toInt ∧ x1.toInt ≤ 5) → (0 ≤ x2.toInt ∧ x2.toInt ≤ 6) → ((6 - x2.toInt) * 7 + 6 - x1.toInt).toNat < n → zp ((grp_lawgrp n).1 x1 x2 tape_size tape_bytes lr_size lr_at lr_fault lr_code) (fun R => (0 ≤ R.1.toInt ∧ R.1.toInt ≤ 121) ∧ (0 ≤ R.2.1.toInt ∧ R.2.1.toInt ≤ 120) ∧ (-1 ≤ R.2.2.1.toInt ∧ R.2.2.1.toInt ≤ 120) ∧ (AR (0) (524287) R.2.2.2))) ∧ (∀ (x1 : Int32) (tape_size : Int32) (tape_bytes : Nat → Int32) (lr_size : Int32) (lr_at : Int32) (lr_fault : Int32) (lr_code : Nat → Int32), (0 ≤ tape_size.toInt ∧ tape_size.toInt ≤ 120) → (AR (0) (255) tape_bytes) → (0 ≤ lr_size.toInt ∧ lr_size.toInt ≤ 121) → (0 ≤ lr_at.toInt ∧ lr_at.toInt ≤ 120) → (-1 ≤ lr_fault.toInt ∧ lr_fault.toInt ≤ 120) → (AR (0) (524287) lr_code) → (0 ≤ x1.toInt ∧ x1.toInt ≤ 6) → ((6 - x1.toInt) * 7).toNat < n → zp ((grp_lawgrp n).2 x1 tape_size tape_bytes lr_size lr_at lr_fault lr_code) (fun R => (0 ≤ R.1.toInt ∧ R.1.toInt ≤ 121) ∧ (0 ≤ R.2.1.toInt ∧ R.2.1.toInt ≤ 120) ∧ (-1 ≤ R.2.2.1.toInt ∧ R.2.2.1.toInt ≤ 120) ∧ (AR (0) (524287) R.2.2.2))) := by
  intro n
  induction n with
  | zero => exact ⟨(fun _ _ _ _ _ _ _ _ _ _ _ _ _ _ _ _ hm => absurd hm (Nat.not_lt_zero _)), (fun _ _ _ _ _ _ _ _ _ _ _ _ _ _ hm => absurd hm (Nat.not_lt_zero _))⟩
  | succ n ih =>
    exact ⟨(fun x1 x2 tape_size tape_bytes lr_size lr_at lr_fault lr_code k0 k1 k2 k3 k4 k5 k6 k7 hm => s_X5_readLevel n ((grp_lawgrp n).1) ((grp_lawgrp n).2) (ih.1) (ih.2) x1 x2 tape_size tape_bytes lr_size lr_at lr_fault lr_code k0 k1 k2 k3 k4 k5 k6 k7 hm), (fun x1 tape_size tape_bytes lr_size lr_at lr_fault lr_code k0 k1 k2 k3 k4 k5 k6 hm => s_X5_readOperand n ((grp_lawgrp n).1) ((grp_lawgrp n).2) (ih.1) (ih.2) x1 tape_size tape_bytes lr_size lr_at lr_fault lr_code k0 k1 k2 k3 k4 k5 k6 hm)⟩
theorem st_X5_readLevel (x1 : Int32) (x2 : Int32) (tape_size : Int32) (tape_bytes : Nat → Int32) (lr_size : Int32) (lr_at : Int32) (lr_fault : Int32) (lr_code : Nat → Int32) (k0 : 0 ≤ tape_size.toInt ∧ tape_size.toInt ≤ 120) (k1 : AR (0) (255) tape_bytes) (k2 : 0 ≤ lr_size.toInt ∧ lr_size.toInt ≤ 121) (k3 : 0 ≤ lr_at.toInt ∧ lr_at.toInt ≤ 120) (k4 : -1 ≤ lr_fault.toInt ∧ lr_fault.toInt ≤ 120) (k5 : AR (0) (524287) lr_code) (k6 : 0 ≤ x1.toInt ∧ x1.toInt ≤ 5) (k7 : 0 ≤ x2.toInt ∧ x2.toInt ≤ 6) (hD : ((6 - x2.toInt) * 7 + 6 - x1.toInt).toNat < 60) : zp ((grp_lawgrp 60).1 x1 x2 tape_size tape_bytes lr_size lr_at lr_fault lr_code) (fun R => (0 ≤ R.1.toInt ∧ R.1.toInt ≤ 121) ∧ (0 ≤ R.2.1.toInt ∧ R.2.1.toInt ≤ 120) ∧ (-1 ≤ R.2.2.1.toInt ∧ R.2.2.1.toInt ≤ 120) ∧ (AR (0) (524287) R.2.2.2)) := (sg_lawgrp 60).1 x1 x2 tape_size tape_bytes lr_size lr_at lr_fault lr_code k0 k1 k2 k3 k4 k5 k6 k7 hD
theorem st_X5_readOperand (x1 : Int32) (tape_size : Int32) (tape_bytes : Nat → Int32) (lr_size : Int32) (lr_at : Int32) (lr_fault : Int32) (lr_code : Nat → Int32) (k0 : 0 ≤ tape_size.toInt ∧ tape_size.toInt ≤ 120) (k1 : AR (0) (255) tape_bytes) (k2 : 0 ≤ lr_size.toInt ∧ lr_size.toInt ≤ 121) (k3 : 0 ≤ lr_at.toInt ∧ lr_at.toInt ≤ 120) (k4 : -1 ≤ lr_fault.toInt ∧ lr_fault.toInt ≤ 120) (k5 : AR (0) (524287) lr_code) (k6 : 0 ≤ x1.toInt ∧ x1.toInt ≤ 6) (hD : ((6 - x1.toInt) * 7).toNat < 60) : zp ((grp_lawgrp 60).2 x1 tape_size tape_bytes lr_size lr_at lr_fault lr_code) (fun R => (0 ≤ R.1.toInt ∧ R.1.toInt ≤ 121) ∧ (0 ≤ R.2.1.toInt ∧ R.2.1.toInt ≤ 120) ∧ (-1 ≤ R.2.2.1.toInt ∧ R.2.2.1.toInt ≤ 120) ∧ (AR (0) (524287) R.2.2.2)) := (sg_lawgrp 60).2 x1 tape_size tape_bytes lr_size lr_at lr_fault lr_code k0 k1 k2 k3 k4 k5 k6 hD

set_option maxHeartbeats 4000000 in
set_option maxRecDepth 20000 in
theorem s_X5_readLine  (tape_size : Int32) (tape_bytes : Nat → Int32) (lr_size : Int32) (lr_at : Int32) (lr_fault : Int32) (lr_code : Nat → Int32) (k0 : 0 ≤ tape_size.toInt ∧ tape_size.toInt ≤ 120) (k1 : AR (0) (255) tape_bytes) (k2 : 0 ≤ lr_size.toInt ∧ lr_size.toInt ≤ 121) (k3 : 0 ≤ lr_at.toInt ∧ lr_at.toInt ≤ 120) (k4 : -1 ≤ lr_fault.toInt ∧ lr_fault.toInt ≤ 120) (k5 : AR (0) (524287) lr_code) : zp (f_X5_readLine tape_size tape_bytes lr_size lr_at lr_fault lr_code) (fun R => (0 ≤ R.1.toInt ∧ R.1.toInt ≤ 121) ∧ (0 ≤ R.2.1.toInt ∧ R.2.1.toInt ≤ 120) ∧ (-1 ≤ R.2.2.1.toInt ∧ R.2.2.1.toInt ≤ 120) ∧ (AR (0) (524287) R.2.2.2)) := by
  unfold f_X5_readLine
  unfold B_X5_readLine_0
  refine zp_b4 (st_X5_readLevel (0 : Int32) (0 : Int32) tape_size tape_bytes lr_size lr_at lr_fault lr_code k0 k1 k2 k3 k4 k5 (by (first | with_reducible assumption | omega | assumption | ((try dsimp only); (try simp only [zi_cl, Int32.lt_iff_toInt_lt, Int32.le_iff_toInt_le, ← Int32.toInt_inj, Int32.toInt_add, Int32.toInt_sub, Int32.toInt_mul, true_and, and_true, false_and, and_false, or_false, false_or, or_true, true_or, not_true_eq_false, not_false_eq_true, implies_true, forall_const, zl_0, zl_1, zl_2, zl_3, zl_5, zl_63, zl_121]) <;> first | omega | (simp (disch := omega) only [zi_bm2, zi_bm]; omega) | omega))) (by (first | with_reducible assumption | omega | assumption | ((try dsimp only); (try simp only [zi_cl, Int32.lt_iff_toInt_lt, Int32.le_iff_toInt_le, ← Int32.toInt_inj, Int32.toInt_add, Int32.toInt_sub, Int32.toInt_mul, true_and, and_true, false_and, and_false, or_false, false_or, or_true, true_or, not_true_eq_false, not_false_eq_true, implies_true, forall_const, zl_0, zl_1, zl_2, zl_3, zl_5, zl_63, zl_121]) <;> first | omega | (simp (disch := omega) only [zi_bm2, zi_bm]; omega) | omega))) (by (first | with_reducible assumption | omega | assumption | ((try dsimp only); (try simp only [zi_cl, Int32.lt_iff_toInt_lt, Int32.le_iff_toInt_le, ← Int32.toInt_inj, Int32.toInt_add, Int32.toInt_sub, Int32.toInt_mul, true_and, and_true, false_and, and_false, or_false, false_or, or_true, true_or, not_true_eq_false, not_false_eq_true, implies_true, forall_const, zl_0, zl_1, zl_2, zl_3, zl_5, zl_63, zl_121]) <;> first | omega | (simp (disch := omega) only [zi_bm2, zi_bm]; omega) | omega)))) (fun u_1_1 u_2_2 u_3_3 u_4_4 h5 => ?_)
  obtain ⟨p6, p7, p8, p9⟩ := h5
  (try dsimp only at p6); (try simp only [zi_cl, Int32.lt_iff_toInt_lt, Int32.le_iff_toInt_le, ← Int32.toInt_inj, Int32.toInt_add, Int32.toInt_sub, Int32.toInt_mul, true_and, and_true, false_and, and_false, or_false, false_or, or_true, true_or, not_true_eq_false, not_false_eq_true, implies_true, forall_const, zl_0, zl_1, zl_2, zl_3, zl_5, zl_63, zl_121] at p6); (try simp (disch := omega) only [zi_bm2, zi_bm] at p6)
  (try dsimp only at p7); (try simp only [zi_cl, Int32.lt_iff_toInt_lt, Int32.le_iff_toInt_le, ← Int32.toInt_inj, Int32.toInt_add, Int32.toInt_sub, Int32.toInt_mul, true_and, and_true, false_and, and_false, or_false, false_or, or_true, true_or, not_true_eq_false, not_false_eq_true, implies_true, forall_const, zl_0, zl_1, zl_2, zl_3, zl_5, zl_63, zl_121] at p7); (try simp (disch := omega) only [zi_bm2, zi_bm] at p7)
  (try dsimp only at p8); (try simp only [zi_cl, Int32.lt_iff_toInt_lt, Int32.le_iff_toInt_le, ← Int32.toInt_inj, Int32.toInt_add, Int32.toInt_sub, Int32.toInt_mul, true_and, and_true, false_and, and_false, or_false, false_or, or_true, true_or, not_true_eq_false, not_false_eq_true, implies_true, forall_const, zl_0, zl_1, zl_2, zl_3, zl_5, zl_63, zl_121] at p8); (try simp (disch := omega) only [zi_bm2, zi_bm] at p8)
  have p9 : AR (0) (524287) u_4_4 := p9
  refine zp_b2 (s_X5_accept (63 : Int32) tape_size tape_bytes u_1_1 u_2_2 u_3_3 k0 k1 p6 p7 p8 (by (first | with_reducible assumption | omega | assumption | ((try dsimp only); (try simp only [zi_cl, Int32.lt_iff_toInt_lt, Int32.le_iff_toInt_le, ← Int32.toInt_inj, Int32.toInt_add, Int32.toInt_sub, Int32.toInt_mul, true_and, and_true, false_and, and_false, or_false, false_or, or_true, true_or, not_true_eq_false, not_false_eq_true, implies_true, forall_const, zl_0, zl_1, zl_2, zl_3, zl_5, zl_63, zl_121]) <;> first | omega | (simp (disch := omega) only [zi_bm2, zi_bm]; omega) | omega)))) (fun r_6_10 u_7_11 h12 => ?_)
  have p13 := h12
  (try dsimp only at p13); (try simp only [zi_cl, Int32.lt_iff_toInt_lt, Int32.le_iff_toInt_le, ← Int32.toInt_inj, Int32.toInt_add, Int32.toInt_sub, Int32.toInt_mul, true_and, and_true, false_and, and_false, or_false, false_or, or_true, true_or, not_true_eq_false, not_false_eq_true, implies_true, forall_const, zl_0, zl_1, zl_2, zl_3, zl_5, zl_63, zl_121] at p13); (try simp (disch := omega) only [zi_bm2, zi_bm] at p13)
  refine zp_ite (fun c14 => ?_) (fun c14 => ?_)
  · (try dsimp only at c14); (try simp only [zi_cl, Int32.lt_iff_toInt_lt, Int32.le_iff_toInt_le, ← Int32.toInt_inj, Int32.toInt_add, Int32.toInt_sub, Int32.toInt_mul, true_and, and_true, false_and, and_false, or_false, false_or, or_true, true_or, not_true_eq_false, not_false_eq_true, implies_true, forall_const, zl_0, zl_1, zl_2, zl_3, zl_5, zl_63, zl_121] at c14); (try simp (disch := omega) only [zi_bm2, zi_bm] at c14)
    refine zp_b2 (s_X5_emit (2 : Int32) u_1_1 u_7_11 u_3_3 u_4_4 p6 p13 p8 p9 (by (first | with_reducible assumption | omega | assumption | ((try dsimp only); (try simp only [zi_cl, Int32.lt_iff_toInt_lt, Int32.le_iff_toInt_le, ← Int32.toInt_inj, Int32.toInt_add, Int32.toInt_sub, Int32.toInt_mul, true_and, and_true, false_and, and_false, or_false, false_or, or_true, true_or, not_true_eq_false, not_false_eq_true, implies_true, forall_const, zl_0, zl_1, zl_2, zl_3, zl_5, zl_63, zl_121]) <;> first | omega | (simp (disch := omega) only [zi_bm2, zi_bm]; omega) | omega)))) (fun u_10_15 u_11_16 h17 => ?_)
    obtain ⟨p18, p19⟩ := h17
    (try dsimp only at p18); (try simp only [zi_cl, Int32.lt_iff_toInt_lt, Int32.le_iff_toInt_le, ← Int32.toInt_inj, Int32.toInt_add, Int32.toInt_sub, Int32.toInt_mul, true_and, and_true, false_and, and_false, or_false, false_or, or_true, true_or, not_true_eq_false, not_false_eq_true, implies_true, forall_const, zl_0, zl_1, zl_2, zl_3, zl_5, zl_63, zl_121] at p18); (try simp (disch := omega) only [zi_bm2, zi_bm] at p18)
    have p19 : AR (0) (524287) u_11_16 := p19
    exact zp_i ⟨p18, p13, p8, p19⟩
  · (try dsimp only at c14); (try simp only [zi_cl, Int32.lt_iff_toInt_lt, Int32.le_iff_toInt_le, ← Int32.toInt_inj, Int32.toInt_add, Int32.toInt_sub, Int32.toInt_mul, true_and, and_true, false_and, and_false, or_false, false_or, or_true, true_or, not_true_eq_false, not_false_eq_true, implies_true, forall_const, zl_0, zl_1, zl_2, zl_3, zl_5, zl_63, zl_121] at c14); (try simp (disch := omega) only [zi_bm2, zi_bm] at c14)
    refine zp_b2 (s_X5_emit (3 : Int32) u_1_1 u_7_11 u_3_3 u_4_4 p6 p13 p8 p9 (by (first | with_reducible assumption | omega | assumption | ((try dsimp only); (try simp only [zi_cl, Int32.lt_iff_toInt_lt, Int32.le_iff_toInt_le, ← Int32.toInt_inj, Int32.toInt_add, Int32.toInt_sub, Int32.toInt_mul, true_and, and_true, false_and, and_false, or_false, false_or, or_true, true_or, not_true_eq_false, not_false_eq_true, implies_true, forall_const, zl_0, zl_1, zl_2, zl_3, zl_5, zl_63, zl_121]) <;> first | omega | (simp (disch := omega) only [zi_bm2, zi_bm]; omega) | omega)))) (fun u_13_20 u_14_21 h22 => ?_)
    obtain ⟨p23, p24⟩ := h22
    (try dsimp only at p23); (try simp only [zi_cl, Int32.lt_iff_toInt_lt, Int32.le_iff_toInt_le, ← Int32.toInt_inj, Int32.toInt_add, Int32.toInt_sub, Int32.toInt_mul, true_and, and_true, false_and, and_false, or_false, false_or, or_true, true_or, not_true_eq_false, not_false_eq_true, implies_true, forall_const, zl_0, zl_1, zl_2, zl_3, zl_5, zl_63, zl_121] at p23); (try simp (disch := omega) only [zi_bm2, zi_bm] at p23)
    have p24 : AR (0) (524287) u_14_21 := p24
    refine zp_b4 (st_X5_readLevel (0 : Int32) (0 : Int32) tape_size tape_bytes u_13_20 u_7_11 u_3_3 u_14_21 k0 k1 p23 p13 p8 p24 (by (first | with_reducible assumption | omega | assumption | ((try dsimp only); (try simp only [zi_cl, Int32.lt_iff_toInt_lt, Int32.le_iff_toInt_le, ← Int32.toInt_inj, Int32.toInt_add, Int32.toInt_sub, Int32.toInt_mul, true_and, and_true, false_and, and_false, or_false, false_or, or_true, true_or, not_true_eq_false, not_false_eq_true, implies_true, forall_const, zl_0, zl_1, zl_2, zl_3, zl_5, zl_63, zl_121]) <;> first | omega | (simp (disch := omega) only [zi_bm2, zi_bm]; omega) | omega))) (by (first | with_reducible assumption | omega | assumption | ((try dsimp only); (try simp only [zi_cl, Int32.lt_iff_toInt_lt, Int32.le_iff_toInt_le, ← Int32.toInt_inj, Int32.toInt_add, Int32.toInt_sub, Int32.toInt_mul, true_and, and_true, false_and, and_false, or_false, false_or, or_true, true_or, not_true_eq_false, not_false_eq_true, implies_true, forall_const, zl_0, zl_1, zl_2, zl_3, zl_5, zl_63, zl_121]) <;> first | omega | (simp (disch := omega) only [zi_bm2, zi_bm]; omega) | omega))) (by (first | with_reducible assumption | omega | assumption | ((try dsimp only); (try simp only [zi_cl, Int32.lt_iff_toInt_lt, Int32.le_iff_toInt_le, ← Int32.toInt_inj, Int32.toInt_add, Int32.toInt_sub, Int32.toInt_mul, true_and, and_true, false_and, and_false, or_false, false_or, or_true, true_or, not_true_eq_false, not_false_eq_true, implies_true, forall_const, zl_0, zl_1, zl_2, zl_3, zl_5, zl_63, zl_121]) <;> first | omega | (simp (disch := omega) only [zi_bm2, zi_bm]; omega) | omega)))) (fun u_16_25 u_17_26 u_18_27 u_19_28 h29 => ?_)
    obtain ⟨p30, p31, p32, p33⟩ := h29
    (try dsimp only at p30); (try simp only [zi_cl, Int32.lt_iff_toInt_lt, Int32.le_iff_toInt_le, ← Int32.toInt_inj, Int32.toInt_add, Int32.toInt_sub, Int32.toInt_mul, true_and, and_true, false_and, and_false, or_false, false_or, or_true, true_or, not_true_eq_false, not_false_eq_true, implies_true, forall_const, zl_0, zl_1, zl_2, zl_3, zl_5, zl_63, zl_121] at p30); (try simp (disch := omega) only [zi_bm2, zi_bm] at p30)
    (try dsimp only at p31); (try simp only [zi_cl, Int32.lt_iff_toInt_lt, Int32.le_iff_toInt_le, ← Int32.toInt_inj, Int32.toInt_add, Int32.toInt_sub, Int32.toInt_mul, true_and, and_true, false_and, and_false, or_false, false_or, or_true, true_or, not_true_eq_false, not_false_eq_true, implies_true, forall_const, zl_0, zl_1, zl_2, zl_3, zl_5, zl_63, zl_121] at p31); (try simp (disch := omega) only [zi_bm2, zi_bm] at p31)
    (try dsimp only at p32); (try simp only [zi_cl, Int32.lt_iff_toInt_lt, Int32.le_iff_toInt_le, ← Int32.toInt_inj, Int32.toInt_add, Int32.toInt_sub, Int32.toInt_mul, true_and, and_true, false_and, and_false, or_false, false_or, or_true, true_or, not_true_eq_false, not_false_eq_true, implies_true, forall_const, zl_0, zl_1, zl_2, zl_3, zl_5, zl_63, zl_121] at p32); (try simp (disch := omega) only [zi_bm2, zi_bm] at p32)
    have p33 : AR (0) (524287) u_19_28 := p33
    refine zp_b2 (s_X5_emit (2 : Int32) u_16_25 u_17_26 u_18_27 u_19_28 p30 p31 p32 p33 (by (first | with_reducible assumption | omega | assumption | ((try dsimp only); (try simp only [zi_cl, Int32.lt_iff_toInt_lt, Int32.le_iff_toInt_le, ← Int32.toInt_inj, Int32.toInt_add, Int32.toInt_sub, Int32.toInt_mul, true_and, and_true, false_and, and_false, or_false, false_or, or_true, true_or, not_true_eq_false, not_false_eq_true, implies_true, forall_const, zl_0, zl_1, zl_2, zl_3, zl_5, zl_63, zl_121]) <;> first | omega | (simp (disch := omega) only [zi_bm2, zi_bm]; omega) | omega)))) (fun u_21_34 u_22_35 h36 => ?_)
    obtain ⟨p37, p38⟩ := h36
    (try dsimp only at p37); (try simp only [zi_cl, Int32.lt_iff_toInt_lt, Int32.le_iff_toInt_le, ← Int32.toInt_inj, Int32.toInt_add, Int32.toInt_sub, Int32.toInt_mul, true_and, and_true, false_and, and_false, or_false, false_or, or_true, true_or, not_true_eq_false, not_false_eq_true, implies_true, forall_const, zl_0, zl_1, zl_2, zl_3, zl_5, zl_63, zl_121] at p37); (try simp (disch := omega) only [zi_bm2, zi_bm] at p37)
    have p38 : AR (0) (524287) u_22_35 := p38
    refine zp_ite (fun c39 => ?_) (fun c39 => ?_)
    · (try dsimp only at c39); (try simp only [zi_cl, Int32.lt_iff_toInt_lt, Int32.le_iff_toInt_le, ← Int32.toInt_inj, Int32.toInt_add, Int32.toInt_sub, Int32.toInt_mul, true_and, and_true, false_and, and_false, or_false, false_or, or_true, true_or, not_true_eq_false, not_false_eq_true, implies_true, forall_const, zl_0, zl_1, zl_2, zl_3, zl_5, zl_63, zl_121] at c39); (try simp (disch := omega) only [zi_bm2, zi_bm] at c39)
      unfold B_X5_readLine_59
      exact zp_i ⟨p37, p31, p32, p38⟩
    · (try dsimp only at c39); (try simp only [zi_cl, Int32.lt_iff_toInt_lt, Int32.le_iff_toInt_le, ← Int32.toInt_inj, Int32.toInt_add, Int32.toInt_sub, Int32.toInt_mul, true_and, and_true, false_and, and_false, or_false, false_or, or_true, true_or, not_true_eq_false, not_false_eq_true, implies_true, forall_const, zl_0, zl_1, zl_2, zl_3, zl_5, zl_63, zl_121] at c39); (try simp (disch := omega) only [zi_bm2, zi_bm] at c39)
      have z41 := zb_tok (x := u_21_34) (t := (3 : Int32)) (by omega) (by decide)
      (try dsimp only at z41); (try simp only [zi_cl, Int32.lt_iff_toInt_lt, Int32.le_iff_toInt_le, ← Int32.toInt_inj, Int32.toInt_add, Int32.toInt_sub, Int32.toInt_mul, true_and, and_true, false_and, and_false, or_false, false_or, or_true, true_or, not_true_eq_false, not_false_eq_true, implies_true, forall_const, zl_0, zl_1, zl_2, zl_3, zl_5, zl_63, zl_121] at z41); (try simp (disch := omega) only [zi_bm2, zi_bm] at z41)
      refine zp_let (fun v_25_40 ev_25_40 => ?_)
      (try dsimp only at ev_25_40); (try simp only [zi_cl, Int32.lt_iff_toInt_lt, Int32.le_iff_toInt_le, ← Int32.toInt_inj, Int32.toInt_add, Int32.toInt_sub, Int32.toInt_mul, true_and, and_true, false_and, and_false, or_false, false_or, or_true, true_or, not_true_eq_false, not_false_eq_true, implies_true, forall_const, zl_0, zl_1, zl_2, zl_3, zl_5, zl_63, zl_121] at ev_25_40); (try simp (disch := omega) only [zi_bm2, zi_bm] at ev_25_40)
      refine zp_g (by first | ((try simp only [zi_cl, Int32.lt_iff_toInt_lt, Int32.le_iff_toInt_le, ← Int32.toInt_inj, Int32.toInt_add, Int32.toInt_sub, Int32.toInt_mul, true_and, and_true, false_and, and_false, or_false, false_or, or_true, true_or, not_true_eq_false, not_false_eq_true, zl_0, zl_1, zl_2, zl_3, zl_5, zl_63, zl_121]) <;> first | omega | (simp (disch := omega) only [zi_bm2, zi_bm]; omega) | assumption | omega) | (first | with_reducible assumption | omega | assumption | ((try dsimp only); (try simp only [zi_cl, Int32.lt_iff_toInt_lt, Int32.le_iff_toInt_le, ← Int32.toInt_inj, Int32.toInt_add, Int32.toInt_sub, Int32.toInt_mul, true_and, and_true, false_and, and_false, or_false, false_or, or_true, true_or, not_true_eq_false, not_false_eq_true, implies_true, forall_const, zl_0, zl_1, zl_2, zl_3, zl_5, zl_63, zl_121]) <;> first | omega | (simp (disch := omega) only [zi_bm2, zi_bm]; omega) | omega))) ?_
      have q43 := p38 (u_1_1.toNatClampNeg)
      (try dsimp only at q43); (try simp only [zi_cl, Int32.lt_iff_toInt_lt, Int32.le_iff_toInt_le, ← Int32.toInt_inj, Int32.toInt_add, Int32.toInt_sub, Int32.toInt_mul, true_and, and_true, false_and, and_false, or_false, false_or, or_true, true_or, not_true_eq_false, not_false_eq_true, implies_true, forall_const, zl_0, zl_1, zl_2, zl_3, zl_5, zl_63, zl_121] at q43); (try simp (disch := omega) only [zi_bm2, zi_bm] at q43)
      refine zp_letA (lo := 0) (hi := 524287) p38 (by (first | with_reducible assumption | omega | assumption | ((try dsimp only); (try simp only [zi_cl, Int32.lt_iff_toInt_lt, Int32.le_iff_toInt_le, ← Int32.toInt_inj, Int32.toInt_add, Int32.toInt_sub, Int32.toInt_mul, true_and, and_true, false_and, and_false, or_false, false_or, or_true, true_or, not_true_eq_false, not_false_eq_true, implies_true, forall_const, zl_0, zl_1, zl_2, zl_3, zl_5, zl_63, zl_121]) <;> first | omega | (simp (disch := omega) only [zi_bm2, zi_bm]; omega) | omega))) (fun f_27_42 hf_27_42 uf_27_42 => ?_)
      (try dsimp only at uf_27_42); (try simp only [zi_cl, Int32.lt_iff_toInt_lt, Int32.le_iff_toInt_le, ← Int32.toInt_inj, Int32.toInt_add, Int32.toInt_sub, Int32.toInt_mul, true_and, and_true, false_and, and_false, or_false, false_or, or_true, true_or, not_true_eq_false, not_false_eq_true, implies_true, forall_const, zl_0, zl_1, zl_2, zl_3, zl_5, zl_63, zl_121] at uf_27_42); (try simp (disch := omega) only [zi_bm2, zi_bm] at uf_27_42)
      unfold B_X5_readLine_59
      exact zp_i ⟨p37, p31, p32, hf_27_42⟩

theorem zg0_G_X5_read   (tape_size : Int32) (tape_bytes : Nat → Int32) (n : Nat) (y0 : Int32) (y1 : Int32) (y2 : Int32) (y3 : Int32) (y4 : (Nat → Int32)) : (G_X5_read tape_size tape_bytes (n + 1)) y0 y1 y2 y3 y4 = B_X5_read_21   (G_X5_read tape_size tape_bytes n) tape_size tape_bytes y0 y1 y2 y3 y4 := rfl
set_option maxHeartbeats 4000000 in
set_option maxRecDepth 20000 in
theorem l_X5_read  (tape_size : Int32) (tape_bytes : Nat → Int32) (h_tape_size : 0 ≤ tape_size.toInt ∧ tape_size.toInt ≤ 120) (h_tape_bytes : AR (0) (255) tape_bytes) : ∀ n : Nat, (∀ (x1 : Int32) (lr_size : Int32) (lr_at : Int32) (lr_fault : Int32) (lr_code : Nat → Int32), (0 ≤ lr_size.toInt ∧ lr_size.toInt ≤ 121) → (0 ≤ lr_at.toInt ∧ lr_at.toInt ≤ 120) → (-1 ≤ lr_fault.toInt ∧ lr_fault.toInt ≤ 120) → (AR (0) (524287) lr_code) → (0 ≤ x1.toInt ∧ x1.toInt ≤ 120) → (121 - x1.toInt).toNat < n → zp ((G_X5_read tape_size tape_bytes n) x1 lr_size lr_at lr_fault lr_code) (fun R => (0 ≤ R.2.1.toInt ∧ R.2.1.toInt ≤ 121) ∧ (0 ≤ R.2.2.1.toInt ∧ R.2.2.1.toInt ≤ 120) ∧ (-1 ≤ R.2.2.2.1.toInt ∧ R.2.2.2.1.toInt ≤ 120) ∧ (AR (0) (524287) R.2.2.2.2))) := by
  intro n
  induction n with
  | zero =>
    exact (fun x1 lr_size lr_at lr_fault lr_code _ _ _ _ _ hm => absurd hm (Nat.not_lt_zero _))
  | succ n ih =>
    refine ?_
    · intro x1 lr_size lr_at lr_fault lr_code k0 k1 k2 k3 k4 hm
      have rg_x1 := zi_rng x1
      (try dsimp only at k4); (try simp only [zi_cl, Int32.lt_iff_toInt_lt, Int32.le_iff_toInt_le, ← Int32.toInt_inj, Int32.toInt_add, Int32.toInt_sub, Int32.toInt_mul, true_and, and_true, false_and, and_false, or_false, false_or, or_true, true_or, not_true_eq_false, not_false_eq_true, implies_true, forall_const, zl_m1, zl_0, zl_1, zl_59, zl_120] at k4); (try simp (disch := omega) only [zi_bm2, zi_bm] at k4)
      rw [zg0_G_X5_read]
      unfold B_X5_read_21
      refine zp_ite (fun c1 => ?_) (fun c1 => ?_)
      · (try dsimp only at c1); (try simp only [zi_cl, Int32.lt_iff_toInt_lt, Int32.le_iff_toInt_le, ← Int32.toInt_inj, Int32.toInt_add, Int32.toInt_sub, Int32.toInt_mul, true_and, and_true, false_and, and_false, or_false, false_or, or_true, true_or, not_true_eq_false, not_false_eq_true, implies_true, forall_const, zl_m1, zl_0, zl_1, zl_59, zl_120] at c1); (try simp (disch := omega) only [zi_bm2, zi_bm] at c1)
        unfold B_X5_read_46
        refine zp_ite (fun c2 => ?_) (fun c2 => ?_)
        · (try dsimp only at c2); (try simp only [zi_cl, Int32.lt_iff_toInt_lt, Int32.le_iff_toInt_le, ← Int32.toInt_inj, Int32.toInt_add, Int32.toInt_sub, Int32.toInt_mul, true_and, and_true, false_and, and_false, or_false, false_or, or_true, true_or, not_true_eq_false, not_false_eq_true, implies_true, forall_const, zl_m1, zl_0, zl_1, zl_59, zl_120] at c2); (try simp (disch := omega) only [zi_bm2, zi_bm] at c2)
          unfold B_X5_read_64
          refine zp_ite (fun c3 => ?_) (fun c3 => ?_)
          · (try dsimp only at c3); (try simp only [zi_cl, Int32.lt_iff_toInt_lt, Int32.le_iff_toInt_le, ← Int32.toInt_inj, Int32.toInt_add, Int32.toInt_sub, Int32.toInt_mul, true_and, and_true, false_and, and_false, or_false, false_or, or_true, true_or, not_true_eq_false, not_false_eq_true, implies_true, forall_const, zl_m1, zl_0, zl_1, zl_59, zl_120] at c3); (try simp (disch := omega) only [zi_bm2, zi_bm] at c3)
            exact zp_i ⟨k0, k1, k2, k3⟩
          · (try dsimp only at c3); (try simp only [zi_cl, Int32.lt_iff_toInt_lt, Int32.le_iff_toInt_le, ← Int32.toInt_inj, Int32.toInt_add, Int32.toInt_sub, Int32.toInt_mul, true_and, and_true, false_and, and_false, or_false, false_or, or_true, true_or, not_true_eq_false, not_false_eq_true, implies_true, forall_const, zl_m1, zl_0, zl_1, zl_59, zl_120] at c3); (try simp (disch := omega) only [zi_bm2, zi_bm] at c3)
            refine zp_g (by first | ((try simp only [zi_cl, Int32.lt_iff_toInt_lt, Int32.le_iff_toInt_le, ← Int32.toInt_inj, Int32.toInt_add, Int32.toInt_sub, Int32.toInt_mul, true_and, and_true, false_and, and_false, or_false, false_or, or_true, true_or, not_true_eq_false, not_false_eq_true, zl_m1, zl_0, zl_1, zl_59, zl_120]) <;> first | omega | (simp (disch := omega) only [zi_bm2, zi_bm]; omega) | assumption | omega) | (first | with_reducible assumption | omega | assumption | ((try dsimp only); (try simp only [zi_cl, Int32.lt_iff_toInt_lt, Int32.le_iff_toInt_le, ← Int32.toInt_inj, Int32.toInt_add, Int32.toInt_sub, Int32.toInt_mul, true_and, and_true, false_and, and_false, or_false, false_or, or_true, true_or, not_true_eq_false, not_false_eq_true, implies_true, forall_const, zl_m1, zl_0, zl_1, zl_59, zl_120]) <;> first | omega | (simp (disch := omega) only [zi_bm2, zi_bm]; omega) | omega))) ?_
            exact zp_i ⟨k0, k1, k2, k3⟩
        · (try dsimp only at c2); (try simp only [zi_cl, Int32.lt_iff_toInt_lt, Int32.le_iff_toInt_le, ← Int32.toInt_inj, Int32.toInt_add, Int32.toInt_sub, Int32.toInt_mul, true_and, and_true, false_and, and_false, or_false, false_or, or_true, true_or, not_true_eq_false, not_false_eq_true, implies_true, forall_const, zl_m1, zl_0, zl_1, zl_59, zl_120] at c2); (try simp (disch := omega) only [zi_bm2, zi_bm] at c2)
          refine zp_b1 (s_X5_fail lr_size lr_at lr_fault k0 k1 k2) (fun u_18_4 h5 => ?_)
          have p6 := h5
          (try dsimp only at p6); (try simp only [zi_cl, Int32.lt_iff_toInt_lt, Int32.le_iff_toInt_le, ← Int32.toInt_inj, Int32.toInt_add, Int32.toInt_sub, Int32.toInt_mul, true_and, and_true, false_and, and_false, or_false, false_or, or_true, true_or, not_true_eq_false, not_false_eq_true, implies_true, forall_const, zl_m1, zl_0, zl_1, zl_59, zl_120] at p6); (try simp (disch := omega) only [zi_bm2, zi_bm] at p6)
          unfold B_X5_read_64
          refine zp_ite (fun c7 => ?_) (fun c7 => ?_)
          · (try dsimp only at c7); (try simp only [zi_cl, Int32.lt_iff_toInt_lt, Int32.le_iff_toInt_le, ← Int32.toInt_inj, Int32.toInt_add, Int32.toInt_sub, Int32.toInt_mul, true_and, and_true, false_and, and_false, or_false, false_or, or_true, true_or, not_true_eq_false, not_false_eq_true, implies_true, forall_const, zl_m1, zl_0, zl_1, zl_59, zl_120] at c7); (try simp (disch := omega) only [zi_bm2, zi_bm] at c7)
            exact zp_i ⟨k0, k1, p6, k3⟩
          · (try dsimp only at c7); (try simp only [zi_cl, Int32.lt_iff_toInt_lt, Int32.le_iff_toInt_le, ← Int32.toInt_inj, Int32.toInt_add, Int32.toInt_sub, Int32.toInt_mul, true_and, and_true, false_and, and_false, or_false, false_or, or_true, true_or, not_true_eq_false, not_false_eq_true, implies_true, forall_const, zl_m1, zl_0, zl_1, zl_59, zl_120] at c7); (try simp (disch := omega) only [zi_bm2, zi_bm] at c7)
            refine zp_g (by first | ((try simp only [zi_cl, Int32.lt_iff_toInt_lt, Int32.le_iff_toInt_le, ← Int32.toInt_inj, Int32.toInt_add, Int32.toInt_sub, Int32.toInt_mul, true_and, and_true, false_and, and_false, or_false, false_or, or_true, true_or, not_true_eq_false, not_false_eq_true, zl_m1, zl_0, zl_1, zl_59, zl_120]) <;> first | omega | (simp (disch := omega) only [zi_bm2, zi_bm]; omega) | assumption | omega) | (first | with_reducible assumption | omega | assumption | ((try dsimp only); (try simp only [zi_cl, Int32.lt_iff_toInt_lt, Int32.le_iff_toInt_le, ← Int32.toInt_inj, Int32.toInt_add, Int32.toInt_sub, Int32.toInt_mul, true_and, and_true, false_and, and_false, or_false, false_or, or_true, true_or, not_true_eq_false, not_false_eq_true, implies_true, forall_const, zl_m1, zl_0, zl_1, zl_59, zl_120]) <;> first | omega | (simp (disch := omega) only [zi_bm2, zi_bm]; omega) | omega))) ?_
            exact zp_i ⟨k0, k1, p6, k3⟩
      · (try dsimp only at c1); (try simp only [zi_cl, Int32.lt_iff_toInt_lt, Int32.le_iff_toInt_le, ← Int32.toInt_inj, Int32.toInt_add, Int32.toInt_sub, Int32.toInt_mul, true_and, and_true, false_and, and_false, or_false, false_or, or_true, true_or, not_true_eq_false, not_false_eq_true, implies_true, forall_const, zl_m1, zl_0, zl_1, zl_59, zl_120] at c1); (try simp (disch := omega) only [zi_bm2, zi_bm] at c1)
        refine zp_b2 (s_X5_accept (59 : Int32) tape_size tape_bytes lr_size lr_at lr_fault h_tape_size h_tape_bytes k0 k1 k2 (by (first | with_reducible assumption | omega | assumption | ((try dsimp only); (try simp only [zi_cl, Int32.lt_iff_toInt_lt, Int32.le_iff_toInt_le, ← Int32.toInt_inj, Int32.toInt_add, Int32.toInt_sub, Int32.toInt_mul, true_and, and_true, false_and, and_false, or_false, false_or, or_true, true_or, not_true_eq_false, not_false_eq_true, implies_true, forall_const, zl_m1, zl_0, zl_1, zl_59, zl_120]) <;> first | omega | (simp (disch := omega) only [zi_bm2, zi_bm]; omega) | omega)))) (fun r_7_8 u_8_9 h10 => ?_)
        have p11 := h10
        (try dsimp only at p11); (try simp only [zi_cl, Int32.lt_iff_toInt_lt, Int32.le_iff_toInt_le, ← Int32.toInt_inj, Int32.toInt_add, Int32.toInt_sub, Int32.toInt_mul, true_and, and_true, false_and, and_false, or_false, false_or, or_true, true_or, not_true_eq_false, not_false_eq_true, implies_true, forall_const, zl_m1, zl_0, zl_1, zl_59, zl_120] at p11); (try simp (disch := omega) only [zi_bm2, zi_bm] at p11)
        refine zp_ite (fun c12 => ?_) (fun c12 => ?_)
        · (try dsimp only at c12); (try simp only [zi_cl, Int32.lt_iff_toInt_lt, Int32.le_iff_toInt_le, ← Int32.toInt_inj, Int32.toInt_add, Int32.toInt_sub, Int32.toInt_mul, true_and, and_true, false_and, and_false, or_false, false_or, or_true, true_or, not_true_eq_false, not_false_eq_true, implies_true, forall_const, zl_m1, zl_0, zl_1, zl_59, zl_120] at c12); (try simp (disch := omega) only [zi_bm2, zi_bm] at c12)
          unfold B_X5_read_46
          refine zp_ite (fun c13 => ?_) (fun c13 => ?_)
          · (try dsimp only at c13); (try simp only [zi_cl, Int32.lt_iff_toInt_lt, Int32.le_iff_toInt_le, ← Int32.toInt_inj, Int32.toInt_add, Int32.toInt_sub, Int32.toInt_mul, true_and, and_true, false_and, and_false, or_false, false_or, or_true, true_or, not_true_eq_false, not_false_eq_true, implies_true, forall_const, zl_m1, zl_0, zl_1, zl_59, zl_120] at c13); (try simp (disch := omega) only [zi_bm2, zi_bm] at c13)
            unfold B_X5_read_64
            refine zp_ite (fun c14 => ?_) (fun c14 => ?_)
            · (try dsimp only at c14); (try simp only [zi_cl, Int32.lt_iff_toInt_lt, Int32.le_iff_toInt_le, ← Int32.toInt_inj, Int32.toInt_add, Int32.toInt_sub, Int32.toInt_mul, true_and, and_true, false_and, and_false, or_false, false_or, or_true, true_or, not_true_eq_false, not_false_eq_true, implies_true, forall_const, zl_m1, zl_0, zl_1, zl_59, zl_120] at c14); (try simp (disch := omega) only [zi_bm2, zi_bm] at c14)
              exact zp_i ⟨k0, p11, k2, k3⟩
            · (try dsimp only at c14); (try simp only [zi_cl, Int32.lt_iff_toInt_lt, Int32.le_iff_toInt_le, ← Int32.toInt_inj, Int32.toInt_add, Int32.toInt_sub, Int32.toInt_mul, true_and, and_true, false_and, and_false, or_false, false_or, or_true, true_or, not_true_eq_false, not_false_eq_true, implies_true, forall_const, zl_m1, zl_0, zl_1, zl_59, zl_120] at c14); (try simp (disch := omega) only [zi_bm2, zi_bm] at c14)
              refine zp_g (by first | ((try simp only [zi_cl, Int32.lt_iff_toInt_lt, Int32.le_iff_toInt_le, ← Int32.toInt_inj, Int32.toInt_add, Int32.toInt_sub, Int32.toInt_mul, true_and, and_true, false_and, and_false, or_false, false_or, or_true, true_or, not_true_eq_false, not_false_eq_true, zl_m1, zl_0, zl_1, zl_59, zl_120]) <;> first | omega | (simp (disch := omega) only [zi_bm2, zi_bm]; omega) | assumption | omega) | (first | with_reducible assumption | omega | assumption | ((try dsimp only); (try simp only [zi_cl, Int32.lt_iff_toInt_lt, Int32.le_iff_toInt_le, ← Int32.toInt_inj, Int32.toInt_add, Int32.toInt_sub, Int32.toInt_mul, true_and, and_true, false_and, and_false, or_false, false_or, or_true, true_or, not_true_eq_false, not_false_eq_true, implies_true, forall_const, zl_m1, zl_0, zl_1, zl_59, zl_120]) <;> first | omega | (simp (disch := omega) only [zi_bm2, zi_bm]; omega) | omega))) ?_
              exact zp_i ⟨k0, p11, k2, k3⟩
          · (try dsimp only at c13); (try simp only [zi_cl, Int32.lt_iff_toInt_lt, Int32.le_iff_toInt_le, ← Int32.toInt_inj, Int32.toInt_add, Int32.toInt_sub, Int32.toInt_mul, true_and, and_true, false_and, and_false, or_false, false_or, or_true, true_or, not_true_eq_false, not_false_eq_true, implies_true, forall_const, zl_m1, zl_0, zl_1, zl_59, zl_120] at c13); (try simp (disch := omega) only [zi_bm2, zi_bm] at c13)
            refine zp_b1 (s_X5_fail lr_size u_8_9 lr_fault k0 p11 k2) (fun u_18_15 h16 => ?_)
            have p17 := h16
            (try dsimp only at p17); (try simp only [zi_cl, Int32.lt_iff_toInt_lt, Int32.le_iff_toInt_le, ← Int32.toInt_inj, Int32.toInt_add, Int32.toInt_sub, Int32.toInt_mul, true_and, and_true, false_and, and_false, or_false, false_or, or_true, true_or, not_true_eq_false, not_false_eq_true, implies_true, forall_const, zl_m1, zl_0, zl_1, zl_59, zl_120] at p17); (try simp (disch := omega) only [zi_bm2, zi_bm] at p17)
            unfold B_X5_read_64
            refine zp_ite (fun c18 => ?_) (fun c18 => ?_)
            · (try dsimp only at c18); (try simp only [zi_cl, Int32.lt_iff_toInt_lt, Int32.le_iff_toInt_le, ← Int32.toInt_inj, Int32.toInt_add, Int32.toInt_sub, Int32.toInt_mul, true_and, and_true, false_and, and_false, or_false, false_or, or_true, true_or, not_true_eq_false, not_false_eq_true, implies_true, forall_const, zl_m1, zl_0, zl_1, zl_59, zl_120] at c18); (try simp (disch := omega) only [zi_bm2, zi_bm] at c18)
              exact zp_i ⟨k0, p11, p17, k3⟩
            · (try dsimp only at c18); (try simp only [zi_cl, Int32.lt_iff_toInt_lt, Int32.le_iff_toInt_le, ← Int32.toInt_inj, Int32.toInt_add, Int32.toInt_sub, Int32.toInt_mul, true_and, and_true, false_and, and_false, or_false, false_or, or_true, true_or, not_true_eq_false, not_false_eq_true, implies_true, forall_const, zl_m1, zl_0, zl_1, zl_59, zl_120] at c18); (try simp (disch := omega) only [zi_bm2, zi_bm] at c18)
              refine zp_g (by first | ((try simp only [zi_cl, Int32.lt_iff_toInt_lt, Int32.le_iff_toInt_le, ← Int32.toInt_inj, Int32.toInt_add, Int32.toInt_sub, Int32.toInt_mul, true_and, and_true, false_and, and_false, or_false, false_or, or_true, true_or, not_true_eq_false, not_false_eq_true, zl_m1, zl_0, zl_1, zl_59, zl_120]) <;> first | omega | (simp (disch := omega) only [zi_bm2, zi_bm]; omega) | assumption | omega) | (first | with_reducible assumption | omega | assumption | ((try dsimp only); (try simp only [zi_cl, Int32.lt_iff_toInt_lt, Int32.le_iff_toInt_le, ← Int32.toInt_inj, Int32.toInt_add, Int32.toInt_sub, Int32.toInt_mul, true_and, and_true, false_and, and_false, or_false, false_or, or_true, true_or, not_true_eq_false, not_false_eq_true, implies_true, forall_const, zl_m1, zl_0, zl_1, zl_59, zl_120]) <;> first | omega | (simp (disch := omega) only [zi_bm2, zi_bm]; omega) | omega))) ?_
              exact zp_i ⟨k0, p11, p17, k3⟩
        · (try dsimp only at c12); (try simp only [zi_cl, Int32.lt_iff_toInt_lt, Int32.le_iff_toInt_le, ← Int32.toInt_inj, Int32.toInt_add, Int32.toInt_sub, Int32.toInt_mul, true_and, and_true, false_and, and_false, or_false, false_or, or_true, true_or, not_true_eq_false, not_false_eq_true, implies_true, forall_const, zl_m1, zl_0, zl_1, zl_59, zl_120] at c12); (try simp (disch := omega) only [zi_bm2, zi_bm] at c12)
          refine zp_b4 (s_X5_readLine tape_size tape_bytes lr_size u_8_9 lr_fault lr_code h_tape_size h_tape_bytes k0 p11 k2 k3) (fun u_11_19 u_12_20 u_13_21 u_14_22 h23 => ?_)
          obtain ⟨p24, p25, p26, p27⟩ := h23
          (try dsimp only at p24); (try simp only [zi_cl, Int32.lt_iff_toInt_lt, Int32.le_iff_toInt_le, ← Int32.toInt_inj, Int32.toInt_add, Int32.toInt_sub, Int32.toInt_mul, true_and, and_true, false_and, and_false, or_false, false_or, or_true, true_or, not_true_eq_false, not_false_eq_true, implies_true, forall_const, zl_m1, zl_0, zl_1, zl_59, zl_120] at p24); (try simp (disch := omega) only [zi_bm2, zi_bm] at p24)
          (try dsimp only at p25); (try simp only [zi_cl, Int32.lt_iff_toInt_lt, Int32.le_iff_toInt_le, ← Int32.toInt_inj, Int32.toInt_add, Int32.toInt_sub, Int32.toInt_mul, true_and, and_true, false_and, and_false, or_false, false_or, or_true, true_or, not_true_eq_false, not_false_eq_true, implies_true, forall_const, zl_m1, zl_0, zl_1, zl_59, zl_120] at p25); (try simp (disch := omega) only [zi_bm2, zi_bm] at p25)
          (try dsimp only at p26); (try simp only [zi_cl, Int32.lt_iff_toInt_lt, Int32.le_iff_toInt_le, ← Int32.toInt_inj, Int32.toInt_add, Int32.toInt_sub, Int32.toInt_mul, true_and, and_true, false_and, and_false, or_false, false_or, or_true, true_or, not_true_eq_false, not_false_eq_true, implies_true, forall_const, zl_m1, zl_0, zl_1, zl_59, zl_120] at p26); (try simp (disch := omega) only [zi_bm2, zi_bm] at p26)
          have p27 : AR (0) (524287) u_14_22 := p27
          refine zp_let (fun v_16_28 ev_16_28 => ?_)
          (try dsimp only at ev_16_28); (try simp only [zi_cl, Int32.lt_iff_toInt_lt, Int32.le_iff_toInt_le, ← Int32.toInt_inj, Int32.toInt_add, Int32.toInt_sub, Int32.toInt_mul, true_and, and_true, false_and, and_false, or_false, false_or, or_true, true_or, not_true_eq_false, not_false_eq_true, implies_true, forall_const, zl_m1, zl_0, zl_1, zl_59, zl_120] at ev_16_28); (try simp (disch := omega) only [zi_bm2, zi_bm] at ev_16_28)
          exact ih v_16_28 u_11_19 u_12_20 u_13_21 u_14_22 p24 p25 p26 p27 (by (first | with_reducible assumption | omega | assumption | ((try dsimp only); (try simp only [zi_cl, Int32.lt_iff_toInt_lt, Int32.le_iff_toInt_le, ← Int32.toInt_inj, Int32.toInt_add, Int32.toInt_sub, Int32.toInt_mul, true_and, and_true, false_and, and_false, or_false, false_or, or_true, true_or, not_true_eq_false, not_false_eq_true, implies_true, forall_const, zl_m1, zl_0, zl_1, zl_59, zl_120]) <;> first | omega | (simp (disch := omega) only [zi_bm2, zi_bm]; omega) | omega))) (by (first | with_reducible assumption | omega | assumption | ((try dsimp only); (try simp only [zi_cl, Int32.lt_iff_toInt_lt, Int32.le_iff_toInt_le, ← Int32.toInt_inj, Int32.toInt_add, Int32.toInt_sub, Int32.toInt_mul, true_and, and_true, false_and, and_false, or_false, false_or, or_true, true_or, not_true_eq_false, not_false_eq_true, implies_true, forall_const, zl_m1, zl_0, zl_1, zl_59, zl_120]) <;> first | omega | (simp (disch := omega) only [zi_bm2, zi_bm]; omega) | omega)))
set_option maxHeartbeats 4000000 in
set_option maxRecDepth 20000 in
theorem s_X5_read  (tape_size : Int32) (tape_bytes : Nat → Int32) (lr_size : Int32) (lr_at : Int32) (lr_fault : Int32) (lr_code : Nat → Int32) (k0 : 0 ≤ tape_size.toInt ∧ tape_size.toInt ≤ 120) (k1 : AR (0) (255) tape_bytes) (k2 : 0 ≤ lr_size.toInt ∧ lr_size.toInt ≤ 121) (k3 : 0 ≤ lr_at.toInt ∧ lr_at.toInt ≤ 120) (k4 : -1 ≤ lr_fault.toInt ∧ lr_fault.toInt ≤ 120) (k5 : AR (0) (524287) lr_code) : zp (f_X5_read 100000 tape_size tape_bytes lr_size lr_at lr_fault lr_code) (fun R => (0 ≤ R.2.1.toInt ∧ R.2.1.toInt ≤ 121) ∧ (0 ≤ R.2.2.1.toInt ∧ R.2.2.1.toInt ≤ 120) ∧ (-1 ≤ R.2.2.2.1.toInt ∧ R.2.2.2.1.toInt ≤ 120) ∧ (AR (0) (524287) R.2.2.2.2)) := by
  unfold f_X5_read
  unfold B_X5_read_0
  refine zp_b4 (s_X5_readLine tape_size tape_bytes (0 : Int32) (0 : Int32) (-1 : Int32) lr_code k0 k1 (by (first | with_reducible assumption | omega | assumption | ((try dsimp only); (try simp only [zi_cl, Int32.lt_iff_toInt_lt, Int32.le_iff_toInt_le, ← Int32.toInt_inj, Int32.toInt_add, Int32.toInt_sub, Int32.toInt_mul, true_and, and_true, false_and, and_false, or_false, false_or, or_true, true_or, not_true_eq_false, not_false_eq_true, implies_true, forall_const, zl_m1, zl_0, zl_1, zl_59, zl_120]) <;> first | omega | (simp (disch := omega) only [zi_bm2, zi_bm]; omega) | omega))) (by (first | with_reducible assumption | omega | assumption | ((try dsimp only); (try simp only [zi_cl, Int32.lt_iff_toInt_lt, Int32.le_iff_toInt_le, ← Int32.toInt_inj, Int32.toInt_add, Int32.toInt_sub, Int32.toInt_mul, true_and, and_true, false_and, and_false, or_false, false_or, or_true, true_or, not_true_eq_false, not_false_eq_true, implies_true, forall_const, zl_m1, zl_0, zl_1, zl_59, zl_120]) <;> first | omega | (simp (disch := omega) only [zi_bm2, zi_bm]; omega) | omega))) (by (first | with_reducible assumption | omega | assumption | ((try dsimp only); (try simp only [zi_cl, Int32.lt_iff_toInt_lt, Int32.le_iff_toInt_le, ← Int32.toInt_inj, Int32.toInt_add, Int32.toInt_sub, Int32.toInt_mul, true_and, and_true, false_and, and_false, or_false, false_or, or_true, true_or, not_true_eq_false, not_false_eq_true, implies_true, forall_const, zl_m1, zl_0, zl_1, zl_59, zl_120]) <;> first | omega | (simp (disch := omega) only [zi_bm2, zi_bm]; omega) | omega))) k5) (fun u_1_1 u_2_2 u_3_3 u_4_4 h5 => ?_)
  obtain ⟨p6, p7, p8, p9⟩ := h5
  (try dsimp only at p6); (try simp only [zi_cl, Int32.lt_iff_toInt_lt, Int32.le_iff_toInt_le, ← Int32.toInt_inj, Int32.toInt_add, Int32.toInt_sub, Int32.toInt_mul, true_and, and_true, false_and, and_false, or_false, false_or, or_true, true_or, not_true_eq_false, not_false_eq_true, implies_true, forall_const, zl_m1, zl_0, zl_1, zl_59, zl_120] at p6); (try simp (disch := omega) only [zi_bm2, zi_bm] at p6)
  (try dsimp only at p7); (try simp only [zi_cl, Int32.lt_iff_toInt_lt, Int32.le_iff_toInt_le, ← Int32.toInt_inj, Int32.toInt_add, Int32.toInt_sub, Int32.toInt_mul, true_and, and_true, false_and, and_false, or_false, false_or, or_true, true_or, not_true_eq_false, not_false_eq_true, implies_true, forall_const, zl_m1, zl_0, zl_1, zl_59, zl_120] at p7); (try simp (disch := omega) only [zi_bm2, zi_bm] at p7)
  (try dsimp only at p8); (try simp only [zi_cl, Int32.lt_iff_toInt_lt, Int32.le_iff_toInt_le, ← Int32.toInt_inj, Int32.toInt_add, Int32.toInt_sub, Int32.toInt_mul, true_and, and_true, false_and, and_false, or_false, false_or, or_true, true_or, not_true_eq_false, not_false_eq_true, implies_true, forall_const, zl_m1, zl_0, zl_1, zl_59, zl_120] at p8); (try simp (disch := omega) only [zi_bm2, zi_bm] at p8)
  have p9 : AR (0) (524287) u_4_4 := p9
  exact (l_X5_read  tape_size tape_bytes k0 k1 100000) (0 : Int32) u_1_1 u_2_2 u_3_3 u_4_4 p6 p7 p8 p9 (by (first | with_reducible assumption | omega | assumption | ((try dsimp only); (try simp only [zi_cl, Int32.lt_iff_toInt_lt, Int32.le_iff_toInt_le, ← Int32.toInt_inj, Int32.toInt_add, Int32.toInt_sub, Int32.toInt_mul, true_and, and_true, false_and, and_false, or_false, false_or, or_true, true_or, not_true_eq_false, not_false_eq_true, implies_true, forall_const, zl_m1, zl_0, zl_1, zl_59, zl_120]) <;> first | omega | (simp (disch := omega) only [zi_bm2, zi_bm]; omega) | omega))) (by (first | with_reducible assumption | omega | assumption | ((try dsimp only); (try simp only [zi_cl, Int32.lt_iff_toInt_lt, Int32.le_iff_toInt_le, ← Int32.toInt_inj, Int32.toInt_add, Int32.toInt_sub, Int32.toInt_mul, true_and, and_true, false_and, and_false, or_false, false_or, or_true, true_or, not_true_eq_false, not_false_eq_true, implies_true, forall_const, zl_m1, zl_0, zl_1, zl_59, zl_120]) <;> first | omega | (simp (disch := omega) only [zi_bm2, zi_bm]; omega) | omega)))
theorem kw_146 : Cond.fieldLink RX11 94 "AlreadyJudged$Court" "laws" "[LAlreadyJudged$Law;" ∈ zW := zwC (i := 72) zc_1 rfl rfl
theorem kw_279 : Cond.fieldLink RX11 234 "AlreadyJudged$LawReader" "fault" "I" ∈ zW := zwC (i := 205) zc_1 rfl rfl
theorem kw_537 : Cond.methodLink RX11 90 yX5_read ∈ zW := zwC (i := 223) zc_2 rfl rfl
theorem kw_538 : Cond.instanceMethod yX5_read ∈ zW := zwC (i := 224) zc_2 rfl rfl
theorem kw_539 : Cond.selects RX5 yX5_read yX5_read ∈ zW := zwC (i := 225) zc_2 rfl rfl
theorem kw_540 : Cond.code yX5_read cX5_read 2 (some (.object "AlreadyJudged$Law")) ∈ zW := zwC (i := 226) zc_2 rfl rfl
theorem kw_700 : Cond.fieldLink RX11 44 "AlreadyJudged" "lawReader" "LAlreadyJudged$LawReader;" ∈ zW := zwC (i := 146) zc_3 rfl rfl
theorem zh_cX11_law_0 : zck [27, 155, 0, 20, 27, 16, 10, 108, 7, 162, 0, 12, 27, 16, 10, 112, 16, 8, 161, 0, 5, 2] (zdu 0 cX11_law.data.toList) = true := by decide +kernel
theorem dX11_law_0 : decode cX11_law 0 = .ok (.iload_n 1, 1) := zo_27 zh_cX11_law_0 0 rfl
theorem dX11_law_1 : decode cX11_law 1 = .ok (.ifCond .lt 20, 3) := zo_p155 zh_cX11_law_0 1 20 rfl rfl
theorem dX11_law_4 : decode cX11_law 4 = .ok (.iload_n 1, 1) := zo_27 zh_cX11_law_0 4 rfl
theorem dX11_law_5 : decode cX11_law 5 = .ok (.bipush 10, 2) := zo_p16 zh_cX11_law_0 5 10 rfl rfl
theorem dX11_law_7 : decode cX11_law 7 = .ok (.idiv, 1) := zo_108 zh_cX11_law_0 7 rfl
theorem dX11_law_8 : decode cX11_law 8 = .ok (.iconst 4, 1) := zo_7 zh_cX11_law_0 8 rfl
theorem dX11_law_9 : decode cX11_law 9 = .ok (.if_icmp .ge 12, 3) := zo_p162 zh_cX11_law_0 9 12 rfl rfl
theorem dX11_law_12 : decode cX11_law 12 = .ok (.iload_n 1, 1) := zo_27 zh_cX11_law_0 12 rfl
theorem dX11_law_13 : decode cX11_law 13 = .ok (.bipush 10, 2) := zo_p16 zh_cX11_law_0 13 10 rfl rfl
theorem dX11_law_15 : decode cX11_law 15 = .ok (.irem, 1) := zo_112 zh_cX11_law_0 15 rfl
theorem dX11_law_16 : decode cX11_law 16 = .ok (.bipush 8, 2) := zo_p16 zh_cX11_law_0 16 8 rfl rfl
theorem dX11_law_18 : decode cX11_law 18 = .ok (.if_icmp .lt 5, 3) := zo_p161 zh_cX11_law_0 18 5 rfl rfl
theorem zh_cX11_law_1 : zck [5, 2, 172, 42, 180, 0, 44, 182, 0, 90, 77, 42, 180, 0, 28, 3, 181, 0, 98, 44, 199, 0] (zdu 20 cX11_law.data.toList) = true := by decide +kernel
theorem dX11_law_21 : decode cX11_law 21 = .ok (.iconst (-1), 1) := zo_2 zh_cX11_law_1 1 rfl
theorem dX11_law_22 : decode cX11_law 22 = .ok (.ireturn, 1) := zo_172 zh_cX11_law_1 2 rfl
theorem dX11_law_23 : decode cX11_law 23 = .ok (.aload_n 0, 1) := zo_42 zh_cX11_law_1 3 rfl
theorem dX11_law_24 : decode cX11_law 24 = .ok (.getfield 44, 3) := zo_180 zh_cX11_law_1 4 rfl
theorem dX11_law_27 : decode cX11_law 27 = .ok (.invokevirtual 90, 3) := zo_182 zh_cX11_law_1 7 rfl
theorem dX11_law_30 : decode cX11_law 30 = .ok (.astore_n 2, 1) := zo_77 zh_cX11_law_1 10 rfl
theorem dX11_law_31 : decode cX11_law 31 = .ok (.aload_n 0, 1) := zo_42 zh_cX11_law_1 11 rfl
theorem dX11_law_32 : decode cX11_law 32 = .ok (.getfield 28, 3) := zo_180 zh_cX11_law_1 12 rfl
theorem dX11_law_35 : decode cX11_law 35 = .ok (.iconst 0, 1) := zo_3 zh_cX11_law_1 15 rfl
theorem dX11_law_36 : decode cX11_law 36 = .ok (.putfield 98, 3) := zo_181 zh_cX11_law_1 16 rfl
theorem dX11_law_39 : decode cX11_law 39 = .ok (.aload_n 2, 1) := zo_44 zh_cX11_law_1 19 rfl
theorem zh_cX11_law_2 : zck [199, 0, 14, 16, 156, 42, 180, 0, 44, 180, 0, 234, 100, 172, 42, 180, 0, 10, 180, 0, 94, 27] (zdu 40 cX11_law.data.toList) = true := by decide +kernel
theorem dX11_law_40 : decode cX11_law 40 = .ok (.ifnonnull 14, 3) := zo_p199 zh_cX11_law_2 0 14 rfl rfl
theorem dX11_law_43 : decode cX11_law 43 = .ok (.bipush (-100), 2) := zo_n16 zh_cX11_law_2 3 99 rfl rfl
theorem dX11_law_45 : decode cX11_law 45 = .ok (.aload_n 0, 1) := zo_42 zh_cX11_law_2 5 rfl
theorem dX11_law_46 : decode cX11_law 46 = .ok (.getfield 44, 3) := zo_180 zh_cX11_law_2 6 rfl
theorem dX11_law_49 : decode cX11_law 49 = .ok (.getfield 234, 3) := zo_180 zh_cX11_law_2 9 rfl
theorem dX11_law_52 : decode cX11_law 52 = .ok (.isub, 1) := zo_100 zh_cX11_law_2 12 rfl
theorem dX11_law_53 : decode cX11_law 53 = .ok (.ireturn, 1) := zo_172 zh_cX11_law_2 13 rfl
theorem dX11_law_54 : decode cX11_law 54 = .ok (.aload_n 0, 1) := zo_42 zh_cX11_law_2 14 rfl
theorem dX11_law_55 : decode cX11_law 55 = .ok (.getfield 10, 3) := zo_180 zh_cX11_law_2 15 rfl
theorem dX11_law_58 : decode cX11_law 58 = .ok (.getfield 94, 3) := zo_180 zh_cX11_law_2 18 rfl
theorem zh_cX11_law_3 : zck [94, 27, 16, 10, 108, 16, 8, 104, 27, 16, 10, 112, 96, 44, 83, 4, 172] (zdu 60 cX11_law.data.toList) = true := by decide +kernel
theorem dX11_law_61 : decode cX11_law 61 = .ok (.iload_n 1, 1) := zo_27 zh_cX11_law_3 1 rfl
theorem dX11_law_62 : decode cX11_law 62 = .ok (.bipush 10, 2) := zo_p16 zh_cX11_law_3 2 10 rfl rfl
theorem dX11_law_64 : decode cX11_law 64 = .ok (.idiv, 1) := zo_108 zh_cX11_law_3 4 rfl
theorem dX11_law_65 : decode cX11_law 65 = .ok (.bipush 8, 2) := zo_p16 zh_cX11_law_3 5 8 rfl rfl
theorem dX11_law_67 : decode cX11_law 67 = .ok (.imul, 1) := zo_104 zh_cX11_law_3 7 rfl
theorem dX11_law_68 : decode cX11_law 68 = .ok (.iload_n 1, 1) := zo_27 zh_cX11_law_3 8 rfl
theorem dX11_law_69 : decode cX11_law 69 = .ok (.bipush 10, 2) := zo_p16 zh_cX11_law_3 9 10 rfl rfl
theorem dX11_law_71 : decode cX11_law 71 = .ok (.irem, 1) := zo_112 zh_cX11_law_3 11 rfl
theorem dX11_law_72 : decode cX11_law 72 = .ok (.iadd, 1) := zo_96 zh_cX11_law_3 12 rfl
theorem dX11_law_73 : decode cX11_law 73 = .ok (.aload_n 2, 1) := zo_44 zh_cX11_law_3 13 rfl
theorem zo_83 {c : ByteArray} {s : Nat} {K : List Nat} (h : zck K (zdu s c.data.toList) = true) (k : Nat) (hk : zt1 K k 83 = true) : decode c (s + k) = .ok (.aastore, 1) := zde ((zbd (zu1 (zh1 h hk))).trans rfl)
theorem dX11_law_74 : decode cX11_law 74 = .ok (.aastore, 1) := zo_83 zh_cX11_law_3 14 rfl
theorem dX11_law_75 : decode cX11_law 75 = .ok (.iconst 1, 1) := zo_4 zh_cX11_law_3 15 rfl
theorem dX11_law_76 : decode cX11_law 76 = .ok (.ireturn, 1) := zo_172 zh_cX11_law_3 16 rfl
abbrev wLw (ad : Nat → Nat) (cs : Nat → ClassId) (z : ZT) : va_W := [((ad 0), .inr (11, [.ref (ad 4), .ref (ad 15), .ref (ad 23), .ref (ad 25), .ref (ad 26), .ref (ad 28), .ref (ad 34), .ref (ad 39), .ref (ad 1), .ref (ad 2), .ref (ad 3)])), ((ad 4), .inr (2, [.ref (ad 5), .ref (ad 6), .ref (ad 7), .ref (ad 8), .ref (ad 9), .ref (ad 10), .ref (ad 11), .ref (ad 12), .ref (ad 13), .ref (ad 14), .int (z.1 0), .int (z.1 1), .int (z.1 2)])), ((ad 14), .inl (cs 6, 32, .inr (.inr (.inr (.inr (z.2.2.2.1 1)))))), ((ad 23), .inr (9, [.ref (ad 24), .int (z.1 6)])), ((ad 24), .inl (cs 0, 120, .inl (z.2.1 15))), ((ad 26), .inr (5, [.ref (ad 23), .ref (ad 27), .int (z.1 10), .int (z.1 11), .int (z.1 12)])), ((ad 27), .inl (cs 0, 121, .inl (z.2.1 16)))]
abbrev z_X11_law : List Cond := .code yX11_law cX11_law 3 (some .int) :: zW
abbrev rm_X11_law : Room := { frames := 303, cells := 2, slots := 122, locals := 6846 }
theorem g_law_read : GoodIn zW (wsV RX11 90 RX5 yX5_read z_X5_read) := zGV kw_537 kw_538 kw_539 kw_80 kw_540
set_option maxHeartbeats 4000000 in
set_option maxRecDepth 100000 in
theorem c_X11_lawB (l : Launch) (D : va_G) (cs : Nat → ClassId) (k : (Nat → Nat) × (Nat → Nat)) (sz : Nat) (ad : Nat → Nat) (z : ZT) (x1 : Int32) (hbad : (x1 < 0 ∨ 4 ≤ x1 / (10 : Int32) ∨ ¬ (x1 - x1 / (10 : Int32) * (10 : Int32) < 8))) : Met l yX11_law z_X11_law rm_X11_law (va_Pc [.ref (ad 0), .int x1] (zPreE k D cs (wLw ad cs z) sz)) (va_Qi (fun (r : Int32) (_ : Unit) => r = (-1 : Int32)) (fun (u : Unit) (t : State) => va_P D classes (wLw ad cs z) t.heap ∧ va_D (va_A (wLw ad cs z) sz) (wLw ad cs z)) (va_A (wLw ad cs z) sz)) 2 122 (va_A (wLw ad cs z) sz) := by
  refine Met.ofW (cc := cX11_law) (maxL := 3) (ret := (some .int)) (by decide) rfl ?_
  intro p e s m args below meth c s₁ B hml hv
  obtain ⟨rfl, ⟨⟨hsz, hP, hK, hD0⟩, hO⟩, hE⟩ := hv
  subst hsz
  have hD := hD0.self (sz := s.heap.size)
  have C0 : zC p s m _ meth c cX11_law 3 (some .int) RX11 zW := ⟨B.exec, B.bytes, B.returns, hml, findClass_of_methodNamed B.named, fun w hw => atoms_spec (ws := z_X11_law) B.pre w (List.mem_cons_of_mem _ hw), B.notSynchronized⟩
  obtain ⟨hx, hb, hr, hml, hown, ht, hlocks⟩ := id C0
  generalize hAe : va_A (wLw ad cs z) s.heap.size = A at hD hE ⊢
  have hA : ∀ q : Nat, s.heap.size ≤ q → A q := fun q h => by rw [← hAe]; exact Or.inr h
  have hS : va_S A s.heap s.heap [] := va_S.rf
  have hl := lv_entry ([.ref (ad 0), .int x1]) (n := 3) (Nat.le_of_ble_eq_true rfl)
  rw [lg_entry_eq]
  generalize (lg_sl ([.ref (ad 0), .int x1]) ++ List.replicate (3 - (lg_sl ([.ref (ad 0), .int x1])).length) Slot.unset).toArray = ls at hl ⊢
  obtain ⟨H, hH⟩ : ∃ H, H = s.heap := ⟨_, rfl⟩
  have hS : va_S A s.heap H [] := by rw [hH]; exact va_S.rf
  rw [← hH]
  have hP : va_P D classes (wLw ad cs z) H := by rw [hH]; exact hP
  clear hH
  have hl : lv_has ls 3 [(0, .ref (ad 0)), (1, .int x1)] := hl
  refine lv_iload_n hx hb dX11_law_0 rfl (lv_at hl 1 rfl) ?_
  refine lv_if_lt (tgt := 21) hx hb dX11_law_1 (by decide) (fun c1 => ?_) (fun c1 => ?_)
  · refine lv_iconst (v := (-1 : Int32)) hx hb dX11_law_21 (by decide) ?_
    refine W.widen (k := 2) (n := 122) (Nat.le_of_ble_eq_true rfl) (Nat.le_of_ble_eq_true rfl) ?_
    exact W.iret (v := (-1 : Int32)) hx hb hr (fun t ht2 hW => ⟨⟨(-1 : Int32), (), rfl, rfl, by rw [ht2]; exact hP, hD⟩, hS.F ht2⟩) hS.2.2 dX11_law_22 hlocks
  · refine lv_iload_n hx hb dX11_law_4 rfl (lv_at hl 1 rfl) ?_
    refine lv_bipush (v := (10 : Int32)) hx hb dX11_law_5 (by decide) ?_
    refine lv_idiv hx hb dX11_law_7 (by decide) ?_
    refine lv_iconst (v := (4 : Int32)) hx hb dX11_law_8 (by decide) ?_
    refine lv_icmp_ge (tgt := 21) hx hb dX11_law_9 (by decide) (fun c2 => ?_) (fun c2 => ?_)
    · refine lv_iconst (v := (-1 : Int32)) hx hb dX11_law_21 (by decide) ?_
      refine W.widen (k := 2) (n := 122) (Nat.le_of_ble_eq_true rfl) (Nat.le_of_ble_eq_true rfl) ?_
      exact W.iret (v := (-1 : Int32)) hx hb hr (fun t ht2 hW => ⟨⟨(-1 : Int32), (), rfl, rfl, by rw [ht2]; exact hP, hD⟩, hS.F ht2⟩) hS.2.2 dX11_law_22 hlocks
    · refine lv_iload_n hx hb dX11_law_12 rfl (lv_at hl 1 rfl) ?_
      refine lv_bipush (v := (10 : Int32)) hx hb dX11_law_13 (by decide) ?_
      refine lv_irem hx hb dX11_law_15 (by decide) ?_
      refine lv_bipush (v := (8 : Int32)) hx hb dX11_law_16 (by decide) ?_
      refine lv_icmp_lt (tgt := 23) hx hb dX11_law_18 (by decide) (fun c3 => ?_) (fun c3 => ?_)
      · exact absurd hbad (fun z => z.elim c1 (fun z => z.elim c2 (fun z => z c3)))
      · refine lv_iconst (v := (-1 : Int32)) hx hb dX11_law_21 (by decide) ?_
        refine W.widen (k := 2) (n := 122) (Nat.le_of_ble_eq_true rfl) (Nat.le_of_ble_eq_true rfl) ?_
        exact W.iret (v := (-1 : Int32)) hx hb hr (fun t ht2 hW => ⟨⟨(-1 : Int32), (), rfl, rfl, by rw [ht2]; exact hP, hD⟩, hS.F ht2⟩) hS.2.2 dX11_law_22 hlocks
set_option maxHeartbeats 4000000 in
set_option maxRecDepth 100000 in
theorem c_X11_lawF (l : Launch) (D : va_G) (cs : Nat → ClassId) (k : (Nat → Nat) × (Nat → Nat)) (sz : Nat) (ad : Nat → Nat) (z : ZT) (x1 : Int32) (s5 a5 f5 : Int32) (c5 : Nat → Int32) (h5 : f_X5_read 100000 (z.1 6) (z.2.1 15) (z.1 10) (z.1 11) (z.1 12) (z.2.1 16) = some (false, s5, a5, f5, c5)) (h1 : ¬ x1 < 0) (h2 : ¬ 4 ≤ x1 / (10 : Int32)) (h3 : x1 - x1 / (10 : Int32) * (10 : Int32) < 8) : Met l yX11_law z_X11_law rm_X11_law (va_Pc [.ref (ad 0), .int x1] (zPreE k D cs (wLw ad cs z) sz)) (va_Qi (fun (r : Int32) (_ : Unit) => r = (-100 : Int32) - f5) (fun (u : Unit) (t : State) => va_P D classes (wLw ad cs ((fun n => zc n 6 (0 : Int32) (zc n 10 s5 (zc n 11 a5 (zc n 12 f5 (z.1 n))))), (fun n => zc n 16 c5 (z.2.1 n)), z.2.2.1, z.2.2.2.1, z.2.2.2.2.1, z.2.2.2.2.2.1, z.2.2.2.2.2.2.1, z.2.2.2.2.2.2.2)) t.heap ∧ va_D (va_A (wLw ad cs z) sz) (wLw ad cs ((fun n => zc n 6 (0 : Int32) (zc n 10 s5 (zc n 11 a5 (zc n 12 f5 (z.1 n))))), (fun n => zc n 16 c5 (z.2.1 n)), z.2.2.1, z.2.2.2.1, z.2.2.2.2.1, z.2.2.2.2.2.1, z.2.2.2.2.2.2.1, z.2.2.2.2.2.2.2))) (va_A (wLw ad cs z) sz)) 2 122 (va_A (wLw ad cs z) sz) := by
  refine Met.ofW (cc := cX11_law) (maxL := 3) (ret := (some .int)) (by decide) rfl ?_
  intro p e s m args below meth c s₁ B hml hv
  obtain ⟨rfl, ⟨⟨hsz, hP, hK, hD0⟩, hO⟩, hE⟩ := hv
  subst hsz
  have hD := hD0.self (sz := s.heap.size)
  have C0 : zC p s m _ meth c cX11_law 3 (some .int) RX11 zW := ⟨B.exec, B.bytes, B.returns, hml, findClass_of_methodNamed B.named, fun w hw => atoms_spec (ws := z_X11_law) B.pre w (List.mem_cons_of_mem _ hw), B.notSynchronized⟩
  obtain ⟨hx, hb, hr, hml, hown, ht, hlocks⟩ := id C0
  generalize hAe : va_A (wLw ad cs z) s.heap.size = A at hD hE ⊢
  have hA : ∀ q : Nat, s.heap.size ≤ q → A q := fun q h => by rw [← hAe]; exact Or.inr h
  have hS : va_S A s.heap s.heap [] := va_S.rf
  have hl := lv_entry ([.ref (ad 0), .int x1]) (n := 3) (Nat.le_of_ble_eq_true rfl)
  rw [lg_entry_eq]
  generalize (lg_sl ([.ref (ad 0), .int x1]) ++ List.replicate (3 - (lg_sl ([.ref (ad 0), .int x1])).length) Slot.unset).toArray = ls at hl ⊢
  obtain ⟨H, hH⟩ : ∃ H, H = s.heap := ⟨_, rfl⟩
  have hS : va_S A s.heap H [] := by rw [hH]; exact va_S.rf
  rw [← hH]
  have hP : va_P D classes (wLw ad cs z) H := by rw [hH]; exact hP
  clear hH
  have hl : lv_has ls 3 [(0, .ref (ad 0)), (1, .int x1)] := hl
  refine lv_iload_n hx hb dX11_law_0 rfl (lv_at hl 1 rfl) ?_
  refine lv_if_lt (tgt := 21) hx hb dX11_law_1 (by decide) (fun cc => absurd cc h1) (fun cc => ?_)
  refine lv_iload_n hx hb dX11_law_4 rfl (lv_at hl 1 rfl) ?_
  refine lv_bipush (v := (10 : Int32)) hx hb dX11_law_5 (by decide) ?_
  refine lv_idiv hx hb dX11_law_7 (by decide) ?_
  refine lv_iconst (v := (4 : Int32)) hx hb dX11_law_8 (by decide) ?_
  refine lv_icmp_ge (tgt := 21) hx hb dX11_law_9 (by decide) (fun cc => absurd cc h2) (fun cc => ?_)
  refine lv_iload_n hx hb dX11_law_12 rfl (lv_at hl 1 rfl) ?_
  refine lv_bipush (v := (10 : Int32)) hx hb dX11_law_13 (by decide) ?_
  refine lv_irem hx hb dX11_law_15 (by decide) ?_
  refine lv_bipush (v := (8 : Int32)) hx hb dX11_law_16 (by decide) ?_
  refine lv_icmp_lt (tgt := 23) hx hb dX11_law_18 (by decide) (fun cc => ?_) (fun cc => absurd h3 cc)
  refine lv_aload_n hx hb dX11_law_23 rfl (lv_at hl 0 rfl) ?_
  refine va_get (D := D) (ci := 11) (v := .ref (ad 26)) (C := RX11) (T := TX11) (N := 11) hx hb ht iX11 hown hK hP 0 rfl rfl 4 (by decide) (ht _ kw_700) (fun _ h9 => h9) rfl dX11_law_24 ?_
  refine zk_vqE (post := (fun (r : Option Nat) (u : (Int32 × Int32 × Int32 × (Nat → Int32)) × Nat × Nat) => r = (if (false, s5, a5, f5, c5).1 = true then some u.2.1 else none) ∧ u.1 = (false, s5, a5, f5, c5).2)) (w1 := fun (u : (Int32 × Int32 × Int32 × (Nat → Int32)) × Nat × Nat) => (wl_X5_read ad cs (z.1 6) (z.2.1 15) u.1.1 u.1.2.1 u.1.2.2.1 u.1.2.2.2) ++ (if (false, s5, a5, f5, c5).1 = true then [(u.2.1, .inr (4, [.ref u.2.2])), (u.2.2, .inl (cs 0, u.1.1.toNatClampNeg, .inl (va_cpy u.1.2.2.2 (fun _ => 0) 0 0 u.1.1.toNatClampNeg)))] else [])) (As := []) (rest := []) hE hO (c_X5_read l D cs ad k H.size 100000 (z.1 6) (z.2.1 15) (z.1 10) (z.1 11) (z.1 12) (z.2.1 16) (false, s5, a5, f5, c5) h5) ⟨hx, hb, hml, hown, ht⟩ (cwV 0 ht g_law_read rfl rfl rfl (by decide +kernel) ⟨Nat.le_of_ble_eq_true rfl, Nat.le_of_ble_eq_true rfl⟩) (va_recv hK hP (ci := 5) (q0 := 5) rfl rfl) hP hD hS hK hA [3, 4, 5, 6] [0, 1, 2] rfl rfl rfl rfl (by decide) rfl hl.1 (Nat.le_of_ble_eq_true rfl) dX11_law_27 ⟨Nat.le_of_ble_eq_true rfl, Nat.le_of_ble_eq_true rfl⟩ (fun r u H locs hq hP hD hS => ?_)
  obtain ⟨u1, qL, qC⟩ := u
  obtain ⟨hq1, hq2⟩ := hq
  dsimp only at hq1 hq2 hP hD
  subst hq2
  subst hq1
  rw [if_neg (by decide)] at hP hD
  have hP : va_P D classes [((ad 0), .inr (11, [.ref (ad 4), .ref (ad 15), .ref (ad 23), .ref (ad 25), .ref (ad 26), .ref (ad 28), .ref (ad 34), .ref (ad 39), .ref (ad 1), .ref (ad 2), .ref (ad 3)])), ((ad 4), .inr (2, [.ref (ad 5), .ref (ad 6), .ref (ad 7), .ref (ad 8), .ref (ad 9), .ref (ad 10), .ref (ad 11), .ref (ad 12), .ref (ad 13), .ref (ad 14), .int (z.1 0), .int (z.1 1), .int (z.1 2)])), ((ad 14), .inl (cs 6, 32, .inr (.inr (.inr (.inr (z.2.2.2.1 1)))))), ((ad 23), .inr (9, [.ref (ad 24), .int (z.1 6)])), ((ad 24), .inl (cs 0, 120, .inl (z.2.1 15))), ((ad 26), .inr (5, [.ref (ad 23), .ref (ad 27), .int s5, .int a5, .int f5])), ((ad 27), .inl (cs 0, 121, .inl c5))] H := hP.sub [0, 1, 2, 3, 4, 5, 6] rfl
  have hD : va_D A [((ad 0), .inr (11, [.ref (ad 4), .ref (ad 15), .ref (ad 23), .ref (ad 25), .ref (ad 26), .ref (ad 28), .ref (ad 34), .ref (ad 39), .ref (ad 1), .ref (ad 2), .ref (ad 3)])), ((ad 4), .inr (2, [.ref (ad 5), .ref (ad 6), .ref (ad 7), .ref (ad 8), .ref (ad 9), .ref (ad 10), .ref (ad 11), .ref (ad 12), .ref (ad 13), .ref (ad 14), .int (z.1 0), .int (z.1 1), .int (z.1 2)])), ((ad 14), .inl (cs 6, 32, .inr (.inr (.inr (.inr (z.2.2.2.1 1)))))), ((ad 23), .inr (9, [.ref (ad 24), .int (z.1 6)])), ((ad 24), .inl (cs 0, 120, .inl (z.2.1 15))), ((ad 26), .inr (5, [.ref (ad 23), .ref (ad 27), .int s5, .int a5, .int f5])), ((ad 27), .inl (cs 0, 121, .inl c5))] := hD.sub [0, 1, 2, 3, 4, 5, 6] rfl rfl
  refine W.eq (g2 := F0 m 30 ls [.null]) rfl ?_
  refine lv_astore_nN (lv' := [(2, .null), (0, .ref (ad 0)), (1, .int x1)]) hx hb dX11_law_30 rfl hl (by decide) rfl (fun ls hl => ?_)
  refine lv_aload_n hx hb dX11_law_31 rfl (lv_at hl 1 rfl) ?_
  refine va_get (D := D) (ci := 11) (v := .ref (ad 23)) (C := RX11) (T := TX11) (N := 11) hx hb ht iX11 hown hK hP 0 rfl rfl 2 (by decide) (ht _ kw_698) (fun _ h9 => h9) rfl dX11_law_32 ?_
  refine lv_iconst (v := (0 : Int32)) hx hb dX11_law_35 (by decide) ?_
  refine va_put (D := D) (ci := 9) (v := .int (0 : Int32)) (ty := .int) (C := RX9) (T := TX9) (N := 2) hx hb ht iX9 tyX9 tyX9_ok nmX9 hown hK hP hD hS 3 rfl rfl 1 (by decide) (ht _ kw_236) (fun _ h9 => h9) rfl (by decide +kernel) rfl rfl (Nat.le_of_ble_eq_true rfl) dX11_law_36 (fun H locs hP hD hS => ?_)
  have hP : va_P D classes [((ad 0), .inr (11, [.ref (ad 4), .ref (ad 15), .ref (ad 23), .ref (ad 25), .ref (ad 26), .ref (ad 28), .ref (ad 34), .ref (ad 39), .ref (ad 1), .ref (ad 2), .ref (ad 3)])), ((ad 4), .inr (2, [.ref (ad 5), .ref (ad 6), .ref (ad 7), .ref (ad 8), .ref (ad 9), .ref (ad 10), .ref (ad 11), .ref (ad 12), .ref (ad 13), .ref (ad 14), .int (z.1 0), .int (z.1 1), .int (z.1 2)])), ((ad 14), .inl (cs 6, 32, .inr (.inr (.inr (.inr (z.2.2.2.1 1)))))), ((ad 23), .inr (9, [.ref (ad 24), .int (0 : Int32)])), ((ad 24), .inl (cs 0, 120, .inl (z.2.1 15))), ((ad 26), .inr (5, [.ref (ad 23), .ref (ad 27), .int s5, .int a5, .int f5])), ((ad 27), .inl (cs 0, 121, .inl c5))] H := hP
  have hD : va_D A [((ad 0), .inr (11, [.ref (ad 4), .ref (ad 15), .ref (ad 23), .ref (ad 25), .ref (ad 26), .ref (ad 28), .ref (ad 34), .ref (ad 39), .ref (ad 1), .ref (ad 2), .ref (ad 3)])), ((ad 4), .inr (2, [.ref (ad 5), .ref (ad 6), .ref (ad 7), .ref (ad 8), .ref (ad 9), .ref (ad 10), .ref (ad 11), .ref (ad 12), .ref (ad 13), .ref (ad 14), .int (z.1 0), .int (z.1 1), .int (z.1 2)])), ((ad 14), .inl (cs 6, 32, .inr (.inr (.inr (.inr (z.2.2.2.1 1)))))), ((ad 23), .inr (9, [.ref (ad 24), .int (0 : Int32)])), ((ad 24), .inl (cs 0, 120, .inl (z.2.1 15))), ((ad 26), .inr (5, [.ref (ad 23), .ref (ad 27), .int s5, .int a5, .int f5])), ((ad 27), .inl (cs 0, 121, .inl c5))] := hD
  refine lv_aload_nN hx hb dX11_law_39 rfl (lv_at hl 0 rfl) ?_
  refine lv_ifnonnullN hx hb dX11_law_40 ?_
  refine lv_bipush (v := (-100 : Int32)) hx hb dX11_law_43 (by decide) ?_
  refine lv_aload_n hx hb dX11_law_45 rfl (lv_at hl 1 rfl) ?_
  refine va_get (D := D) (ci := 11) (v := .ref (ad 26)) (C := RX11) (T := TX11) (N := 11) hx hb ht iX11 hown hK hP 0 rfl rfl 4 (by decide) (ht _ kw_700) (fun _ h9 => h9) rfl dX11_law_46 ?_
  refine va_get (D := D) (ci := 5) (v := .int f5) (C := RX5) (T := TX5) (N := 5) hx hb ht iX5 hown hK hP 5 rfl rfl 4 (by decide) (ht _ kw_279) (fun _ h9 => h9) rfl dX11_law_49 ?_
  refine lv_isub hx hb dX11_law_52 ?_
  refine W.widen (k := 2) (n := 122) (Nat.le_of_ble_eq_true rfl) (Nat.le_of_ble_eq_true rfl) ?_
  exact W.iret (v := (-100 : Int32) - f5) hx hb hr (fun t ht2 hW => ⟨⟨(-100 : Int32) - f5, (), rfl, rfl, by rw [ht2]; exact hP, hD⟩, hS.F ht2⟩) hS.2.2 dX11_law_53 hlocks
set_option maxHeartbeats 4000000 in
set_option maxRecDepth 100000 in
theorem c_X11_lawT (l : Launch) (D : va_G) (cs : Nat → ClassId) (k : (Nat → Nat) × (Nat → Nat)) (sz : Nat) (ad : Nat → Nat) (z : ZT) (x1 : Int32) (s5 a5 f5 : Int32) (c5 : Nat → Int32) (h5 : f_X5_read 100000 (z.1 6) (z.2.1 15) (z.1 10) (z.1 11) (z.1 12) (z.2.1 16) = some (true, s5, a5, f5, c5)) (h1 : ¬ x1 < 0) (h2 : ¬ 4 ≤ x1 / (10 : Int32)) (h3 : x1 - x1 / (10 : Int32) * (10 : Int32) < 8) (hix : vp_in (((x1 / (10 : Int32)) * (8 : Int32)) + (x1 - x1 / (10 : Int32) * (10 : Int32))) 32) : Met l yX11_law z_X11_law rm_X11_law (va_Pc [.ref (ad 0), .int x1] (zPreE k D cs (wLw ad cs z) sz)) (va_Qi (fun (r : Int32) (_ : Nat × Nat) => r = (1 : Int32)) (fun (u : Nat × Nat) (t : State) => va_P D classes (wLw ad cs ((fun n => zc n 6 (0 : Int32) (zc n 10 s5 (zc n 11 a5 (zc n 12 f5 (z.1 n))))), (fun n => zc n 16 c5 (z.2.1 n)), z.2.2.1, (fun n => zc n 1 (va_up (z.2.2.2.1 1) (((x1 / (10 : Int32)) * (8 : Int32)) + (x1 - x1 / (10 : Int32) * (10 : Int32))).toNatClampNeg (some u.1)) (z.2.2.2.1 n)), z.2.2.2.2.1, z.2.2.2.2.2.1, z.2.2.2.2.2.2.1, z.2.2.2.2.2.2.2) ++ [(u.1, .inr (4, [.ref u.2])), (u.2, .inl (cs 0, s5.toNatClampNeg, .inl (va_cpy c5 (fun _ => 0) 0 0 s5.toNatClampNeg)))]) t.heap ∧ va_D (va_A (wLw ad cs z) sz) (wLw ad cs ((fun n => zc n 6 (0 : Int32) (zc n 10 s5 (zc n 11 a5 (zc n 12 f5 (z.1 n))))), (fun n => zc n 16 c5 (z.2.1 n)), z.2.2.1, (fun n => zc n 1 (va_up (z.2.2.2.1 1) (((x1 / (10 : Int32)) * (8 : Int32)) + (x1 - x1 / (10 : Int32) * (10 : Int32))).toNatClampNeg (some u.1)) (z.2.2.2.1 n)), z.2.2.2.2.1, z.2.2.2.2.2.1, z.2.2.2.2.2.2.1, z.2.2.2.2.2.2.2) ++ [(u.1, .inr (4, [.ref u.2])), (u.2, .inl (cs 0, s5.toNatClampNeg, .inl (va_cpy c5 (fun _ => 0) 0 0 s5.toNatClampNeg)))])) (va_A (wLw ad cs z) sz)) 2 122 (va_A (wLw ad cs z) sz) := by
  refine Met.ofW (cc := cX11_law) (maxL := 3) (ret := (some .int)) (by decide) rfl ?_
  intro p e s m args below meth c s₁ B hml hv
  obtain ⟨rfl, ⟨⟨hsz, hP, hK, hD0⟩, hO⟩, hE⟩ := hv
  subst hsz
  have hD := hD0.self (sz := s.heap.size)
  have C0 : zC p s m _ meth c cX11_law 3 (some .int) RX11 zW := ⟨B.exec, B.bytes, B.returns, hml, findClass_of_methodNamed B.named, fun w hw => atoms_spec (ws := z_X11_law) B.pre w (List.mem_cons_of_mem _ hw), B.notSynchronized⟩
  obtain ⟨hx, hb, hr, hml, hown, ht, hlocks⟩ := id C0
  generalize hAe : va_A (wLw ad cs z) s.heap.size = A at hD hE ⊢
  have hA : ∀ q : Nat, s.heap.size ≤ q → A q := fun q h => by rw [← hAe]; exact Or.inr h
  have hS : va_S A s.heap s.heap [] := va_S.rf
  have hl := lv_entry ([.ref (ad 0), .int x1]) (n := 3) (Nat.le_of_ble_eq_true rfl)
  rw [lg_entry_eq]
  generalize (lg_sl ([.ref (ad 0), .int x1]) ++ List.replicate (3 - (lg_sl ([.ref (ad 0), .int x1])).length) Slot.unset).toArray = ls at hl ⊢
  obtain ⟨H, hH⟩ : ∃ H, H = s.heap := ⟨_, rfl⟩
  have hS : va_S A s.heap H [] := by rw [hH]; exact va_S.rf
  rw [← hH]
  have hP : va_P D classes (wLw ad cs z) H := by rw [hH]; exact hP
  clear hH
  have hl : lv_has ls 3 [(0, .ref (ad 0)), (1, .int x1)] := hl
  refine lv_iload_n hx hb dX11_law_0 rfl (lv_at hl 1 rfl) ?_
  refine lv_if_lt (tgt := 21) hx hb dX11_law_1 (by decide) (fun cc => absurd cc h1) (fun cc => ?_)
  refine lv_iload_n hx hb dX11_law_4 rfl (lv_at hl 1 rfl) ?_
  refine lv_bipush (v := (10 : Int32)) hx hb dX11_law_5 (by decide) ?_
  refine lv_idiv hx hb dX11_law_7 (by decide) ?_
  refine lv_iconst (v := (4 : Int32)) hx hb dX11_law_8 (by decide) ?_
  refine lv_icmp_ge (tgt := 21) hx hb dX11_law_9 (by decide) (fun cc => absurd cc h2) (fun cc => ?_)
  refine lv_iload_n hx hb dX11_law_12 rfl (lv_at hl 1 rfl) ?_
  refine lv_bipush (v := (10 : Int32)) hx hb dX11_law_13 (by decide) ?_
  refine lv_irem hx hb dX11_law_15 (by decide) ?_
  refine lv_bipush (v := (8 : Int32)) hx hb dX11_law_16 (by decide) ?_
  refine lv_icmp_lt (tgt := 23) hx hb dX11_law_18 (by decide) (fun cc => ?_) (fun cc => absurd h3 cc)
  refine lv_aload_n hx hb dX11_law_23 rfl (lv_at hl 0 rfl) ?_
  refine va_get (D := D) (ci := 11) (v := .ref (ad 26)) (C := RX11) (T := TX11) (N := 11) hx hb ht iX11 hown hK hP 0 rfl rfl 4 (by decide) (ht _ kw_700) (fun _ h9 => h9) rfl dX11_law_24 ?_
  refine zk_vqE (post := (fun (r : Option Nat) (u : (Int32 × Int32 × Int32 × (Nat → Int32)) × Nat × Nat) => r = (if (true, s5, a5, f5, c5).1 = true then some u.2.1 else none) ∧ u.1 = (true, s5, a5, f5, c5).2)) (w1 := fun (u : (Int32 × Int32 × Int32 × (Nat → Int32)) × Nat × Nat) => (wl_X5_read ad cs (z.1 6) (z.2.1 15) u.1.1 u.1.2.1 u.1.2.2.1 u.1.2.2.2) ++ (if (true, s5, a5, f5, c5).1 = true then [(u.2.1, .inr (4, [.ref u.2.2])), (u.2.2, .inl (cs 0, u.1.1.toNatClampNeg, .inl (va_cpy u.1.2.2.2 (fun _ => 0) 0 0 u.1.1.toNatClampNeg)))] else [])) (As := []) (rest := []) hE hO (c_X5_read l D cs ad k H.size 100000 (z.1 6) (z.2.1 15) (z.1 10) (z.1 11) (z.1 12) (z.2.1 16) (true, s5, a5, f5, c5) h5) ⟨hx, hb, hml, hown, ht⟩ (cwV 0 ht g_law_read rfl rfl rfl (by decide +kernel) ⟨Nat.le_of_ble_eq_true rfl, Nat.le_of_ble_eq_true rfl⟩) (va_recv hK hP (ci := 5) (q0 := 5) rfl rfl) hP hD hS hK hA [3, 4, 5, 6] [0, 1, 2] rfl rfl rfl rfl (by decide) rfl hl.1 (Nat.le_of_ble_eq_true rfl) dX11_law_27 ⟨Nat.le_of_ble_eq_true rfl, Nat.le_of_ble_eq_true rfl⟩ (fun r u H locs hq hP hD hS => ?_)
  obtain ⟨u1, qL, qC⟩ := u
  obtain ⟨hq1, hq2⟩ := hq
  dsimp only at hq1 hq2 hP hD
  subst hq2
  subst hq1
  rw [if_pos rfl] at hP hD
  have hP : va_P D classes [((ad 0), .inr (11, [.ref (ad 4), .ref (ad 15), .ref (ad 23), .ref (ad 25), .ref (ad 26), .ref (ad 28), .ref (ad 34), .ref (ad 39), .ref (ad 1), .ref (ad 2), .ref (ad 3)])), ((ad 4), .inr (2, [.ref (ad 5), .ref (ad 6), .ref (ad 7), .ref (ad 8), .ref (ad 9), .ref (ad 10), .ref (ad 11), .ref (ad 12), .ref (ad 13), .ref (ad 14), .int (z.1 0), .int (z.1 1), .int (z.1 2)])), ((ad 14), .inl (cs 6, 32, .inr (.inr (.inr (.inr (z.2.2.2.1 1)))))), ((ad 23), .inr (9, [.ref (ad 24), .int (z.1 6)])), ((ad 24), .inl (cs 0, 120, .inl (z.2.1 15))), ((ad 26), .inr (5, [.ref (ad 23), .ref (ad 27), .int s5, .int a5, .int f5])), ((ad 27), .inl (cs 0, 121, .inl c5)), (qL, .inr (4, [.ref qC])), (qC, .inl (cs 0, s5.toNatClampNeg, .inl (va_cpy c5 (fun _ => 0) 0 0 s5.toNatClampNeg)))] H := hP.sub [0, 1, 2, 3, 4, 5, 6, 7, 8] rfl
  have hD : va_D A [((ad 0), .inr (11, [.ref (ad 4), .ref (ad 15), .ref (ad 23), .ref (ad 25), .ref (ad 26), .ref (ad 28), .ref (ad 34), .ref (ad 39), .ref (ad 1), .ref (ad 2), .ref (ad 3)])), ((ad 4), .inr (2, [.ref (ad 5), .ref (ad 6), .ref (ad 7), .ref (ad 8), .ref (ad 9), .ref (ad 10), .ref (ad 11), .ref (ad 12), .ref (ad 13), .ref (ad 14), .int (z.1 0), .int (z.1 1), .int (z.1 2)])), ((ad 14), .inl (cs 6, 32, .inr (.inr (.inr (.inr (z.2.2.2.1 1)))))), ((ad 23), .inr (9, [.ref (ad 24), .int (z.1 6)])), ((ad 24), .inl (cs 0, 120, .inl (z.2.1 15))), ((ad 26), .inr (5, [.ref (ad 23), .ref (ad 27), .int s5, .int a5, .int f5])), ((ad 27), .inl (cs 0, 121, .inl c5)), (qL, .inr (4, [.ref qC])), (qC, .inl (cs 0, s5.toNatClampNeg, .inl (va_cpy c5 (fun _ => 0) 0 0 s5.toNatClampNeg)))] := hD.sub [0, 1, 2, 3, 4, 5, 6, 7, 8] rfl rfl
  refine W.eq (g2 := F0 m 30 ls [.ref qL]) rfl ?_
  refine lv_astore_n (lv' := [(2, .ref qL), (0, .ref (ad 0)), (1, .int x1)]) hx hb dX11_law_30 rfl hl (by decide) rfl (fun ls hl => ?_)
  refine lv_aload_n hx hb dX11_law_31 rfl (lv_at hl 1 rfl) ?_
  refine va_get (D := D) (ci := 11) (v := .ref (ad 23)) (C := RX11) (T := TX11) (N := 11) hx hb ht iX11 hown hK hP 0 rfl rfl 2 (by decide) (ht _ kw_698) (fun _ h9 => h9) rfl dX11_law_32 ?_
  refine lv_iconst (v := (0 : Int32)) hx hb dX11_law_35 (by decide) ?_
  refine va_put (D := D) (ci := 9) (v := .int (0 : Int32)) (ty := .int) (C := RX9) (T := TX9) (N := 2) hx hb ht iX9 tyX9 tyX9_ok nmX9 hown hK hP hD hS 3 rfl rfl 1 (by decide) (ht _ kw_236) (fun _ h9 => h9) rfl (by decide +kernel) rfl rfl (Nat.le_of_ble_eq_true rfl) dX11_law_36 (fun H locs hP hD hS => ?_)
  have hP : va_P D classes [((ad 0), .inr (11, [.ref (ad 4), .ref (ad 15), .ref (ad 23), .ref (ad 25), .ref (ad 26), .ref (ad 28), .ref (ad 34), .ref (ad 39), .ref (ad 1), .ref (ad 2), .ref (ad 3)])), ((ad 4), .inr (2, [.ref (ad 5), .ref (ad 6), .ref (ad 7), .ref (ad 8), .ref (ad 9), .ref (ad 10), .ref (ad 11), .ref (ad 12), .ref (ad 13), .ref (ad 14), .int (z.1 0), .int (z.1 1), .int (z.1 2)])), ((ad 14), .inl (cs 6, 32, .inr (.inr (.inr (.inr (z.2.2.2.1 1)))))), ((ad 23), .inr (9, [.ref (ad 24), .int (0 : Int32)])), ((ad 24), .inl (cs 0, 120, .inl (z.2.1 15))), ((ad 26), .inr (5, [.ref (ad 23), .ref (ad 27), .int s5, .int a5, .int f5])), ((ad 27), .inl (cs 0, 121, .inl c5)), (qL, .inr (4, [.ref qC])), (qC, .inl (cs 0, s5.toNatClampNeg, .inl (va_cpy c5 (fun _ => 0) 0 0 s5.toNatClampNeg)))] H := hP
  have hD : va_D A [((ad 0), .inr (11, [.ref (ad 4), .ref (ad 15), .ref (ad 23), .ref (ad 25), .ref (ad 26), .ref (ad 28), .ref (ad 34), .ref (ad 39), .ref (ad 1), .ref (ad 2), .ref (ad 3)])), ((ad 4), .inr (2, [.ref (ad 5), .ref (ad 6), .ref (ad 7), .ref (ad 8), .ref (ad 9), .ref (ad 10), .ref (ad 11), .ref (ad 12), .ref (ad 13), .ref (ad 14), .int (z.1 0), .int (z.1 1), .int (z.1 2)])), ((ad 14), .inl (cs 6, 32, .inr (.inr (.inr (.inr (z.2.2.2.1 1)))))), ((ad 23), .inr (9, [.ref (ad 24), .int (0 : Int32)])), ((ad 24), .inl (cs 0, 120, .inl (z.2.1 15))), ((ad 26), .inr (5, [.ref (ad 23), .ref (ad 27), .int s5, .int a5, .int f5])), ((ad 27), .inl (cs 0, 121, .inl c5)), (qL, .inr (4, [.ref qC])), (qC, .inl (cs 0, s5.toNatClampNeg, .inl (va_cpy c5 (fun _ => 0) 0 0 s5.toNatClampNeg)))] := hD
  refine lv_aload_n hx hb dX11_law_39 rfl (lv_at hl 0 rfl) ?_
  refine lv_ifnonnull (tgt := 54) hx hb dX11_law_40 (by decide) ?_
  refine lv_aload_n hx hb dX11_law_54 rfl (lv_at hl 1 rfl) ?_
  refine va_get (D := D) (ci := 11) (v := .ref (ad 4)) (C := RX11) (T := TX11) (N := 11) hx hb ht iX11 hown hK hP 0 rfl rfl 0 (by decide) (ht _ kw_696) (fun _ h9 => h9) rfl dX11_law_55 ?_
  refine va_get (D := D) (ci := 2) (v := .ref (ad 14)) (C := RX2) (T := TX2) (N := 13) hx hb ht iX2 hown hK hP 1 rfl rfl 9 (by decide) (ht _ kw_146) (fun _ h9 => h9) rfl dX11_law_58 ?_
  refine lv_iload_n hx hb dX11_law_61 rfl (lv_at hl 2 rfl) ?_
  refine lv_bipush (v := (10 : Int32)) hx hb dX11_law_62 (by decide) ?_
  refine lv_idiv hx hb dX11_law_64 (by decide) ?_
  refine lv_bipush (v := (8 : Int32)) hx hb dX11_law_65 (by decide) ?_
  refine lv_imul hx hb dX11_law_67 ?_
  refine lv_iload_n hx hb dX11_law_68 rfl (lv_at hl 2 rfl) ?_
  refine lv_bipush (v := (10 : Int32)) hx hb dX11_law_69 (by decide) ?_
  refine lv_irem hx hb dX11_law_71 (by decide) ?_
  refine lv_iadd hx hb dX11_law_72 ?_
  refine lv_aload_n hx hb dX11_law_73 rfl (lv_at hl 0 rfl) ?_
  refine va_astq hx hb hK hP hD hS 2 6 7 4 rfl rfl rfl rfl hix dX11_law_74 (fun H locs hP hD hS => ?_)
  have hP : va_P D classes [((ad 0), .inr (11, [.ref (ad 4), .ref (ad 15), .ref (ad 23), .ref (ad 25), .ref (ad 26), .ref (ad 28), .ref (ad 34), .ref (ad 39), .ref (ad 1), .ref (ad 2), .ref (ad 3)])), ((ad 4), .inr (2, [.ref (ad 5), .ref (ad 6), .ref (ad 7), .ref (ad 8), .ref (ad 9), .ref (ad 10), .ref (ad 11), .ref (ad 12), .ref (ad 13), .ref (ad 14), .int (z.1 0), .int (z.1 1), .int (z.1 2)])), ((ad 14), .inl (cs 6, 32, .inr (.inr (.inr (.inr (va_up (z.2.2.2.1 1) (((x1 / (10 : Int32)) * (8 : Int32)) + (x1 - x1 / (10 : Int32) * (10 : Int32))).toNatClampNeg (some qL))))))), ((ad 23), .inr (9, [.ref (ad 24), .int (0 : Int32)])), ((ad 24), .inl (cs 0, 120, .inl (z.2.1 15))), ((ad 26), .inr (5, [.ref (ad 23), .ref (ad 27), .int s5, .int a5, .int f5])), ((ad 27), .inl (cs 0, 121, .inl c5)), (qL, .inr (4, [.ref qC])), (qC, .inl (cs 0, s5.toNatClampNeg, .inl (va_cpy c5 (fun _ => 0) 0 0 s5.toNatClampNeg)))] H := hP
  have hD : va_D A [((ad 0), .inr (11, [.ref (ad 4), .ref (ad 15), .ref (ad 23), .ref (ad 25), .ref (ad 26), .ref (ad 28), .ref (ad 34), .ref (ad 39), .ref (ad 1), .ref (ad 2), .ref (ad 3)])), ((ad 4), .inr (2, [.ref (ad 5), .ref (ad 6), .ref (ad 7), .ref (ad 8), .ref (ad 9), .ref (ad 10), .ref (ad 11), .ref (ad 12), .ref (ad 13), .ref (ad 14), .int (z.1 0), .int (z.1 1), .int (z.1 2)])), ((ad 14), .inl (cs 6, 32, .inr (.inr (.inr (.inr (va_up (z.2.2.2.1 1) (((x1 / (10 : Int32)) * (8 : Int32)) + (x1 - x1 / (10 : Int32) * (10 : Int32))).toNatClampNeg (some qL))))))), ((ad 23), .inr (9, [.ref (ad 24), .int (0 : Int32)])), ((ad 24), .inl (cs 0, 120, .inl (z.2.1 15))), ((ad 26), .inr (5, [.ref (ad 23), .ref (ad 27), .int s5, .int a5, .int f5])), ((ad 27), .inl (cs 0, 121, .inl c5)), (qL, .inr (4, [.ref qC])), (qC, .inl (cs 0, s5.toNatClampNeg, .inl (va_cpy c5 (fun _ => 0) 0 0 s5.toNatClampNeg)))] := hD
  refine lv_iconst (v := (1 : Int32)) hx hb dX11_law_75 (by decide) ?_
  refine W.widen (k := 2) (n := 122) (Nat.le_of_ble_eq_true rfl) (Nat.le_of_ble_eq_true rfl) ?_
  exact W.iret (v := (1 : Int32)) hx hb hr (fun t ht2 hW => ⟨⟨(1 : Int32), (qL, qC), rfl, rfl, by rw [ht2]; exact hP, hD⟩, hS.F ht2⟩) hS.2.2 dX11_law_76 hlocks

theorem zi_z : 0 ≤ (0 : Int32).toInt ∧ (0 : Int32).toInt ≤ 120 := by decide
theorem zi_m1 : -1 ≤ (-1 : Int32).toInt ∧ (-1 : Int32).toInt ≤ -1 := by decide
theorem zl_idx {x1 : Int32} (h1 : ¬ x1 < 0) (h2 : ¬ 4 ≤ x1 / (10 : Int32)) (h3 : x1 - x1 / (10 : Int32) * (10 : Int32) < 8) : 0 ≤ (((x1 / (10 : Int32)) * (8 : Int32)) + (x1 - x1 / (10 : Int32) * (10 : Int32))).toInt ∧ (((x1 / (10 : Int32)) * (8 : Int32)) + (x1 - x1 / (10 : Int32) * (10 : Int32))).toInt < 32 := by
  have h1 : 0 ≤ x1.toInt := by
    have q : ¬ x1.toInt < (0 : Int32).toInt := fun z => h1 (Int32.lt_iff_toInt_lt.mpr z)
    rw [zl_0] at q
    omega
  have e := zs_dv10 x1 h1
  have h2 : x1.toInt / 10 < 4 := by
    have q : ¬ (4 : Int32).toInt ≤ (x1 / (10 : Int32)).toInt := fun z => h2 (Int32.le_iff_toInt_le.mpr z)
    rw [zl_4, e] at q
    omega
  have h3 := Int32.lt_iff_toInt_lt.mp h3
  have hlt := Int32.toInt_lt x1
  rw [Int32.toInt_sub, Int32.toInt_mul, e, zl_10, zl_8] at h3
  rw [Int32.toInt_add, Int32.toInt_mul, Int32.toInt_sub, Int32.toInt_mul, e, zl_10, zl_8]
  rw [zi_bm2 (e := x1.toInt / 10 * 10) (by omega) (by omega)] at h3 ⊢
  rw [zi_bm2 (e := x1.toInt - x1.toInt / 10 * 10) (by omega) (by omega)] at h3 ⊢
  rw [zi_bm2 (e := x1.toInt / 10 * 8) (by omega) (by omega)]
  rw [zi_bm2 (by omega) (by omega)]
  omega
theorem zPLa_up {cs : Nat → ClassId} {PL : va_W} {laws : Nat → Option Nat} {L_a L_b L_n : Nat → Nat} {L_code : Nat → Nat → Int32} (h : PLa cs PL laws L_a L_b L_n L_code) (t qL qC n : Nat) (cd : Nat → Int32) : PLa cs ([(qL, .inr (4, [.ref qC])), (qC, .inl (cs 0, n, .inl cd))] ++ PL) (va_up laws t (some qL)) (va_up L_a t qL) (va_up L_b t qC) (va_up L_n t n) (va_up L_code t cd) := by
  intro i hi
  by_cases c : i = t
  · subst c
    rw [va_up_self, va_up_self, va_up_self, va_up_self, va_up_self]
    exact ⟨rfl, ⟨0, rfl⟩, ⟨1, rfl⟩⟩
  · rw [va_up_ne _ _ c, va_up_ne _ _ c, va_up_ne _ _ c, va_up_ne _ _ c, va_up_ne _ _ c]
    exact ⟨(h i hi).1, zs_app (h i hi).2.1, zs_app (h i hi).2.2⟩
theorem zAR_cpy {c : Nat → Int32} {n : Nat} {lo hi : Int} (h : AR lo hi c) (h0 : lo ≤ 0 ∧ 0 ≤ hi) : AR lo hi (va_cpy c (fun _ => 0) 0 0 n) := by
  intro k
  unfold va_cpy
  by_cases g : 0 ≤ k ∧ k < 0 + n
  · rw [if_pos g]
    exact h _
  · rw [if_neg g]
    rw [zl_0]
    exact h0
theorem zA2_up {f : Nat → Nat → Int32} {lo hi : Int} (h : A2 lo hi f) {t : Nat} {g : Nat → Int32} (hg : AR lo hi g) : A2 lo hi (va_up f t g) := by
  intro i
  by_cases c : i = t
  · subst c; rw [va_up_self]; exact hg
  · rw [va_up_ne _ _ c]; exact h i
theorem zLB_up {f : Nat → Nat} (h : LB f) {t n : Nat} (hn : n ≤ 121) : LB (va_up f t n) := by
  intro i
  by_cases c : i = t
  · subst c; rw [va_up_self]; exact hn
  · rw [va_up_ne _ _ c]; exact h i
theorem zPl_new (N Z P L X : va_W) : ((X ++ N) ++ (Z ++ (P ++ L))).Perm (X ++ (Z ++ (P ++ (N ++ L)))) := by
  rw [List.append_assoc]
  refine List.Perm.append_left X ?_
  refine (List.perm_append_comm_assoc N Z (P ++ L)).trans ?_
  exact List.Perm.append_left Z (List.perm_append_comm_assoc N P L)
set_option maxHeartbeats 8000000 in
set_option maxRecDepth 100000 in
theorem K_X11_law (l : Launch) (D : va_G) (cs : Nat → ClassId) (k : (Nat → Nat) × (Nat → Nat)) (sz : Nat) (ad : Nat → Nat) (z : ZT) (hI : IX ad cs z) (x1 : Int32) : ∃ R : Int32 × Unit, Met l yX11_law z_X11_law rm_X11_law (va_Pc [.ref (ad 0), .int x1] (zPreE k D cs (WX ad cs z) sz)) (va_Qi (fun (r : Int32) (u : ZT) => r = R.1 ∧ IX ad cs u ∧ KPL z u x1) (fun (u : ZT) (t : State) => va_P D classes (WX ad cs u) t.heap ∧ va_D (va_A (WX ad cs z) sz) (WX ad cs u)) (va_A (WX ad cs z) sz)) 2 122 (va_A (WX ad cs z) sz) := by
  by_cases hbad : (x1 < 0 ∨ 4 ≤ x1 / (10 : Int32) ∨ ¬ (x1 - x1 / (10 : Int32) * (10 : Int32) < 8))
  · refine ⟨((-1 : Int32), ()), ?_⟩
    refine (zMet_S (X := (zCl ad cs z)) (wr := [((ad 1), .inl (cs 7, 6, .inr (.inr (.inr (.inr (z.2.2.2.1 2)))))), ((ad 2), .inl (cs 0, 256, .inl (z.2.1 0))), ((ad 3), .inl (cs 0, 8, .inl (z.2.1 1))), ((ad 5), .inl (cs 0, 40, .inl (z.2.1 2))), ((ad 6), .inl (cs 0, 40, .inl (z.2.1 3))), ((ad 7), .inl (cs 0, 40, .inl (z.2.1 4))), ((ad 8), .inl (cs 0, 40, .inl (z.2.1 5))), ((ad 9), .inl (cs 0, 32, .inl (z.2.1 6))), ((ad 10), .inl (cs 0, 32, .inl (z.2.1 7))), ((ad 11), .inl (cs 0, 32, .inl (z.2.1 8))), ((ad 12), .inl (cs 0, 32, .inl (z.2.1 9))), ((ad 13), .inl (cs 5, 40, .inr (.inr (.inr (.inr (z.2.2.2.1 0)))))), ((ad 15), .inr (3, [.ref (ad 4), .ref (ad 16), .ref (ad 17), .ref (ad 18), .ref (ad 19), .ref (ad 20), .ref (ad 21), .ref (ad 22), .int (z.1 3), .int (z.1 4), .int (z.1 5)])), ((ad 16), .inl (cs 0, 11, .inl (z.2.1 10))), ((ad 17), .inl (cs 0, 36, .inl (z.2.1 11))), ((ad 18), .inl (cs 1, 7, .inr (.inl (z.2.2.1 0)))), ((ad 19), .inl (cs 1, 7, .inr (.inl (z.2.2.1 1)))), ((ad 20), .inl (cs 0, 20, .inl (z.2.1 12))), ((ad 21), .inl (cs 0, 20, .inl (z.2.1 13))), ((ad 22), .inl (cs 0, 20, .inl (z.2.1 14))), ((ad 25), .inr (8, [.ref (ad 23), (zspV z.2.2.2.2.2.2.1), .int (z.1 7), .int (z.1 8), .int (z.1 9)])), ((ad 28), .inr (10, [.ref (ad 29), .ref (ad 30), .int (z.1 13), .ref (ad 31), .ref (ad 32), .ref (ad 33), .ref (ad 85), .int (z.1 14), .int (z.1 15)])), ((ad 29), .inl (cs 0, 5, .inl (z.2.1 17))), ((ad 30), .inl (cs 0, 5, .inl (z.2.1 18))), ((ad 31), .inl (cs 0, 5, .inl (z.2.1 19))), ((ad 32), .inl (cs 0, 125, .inl (z.2.1 20))), ((ad 33), .inl (cs 0, 5, .inl (z.2.1 21))), ((ad 85), .inr (7, [.int (z.1 16), .int (z.1 17), .int (z.1 18), .int (z.1 19), .int (z.1 20), .int (z.1 21), .int (z.1 22), .ref (ad 86), .int (z.1 23), .int (z.1 24), .int (z.1 25), .int (z.1 26), .int (z.1 27), .int (z.1 28), .int (z.1 29)])), ((ad 86), .inl (cs 0, 32, .inl (z.2.1 22))), ((ad 34), .inr (1, [.ref (ad 4), .ref (ad 35), .ref (ad 36), .ref (ad 37), .ref (ad 38), .int (z.1 30), .int (z.1 31)])), ((ad 35), .inl (cs 0, 40, .inl (z.2.1 23))), ((ad 36), .inl (cs 0, 40, .inl (z.2.1 24))), ((ad 37), .inl (cs 0, 40, .inl (z.2.1 25))), ((ad 38), .inl (cs 0, 40, .inl (z.2.1 26))), ((ad 39), .inr (0, [.ref (ad 40), .int (z.1 32), .int (z.1 33), .int (z.1 34), .int (z.1 35)])), ((ad 40), .inl (cs 0, 24, .inl (z.2.1 27))), ((ad 87), .inr (6, [.int (z.1 36), .int (z.1 37), .int (z.1 38), .ref (ad 88)])), ((ad 88), .inl (cs 1, 60, .inr (.inl (z.2.2.1 2)))), ((ad 89), .inr (6, [.int (z.1 39), .int (z.1 40), .int (z.1 41), .ref (ad 90)])), ((ad 90), .inl (cs 1, 60, .inr (.inl (z.2.2.1 3)))), ((ad 91), .inr (6, [.int (z.1 42), .int (z.1 43), .int (z.1 44), .ref (ad 92)])), ((ad 92), .inl (cs 1, 60, .inr (.inl (z.2.2.1 4)))), ((ad 93), .inr (6, [.int (z.1 45), .int (z.1 46), .int (z.1 47), .ref (ad 94)])), ((ad 94), .inl (cs 1, 60, .inr (.inl (z.2.2.1 5)))), ((ad 95), .inr (6, [.int (z.1 48), .int (z.1 49), .int (z.1 50), .ref (ad 96)])), ((ad 96), .inl (cs 1, 60, .inr (.inl (z.2.2.1 6)))), ((ad 97), .inr (6, [.int (z.1 51), .int (z.1 52), .int (z.1 53), .ref (ad 98)])), ((ad 98), .inl (cs 1, 60, .inr (.inl (z.2.2.1 7))))]) (pl := (zPo cs z)) (w2 := fun (u : ZT) => WX ad cs u) (c_X11_lawB l D cs k sz ad z x1 hbad) [0, 4, 14, 23, 24, 26, 27] [1, 2, 3, 5, 6, 7, 8, 9, 10, 11, 12, 13, 15, 16, 17, 18, 19, 20, 21, 22, 25, 28, 29, 30, 31, 32, 33, 34, 35, 36, 37, 38, 39, 40, 41, 42, 43, 44, 45, 46, 47, 48, 49, 50, 51, 52, 53, 54] rfl (by decide +kernel) rfl (by decide +kernel) (by decide +kernel) (List.Perm.refl _) ?_)
    intro r u h
    refine ⟨z, ?_, ?_, ?_⟩
    · exact ⟨h, hI, ⟨⟨rfl, rfl, rfl, rfl, rfl, rfl, rfl, rfl, rfl, rfl, rfl, rfl, rfl, rfl, rfl, rfl, rfl, rfl, rfl, rfl, rfl, rfl, rfl, rfl, rfl, rfl, rfl, rfl, rfl, rfl, rfl, rfl, rfl, rfl, rfl, rfl, rfl, rfl, rfl, rfl, rfl, rfl, rfl, rfl, rfl, rfl⟩, ⟨rfl, rfl, rfl, rfl, rfl, rfl, rfl, rfl, rfl, rfl, rfl, rfl, rfl, rfl, rfl⟩, rfl, Or.inl ⟨hbad, rfl⟩⟩⟩
    · exact fun H q => q.part [48, 0, 1, 2, 49, 3, 4, 5, 6, 7, 8, 9, 10, 11, 50, 12, 13, 14, 15, 16, 17, 18, 19, 51, 52, 20, 53, 54, 21, 22, 23, 24, 25, 26, 27, 28, 29, 30, 31, 32, 33, 34, 35, 36, 37, 38, 39, 40, 41, 42, 43, 44, 45, 46, 47] rfl
    · exact fun A q => q.part [48, 0, 1, 2, 49, 3, 4, 5, 6, 7, 8, 9, 10, 11, 50, 12, 13, 14, 15, 16, 17, 18, 19, 51, 52, 20, 53, 54, 21, 22, 23, 24, 25, 26, 27, 28, 29, 30, 31, 32, 33, 34, 35, 36, 37, 38, 39, 40, 41, 42, 43, 44, 45, 46, 47] (by decide +kernel) rfl
  have h1 : ¬ x1 < 0 := fun q => hbad (Or.inl q)
  have h2 : ¬ 4 ≤ x1 / (10 : Int32) := fun q => hbad (Or.inr (Or.inl q))
  have h3 : x1 - x1 / (10 : Int32) * (10 : Int32) < 8 := Decidable.not_not.mp (fun q => hbad (Or.inr (Or.inr q)))
  have hid := zl_idx h1 h2 h3
  have hix : vp_in (((x1 / (10 : Int32)) * (8 : Int32)) + (x1 - x1 / (10 : Int32) * (10 : Int32))) 32 := by
    unfold vp_in
    rintro (q | q)
    · have := Int32.lt_iff_toInt_lt.mp q
      rw [zl_0] at this
      omega
    · have e : (((x1 / (10 : Int32)) * (8 : Int32)) + (x1 - x1 / (10 : Int32) * (10 : Int32))).toNatClampNeg = (((x1 / (10 : Int32)) * (8 : Int32)) + (x1 - x1 / (10 : Int32) * (10 : Int32))).toInt.toNat := rfl
      omega
  obtain ⟨⟨fl, s5, a5, f5, c5⟩, h5, hp5⟩ := s_X5_read (z.1 6) (z.2.1 15) (z.1 10) (z.1 11) (z.1 12) (z.2.1 16) (ix_3 hI) (ix_42 hI) (ix_24 hI) (ix_23 hI) (ix_25 hI) (ix_44 hI)
  dsimp only at hp5
  cases fl with
  | false =>
    refine ⟨((-100 : Int32) - f5, ()), ?_⟩
    refine (zMet_S (X := (zCl ad cs z)) (wr := [((ad 1), .inl (cs 7, 6, .inr (.inr (.inr (.inr (z.2.2.2.1 2)))))), ((ad 2), .inl (cs 0, 256, .inl (z.2.1 0))), ((ad 3), .inl (cs 0, 8, .inl (z.2.1 1))), ((ad 5), .inl (cs 0, 40, .inl (z.2.1 2))), ((ad 6), .inl (cs 0, 40, .inl (z.2.1 3))), ((ad 7), .inl (cs 0, 40, .inl (z.2.1 4))), ((ad 8), .inl (cs 0, 40, .inl (z.2.1 5))), ((ad 9), .inl (cs 0, 32, .inl (z.2.1 6))), ((ad 10), .inl (cs 0, 32, .inl (z.2.1 7))), ((ad 11), .inl (cs 0, 32, .inl (z.2.1 8))), ((ad 12), .inl (cs 0, 32, .inl (z.2.1 9))), ((ad 13), .inl (cs 5, 40, .inr (.inr (.inr (.inr (z.2.2.2.1 0)))))), ((ad 15), .inr (3, [.ref (ad 4), .ref (ad 16), .ref (ad 17), .ref (ad 18), .ref (ad 19), .ref (ad 20), .ref (ad 21), .ref (ad 22), .int (z.1 3), .int (z.1 4), .int (z.1 5)])), ((ad 16), .inl (cs 0, 11, .inl (z.2.1 10))), ((ad 17), .inl (cs 0, 36, .inl (z.2.1 11))), ((ad 18), .inl (cs 1, 7, .inr (.inl (z.2.2.1 0)))), ((ad 19), .inl (cs 1, 7, .inr (.inl (z.2.2.1 1)))), ((ad 20), .inl (cs 0, 20, .inl (z.2.1 12))), ((ad 21), .inl (cs 0, 20, .inl (z.2.1 13))), ((ad 22), .inl (cs 0, 20, .inl (z.2.1 14))), ((ad 25), .inr (8, [.ref (ad 23), (zspV z.2.2.2.2.2.2.1), .int (z.1 7), .int (z.1 8), .int (z.1 9)])), ((ad 28), .inr (10, [.ref (ad 29), .ref (ad 30), .int (z.1 13), .ref (ad 31), .ref (ad 32), .ref (ad 33), .ref (ad 85), .int (z.1 14), .int (z.1 15)])), ((ad 29), .inl (cs 0, 5, .inl (z.2.1 17))), ((ad 30), .inl (cs 0, 5, .inl (z.2.1 18))), ((ad 31), .inl (cs 0, 5, .inl (z.2.1 19))), ((ad 32), .inl (cs 0, 125, .inl (z.2.1 20))), ((ad 33), .inl (cs 0, 5, .inl (z.2.1 21))), ((ad 85), .inr (7, [.int (z.1 16), .int (z.1 17), .int (z.1 18), .int (z.1 19), .int (z.1 20), .int (z.1 21), .int (z.1 22), .ref (ad 86), .int (z.1 23), .int (z.1 24), .int (z.1 25), .int (z.1 26), .int (z.1 27), .int (z.1 28), .int (z.1 29)])), ((ad 86), .inl (cs 0, 32, .inl (z.2.1 22))), ((ad 34), .inr (1, [.ref (ad 4), .ref (ad 35), .ref (ad 36), .ref (ad 37), .ref (ad 38), .int (z.1 30), .int (z.1 31)])), ((ad 35), .inl (cs 0, 40, .inl (z.2.1 23))), ((ad 36), .inl (cs 0, 40, .inl (z.2.1 24))), ((ad 37), .inl (cs 0, 40, .inl (z.2.1 25))), ((ad 38), .inl (cs 0, 40, .inl (z.2.1 26))), ((ad 39), .inr (0, [.ref (ad 40), .int (z.1 32), .int (z.1 33), .int (z.1 34), .int (z.1 35)])), ((ad 40), .inl (cs 0, 24, .inl (z.2.1 27))), ((ad 87), .inr (6, [.int (z.1 36), .int (z.1 37), .int (z.1 38), .ref (ad 88)])), ((ad 88), .inl (cs 1, 60, .inr (.inl (z.2.2.1 2)))), ((ad 89), .inr (6, [.int (z.1 39), .int (z.1 40), .int (z.1 41), .ref (ad 90)])), ((ad 90), .inl (cs 1, 60, .inr (.inl (z.2.2.1 3)))), ((ad 91), .inr (6, [.int (z.1 42), .int (z.1 43), .int (z.1 44), .ref (ad 92)])), ((ad 92), .inl (cs 1, 60, .inr (.inl (z.2.2.1 4)))), ((ad 93), .inr (6, [.int (z.1 45), .int (z.1 46), .int (z.1 47), .ref (ad 94)])), ((ad 94), .inl (cs 1, 60, .inr (.inl (z.2.2.1 5)))), ((ad 95), .inr (6, [.int (z.1 48), .int (z.1 49), .int (z.1 50), .ref (ad 96)])), ((ad 96), .inl (cs 1, 60, .inr (.inl (z.2.2.1 6)))), ((ad 97), .inr (6, [.int (z.1 51), .int (z.1 52), .int (z.1 53), .ref (ad 98)])), ((ad 98), .inl (cs 1, 60, .inr (.inl (z.2.2.1 7))))]) (pl := (zPo cs z)) (w2 := fun (u : ZT) => WX ad cs u) (c_X11_lawF l D cs k sz ad z x1 s5 a5 f5 c5 h5 h1 h2 h3) [0, 4, 14, 23, 24, 26, 27] [1, 2, 3, 5, 6, 7, 8, 9, 10, 11, 12, 13, 15, 16, 17, 18, 19, 20, 21, 22, 25, 28, 29, 30, 31, 32, 33, 34, 35, 36, 37, 38, 39, 40, 41, 42, 43, 44, 45, 46, 47, 48, 49, 50, 51, 52, 53, 54] rfl (by decide +kernel) rfl (by decide +kernel) (by decide +kernel) (List.Perm.refl _) ?_)
    intro r u h
    refine ⟨((fun n => zc n 6 (0 : Int32) (zc n 10 s5 (zc n 11 a5 (zc n 12 f5 (z.1 n))))), (fun n => zc n 16 c5 (z.2.1 n)), z.2.2.1, z.2.2.2.1, z.2.2.2.2.1, z.2.2.2.2.2.1, z.2.2.2.2.2.2.1, z.2.2.2.2.2.2.2), ?_, ?_, ?_⟩
    · exact ⟨h, ⟨ix_0 (ad := ad) (cs := cs) (z := z) hI, ix_1 (ad := ad) (cs := cs) (z := z) hI, ix_2 (ad := ad) (cs := cs) (z := z) hI, zi_z, ix_4 (ad := ad) (cs := cs) (z := z) hI, ix_5 (ad := ad) (cs := cs) (z := z) hI, ix_6 (ad := ad) (cs := cs) (z := z) hI, ix_7 (ad := ad) (cs := cs) (z := z) hI, ix_8 (ad := ad) (cs := cs) (z := z) hI, ix_9 (ad := ad) (cs := cs) (z := z) hI, ix_10 (ad := ad) (cs := cs) (z := z) hI, ix_11 (ad := ad) (cs := cs) (z := z) hI, ix_12 (ad := ad) (cs := cs) (z := z) hI, ix_13 (ad := ad) (cs := cs) (z := z) hI, ix_14 (ad := ad) (cs := cs) (z := z) hI, ix_15 (ad := ad) (cs := cs) (z := z) hI, ix_16 (ad := ad) (cs := cs) (z := z) hI, ix_17 (ad := ad) (cs := cs) (z := z) hI, ix_18 (ad := ad) (cs := cs) (z := z) hI, ix_19 (ad := ad) (cs := cs) (z := z) hI, ix_20 (ad := ad) (cs := cs) (z := z) hI, ix_21 (ad := ad) (cs := cs) (z := z) hI, ix_22 (ad := ad) (cs := cs) (z := z) hI, hp5.2.1, hp5.1, hp5.2.2.1, ix_26 (ad := ad) (cs := cs) (z := z) hI, ix_27 (ad := ad) (cs := cs) (z := z) hI, ix_28 (ad := ad) (cs := cs) (z := z) hI, ix_29 (ad := ad) (cs := cs) (z := z) hI, ix_30 (ad := ad) (cs := cs) (z := z) hI, ix_31 (ad := ad) (cs := cs) (z := z) hI, ix_32 (ad := ad) (cs := cs) (z := z) hI, ix_33 (ad := ad) (cs := cs) (z := z) hI, ix_34 (ad := ad) (cs := cs) (z := z) hI, ix_35 (ad := ad) (cs := cs) (z := z) hI, ix_36 (ad := ad) (cs := cs) (z := z) hI, ix_37 (ad := ad) (cs := cs) (z := z) hI, ix_38 (ad := ad) (cs := cs) (z := z) hI, ix_39 (ad := ad) (cs := cs) (z := z) hI, ix_40 (ad := ad) (cs := cs) (z := z) hI, ix_41 (ad := ad) (cs := cs) (z := z) hI, ix_42 (ad := ad) (cs := cs) (z := z) hI, ix_43 (ad := ad) (cs := cs) (z := z) hI, hp5.2.2.2, ix_45 (ad := ad) (cs := cs) (z := z) hI, ix_46 (ad := ad) (cs := cs) (z := z) hI, ix_47 (ad := ad) (cs := cs) (z := z) hI, ix_48 (ad := ad) (cs := cs) (z := z) hI, ix_49 (ad := ad) (cs := cs) (z := z) hI⟩, ⟨⟨rfl, rfl, rfl, rfl, rfl, rfl, rfl, rfl, rfl, rfl, rfl, rfl, rfl, rfl, rfl, rfl, rfl, rfl, rfl, rfl, rfl, rfl, rfl, rfl, rfl, rfl, rfl, rfl, rfl, rfl, rfl, rfl, rfl, rfl, rfl, rfl, rfl, rfl, rfl, rfl, rfl, rfl, rfl, rfl, rfl, rfl⟩, ⟨rfl, rfl, rfl, rfl, rfl, rfl, rfl, rfl, rfl, rfl, rfl, rfl, rfl, rfl, rfl⟩, rfl, Or.inr ⟨hbad, rfl⟩⟩⟩
    · exact fun H q => q.part [48, 0, 1, 2, 49, 3, 4, 5, 6, 7, 8, 9, 10, 11, 50, 12, 13, 14, 15, 16, 17, 18, 19, 51, 52, 20, 53, 54, 21, 22, 23, 24, 25, 26, 27, 28, 29, 30, 31, 32, 33, 34, 35, 36, 37, 38, 39, 40, 41, 42, 43, 44, 45, 46, 47] rfl
    · exact fun A q => q.part [48, 0, 1, 2, 49, 3, 4, 5, 6, 7, 8, 9, 10, 11, 50, 12, 13, 14, 15, 16, 17, 18, 19, 51, 52, 20, 53, 54, 21, 22, 23, 24, 25, 26, 27, 28, 29, 30, 31, 32, 33, 34, 35, 36, 37, 38, 39, 40, 41, 42, 43, 44, 45, 46, 47] (by decide +kernel) rfl
  | true =>
    have hn : s5.toNatClampNeg ≤ 121 := by
      have e : s5.toNatClampNeg = s5.toInt.toNat := rfl
      have := hp5.1
      omega
    refine ⟨((1 : Int32), ()), ?_⟩
    refine (zMet_S (X := (zCl ad cs z)) (wr := [((ad 1), .inl (cs 7, 6, .inr (.inr (.inr (.inr (z.2.2.2.1 2)))))), ((ad 2), .inl (cs 0, 256, .inl (z.2.1 0))), ((ad 3), .inl (cs 0, 8, .inl (z.2.1 1))), ((ad 5), .inl (cs 0, 40, .inl (z.2.1 2))), ((ad 6), .inl (cs 0, 40, .inl (z.2.1 3))), ((ad 7), .inl (cs 0, 40, .inl (z.2.1 4))), ((ad 8), .inl (cs 0, 40, .inl (z.2.1 5))), ((ad 9), .inl (cs 0, 32, .inl (z.2.1 6))), ((ad 10), .inl (cs 0, 32, .inl (z.2.1 7))), ((ad 11), .inl (cs 0, 32, .inl (z.2.1 8))), ((ad 12), .inl (cs 0, 32, .inl (z.2.1 9))), ((ad 13), .inl (cs 5, 40, .inr (.inr (.inr (.inr (z.2.2.2.1 0)))))), ((ad 15), .inr (3, [.ref (ad 4), .ref (ad 16), .ref (ad 17), .ref (ad 18), .ref (ad 19), .ref (ad 20), .ref (ad 21), .ref (ad 22), .int (z.1 3), .int (z.1 4), .int (z.1 5)])), ((ad 16), .inl (cs 0, 11, .inl (z.2.1 10))), ((ad 17), .inl (cs 0, 36, .inl (z.2.1 11))), ((ad 18), .inl (cs 1, 7, .inr (.inl (z.2.2.1 0)))), ((ad 19), .inl (cs 1, 7, .inr (.inl (z.2.2.1 1)))), ((ad 20), .inl (cs 0, 20, .inl (z.2.1 12))), ((ad 21), .inl (cs 0, 20, .inl (z.2.1 13))), ((ad 22), .inl (cs 0, 20, .inl (z.2.1 14))), ((ad 25), .inr (8, [.ref (ad 23), (zspV z.2.2.2.2.2.2.1), .int (z.1 7), .int (z.1 8), .int (z.1 9)])), ((ad 28), .inr (10, [.ref (ad 29), .ref (ad 30), .int (z.1 13), .ref (ad 31), .ref (ad 32), .ref (ad 33), .ref (ad 85), .int (z.1 14), .int (z.1 15)])), ((ad 29), .inl (cs 0, 5, .inl (z.2.1 17))), ((ad 30), .inl (cs 0, 5, .inl (z.2.1 18))), ((ad 31), .inl (cs 0, 5, .inl (z.2.1 19))), ((ad 32), .inl (cs 0, 125, .inl (z.2.1 20))), ((ad 33), .inl (cs 0, 5, .inl (z.2.1 21))), ((ad 85), .inr (7, [.int (z.1 16), .int (z.1 17), .int (z.1 18), .int (z.1 19), .int (z.1 20), .int (z.1 21), .int (z.1 22), .ref (ad 86), .int (z.1 23), .int (z.1 24), .int (z.1 25), .int (z.1 26), .int (z.1 27), .int (z.1 28), .int (z.1 29)])), ((ad 86), .inl (cs 0, 32, .inl (z.2.1 22))), ((ad 34), .inr (1, [.ref (ad 4), .ref (ad 35), .ref (ad 36), .ref (ad 37), .ref (ad 38), .int (z.1 30), .int (z.1 31)])), ((ad 35), .inl (cs 0, 40, .inl (z.2.1 23))), ((ad 36), .inl (cs 0, 40, .inl (z.2.1 24))), ((ad 37), .inl (cs 0, 40, .inl (z.2.1 25))), ((ad 38), .inl (cs 0, 40, .inl (z.2.1 26))), ((ad 39), .inr (0, [.ref (ad 40), .int (z.1 32), .int (z.1 33), .int (z.1 34), .int (z.1 35)])), ((ad 40), .inl (cs 0, 24, .inl (z.2.1 27))), ((ad 87), .inr (6, [.int (z.1 36), .int (z.1 37), .int (z.1 38), .ref (ad 88)])), ((ad 88), .inl (cs 1, 60, .inr (.inl (z.2.2.1 2)))), ((ad 89), .inr (6, [.int (z.1 39), .int (z.1 40), .int (z.1 41), .ref (ad 90)])), ((ad 90), .inl (cs 1, 60, .inr (.inl (z.2.2.1 3)))), ((ad 91), .inr (6, [.int (z.1 42), .int (z.1 43), .int (z.1 44), .ref (ad 92)])), ((ad 92), .inl (cs 1, 60, .inr (.inl (z.2.2.1 4)))), ((ad 93), .inr (6, [.int (z.1 45), .int (z.1 46), .int (z.1 47), .ref (ad 94)])), ((ad 94), .inl (cs 1, 60, .inr (.inl (z.2.2.1 5)))), ((ad 95), .inr (6, [.int (z.1 48), .int (z.1 49), .int (z.1 50), .ref (ad 96)])), ((ad 96), .inl (cs 1, 60, .inr (.inl (z.2.2.1 6)))), ((ad 97), .inr (6, [.int (z.1 51), .int (z.1 52), .int (z.1 53), .ref (ad 98)])), ((ad 98), .inl (cs 1, 60, .inr (.inl (z.2.2.1 7))))]) (pl := (zPo cs z)) (w2 := fun (u : ZT) => WX ad cs u) (c_X11_lawT l D cs k sz ad z x1 s5 a5 f5 c5 h5 h1 h2 h3 hix) [0, 4, 14, 23, 24, 26, 27] [1, 2, 3, 5, 6, 7, 8, 9, 10, 11, 12, 13, 15, 16, 17, 18, 19, 20, 21, 22, 25, 28, 29, 30, 31, 32, 33, 34, 35, 36, 37, 38, 39, 40, 41, 42, 43, 44, 45, 46, 47, 48, 49, 50, 51, 52, 53, 54] rfl (by decide +kernel) rfl (by decide +kernel) (by decide +kernel) (List.Perm.refl _) ?_)
    intro r u h
    refine ⟨((fun n => zc n 6 (0 : Int32) (zc n 10 s5 (zc n 11 a5 (zc n 12 f5 (z.1 n))))), (fun n => zc n 16 c5 (z.2.1 n)), z.2.2.1, (fun n => zc n 1 (va_up (z.2.2.2.1 1) (((x1 / (10 : Int32)) * (8 : Int32)) + (x1 - x1 / (10 : Int32) * (10 : Int32))).toNatClampNeg (some u.1)) (z.2.2.2.1 n)), (fun n => zc n 2 (va_up (z.2.2.2.2.1 2) (((x1 / (10 : Int32)) * (8 : Int32)) + (x1 - x1 / (10 : Int32) * (10 : Int32))).toNatClampNeg u.1) (zc n 3 (va_up (z.2.2.2.2.1 3) (((x1 / (10 : Int32)) * (8 : Int32)) + (x1 - x1 / (10 : Int32) * (10 : Int32))).toNatClampNeg u.2) (zc n 4 (va_up (z.2.2.2.2.1 4) (((x1 / (10 : Int32)) * (8 : Int32)) + (x1 - x1 / (10 : Int32) * (10 : Int32))).toNatClampNeg s5.toNatClampNeg) (z.2.2.2.2.1 n)))), (fun n => zc n 1 (va_up (z.2.2.2.2.2.1 1) (((x1 / (10 : Int32)) * (8 : Int32)) + (x1 - x1 / (10 : Int32) * (10 : Int32))).toNatClampNeg (va_cpy c5 (fun _ => 0) 0 0 s5.toNatClampNeg)) (z.2.2.2.2.2.1 n)), z.2.2.2.2.2.2.1, [(u.1, .inr (4, [.ref u.2])), (u.2, .inl (cs 0, s5.toNatClampNeg, .inl (va_cpy c5 (fun _ => 0) 0 0 s5.toNatClampNeg)))] ++ z.2.2.2.2.2.2.2), ?_, ?_, ?_⟩
    · exact ⟨h, ⟨ix_0 (ad := ad) (cs := cs) (z := z) hI, ix_1 (ad := ad) (cs := cs) (z := z) hI, ix_2 (ad := ad) (cs := cs) (z := z) hI, zi_z, ix_4 (ad := ad) (cs := cs) (z := z) hI, ix_5 (ad := ad) (cs := cs) (z := z) hI, ix_6 (ad := ad) (cs := cs) (z := z) hI, ix_7 (ad := ad) (cs := cs) (z := z) hI, ix_8 (ad := ad) (cs := cs) (z := z) hI, ix_9 (ad := ad) (cs := cs) (z := z) hI, ix_10 (ad := ad) (cs := cs) (z := z) hI, ix_11 (ad := ad) (cs := cs) (z := z) hI, ix_12 (ad := ad) (cs := cs) (z := z) hI, ix_13 (ad := ad) (cs := cs) (z := z) hI, ix_14 (ad := ad) (cs := cs) (z := z) hI, ix_15 (ad := ad) (cs := cs) (z := z) hI, ix_16 (ad := ad) (cs := cs) (z := z) hI, ix_17 (ad := ad) (cs := cs) (z := z) hI, ix_18 (ad := ad) (cs := cs) (z := z) hI, ix_19 (ad := ad) (cs := cs) (z := z) hI, ix_20 (ad := ad) (cs := cs) (z := z) hI, ix_21 (ad := ad) (cs := cs) (z := z) hI, ix_22 (ad := ad) (cs := cs) (z := z) hI, hp5.2.1, hp5.1, hp5.2.2.1, ix_26 (ad := ad) (cs := cs) (z := z) hI, ix_27 (ad := ad) (cs := cs) (z := z) hI, ix_28 (ad := ad) (cs := cs) (z := z) hI, ix_29 (ad := ad) (cs := cs) (z := z) hI, ix_30 (ad := ad) (cs := cs) (z := z) hI, ix_31 (ad := ad) (cs := cs) (z := z) hI, ix_32 (ad := ad) (cs := cs) (z := z) hI, ix_33 (ad := ad) (cs := cs) (z := z) hI, ix_34 (ad := ad) (cs := cs) (z := z) hI, ix_35 (ad := ad) (cs := cs) (z := z) hI, ix_36 (ad := ad) (cs := cs) (z := z) hI, ix_37 (ad := ad) (cs := cs) (z := z) hI, ix_38 (ad := ad) (cs := cs) (z := z) hI, ix_39 (ad := ad) (cs := cs) (z := z) hI, ix_40 (ad := ad) (cs := cs) (z := z) hI, ix_41 (ad := ad) (cs := cs) (z := z) hI, ix_42 (ad := ad) (cs := cs) (z := z) hI, zA2_up (ix_43 hI) (zAR_cpy hp5.2.2.2 (by decide)), hp5.2.2.2, ix_45 (ad := ad) (cs := cs) (z := z) hI, zLB_up (ix_46 hI) hn, ix_47 (ad := ad) (cs := cs) (z := z) hI, zPLa_up (ix_48 hI) _ _ _ _ _, ix_49 (ad := ad) (cs := cs) (z := z) hI⟩, ⟨⟨rfl, rfl, rfl, rfl, rfl, rfl, rfl, rfl, rfl, rfl, rfl, rfl, rfl, rfl, rfl, rfl, rfl, rfl, rfl, rfl, rfl, rfl, rfl, rfl, rfl, rfl, rfl, rfl, rfl, rfl, rfl, rfl, rfl, rfl, rfl, rfl, rfl, rfl, rfl, rfl, rfl, rfl, rfl, rfl, rfl, rfl⟩, ⟨rfl, rfl, rfl, rfl, rfl, rfl, rfl, rfl, rfl, rfl, rfl, rfl, rfl, rfl, rfl⟩, rfl, Or.inr ⟨hbad, rfl⟩⟩⟩
    · exact fun H q => zP_perm (zPl_new [(u.1, .inr (4, [.ref u.2])), (u.2, .inl (cs 0, s5.toNatClampNeg, .inl (va_cpy c5 (fun _ => 0) 0 0 s5.toNatClampNeg)))] _ _ _ _) (show va_P D classes ((zCl ad cs ((fun n => zc n 6 (0 : Int32) (zc n 10 s5 (zc n 11 a5 (zc n 12 f5 (z.1 n))))), (fun n => zc n 16 c5 (z.2.1 n)), z.2.2.1, (fun n => zc n 1 (va_up (z.2.2.2.1 1) (((x1 / (10 : Int32)) * (8 : Int32)) + (x1 - x1 / (10 : Int32) * (10 : Int32))).toNatClampNeg (some u.1)) (z.2.2.2.1 n)), (fun n => zc n 2 (va_up (z.2.2.2.2.1 2) (((x1 / (10 : Int32)) * (8 : Int32)) + (x1 - x1 / (10 : Int32) * (10 : Int32))).toNatClampNeg u.1) (zc n 3 (va_up (z.2.2.2.2.1 3) (((x1 / (10 : Int32)) * (8 : Int32)) + (x1 - x1 / (10 : Int32) * (10 : Int32))).toNatClampNeg u.2) (zc n 4 (va_up (z.2.2.2.2.1 4) (((x1 / (10 : Int32)) * (8 : Int32)) + (x1 - x1 / (10 : Int32) * (10 : Int32))).toNatClampNeg s5.toNatClampNeg) (z.2.2.2.2.1 n)))), (fun n => zc n 1 (va_up (z.2.2.2.2.2.1 1) (((x1 / (10 : Int32)) * (8 : Int32)) + (x1 - x1 / (10 : Int32) * (10 : Int32))).toNatClampNeg (va_cpy c5 (fun _ => 0) 0 0 s5.toNatClampNeg)) (z.2.2.2.2.2.1 n)), z.2.2.2.2.2.2.1, [(u.1, .inr (4, [.ref u.2])), (u.2, .inl (cs 0, s5.toNatClampNeg, .inl (va_cpy c5 (fun _ => 0) 0 0 s5.toNatClampNeg)))] ++ z.2.2.2.2.2.2.2) ++ [(u.1, .inr (4, [.ref u.2])), (u.2, .inl (cs 0, s5.toNatClampNeg, .inl (va_cpy c5 (fun _ => 0) 0 0 s5.toNatClampNeg)))]) ++ zPo cs z) H from q.part [48, 0, 1, 2, 49, 3, 4, 5, 6, 7, 8, 9, 10, 11, 50, 12, 13, 14, 15, 16, 17, 18, 19, 51, 52, 20, 53, 54, 21, 22, 23, 24, 25, 26, 27, 28, 29, 30, 31, 32, 33, 34, 35, 36, 37, 38, 39, 40, 41, 42, 43, 44, 45, 46, 47, 55, 56] rfl)
    · exact fun A q => zD_perm (zPl_new [(u.1, .inr (4, [.ref u.2])), (u.2, .inl (cs 0, s5.toNatClampNeg, .inl (va_cpy c5 (fun _ => 0) 0 0 s5.toNatClampNeg)))] _ _ _ _) (show va_D A ((zCl ad cs ((fun n => zc n 6 (0 : Int32) (zc n 10 s5 (zc n 11 a5 (zc n 12 f5 (z.1 n))))), (fun n => zc n 16 c5 (z.2.1 n)), z.2.2.1, (fun n => zc n 1 (va_up (z.2.2.2.1 1) (((x1 / (10 : Int32)) * (8 : Int32)) + (x1 - x1 / (10 : Int32) * (10 : Int32))).toNatClampNeg (some u.1)) (z.2.2.2.1 n)), (fun n => zc n 2 (va_up (z.2.2.2.2.1 2) (((x1 / (10 : Int32)) * (8 : Int32)) + (x1 - x1 / (10 : Int32) * (10 : Int32))).toNatClampNeg u.1) (zc n 3 (va_up (z.2.2.2.2.1 3) (((x1 / (10 : Int32)) * (8 : Int32)) + (x1 - x1 / (10 : Int32) * (10 : Int32))).toNatClampNeg u.2) (zc n 4 (va_up (z.2.2.2.2.1 4) (((x1 / (10 : Int32)) * (8 : Int32)) + (x1 - x1 / (10 : Int32) * (10 : Int32))).toNatClampNeg s5.toNatClampNeg) (z.2.2.2.2.1 n)))), (fun n => zc n 1 (va_up (z.2.2.2.2.2.1 1) (((x1 / (10 : Int32)) * (8 : Int32)) + (x1 - x1 / (10 : Int32) * (10 : Int32))).toNatClampNeg (va_cpy c5 (fun _ => 0) 0 0 s5.toNatClampNeg)) (z.2.2.2.2.2.1 n)), z.2.2.2.2.2.2.1, [(u.1, .inr (4, [.ref u.2])), (u.2, .inl (cs 0, s5.toNatClampNeg, .inl (va_cpy c5 (fun _ => 0) 0 0 s5.toNatClampNeg)))] ++ z.2.2.2.2.2.2.2) ++ [(u.1, .inr (4, [.ref u.2])), (u.2, .inl (cs 0, s5.toNatClampNeg, .inl (va_cpy c5 (fun _ => 0) 0 0 s5.toNatClampNeg)))]) ++ zPo cs z) from q.part [48, 0, 1, 2, 49, 3, 4, 5, 6, 7, 8, 9, 10, 11, 50, 12, 13, 14, 15, 16, 17, 18, 19, 51, 52, 20, 53, 54, 21, 22, 23, 24, 25, 26, 27, 28, 29, 30, 31, 32, 33, 34, 35, 36, 37, 38, 39, 40, 41, 42, 43, 44, 45, 46, 47, 55, 56] (by decide +kernel) rfl)
