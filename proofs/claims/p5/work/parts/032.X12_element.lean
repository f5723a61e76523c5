theorem kw_1893 : Cond.constantLong RX12 433 (-9223372036854775808 : Int64) ∈ zW := zwC (i := 139) zc_8 rfl rfl
theorem zh_cX12_element_0 : zck [42, 27, 28, 182, 1, 172, 156, 0, 9, 20, 1, 177, 167, 0, 14, 42, 180, 0, 136, 16, 60, 27] (zdu 0 cX12_element.data.toList) = true := by decide +kernel
theorem dX12_element_0 : decode cX12_element 0 = .ok (.aload_n 0, 1) := zo_42 zh_cX12_element_0 0 rfl
theorem dX12_element_1 : decode cX12_element 1 = .ok (.iload_n 1, 1) := zo_27 zh_cX12_element_0 1 rfl
theorem dX12_element_2 : decode cX12_element 2 = .ok (.iload_n 2, 1) := zo_28 zh_cX12_element_0 2 rfl
theorem dX12_element_3 : decode cX12_element 3 = .ok (.invokevirtual 428, 3) := zo_182 zh_cX12_element_0 3 rfl
theorem dX12_element_6 : decode cX12_element 6 = .ok (.ifCond .ge 9, 3) := zo_p156 zh_cX12_element_0 6 9 rfl rfl
theorem dX12_element_9 : decode cX12_element 9 = .ok (.ldc2_w 433, 3) := zo_20 zh_cX12_element_0 9 rfl
theorem dX12_element_12 : decode cX12_element 12 = .ok (.goto 14, 3) := zo_p167 zh_cX12_element_0 12 14 rfl rfl
theorem dX12_element_15 : decode cX12_element 15 = .ok (.aload_n 0, 1) := zo_42 zh_cX12_element_0 15 rfl
theorem dX12_element_16 : decode cX12_element 16 = .ok (.getfield 136, 3) := zo_180 zh_cX12_element_0 16 rfl
theorem dX12_element_19 : decode cX12_element 19 = .ok (.bipush 60, 2) := zo_p16 zh_cX12_element_0 19 60 rfl rfl
theorem zh_cX12_element_1 : zck [60, 27, 104, 28, 96, 47, 173] (zdu 20 cX12_element.data.toList) = true := by decide +kernel
theorem dX12_element_21 : decode cX12_element 21 = .ok (.iload_n 1, 1) := zo_27 zh_cX12_element_1 1 rfl
theorem dX12_element_22 : decode cX12_element 22 = .ok (.imul, 1) := zo_104 zh_cX12_element_1 2 rfl
theorem dX12_element_23 : decode cX12_element 23 = .ok (.iload_n 2, 1) := zo_28 zh_cX12_element_1 3 rfl
theorem dX12_element_24 : decode cX12_element 24 = .ok (.iadd, 1) := zo_96 zh_cX12_element_1 4 rfl
theorem dX12_element_25 : decode cX12_element 25 = .ok (.laload, 1) := zo_47 zh_cX12_element_1 5 rfl
theorem dX12_element_26 : decode cX12_element 26 = .ok (.lreturn, 1) := zo_173 zh_cX12_element_1 6 rfl
abbrev z_X12_element : List Cond := .code yX12_element cX12_element 3 (some .long) :: zW
abbrev wl_X12_element (ad : Nat → Nat) (cs : Nat → ClassId)  (mod_code : Int32) (mod_shoes : Int32) (mod_claims : Int32) (mod_taped : Int32) (mod_here : Int32) (mod_fault : Int32) (mod_suits : Int32) (mod_doneMany : Int32) (mod_undoneMany : Int32) (mod_open : Int32) (mod_laid : Int32) (mod_isBoth : Int32) (mod_wished : Int32) (mod_bestMany : Int32) (mod_bestRow : Int32) (mod_ringDigits : Int32) (mod_traces : Int32) (mod_holds : Nat → Int32) (mod_size : Nat → Int32) (mod_elements : Nat → Int64) : va_W := [((ad 41), .inr (12, [.int mod_code, .int mod_shoes, .ref (ad 42), .ref (ad 43), .ref (ad 44), .ref (ad 45), .int mod_claims, .ref (ad 46), .ref (ad 47), .ref (ad 48), .ref (ad 49), .ref (ad 50), .int mod_taped, .int mod_here, .int mod_fault, .int mod_suits, .ref (ad 51), .ref (ad 52), .ref (ad 53), .ref (ad 54), .ref (ad 55), .ref (ad 56), .ref (ad 57), .ref (ad 58), .ref (ad 59), .ref (ad 60), .ref (ad 61), .int mod_doneMany, .int mod_undoneMany, .ref (ad 62), .ref (ad 63), .ref (ad 64), .ref (ad 65), .int mod_open, .int mod_laid, .ref (ad 66), .ref (ad 67), .ref (ad 68), .ref (ad 69), .ref (ad 70), .ref (ad 71), .ref (ad 72), .ref (ad 73), .ref (ad 74), .ref (ad 75), .int mod_isBoth, .int mod_wished, .ref (ad 76), .ref (ad 77), .int mod_bestMany, .int mod_bestRow, .ref (ad 78), .ref (ad 79), .int mod_ringDigits, .int mod_traces, .ref (ad 80), .ref (ad 81), .ref (ad 82), .ref (ad 83), .ref (ad 84)])), ((ad 81), .inl (cs 0, 6, .inl mod_holds)), ((ad 82), .inl (cs 0, 6, .inl mod_size)), ((ad 83), .inl (cs 1, 360, .inr (.inl mod_elements)))]
def Q_X12_element (D : va_G) (cs : Nat → ClassId) (ad : Nat → Nat)  (mod_code : Int32) (mod_shoes : Int32) (mod_claims : Int32) (mod_taped : Int32) (mod_here : Int32) (mod_fault : Int32) (mod_suits : Int32) (mod_doneMany : Int32) (mod_undoneMany : Int32) (mod_open : Int32) (mod_laid : Int32) (mod_isBoth : Int32) (mod_wished : Int32) (mod_bestMany : Int32) (mod_bestRow : Int32) (mod_ringDigits : Int32) (mod_traces : Int32) (mod_holds : Nat → Int32) (mod_size : Nat → Int32) (mod_elements : Nat → Int64) (A : Nat → Prop) (R : Int64 × Unit) : Array Value → State → Outcome → State → Prop :=
  va_Ql (fun (r : Int64) (u : Unit) => (r, u) = R) (fun (u : Unit) (t : State) => va_P D classes (wl_X12_element ad cs mod_code mod_shoes mod_claims mod_taped mod_here mod_fault mod_suits mod_doneMany mod_undoneMany mod_open mod_laid mod_isBoth mod_wished mod_bestMany mod_bestRow mod_ringDigits mod_traces mod_holds mod_size mod_elements) t.heap ∧ va_D A (wl_X12_element ad cs mod_code mod_shoes mod_claims mod_taped mod_here mod_fault mod_suits mod_doneMany mod_undoneMany mod_open mod_laid mod_isBoth mod_wished mod_bestMany mod_bestRow mod_ringDigits mod_traces mod_holds mod_size mod_elements)) A
abbrev rm_X12_element : Room := { frames := 3, cells := 0, slots := 0, locals := 64 }
def B_X12_element_0    (mod_code : Int32) (mod_shoes : Int32) (mod_claims : Int32) (mod_taped : Int32) (mod_here : Int32) (mod_fault : Int32) (mod_suits : Int32) (mod_doneMany : Int32) (mod_undoneMany : Int32) (mod_open : Int32) (mod_laid : Int32) (mod_isBoth : Int32) (mod_wished : Int32) (mod_bestMany : Int32) (mod_bestRow : Int32) (mod_ringDigits : Int32) (mod_traces : Int32) (mod_holds : Nat → Int32) (mod_size : Nat → Int32) (mod_elements : Nat → Int64) (x1 : Int32) (x2 : Int32) : Option (Int64 × Unit) :=
  (zk_b2 (f_X12_whyNoPlace x1 x2 mod_code mod_shoes mod_claims mod_taped mod_here mod_fault mod_suits mod_doneMany mod_undoneMany mod_open mod_laid mod_isBoth mod_wished mod_bestMany mod_bestRow mod_ringDigits mod_traces mod_holds mod_size) (fun r_1 u_2 => (if 0 ≤ r_1 then (if ((((60 : Int32) * x1) + x2) < 0 ∨ 360 ≤ (((60 : Int32) * x1) + x2).toNatClampNeg) then none else (some (mod_elements (((60 : Int32) * x1) + x2).toNatClampNeg, ()))) else (some ((-9223372036854775808 : Int64), ())))))
def f_X12_element   (x1 : Int32) (x2 : Int32) (mod_code : Int32) (mod_shoes : Int32) (mod_claims : Int32) (mod_taped : Int32) (mod_here : Int32) (mod_fault : Int32) (mod_suits : Int32) (mod_doneMany : Int32) (mod_undoneMany : Int32) (mod_open : Int32) (mod_laid : Int32) (mod_isBoth : Int32) (mod_wished : Int32) (mod_bestMany : Int32) (mod_bestRow : Int32) (mod_ringDigits : Int32) (mod_traces : Int32) (mod_holds : Nat → Int32) (mod_size : Nat → Int32) (mod_elements : Nat → Int64) : Option (Int64 × Unit) := B_X12_element_0   mod_code mod_shoes mod_claims mod_taped mod_here mod_fault mod_suits mod_doneMany mod_undoneMany mod_open mod_laid mod_isBoth mod_wished mod_bestMany mod_bestRow mod_ringDigits mod_traces mod_holds mod_size mod_elements x1 x2 
set_option maxHeartbeats 4000000 in
set_option maxRecDepth 100000 in
theorem L_X12_element_0 {p : Program} {l : Launch} {e : Env} {s : State} {m : MethodId} {args : Array Value} {below : List Frame} {meth : Method} {c : Code} {A : Nat → Prop} {D : va_G} {cs : Nat → ClassId} {ad : Nat → Nat} {mod_code : Int32} {mod_shoes : Int32} {mod_claims : Int32} {mod_taped : Int32} {mod_here : Int32} {mod_fault : Int32} {mod_suits : Int32} {mod_doneMany : Int32} {mod_undoneMany : Int32} {mod_open : Int32} {mod_laid : Int32} {mod_isBoth : Int32} {mod_wished : Int32} {mod_bestMany : Int32} {mod_bestRow : Int32} {mod_ringDigits : Int32} {mod_traces : Int32} {mod_holds : Nat → Int32} {mod_size : Nat → Int32} {mod_elements : Nat → Int64} {R : Int64 × Unit} (C0 : zC p s m args meth c cX12_element 3 (some .long) RX12 zW) (hK : va_K D classes (zT cs) s) (hA : ∀ q : Nat, s.heap.size ≤ q → A q) (x1 : Int32) (x2 : Int32) (h : B_X12_element_0 mod_code mod_shoes mod_claims mod_taped mod_here mod_fault mod_suits mod_doneMany mod_undoneMany mod_open mod_laid mod_isBoth mod_wished mod_bestMany mod_bestRow mod_ringDigits mod_traces mod_holds mod_size mod_elements x1 x2 = some R) (H : Heap) (locs : List Loc) (ls : Array Slot) (hP : va_P D classes (wl_X12_element ad cs mod_code mod_shoes mod_claims mod_taped mod_here mod_fault mod_suits mod_doneMany mod_undoneMany mod_open mod_laid mod_isBoth mod_wished mod_bestMany mod_bestRow mod_ringDigits mod_traces mod_holds mod_size mod_elements) H) (hD : va_D A (wl_X12_element ad cs mod_code mod_shoes mod_claims mod_taped mod_here mod_fault mod_suits mod_doneMany mod_undoneMany mod_open mod_laid mod_isBoth mod_wished mod_bestMany mod_bestRow mod_ringDigits mod_traces mod_holds mod_size mod_elements)) (hS : va_S A s.heap H locs) (hl : lv_has ls 3 [(0, .ref (ad 41)), (1, .int x1), (2, .int x2)]) : W p l e rm_X12_element s m args below meth c H locs 0 0 (MQ below (Q_X12_element D cs ad mod_code mod_shoes mod_claims mod_taped mod_here mod_fault mod_suits mod_doneMany mod_undoneMany mod_open mod_laid mod_isBoth mod_wished mod_bestMany mod_bestRow mod_ringDigits mod_traces mod_holds mod_size mod_elements A R) args s 0 0 A) (F0 m 0 ls []) := by
  obtain ⟨hx, hb, hr, hml, hown, ht, hlocks⟩ := id C0
  refine lv_aload_n hx hb dX12_element_0 rfl (lv_at hl 0 rfl) ?_
  refine lv_iload_n hx hb dX12_element_1 rfl (lv_at hl 1 rfl) ?_
  refine lv_iload_n hx hb dX12_element_2 rfl (lv_at hl 2 rfl) ?_
  obtain ⟨r_1, u_2, hc_3, h⟩ := zk_o2 h
  refine zz_vi (post := (fun r u => (r, u) = (r_1, u_2))) (w1 := fun u => (wl_X12_whyNoPlace ad cs mod_code mod_shoes mod_claims mod_taped mod_here mod_fault mod_suits mod_doneMany mod_undoneMany mod_open mod_laid mod_isBoth mod_wished mod_bestMany mod_bestRow mod_ringDigits mod_traces mod_holds mod_size)) (As := [.int x1, .int x2]) (rest := []) (c_X12_whyNoPlace l D cs ad  H.size x1 x2 mod_code mod_shoes mod_claims mod_taped mod_here mod_fault mod_suits mod_doneMany mod_undoneMany mod_open mod_laid mod_isBoth mod_wished mod_bestMany mod_bestRow mod_ringDigits mod_traces mod_holds mod_size (r_1, u_2) hc_3) ⟨hx, hb, hml, hown, ht⟩ (cwV 2 ht g_X12_428 rfl rfl rfl ⟨rfl, hd_X12_whyNoPlace⟩ ⟨Nat.le_of_ble_eq_true rfl, Nat.le_of_ble_eq_true rfl⟩) (va_recv hK hP (ci := 12) (q0 := 0) rfl rfl) hP hD hS hK hA [0, 1, 2] rfl rfl [(ad 41), (ad 81), (ad 82)] rfl (fun _ => rfl) rfl hl.1 (Nat.le_of_ble_eq_true rfl) dX12_element_3 ⟨Nat.zero_le _, Nat.zero_le _⟩ (fun r u H locs hq hP hS => ?_)
  cases hq
  have hP : va_P D classes (wl_X12_element ad cs mod_code mod_shoes mod_claims mod_taped mod_here mod_fault mod_suits mod_doneMany mod_undoneMany mod_open mod_laid mod_isBoth mod_wished mod_bestMany mod_bestRow mod_ringDigits mod_traces mod_holds mod_size mod_elements) H := hP
  have hD : va_D A (wl_X12_element ad cs mod_code mod_shoes mod_claims mod_taped mod_here mod_fault mod_suits mod_doneMany mod_undoneMany mod_open mod_laid mod_isBoth mod_wished mod_bestMany mod_bestRow mod_ringDigits mod_traces mod_holds mod_size mod_elements) := zDk hD [(ad 41), (ad 81), (ad 82), (ad 83)] rfl rfl
  refine lv_if_ge (tgt := 15) hx hb dX12_element_6 (by decide) (fun c_4 => ?_) (fun c_4 => ?_)
  · have h := zk_t c_4 h
    refine lv_aload_n hx hb dX12_element_15 rfl (lv_at hl 0 rfl) ?_
    refine va_get (D := D) (ci := 12) (v := .ref (ad 83)) (C := RX12) (T := TX12) (N := 60) hx hb ht iX12 hown hK hP 0 rfl rfl 58 (by decide) (ht _ kw_1353) (fun _ h9 => h9) rfl dX12_element_16 ?_
    refine lv_bipush (v := (60 : Int32)) hx hb dX12_element_19 (by decide) ?_
    refine lv_iload_n hx hb dX12_element_21 rfl (lv_at hl 1 rfl) ?_
    refine lv_imul hx hb dX12_element_22 ?_
    refine lv_iload_n hx hb dX12_element_23 rfl (lv_at hl 2 rfl) ?_
    refine lv_iadd hx hb dX12_element_24 ?_
    obtain ⟨g_5, h⟩ := zk_gd h
    refine va_lald hx hb hK hP 3 1 rfl rfl g_5 dX12_element_25 ?_
    exact W.lret (v := mod_elements (((60 : Int32) * x1) + x2).toNatClampNeg) hx hb hr (fun t ht2 hW => ⟨⟨mod_elements (((60 : Int32) * x1) + x2).toNatClampNeg, (), rfl, Option.some.inj h, by rw [ht2]; exact hP, hD⟩, hS.F ht2⟩) hS.2.2 dX12_element_26 hlocks
  · have h := zk_f c_4 h
    refine lv_ldc2 (v := (-9223372036854775808 : Int64)) hx hb hown (ht _ kw_1893) dX12_element_9 ?_
    refine lv_goto (tgt := 26) hx hb dX12_element_12 (by decide) ?_
    exact W.lret (v := (-9223372036854775808 : Int64)) hx hb hr (fun t ht2 hW => ⟨⟨(-9223372036854775808 : Int64), (), rfl, Option.some.inj h, by rw [ht2]; exact hP, hD⟩, hS.F ht2⟩) hS.2.2 dX12_element_26 hlocks
set_option maxHeartbeats 4000000 in
set_option maxRecDepth 100000 in
theorem c_X12_element (l : Launch) (D : va_G) (cs : Nat → ClassId) (ad : Nat → Nat) (sz : Nat) (x1 : Int32) (x2 : Int32) (mod_code : Int32) (mod_shoes : Int32) (mod_claims : Int32) (mod_taped : Int32) (mod_here : Int32) (mod_fault : Int32) (mod_suits : Int32) (mod_doneMany : Int32) (mod_undoneMany : Int32) (mod_open : Int32) (mod_laid : Int32) (mod_isBoth : Int32) (mod_wished : Int32) (mod_bestMany : Int32) (mod_bestRow : Int32) (mod_ringDigits : Int32) (mod_traces : Int32) (mod_holds : Nat → Int32) (mod_size : Nat → Int32) (mod_elements : Nat → Int64) (R : Int64 × Unit) (h : f_X12_element   x1 x2 mod_code mod_shoes mod_claims mod_taped mod_here mod_fault mod_suits mod_doneMany mod_undoneMany mod_open mod_laid mod_isBoth mod_wished mod_bestMany mod_bestRow mod_ringDigits mod_traces mod_holds mod_size mod_elements = some R) : Met l yX12_element (z_X12_element) rm_X12_element (va_Pc [.ref (ad 41), .int x1, .int x2] (zPre D cs (wl_X12_element ad cs mod_code mod_shoes mod_claims mod_taped mod_here mod_fault mod_suits mod_doneMany mod_undoneMany mod_open mod_laid mod_isBoth mod_wished mod_bestMany mod_bestRow mod_ringDigits mod_traces mod_holds mod_size mod_elements) sz)) (Q_X12_element D cs ad mod_code mod_shoes mod_claims mod_taped mod_here mod_fault mod_suits mod_doneMany mod_undoneMany mod_open mod_laid mod_isBoth mod_wished mod_bestMany mod_bestRow mod_ringDigits mod_traces mod_holds mod_size mod_elements (va_A (wl_X12_element ad cs mod_code mod_shoes mod_claims mod_taped mod_here mod_fault mod_suits mod_doneMany mod_undoneMany mod_open mod_laid mod_isBoth mod_wished mod_bestMany mod_bestRow mod_ringDigits mod_traces mod_holds mod_size mod_elements) sz) R) 0 0 (va_A (wl_X12_element ad cs mod_code mod_shoes mod_claims mod_taped mod_here mod_fault mod_suits mod_doneMany mod_undoneMany mod_open mod_laid mod_isBoth mod_wished mod_bestMany mod_bestRow mod_ringDigits mod_traces mod_holds mod_size mod_elements) sz) := by
  refine Met.ofW (cc := cX12_element) (maxL := 3) (ret := (some .long)) (by decide) rfl ?_
  intro p e s m args below meth c s₁ B hml hv
  obtain ⟨rfl, hsz, hP, hK, hD0⟩ := hv
  subst hsz
  have hD := hD0.self (sz := s.heap.size)
  have C0 : zC p s m _ meth c cX12_element 3 (some .long) RX12 zW := ⟨B.exec, B.bytes, B.returns, hml, findClass_of_methodNamed B.named, fun w hw => atoms_spec (ws := z_X12_element) B.pre w (List.mem_cons_of_mem _ hw), B.notSynchronized⟩
  have hA : ∀ q : Nat, s.heap.size ≤ q → va_A (wl_X12_element ad cs mod_code mod_shoes mod_claims mod_taped mod_here mod_fault mod_suits mod_doneMany mod_undoneMany mod_open mod_laid mod_isBoth mod_wished mod_bestMany mod_bestRow mod_ringDigits mod_traces mod_holds mod_size mod_elements) s.heap.size q := fun q h => Or.inr h
  have hl := lv_entry ([.ref (ad 41), .int x1, .int x2]) (n := 3) (Nat.le_of_ble_eq_true rfl)
  rw [lg_entry_eq]
  generalize (lg_sl ([.ref (ad 41), .int x1, .int x2]) ++ List.replicate (3 - (lg_sl ([.ref (ad 41), .int x1, .int x2])).length) Slot.unset).toArray = ls at hl ⊢
  exact L_X12_element_0 C0 hK hA   x1 x2  h s.heap [] ls hP hD va_S.rf hl
theorem kw_1354 : Cond.fieldLink RX12 140 "AlreadyJudgedModel" "shifted" "[J" ∈ zW := zwC (i := 80) zc_6 rfl rfl
theorem zh_cX12_shift_0 : zck [27, 184, 0, 167, 153, 0, 10, 29, 184, 0, 167, 154, 0, 5, 2, 172, 42, 180, 0, 130, 27, 46] (zdu 0 cX12_shift.data.toList) = true := by decide +kernel
theorem dX12_shift_0 : decode cX12_shift 0 = .ok (.iload_n 1, 1) := zo_27 zh_cX12_shift_0 0 rfl
theorem dX12_shift_1 : decode cX12_shift 1 = .ok (.invokestatic 167, 3) := zo_184 zh_cX12_shift_0 1 rfl
theorem dX12_shift_4 : decode cX12_shift 4 = .ok (.ifCond .eq 10, 3) := zo_p153 zh_cX12_shift_0 4 10 rfl rfl
theorem dX12_shift_7 : decode cX12_shift 7 = .ok (.iload_n 3, 1) := zo_29 zh_cX12_shift_0 7 rfl
theorem dX12_shift_8 : decode cX12_shift 8 = .ok (.invokestatic 167, 3) := zo_184 zh_cX12_shift_0 8 rfl
theorem dX12_shift_11 : decode cX12_shift 11 = .ok (.ifCond .ne 5, 3) := zo_p154 zh_cX12_shift_0 11 5 rfl rfl
theorem dX12_shift_14 : decode cX12_shift 14 = .ok (.iconst (-1), 1) := zo_2 zh_cX12_shift_0 14 rfl
theorem dX12_shift_15 : decode cX12_shift 15 = .ok (.ireturn, 1) := zo_172 zh_cX12_shift_0 15 rfl
theorem dX12_shift_16 : decode cX12_shift 16 = .ok (.aload_n 0, 1) := zo_42 zh_cX12_shift_0 16 rfl
theorem dX12_shift_17 : decode cX12_shift 17 = .ok (.getfield 130, 3) := zo_180 zh_cX12_shift_0 17 rfl
theorem zh_cX12_shift_1 : zck [27, 46, 2, 159, 0, 13, 42, 180, 0, 130, 29, 46, 2, 160, 0, 6, 16, 245, 172, 42, 180, 0] (zdu 20 cX12_shift.data.toList) = true := by decide +kernel
theorem dX12_shift_20 : decode cX12_shift 20 = .ok (.iload_n 1, 1) := zo_27 zh_cX12_shift_1 0 rfl
theorem dX12_shift_21 : decode cX12_shift 21 = .ok (.iaload, 1) := zo_46 zh_cX12_shift_1 1 rfl
theorem dX12_shift_22 : decode cX12_shift 22 = .ok (.iconst (-1), 1) := zo_2 zh_cX12_shift_1 2 rfl
theorem dX12_shift_23 : decode cX12_shift 23 = .ok (.if_icmp .eq 13, 3) := zo_p159 zh_cX12_shift_1 3 13 rfl rfl
theorem dX12_shift_26 : decode cX12_shift 26 = .ok (.aload_n 0, 1) := zo_42 zh_cX12_shift_1 6 rfl
theorem dX12_shift_27 : decode cX12_shift 27 = .ok (.getfield 130, 3) := zo_180 zh_cX12_shift_1 7 rfl
theorem dX12_shift_30 : decode cX12_shift 30 = .ok (.iload_n 3, 1) := zo_29 zh_cX12_shift_1 10 rfl
theorem dX12_shift_31 : decode cX12_shift 31 = .ok (.iaload, 1) := zo_46 zh_cX12_shift_1 11 rfl
theorem dX12_shift_32 : decode cX12_shift 32 = .ok (.iconst (-1), 1) := zo_2 zh_cX12_shift_1 12 rfl
theorem dX12_shift_33 : decode cX12_shift 33 = .ok (.if_icmp .ne 6, 3) := zo_p160 zh_cX12_shift_1 13 6 rfl rfl
theorem dX12_shift_36 : decode cX12_shift 36 = .ok (.bipush (-11), 2) := zo_n16 zh_cX12_shift_1 16 10 rfl rfl
theorem dX12_shift_38 : decode cX12_shift 38 = .ok (.ireturn, 1) := zo_172 zh_cX12_shift_1 18 rfl
theorem dX12_shift_39 : decode cX12_shift 39 = .ok (.aload_n 0, 1) := zo_42 zh_cX12_shift_1 19 rfl
theorem zh_cX12_shift_2 : zck [180, 0, 130, 27, 46, 156, 0, 18, 42, 180, 0, 130, 27, 46, 42, 180, 0, 130, 29, 46, 159, 0] (zdu 40 cX12_shift.data.toList) = true := by decide +kernel
theorem dX12_shift_40 : decode cX12_shift 40 = .ok (.getfield 130, 3) := zo_180 zh_cX12_shift_2 0 rfl
theorem dX12_shift_43 : decode cX12_shift 43 = .ok (.iload_n 1, 1) := zo_27 zh_cX12_shift_2 3 rfl
theorem dX12_shift_44 : decode cX12_shift 44 = .ok (.iaload, 1) := zo_46 zh_cX12_shift_2 4 rfl
theorem dX12_shift_45 : decode cX12_shift 45 = .ok (.ifCond .ge 18, 3) := zo_p156 zh_cX12_shift_2 5 18 rfl rfl
theorem dX12_shift_48 : decode cX12_shift 48 = .ok (.aload_n 0, 1) := zo_42 zh_cX12_shift_2 8 rfl
theorem dX12_shift_49 : decode cX12_shift 49 = .ok (.getfield 130, 3) := zo_180 zh_cX12_shift_2 9 rfl
theorem dX12_shift_52 : decode cX12_shift 52 = .ok (.iload_n 1, 1) := zo_27 zh_cX12_shift_2 12 rfl
theorem dX12_shift_53 : decode cX12_shift 53 = .ok (.iaload, 1) := zo_46 zh_cX12_shift_2 13 rfl
theorem dX12_shift_54 : decode cX12_shift 54 = .ok (.aload_n 0, 1) := zo_42 zh_cX12_shift_2 14 rfl
theorem dX12_shift_55 : decode cX12_shift 55 = .ok (.getfield 130, 3) := zo_180 zh_cX12_shift_2 15 rfl
theorem dX12_shift_58 : decode cX12_shift 58 = .ok (.iload_n 3, 1) := zo_29 zh_cX12_shift_2 18 rfl
theorem dX12_shift_59 : decode cX12_shift 59 = .ok (.iaload, 1) := zo_46 zh_cX12_shift_2 19 rfl
theorem zh_cX12_shift_3 : zck [159, 0, 6, 16, 244, 172, 21, 5, 155, 0, 39, 28, 155, 0, 35, 21, 4, 155, 0, 30, 28, 42] (zdu 60 cX12_shift.data.toList) = true := by decide +kernel
theorem dX12_shift_60 : decode cX12_shift 60 = .ok (.if_icmp .eq 6, 3) := zo_p159 zh_cX12_shift_3 0 6 rfl rfl
theorem dX12_shift_63 : decode cX12_shift 63 = .ok (.bipush (-12), 2) := zo_n16 zh_cX12_shift_3 3 11 rfl rfl
theorem dX12_shift_65 : decode cX12_shift 65 = .ok (.ireturn, 1) := zo_172 zh_cX12_shift_3 5 rfl
theorem dX12_shift_66 : decode cX12_shift 66 = .ok (.iload 5, 2) := zo_21 zh_cX12_shift_3 6 rfl
theorem dX12_shift_68 : decode cX12_shift 68 = .ok (.ifCond .lt 39, 3) := zo_p155 zh_cX12_shift_3 8 39 rfl rfl
theorem dX12_shift_71 : decode cX12_shift 71 = .ok (.iload_n 2, 1) := zo_28 zh_cX12_shift_3 11 rfl
theorem dX12_shift_72 : decode cX12_shift 72 = .ok (.ifCond .lt 35, 3) := zo_p155 zh_cX12_shift_3 12 35 rfl rfl
theorem dX12_shift_75 : decode cX12_shift 75 = .ok (.iload 4, 2) := zo_21 zh_cX12_shift_3 15 rfl
theorem dX12_shift_77 : decode cX12_shift 77 = .ok (.ifCond .lt 30, 3) := zo_p155 zh_cX12_shift_3 17 30 rfl rfl
theorem zh_cX12_shift_4 : zck [28, 42, 180, 0, 133, 27, 46, 21, 5, 100, 163, 0, 17, 21, 4, 42, 180, 0, 133, 29, 46, 21] (zdu 80 cX12_shift.data.toList) = true := by decide +kernel
theorem dX12_shift_80 : decode cX12_shift 80 = .ok (.iload_n 2, 1) := zo_28 zh_cX12_shift_4 0 rfl
theorem dX12_shift_81 : decode cX12_shift 81 = .ok (.aload_n 0, 1) := zo_42 zh_cX12_shift_4 1 rfl
theorem dX12_shift_82 : decode cX12_shift 82 = .ok (.getfield 133, 3) := zo_180 zh_cX12_shift_4 2 rfl
theorem dX12_shift_85 : decode cX12_shift 85 = .ok (.iload_n 1, 1) := zo_27 zh_cX12_shift_4 5 rfl
theorem dX12_shift_86 : decode cX12_shift 86 = .ok (.iaload, 1) := zo_46 zh_cX12_shift_4 6 rfl
theorem dX12_shift_87 : decode cX12_shift 87 = .ok (.iload 5, 2) := zo_21 zh_cX12_shift_4 7 rfl
theorem dX12_shift_89 : decode cX12_shift 89 = .ok (.isub, 1) := zo_100 zh_cX12_shift_4 9 rfl
theorem dX12_shift_90 : decode cX12_shift 90 = .ok (.if_icmp .gt 17, 3) := zo_p163 zh_cX12_shift_4 10 17 rfl rfl
theorem dX12_shift_93 : decode cX12_shift 93 = .ok (.iload 4, 2) := zo_21 zh_cX12_shift_4 13 rfl
theorem dX12_shift_95 : decode cX12_shift 95 = .ok (.aload_n 0, 1) := zo_42 zh_cX12_shift_4 15 rfl
theorem dX12_shift_96 : decode cX12_shift 96 = .ok (.getfield 133, 3) := zo_180 zh_cX12_shift_4 16 rfl
theorem dX12_shift_99 : decode cX12_shift 99 = .ok (.iload_n 3, 1) := zo_29 zh_cX12_shift_4 19 rfl
theorem zh_cX12_shift_5 : zck [46, 21, 5, 100, 164, 0, 6, 16, 243, 172, 3, 54, 6, 21, 6, 21, 5, 162, 0, 30, 42, 180] (zdu 100 cX12_shift.data.toList) = true := by decide +kernel
theorem dX12_shift_100 : decode cX12_shift 100 = .ok (.iaload, 1) := zo_46 zh_cX12_shift_5 0 rfl
theorem dX12_shift_101 : decode cX12_shift 101 = .ok (.iload 5, 2) := zo_21 zh_cX12_shift_5 1 rfl
theorem dX12_shift_103 : decode cX12_shift 103 = .ok (.isub, 1) := zo_100 zh_cX12_shift_5 3 rfl
theorem dX12_shift_104 : decode cX12_shift 104 = .ok (.if_icmp .le 6, 3) := zo_p164 zh_cX12_shift_5 4 6 rfl rfl
theorem dX12_shift_107 : decode cX12_shift 107 = .ok (.bipush (-13), 2) := zo_n16 zh_cX12_shift_5 7 12 rfl rfl
theorem dX12_shift_109 : decode cX12_shift 109 = .ok (.ireturn, 1) := zo_172 zh_cX12_shift_5 9 rfl
theorem dX12_shift_110 : decode cX12_shift 110 = .ok (.iconst 0, 1) := zo_3 zh_cX12_shift_5 10 rfl
theorem dX12_shift_111 : decode cX12_shift 111 = .ok (.istore 6, 2) := zo_54 zh_cX12_shift_5 11 rfl
theorem dX12_shift_113 : decode cX12_shift 113 = .ok (.iload 6, 2) := zo_21 zh_cX12_shift_5 13 rfl
theorem dX12_shift_115 : decode cX12_shift 115 = .ok (.iload 5, 2) := zo_21 zh_cX12_shift_5 15 rfl
theorem dX12_shift_117 : decode cX12_shift 117 = .ok (.if_icmp .ge 30, 3) := zo_p162 zh_cX12_shift_5 17 30 rfl rfl
theorem zh_cX12_shift_6 : zck [42, 180, 0, 140, 21, 6, 42, 180, 0, 136, 16, 60, 27, 104, 28, 96, 21, 6, 96, 47, 80, 132] (zdu 120 cX12_shift.data.toList) = true := by decide +kernel
theorem dX12_shift_120 : decode cX12_shift 120 = .ok (.aload_n 0, 1) := zo_42 zh_cX12_shift_6 0 rfl
theorem dX12_shift_121 : decode cX12_shift 121 = .ok (.getfield 140, 3) := zo_180 zh_cX12_shift_6 1 rfl
theorem dX12_shift_124 : decode cX12_shift 124 = .ok (.iload 6, 2) := zo_21 zh_cX12_shift_6 4 rfl
theorem dX12_shift_126 : decode cX12_shift 126 = .ok (.aload_n 0, 1) := zo_42 zh_cX12_shift_6 6 rfl
theorem dX12_shift_127 : decode cX12_shift 127 = .ok (.getfield 136, 3) := zo_180 zh_cX12_shift_6 7 rfl
theorem dX12_shift_130 : decode cX12_shift 130 = .ok (.bipush 60, 2) := zo_p16 zh_cX12_shift_6 10 60 rfl rfl
theorem dX12_shift_132 : decode cX12_shift 132 = .ok (.iload_n 1, 1) := zo_27 zh_cX12_shift_6 12 rfl
theorem dX12_shift_133 : decode cX12_shift 133 = .ok (.imul, 1) := zo_104 zh_cX12_shift_6 13 rfl
theorem dX12_shift_134 : decode cX12_shift 134 = .ok (.iload_n 2, 1) := zo_28 zh_cX12_shift_6 14 rfl
theorem dX12_shift_135 : decode cX12_shift 135 = .ok (.iadd, 1) := zo_96 zh_cX12_shift_6 15 rfl
theorem dX12_shift_136 : decode cX12_shift 136 = .ok (.iload 6, 2) := zo_21 zh_cX12_shift_6 16 rfl
theorem dX12_shift_138 : decode cX12_shift 138 = .ok (.iadd, 1) := zo_96 zh_cX12_shift_6 18 rfl
theorem dX12_shift_139 : decode cX12_shift 139 = .ok (.laload, 1) := zo_47 zh_cX12_shift_6 19 rfl
theorem zh_cX12_shift_7 : zck [80, 132, 6, 1, 167, 255, 225, 3, 54, 6, 21, 6, 21, 5, 162, 0, 31, 42, 180, 0, 136, 16] (zdu 140 cX12_shift.data.toList) = true := by decide +kernel
theorem dX12_shift_140 : decode cX12_shift 140 = .ok (.lastore, 1) := zo_80 zh_cX12_shift_7 0 rfl
theorem dX12_shift_141 : decode cX12_shift 141 = .ok (.iinc 6 1, 3) := zo_p132 zh_cX12_shift_7 1 1 rfl rfl
theorem dX12_shift_144 : decode cX12_shift 144 = .ok (.goto (-31), 3) := zo_n167 zh_cX12_shift_7 4 30 rfl rfl
theorem dX12_shift_147 : decode cX12_shift 147 = .ok (.iconst 0, 1) := zo_3 zh_cX12_shift_7 7 rfl
theorem dX12_shift_148 : decode cX12_shift 148 = .ok (.istore 6, 2) := zo_54 zh_cX12_shift_7 8 rfl
theorem dX12_shift_150 : decode cX12_shift 150 = .ok (.iload 6, 2) := zo_21 zh_cX12_shift_7 10 rfl
theorem dX12_shift_152 : decode cX12_shift 152 = .ok (.iload 5, 2) := zo_21 zh_cX12_shift_7 12 rfl
theorem dX12_shift_154 : decode cX12_shift 154 = .ok (.if_icmp .ge 31, 3) := zo_p162 zh_cX12_shift_7 14 31 rfl rfl
theorem dX12_shift_157 : decode cX12_shift 157 = .ok (.aload_n 0, 1) := zo_42 zh_cX12_shift_7 17 rfl
theorem dX12_shift_158 : decode cX12_shift 158 = .ok (.getfield 136, 3) := zo_180 zh_cX12_shift_7 18 rfl
theorem zh_cX12_shift_8 : zck [136, 16, 60, 29, 104, 21, 4, 96, 21, 6, 96, 42, 180, 0, 140, 21, 6, 47, 80, 132, 6, 1] (zdu 160 cX12_shift.data.toList) = true := by decide +kernel
theorem dX12_shift_161 : decode cX12_shift 161 = .ok (.bipush 60, 2) := zo_p16 zh_cX12_shift_8 1 60 rfl rfl
theorem dX12_shift_163 : decode cX12_shift 163 = .ok (.iload_n 3, 1) := zo_29 zh_cX12_shift_8 3 rfl
theorem dX12_shift_164 : decode cX12_shift 164 = .ok (.imul, 1) := zo_104 zh_cX12_shift_8 4 rfl
theorem dX12_shift_165 : decode cX12_shift 165 = .ok (.iload 4, 2) := zo_21 zh_cX12_shift_8 5 rfl
theorem dX12_shift_167 : decode cX12_shift 167 = .ok (.iadd, 1) := zo_96 zh_cX12_shift_8 7 rfl
theorem dX12_shift_168 : decode cX12_shift 168 = .ok (.iload 6, 2) := zo_21 zh_cX12_shift_8 8 rfl
theorem dX12_shift_170 : decode cX12_shift 170 = .ok (.iadd, 1) := zo_96 zh_cX12_shift_8 10 rfl
theorem dX12_shift_171 : decode cX12_shift 171 = .ok (.aload_n 0, 1) := zo_42 zh_cX12_shift_8 11 rfl
theorem dX12_shift_172 : decode cX12_shift 172 = .ok (.getfield 140, 3) := zo_180 zh_cX12_shift_8 12 rfl
theorem dX12_shift_175 : decode cX12_shift 175 = .ok (.iload 6, 2) := zo_21 zh_cX12_shift_8 15 rfl
theorem dX12_shift_177 : decode cX12_shift 177 = .ok (.laload, 1) := zo_47 zh_cX12_shift_8 17 rfl
theorem dX12_shift_178 : decode cX12_shift 178 = .ok (.lastore, 1) := zo_80 zh_cX12_shift_8 18 rfl
theorem dX12_shift_179 : decode cX12_shift 179 = .ok (.iinc 6 1, 3) := zo_p132 zh_cX12_shift_8 19 1 rfl rfl
theorem zh_cX12_shift_9 : zck [6, 1, 167, 255, 224, 21, 5, 172] (zdu 180 cX12_shift.data.toList) = true := by decide +kernel
theorem dX12_shift_182 : decode cX12_shift 182 = .ok (.goto (-32), 3) := zo_n167 zh_cX12_shift_9 2 31 rfl rfl
theorem dX12_shift_185 : decode cX12_shift 185 = .ok (.iload 5, 2) := zo_21 zh_cX12_shift_9 5 rfl
theorem dX12_shift_187 : decode cX12_shift 187 = .ok (.ireturn, 1) := zo_172 zh_cX12_shift_9 7 rfl
abbrev z_X12_shift : List Cond := .code yX12_shift cX12_shift 7 (some .int) :: zW
abbrev wl_X12_shift (ad : Nat → Nat) (cs : Nat → ClassId)  (mod_code : Int32) (mod_shoes : Int32) (mod_claims : Int32) (mod_taped : Int32) (mod_here : Int32) (mod_fault : Int32) (mod_suits : Int32) (mod_doneMany : Int32) (mod_undoneMany : Int32) (mod_open : Int32) (mod_laid : Int32) (mod_isBoth : Int32) (mod_wished : Int32) (mod_bestMany : Int32) (mod_bestRow : Int32) (mod_ringDigits : Int32) (mod_traces : Int32) (mod_holds : Nat → Int32) (mod_size : Nat → Int32) (mod_elements : Nat → Int64) (mod_shifted : Nat → Int64) : va_W := [((ad 41), .inr (12, [.int mod_code, .int mod_shoes, .ref (ad 42), .ref (ad 43), .ref (ad 44), .ref (ad 45), .int mod_claims, .ref (ad 46), .ref (ad 47), .ref (ad 48), .ref (ad 49), .ref (ad 50), .int mod_taped, .int mod_here, .int mod_fault, .int mod_suits, .ref (ad 51), .ref (ad 52), .ref (ad 53), .ref (ad 54), .ref (ad 55), .ref (ad 56), .ref (ad 57), .ref (ad 58), .ref (ad 59), .ref (ad 60), .ref (ad 61), .int mod_doneMany, .int mod_undoneMany, .ref (ad 62), .ref (ad 63), .ref (ad 64), .ref (ad 65), .int mod_open, .int mod_laid, .ref (ad 66), .ref (ad 67), .ref (ad 68), .ref (ad 69), .ref (ad 70), .ref (ad 71), .ref (ad 72), .ref (ad 73), .ref (ad 74), .ref (ad 75), .int mod_isBoth, .int mod_wished, .ref (ad 76), .ref (ad 77), .int mod_bestMany, .int mod_bestRow, .ref (ad 78), .ref (ad 79), .int mod_ringDigits, .int mod_traces, .ref (ad 80), .ref (ad 81), .ref (ad 82), .ref (ad 83), .ref (ad 84)])), ((ad 81), .inl (cs 0, 6, .inl mod_holds)), ((ad 82), .inl (cs 0, 6, .inl mod_size)), ((ad 83), .inl (cs 1, 360, .inr (.inl mod_elements))), ((ad 84), .inl (cs 1, 60, .inr (.inl mod_shifted)))]
def Q_X12_shift (D : va_G) (cs : Nat → ClassId) (ad : Nat → Nat)  (mod_code : Int32) (mod_shoes : Int32) (mod_claims : Int32) (mod_taped : Int32) (mod_here : Int32) (mod_fault : Int32) (mod_suits : Int32) (mod_doneMany : Int32) (mod_undoneMany : Int32) (mod_open : Int32) (mod_laid : Int32) (mod_isBoth : Int32) (mod_wished : Int32) (mod_bestMany : Int32) (mod_bestRow : Int32) (mod_ringDigits : Int32) (mod_traces : Int32) (mod_holds : Nat → Int32) (mod_size : Nat → Int32) (A : Nat → Prop) (R : Int32 × (Nat → Int64) × (Nat → Int64)) : Array Value → State → Outcome → State → Prop :=
  va_Qi (fun (r : Int32) (u : (Nat → Int64) × (Nat → Int64)) => (r, u) = R) (fun (u : (Nat → Int64) × (Nat → Int64)) (t : State) => va_P D classes (wl_X12_shift ad cs mod_code mod_shoes mod_claims mod_taped mod_here mod_fault mod_suits mod_doneMany mod_undoneMany mod_open mod_laid mod_isBoth mod_wished mod_bestMany mod_bestRow mod_ringDigits mod_traces mod_holds mod_size u.1 u.2) t.heap ∧ va_D A (wl_X12_shift ad cs mod_code mod_shoes mod_claims mod_taped mod_here mod_fault mod_suits mod_doneMany mod_undoneMany mod_open mod_laid mod_isBoth mod_wished mod_bestMany mod_bestRow mod_ringDigits mod_traces mod_holds mod_size u.1 u.2)) A
abbrev rm_X12_shift : Room := { frames := 2, cells := 0, slots := 0, locals := 42 }
def B_X12_shift_150   (g113 : Int32 → Int32 → Int32 → Int32 → Int32 → Int32 → (Nat → Int64) → (Nat → Int64) → (Option (Int32 × (Nat → Int64) × (Nat → Int64)))) (g150 : Int32 → Int32 → Int32 → Int32 → (Nat → Int64) → (Nat → Int64) → (Option (Int32 × (Nat → Int64) × (Nat → Int64)))) (mod_code : Int32) (mod_shoes : Int32) (mod_claims : Int32) (mod_taped : Int32) (mod_here : Int32) (mod_fault : Int32) (mod_suits : Int32) (mod_doneMany : Int32) (mod_undoneMany : Int32) (mod_open : Int32) (mod_laid : Int32) (mod_isBoth : Int32) (mod_wished : Int32) (mod_bestMany : Int32) (mod_bestRow : Int32) (mod_ringDigits : Int32) (mod_traces : Int32) (mod_holds : Nat → Int32) (mod_size : Nat → Int32) (x3 : Int32) (x4 : Int32) (x5 : Int32) (x6 : Int32) (mod_elements : Nat → Int64) (mod_shifted : Nat → Int64) : Option (Int32 × (Nat → Int64) × (Nat → Int64)) :=
  (if x5 ≤ x6 then (some (x5, mod_elements, mod_shifted)) else (if (x6 < 0 ∨ 60 ≤ x6.toNatClampNeg) then none else (zk_let (mod_shifted x6.toNatClampNeg) (fun v_33 => (if (((((60 : Int32) * x3) + x4) + x6) < 0 ∨ 360 ≤ ((((60 : Int32) * x3) + x4) + x6).toNatClampNeg) then none else (zk_let (vp_updL mod_elements ((((60 : Int32) * x3) + x4) + x6).toNatClampNeg v_33) (fun f_35 => (zk_let (x6 + (1 : Int32)) (fun v_36 => (g150 x3 x4 x5 v_36 f_35 mod_shifted))))))))))
def B_X12_shift_113   (g113 : Int32 → Int32 → Int32 → Int32 → Int32 → Int32 → (Nat → Int64) → (Nat → Int64) → (Option (Int32 × (Nat → Int64) × (Nat → Int64)))) (g150 : Int32 → Int32 → Int32 → Int32 → (Nat → Int64) → (Nat → Int64) → (Option (Int32 × (Nat → Int64) × (Nat → Int64)))) (mod_code : Int32) (mod_shoes : Int32) (mod_claims : Int32) (mod_taped : Int32) (mod_here : Int32) (mod_fault : Int32) (mod_suits : Int32) (mod_doneMany : Int32) (mod_undoneMany : Int32) (mod_open : Int32) (mod_laid : Int32) (mod_isBoth : Int32) (mod_wished : Int32) (mod_bestMany : Int32) (mod_bestRow : Int32) (mod_ringDigits : Int32) (mod_traces : Int32) (mod_holds : Nat → Int32) (mod_size : Nat → Int32) (x1 : Int32) (x2 : Int32) (x3 : Int32) (x4 : Int32) (x5 : Int32) (x6 : Int32) (mod_elements : Nat → Int64) (mod_shifted : Nat → Int64) : Option (Int32 × (Nat → Int64) × (Nat → Int64)) :=
  (if x5 ≤ x6 then (g150 x3 x4 x5 (0 : Int32) mod_elements mod_shifted) else (if (((((60 : Int32) * x1) + x2) + x6) < 0 ∨ 360 ≤ ((((60 : Int32) * x1) + x2) + x6).toNatClampNeg) then none else (zk_let (mod_elements ((((60 : Int32) * x1) + x2) + x6).toNatClampNeg) (fun v_27 => (if (x6 < 0 ∨ 60 ≤ x6.toNatClampNeg) then none else (zk_let (vp_updL mod_shifted x6.toNatClampNeg v_27) (fun f_29 => (zk_let (x6 + (1 : Int32)) (fun v_30 => (g113 x1 x2 x3 x4 x5 v_30 mod_elements f_29))))))))))
def B_X12_shift_0   (g113 : Int32 → Int32 → Int32 → Int32 → Int32 → Int32 → (Nat → Int64) → (Nat → Int64) → (Option (Int32 × (Nat → Int64) × (Nat → Int64)))) (g150 : Int32 → Int32 → Int32 → Int32 → (Nat → Int64) → (Nat → Int64) → (Option (Int32 × (Nat → Int64) × (Nat → Int64)))) (mod_code : Int32) (mod_shoes : Int32) (mod_claims : Int32) (mod_taped : Int32) (mod_here : Int32) (mod_fault : Int32) (mod_suits : Int32) (mod_doneMany : Int32) (mod_undoneMany : Int32) (mod_open : Int32) (mod_laid : Int32) (mod_isBoth : Int32) (mod_wished : Int32) (mod_bestMany : Int32) (mod_bestRow : Int32) (mod_ringDigits : Int32) (mod_traces : Int32) (mod_holds : Nat → Int32) (mod_size : Nat → Int32) (x1 : Int32) (x2 : Int32) (x3 : Int32) (x4 : Int32) (x5 : Int32) (mod_elements : Nat → Int64) (mod_shifted : Nat → Int64) : Option (Int32 × (Nat → Int64) × (Nat → Int64)) :=
  (zk_b2 (f_X12_isShelf x1) (fun r_1 u_2 => (if r_1 = 0 then (some ((-1 : Int32), mod_elements, mod_shifted)) else (zk_b2 (f_X12_isShelf x3) (fun r_5 u_6 => (if r_5 = 0 then (some ((-1 : Int32), mod_elements, mod_shifted)) else (if (x1 < 0 ∨ 6 ≤ x1.toNatClampNeg) then none else (if (mod_holds x1.toNatClampNeg) = (-1 : Int32) then (some ((-11 : Int32), mod_elements, mod_shifted)) else (if (x3 < 0 ∨ 6 ≤ x3.toNatClampNeg) then none else (if (mod_holds x3.toNatClampNeg) = (-1 : Int32) then (some ((-11 : Int32), mod_elements, mod_shifted)) else (if (x1 < 0 ∨ 6 ≤ x1.toNatClampNeg) then none else (if 0 ≤ (mod_holds x1.toNatClampNeg) then (some ((-12 : Int32), mod_elements, mod_shifted)) else (if (x1 < 0 ∨ 6 ≤ x1.toNatClampNeg) then none else (if (x3 < 0 ∨ 6 ≤ x3.toNatClampNeg) then none else (if (mod_holds x1.toNatClampNeg) = (mod_holds x3.toNatClampNeg) then (if x5 < 0 then (some ((-13 : Int32), mod_elements, mod_shifted)) else (if x2 < 0 then (some ((-13 : Int32), mod_elements, mod_shifted)) else (if x4 < 0 then (some ((-13 : Int32), mod_elements, mod_shifted)) else (if (x1 < 0 ∨ 6 ≤ x1.toNatClampNeg) then none else (if ((mod_size x1.toNatClampNeg) - x5) < x2 then (some ((-13 : Int32), mod_elements, mod_shifted)) else (if (x3 < 0 ∨ 6 ≤ x3.toNatClampNeg) then none else (if x4 ≤ ((mod_size x3.toNatClampNeg) - x5) then (g113 x1 x2 x3 x4 x5 (0 : Int32) mod_elements mod_shifted) else (some ((-13 : Int32), mod_elements, mod_shifted))))))))) else (some ((-12 : Int32), mod_elements, mod_shifted)))))))))))))))))
def G_X12_shift   (mod_code : Int32) (mod_shoes : Int32) (mod_claims : Int32) (mod_taped : Int32) (mod_here : Int32) (mod_fault : Int32) (mod_suits : Int32) (mod_doneMany : Int32) (mod_undoneMany : Int32) (mod_open : Int32) (mod_laid : Int32) (mod_isBoth : Int32) (mod_wished : Int32) (mod_bestMany : Int32) (mod_bestRow : Int32) (mod_ringDigits : Int32) (mod_traces : Int32) (mod_holds : Nat → Int32) (mod_size : Nat → Int32) (n : Nat) : (Int32 → Int32 → Int32 → Int32 → Int32 → Int32 → (Nat → Int64) → (Nat → Int64) → (Option (Int32 × (Nat → Int64) × (Nat → Int64)))) × (Int32 → Int32 → Int32 → Int32 → (Nat → Int64) → (Nat → Int64) → (Option (Int32 × (Nat → Int64) × (Nat → Int64)))) :=
  Nat.rec (motive := fun _ => (Int32 → Int32 → Int32 → Int32 → Int32 → Int32 → (Nat → Int64) → (Nat → Int64) → (Option (Int32 × (Nat → Int64) × (Nat → Int64)))) × (Int32 → Int32 → Int32 → Int32 → (Nat → Int64) → (Nat → Int64) → (Option (Int32 × (Nat → Int64) × (Nat → Int64))))) ((fun _ _ _ _ _ _ _ _ => none), (fun _ _ _ _ _ _ => none)) (fun _ ih => (B_X12_shift_113   ih.1 ih.2 mod_code mod_shoes mod_claims mod_taped mod_here mod_fault mod_suits mod_doneMany mod_undoneMany mod_open mod_laid mod_isBoth mod_wished mod_bestMany mod_bestRow mod_ringDigits mod_traces mod_holds mod_size, B_X12_shift_150   ih.1 ih.2 mod_code mod_shoes mod_claims mod_taped mod_here mod_fault mod_suits mod_doneMany mod_undoneMany mod_open mod_laid mod_isBoth mod_wished mod_bestMany mod_bestRow mod_ringDigits mod_traces mod_holds mod_size)) n
def f_X12_shift   (n : Nat) (x1 : Int32) (x2 : Int32) (x3 : Int32) (x4 : Int32) (x5 : Int32) (mod_code : Int32) (mod_shoes : Int32) (mod_claims : Int32) (mod_taped : Int32) (mod_here : Int32) (mod_fault : Int32) (mod_suits : Int32) (mod_doneMany : Int32) (mod_undoneMany : Int32) (mod_open : Int32) (mod_laid : Int32) (mod_isBoth : Int32) (mod_wished : Int32) (mod_bestMany : Int32) (mod_bestRow : Int32) (mod_ringDigits : Int32) (mod_traces : Int32) (mod_holds : Nat → Int32) (mod_size : Nat → Int32) (mod_elements : Nat → Int64) (mod_shifted : Nat → Int64) : Option (Int32 × (Nat → Int64) × (Nat → Int64)) := B_X12_shift_0   ((G_X12_shift   mod_code mod_shoes mod_claims mod_taped mod_here mod_fault mod_suits mod_doneMany mod_undoneMany mod_open mod_laid mod_isBoth mod_wished mod_bestMany mod_bestRow mod_ringDigits mod_traces mod_holds mod_size n).1) ((G_X12_shift   mod_code mod_shoes mod_claims mod_taped mod_here mod_fault mod_suits mod_doneMany mod_undoneMany mod_open mod_laid mod_isBoth mod_wished mod_bestMany mod_bestRow mod_ringDigits mod_traces mod_holds mod_size n).2) mod_code mod_shoes mod_claims mod_taped mod_here mod_fault mod_suits mod_doneMany mod_undoneMany mod_open mod_laid mod_isBoth mod_wished mod_bestMany mod_bestRow mod_ringDigits mod_traces mod_holds mod_size x1 x2 x3 x4 x5 mod_elements mod_shifted
set_option maxHeartbeats 4000000 in
set_option maxRecDepth 100000 in
theorem L_X12_shift_150 {p : Program} {l : Launch} {e : Env} {s : State} {m : MethodId} {args : Array Value} {below : List Frame} {meth : Method} {c : Code} {A : Nat → Prop} {D : va_G} {cs : Nat → ClassId} {ad : Nat → Nat} {mod_code : Int32} {mod_shoes : Int32} {mod_claims : Int32} {mod_taped : Int32} {mod_here : Int32} {mod_fault : Int32} {mod_suits : Int32} {mod_doneMany : Int32} {mod_undoneMany : Int32} {mod_open : Int32} {mod_laid : Int32} {mod_isBoth : Int32} {mod_wished : Int32} {mod_bestMany : Int32} {mod_bestRow : Int32} {mod_ringDigits : Int32} {mod_traces : Int32} {mod_holds : Nat → Int32} {mod_size : Nat → Int32} {R : Int32 × (Nat → Int64) × (Nat → Int64)} {g113 : Int32 → Int32 → Int32 → Int32 → Int32 → Int32 → (Nat → Int64) → (Nat → Int64) → (Option (Int32 × (Nat → Int64) × (Nat → Int64)))} {g150 : Int32 → Int32 → Int32 → Int32 → (Nat → Int64) → (Nat → Int64) → (Option (Int32 × (Nat → Int64) × (Nat → Int64)))} (C0 : zC p s m args meth c cX12_shift 7 (some .int) RX12 zW) (hK : va_K D classes (zT cs) s) (hA : ∀ q : Nat, s.heap.size ≤ q → A q) (ih113 : ∀ (x1 : Int32) (x2 : Int32) (x3 : Int32) (x4 : Int32) (x5 : Int32) (x6 : Int32) (mod_elements : Nat → Int64) (mod_shifted : Nat → Int64) (h : g113 x1 x2 x3 x4 x5 x6 mod_elements mod_shifted = some R) (H : Heap) (locs : List Loc) (ls : Array Slot) (hP : va_P D classes (wl_X12_shift ad cs mod_code mod_shoes mod_claims mod_taped mod_here mod_fault mod_suits mod_doneMany mod_undoneMany mod_open mod_laid mod_isBoth mod_wished mod_bestMany mod_bestRow mod_ringDigits mod_traces mod_holds mod_size mod_elements mod_shifted) H) (hD : va_D A (wl_X12_shift ad cs mod_code mod_shoes mod_claims mod_taped mod_here mod_fault mod_suits mod_doneMany mod_undoneMany mod_open mod_laid mod_isBoth mod_wished mod_bestMany mod_bestRow mod_ringDigits mod_traces mod_holds mod_size mod_elements mod_shifted)) (hS : va_S A s.heap H locs) (hl : lv_has ls 7 [(0, .ref (ad 41)), (1, .int x1), (2, .int x2), (3, .int x3), (4, .int x4), (5, .int x5), (6, .int x6)]), W p l e rm_X12_shift s m args below meth c H locs 0 0 (MQ below (Q_X12_shift D cs ad mod_code mod_shoes mod_claims mod_taped mod_here mod_fault mod_suits mod_doneMany mod_undoneMany mod_open mod_laid mod_isBoth mod_wished mod_bestMany mod_bestRow mod_ringDigits mod_traces mod_holds mod_size A R) args s 0 0 A) (F0 m 113 ls [])) (ih150 : ∀ (x3 : Int32) (x4 : Int32) (x5 : Int32) (x6 : Int32) (mod_elements : Nat → Int64) (mod_shifted : Nat → Int64) (h : g150 x3 x4 x5 x6 mod_elements mod_shifted = some R) (H : Heap) (locs : List Loc) (ls : Array Slot) (hP : va_P D classes (wl_X12_shift ad cs mod_code mod_shoes mod_claims mod_taped mod_here mod_fault mod_suits mod_doneMany mod_undoneMany mod_open mod_laid mod_isBoth mod_wished mod_bestMany mod_bestRow mod_ringDigits mod_traces mod_holds mod_size mod_elements mod_shifted) H) (hD : va_D A (wl_X12_shift ad cs mod_code mod_shoes mod_claims mod_taped mod_here mod_fault mod_suits mod_doneMany mod_undoneMany mod_open mod_laid mod_isBoth mod_wished mod_bestMany mod_bestRow mod_ringDigits mod_traces mod_holds mod_size mod_elements mod_shifted)) (hS : va_S A s.heap H locs) (hl : lv_has ls 7 [(0, .ref (ad 41)), (3, .int x3), (4, .int x4), (5, .int x5), (6, .int x6)]), W p l e rm_X12_shift s m args below meth c H locs 0 0 (MQ below (Q_X12_shift D cs ad mod_code mod_shoes mod_claims mod_taped mod_here mod_fault mod_suits mod_doneMany mod_undoneMany mod_open mod_laid mod_isBoth mod_wished mod_bestMany mod_bestRow mod_ringDigits mod_traces mod_holds mod_size A R) args s 0 0 A) (F0 m 150 ls [])) (x3 : Int32) (x4 : Int32) (x5 : Int32) (x6 : Int32) (mod_elements : Nat → Int64) (mod_shifted : Nat → Int64) (h : B_X12_shift_150 g113 g150 mod_code mod_shoes mod_claims mod_taped mod_here mod_fault mod_suits mod_doneMany mod_undoneMany mod_open mod_laid mod_isBoth mod_wished mod_bestMany mod_bestRow mod_ringDigits mod_traces mod_holds mod_size x3 x4 x5 x6 mod_elements mod_shifted = some R) (H : Heap) (locs : List Loc) (ls : Array Slot) (hP : va_P D classes (wl_X12_shift ad cs mod_code mod_shoes mod_claims mod_taped mod_here mod_fault mod_suits mod_doneMany mod_undoneMany mod_open mod_laid mod_isBoth mod_wished mod_bestMany mod_bestRow mod_ringDigits mod_traces mod_holds mod_size mod_elements mod_shifted) H) (hD : va_D A (wl_X12_shift ad cs mod_code mod_shoes mod_claims mod_taped mod_here mod_fault mod_suits mod_doneMany mod_undoneMany mod_open mod_laid mod_isBoth mod_wished mod_bestMany mod_bestRow mod_ringDigits mod_traces mod_holds mod_size mod_elements mod_shifted)) (hS : va_S A s.heap H locs) (hl : lv_has ls 7 [(0, .ref (ad 41)), (3, .int x3), (4, .int x4), (5, .int x5), (6, .int x6)]) : W p l e rm_X12_shift s m args below meth c H locs 0 0 (MQ below (Q_X12_shift D cs ad mod_code mod_shoes mod_claims mod_taped mod_here mod_fault mod_suits mod_doneMany mod_undoneMany mod_open mod_laid mod_isBoth mod_wished mod_bestMany mod_bestRow mod_ringDigits mod_traces mod_holds mod_size A R) args s 0 0 A) (F0 m 150 ls []) := by
  obtain ⟨hx, hb, hr, hml, hown, ht, hlocks⟩ := id C0
  refine lv_iload hx hb dX12_shift_150 (lv_at hl 4 rfl) ?_
  refine lv_iload hx hb dX12_shift_152 (lv_at hl 3 rfl) ?_
  refine lv_icmp_ge (tgt := 185) hx hb dX12_shift_154 (by decide) (fun c_31 => ?_) (fun c_31 => ?_)
  · have h := zk_t c_31 h
    refine lv_iload hx hb dX12_shift_185 (lv_at hl 3 rfl) ?_
    exact W.iret (v := x5) hx hb hr (fun t ht2 hW => ⟨⟨x5, (mod_elements, mod_shifted), rfl, Option.some.inj h, by rw [ht2]; exact hP, hD⟩, hS.F ht2⟩) hS.2.2 dX12_shift_187 hlocks
  · have h := zk_f c_31 h
    refine lv_aload_n hx hb dX12_shift_157 rfl (lv_at hl 0 rfl) ?_
    refine va_get (D := D) (ci := 12) (v := .ref (ad 83)) (C := RX12) (T := TX12) (N := 60) hx hb ht iX12 hown hK hP 0 rfl rfl 58 (by decide) (ht _ kw_1353) (fun _ h9 => h9) rfl dX12_shift_158 ?_
    refine lv_bipush (v := (60 : Int32)) hx hb dX12_shift_161 (by decide) ?_
    refine lv_iload_n hx hb dX12_shift_163 rfl (lv_at hl 1 rfl) ?_
    refine lv_imul hx hb dX12_shift_164 ?_
    refine lv_iload hx hb dX12_shift_165 (lv_at hl 2 rfl) ?_
    refine lv_iadd hx hb dX12_shift_167 ?_
    refine lv_iload hx hb dX12_shift_168 (lv_at hl 4 rfl) ?_
    refine lv_iadd hx hb dX12_shift_170 ?_
    refine lv_aload_n hx hb dX12_shift_171 rfl (lv_at hl 0 rfl) ?_
    refine va_get (D := D) (ci := 12) (v := .ref (ad 84)) (C := RX12) (T := TX12) (N := 60) hx hb ht iX12 hown hK hP 0 rfl rfl 59 (by decide) (ht _ kw_1354) (fun _ h9 => h9) rfl dX12_shift_172 ?_
    refine lv_iload hx hb dX12_shift_175 (lv_at hl 4 rfl) ?_
    obtain ⟨g_32, h⟩ := zk_gd h
    refine va_lald hx hb hK hP 4 1 rfl rfl g_32 dX12_shift_177 ?_
    obtain ⟨v_33, ev_33, h⟩ := zk_lt h
    refine W.eq (g2 := F0 m 178 ls [.long v_33, .int ((((60 : Int32) * x3) + x4) + x6), .ref (ad 83)]) (by rw [ev_33]) ?_
    obtain ⟨g_34, h⟩ := zk_gd h
    obtain ⟨f_35, ef_35, h⟩ := zk_lt h
    refine va_last hx hb hK hP hD hS 3 1 rfl rfl g_34 dX12_shift_178 (fun H locs hP hD hS => ?_)
    have hP : va_P D classes (wl_X12_shift ad cs mod_code mod_shoes mod_claims mod_taped mod_here mod_fault mod_suits mod_doneMany mod_undoneMany mod_open mod_laid mod_isBoth mod_wished mod_bestMany mod_bestRow mod_ringDigits mod_traces mod_holds mod_size f_35 mod_shifted) H := by rw [ef_35]; exact hP
    have hD : va_D A (wl_X12_shift ad cs mod_code mod_shoes mod_claims mod_taped mod_here mod_fault mod_suits mod_doneMany mod_undoneMany mod_open mod_laid mod_isBoth mod_wished mod_bestMany mod_bestRow mod_ringDigits mod_traces mod_holds mod_size f_35 mod_shifted) := by rw [ef_35]; exact hD
    obtain ⟨v_36, ev_36, h⟩ := zk_lt h
    refine lv_iinc (v := v_36) (lv' := [(6, .int v_36), (0, .ref (ad 41)), (3, .int x3), (4, .int x4), (5, .int x5)]) hx hb dX12_shift_179 hl (k := 4) rfl (by rw [ev_36]; rfl) (by decide) rfl (fun ls hl => ?_)
    refine lv_goto (tgt := 150) hx hb dX12_shift_182 (by decide) ?_
    exact ih150 x3 x4 x5 v_36 f_35 mod_shifted h H locs ls hP hD hS (lv_sub hl [1, 2, 3, 4, 0] rfl)
set_option maxHeartbeats 4000000 in
set_option maxRecDepth 100000 in
theorem L_X12_shift_113 {p : Program} {l : Launch} {e : Env} {s : State} {m : MethodId} {args : Array Value} {below : List Frame} {meth : Method} {c : Code} {A : Nat → Prop} {D : va_G} {cs : Nat → ClassId} {ad : Nat → Nat} {mod_code : Int32} {mod_shoes : Int32} {mod_claims : Int32} {mod_taped : Int32} {mod_here : Int32} {mod_fault : Int32} {mod_suits : Int32} {mod_doneMany : Int32} {mod_undoneMany : Int32} {mod_open : Int32} {mod_laid : Int32} {mod_isBoth : Int32} {mod_wished : Int32} {mod_bestMany : Int32} {mod_bestRow : Int32} {mod_ringDigits : Int32} {mod_traces : Int32} {mod_holds : Nat → Int32} {mod_size : Nat → Int32} {R : Int32 × (Nat → Int64) × (Nat → Int64)} {g113 : Int32 → Int32 → Int32 → Int32 → Int32 → Int32 → (Nat → Int64) → (Nat → Int64) → (Option (Int32 × (Nat → Int64) × (Nat → Int64)))} {g150 : Int32 → Int32 → Int32 → Int32 → (Nat → Int64) → (Nat → Int64) → (Option (Int32 × (Nat → Int64) × (Nat → Int64)))} (C0 : zC p s m args meth c cX12_shift 7 (some .int) RX12 zW) (hK : va_K D classes (zT cs) s) (hA : ∀ q : Nat, s.heap.size ≤ q → A q) (ih113 : ∀ (x1 : Int32) (x2 : Int32) (x3 : Int32) (x4 : Int32) (x5 : Int32) (x6 : Int32) (mod_elements : Nat → Int64) (mod_shifted : Nat → Int64) (h : g113 x1 x2 x3 x4 x5 x6 mod_elements mod_shifted = some R) (H : Heap) (locs : List Loc) (ls : Array Slot) (hP : va_P D classes (wl_X12_shift ad cs mod_code mod_shoes mod_claims mod_taped mod_here mod_fault mod_suits mod_doneMany mod_undoneMany mod_open mod_laid mod_isBoth mod_wished mod_bestMany mod_bestRow mod_ringDigits mod_traces mod_holds mod_size mod_elements mod_shifted) H) (hD : va_D A (wl_X12_shift ad cs mod_code mod_shoes mod_claims mod_taped mod_here mod_fault mod_suits mod_doneMany mod_undoneMany mod_open mod_laid mod_isBoth mod_wished mod_bestMany mod_bestRow mod_ringDigits mod_traces mod_holds mod_size mod_elements mod_shifted)) (hS : va_S A s.heap H locs) (hl : lv_has ls 7 [(0, .ref (ad 41)), (1, .int x1), (2, .int x2), (3, .int x3), (4, .int x4), (5, .int x5), (6, .int x6)]), W p l e rm_X12_shift s m args below meth c H locs 0 0 (MQ below (Q_X12_shift D cs ad mod_code mod_shoes mod_claims mod_taped mod_here mod_fault mod_suits mod_doneMany mod_undoneMany mod_open mod_laid mod_isBoth mod_wished mod_bestMany mod_bestRow mod_ringDigits mod_traces mod_holds mod_size A R) args s 0 0 A) (F0 m 113 ls [])) (ih150 : ∀ (x3 : Int32) (x4 : Int32) (x5 : Int32) (x6 : Int32) (mod_elements : Nat → Int64) (mod_shifted : Nat → Int64) (h : g150 x3 x4 x5 x6 mod_elements mod_shifted = some R) (H : Heap) (locs : List Loc) (ls : Array Slot) (hP : va_P D classes (wl_X12_shift ad cs mod_code mod_shoes mod_claims mod_taped mod_here mod_fault mod_suits mod_doneMany mod_undoneMany mod_open mod_laid mod_isBoth mod_wished mod_bestMany mod_bestRow mod_ringDigits mod_traces mod_holds mod_size mod_elements mod_shifted) H) (hD : va_D A (wl_X12_shift ad cs mod_code mod_shoes mod_claims mod_taped mod_here mod_fault mod_suits mod_doneMany mod_undoneMany mod_open mod_laid mod_isBoth mod_wished mod_bestMany mod_bestRow mod_ringDigits mod_traces mod_holds mod_size mod_elements mod_shifted)) (hS : va_S A s.heap H locs) (hl : lv_has ls 7 [(0, .ref (ad 41)), (3, .int x3), (4, .int x4), (5, .int x5), (6, .int x6)]), W p l e rm_X12_shift s m args below meth c H locs 0 0 (MQ below (Q_X12_shift D cs ad mod_code mod_shoes mod_claims mod_taped mod_here mod_fault mod_suits mod_doneMany mod_undoneMany mod_open mod_laid mod_isBoth mod_wished mod_bestMany mod_bestRow mod_ringDigits mod_traces mod_holds mod_size A R) args s 0 0 A) (F0 m 150 ls [])) (x1 : Int32) (x2 : Int32) (x3 : Int32) (x4 : Int32) (x5 : Int32) (x6 : Int32) (mod_elements : Nat → Int64) (mod_shifted : Nat → Int64) (h : B_X12_shift_113 g113 g150 mod_code mod_shoes mod_claims mod_taped mod_here mod_fault mod_suits mod_doneMany mod_undoneMany mod_open mod_laid mod_isBoth mod_wished mod_bestMany mod_bestRow mod_ringDigits mod_traces mod_holds mod_size x1 x2 x3 x4 x5 x6 mod_elements mod_shifted = some R) (H : Heap) (locs : List Loc) (ls : Array Slot) (hP : va_P D classes (wl_X12_shift ad cs mod_code mod_shoes mod_claims mod_taped mod_here mod_fault mod_suits mod_doneMany mod_undoneMany mod_open mod_laid mod_isBoth mod_wished mod_bestMany mod_bestRow mod_ringDigits mod_traces mod_holds mod_size mod_elements mod_shifted) H) (hD : va_D A (wl_X12_shift ad cs mod_code mod_shoes mod_claims mod_taped mod_here mod_fault mod_suits mod_doneMany mod_undoneMany mod_open mod_laid mod_isBoth mod_wished mod_bestMany mod_bestRow mod_ringDigits mod_traces mod_holds mod_size mod_elements mod_shifted)) (hS : va_S A s.heap H locs) (hl : lv_has ls 7 [(0, .ref (ad 41)), (1, .int x1), (2, .int x2), (3, .int x3), (4, .int x4), (5, .int x5), (6, .int x6)]) : W p l e rm_X12_shift s m args below meth c H locs 0 0 (MQ below (Q_X12_shift D cs ad mod_code mod_shoes mod_claims mod_taped mod_here mod_fault mod_suits mod_doneMany mod_undoneMany mod_open mod_laid mod_isBoth mod_wished mod_bestMany mod_bestRow mod_ringDigits mod_traces mod_holds mod_size A R) args s 0 0 A) (F0 m 113 ls []) := by
  obtain ⟨hx, hb, hr, hml, hown, ht, hlocks⟩ := id C0
  refine lv_iload hx hb dX12_shift_113 (lv_at hl 6 rfl) ?_
  refine lv_iload hx hb dX12_shift_115 (lv_at hl 5 rfl) ?_
  refine lv_icmp_ge (tgt := 147) hx hb dX12_shift_117 (by decide) (fun c_25 => ?_) (fun c_25 => ?_)
  · have h := zk_t c_25 h
    refine lv_iconst (v := (0 : Int32)) hx hb dX12_shift_147 (by decide) ?_
    refine lv_istore (lv' := [(6, .int (0 : Int32)), (0, .ref (ad 41)), (1, .int x1), (2, .int x2), (3, .int x3), (4, .int x4), (5, .int x5)]) hx hb dX12_shift_148 hl (by decide) rfl (fun ls hl => ?_)
    exact ih150 x3 x4 x5 (0 : Int32) mod_elements mod_shifted h H locs ls hP hD hS (lv_sub hl [1, 4, 5, 6, 0] rfl)
  · have h := zk_f c_25 h
    refine lv_aload_n hx hb dX12_shift_120 rfl (lv_at hl 0 rfl) ?_
    refine va_get (D := D) (ci := 12) (v := .ref (ad 84)) (C := RX12) (T := TX12) (N := 60) hx hb ht iX12 hown hK hP 0 rfl rfl 59 (by decide) (ht _ kw_1354) (fun _ h9 => h9) rfl dX12_shift_121 ?_
    refine lv_iload hx hb dX12_shift_124 (lv_at hl 6 rfl) ?_
    refine lv_aload_n hx hb dX12_shift_126 rfl (lv_at hl 0 rfl) ?_
    refine va_get (D := D) (ci := 12) (v := .ref (ad 83)) (C := RX12) (T := TX12) (N := 60) hx hb ht iX12 hown hK hP 0 rfl rfl 58 (by decide) (ht _ kw_1353) (fun _ h9 => h9) rfl dX12_shift_127 ?_
    refine lv_bipush (v := (60 : Int32)) hx hb dX12_shift_130 (by decide) ?_
    refine lv_iload_n hx hb dX12_shift_132 rfl (lv_at hl 1 rfl) ?_
    refine lv_imul hx hb dX12_shift_133 ?_
    refine lv_iload_n hx hb dX12_shift_134 rfl (lv_at hl 2 rfl) ?_
    refine lv_iadd hx hb dX12_shift_135 ?_
    refine lv_iload hx hb dX12_shift_136 (lv_at hl 6 rfl) ?_
    refine lv_iadd hx hb dX12_shift_138 ?_
    obtain ⟨g_26, h⟩ := zk_gd h
    refine va_lald hx hb hK hP 3 1 rfl rfl g_26 dX12_shift_139 ?_
    obtain ⟨v_27, ev_27, h⟩ := zk_lt h
    refine W.eq (g2 := F0 m 140 ls [.long v_27, .int x6, .ref (ad 84)]) (by rw [ev_27]) ?_
    obtain ⟨g_28, h⟩ := zk_gd h
    obtain ⟨f_29, ef_29, h⟩ := zk_lt h
    refine va_last hx hb hK hP hD hS 4 1 rfl rfl g_28 dX12_shift_140 (fun H locs hP hD hS => ?_)
    have hP : va_P D classes (wl_X12_shift ad cs mod_code mod_shoes mod_claims mod_taped mod_here mod_fault mod_suits mod_doneMany mod_undoneMany mod_open mod_laid mod_isBoth mod_wished mod_bestMany mod_bestRow mod_ringDigits mod_traces mod_holds mod_size mod_elements f_29) H := by rw [ef_29]; exact hP
    have hD : va_D A (wl_X12_shift ad cs mod_code mod_shoes mod_claims mod_taped mod_here mod_fault mod_suits mod_doneMany mod_undoneMany mod_open mod_laid mod_isBoth mod_wished mod_bestMany mod_bestRow mod_ringDigits mod_traces mod_holds mod_size mod_elements f_29) := by rw [ef_29]; exact hD
    obtain ⟨v_30, ev_30, h⟩ := zk_lt h
    refine lv_iinc (v := v_30) (lv' := [(6, .int v_30), (0, .ref (ad 41)), (1, .int x1), (2, .int x2), (3, .int x3), (4, .int x4), (5, .int x5)]) hx hb dX12_shift_141 hl (k := 6) rfl (by rw [ev_30]; rfl) (by decide) rfl (fun ls hl => ?_)
    refine lv_goto (tgt := 113) hx hb dX12_shift_144 (by decide) ?_
    exact ih113 x1 x2 x3 x4 x5 v_30 mod_elements f_29 h H locs ls hP hD hS (lv_sub hl [1, 2, 3, 4, 5, 6, 0] rfl)
set_option maxHeartbeats 4000000 in
set_option maxRecDepth 100000 in
theorem L_X12_shift_0 {p : Program} {l : Launch} {e : Env} {s : State} {m : MethodId} {args : Array Value} {below : List Frame} {meth : Method} {c : Code} {A : Nat → Prop} {D : va_G} {cs : Nat → ClassId} {ad : Nat → Nat} {mod_code : Int32} {mod_shoes : Int32} {mod_claims : Int32} {mod_taped : Int32} {mod_here : Int32} {mod_fault : Int32} {mod_suits : Int32} {mod_doneMany : Int32} {mod_undoneMany : Int32} {mod_open : Int32} {mod_laid : Int32} {mod_isBoth : Int32} {mod_wished : Int32} {mod_bestMany : Int32} {mod_bestRow : Int32} {mod_ringDigits : Int32} {mod_traces : Int32} {mod_holds : Nat → Int32} {mod_size : Nat → Int32} {R : Int32 × (Nat → Int64) × (Nat → Int64)} {g113 : Int32 → Int32 → Int32 → Int32 → Int32 → Int32 → (Nat → Int64) → (Nat → Int64) → (Option (Int32 × (Nat → Int64) × (Nat → Int64)))} {g150 : Int32 → Int32 → Int32 → Int32 → (Nat → Int64) → (Nat → Int64) → (Option (Int32 × (Nat → Int64) × (Nat → Int64)))} (C0 : zC p s m args meth c cX12_shift 7 (some .int) RX12 zW) (hK : va_K D classes (zT cs) s) (hA : ∀ q : Nat, s.heap.size ≤ q → A q) (ih113 : ∀ (x1 : Int32) (x2 : Int32) (x3 : Int32) (x4 : Int32) (x5 : Int32) (x6 : Int32) (mod_elements : Nat → Int64) (mod_shifted : Nat → Int64) (h : g113 x1 x2 x3 x4 x5 x6 mod_elements mod_shifted = some R) (H : Heap) (locs : List Loc) (ls : Array Slot) (hP : va_P D classes (wl_X12_shift ad cs mod_code mod_shoes mod_claims mod_taped mod_here mod_fault mod_suits mod_doneMany mod_undoneMany mod_open mod_laid mod_isBoth mod_wished mod_bestMany mod_bestRow mod_ringDigits mod_traces mod_holds mod_size mod_elements mod_shifted) H) (hD : va_D A (wl_X12_shift ad cs mod_code mod_shoes mod_claims mod_taped mod_here mod_fault mod_suits mod_doneMany mod_undoneMany mod_open mod_laid mod_isBoth mod_wished mod_bestMany mod_bestRow mod_ringDigits mod_traces mod_holds mod_size mod_elements mod_shifted)) (hS : va_S A s.heap H locs) (hl : lv_has ls 7 [(0, .ref (ad 41)), (1, .int x1), (2, .int x2), (3, .int x3), (4, .int x4), (5, .int x5), (6, .int x6)]), W p l e rm_X12_shift s m args below meth c H locs 0 0 (MQ below (Q_X12_shift D cs ad mod_code mod_shoes mod_claims mod_taped mod_here mod_fault mod_suits mod_doneMany mod_undoneMany mod_open mod_laid mod_isBoth mod_wished mod_bestMany mod_bestRow mod_ringDigits mod_traces mod_holds mod_size A R) args s 0 0 A) (F0 m 113 ls [])) (ih150 : ∀ (x3 : Int32) (x4 : Int32) (x5 : Int32) (x6 : Int32) (mod_elements : Nat → Int64) (mod_shifted : Nat → Int64) (h : g150 x3 x4 x5 x6 mod_elements mod_shifted = some R) (H : Heap) (locs : List Loc) (ls : Array Slot) (hP : va_P D classes (wl_X12_shift ad cs mod_code mod_shoes mod_claims mod_taped mod_here mod_fault mod_suits mod_doneMany mod_undoneMany mod_open mod_laid mod_isBoth mod_wished mod_bestMany mod_bestRow mod_ringDigits mod_traces mod_holds mod_size mod_elements mod_shifted) H) (hD : va_D A (wl_X12_shift ad cs mod_code mod_shoes mod_claims mod_taped mod_here mod_fault mod_suits mod_doneMany mod_undoneMany mod_open mod_laid mod_isBoth mod_wished mod_bestMany mod_bestRow mod_ringDigits mod_traces mod_holds mod_size mod_elements mod_shifted)) (hS : va_S A s.heap H locs) (hl : lv_has ls 7 [(0, .ref (ad 41)), (3, .int x3), (4, .int x4), (5, .int x5), (6, .int x6)]), W p l e rm_X12_shift s m args below meth c H locs 0 0 (MQ below (Q_X12_shift D cs ad mod_code mod_shoes mod_claims mod_taped mod_here mod_fault mod_suits mod_doneMany mod_undoneMany mod_open mod_laid mod_isBoth mod_wished mod_bestMany mod_bestRow mod_ringDigits mod_traces mod_holds mod_size A R) args s 0 0 A) (F0 m 150 ls [])) (x1 : Int32) (x2 : Int32) (x3 : Int32) (x4 : Int32) (x5 : Int32) (mod_elements : Nat → Int64) (mod_shifted : Nat → Int64) (h : B_X12_shift_0 g113 g150 mod_code mod_shoes mod_claims mod_taped mod_here mod_fault mod_suits mod_doneMany mod_undoneMany mod_open mod_laid mod_isBoth mod_wished mod_bestMany mod_bestRow mod_ringDigits mod_traces mod_holds mod_size x1 x2 x3 x4 x5 mod_elements mod_shifted = some R) (H : Heap) (locs : List Loc) (ls : Array Slot) (hP : va_P D classes (wl_X12_shift ad cs mod_code mod_shoes mod_claims mod_taped mod_here mod_fault mod_suits mod_doneMany mod_undoneMany mod_open mod_laid mod_isBoth mod_wished mod_bestMany mod_bestRow mod_ringDigits mod_traces mod_holds mod_size mod_elements mod_shifted) H) (hD : va_D A (wl_X12_shift ad cs mod_code mod_shoes mod_claims mod_taped mod_here mod_fault mod_suits mod_doneMany mod_undoneMany mod_open mod_laid mod_isBoth mod_wished mod_bestMany mod_bestRow mod_ringDigits mod_traces mod_holds mod_size mod_elements mod_shifted)) (hS : va_S A s.heap H locs) (hl : lv_has ls 7 [(0, .ref (ad 41)), (1, .int x1), (2, .int x2), (3, .int x3), (4, .int x4), (5, .int x5)]) : W p l e rm_X12_shift s m args below meth c H locs 0 0 (MQ below (Q_X12_shift D cs ad mod_code mod_shoes mod_claims mod_taped mod_here mod_fault mod_suits mod_doneMany mod_undoneMany mod_open mod_laid mod_isBoth mod_wished mod_bestMany mod_bestRow mod_ringDigits mod_traces mod_holds mod_size A R) args s 0 0 A) (F0 m 0 ls []) := by
  obtain ⟨hx, hb, hr, hml, hown, ht, hlocks⟩ := id C0
  refine lv_iload_n hx hb dX12_shift_0 rfl (lv_at hl 1 rfl) ?_
  obtain ⟨r_1, u_2, hc_3, h⟩ := zk_o2 h
  refine zz_si (post := (fun r u => (r, u) = (r_1, u_2))) (w1 := fun u => (wl_X12_isShelf ad cs )) (As := [.int x1]) (rest := []) (c_X12_isShelf l D cs ad  H.size x1 (r_1, u_2) hc_3) ⟨hx, hb, hml, hown, ht⟩ (va_cwS 1 ht g_X12_167 rfl rfl rfl hd_X12_isShelf ⟨Nat.le_of_ble_eq_true rfl, Nat.le_of_ble_eq_true rfl⟩) hP hD hS hK hA [] rfl rfl [] rfl (fun _ => rfl) rfl hl.1 (Nat.le_of_ble_eq_true rfl) dX12_shift_1 ⟨Nat.zero_le _, Nat.zero_le _⟩ (fun r u H locs hq hP hS => ?_)
  cases hq
  have hP : va_P D classes (wl_X12_shift ad cs mod_code mod_shoes mod_claims mod_taped mod_here mod_fault mod_suits mod_doneMany mod_undoneMany mod_open mod_laid mod_isBoth mod_wished mod_bestMany mod_bestRow mod_ringDigits mod_traces mod_holds mod_size mod_elements mod_shifted) H := hP
  refine lv_if_eq (tgt := 14) hx hb dX12_shift_4 (by decide) (fun c_4 => ?_) (fun c_4 => ?_)
  · have h := zk_t c_4 h
    refine lv_iconst (v := (-1 : Int32)) hx hb dX12_shift_14 (by decide) ?_
    exact W.iret (v := (-1 : Int32)) hx hb hr (fun t ht2 hW => ⟨⟨(-1 : Int32), (mod_elements, mod_shifted), rfl, Option.some.inj h, by rw [ht2]; exact hP, hD⟩, hS.F ht2⟩) hS.2.2 dX12_shift_15 hlocks
  · have h := zk_f c_4 h
    refine lv_iload_n hx hb dX12_shift_7 rfl (lv_at hl 3 rfl) ?_
    obtain ⟨r_5, u_6, hc_7, h⟩ := zk_o2 h
    refine zz_si (post := (fun r u => (r, u) = (r_5, u_6))) (w1 := fun u => (wl_X12_isShelf ad cs )) (As := [.int x3]) (rest := []) (c_X12_isShelf l D cs ad  H.size x3 (r_5, u_6) hc_7) ⟨hx, hb, hml, hown, ht⟩ (va_cwS 1 ht g_X12_167 rfl rfl rfl hd_X12_isShelf ⟨Nat.le_of_ble_eq_true rfl, Nat.le_of_ble_eq_true rfl⟩) hP hD hS hK hA [] rfl rfl [] rfl (fun _ => rfl) rfl hl.1 (Nat.le_of_ble_eq_true rfl) dX12_shift_8 ⟨Nat.zero_le _, Nat.zero_le _⟩ (fun r u H locs hq hP hS => ?_)
    cases hq
    have hP : va_P D classes (wl_X12_shift ad cs mod_code mod_shoes mod_claims mod_taped mod_here mod_fault mod_suits mod_doneMany mod_undoneMany mod_open mod_laid mod_isBoth mod_wished mod_bestMany mod_bestRow mod_ringDigits mod_traces mod_holds mod_size mod_elements mod_shifted) H := hP
    refine lv_if_ne (tgt := 16) hx hb dX12_shift_11 (by decide) (fun c_8 => ?_) (fun c_8 => ?_)
    · have h := zk_f c_8 h
      refine lv_aload_n hx hb dX12_shift_16 rfl (lv_at hl 0 rfl) ?_
      refine va_get (D := D) (ci := 12) (v := .ref (ad 81)) (C := RX12) (T := TX12) (N := 60) hx hb ht iX12 hown hK hP 0 rfl rfl 56 (by decide) (ht _ kw_1351) (fun _ h9 => h9) rfl dX12_shift_17 ?_
      refine lv_iload_n hx hb dX12_shift_20 rfl (lv_at hl 1 rfl) ?_
      obtain ⟨g_9, h⟩ := zk_gd h
      refine va_iald hx hb hK hP 1 0 rfl rfl g_9 dX12_shift_21 ?_
      refine lv_iconst (v := (-1 : Int32)) hx hb dX12_shift_22 (by decide) ?_
      refine lv_icmp_eq (tgt := 36) hx hb dX12_shift_23 (by decide) (fun c_10 => ?_) (fun c_10 => ?_)
      · have h := zk_t c_10 h
        refine lv_bipush (v := (-11 : Int32)) hx hb dX12_shift_36 (by decide) ?_
        exact W.iret (v := (-11 : Int32)) hx hb hr (fun t ht2 hW => ⟨⟨(-11 : Int32), (mod_elements, mod_shifted), rfl, Option.some.inj h, by rw [ht2]; exact hP, hD⟩, hS.F ht2⟩) hS.2.2 dX12_shift_38 hlocks
      · have h := zk_f c_10 h
        refine lv_aload_n hx hb dX12_shift_26 rfl (lv_at hl 0 rfl) ?_
        refine va_get (D := D) (ci := 12) (v := .ref (ad 81)) (C := RX12) (T := TX12) (N := 60) hx hb ht iX12 hown hK hP 0 rfl rfl 56 (by decide) (ht _ kw_1351) (fun _ h9 => h9) rfl dX12_shift_27 ?_
        refine lv_iload_n hx hb dX12_shift_30 rfl (lv_at hl 3 rfl) ?_
        obtain ⟨g_11, h⟩ := zk_gd h
        refine va_iald hx hb hK hP 1 0 rfl rfl g_11 dX12_shift_31 ?_
        refine lv_iconst (v := (-1 : Int32)) hx hb dX12_shift_32 (by decide) ?_
        refine lv_icmp_ne (tgt := 39) hx hb dX12_shift_33 (by decide) (fun c_12 => ?_) (fun c_12 => ?_)
        · have h := zk_f c_12 h
          refine lv_aload_n hx hb dX12_shift_39 rfl (lv_at hl 0 rfl) ?_
          refine va_get (D := D) (ci := 12) (v := .ref (ad 81)) (C := RX12) (T := TX12) (N := 60) hx hb ht iX12 hown hK hP 0 rfl rfl 56 (by decide) (ht _ kw_1351) (fun _ h9 => h9) rfl dX12_shift_40 ?_
          refine lv_iload_n hx hb dX12_shift_43 rfl (lv_at hl 1 rfl) ?_
          obtain ⟨g_13, h⟩ := zk_gd h
          refine va_iald hx hb hK hP 1 0 rfl rfl g_13 dX12_shift_44 ?_
          refine lv_if_ge (tgt := 63) hx hb dX12_shift_45 (by decide) (fun c_14 => ?_) (fun c_14 => ?_)
          · have h := zk_t c_14 h
            refine lv_bipush (v := (-12 : Int32)) hx hb dX12_shift_63 (by decide) ?_
            exact W.iret (v := (-12 : Int32)) hx hb hr (fun t ht2 hW => ⟨⟨(-12 : Int32), (mod_elements, mod_shifted), rfl, Option.some.inj h, by rw [ht2]; exact hP, hD⟩, hS.F ht2⟩) hS.2.2 dX12_shift_65 hlocks
          · have h := zk_f c_14 h
            refine lv_aload_n hx hb dX12_shift_48 rfl (lv_at hl 0 rfl) ?_
            refine va_get (D := D) (ci := 12) (v := .ref (ad 81)) (C := RX12) (T := TX12) (N := 60) hx hb ht iX12 hown hK hP 0 rfl rfl 56 (by decide) (ht _ kw_1351) (fun _ h9 => h9) rfl dX12_shift_49 ?_
            refine lv_iload_n hx hb dX12_shift_52 rfl (lv_at hl 1 rfl) ?_
            obtain ⟨g_15, h⟩ := zk_gd h
            refine va_iald hx hb hK hP 1 0 rfl rfl g_15 dX12_shift_53 ?_
            refine lv_aload_n hx hb dX12_shift_54 rfl (lv_at hl 0 rfl) ?_
            refine va_get (D := D) (ci := 12) (v := .ref (ad 81)) (C := RX12) (T := TX12) (N := 60) hx hb ht iX12 hown hK hP 0 rfl rfl 56 (by decide) (ht _ kw_1351) (fun _ h9 => h9) rfl dX12_shift_55 ?_
            refine lv_iload_n hx hb dX12_shift_58 rfl (lv_at hl 3 rfl) ?_
            obtain ⟨g_16, h⟩ := zk_gd h
            refine va_iald hx hb hK hP 1 0 rfl rfl g_16 dX12_shift_59 ?_
            refine lv_icmp_eq (tgt := 66) hx hb dX12_shift_60 (by decide) (fun c_17 => ?_) (fun c_17 => ?_)
            · have h := zk_t c_17 h
              refine lv_iload hx hb dX12_shift_66 (lv_at hl 5 rfl) ?_
              refine lv_if_lt (tgt := 107) hx hb dX12_shift_68 (by decide) (fun c_18 => ?_) (fun c_18 => ?_)
              · have h := zk_t c_18 h
                refine lv_bipush (v := (-13 : Int32)) hx hb dX12_shift_107 (by decide) ?_
                exact W.iret (v := (-13 : Int32)) hx hb hr (fun t ht2 hW => ⟨⟨(-13 : Int32), (mod_elements, mod_shifted), rfl, Option.some.inj h, by rw [ht2]; exact hP, hD⟩, hS.F ht2⟩) hS.2.2 dX12_shift_109 hlocks
              · have h := zk_f c_18 h
                refine lv_iload_n hx hb dX12_shift_71 rfl (lv_at hl 2 rfl) ?_
                refine lv_if_lt (tgt := 107) hx hb dX12_shift_72 (by decide) (fun c_19 => ?_) (fun c_19 => ?_)
                · have h := zk_t c_19 h
                  refine lv_bipush (v := (-13 : Int32)) hx hb dX12_shift_107 (by decide) ?_
                  exact W.iret (v := (-13 : Int32)) hx hb hr (fun t ht2 hW => ⟨⟨(-13 : Int32), (mod_elements, mod_shifted), rfl, Option.some.inj h, by rw [ht2]; exact hP, hD⟩, hS.F ht2⟩) hS.2.2 dX12_shift_109 hlocks
                · have h := zk_f c_19 h
                  refine lv_iload hx hb dX12_shift_75 (lv_at hl 4 rfl) ?_
                  refine lv_if_lt (tgt := 107) hx hb dX12_shift_77 (by decide) (fun c_20 => ?_) (fun c_20 => ?_)
                  · have h := zk_t c_20 h
                    refine lv_bipush (v := (-13 : Int32)) hx hb dX12_shift_107 (by decide) ?_
                    exact W.iret (v := (-13 : Int32)) hx hb hr (fun t ht2 hW => ⟨⟨(-13 : Int32), (mod_elements, mod_shifted), rfl, Option.some.inj h, by rw [ht2]; exact hP, hD⟩, hS.F ht2⟩) hS.2.2 dX12_shift_109 hlocks
                  · have h := zk_f c_20 h
                    refine lv_iload_n hx hb dX12_shift_80 rfl (lv_at hl 2 rfl) ?_
                    refine lv_aload_n hx hb dX12_shift_81 rfl (lv_at hl 0 rfl) ?_
                    refine va_get (D := D) (ci := 12) (v := .ref (ad 82)) (C := RX12) (T := TX12) (N := 60) hx hb ht iX12 hown hK hP 0 rfl rfl 57 (by decide) (ht _ kw_1352) (fun _ h9 => h9) rfl dX12_shift_82 ?_
                    refine lv_iload_n hx hb dX12_shift_85 rfl (lv_at hl 1 rfl) ?_
                    obtain ⟨g_21, h⟩ := zk_gd h
                    refine va_iald hx hb hK hP 2 0 rfl rfl g_21 dX12_shift_86 ?_
                    refine lv_iload hx hb dX12_shift_87 (lv_at hl 5 rfl) ?_
                    refine lv_isub hx hb dX12_shift_89 ?_
                    refine lv_icmp_gt (tgt := 107) hx hb dX12_shift_90 (by decide) (fun c_22 => ?_) (fun c_22 => ?_)
                    · have h := zk_t c_22 h
                      refine lv_bipush (v := (-13 : Int32)) hx hb dX12_shift_107 (by decide) ?_
                      exact W.iret (v := (-13 : Int32)) hx hb hr (fun t ht2 hW => ⟨⟨(-13 : Int32), (mod_elements, mod_shifted), rfl, Option.some.inj h, by rw [ht2]; exact hP, hD⟩, hS.F ht2⟩) hS.2.2 dX12_shift_109 hlocks
                    · have h := zk_f c_22 h
                      refine lv_iload hx hb dX12_shift_93 (lv_at hl 4 rfl) ?_
                      refine lv_aload_n hx hb dX12_shift_95 rfl (lv_at hl 0 rfl) ?_
                      refine va_get (D := D) (ci := 12) (v := .ref (ad 82)) (C := RX12) (T := TX12) (N := 60) hx hb ht iX12 hown hK hP 0 rfl rfl 57 (by decide) (ht _ kw_1352) (fun _ h9 => h9) rfl dX12_shift_96 ?_
                      refine lv_iload_n hx hb dX12_shift_99 rfl (lv_at hl 3 rfl) ?_
                      obtain ⟨g_23, h⟩ := zk_gd h
                      refine va_iald hx hb hK hP 2 0 rfl rfl g_23 dX12_shift_100 ?_
                      refine lv_iload hx hb dX12_shift_101 (lv_at hl 5 rfl) ?_
                      refine lv_isub hx hb dX12_shift_103 ?_
                      refine lv_icmp_le (tgt := 110) hx hb dX12_shift_104 (by decide) (fun c_24 => ?_) (fun c_24 => ?_)
                      · have h := zk_t c_24 h
                        refine lv_iconst (v := (0 : Int32)) hx hb dX12_shift_110 (by decide) ?_
                        refine lv_istore (lv' := [(6, .int (0 : Int32)), (0, .ref (ad 41)), (1, .int x1), (2, .int x2), (3, .int x3), (4, .int x4), (5, .int x5)]) hx hb dX12_shift_111 hl (by decide) rfl (fun ls hl => ?_)
                        exact ih113 x1 x2 x3 x4 x5 (0 : Int32) mod_elements mod_shifted h H locs ls hP hD hS (lv_sub hl [1, 2, 3, 4, 5, 6, 0] rfl)
                      · have h := zk_f c_24 h
                        refine lv_bipush (v := (-13 : Int32)) hx hb dX12_shift_107 (by decide) ?_
                        exact W.iret (v := (-13 : Int32)) hx hb hr (fun t ht2 hW => ⟨⟨(-13 : Int32), (mod_elements, mod_shifted), rfl, Option.some.inj h, by rw [ht2]; exact hP, hD⟩, hS.F ht2⟩) hS.2.2 dX12_shift_109 hlocks
            · have h := zk_f c_17 h
              refine lv_bipush (v := (-12 : Int32)) hx hb dX12_shift_63 (by decide) ?_
              exact W.iret (v := (-12 : Int32)) hx hb hr (fun t ht2 hW => ⟨⟨(-12 : Int32), (mod_elements, mod_shifted), rfl, Option.some.inj h, by rw [ht2]; exact hP, hD⟩, hS.F ht2⟩) hS.2.2 dX12_shift_65 hlocks
        · have h := zk_t c_12 h
          refine lv_bipush (v := (-11 : Int32)) hx hb dX12_shift_36 (by decide) ?_
          exact W.iret (v := (-11 : Int32)) hx hb hr (fun t ht2 hW => ⟨⟨(-11 : Int32), (mod_elements, mod_shifted), rfl, Option.some.inj h, by rw [ht2]; exact hP, hD⟩, hS.F ht2⟩) hS.2.2 dX12_shift_38 hlocks
    · have h := zk_t c_8 h
      refine lv_iconst (v := (-1 : Int32)) hx hb dX12_shift_14 (by decide) ?_
      exact W.iret (v := (-1 : Int32)) hx hb hr (fun t ht2 hW => ⟨⟨(-1 : Int32), (mod_elements, mod_shifted), rfl, Option.some.inj h, by rw [ht2]; exact hP, hD⟩, hS.F ht2⟩) hS.2.2 dX12_shift_15 hlocks
theorem LG_X12_shift {p : Program} {l : Launch} {e : Env} {s : State} {m : MethodId} {args : Array Value} {below : List Frame} {meth : Method} {c : Code} {A : Nat → Prop} {D : va_G} {cs : Nat → ClassId} {ad : Nat → Nat} {mod_code : Int32} {mod_shoes : Int32} {mod_claims : Int32} {mod_taped : Int32} {mod_here : Int32} {mod_fault : Int32} {mod_suits : Int32} {mod_doneMany : Int32} {mod_undoneMany : Int32} {mod_open : Int32} {mod_laid : Int32} {mod_isBoth : Int32} {mod_wished : Int32} {mod_bestMany : Int32} {mod_bestRow : Int32} {mod_ringDigits : Int32} {mod_traces : Int32} {mod_holds : Nat → Int32} {mod_size : Nat → Int32} {R : Int32 × (Nat → Int64) × (Nat → Int64)} (C0 : zC p s m args meth c cX12_shift 7 (some .int) RX12 zW) (hK : va_K D classes (zT cs) s) (hA : ∀ q : Nat, s.heap.size ≤ q → A q) : ∀ n : Nat, (∀ (x1 : Int32) (x2 : Int32) (x3 : Int32) (x4 : Int32) (x5 : Int32) (x6 : Int32) (mod_elements : Nat → Int64) (mod_shifted : Nat → Int64) (h : (G_X12_shift   mod_code mod_shoes mod_claims mod_taped mod_here mod_fault mod_suits mod_doneMany mod_undoneMany mod_open mod_laid mod_isBoth mod_wished mod_bestMany mod_bestRow mod_ringDigits mod_traces mod_holds mod_size n).1 x1 x2 x3 x4 x5 x6 mod_elements mod_shifted = some R) (H : Heap) (locs : List Loc) (ls : Array Slot) (hP : va_P D classes (wl_X12_shift ad cs mod_code mod_shoes mod_claims mod_taped mod_here mod_fault mod_suits mod_doneMany mod_undoneMany mod_open mod_laid mod_isBoth mod_wished mod_bestMany mod_bestRow mod_ringDigits mod_traces mod_holds mod_size mod_elements mod_shifted) H) (hD : va_D A (wl_X12_shift ad cs mod_code mod_shoes mod_claims mod_taped mod_here mod_fault mod_suits mod_doneMany mod_undoneMany mod_open mod_laid mod_isBoth mod_wished mod_bestMany mod_bestRow mod_ringDigits mod_traces mod_holds mod_size mod_elements mod_shifted)) (hS : va_S A s.heap H locs) (hl : lv_has ls 7 [(0, .ref (ad 41)), (1, .int x1), (2, .int x2), (3, .int x3), (4, .int x4), (5, .int x5), (6, .int x6)]), W p l e rm_X12_shift s m args below meth c H locs 0 0 (MQ below (Q_X12_shift D cs ad mod_code mod_shoes mod_claims mod_taped mod_here mod_fault mod_suits mod_doneMany mod_undoneMany mod_open mod_laid mod_isBoth mod_wished mod_bestMany mod_bestRow mod_ringDigits mod_traces mod_holds mod_size A R) args s 0 0 A) (F0 m 113 ls [])) ∧ (∀ (x3 : Int32) (x4 : Int32) (x5 : Int32) (x6 : Int32) (mod_elements : Nat → Int64) (mod_shifted : Nat → Int64) (h : (G_X12_shift   mod_code mod_shoes mod_claims mod_taped mod_here mod_fault mod_suits mod_doneMany mod_undoneMany mod_open mod_laid mod_isBoth mod_wished mod_bestMany mod_bestRow mod_ringDigits mod_traces mod_holds mod_size n).2 x3 x4 x5 x6 mod_elements mod_shifted = some R) (H : Heap) (locs : List Loc) (ls : Array Slot) (hP : va_P D classes (wl_X12_shift ad cs mod_code mod_shoes mod_claims mod_taped mod_here mod_fault mod_suits mod_doneMany mod_undoneMany mod_open mod_laid mod_isBoth mod_wished mod_bestMany mod_bestRow mod_ringDigits mod_traces mod_holds mod_size mod_elements mod_shifted) H) (hD : va_D A (wl_X12_shift ad cs mod_code mod_shoes mod_claims mod_taped mod_here mod_fault mod_suits mod_doneMany mod_undoneMany mod_open mod_laid mod_isBoth mod_wished mod_bestMany mod_bestRow mod_ringDigits mod_traces mod_holds mod_size mod_elements mod_shifted)) (hS : va_S A s.heap H locs) (hl : lv_has ls 7 [(0, .ref (ad 41)), (3, .int x3), (4, .int x4), (5, .int x5), (6, .int x6)]), W p l e rm_X12_shift s m args below meth c H locs 0 0 (MQ below (Q_X12_shift D cs ad mod_code mod_shoes mod_claims mod_taped mod_here mod_fault mod_suits mod_doneMany mod_undoneMany mod_open mod_laid mod_isBoth mod_wished mod_bestMany mod_bestRow mod_ringDigits mod_traces mod_holds mod_size A R) args s 0 0 A) (F0 m 150 ls [])) := by
  intro n
  induction n with
  | zero =>
    refine ⟨?_, ?_⟩ <;> (intros; rename_i h _ _ _ _ _ _ _; cases h)
  | succ n ih =>
    exact ⟨L_X12_shift_113 C0 hK hA  ih.1 ih.2, L_X12_shift_150 C0 hK hA  ih.1 ih.2⟩
set_option maxHeartbeats 4000000 in
set_option maxRecDepth 100000 in
theorem c_X12_shift (l : Launch) (D : va_G) (cs : Nat → ClassId) (ad : Nat → Nat) (sz : Nat) (n : Nat) (x1 : Int32) (x2 : Int32) (x3 : Int32) (x4 : Int32) (x5 : Int32) (mod_code : Int32) (mod_shoes : Int32) (mod_claims : Int32) (mod_taped : Int32) (mod_here : Int32) (mod_fault : Int32) (mod_suits : Int32) (mod_doneMany : Int32) (mod_undoneMany : Int32) (mod_open : Int32) (mod_laid : Int32) (mod_isBoth : Int32) (mod_wished : Int32) (mod_bestMany : Int32) (mod_bestRow : Int32) (mod_ringDigits : Int32) (mod_traces : Int32) (mod_holds : Nat → Int32) (mod_size : Nat → Int32) (mod_elements : Nat → Int64) (mod_shifted : Nat → Int64) (R : Int32 × (Nat → Int64) × (Nat → Int64)) (h : f_X12_shift   n x1 x2 x3 x4 x5 mod_code mod_shoes mod_claims mod_taped mod_here mod_fault mod_suits mod_doneMany mod_undoneMany mod_open mod_laid mod_isBoth mod_wished mod_bestMany mod_bestRow mod_ringDigits mod_traces mod_holds mod_size mod_elements mod_shifted = some R) : Met l yX12_shift (z_X12_shift) rm_X12_shift (va_Pc [.ref (ad 41), .int x1, .int x2, .int x3, .int x4, .int x5] (zPre D cs (wl_X12_shift ad cs mod_code mod_shoes mod_claims mod_taped mod_here mod_fault mod_suits mod_doneMany mod_undoneMany mod_open mod_laid mod_isBoth mod_wished mod_bestMany mod_bestRow mod_ringDigits mod_traces mod_holds mod_size mod_elements mod_shifted) sz)) (Q_X12_shift D cs ad mod_code mod_shoes mod_claims mod_taped mod_here mod_fault mod_suits mod_doneMany mod_undoneMany mod_open mod_laid mod_isBoth mod_wished mod_bestMany mod_bestRow mod_ringDigits mod_traces mod_holds mod_size (va_A (wl_X12_shift ad cs mod_code mod_shoes mod_claims mod_taped mod_here mod_fault mod_suits mod_doneMany mod_undoneMany mod_open mod_laid mod_isBoth mod_wished mod_bestMany mod_bestRow mod_ringDigits mod_traces mod_holds mod_size mod_elements mod_shifted) sz) R) 0 0 (va_A (wl_X12_shift ad cs mod_code mod_shoes mod_claims mod_taped mod_here mod_fault mod_suits mod_doneMany mod_undoneMany mod_open mod_laid mod_isBoth mod_wished mod_bestMany mod_bestRow mod_ringDigits mod_traces mod_holds mod_size mod_elements mod_shifted) sz) := by
  refine Met.ofW (cc := cX12_shift) (maxL := 7) (ret := (some .int)) (by decide) rfl ?_
  intro p e s m args below meth c s₁ B hml hv
  obtain ⟨rfl, hsz, hP, hK, hD0⟩ := hv
  subst hsz
  have hD := hD0.self (sz := s.heap.size)
  have C0 : zC p s m _ meth c cX12_shift 7 (some .int) RX12 zW := ⟨B.exec, B.bytes, B.returns, hml, findClass_of_methodNamed B.named, fun w hw => atoms_spec (ws := z_X12_shift) B.pre w (List.mem_cons_of_mem _ hw), B.notSynchronized⟩
  have hA : ∀ q : Nat, s.heap.size ≤ q → va_A (wl_X12_shift ad cs mod_code mod_shoes mod_claims mod_taped mod_here mod_fault mod_suits mod_doneMany mod_undoneMany mod_open mod_laid mod_isBoth mod_wished mod_bestMany mod_bestRow mod_ringDigits mod_traces mod_holds mod_size mod_elements mod_shifted) s.heap.size q := fun q h => Or.inr h
  have hl := lv_entry ([.ref (ad 41), .int x1, .int x2, .int x3, .int x4, .int x5]) (n := 7) (Nat.le_of_ble_eq_true rfl)
  rw [lg_entry_eq]
  generalize (lg_sl ([.ref (ad 41), .int x1, .int x2, .int x3, .int x4, .int x5]) ++ List.replicate (7 - (lg_sl ([.ref (ad 41), .int x1, .int x2, .int x3, .int x4, .int x5])).length) Slot.unset).toArray = ls at hl ⊢
  exact L_X12_shift_0 C0 hK hA  ((LG_X12_shift C0 hK hA  n).1) ((LG_X12_shift C0 hK hA  n).2) x1 x2 x3 x4 x5 mod_elements mod_shifted h s.heap [] ls hP hD va_S.rf hl
theorem zh_cX12_taken_0 : zck [27, 184, 0, 167, 153, 0, 13, 28, 3, 16, 6, 184, 0, 147, 154, 0, 5, 2, 172, 42, 180, 0] (zdu 0 cX12_taken.data.toList) = true := by decide +kernel
theorem dX12_taken_0 : decode cX12_taken 0 = .ok (.iload_n 1, 1) := zo_27 zh_cX12_taken_0 0 rfl
theorem dX12_taken_1 : decode cX12_taken 1 = .ok (.invokestatic 167, 3) := zo_184 zh_cX12_taken_0 1 rfl
theorem dX12_taken_4 : decode cX12_taken 4 = .ok (.ifCond .eq 13, 3) := zo_p153 zh_cX12_taken_0 4 13 rfl rfl
theorem dX12_taken_7 : decode cX12_taken 7 = .ok (.iload_n 2, 1) := zo_28 zh_cX12_taken_0 7 rfl
theorem dX12_taken_8 : decode cX12_taken 8 = .ok (.iconst 0, 1) := zo_3 zh_cX12_taken_0 8 rfl
theorem dX12_taken_9 : decode cX12_taken 9 = .ok (.bipush 6, 2) := zo_p16 zh_cX12_taken_0 9 6 rfl rfl
theorem dX12_taken_11 : decode cX12_taken 11 = .ok (.invokestatic 147, 3) := zo_184 zh_cX12_taken_0 11 rfl
theorem dX12_taken_14 : decode cX12_taken 14 = .ok (.ifCond .ne 5, 3) := zo_p154 zh_cX12_taken_0 14 5 rfl rfl
theorem dX12_taken_17 : decode cX12_taken 17 = .ok (.iconst (-1), 1) := zo_2 zh_cX12_taken_0 17 rfl
theorem dX12_taken_18 : decode cX12_taken 18 = .ok (.ireturn, 1) := zo_172 zh_cX12_taken_0 18 rfl
theorem dX12_taken_19 : decode cX12_taken 19 = .ok (.aload_n 0, 1) := zo_42 zh_cX12_taken_0 19 rfl
theorem zh_cX12_taken_1 : zck [180, 0, 130, 27, 46, 2, 160, 0, 6, 16, 245, 172, 42, 180, 0, 130, 27, 46, 155, 0, 33, 42] (zdu 20 cX12_taken.data.toList) = true := by decide +kernel
theorem dX12_taken_20 : decode cX12_taken 20 = .ok (.getfield 130, 3) := zo_180 zh_cX12_taken_1 0 rfl
theorem dX12_taken_23 : decode cX12_taken 23 = .ok (.iload_n 1, 1) := zo_27 zh_cX12_taken_1 3 rfl
theorem dX12_taken_24 : decode cX12_taken 24 = .ok (.iaload, 1) := zo_46 zh_cX12_taken_1 4 rfl
theorem dX12_taken_25 : decode cX12_taken 25 = .ok (.iconst (-1), 1) := zo_2 zh_cX12_taken_1 5 rfl
theorem dX12_taken_26 : decode cX12_taken 26 = .ok (.if_icmp .ne 6, 3) := zo_p160 zh_cX12_taken_1 6 6 rfl rfl
theorem dX12_taken_29 : decode cX12_taken 29 = .ok (.bipush (-11), 2) := zo_n16 zh_cX12_taken_1 9 10 rfl rfl
theorem dX12_taken_31 : decode cX12_taken 31 = .ok (.ireturn, 1) := zo_172 zh_cX12_taken_1 11 rfl
theorem dX12_taken_32 : decode cX12_taken 32 = .ok (.aload_n 0, 1) := zo_42 zh_cX12_taken_1 12 rfl
theorem dX12_taken_33 : decode cX12_taken 33 = .ok (.getfield 130, 3) := zo_180 zh_cX12_taken_1 13 rfl
theorem dX12_taken_36 : decode cX12_taken 36 = .ok (.iload_n 1, 1) := zo_27 zh_cX12_taken_1 16 rfl
theorem dX12_taken_37 : decode cX12_taken 37 = .ok (.iaload, 1) := zo_46 zh_cX12_taken_1 17 rfl
theorem dX12_taken_38 : decode cX12_taken 38 = .ok (.ifCond .lt 33, 3) := zo_p155 zh_cX12_taken_1 18 33 rfl rfl
theorem zh_cX12_taken_2 : zck [33, 42, 42, 180, 0, 130, 27, 46, 182, 0, 237, 28, 184, 1, 157, 153, 0, 16, 42, 42, 180, 0] (zdu 40 cX12_taken.data.toList) = true := by decide +kernel
theorem dX12_taken_41 : decode cX12_taken 41 = .ok (.aload_n 0, 1) := zo_42 zh_cX12_taken_2 1 rfl
theorem dX12_taken_42 : decode cX12_taken 42 = .ok (.aload_n 0, 1) := zo_42 zh_cX12_taken_2 2 rfl
theorem dX12_taken_43 : decode cX12_taken 43 = .ok (.getfield 130, 3) := zo_180 zh_cX12_taken_2 3 rfl
theorem dX12_taken_46 : decode cX12_taken 46 = .ok (.iload_n 1, 1) := zo_27 zh_cX12_taken_2 6 rfl
theorem dX12_taken_47 : decode cX12_taken 47 = .ok (.iaload, 1) := zo_46 zh_cX12_taken_2 7 rfl
theorem dX12_taken_48 : decode cX12_taken 48 = .ok (.invokevirtual 237, 3) := zo_182 zh_cX12_taken_2 8 rfl
theorem dX12_taken_51 : decode cX12_taken 51 = .ok (.iload_n 2, 1) := zo_28 zh_cX12_taken_2 11 rfl
theorem dX12_taken_52 : decode cX12_taken 52 = .ok (.invokestatic 413, 3) := zo_184 zh_cX12_taken_2 12 rfl
theorem dX12_taken_55 : decode cX12_taken 55 = .ok (.ifCond .eq 16, 3) := zo_p153 zh_cX12_taken_2 15 16 rfl rfl
theorem dX12_taken_58 : decode cX12_taken 58 = .ok (.aload_n 0, 1) := zo_42 zh_cX12_taken_2 18 rfl
theorem dX12_taken_59 : decode cX12_taken 59 = .ok (.aload_n 0, 1) := zo_42 zh_cX12_taken_2 19 rfl
theorem zh_cX12_taken_3 : zck [180, 0, 130, 27, 46, 182, 0, 237, 167, 0, 5, 16, 244, 172] (zdu 60 cX12_taken.data.toList) = true := by decide +kernel
theorem dX12_taken_60 : decode cX12_taken 60 = .ok (.getfield 130, 3) := zo_180 zh_cX12_taken_3 0 rfl
theorem dX12_taken_63 : decode cX12_taken 63 = .ok (.iload_n 1, 1) := zo_27 zh_cX12_taken_3 3 rfl
theorem dX12_taken_64 : decode cX12_taken 64 = .ok (.iaload, 1) := zo_46 zh_cX12_taken_3 4 rfl
theorem dX12_taken_65 : decode cX12_taken 65 = .ok (.invokevirtual 237, 3) := zo_182 zh_cX12_taken_3 5 rfl
theorem dX12_taken_68 : decode cX12_taken 68 = .ok (.goto 5, 3) := zo_p167 zh_cX12_taken_3 8 5 rfl rfl
theorem dX12_taken_71 : decode cX12_taken 71 = .ok (.bipush (-12), 2) := zo_n16 zh_cX12_taken_3 11 11 rfl rfl
theorem dX12_taken_73 : decode cX12_taken 73 = .ok (.ireturn, 1) := zo_172 zh_cX12_taken_3 13 rfl
abbrev z_X12_taken : List Cond := .code yX12_taken cX12_taken 3 (some .int) :: zW
abbrev wl_X12_taken (ad : Nat → Nat) (cs : Nat → ClassId)  (mod_code : Int32) (mod_shoes : Int32) (mod_claims : Int32) (mod_taped : Int32) (mod_here : Int32) (mod_fault : Int32) (mod_suits : Int32) (mod_doneMany : Int32) (mod_undoneMany : Int32) (mod_open : Int32) (mod_laid : Int32) (mod_isBoth : Int32) (mod_wished : Int32) (mod_bestMany : Int32) (mod_bestRow : Int32) (mod_ringDigits : Int32) (mod_traces : Int32) (mod_endKind : Nat → Int32) (mod_undoneFrom : Nat → Int32) (mod_holds : Nat → Int32) : va_W := [((ad 41), .inr (12, [.int mod_code, .int mod_shoes, .ref (ad 42), .ref (ad 43), .ref (ad 44), .ref (ad 45), .int mod_claims, .ref (ad 46), .ref (ad 47), .ref (ad 48), .ref (ad 49), .ref (ad 50), .int mod_taped, .int mod_here, .int mod_fault, .int mod_suits, .ref (ad 51), .ref (ad 52), .ref (ad 53), .ref (ad 54), .ref (ad 55), .ref (ad 56), .ref (ad 57), .ref (ad 58), .ref (ad 59), .ref (ad 60), .ref (ad 61), .int mod_doneMany, .int mod_undoneMany, .ref (ad 62), .ref (ad 63), .ref (ad 64), .ref (ad 65), .int mod_open, .int mod_laid, .ref (ad 66), .ref (ad 67), .ref (ad 68), .ref (ad 69), .ref (ad 70), .ref (ad 71), .ref (ad 72), .ref (ad 73), .ref (ad 74), .ref (ad 75), .int mod_isBoth, .int mod_wished, .ref (ad 76), .ref (ad 77), .int mod_bestMany, .int mod_bestRow, .ref (ad 78), .ref (ad 79), .int mod_ringDigits, .int mod_traces, .ref (ad 80), .ref (ad 81), .ref (ad 82), .ref (ad 83), .ref (ad 84)])), ((ad 53), .inl (cs 0, 45, .inl mod_endKind)), ((ad 57), .inl (cs 0, 45, .inl mod_undoneFrom)), ((ad 81), .inl (cs 0, 6, .inl mod_holds))]
def Q_X12_taken (D : va_G) (cs : Nat → ClassId) (ad : Nat → Nat)  (mod_code : Int32) (mod_shoes : Int32) (mod_claims : Int32) (mod_taped : Int32) (mod_here : Int32) (mod_fault : Int32) (mod_suits : Int32) (mod_doneMany : Int32) (mod_undoneMany : Int32) (mod_open : Int32) (mod_laid : Int32) (mod_isBoth : Int32) (mod_wished : Int32) (mod_bestMany : Int32) (mod_bestRow : Int32) (mod_ringDigits : Int32) (mod_traces : Int32) (mod_endKind : Nat → Int32) (mod_undoneFrom : Nat → Int32) (mod_holds : Nat → Int32) (A : Nat → Prop) (R : Int32 × Unit) : Array Value → State → Outcome → State → Prop :=
  va_Qi (fun (r : Int32) (u : Unit) => (r, u) = R) (fun (u : Unit) (t : State) => va_P D classes (wl_X12_taken ad cs mod_code mod_shoes mod_claims mod_taped mod_here mod_fault mod_suits mod_doneMany mod_undoneMany mod_open mod_laid mod_isBoth mod_wished mod_bestMany mod_bestRow mod_ringDigits mod_traces mod_endKind mod_undoneFrom mod_holds) t.heap ∧ va_D A (wl_X12_taken ad cs mod_code mod_shoes mod_claims mod_taped mod_here mod_fault mod_suits mod_doneMany mod_undoneMany mod_open mod_laid mod_isBoth mod_wished mod_bestMany mod_bestRow mod_ringDigits mod_traces mod_endKind mod_undoneFrom mod_holds)) A
abbrev rm_X12_taken : Room := { frames := 2, cells := 0, slots := 0, locals := 42 }
def B_X12_taken_0    (mod_code : Int32) (mod_shoes : Int32) (mod_claims : Int32) (mod_taped : Int32) (mod_here : Int32) (mod_fault : Int32) (mod_suits : Int32) (mod_doneMany : Int32) (mod_undoneMany : Int32) (mod_open : Int32) (mod_laid : Int32) (mod_isBoth : Int32) (mod_wished : Int32) (mod_bestMany : Int32) (mod_bestRow : Int32) (mod_ringDigits : Int32) (mod_traces : Int32) (mod_endKind : Nat → Int32) (mod_undoneFrom : Nat → Int32) (mod_holds : Nat → Int32) (x1 : Int32) (x2 : Int32) : Option (Int32 × Unit) :=
  (zk_b2 (f_X12_isShelf x1) (fun r_1 u_2 => (if r_1 = 0 then (some ((-1 : Int32), ())) else (zk_b2 (f_X12_in x2 (0 : Int32) (6 : Int32)) (fun r_5 u_6 => (if r_5 = 0 then (some ((-1 : Int32), ())) else (if (x1 < 0 ∨ 6 ≤ x1.toNatClampNeg) then none else (if (mod_holds x1.toNatClampNeg) = (-1 : Int32) then (some ((-11 : Int32), ())) else (if (x1 < 0 ∨ 6 ≤ x1.toNatClampNeg) then none else (if (mod_holds x1.toNatClampNeg) < 0 then (some ((-12 : Int32), ())) else (if (x1 < 0 ∨ 6 ≤ x1.toNatClampNeg) then none else (zk_b2 (f_X12_bodyKind (mod_holds x1.toNatClampNeg) mod_code mod_shoes mod_claims mod_taped mod_here mod_fault mod_suits mod_doneMany mod_undoneMany mod_open mod_laid mod_isBoth mod_wished mod_bestMany mod_bestRow mod_ringDigits mod_traces mod_endKind mod_undoneFrom) (fun r_14 u_15 => (zk_b2 (f_X12_isUnder r_14 x2) (fun r_17 u_18 => (if r_17 = 0 then (some ((-12 : Int32), ())) else (if (x1 < 0 ∨ 6 ≤ x1.toNatClampNeg) then none else (zk_b2 (f_X12_bodyKind (mod_holds x1.toNatClampNeg) mod_code mod_shoes mod_claims mod_taped mod_here mod_fault mod_suits mod_doneMany mod_undoneMany mod_open mod_laid mod_isBoth mod_wished mod_bestMany mod_bestRow mod_ringDigits mod_traces mod_endKind mod_undoneFrom) (fun r_22 u_23 => (some (r_22, ())))))))))))))))))))))
def f_X12_taken   (x1 : Int32) (x2 : Int32) (mod_code : Int32) (mod_shoes : Int32) (mod_claims : Int32) (mod_taped : Int32) (mod_here : Int32) (mod_fault : Int32) (mod_suits : Int32) (mod_doneMany : Int32) (mod_undoneMany : Int32) (mod_open : Int32) (mod_laid : Int32) (mod_isBoth : Int32) (mod_wished : Int32) (mod_bestMany : Int32) (mod_bestRow : Int32) (mod_ringDigits : Int32) (mod_traces : Int32) (mod_endKind : Nat → Int32) (mod_undoneFrom : Nat → Int32) (mod_holds : Nat → Int32) : Option (Int32 × Unit) := B_X12_taken_0   mod_code mod_shoes mod_claims mod_taped mod_here mod_fault mod_suits mod_doneMany mod_undoneMany mod_open mod_laid mod_isBoth mod_wished mod_bestMany mod_bestRow mod_ringDigits mod_traces mod_endKind mod_undoneFrom mod_holds x1 x2 
set_option maxHeartbeats 4000000 in
set_option maxRecDepth 100000 in
theorem L_X12_taken_0 {p : Program} {l : Launch} {e : Env} {s : State} {m : MethodId} {args : Array Value} {below : List Frame} {meth : Method} {c : Code} {A : Nat → Prop} {D : va_G} {cs : Nat → ClassId} {ad : Nat → Nat} {mod_code : Int32} {mod_shoes : Int32} {mod_claims : Int32} {mod_taped : Int32} {mod_here : Int32} {mod_fault : Int32} {mod_suits : Int32} {mod_doneMany : Int32} {mod_undoneMany : Int32} {mod_open : Int32} {mod_laid : Int32} {mod_isBoth : Int32} {mod_wished : Int32} {mod_bestMany : Int32} {mod_bestRow : Int32} {mod_ringDigits : Int32} {mod_traces : Int32} {mod_endKind : Nat → Int32} {mod_undoneFrom : Nat → Int32} {mod_holds : Nat → Int32} {R : Int32 × Unit} (C0 : zC p s m args meth c cX12_taken 3 (some .int) RX12 zW) (hK : va_K D classes (zT cs) s) (hA : ∀ q : Nat, s.heap.size ≤ q → A q) (x1 : Int32) (x2 : Int32) (h : B_X12_taken_0 mod_code mod_shoes mod_claims mod_taped mod_here mod_fault mod_suits mod_doneMany mod_undoneMany mod_open mod_laid mod_isBoth mod_wished mod_bestMany mod_bestRow mod_ringDigits mod_traces mod_endKind mod_undoneFrom mod_holds x1 x2 = some R) (H : Heap) (locs : List Loc) (ls : Array Slot) (hP : va_P D classes (wl_X12_taken ad cs mod_code mod_shoes mod_claims mod_taped mod_here mod_fault mod_suits mod_doneMany mod_undoneMany mod_open mod_laid mod_isBoth mod_wished mod_bestMany mod_bestRow mod_ringDigits mod_traces mod_endKind mod_undoneFrom mod_holds) H) (hD : va_D A (wl_X12_taken ad cs mod_code mod_shoes mod_claims mod_taped mod_here mod_fault mod_suits mod_doneMany mod_undoneMany mod_open mod_laid mod_isBoth mod_wished mod_bestMany mod_bestRow mod_ringDigits mod_traces mod_endKind mod_undoneFrom mod_holds)) (hS : va_S A s.heap H locs) (hl : lv_has ls 3 [(0, .ref (ad 41)), (1, .int x1), (2, .int x2)]) : W p l e rm_X12_taken s m args below meth c H locs 0 0 (MQ below (Q_X12_taken D cs ad mod_code mod_shoes mod_claims mod_taped mod_here mod_fault mod_suits mod_doneMany mod_undoneMany mod_open mod_laid mod_isBoth mod_wished mod_bestMany mod_bestRow mod_ringDigits mod_traces mod_endKind mod_undoneFrom mod_holds A R) args s 0 0 A) (F0 m 0 ls []) := by
  obtain ⟨hx, hb, hr, hml, hown, ht, hlocks⟩ := id C0
  refine lv_iload_n hx hb dX12_taken_0 rfl (lv_at hl 1 rfl) ?_
  obtain ⟨r_1, u_2, hc_3, h⟩ := zk_o2 h
  refine zz_si (post := (fun r u => (r, u) = (r_1, u_2))) (w1 := fun u => (wl_X12_isShelf ad cs )) (As := [.int x1]) (rest := []) (c_X12_isShelf l D cs ad  H.size x1 (r_1, u_2) hc_3) ⟨hx, hb, hml, hown, ht⟩ (va_cwS 1 ht g_X12_167 rfl rfl rfl hd_X12_isShelf ⟨Nat.le_of_ble_eq_true rfl, Nat.le_of_ble_eq_true rfl⟩) hP hD hS hK hA [] rfl rfl [] rfl (fun _ => rfl) rfl hl.1 (Nat.le_of_ble_eq_true rfl) dX12_taken_1 ⟨Nat.zero_le _, Nat.zero_le _⟩ (fun r u H locs hq hP hS => ?_)
  cases hq
  have hP : va_P D classes (wl_X12_taken ad cs mod_code mod_shoes mod_claims mod_taped mod_here mod_fault mod_suits mod_doneMany mod_undoneMany mod_open mod_laid mod_isBoth mod_wished mod_bestMany mod_bestRow mod_ringDigits mod_traces mod_endKind mod_undoneFrom mod_holds) H := hP
  refine lv_if_eq (tgt := 17) hx hb dX12_taken_4 (by decide) (fun c_4 => ?_) (fun c_4 => ?_)
  · have h := zk_t c_4 h
    refine lv_iconst (v := (-1 : Int32)) hx hb dX12_taken_17 (by decide) ?_
    exact W.iret (v := (-1 : Int32)) hx hb hr (fun t ht2 hW => ⟨⟨(-1 : Int32), (), rfl, Option.some.inj h, by rw [ht2]; exact hP, hD⟩, hS.F ht2⟩) hS.2.2 dX12_taken_18 hlocks
  · have h := zk_f c_4 h
    refine lv_iload_n hx hb dX12_taken_7 rfl (lv_at hl 2 rfl) ?_
    refine lv_iconst (v := (0 : Int32)) hx hb dX12_taken_8 (by decide) ?_
    refine lv_bipush (v := (6 : Int32)) hx hb dX12_taken_9 (by decide) ?_
    obtain ⟨r_5, u_6, hc_7, h⟩ := zk_o2 h
    refine zz_si (post := (fun r u => (r, u) = (r_5, u_6))) (w1 := fun u => (wl_X12_in ad cs )) (As := [.int x2, .int (0 : Int32), .int (6 : Int32)]) (rest := []) (c_X12_in l D cs ad  H.size x2 (0 : Int32) (6 : Int32) (r_5, u_6) hc_7) ⟨hx, hb, hml, hown, ht⟩ (va_cwS 3 ht g_X12_147 rfl rfl rfl hd_X12_in ⟨Nat.le_of_ble_eq_true rfl, Nat.le_of_ble_eq_true rfl⟩) hP hD hS hK hA [] rfl rfl [] rfl (fun _ => rfl) rfl hl.1 (Nat.le_of_ble_eq_true rfl) dX12_taken_11 ⟨Nat.zero_le _, Nat.zero_le _⟩ (fun r u H locs hq hP hS => ?_)
    cases hq
    have hP : va_P D classes (wl_X12_taken ad cs mod_code mod_shoes mod_claims mod_taped mod_here mod_fault mod_suits mod_doneMany mod_undoneMany mod_open mod_laid mod_isBoth mod_wished mod_bestMany mod_bestRow mod_ringDigits mod_traces mod_endKind mod_undoneFrom mod_holds) H := hP
    refine lv_if_ne (tgt := 19) hx hb dX12_taken_14 (by decide) (fun c_8 => ?_) (fun c_8 => ?_)
    · have h := zk_f c_8 h
      refine lv_aload_n hx hb dX12_taken_19 rfl (lv_at hl 0 rfl) ?_
      refine va_get (D := D) (ci := 12) (v := .ref (ad 81)) (C := RX12) (T := TX12) (N := 60) hx hb ht iX12 hown hK hP 0 rfl rfl 56 (by decide) (ht _ kw_1351) (fun _ h9 => h9) rfl dX12_taken_20 ?_
      refine lv_iload_n hx hb dX12_taken_23 rfl (lv_at hl 1 rfl) ?_
      obtain ⟨g_9, h⟩ := zk_gd h
      refine va_iald hx hb hK hP 3 0 rfl rfl g_9 dX12_taken_24 ?_
      refine lv_iconst (v := (-1 : Int32)) hx hb dX12_taken_25 (by decide) ?_
      refine lv_icmp_ne (tgt := 32) hx hb dX12_taken_26 (by decide) (fun c_10 => ?_) (fun c_10 => ?_)
      · have h := zk_f c_10 h
        refine lv_aload_n hx hb dX12_taken_32 rfl (lv_at hl 0 rfl) ?_
        refine va_get (D := D) (ci := 12) (v := .ref (ad 81)) (C := RX12) (T := TX12) (N := 60) hx hb ht iX12 hown hK hP 0 rfl rfl 56 (by decide) (ht _ kw_1351) (fun _ h9 => h9) rfl dX12_taken_33 ?_
        refine lv_iload_n hx hb dX12_taken_36 rfl (lv_at hl 1 rfl) ?_
        obtain ⟨g_11, h⟩ := zk_gd h
        refine va_iald hx hb hK hP 3 0 rfl rfl g_11 dX12_taken_37 ?_
        refine lv_if_lt (tgt := 71) hx hb dX12_taken_38 (by decide) (fun c_12 => ?_) (fun c_12 => ?_)
        · have h := zk_t c_12 h
          refine lv_bipush (v := (-12 : Int32)) hx hb dX12_taken_71 (by decide) ?_
          exact W.iret (v := (-12 : Int32)) hx hb hr (fun t ht2 hW => ⟨⟨(-12 : Int32), (), rfl, Option.some.inj h, by rw [ht2]; exact hP, hD⟩, hS.F ht2⟩) hS.2.2 dX12_taken_73 hlocks
        · have h := zk_f c_12 h
          refine lv_aload_n hx hb dX12_taken_41 rfl (lv_at hl 0 rfl) ?_
          refine lv_aload_n hx hb dX12_taken_42 rfl (lv_at hl 0 rfl) ?_
          refine va_get (D := D) (ci := 12) (v := .ref (ad 81)) (C := RX12) (T := TX12) (N := 60) hx hb ht iX12 hown hK hP 0 rfl rfl 56 (by decide) (ht _ kw_1351) (fun _ h9 => h9) rfl dX12_taken_43 ?_
          refine lv_iload_n hx hb dX12_taken_46 rfl (lv_at hl 1 rfl) ?_
          obtain ⟨g_13, h⟩ := zk_gd h
          refine va_iald hx hb hK hP 3 0 rfl rfl g_13 dX12_taken_47 ?_
          obtain ⟨r_14, u_15, hc_16, h⟩ := zk_o2 h
          refine zz_vi (post := (fun r u => (r, u) = (r_14, u_15))) (w1 := fun u => (wl_X12_bodyKind ad cs mod_code mod_shoes mod_claims mod_taped mod_here mod_fault mod_suits mod_doneMany mod_undoneMany mod_open mod_laid mod_isBoth mod_wished mod_bestMany mod_bestRow mod_ringDigits mod_traces mod_endKind mod_undoneFrom)) (As := [.int (mod_holds x1.toNatClampNeg)]) (rest := []) (c_X12_bodyKind l D cs ad  H.size (mod_holds x1.toNatClampNeg) mod_code mod_shoes mod_claims mod_taped mod_here mod_fault mod_suits mod_doneMany mod_undoneMany mod_open mod_laid mod_isBoth mod_wished mod_bestMany mod_bestRow mod_ringDigits mod_traces mod_endKind mod_undoneFrom (r_14, u_15) hc_16) ⟨hx, hb, hml, hown, ht⟩ (cwV 1 ht g_X12_237 rfl rfl rfl ⟨rfl, hd_X12_bodyKind⟩ ⟨Nat.le_of_ble_eq_true rfl, Nat.le_of_ble_eq_true rfl⟩) (va_recv hK hP (ci := 12) (q0 := 0) rfl rfl) hP hD hS hK hA [0, 1, 2] rfl rfl [(ad 41), (ad 53), (ad 57)] rfl (fun _ => rfl) rfl hl.1 (Nat.le_of_ble_eq_true rfl) dX12_taken_48 ⟨Nat.zero_le _, Nat.zero_le _⟩ (fun r u H locs hq hP hS => ?_)
          cases hq
          have hP : va_P D classes (wl_X12_taken ad cs mod_code mod_shoes mod_claims mod_taped mod_here mod_fault mod_suits mod_doneMany mod_undoneMany mod_open mod_laid mod_isBoth mod_wished mod_bestMany mod_bestRow mod_ringDigits mod_traces mod_endKind mod_undoneFrom mod_holds) H := hP
          have hD : va_D A (wl_X12_taken ad cs mod_code mod_shoes mod_claims mod_taped mod_here mod_fault mod_suits mod_doneMany mod_undoneMany mod_open mod_laid mod_isBoth mod_wished mod_bestMany mod_bestRow mod_ringDigits mod_traces mod_endKind mod_undoneFrom mod_holds) := zDk hD [(ad 41), (ad 53), (ad 57), (ad 81)] rfl rfl
          refine lv_iload_n hx hb dX12_taken_51 rfl (lv_at hl 2 rfl) ?_
          obtain ⟨r_17, u_18, hc_19, h⟩ := zk_o2 h
          refine zz_si (post := (fun r u => (r, u) = (r_17, u_18))) (w1 := fun u => (wl_X12_isUnder ad cs )) (As := [.int r_14, .int x2]) (rest := []) (c_X12_isUnder l D cs ad  H.size r_14 x2 (r_17, u_18) hc_19) ⟨hx, hb, hml, hown, ht⟩ (va_cwS 2 ht g_X12_413 rfl rfl rfl hd_X12_isUnder ⟨Nat.le_of_ble_eq_true rfl, Nat.le_of_ble_eq_true rfl⟩) hP hD hS hK hA [] rfl rfl [] rfl (fun _ => rfl) rfl hl.1 (Nat.le_of_ble_eq_true rfl) dX12_taken_52 ⟨Nat.zero_le _, Nat.zero_le _⟩ (fun r u H locs hq hP hS => ?_)
          cases hq
          have hP : va_P D classes (wl_X12_taken ad cs mod_code mod_shoes mod_claims mod_taped mod_here mod_fault mod_suits mod_doneMany mod_undoneMany mod_open mod_laid mod_isBoth mod_wished mod_bestMany mod_bestRow mod_ringDigits mod_traces mod_endKind mod_undoneFrom mod_holds) H := hP
          refine lv_if_eq (tgt := 71) hx hb dX12_taken_55 (by decide) (fun c_20 => ?_) (fun c_20 => ?_)
          · have h := zk_t c_20 h
            refine lv_bipush (v := (-12 : Int32)) hx hb dX12_taken_71 (by decide) ?_
            exact W.iret (v := (-12 : Int32)) hx hb hr (fun t ht2 hW => ⟨⟨(-12 : Int32), (), rfl, Option.some.inj h, by rw [ht2]; exact hP, hD⟩, hS.F ht2⟩) hS.2.2 dX12_taken_73 hlocks
          · have h := zk_f c_20 h
            refine lv_aload_n hx hb dX12_taken_58 rfl (lv_at hl 0 rfl) ?_
            refine lv_aload_n hx hb dX12_taken_59 rfl (lv_at hl 0 rfl) ?_
            refine va_get (D := D) (ci := 12) (v := .ref (ad 81)) (C := RX12) (T := TX12) (N := 60) hx hb ht iX12 hown hK hP 0 rfl rfl 56 (by decide) (ht _ kw_1351) (fun _ h9 => h9) rfl dX12_taken_60 ?_
            refine lv_iload_n hx hb dX12_taken_63 rfl (lv_at hl 1 rfl) ?_
            obtain ⟨g_21, h⟩ := zk_gd h
            refine va_iald hx hb hK hP 3 0 rfl rfl g_21 dX12_taken_64 ?_
            obtain ⟨r_22, u_23, hc_24, h⟩ := zk_o2 h
            refine zz_vi (post := (fun r u => (r, u) = (r_22, u_23))) (w1 := fun u => (wl_X12_bodyKind ad cs mod_code mod_shoes mod_claims mod_taped mod_here mod_fault mod_suits mod_doneMany mod_undoneMany mod_open mod_laid mod_isBoth mod_wished mod_bestMany mod_bestRow mod_ringDigits mod_traces mod_endKind mod_undoneFrom)) (As := [.int (mod_holds x1.toNatClampNeg)]) (rest := []) (c_X12_bodyKind l D cs ad  H.size (mod_holds x1.toNatClampNeg) mod_code mod_shoes mod_claims mod_taped mod_here mod_fault mod_suits mod_doneMany mod_undoneMany mod_open mod_laid mod_isBoth mod_wished mod_bestMany mod_bestRow mod_ringDigits mod_traces mod_endKind mod_undoneFrom (r_22, u_23) hc_24) ⟨hx, hb, hml, hown, ht⟩ (cwV 1 ht g_X12_237 rfl rfl rfl ⟨rfl, hd_X12_bodyKind⟩ ⟨Nat.le_of_ble_eq_true rfl, Nat.le_of_ble_eq_true rfl⟩) (va_recv hK hP (ci := 12) (q0 := 0) rfl rfl) hP hD hS hK hA [0, 1, 2] rfl rfl [(ad 41), (ad 53), (ad 57)] rfl (fun _ => rfl) rfl hl.1 (Nat.le_of_ble_eq_true rfl) dX12_taken_65 ⟨Nat.zero_le _, Nat.zero_le _⟩ (fun r u H locs hq hP hS => ?_)
            cases hq
            have hP : va_P D classes (wl_X12_taken ad cs mod_code mod_shoes mod_claims mod_taped mod_here mod_fault mod_suits mod_doneMany mod_undoneMany mod_open mod_laid mod_isBoth mod_wished mod_bestMany mod_bestRow mod_ringDigits mod_traces mod_endKind mod_undoneFrom mod_holds) H := hP
            have hD : va_D A (wl_X12_taken ad cs mod_code mod_shoes mod_claims mod_taped mod_here mod_fault mod_suits mod_doneMany mod_undoneMany mod_open mod_laid mod_isBoth mod_wished mod_bestMany mod_bestRow mod_ringDigits mod_traces mod_endKind mod_undoneFrom mod_holds) := zDk hD [(ad 41), (ad 53), (ad 57), (ad 81)] rfl rfl
            refine lv_goto (tgt := 73) hx hb dX12_taken_68 (by decide) ?_
            exact W.iret (v := r_22) hx hb hr (fun t ht2 hW => ⟨⟨r_22, (), rfl, Option.some.inj h, by rw [ht2]; exact hP, hD⟩, hS.F ht2⟩) hS.2.2 dX12_taken_73 hlocks
      · have h := zk_t c_10 h
        refine lv_bipush (v := (-11 : Int32)) hx hb dX12_taken_29 (by decide) ?_
        exact W.iret (v := (-11 : Int32)) hx hb hr (fun t ht2 hW => ⟨⟨(-11 : Int32), (), rfl, Option.some.inj h, by rw [ht2]; exact hP, hD⟩, hS.F ht2⟩) hS.2.2 dX12_taken_31 hlocks
    · have h := zk_t c_8 h
      refine lv_iconst (v := (-1 : Int32)) hx hb dX12_taken_17 (by decide) ?_
      exact W.iret (v := (-1 : Int32)) hx hb hr (fun t ht2 hW => ⟨⟨(-1 : Int32), (), rfl, Option.some.inj h, by rw [ht2]; exact hP, hD⟩, hS.F ht2⟩) hS.2.2 dX12_taken_18 hlocks
set_option maxHeartbeats 4000000 in
set_option maxRecDepth 100000 in
theorem c_X12_taken (l : Launch) (D : va_G) (cs : Nat → ClassId) (ad : Nat → Nat) (sz : Nat) (x1 : Int32) (x2 : Int32) (mod_code : Int32) (mod_shoes : Int32) (mod_claims : Int32) (mod_taped : Int32) (mod_here : Int32) (mod_fault : Int32) (mod_suits : Int32) (mod_doneMany : Int32) (mod_undoneMany : Int32) (mod_open : Int32) (mod_laid : Int32) (mod_isBoth : Int32) (mod_wished : Int32) (mod_bestMany : Int32) (mod_bestRow : Int32) (mod_ringDigits : Int32) (mod_traces : Int32) (mod_endKind : Nat → Int32) (mod_undoneFrom : Nat → Int32) (mod_holds : Nat → Int32) (R : Int32 × Unit) (h : f_X12_taken   x1 x2 mod_code mod_shoes mod_claims mod_taped mod_here mod_fault mod_suits mod_doneMany mod_undoneMany mod_open mod_laid mod_isBoth mod_wished mod_bestMany mod_bestRow mod_ringDigits mod_traces mod_endKind mod_undoneFrom mod_holds = some R) : Met l yX12_taken (z_X12_taken) rm_X12_taken (va_Pc [.ref (ad 41), .int x1, .int x2] (zPre D cs (wl_X12_taken ad cs mod_code mod_shoes mod_claims mod_taped mod_here mod_fault mod_suits mod_doneMany mod_undoneMany mod_open mod_laid mod_isBoth mod_wished mod_bestMany mod_bestRow mod_ringDigits mod_traces mod_endKind mod_undoneFrom mod_holds) sz)) (Q_X12_taken D cs ad mod_code mod_shoes mod_claims mod_taped mod_here mod_fault mod_suits mod_doneMany mod_undoneMany mod_open mod_laid mod_isBoth mod_wished mod_bestMany mod_bestRow mod_ringDigits mod_traces mod_endKind mod_undoneFrom mod_holds (va_A (wl_X12_taken ad cs mod_code mod_shoes mod_claims mod_taped mod_here mod_fault mod_suits mod_doneMany mod_undoneMany mod_open mod_laid mod_isBoth mod_wished mod_bestMany mod_bestRow mod_ringDigits mod_traces mod_endKind mod_undoneFrom mod_holds) sz) R) 0 0 (va_A (wl_X12_taken ad cs mod_code mod_shoes mod_claims mod_taped mod_here mod_fault mod_suits mod_doneMany mod_undoneMany mod_open mod_laid mod_isBoth mod_wished mod_bestMany mod_bestRow mod_ringDigits mod_traces mod_endKind mod_undoneFrom mod_holds) sz) := by
  refine Met.ofW (cc := cX12_taken) (maxL := 3) (ret := (some .int)) (by decide) rfl ?_
  intro p e s m args below meth c s₁ B hml hv
  obtain ⟨rfl, hsz, hP, hK, hD0⟩ := hv
  subst hsz
  have hD := hD0.self (sz := s.heap.size)
  have C0 : zC p s m _ meth c cX12_taken 3 (some .int) RX12 zW := ⟨B.exec, B.bytes, B.returns, hml, findClass_of_methodNamed B.named, fun w hw => atoms_spec (ws := z_X12_taken) B.pre w (List.mem_cons_of_mem _ hw), B.notSynchronized⟩
  have hA : ∀ q : Nat, s.heap.size ≤ q → va_A (wl_X12_taken ad cs mod_code mod_shoes mod_claims mod_taped mod_here mod_fault mod_suits mod_doneMany mod_undoneMany mod_open mod_laid mod_isBoth mod_wished mod_bestMany mod_bestRow mod_ringDigits mod_traces mod_endKind mod_undoneFrom mod_holds) s.heap.size q := fun q h => Or.inr h
  have hl := lv_entry ([.ref (ad 41), .int x1, .int x2]) (n := 3) (Nat.le_of_ble_eq_true rfl)
  rw [lg_entry_eq]
  generalize (lg_sl ([.ref (ad 41), .int x1, .int x2]) ++ List.replicate (3 - (lg_sl ([.ref (ad 41), .int x1, .int x2])).length) Slot.unset).toArray = ls at hl ⊢
  exact L_X12_taken_0 C0 hK hA   x1 x2  h s.heap [] ls hP hD va_S.rf hl
