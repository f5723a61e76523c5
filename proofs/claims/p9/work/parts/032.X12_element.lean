theorem kw_1893 : Cond.constantLong RX12 433 (-9223372036854775808 : Int64) ∈ zW := zwC (i := 139) zc_8 rfl rfl
theorem zh_cX12_element_0 : zck [42, 27, 28, 182, 1, 172, 156, 0, 9, 20, 1, 177, 167, 0, 14, 42, 180, 0, 136, 16, 60, 27] (zdu 0 cX12_element.data.toList) = true := by decide +kernel
theorem dX12_element_0 : decode cX12_element 0 = .ok (.aload_n 0, 1) := zo_42 zh_cX12_element_0 0 rfl
theorem dX12_element_1 : decode cX12_element 1 = .ok (.iload_n 1, 1) := zo_27 zh_cX12_element_0 1 rfl
theorem dX12_element_2 : decode cX12_element 2 = .ok (.iload_n 2, 1) := zo_28 zh_cX12_element_0 2 rfl
theorem dX12_element_3 : decode cX12_element 3 = .ok (.invokevirtual 428, 3) := zo_182 zh_cX12_element_0 3 rfl
theorem dX12_element_6 : decode cX12_element 6 = .ok (.ifCond .ge 9, 3) := zo_p156 zh_cX12_element_0 6 9 rfl rfl
theorem dX12_element_9 : decode cX12_element 9 = .ok (.ldc2_w 433, 3) := zo_20 zh_cX12_element_0 9 rfl
theorem dX12_element_12 : decode cX12_element 12 = .ok (.goto 14, 3) := zo_p167 zh_cX12_element_0 12 14 rfl rfl
theorem dX12_element_15 : decode cX12_element 15 = .ok (.aload_n 0, 1) := zo_42 zh_cX12_element_0 15 rfl
theorem dX12_element_16 : decode cX12_element 16 = .ok (.getfield 136, 3) := zo_180 zh_cX12_element_0 16 rfl
theorem dX12_element_19 : decode cX12_element 19 = .ok (.bipush 60, 2) := zo_p16 zh_cX12_element_0 19 60 rfl rfl
theorem zh_cX12_element_1 : zck [60, 27, 104, 28, 96, 47, 173] (zdu 20 cX12_element.data.toList) = true := by decide +kernel
theorem dX12_element_21 : decode cX12_element 21 = .ok (.iload_n 1, 1) := zo_27 zh_cX12_element_1 1 rfl
theorem dX12_element_22 : decode cX12_element 22 = .ok (.imul, 1) := zo_104 zh_cX12_element_1 2 rfl
theorem dX12_element_23 : decode cX12_element 23 = .ok (.iload_n 2, 1) := zo_28 zh_cX12_element_1 3 rfl
theorem dX12_element_24 : decode cX12_element 24 = .ok (.iadd, 1) := zo_96 zh_cX12_element_1 4 rfl
theorem dX12_element_25 : decode cX12_element 25 = .ok (.laload, 1) := zo_47 zh_cX12_element_1 5 rfl
theorem dX12_element_26 : decode cX12_element 26 = .ok (.lreturn, 1) := zo_173 zh_cX12_element_1 6 rfl
abbrev z_X12_element : List Cond := .code yX12_element cX12_element 3 (some .long) :: zW
abbrev wl_X12_element (ad : Nat → Nat) (cs : Nat → ClassId)  (mod_code : Int32) (mod_shoes : Int32) (mod_claims : Int32) (mod_taped : Int32) (mod_here : Int32) (mod_fault : Int32) (mod_suits : Int32) (mod_doneMany : Int32) (mod_undoneMany : Int32) (mod_open : Int32) (mod_laid : Int32) (mod_isBoth : Int32) (mod_wished : Int32) (mod_bestMany : Int32) (mod_bestRow : Int32) (mod_ringDigits : Int32) (mod_traces : Int32) (mod_holds : Nat → Int32) (mod_size : Nat → Int32) (mod_elements : Nat → Int64) : va_W := [((ad 41), .inr (12, [.int mod_code, .int mod_shoes, .ref (ad 42), .ref (ad 43), .ref (ad 44), .ref (ad 45), .int mod_claims, .ref (ad 46), .ref (ad 47), .ref (ad 48), .ref (ad 49), .ref (ad 50), .int mod_taped, .int mod_here, .int mod_fault, .int mod_suits, .ref (ad 51), .ref (ad 52), .ref (ad 53), .ref (ad 54), .ref (ad 55), .ref (ad 56), .ref (ad 57), .ref (ad 58), .ref (ad 59), .ref (ad 60), .ref (ad 61), .int mod_doneMany, .int mod_undoneMany, .ref (ad 62), .ref (ad 63), .ref (ad 64), .ref (ad 65), .int mod_open, .int mod_laid, .ref (ad 66), .ref (ad 67), .ref (ad 68), .ref (ad 69), .ref (ad 70), .ref (ad 71), .ref (ad 72), .ref (ad 73), .ref (ad 74), .ref (ad 75), .int mod_isBoth, .int mod_wished, .ref (ad 76), .ref (ad 77), .int mod_bestMany, .int mod_bestRow, .ref (ad 78), .ref (ad 79), .int mod_ringDigits, .int mod_traces, .ref (ad 80), .ref (ad 81), .ref (ad 82), .ref (ad 83), .ref (ad 84)])), ((ad 81), .inl (cs 0, 6, .inl mod_holds)), ((ad 82), .inl (cs 0, 6, .inl mod_size)), ((ad 83), .inl (cs 1, 360, .inr (.inl mod_elements)))]
def Q_X12_element (D : va_G) (cs : Nat → ClassId) (ad : Nat → Nat)  (mod_code : Int32) (mod_shoes : Int32) (mod_claims : Int32) (mod_taped : Int32) (mod_here : Int32) (mod_fault : Int32) (mod_suits : Int32) (mod_doneMany : Int32) (mod_undoneMany : Int32) (mod_open : Int32) (mod_laid : Int32) (mod_isBoth : Int32) (mod_wished : Int32) (mod_bestMany : Int32) (mod_bestRow : Int32) (mod_ringDigits : Int32) (mod_traces : Int32) (mod_holds : Nat → Int32) (mod_size : Nat → Int32) (mod_elements : Nat → Int64) (A : Nat → Prop) (R : Int64 × Unit) : Array Value → State → Outcome → State → Prop :=
  va_Ql (fun (r : Int64) (u : Unit) => (r, u) = R) (fun (u : Unit) (t : State) => va_P D classes (wl_X12_element ad cs mod_code mod_shoes mod_claims mod_taped mod_here mod_fault mod_suits mod_doneMany mod_undoneMany mod_open mod_laid mod_isBoth mod_wished mod_bestMany mod_bestRow mod_ringDigits mod_traces mod_holds mod_size mod_elements) t.heap ∧ va_D A (wl_X12_element ad cs mod_code mod_shoes mod_claims mod_taped mod_here mod_fault mod_suits mod_doneMany mod_undoneMany mod_open mod_laid mod_isBoth mod_wished mod_bestMany mod_bestRow mod_ringDigits mod_traces mod_holds mod_size mod_elements)) A
abbrev rm_X12_element : Room := { frames := 3, cells := 0, slots := 0, locals := 64 }
def B_X12_element_0    (mod_code : Int32) (mod_shoes : Int32) (mod_claims : Int32) (mod_taped : Int32) (mod_here : Int32) (mod_fault : Int32) (mod_suits : Int32) (mod_doneMany : Int32) (mod_undoneMany : Int32) (mod_open : Int32) (mod_laid : Int32) (mod_isBoth : Int32) (mod_wished : Int32) (mod_bestMany : Int32) (mod_bestRow : Int32) (mod_ringDigits : Int32) (mod_traces : Int32) (mod_holds : Nat → Int32) (mod_size : Nat → Int32) (mod_elements : Nat → Int64) (x1 : Int32) (x2 : Int32) : Option (Int64 × Unit) :=
  (zk_b2 (f_X12_whyNoPlace x1 x2 mod_code mod_shoes mod_claims mod_taped mod_here mod_fault mod_suits mod_doneMany mod_undoneMany mod_open mod_laid mod_isBoth mod_wished mod_bestMany mod_bestRow mod_ringDigits mod_traces mod_holds mod_size) (fun r_1 u_2 => (if 0 ≤ r_1 then (if ((((60 : Int32) * x1) + x2) < 0 ∨ 360 ≤ (((60 : Int32) * x1) + x2).toNatClampNeg) then none else (some (mod_elements (((60 : Int32) * x1) + x2).toNatClampNeg, ()))) else (some ((-9223372036854775808 : Int64), ())))))
def f_X12_element   (x1 : Int32) (x2 : Int32) (mod_code : Int32) (mod_shoes : Int32) (mod_claims : Int32) (mod_taped : Int32) (mod_here : Int32) (mod_fault : Int32) (mod_suits : Int32) (mod_doneMany : Int32) (mod_undoneMany : Int32) (mod_open : Int32) (mod_laid : Int32) (mod_isBoth : Int32) (mod_wished : Int32) (mod_bestMany : Int32) (mod_bestRow : Int32) (mod_ringDigits : Int32) (mod_traces : Int32) (mod_holds : Nat → Int32) (mod_size : Nat → Int32) (mod_elements : Nat → Int64) : Option (Int64 × Unit) := B_X12_element_0   mod_code mod_shoes mod_claims mod_taped mod_here mod_fault mod_suits mod_doneMany mod_undoneMany mod_open mod_laid mod_isBoth mod_wished mod_bestMany mod_bestRow mod_ringDigits mod_traces mod_holds mod_size mod_elements x1 x2 
set_option maxHeartbeats 4000000 in
set_option maxRecDepth 100000 in
theorem L_X12_element_0 {p : Program} {l : Launch} {e : Env} {s : State} {m : MethodId} {args : Array Value} {below : List Frame} {meth : Method} {c : Code} {A : Nat → Prop} {D : va_G} {cs : Nat → ClassId} {ad : Nat → Nat} {mod_code : Int32} {mod_shoes : Int32} {mod_claims : Int32} {mod_taped : Int32} {mod_here : Int32} {mod_fault : Int32} {mod_suits : Int32} {mod_doneMany : Int32} {mod_undoneMany : Int32} {mod_open : Int32} {mod_laid : Int32} {mod_isBoth : Int32} {mod_wished : Int32} {mod_bestMany : Int32} {mod_bestRow : Int32} {mod_ringDigits : Int32} {mod_traces : Int32} {mod_holds : Nat → Int32} {mod_size : Nat → Int32} {mod_elements : Nat → Int64} {R : Int64 × Unit} (C0 : zC p s m args meth c cX12_element 3 (some .long) RX12 zW) (hK : va_K D classes (zT cs) s) (hA : ∀ q : Nat, s.heap.size ≤ q → A q) (x1 : Int32) (x2 : Int32) (h : B_X12_element_0 mod_code mod_shoes mod_claims mod_taped mod_here mod_fault mod_suits mod_doneMany mod_undoneMany mod_open mod_laid mod_isBoth mod_wished mod_bestMany mod_bestRow mod_ringDigits mod_traces mod_holds mod_size mod_elements x1 x2 = some R) (H : Heap) (locs : List Loc) (ls : Array Slot) (hP : va_P D classes (wl_X12_element ad cs mod_code mod_shoes mod_claims mod_taped mod_here mod_fault mod_suits mod_doneMany mod_undoneMany mod_open mod_laid mod_isBoth mod_wished mod_bestMany mod_bestRow mod_ringDigits mod_traces mod_holds mod_size mod_elements) H) (hD : va_D A (wl_X12_element ad cs mod_code mod_shoes mod_claims mod_taped mod_here mod_fault mod_suits mod_doneMany mod_undoneMany mod_open mod_laid mod_isBoth mod_wished mod_bestMany mod_bestRow mod_ringDigits mod_traces mod_holds mod_size mod_elements)) (hS : va_S A s.heap H locs) (hl : lv_has ls 3 [(0, .ref (ad 41)), (1, .int x1), (2, .int x2)]) : W p l e rm_X12_element s m args below meth c H locs 0 0 (MQ below (Q_X12_element D cs ad mod_code mod_shoes mod_claims mod_taped mod_here mod_fault mod_suits mod_doneMany mod_undoneMany mod_open mod_laid mod_isBoth mod_wished mod_bestMany mod_bestRow mod_ringDigits mod_traces mod_holds mod_size mod_elements A R) args s 0 0 A) (F0 m 0 ls []) := by
  obtain ⟨hx, hb, hr, hml, hown, ht, hlocks⟩ := id C0
  refine lv_aload_n hx hb dX12_element_0 rfl (lv_at hl 0 rfl) ?_
  refine lv_iload_n hx hb dX12_element_1 rfl (lv_at hl 1 rfl) ?_
  refine lv_iload_n hx hb dX12_element_2 rfl (lv_at hl 2 rfl) ?_
  obtain ⟨r_1, u_2, hc_3, h⟩ := zk_o2 h
  refine zz_vi (post := (fun r u => (r, u) = (r_1, u_2))) (w1 := fun u => (wl_X12_whyNoPlace ad cs mod_code mod_shoes mod_claims mod_taped mod_here mod_fault mod_suits mod_doneMany mod_undoneMany mod_open mod_laid mod_isBoth mod_wished mod_bestMany mod_bestRow mod_ringDigits mod_traces mod_holds mod_size)) (As := [.int x1, .int x2]) (rest := []) (c_X12_whyNoPlace l D cs ad  H.size x1 x2 mod_code mod_shoes mod_claims mod_taped mod_here mod_fault mod_suits mod_doneMany mod_undoneMany mod_open mod_laid mod_isBoth mod_wished mod_bestMany mod_bestRow mod_ringDigits mod_traces mod_holds mod_size (r_1, u_2) hc_3) ⟨hx, hb, hml, hown, ht⟩ (cwV 2 ht g_X12_428 rfl rfl rfl ⟨rfl, hd_X12_whyNoPlace⟩ ⟨Nat.le_of_ble_eq_true rfl, Nat.le_of_ble_eq_true rfl⟩) (va_recv hK hP (ci := 12) (q0 := 0) rfl rfl) hP hD hS hK hA [0, 1, 2] rfl rfl [(ad 41), (ad 81), (ad 82)] rfl (fun _ => rfl) rfl hl.1 (Nat.le_of_ble_eq_true rfl) dX12_element_3 ⟨Nat.zero_le _, Nat.zero_le _⟩ (fun r u H locs hq hP hS => ?_)
  cases hq
  have hP : va_P D classes (wl_X12_element ad cs mod_code mod_shoes mod_claims mod_taped mod_here mod_fault mod_suits mod_doneMany mod_undoneMany mod_open mod_laid mod_isBoth mod_wished mod_bestMany mod_bestRow mod_ringDigits mod_traces mod_holds mod_size mod_elements) H := hP
  have hD : va_D A (wl_X12_element ad cs mod_code mod_shoes mod_claims mod_taped mod_here mod_fault mod_suits mod_doneMany mod_undoneMany mod_open mod_laid mod_isBoth mod_wished mod_bestMany mod_bestRow mod_ringDigits mod_traces mod_holds mod_size mod_elements) := zDk hD [(ad 41), (ad 81), (ad 82), (ad 83)] rfl rfl
  refine lv_if_ge (tgt := 15) hx hb dX12_element_6 (by decide) (fun c_4 => ?_) (fun c_4 => ?_)
  · have h := zk_t c_4 h
    refine lv_aload_n hx hb dX12_element_15 rfl (lv_at hl 0 rfl) ?_
    refine va_get (D := D) (ci := 12) (v := .ref (ad 83)) (C := RX12) (T := TX12) (N := 60) hx hb ht iX12 hown hK hP 0 rfl rfl 58 (by decide) (ht _ kw_1353) (fun _ h9 => h9) rfl dX12_element_16 ?_
    refine lv_bipush (v := (60 : Int32)) hx hb dX12_element_19 (by decide) ?_
    refine lv_iload_n hx hb dX12_element_21 rfl (lv_at hl 1 rfl) ?_
    refine lv_imul hx hb dX12_element_22 ?_
    refine lv_iload_n hx hb dX12_element_23 rfl (lv_at hl 2 rfl) ?_
    refine lv_iadd hx hb dX12_element_24 ?_
    obtain ⟨g_5, h⟩ := zk_gd h
    refine va_lald hx hb hK hP 3 1 rfl rfl g_5 dX12_element_25 ?_
    exact W.lret (v := mod_elements (((60 : Int32) * x1) + x2).toNatClampNeg) hx hb hr (fun t ht2 hW => ⟨⟨mod_elements (((60 : Int32) * x1) + x2).toNatClampNeg, (), rfl, Option.some.inj h, by rw [ht2]; exact hP, hD⟩, hS.F ht2⟩) hS.2.2 dX12_element_26 hlocks
  · have h := zk_f c_4 h
    refine lv_ldc2 (v := (-9223372036854775808 : Int64)) hx hb hown (ht _ kw_1893) dX12_element_9 ?_
    refine lv_goto (tgt := 26) hx hb dX12_element_12 (by decide) ?_
    exact W.lret (v := (-9223372036854775808 : Int64)) hx hb hr (fun t ht2 hW => ⟨⟨(-9223372036854775808 : Int64), (), rfl, Option.some.inj h, by rw [ht2]; exact hP, hD⟩, hS.F ht2⟩) hS.2.2 dX12_element_26 hlocks
set_option maxHeartbeats 4000000 in
set_option maxRecDepth 100000 in
theorem c_X12_element (l : Launch) (D : va_G) (cs : Nat → ClassId) (ad : Nat → Nat) (sz : Nat) (x1 : Int32) (x2 : Int32) (mod_code : Int32) (mod_shoes : Int32) (mod_claims : Int32) (mod_taped : Int32) (mod_here : Int32) (mod_fault : Int32) (mod_suits : Int32) (mod_doneMany : Int32) (mod_undoneMany : Int32) (mod_open : Int32) (mod_laid : Int32) (mod_isBoth : Int32) (mod_wished : Int32) (mod_bestMany : Int32) (mod_bestRow : Int32) (mod_ringDigits : Int32) (mod_traces : Int32) (mod_holds : Nat → Int32) (mod_size : Nat → Int32) (mod_elements : Nat → Int64) (R : Int64 × Unit) (h : f_X12_element   x1 x2 mod_code mod_shoes mod_claims mod_taped mod_here mod_fault mod_suits mod_doneMany mod_undoneMany mod_open mod_laid mod_isBoth mod_wished mod_bestMany mod_bestRow mod_ringDigits mod_traces mod_holds mod_size mod_elements = some R) : Met l yX12_element (z_X12_element) rm_X12_element (va_Pc [.ref (ad 41), .int x1, .int x2] (zPre D cs (wl_X12_element ad cs mod_code mod_shoes mod_claims mod_taped mod_here mod_fault mod_suits mod_doneMany mod_undoneMany mod_open mod_laid mod_isBoth mod_wished mod_bestMany mod_bestRow mod_ringDigits mod_traces mod_holds mod_size mod_elements) sz)) (Q_X12_element D cs ad mod_code mod_shoes mod_claims mod_taped mod_here mod_fault mod_suits mod_doneMany mod_undoneMany mod_open mod_laid mod_isBoth mod_wished mod_bestMany mod_bestRow mod_ringDigits mod_traces mod_holds mod_size mod_elements (va_A (wl_X12_element ad cs mod_code mod_shoes mod_claims mod_taped mod_here mod_fault mod_suits mod_doneMany mod_undoneMany mod_open mod_laid mod_isBoth mod_wished mod_bestMany mod_bestRow mod_ringDigits mod_traces mod_holds mod_size mod_elements) sz) R) 0 0 (va_A (wl_X12_element ad cs mod_code mod_shoes mod_claims mod_taped mod_here mod_fault mod_suits mod_doneMany mod_undoneMany mod_open mod_laid mod_isBoth mod_wished mod_bestMany mod_bestRow mod_ringDigits mod_traces mod_holds mod_size mod_elements) sz) := by
  refine Met.ofW (cc := cX12_element) (maxL := 3) (ret := (some .long)) (by decide) rfl ?_
  intro p e s m args below meth c s₁ B hml hv
  obtain ⟨rfl, hsz, hP, hK, hD0⟩ := hv
  subst hsz
  have hD := hD0.self (sz := s.heap.size)
  have C0 : zC p s m _ meth c cX12_element 3 (some .long) RX12 zW := ⟨B.exec, B.bytes, B.returns, hml, findClass_of_methodNamed B.named, fun w hw => atoms_spec (ws := z_X12_element) B.pre w (List.mem_cons_of_mem _ hw), B.notSynchronized⟩
  have hA : ∀ q : Nat, s.heap.size ≤ q → va_A (wl_X12_element ad cs mod_code mod_shoes mod_claims mod_taped mod_here mod_fault mod_suits mod_doneMany mod_undoneMany mod_open mod_laid mod_isBoth mod_wished mod_bestMany mod_bestRow mod_ringDigits mod_traces mod_holds mod_size mod_elements) s.heap.size q := fun q h => Or.inr h
  have hl := lv_entry ([.ref (ad 41), .int x1, .int x2]) (n := 3) (Nat.le_of_ble_eq_true rfl)
  rw [lg_entry_eq]
  generalize (lg_sl ([.ref (ad 41), .int x1, .int x2]) ++ List.replicate (3 - (lg_sl ([.ref (ad 41), .int x1, .int x2])).length) Slot.unset).toArray = ls at hl ⊢
  exact L_X12_element_0 C0 hK hA   x1 x2  h s.heap [] ls hP hD va_S.rf hl
theorem kw_1354 : Cond.fieldLink RX12 140 "AlreadyJudgedModel" "shifted" "[J" ∈ zW := zwC (i := 80) zc_6 rfl rfl
theorem zh_cX12_shift_0 : zck [27, 184, 0, 167, 153, 0, 10, 29, 184, 0, 167, 154, 0, 5, 2, 172, 42, 180, 0, 130, 27, 46] (zdu 0 cX12_shift.data.toList) = true := by decide +kernel
theorem dX12_shift_0 : decode cX12_shift 0 = .ok (.iload_n 1, 1) := zo_27 zh_cX12_shift_0 0 rfl
theorem dX12_shift_1 : decode cX12_shift 1 = .ok (.invokestatic 167, 3) := zo_184 zh_cX12_shift_0 1 rfl
theorem dX12_shift_4 : decode cX12_shift 4 = .ok (.ifCond .eq 10, 3) := zo_p153 zh_cX12_shift_0 4 10 rfl rfl
theorem dX12_shift_7 : decode cX12_shift 7 = .ok (.iload_n 3, 1) := zo_29 zh_cX12_shift_0 7 rfl
theorem dX12_shift_8 : decode cX12_shift 8 = .ok (.invokestatic 167, 3) := zo_184 zh_cX12_shift_0 8 rfl
theorem dX12_shift_11 : decode cX12_shift 11 = .ok (.ifCond .ne 5, 3) := zo_p154 zh_cX12_shift_0 11 5 rfl rfl
theorem dX12_shift_14 : decode cX12_shift 14 = .ok (.iconst (-1), 1) := zo_2 zh_cX12_shift_0 14 rfl
theorem dX12_shift_15 : decode cX12_shift 15 = .ok (.ireturn, 1) := zo_172 zh_cX12_shift_0 15 rfl
theorem dX12_shift_16 : decode cX12_shift 16 = .ok (.aload_n 0, 1) := zo_42 zh_cX12_shift_0 16 rfl
theorem dX12_shift_17 : decode cX12_shift 17 = .ok (.getfield 130, 3) := zo_180 zh_cX12_shift_0 17 rfl
theorem zh_cX12_shift_1 : zck [27, 46, 2, 159, 0, 13, 42, 180, 0, 130, 29, 46, 2, 160, 0, 6, 16, 245, 172, 42, 180, 0] (zdu 20 cX12_shift.data.toList) = true := by decide +kernel
theorem dX12_shift_20 : decode cX12_shift 20 = .ok (.iload_n 1, 1) := zo_27 zh_cX12_shift_1 0 rfl
theorem dX12_shift_21 : decode cX12_shift 21 = .ok (.iaload, 1) := zo_46 zh_cX12_shift_1 1 rfl
theorem dX12_shift_22 : decode cX12_shift 22 = .ok (.iconst (-1), 1) := zo_2 zh_cX12_shift_1 2 rfl
theorem dX12_shift_23 : decode cX12_shift 23 = .ok (.if_icmp .eq 13, 3) := zo_p159 zh_cX12_shift_1 3 13 rfl rfl
theorem dX12_shift_26 : decode cX12_shift 26 = .ok (.aload_n 0, 1) := zo_42 zh_cX12_shift_1 6 rfl
theorem dX12_shift_27 : decode cX12_shift 27 = .ok (.getfield 130, 3) := zo_180 zh_cX12_shift_1 7 rfl
theorem dX12_shift_30 : decode cX12_shift 30 = .ok (.iload_n 3, 1) := zo_29 zh_cX12_shift_1 10 rfl
theorem dX12_shift_31 : decode cX12_shift 31 = .ok (.iaload, 1) := zo_46 zh_cX12_shift_1 11 rfl
theorem dX12_shift_32 : decode cX12_shift 32 = .ok (.iconst (-1), 1) := zo_2 zh_cX12_shift_1 12 rfl
theorem dX12_shift_33 : decode cX12_shift 33 = .ok (.if_icmp .ne 6, 3) := zo_p160 zh_cX12_shift_1 13 6 rfl rfl
theorem dX12_shift_36 : decode cX12_shift 36 = .ok (.bipush (-11), 2) := zo_n16 zh_cX12_shift_1 16 10 rfl rfl
theorem dX12_shift_38 : decode cX12_shift 38 = .ok (.ireturn, 1) := zo_172 zh_cX12_shift_1 18 rfl
theorem dX12_shift_39 : decode cX12_shift 39 = .ok (.aload_n 0, 1) := zo_42 zh_cX12_shift_1 19 rfl
theorem zh_cX12_shift_2 : zck [180, 0, 130, 27, 46, 156, 0, 18, 42, 180, 0, 130, 27, 46, 42, 180, 0, 130, 29, 46, 159, 0] (zdu 40 cX12_shift.data.toList) = true := by decide +kernel
theorem dX12_shift_40 : decode cX12_shift 40 = .ok (.getfield 130, 3) := zo_180 zh_cX12_shift_2 0 rfl
theorem dX12_shift_43 : decode cX12_shift 43 = .ok (.iload_n 1, 1) := zo_27 zh_cX12_shift_2 3 rfl
theorem dX12_shift_44 : decode cX12_shift 44 = .ok (.iaload, 1) := zo_46 zh_cX12_shift_2 4 rfl
theorem dX12_shift_45 : decode cX12_shift 45 = .ok (.ifCond .ge 18, 3) := zo_p156 zh_cX12_shift_2 5 18 rfl rfl
theorem dX12_shift_48 : decode cX12_shift 48 = .ok (.aload_n 0, 1) := zo_42 zh_cX12_shift_2 8 rfl
theorem dX12_shift_49 : decode cX12_shift 49 = .ok (.getfield 130, 3) := zo_180 zh_cX12_shift_2 9 rfl
theorem dX12_shift_52 : decode cX12_shift 52 = .ok (.iload_n 1, 1) := zo_27 zh_cX12_shift_2 12 rfl
theorem dX12_shift_53 : decode cX12_shift 53 = .ok (.iaload, 1) := zo_46 zh_cX12_shift_2 13 rfl
theorem dX12_shift_54 : decode cX12_shift 54 = .ok (.aload_n 0, 1) := zo_42 zh_cX12_shift_2 14 rfl
theorem dX12_shift_55 : decode cX12_shift 55 = .ok (.getfield 130, 3) := zo_180 zh_cX12_shift_2 15 rfl
theorem dX12_shift_58 : decode cX12_shift 58 = .ok (.iload_n 3, 1) := zo_29 zh_cX12_shift_2 18 rfl
theorem dX12_shift_59 : decode cX12_shift 59 = .ok (.iaload, 1) := zo_46 zh_cX12_shift_2 19 rfl
theorem zh_cX12_shift_3 : zck [159, 0, 6, 16, 244, 172, 21, 5, 155, 0, 39, 28, 155, 0, 35, 21, 4, 155, 0, 30, 28, 42] (zdu 60 cX12_shift.data.toList) = true := by decide +kernel
theorem dX12_shift_60 : decode cX12_shift 60 = .ok (.if_icmp .eq 6, 3) := zo_p159 zh_cX12_shift_3 0 6 rfl rfl
theorem dX12_shift_63 : decode cX12_shift 63 = .ok (.bipush (-12), 2) := zo_n16 zh_cX12_shift_3 3 11 rfl rfl
theorem dX12_shift_65 : decode cX12_shift 65 = .ok (.ireturn, 1) := zo_172 zh_cX12_shift_3 5 rfl
theorem dX12_shift_66 : decode cX12_shift 66 = .ok (.iload 5, 2) := zo_21 zh_cX12_shift_3 6 rfl
theorem dX12_shift_68 : decode cX12_shift 68 = .ok (.ifCond .lt 39, 3) := zo_p155 zh_cX12_shift_3 8 39 rfl rfl
theorem dX12_shift_71 : decode cX12_shift 71 = .ok (.iload_n 2, 1) := zo_28 zh_cX12_shift_3 11 rfl
theorem dX12_shift_72 : decode cX12_shift 72 = .ok (.ifCond .lt 35, 3) := zo_p155 zh_cX12_shift_3 12 35 rfl rfl
theorem dX12_shift_75 : decode cX12_shift 75 = .ok (.iload 4, 2) := zo_21 zh_cX12_shift_3 15 rfl
theorem dX12_shift_77 : decode cX12_shift 77 = .ok (.ifCond .lt 30, 3) := zo_p155 zh_cX12_shift_3 17 30 rfl rfl
theorem zh_cX12_shift_4 : zck [28, 42, 180, 0, 133, 27, 46, 21, 5, 100, 163, 0, 17, 21, 4, 42, 180, 0, 133, 29, 46, 21] (zdu 80 cX12_shift.data.toList) = true := by decide +kernel
theorem dX12_shift_80 : decode cX12_shift 80 = .ok (.iload_n 2, 1) := zo_28 zh_cX12_shift_4 0 rfl
theorem dX12_shift_81 : decode cX12_shift 81 = .ok (.aload_n 0, 1) := zo_42 zh_cX12_shift_4 1 rfl
theorem dX12_shift_82 : decode cX12_shift 82 = .ok (.getfield 133, 3) := zo_180 zh_cX12_shift_4 2 rfl
theorem dX12_shift_85 : decode cX12_shift 85 = .ok (.iload_n 1, 1) := zo_27 zh_cX12_shift_4 5 rfl
theorem dX12_shift_86 : decode cX12_shift 86 = .ok (.iaload, 1) := zo_46 zh_cX12_shift_4 6 rfl
theorem dX12_shift_87 : decode cX12_shift 87 = .ok (.iload 5, 2) := zo_21 zh_cX12_shift_4 7 rfl
theorem dX12_shift_89 : decode cX12_shift 89 = .ok (.isub, 1) := zo_100 zh_cX12_shift_4 9 rfl
theorem dX12_shift_90 : decode cX12_shift 90 = .ok (.if_icmp .gt 17, 3) := zo_p163 zh_cX12_shift_4 10 17 rfl rfl
theorem dX12_shift_93 : decode cX12_shift 93 = .ok (.iload 4, 2) := zo_21 zh_cX12_shift_4 13 rfl
theorem dX12_shift_95 : decode cX12_shift 95 = .ok (.aload_n 0, 1) := zo_42 zh_cX12_shift_4 15 rfl
theorem dX12_shift_96 : decode cX12_shift 96 = .ok (.getfield 133, 3) := zo_180 zh_cX12_shift_4 16 rfl
theorem dX12_shift_99 : decode cX12_shift 99 = .ok (.iload_n 3, 1) := zo_29 zh_cX12_shift_4 19 rfl
theorem zh_cX12_shift_5 : zck [46, 21, 5, 100, 164, 0, 6, 16, 243, 172, 3, 54, 6, 21, 6, 21, 5, 162, 0, 30, 42, 180] (zdu 100 cX12_shift.data.toList) = true := by decide +kernel
theorem dX12_shift_100 : decode cX12_shift 100 = .ok (.iaload, 1) := zo_46 zh_cX12_shift_5 0 rfl
theorem dX12_shift_101 : decode cX12_shift 101 = .ok (.iload 5, 2) := zo_21 zh_cX12_shift_5 1 rfl
theorem dX12_shift_103 : decode cX12_shift 103 = .ok (.isub, 1) := zo_100 zh_cX12_shift_5 3 rfl
theorem dX12_shift_104 : decode cX12_shift 104 = .ok (.if_icmp .le 6, 3) := zo_p164 zh_cX12_shift_5 4 6 rfl rfl
theorem dX12_shift_107 : decode cX12_shift 107 = .ok (.bipush (-13), 2) := zo_n16 zh_cX12_shift_5 7 12 rfl rfl
theorem dX12_shift_109 : decode cX12_shift 109 = .ok (.ireturn, 1) := zo_172 zh_cX12_shift_5 9 rfl
theorem dX12_shift_110 : decode cX12_shift 110 = .ok (.iconst 0, 1) := zo_3 zh_cX12_shift_5 10 rfl
theorem dX12_shift_111 : decode cX12_shift 111 = .ok (.istore 6, 2) := zo_54 zh_cX12_shift_5 11 rfl
theorem dX12_shift_113 : decode cX12_shift 113 = .ok (.iload 6, 2) := zo_21 zh_cX12_shift_5 13 rfl
theorem dX12_shift_115 : decode cX12_shift 115 = .ok (.iload 5, 2) := zo_21 zh_cX12_shift_5 15 rfl
theorem dX12_shift_117 : decode cX12_shift 117 = .ok (.if_icmp .ge 30, 3) := zo_p162 zh_cX12_shift_5 17 30 rfl rfl
theorem zh_cX12_shift_6 : zck [42, 180, 0, 140, 21, 6, 42, 180, 0, 136, 16, 60, 27, 104, 28, 96, 21, 6, 96, 47, 80, 132] (zdu 120 cX12_shift.data.toList) = true := by decide +kernel
theorem dX12_shift_120 : decode cX12_shift 120 = .ok (.aload_n 0, 1) := zo_42 zh_cX12_shift_6 0 rfl
theorem dX12_shift_121 : decode cX12_shift 121 = .ok (.getfield 140, 3) := zo_180 zh_cX12_shift_6 1 rfl
theorem dX12_shift_124 : decode cX12_shift 124 = .ok (.iload 6, 2) := zo_21 zh_cX12_shift_6 4 rfl
theorem dX12_shift_126 : decode cX12_shift 126 = .ok (.aload_n 0, 1) := zo_42 zh_cX12_shift_6 6 rfl
theorem dX12_shift_127 : decode cX12_shift 127 = .ok (.getfield 136, 3) := zo_180 zh_cX12_shift_6 7 rfl
theorem dX12_shift_130 : decode cX12_shift 130 = .ok (.bipush 60, 2) := zo_p16 zh_cX12_shift_6 10 60 rfl rfl
theorem dX12_shift_132 : decode cX12_shift 132 = .ok (.iload_n 1, 1) := zo_27 zh_cX12_shift_6 12 rfl
theorem dX12_shift_133 : decode cX12_shift 133 = .ok (.imul, 1) := zo_104 zh_cX12_shift_6 13 rfl
theorem dX12_shift_134 : decode cX12_shift 134 = .ok (.iload_n 2, 1) := zo_28 zh_cX12_shift_6 14 rfl
theorem dX12_shift_135 : decode cX12_shift 135 = .ok (.iadd, 1) := zo_96 zh_cX12_shift_6 15 rfl
theorem dX12_shift_136 : decode cX12_shift 136 = .ok (.iload 6, 2) := zo_21 zh_cX12_shift_6 16 rfl
theorem dX12_shift_138 : decode cX12_shift 138 = .ok (.iadd, 1) := zo_96 zh_cX12_shift_6 18 rfl
theorem dX12_shift_139 : decode cX12_shift 139 = .ok (.laload, 1) := zo_47 zh_cX12_shift_6 19 rfl
theorem zh_cX12_shift_7 : zck [80, 132, 6, 1, 167, 255, 225, 3, 54, 6, 21, 6, 21, 5, 162, 0, 31, 42, 180, 0, 136, 16] (zdu 140 cX12_shift.data.toList) = true := by decide +kernel
theorem dX12_shift_140 : decode cX12_shift 140 = .ok (.lastore, 1) := zo_80 zh_cX12_shift_7 0 rfl
theorem dX12_shift_141 : decode cX12_shift 141 = .ok (.iinc 6 1, 3) := zo_p132 zh_cX12_shift_7 1 1 rfl rfl
theorem dX12_shift_144 : decode cX12_shift 144 = .ok (.goto (-31), 3) := zo_n167 zh_cX12_shift_7 4 30 rfl rfl
theorem dX12_shift_147 : decode cX12_shift 147 = .ok (.iconst 0, 1) := zo_3 zh_cX12_shift_7 7 rfl
theorem dX12_shift_148 : decode cX12_shift 148 = .ok (.istore 6, 2) := zo_54 zh_cX12_shift_7 8 rfl
theorem dX12_shift_150 : decode cX12_shift 150 = .ok (.iload 6, 2) := zo_21 zh_cX12_shift_7 10 rfl
theorem dX12_shift_152 : decode cX12_shift 152 = .ok (.iload 5, 2) := zo_21 zh_cX12_shift_7 12 rfl
theorem dX12_shift_154 : decode cX12_shift 154 = .ok (.if_icmp .ge 31, 3) := zo_p162 zh_cX12_shift_7 14 31 rfl rfl
theorem dX12_shift_157 : decode cX12_shift 157 = .ok (.aload_n 0, 1) := zo_42 zh_cX12_shift_7 17 rfl
theorem dX12_shift_158 : decode cX12_shift 158 = .ok (.getfield 136, 3) := zo_180 zh_cX12_shift_7 18 rfl
theorem zh_cX12_shift_8 : zck [136, 16, 60, 29, 104, 21, 4, 96, 21, 6, 96, 42, 180, 0, 140, 21, 6, 47, 80, 132, 6, 1] (zdu 160 cX12_shift.data.toList) = true := by decide +kernel
theorem dX12_shift_161 : decode cX12_shift 161 = .ok (.bipush 60, 2) := zo_p16 zh_cX12_shift_8 1 60 rfl rfl
theorem dX12_shift_163 : decode cX12_shift 163 = .ok (.iload_n 3, 1) := zo_29 zh_cX12_shift_8 3 rfl
theorem dX12_shift_164 : decode cX12_shift 164 = .ok (.imul, 1) := zo_104 zh_cX12_shift_8 4 rfl
theorem dX12_shift_165 : decode cX12_shift 165 = .ok (.iload 4, 2) := zo_21 zh_cX12_shift_8 5 rfl
theorem dX12_shift_167 : decode cX12_shift 167 = .ok (.iadd, 1) := zo_96 zh_cX12_shift_8 7 rfl
theorem dX12_shift_168 : decode cX12_shift 168 = .ok (.iload 6, 2) := zo_21 zh_cX12_shift_8 8 rfl
theorem dX12_shift_170 : decode cX12_shift 170 = .ok (.iadd, 1) := zo_96 zh_cX12_shift_8 10 rfl
theorem dX12_shift_171 : decode cX12_shift 171 = .ok (.aload_n 0, 1) := zo_42 zh_cX12_shift_8 11 rfl
theorem dX12_shift_172 : decode cX12_shift 172 = .ok (.getfield 140, 3) := zo_180 zh_cX12_shift_8 12 rfl
theorem dX12_shift_175 : decode cX12_shift 175 = .ok (.iload 6, 2) := zo_21 zh_cX12_shift_8 15 rfl
theorem dX12_shift_177 : decode cX12_shift 177 = .ok (.laload, 1) := zo_47 zh_cX12_shift_8 17 rfl
theorem dX12_shift_178 : decode cX12_shift 178 = .ok (.lastore, 1) := zo_80 zh_cX12_shift_8 18 rfl
theorem dX12_shift_179 : decode cX12_shift 179 = .ok (.iinc 6 1, 3) := zo_p132 zh_cX12_shift_8 19 1 rfl rfl
theorem zh_cX12_shift_9 : zck [6, 1, 167, 255, 224, 21, 5, 172] (zdu 180 cX12_shift.data.toList) = true := by decide +kernel
theorem dX12_shift_182 : decode cX12_shift 182 = .ok (.goto (-32), 3) := zo_n167 zh_cX12_shift_9 2 31 rfl rfl
theorem dX12_shift_185 : decode cX12_shift 185 = .ok (.iload 5, 2) := zo_21 zh_cX12_shift_9 5 rfl
theorem dX12_shift_187 : decode cX12_shift 187 = .ok (.ireturn, 1) := zo_172 zh_cX12_shift_9 7 rfl
abbrev z_X12_shift : List Cond := .code yX12_shift cX12_shift 7 (some .int) :: zW
abbrev wl_X12_shift (ad : Nat → Nat) (cs : Nat → ClassId)  (mod_code : Int32) (mod_shoes : Int32) (mod_claims : Int32) (mod_taped : Int32) (mod_here : Int32) (mod_fault : Int32) (mod_suits : Int32) (mod_doneMany : Int32) (mod_undoneMany : Int32) (mod_open : Int32) (mod_laid : Int32) (mod_isBoth : Int32) (mod_wished : Int32) (mod_bestMany : Int32) (mod_bestRow : Int32) (mod_ringDigits : Int32) (mod_traces : Int32) (mod_holds : Nat → Int32) (mod_size : Nat → Int32) (mod_elements : Nat → Int64) (mod_shifted : Nat → Int64) : va_W := [((ad 41), .inr (12, [.int mod_code, .int mod_shoes, .ref (ad 42), .ref (ad 43), .ref (ad 44), .ref (ad 45), .int mod_claims, .ref (ad 46), .ref (ad 47), .ref (ad 48), .ref (ad 49), .ref (ad 50), .int mod_taped, .int mod_here, .int mod_fault, .int mod_suits, .ref (ad 51), .ref (ad 52), .ref (ad 53), .ref (ad 54), .ref (ad 55), .ref (ad 56), .ref (ad 57), .ref (ad 58), .ref (ad 59), .ref (ad 60), .ref (ad 61), .int mod_doneMany, .int mod_undoneMany, .ref (ad 62), .ref (ad 63), .ref (ad 64), .ref (ad 65), .int mod_open, .int mod_laid, .ref (ad 66), .ref (ad 67), .ref (ad 68), .ref (ad 69), .ref (ad 70), .ref (ad 71), .ref (ad 72), .ref (ad 73), .ref (ad 74), .ref (ad 75), .int mod_isBoth, .int mod_wished, .ref (ad 76), .ref (ad 77), .int mod_bestMany, .int mod_bestRow, .ref (ad 78), .ref (ad 79), .int mod_ringDigits, .int mod_traces, .ref (ad 80), .ref (ad 81), .ref (ad 82), .ref (ad 83), .ref (ad 84)])), ((ad 81), .inl (cs 0, 6, .inl mod_holds)), ((ad 82), .inl (cs 0, 6, .inl mod_size)), ((ad 83), .inl (cs 1, 360, .inr (.inl mod_elements))), ((ad 84), .inl (cs 1, 60, .inr (.inl mod_shifted)))]
def Q_X12_shift (D : va_G) (cs : Nat → ClassId) (ad : Nat → Nat)  (mod_code : Int32) (mod_shoes : Int32) (mod_claims : Int32) (mod_taped : Int32) (mod_here : Int32) (mod_fault : Int32) (mod_suits : Int32) (mod_doneMany : Int32) (mod_undoneMany : Int32) (mod_open : Int32) (mod_laid : Int32) (mod_isBoth : Int32) (mod_wished : Int32) (mod_bestMany : Int32) (mod_bestRow : Int32) (mod_ringDigits : Int32) (mod_traces : Int32) (mod_holds : Nat → Int32) (mod_size : Nat → Int32) (A : Nat → Prop) (R : Int32 × (Nat → Int64) × (Nat → Int64)) : Array Value → State → Outcome → State → Prop :=
  va_Qi (fun (r : Int32) (u : (Nat → Int64) × (Nat → Int64)) => (r, u) = R) (fun (u : (Nat → Int64) × (Nat → Int64)) (t : State) => va_P D classes (wl_X12_shift ad cs mod_code mod_shoes mod_claims mod_taped mod_here mod_fault mod_suits mod_doneMany mod_undoneMany mod_open mod_laid mod_isBoth mod_wished mod_bestMany mod_bestRow mod_ringDigits mod_traces mod_holds mod_size u.1 u.2) t.heap ∧ va_D A (wl_X12_shift ad cs mod_code mod_shoes mod_claims mod_taped mod_here mod_fault mod_suits mod_doneMany mod_undoneMany mod_open mod_laid mod_isBoth mod_wished mod_bestMany mod_bestRow mod_ringDigits mod_traces mod_holds mod_size u.1 u.2)) A
abbrev rm_X12_shift : Room := { frames := 2, cells := 0, slots := 0, locals := 42 }
def B_X12_shift_150   (g113 : Int32 → Int32 → Int32 → Int32 → Int32 → Int32 → (Nat → Int64) → (Nat → Int64) → (Option (Int32 × (Nat → Int64) × (Nat → Int64)))) (g150 : Int32 → Int32 → Int32 → Int32 → (Nat → Int64) → (Nat → Int64) → (Option (Int32 × (Nat → Int64) × (Nat → Int64)))) (mod_code : Int32) (mod_shoes : Int32) (mod_claims : Int32) (mod_taped : Int32) (mod_here : Int32) (mod_fault : Int32) (mod_suits : Int32) (mod_doneMany : Int32) (mod_undoneMany : Int32) (mod_open : Int32) (mod_laid : Int32) (mod_isBoth : Int32) (mod_wished : Int32) (mod_bestMany : Int32) (mod_bestRow : Int32) (mod_ringDigits : Int32) (mod_traces : Int32) (mod_holds : Nat → Int32) (mod_size : Nat → Int32) (x3 : Int32) (x4 : Int32) (x5 : Int32) (x6 : Int32) (mod_elements : Nat → Int64) (mod_shifted : Nat → Int64) : Option (Int32 × (Nat → Int64) × (Nat → Int64)) :=
  (if x5 ≤ x6 then (some (x5, mod_elements, mod_shifted)) else (if (x6 < 0 ∨ 60 ≤ x6.toNatClampNeg) then none else (zk_let (mod_shifted x6.toNatClampNeg) (fun v_33 => (if (((((60 : Int32) * x3) + x4) + x6) < 0 ∨ 360 ≤ ((((60 : Int32) * x3) + x4) + x6).toNatClampNeg) then none else (zk_let (vp_updL mod_elements ((((60 : Int32) * x3) + x4) + x6).toNatClampNeg v_33) (fun f_35 => (zk_let (x6 + (1 : Int32)) (fun v_36 => (g150 x3 x4 x5 v_36 f_35 mod_shifted))))))))))
def B_X12_shift_113   (g113 : Int32 → Int32 → Int32 → Int32 → Int32 → Int32 → (Nat → Int64) → (Nat → Int64) → (Option (Int32 × (Nat → Int64) × (Nat → Int64)))) (g150 : Int32 → Int32 → Int32 → Int32 → (Nat → Int64) → (Nat → Int64) → (Option (Int32 × (Nat → Int64) × (Nat → Int64)))) (mod_code : Int32) (mod_shoes : Int32) (mod_claims : Int32) (mod_taped : Int32) (mod_here : Int32) (mod_fault : Int32) (mod_suits : Int32) (mod_doneMany : Int32) (mod_undoneMany : Int32) (mod_open : Int32) (mod_laid : Int32) (mod_isBoth : Int32) (mod_wished : Int32) (mod_bestMany : Int32) (mod_bestRow : Int32) (mod_ringDigits : Int32) (mod_traces : Int32) (mod_holds : Nat → Int32) (mod_size : Nat → Int32) (x1 : Int32) (x2 : Int32) (x3 : Int32) (x4 : Int32) (x5 : Int32) (x6 : Int32) (mod_elements : Nat → Int64) (mod_shifted : Nat → Int64) : Option (Int32 × (Nat → Int64) × (Nat → Int64)) :=
  (if x5 ≤ x6 then (g150 x3 x4 x5 (0 : Int32) mod_elements mod_shifted) else (if (((((60 : Int32) * x1) + x2) + x6) < 0 ∨ 360 ≤ ((((60 : Int32) * x1) + x2) + x6).toNatClampNeg) then none else (zk_let (mod_elements ((((60 : Int32) * x1) + x2) + x6).toNatClampNeg) (fun v_27 => (if (x6 < 0 ∨ 60 ≤ x6.toNatClampNeg) then none else (zk_let (vp_updL mod_shifted x6.toNatClampNeg v_27) (fun f_29 => (zk_let (x6 + (1 : Int32)) (fun v_30 => (g113 x1 x2 x3 x4 x5 v_30 mod_elements f_29))))))))))
def B_X12_shift_0   (g113 : Int32 → Int32 → Int32 → Int32 → Int32 → Int32 → (Nat → Int64) → (Nat → Int64) → (Option (Int32 × (Nat → Int64) × (Nat → Int64)))) (g150 : Int32 → Int32 → Int32 → Int32 → (Nat → Int64) → (Nat → Int64) → (Option (Int32 × (Nat → Int64) × (Nat → Int64)))) (mod_code : Int32) (mod_shoes : Int32) (mod_claims : Int32) (mod_taped : Int32) (mod_here : Int32) (mod_fault : Int32) (mod_suits : Int32) (mod_doneMany : Int32) (mod_undoneMany : Int32) (mod_open : Int32) (mod_laid : Int32) (mod_isBoth : Int32) (mod_wished : Int32) (mod_bestMany : Int32) (mod_bestRow : Int32) (mod_ringDigits : Int32) (mod_traces : Int32) (mod_holds : Nat → Int32) (mod_size : Nat → Int32) (x1 : Int32) (x2 : Int32) (x3 : Int32) (x4 : Int32) (x5 : Int32) (mod_elements : Nat → Int64) (mod_shifted : Nat → Int64) : Option (Int32 × (Nat → Int64) × (Nat → Int64)) :=
  (zk_b2 (f_X12_isShelf x1) (fun r_1 u_2 => (if r_1 = 0 then (some ((-1 : Int32), mod_elements, mod_shifted)) else (zk_b2 (f_X12_isShelf x3) (fun r_5 u_6 => (if r_5 = 0 then (some ((-1 : Int32), mod_elements, mod_shifted)) else (if (x1 < 0 ∨ 6 ≤ x1.toNatClampNeg) then none else (if (mod_holds x1.toNatClampNeg) = (-1 : Int32) then (some ((-11 : Int32), mod_elements, mod_shifted)) else (if (x3 < 0 ∨ 6 ≤ x3.toNatClampNeg) then none else (if (mod_holds x3.toNatClampNeg) = (-1 : Int32) then (some ((-11 : Int32), mod_elements, mod_shifted)) else (if (x1 < 0 ∨ 6 ≤ x1.toNatClampNeg) then none else (if 0 ≤ (mod_holds x1.toNatClampNeg) then (some ((-12 : Int32), mod_elements, mod_shifted)) else (if (x1 < 0 ∨ 6 ≤ x1.toNatClampNeg) then none else (if (x3 < 0 ∨ 6 ≤ x3.toNatClampNeg) then none else (if (mod_holds x1.toNatClampNeg) = (mod_holds x3.toNatClampNeg) then (if x5 < 0 then (some ((-13 : Int32), mod_elements, mod_shifted)) else (if x2 < 0 then (some ((-13 : Int32), mod_elements, mod_shifted)) else (if x4 < 0 then (some ((-13 : Int32), mod_elements, mod_shifted)) else (if (x1 < 0 ∨ 6 ≤ x1.toNatClampNeg) then none else (if ((mod_size x1.toNatClampNeg) - x5) < x2 then (some ((-13 : Int32), mod_elements, mod_shifted)) else (if (x3 < 0 ∨ 6 ≤ x3.toNatClampNeg) then none else (if x4 ≤ ((mod_size x3.toNatClampNeg) - x5) then (g113 x1 x2 x3 x4 x5 (0 : Int32) mod_elements mod_shifted) else (some ((-13 : Int32), mod_elements, mod_shifted))))))))) else (some ((-12 : Int32), mod_elements, mod_shifted)))))))))))))))))
def G_X12_shift   (mod_code : Int32) (mod_shoes : Int32) (mod_claims : Int32) (mod_taped : Int32) (mod_here : Int32) (mod_fault : Int32) (mod_suits : Int32) (mod_doneMany : Int32) (mod_undoneMany : Int32) (mod_open : Int32) (mod_laid : Int32) (mod_isBoth : Int32) (mod_wished : Int32) (mod_bestMany : Int32) (mod_bestRow : Int32) (mod_ringDigits : Int32) (mod_traces : Int32) (mod_holds : Nat → Int32) (mod_size : Nat → Int32) (n : Nat) : (Int32 → Int32 → Int32 → Int32 → Int32 → Int32 → (Nat → Int64) → (Nat → Int64) → (Option (Int32 × (Nat → Int64) × (Nat → Int64)))) × (Int32 → Int32 → Int32 → Int32 → (Nat → Int64) → (Nat → Int64) → (Option (Int32 × (Nat → Int64) × (Nat → Int64)))) :=
  Nat.rec (motive := fun _ => (Int32 → Int32 → Int32 → Int32 → Int32 → Int32 → (Nat → Int64) → (Nat → Int64) → (Option (Int32 × (Nat → Int64) × (Nat → Int64)))) × (Int32 → Int32 → Int32 → Int32 → (Nat → Int64) → (Nat → Int64) → (Option (Int32 × (Nat → Int64) × (Nat → Int64))))) ((fun _ _ _ _ _ _ _ _ => none), (fun _ _ _ _ _ _ => none)) (fun _ ih => (B_X12_shift_113   ih.1 ih.2 mod_code mod_shoes mod_claims mod_taped mod_here mod_fault mod_suits mod_doneMany mod_undoneMany mod_open mod_laid mod_isBoth mod_wished mod_bestMany mod_bestRow mod_ringDigits mod_traces mod_holds mod_size, B_X12_shift_150   ih.1 ih.2 mod_code mod_shoes mod_claims mod_taped mod_here mod_fault mod_suits mod_doneMany mod_undoneMany mod_open mod_laid mod_isBoth mod_wished mod_bestMany mod_bestRow mod_ringDigits mod_traces mod_holds mod_size)) n
def f_X12_shift   (n : Nat) (x1 : Int32) (x2 : Int32) (x3 : Int32) (x4 : Int32) (x5 : Int32) (mod_code : Int32) (mod_shoes : Int32) (mod_claims : Int32) (mod_taped : Int32) (mod_here : Int32) (mod_fault : Int32) (mod_suits : Int32) (mod_doneMany : Int32) (mod_undoneMany : Int32) (mod_open : Int32) (mod_laid : Int32) (mod_isBoth : Int32) (mod_wished : Int32) (mod_bestMany : Int32) (mod_bestRow : Int32) (mod_ringDigits : Int32) (mod_traces : Int32) (mod_holds : Nat → Int32) (mod_size : Nat → Int32) (mod_elements : Nat → Int64) (mod_shifted : Nat → Int64) : Option (Int32 × (Nat → Int64) × (Nat → Int64)) := B_X12_shift_0   ((G_X12_shift   mod_code mod_shoes mod_claims mod_taped mod_here mod_fault mod_suits mod_doneMany mod_undoneMany mod_open mod_laid mod_isBoth mod_wished mod_bestMany mod_bestRow mod_ringDigits mod_traces mod_holds mod_size n).1) ((G_X12_shift   mod_code mod_shoes mod_claims mod_taped mod_here mod_fault mod_suits mod_doneMany mod_undoneMany mod_open mod_laid mod_isBoth mod_wished mod_bestMany mod_bestRow mod_ringDigits mod_traces mod_holds mod_size n).2) mod_code mod_shoes mod_claims mod_taped mod_here mod_fault mod_suits mod_doneMany mod_undoneMany mod_open mod_laid mod_isBoth mod_wished mod_bestMany mod_bestRow mod_ringDigits mod_traces mod_holds mod_size x1 x2 x3 x4 x5 mod_elements mod_shifted
set_option maxHeartbeats 4000000 in
set_option maxRecDepth 100000 in
theorem L_X12_shift_150 {p : Program} {l : Launch} {e : Env} {s : State} {m : MethodId} {args : Array Value} {below : List Frame} {meth : Method} {c : Code} {A : Nat → Prop} {D : va_G} {cs : Nat → ClassId} {ad : Nat → Nat} {mod_code : Int32} {mod_shoes : Int32} {mod_claims : Int32} {mod_taped : Int32} {mod_here : Int32} {mod_fault : Int32} {mod_suits : Int32} {mod_doneMany : Int32} {mod_undoneMany : Int32} {mod_open : Int32} {mod_laid : Int32} {mod_isBoth : Int32} {mod_wished : Int32} {mod_bestMany : Int32} {mod_bestRow : Int32} {mod_ringDigits : Int32} {mod_traces : Int32} {mod_holds : Nat → Int32} {mod_size : Nat → Int32} {R : Int32 × (Nat → Int64) × (Nat → Int64)} {g113 : Int32 → Int32 → Int32 → Int32 → Int32 → Int32 → (Nat → Int64) → (Nat → Int64) → (Option (Int32 × (Nat → Int64) × (Nat → Int64)))} {g150 : Int32 → Int32 → Int32 → Int32 → (Nat → Int64) → (Nat → Int64) → (Option (Int32 × (Nat → Int64) × (Nat → Int64)))} (C0 : zC p s m args meth c cX12_shift 7 (some .int) RX12 zW) (hK : va_K D classes (zT cs) s) (hA : ∀ q : Nat, s.heap.size ≤ q → A q) (ih113 : ∀ (x1 : Int32) (x2 : Int32) (x3 : Int32) (x4 : Int32) (x5 : Int32) (x6 : Int32) (mod_elements : Nat → Int64) (mod_shifted : Nat → Int64) (h : g113 x1 x2 x3 x4 x5 x6 mod_elements mod_shifted = some R) (H : Heap) (locs : List Loc) (ls : Array Slot) (hP : va_P D classes (wl_X12_shift ad cs mod_code mod_shoes mod_claims mod_taped mod_here mod_fault mod_suits mod_doneMany mod_undoneMany mod_open mod_laid mod_isBoth mod_wished mod_bestMany mod_bestRow mod_ringDigits mod_traces mod_holds mod_size mod_elements mod_shifted) H) (hD : va_D A (wl_X12_shift ad cs mod_code mod_shoes mod_claims mod_taped mod_here mod_fault mod_suits mod_doneMany mod_undoneMany mod_open mod_laid mod_isBoth mod_wished mod_bestMany mod_bestRow mod_ringDigits mod_traces mod_holds mod_size mod_elements mod_shifted)) (hS : va_S A s.heap H locs) (hl : lv_has ls 7 [(0, .ref (ad 41)), (1, .int x1), (2, .int x2), (3, .int x3), (4, .int x4), (5, .int x5), (6, .int x6)]), W p l e rm_X12_shift s m args below meth c H locs 0 0 (MQ below (Q_X12_shift D cs ad mod_code mod_shoes mod_claims mod_taped mod_here mod_fault mod_suits mod_doneMany mod_undoneMany mod_open mod_laid mod_isBoth mod_wished mod_bestMany mod_bestRow mod_ringDigits mod_traces mod_holds mod_size A R) args s 0 0 A) (F0 m 113 ls [])) (ih150 : ∀ (x3 : Int32) (x4 : Int32) (x5 : Int32) (x6 : Int32) (mod_elements : Nat → Int64) (mod_shifted : Nat → Int64) (h : g150 x3 x4 x5 x6 mod_elements mod_shifted = some R) (H : Heap) (locs : List Loc) (ls : Array Slot) (hP : va_P D classes (wl_X12_shift ad cs mod_code mod_shoes mod_claims mod_taped mod_here mod_fault mod_suits mod_doneMany mod_undoneMany mod_open mod_laid mod_isBoth mod_wished mod_bestMany mod_bestRow mod_ringDigits mod_traces mod_holds mod_size mod_elements mod_shifted) H) (hD : va_D A (wl_X12_shift ad cs mod_code mod_shoes mod_claims mod_taped mod_here mod_fault mod_suits mod_doneMany mod_undoneMany mod_open mod_laid mod_isBoth mod_wished mod_bestMany mod_bestRow mod_ringDigits mod_traces mod_holds mod_size mod_elements mod_shifted)) (hS : va_S A s.heap H locs) (hl : lv_has ls 7 [(0, .ref (ad 41)), (3, .int x3), (4, .int x4), (5, .int x5), (6, .int x6)]), W p l e rm_X12_shift s m args below meth c H locs 0 0 (MQ below (Q_X12_shift D cs ad mod_code mod_shoes mod_claims mod_taped mod_here mod_fault mod_suits mod_doneMany mod_undoneMany mod_open mod_laid mod_isBoth mod_wished mod_bestMany mod_bestRow mod_ringDigits mod_traces mod_holds mod_size A R) args s 0 0 A) (F0 m 150 ls [])) (x3 : Int32) (x4 : Int32) (x5 : Int32) (x6 : Int32) (mod_elements : Nat → Int64) (mod_shifted : Nat → Int64) (h : B_X12_shift_150 g113 g150 mod_code mod_shoes mod_claims mod_taped mod_here mod_fault mod_suits mod_doneMany mod_undoneMany mod_open mod_laid mod_isBoth mod_wished mod_bestMany mod_bestRow mod_ringDigits mod_traces mod_holds mod_size x3 x4 x5 x6 mod_elements mod_shifted = some R) (H : Heap) (locs : List Loc) (ls : Array Slot) (hP : va_P D classes (wl_X12_shift ad cs mod_code mod_shoes mod_claims mod_taped mod_here mod_fault mod_suits mod_doneMany mod_undoneMany mod_open mod_laid mod_isBoth mod_wished mod_bestMany mod_bestRow mod_ringDigits mod_traces mod_holds mod_size mod_elements mod_shifted) H) (hD : va_D A (wl_X12_shift ad cs mod_code mod_shoes mod_claims mod_taped mod_here mod_fault mod_suits mod_doneMany mod_undoneMany mod_open mod_laid mod_isBoth mod_wished mod_bestMany mod_bestRow mod_ringDigits mod_traces mod_holds mod_size mod_elements mod_shifted)) (hS : va_S A s.heap H locs) (hl : lv_has ls 7 [(0, .ref (ad 41)), (3, .int x3), (4, .int x4), (5, .int x5), (6, .int x6)]) : W p l e rm_X12_shift s m args below meth c H locs 0 0 (MQ below (Q_X12_shift D cs ad mod_code mod_shoes mod_claims mod_taped mod_here mod_fault mod_suits mod_doneMany mod_undoneMany mod_open mod_laid mod_isBoth mod_wished mod_bestMany mod_bestRow mod_ringDigits mod_traces mod_holds mod_size A R) args s 0 0 A) (F0 m 150 ls []) := by
  obtain ⟨hx, hb, hr, hml, hown, ht, hlocks⟩ := id C0
  refine lv_iload hx hb dX12_shift_150 (lv_at hl 4 rfl) ?_
  refine lv_iload hx hb dX12_shift_152 (lv_at hl 3 rfl) ?_
  refine lv_icmp_ge (tgt := 185) hx hb dX12_shift_154 (by decide) (fun c_31 => ?_) (fun c_31 => ?_)
  · have h := zk_t c_31 h
    refine lv_iload hx hb dX12_shift_185 (lv_at hl 3 rfl) ?_
    exact W.iret (v := x5) hx hb hr (fun t ht2 hW => ⟨⟨x5, (mod_elements, mod_shifted), rfl, Option.some.inj h, by rw [ht2]; exact hP, hD⟩, hS.F ht2⟩) hS.2.2 dX12_shift_187 hlocks
  · have h := zk_f c_31 h
    refine lv_aload_n hx hb dX12_shift_157 rfl (lv_at hl 0 rfl) ?_
    refine va_get (D := D) (ci := 12) (v := .ref (ad 83)) (C := RX12) (T := TX12) (N := 60) hx hb ht iX12 hown hK hP 0 rfl rfl 58 (by decide) (ht _ kw_1353) (fun _ h9 => h9) rfl dX12_shift_158 ?_
    refine lv_bipush (v := (60 : Int32)) hx hb dX12_shift_161 (by decide) ?_
    refine lv_iload_n hx hb dX12_shift_163 rfl (lv_at hl 1 rfl) ?_
    refine lv_imul hx hb dX12_shift_164 ?_
    refine lv_iload hx hb dX12_shift_165 (lv_at hl 2 rfl) ?_
    refine lv_iadd hx hb dX12_shift_167 ?_
    refine lv_iload hx hb dX12_shift_168 (lv_at hl 4 rfl) ?_
    refine lv_iadd hx hb dX12_shift_170 ?_
    refine lv_aload_n hx hb dX12_shift_171 rfl (lv_at hl 0 rfl) ?_
    refine va_get (D := D) (ci := 12) (v := .ref (ad 84)) (C := RX12) (T := TX12) (N := 60) hx hb ht iX12 hown hK hP 0 rfl rfl 59 (by decide) (ht _ kw_1354) (fun _ h9 => h9) rfl dX12_shift_172 ?_
    refine lv_iload hx hb dX12_shift_175 (lv_at hl 4 rfl) ?_
    obtain ⟨g_32, h⟩ := zk_gd h
    refine va_lald hx hb hK hP 4 1 rfl rfl g_32 dX12_shift_177 ?_
    obtain ⟨v_33, ev_33, h⟩ := zk_lt h
    refine W.eq (g2 := F0 m 178 ls [.long v_33, .int ((((60 : Int32) * x3) + x4) + x6), .ref (ad 83)]) (by rw [ev_33]) ?_
    obtain ⟨g_34, h⟩ := zk_gd h
    obtain ⟨f_35, ef_35, h⟩ := zk_lt h
    refine va_last hx hb hK hP hD hS 3 1 rfl rfl g_34 dX12_shift_178 (fun H locs hP hD hS => ?_)
    have hP : va_P D classes (wl_X12_shift ad cs mod_code mod_shoes mod_claims mod_taped mod_here mod_fault mod_suits mod_doneMany mod_undoneMany mod_open mod_laid mod_isBoth mod_wished mod_bestMany mod_bestRow mod_ringDigits mod_traces mod_holds mod_size f_35 mod_shifted) H := by rw [ef_35]; exact hP
    have hD : va_D A (wl_X12_shift ad cs mod_code mod_shoes mod_claims mod_taped mod_here mod_fault mod_suits mod_doneMany mod_undoneMany mod_open mod_laid mod_isBoth mod_wished mod_bestMany mod_bestRow mod_ringDigits mod_traces mod_holds mod_size f_35 mod_shifted) := by rw [ef_35]; exact hD
    obtain ⟨v_36, ev_36, h⟩ := zk_lt h
    refine lv_iinc (v := v_36) (lv' := [(6, .int v_36), (0, .ref (ad 41)), (3, .int x3), (4, .int x4), (5, .int x5)]) hx hb dX12_shift_179 hl (k := 4) rfl (by rw [ev_36]; rfl) (by decide) rfl (fun ls hl => ?_)
    refine lv_goto (tgt := 150) hx hb dX12_shift_182 (by decide) ?_
    exact ih150 x3 x4 x5 v_36 f_35 mod_shifted h H locs ls hP hD hS (lv_sub hl [1, 2, 3, 4, 0] rfl)
set_option maxHeartbeats 4000000 in
set_option maxRecDepth 100000 in
theorem L_X12_shift_113 {p : Program} {l : Launch} {e : Env} {s : State} {m : MethodId} {args : Array Value} {below : List Frame} {meth : Method} {c : Code} {A : Nat → Prop} {D : va_G} {cs : Nat → ClassId} {ad : Nat → Nat} {mod_code : Int32} {mod_shoes : Int32} {mod_claims : Int32} {mod_taped : Int32} {mod_here : Int32} {mod_fault : Int32} {mod_suits : Int32} {mod_doneMany : Int32} {mod_undoneMany : Int32} {mod_open : Int32} {mod_laid : Int32} {mod_isBoth : Int32} {mod_wished : Int32} {mod_bestMany : Int32} {mod_bestRow : Int32} {mod_ringDigits : Int32} {mod_traces : Int32} {mod_holds : Nat → Int32} {mod_size : Nat → Int32} {R : Int32 × (Nat → Int64) × (Nat → Int64)} {g113 : Int32 → Int32 → Int32 → Int32 → Int32 → Int32 → (Nat → Int64) → (Nat → Int64) → (Option (Int32 × (Nat → Int64) × (Nat → Int64)))} {g150 : Int32 → Int32 → Int32 → Int32 → (Nat → Int64) → (Nat → Int64) → (Option (Int32 × (Nat → Int64) × (Nat → Int64)))} (C0 : zC p s m args meth c cX12_shift 7 (some .int) RX12 zW) (hK : va_K D classes (zT cs) s) (hA : ∀ q : Nat, s.heap.size ≤ q → A q) (ih113 : ∀ (x1 : Int32) (x2 : Int32) (x3 : Int32) (x4 : Int32) (x5 : Int32) (x6 : Int32) (mod_elements : Nat → Int64) (mod_shifted : Nat → Int64) (h : g113 x1 x2 x3 x4 x5 x6 mod_elements mod_shifted = some R) (H : Heap) (locs : List Loc) (ls : Array Slot) (hP : va_P D classes (wl_X12_shift ad cs mod_code mod_shoes mod_claims mod_taped mod_here mod_fault mod_suits mod_doneMany mod_undoneMany mod_open mod_laid mod_isBoth mod_wished mod_bestMany mod_bestRow mod_ringDigits mod_traces mod_holds mod_size mod_elements mod_shifted) H) (hD : va_D A (wl_X12_shift ad cs mod_code mod_shoes mod_claims mod_taped mod_here mod_fault mod_suits mod_doneMany mod_undoneMany mod_open mod_laid mod_isBoth mod_wished mod_bestMany mod_bestRow mod_ringDigits mod_traces mod_holds mod_size mod_elements mod_shifted)) (hS : va_S A s.heap H locs) (hl : lv_has ls 7 [(0, .ref (ad 41)), (1, .int x1), (2, .int x2), (3, .int x3), (4, .int x4), (5, .int x5), (6, .int x6)]), W p l e rm_X12_shift s m args below meth c H locs 0 0 (MQ below (Q_X12_shift D cs ad mod_code mod_shoes mod_claims mod_taped mod_here mod_fault mod_suits mod_doneMany mod_undoneMany mod_open mod_laid mod_isBoth mod_wished mod_bestMany mod_bestRow mod_ringDigits mod_traces mod_holds mod_size A R) args s 0 0 A) (F0 m 113 ls [])) (ih150 : ∀ (x3 : Int32) (x4 : Int32) (x5 : Int32) (x6 : Int32) (mod_elements : Nat → Int64) (mod_shifted : Nat → Int64) (h : g150 x3 x4 x5 x6 mod_elements mod_shifted = some R) (H : Heap) (locs : List Loc) (ls : Array Slot) (hP : va_P D classes (wl_X12_shift ad cs mod_code mod_shoes mod_claims mod_taped mod_here mod_fault mod_suits mod_doneMany mod_undoneMany mod_open mod_laid mod_isBoth mod_wished mod_bestMany mod_bestRow mod_ringDigits mod_traces mod_holds mod_size mod_elements mod_shifted) H) (hD : va_D A (wl_X12_shift ad cs mod_code mod_shoes mod_claims mod_taped mod_here mod_fault mod_suits mod_doneMany mod_undoneMany mod_open mod_laid mod_isBoth mod_wished mod_bestMany mod_bestRow mod_ringDigits mod_traces mod_holds mod_size mod_elements mod_shifted)) (hS : va_S A s.heap H locs) (hl : lv_has ls 7 [(0, .ref (ad 41)), (3, .int x3), (4, .int x4), (5, .int x5), (6, .int x6)]), W p l e rm_X12_shift s m args below meth c H locs 0 0 (MQ below (Q_X12_shift D cs ad mod_code mod_shoes mod_claims mod_taped mod_here mod_fault mod_suits mod_doneMany mod_undoneMany mod_open mod_laid mod_isBoth mod_wished mod_bestMany mod_bestRow mod_ringDigits mod_traces mod_holds mod_size A R) args s 0 0 A) (F0 m 150 ls [])) (x1 : Int32) (x2 : Int32) (x3 : Int32) (x4 : Int32) (x5 : Int32) (x6 : Int32) (mod_elements : Nat → Int64) (mod_shifted : Nat → Int64) (h : B_X12_shift_113 g113 g150 mod_code mod_shoes mod_claims mod_taped mod_here mod_fault mod_suits mod_doneMany mod_undoneMany mod_open mod_laid mod_isBoth mod_wished mod_bestMany mod_bestRow mod_ringDigits mod_traces mod_holds mod_size x1 x2 x3 x4 x5 x6 mod_elements mod_shifted = some R) (H : Heap) (locs : List Loc) (ls : Array Slot) (hP : va_P D classes (wl_X12_shift ad cs mod_code mod_shoes mod_claims mod_taped mod_here mod_fault mod_suits mod_doneMany mod_undoneMany mod_open mod_laid mod_isBoth mod_wished mod_bestMany mod_bestRow mod_ringDigits mod_traces mod_holds mod_size mod_elements mod_shifted) H) (hD : va_D A (wl_X12_shift ad cs mod_code mod_shoes mod_claims mod_taped mod_here mod_fault mod_suits mod_doneMany mod_undoneMany mod_open mod_laid mod_isBoth mod_wished mod_bestMany mod_bestRow mod_ringDigits mod_traces mod_holds mod_size mod_elements mod_shifted)) (hS : va_S A s.heap H locs) (hl : lv_has ls 7 [(0, .ref (ad 41)), (1, .int x1), (2, .int x2), (3, .int x3), (4, .int x4), (5, .int x5), (6, .int x6)]) : W p l e rm_X12_shift s m args below meth c H locs 0 0 (MQ below (Q_X12_shift D cs ad mod_code mod_shoes mod_claims mod_taped mod_here mod_fault mod_suits mod_doneMany mod_undoneMany mod_open mod_laid mod_isBoth mod_wished mod_bestMany mod_bestRow mod_ringDigits mod_traces mod_holds mod_size A R) args s 0 0 A) (F0 m 113 ls []) := by
  obtain ⟨hx, hb, hr, hml, hown, ht, hlocks⟩ := id C0
  refine lv_iload hx hb dX12_shift_113 (lv_at hl 6 rfl) ?_
  refine lv_iload hx hb dX12_shift_115 (lv_at hl 5 rfl) ?_
  refine lv_icmp_ge (tgt := 147) hx hb dX12_shift_117 (by decide) (fun c_25 => ?_) (fun c_25 => ?_)
  · have h := zk_t c_25 h
    refine lv_iconst (v := (0 : Int32)) hx hb dX12_shift_147 (by decide) ?_
    refine lv_istore (lv' := [(6, .int (0 : Int32)), (0, .ref (ad 41)), (1, .int x1), (2, .int x2), (3, .int x3), (4, .int x4), (5, .int x5)]) hx hb dX12_shift_148 hl (by decide) rfl (fun ls hl => ?_)
    exact ih150 x3 x4 x5 (0 : Int32) mod_elements mod_shifted h H locs ls hP hD hS (lv_sub hl [1, 4, 5, 6, 0] rfl)
  · have h := zk_f c_25 h
    refine lv_aload_n hx hb dX12_shift_120 rfl (lv_at hl 0 rfl) ?_
    refine va_get (D := D) (ci := 12) (v := .ref (ad 84)) (C := RX12) (T := TX12) (N := 60) hx hb ht iX12 hown hK hP 0 rfl rfl 59 (by decide) (ht _ kw_1354) (fun _ h9 => h9) rfl dX12_shift_121 ?_
    refine lv_iload hx hb dX12_shift_124 (lv_at hl 6 rfl) ?_
    refine lv_aload_n hx hb dX12_shift_126 rfl (lv_at hl 0 rfl) ?_
    refine va_get (D := D) (ci := 12) (v := .ref (ad 83)) (C := RX12) (T := TX12) (N := 60) hx hb ht iX12 hown hK hP 0 rfl rfl 58 (by decide) (ht _ kw_1353) (fun _ h9 => h9) rfl dX12_shift_127 ?_
    refine lv_bipush (v := (60 : Int32)) hx hb dX12_shift_130 (by decide) ?_
    refine lv_iload_n hx hb dX12_shift_132 rfl (lv_at hl 1 rfl) ?_
    refine lv_imul hx hb dX12_shift_133 ?_
    refine lv_iload_n hx hb dX12_shift_134 rfl (lv_at hl 2 rfl) ?_
    refine lv_iadd hx hb dX12_shift_135 ?_
    refine lv_iload hx hb dX12_shift_136 (lv_at hl 6 rfl) ?_
    refine lv_iadd hx hb dX12_shift_138 ?_
    obtain ⟨g_26, h⟩ := zk_gd h
    refine va_lald hx hb hK hP 3 1 rfl rfl g_26 dX12_shift_139 ?_
    obtain ⟨v_27, ev_27, h⟩ := zk_lt h
    refine W.eq (g2 := F0 m 140 ls [.long v_27, .int x6, .ref (ad 84)]) (by rw [ev_27]) ?_
    obtain ⟨g_28, h⟩ := zk_gd h
    obtain ⟨f_29, ef_29, h⟩ := zk_lt h
    refine va_last hx hb hK hP hD hS 4 1 rfl rfl g_28 dX12_shift_140 (fun H locs hP hD hS => ?_)
    have hP : va_P D classes (wl_X12_shift ad cs mod_code mod_shoes mod_claims mod_taped mod_here mod_fault mod_suits mod_doneMany mod_undoneMany mod_open mod_laid mod_isBoth mod_wished mod_bestMany mod_bestRow mod_ringDigits mod_traces mod_holds mod_size mod_elements f_29) H := by rw [ef_29]; exact hP
    have hD : va_D A (wl_X12_shift ad cs mod_code mod_shoes mod_claims mod_taped mod_here mod_fault mod_suits mod_doneMany mod_undoneMany mod_open mod_laid mod_isBoth mod_wished mod_bestMany mod_bestRow mod_ringDigits mod_traces mod_holds mod_size mod_elements f_29) := by rw [ef_29]; exact hD
    obtain ⟨v_30, ev_30, h⟩ := zk_lt h
    refine lv_iinc (v := v_30) (lv' := [(6, .int v_30), (0, .ref (ad 41)), (1, .int x1), (2, .int x2), (3, .int x3), (4, .int x4), (5, .int x5)]) hx hb dX12_shift_141 hl (k := 6) rfl (by rw [ev_30]; rfl) (by decide) rfl (fun ls hl => ?_)
    refine lv_goto (tgt := 113) hx hb dX12_shift_144 (by decide) ?_
    exact ih113 x1 x2 x3 x4 x5 v_30 mod_elements f_29 h H locs ls hP hD hS (lv_sub hl [1, 2, 3, 4, 5, 6, 0] rfl)
set_option maxHeartbeats 4000000 in
set_option maxRecDepth 100000 in
theorem L_X12_shift_0 {p : Program} {l : Launch} {e : Env} {s : State} {m : MethodId} {args : Array Value} {below : List Frame} {meth : Method} {c : Code} {A : Nat → Prop} {D : va_G} {cs : Nat → ClassId} {ad : Nat → Nat} {mod_code : Int32} {mod_shoes : Int32} {mod_claims : Int32} {mod_taped : Int32} {mod_here : Int32} {mod_fault : Int32} {mod_suits : Int32} {mod_doneMany : Int32} {mod_undoneMany : Int32} {mod_open : Int32} {mod_laid : Int32} {mod_isBoth : Int32} {mod_wished : Int32} {mod_bestMany : Int32} {mod_bestRow : Int32} {mod_ringDigits : Int32} {mod_traces : Int32} {mod_holds : Nat → Int32} {mod_size : Nat → Int32} {R : Int32 × (Nat → Int64) × (Nat → Int64)} {g113 : Int32 → Int32 → Int32 → Int32 → Int32 → Int32 → (Nat → Int64) → (Nat → Int64) → (Option (Int32 × (Nat → Int64) × (Nat → Int64)))} {g150 : Int32 → Int32 → Int32 → Int32 → (Nat → Int64) → (Nat → Int64) → (Option (Int32 × (Nat → Int64) × (Nat → Int64)))} (C0 : zC p s m args meth c cX12_shift 7 (some .int) RX12 zW) (hK : va_K D classes (zT cs) s) (hA : ∀ q : Nat, s.heap.size ≤ q → A q) (ih113 : ∀ (x1 : Int32) (x2 : Int32) (x3 : Int32) (x4 : Int32) (x5 : Int32) (x6 : Int32) (mod_elements : Nat → Int64) (mod_shifted : Nat → Int64) (h : g113 x1 x2 x3 x4 x5 x6 mod_elements mod_shifted = some R) (H : Heap) (locs : List Loc) (ls : Array Slot) (hP : va_P D classes (wl_X12_shift ad cs mod_code mod_shoes mod_claims mod_taped mod_here mod_fault mod_suits mod_doneMany mod_undoneMany mod_open mod_laid mod_isBoth mod_wished mod_bestMany mod_bestRow mod_ringDigits mod_traces mod_holds mod_size mod_elements mod_shifted) H) (hD : va_D A (wl_X12_shift ad cs mod_code mod_shoes mod_claims mod_taped mod_here mod_fault mod_suits mod_doneMany mod_undoneMany mod_open mod_laid mod_isBoth mod_wished mod_bestMany mod_bestRow mod_ringDigits mod_traces mod_holds mod_size mod_elements mod_shifted)) (hS : va_S A s.heap H locs) (hl : lv_has ls 7 [(0, .ref (ad 41)), (1, .int x1), (2, .int x2), (3, .int x3), (4, .int x4), (5, .int x5), (6, .int x6)]), W p l e rm_X12_shift s m args below meth c H locs 0 0 (MQ below (Q_X12_shift D cs ad mod_code mod_shoes mod_claims mod_taped mod_here mod_fault mod_suits mod_doneMany mod_undoneMany mod_open mod_laid mod_isBoth mod_wished mod_bestMany mod_bestRow mod_ringDigits mod_traces mod_holds mod_size A R) args s 0 0 A) (F0 m 113 ls [])) (ih150 : ∀ (x3 : Int32) (x4 : Int32) (x5 : Int32) (x6 : Int32) (mod_elements : Nat → Int64) (mod_shifted : Nat → Int64) (h : g150 x3 x4 x5 x6 mod_elements mod_shifted = some R) (H : Heap) (locs : List Loc) (ls : Array Slot) (hP : va_P D classes (wl_X12_shift ad cs mod_code mod_shoes mod_claims mod_taped mod_here mod_fault mod_suits mod_doneMany mod_undoneMany mod_open mod_laid mod_isBoth mod_wished mod_bestMany mod_bestRow mod_ringDigits mod_traces mod_holds mod_size mod_elements mod_shifted) H) (hD : va_D A (wl_X12_shift ad cs mod_code mod_shoes mod_claims mod_taped mod_here mod_fault mod_suits mod_doneMany mod_undoneMany mod_open mod_laid mod_isBoth mod_wished mod_bestMany mod_bestRow mod_ringDigits mod_traces mod_holds mod_size mod_elements mod_shifted)) (hS : va_S A s.heap H locs) (hl : lv_has ls 7 [(0, .ref (ad 41)), (3, .int x3), (4, .int x4), (5, .int x5), (6, .int x6)]), W p l e rm_X12_shift s m args below meth c H locs 0 0 (MQ below (Q_X12_shift D cs ad mod_code mod_shoes mod_claims mod_taped mod_here mod_fault mod_suits mod_doneMany mod_undoneMany mod_open mod_laid mod_isBoth mod_wished mod_bestMany mod_bestRow mod_ringDigits mod_traces mod_holds mod_size A R) args s 0 0 A) (F0 m 150 ls [])) (x1 : Int32) (x2 : Int32) (x3 : Int32) (x4 : Int32) (x5 : Int32) (mod_elements : Nat → Int64) (mod_shifted : Nat → Int64) (h : B_X12_shift_0 g113 g150 mod_code mod_shoes mod_claims mod_taped mod_here mod_fault mod_suits mod_doneMany mod_undoneMany mod_open mod_laid mod_isBoth mod_wished mod_bestMany mod_bestRow mod_ringDigits mod_traces mod_holds mod_size x1 x2 x3 x4 x5 mod_elements mod_shifted = some R) (H : Heap) (locs : List Loc) (ls : Array Slot) (hP : va_P D classes (wl_X12_shift ad cs mod_code mod_shoes mod_claims mod_taped mod_here mod_fault mod_suits mod_doneMany mod_undoneMany mod_open mod_laid mod_isBoth mod_wished mod_bestMany mod_bestRow mod_ringDigits mod_traces mod_holds mod_size mod_elements mod_shifted) H) (hD : va_D A (wl_X12_shift ad cs mod_code mod_shoes mod_claims mod_taped mod_here mod_fault mod_suits mod_doneMany mod_undoneMany mod_open mod_laid mod_isBoth mod_wished mod_bestMany mod_bestRow mod_ringDigits mod_traces mod_holds mod_size mod_elements mod_shifted)) (hS : va_S A s.heap H locs) (hl : lv_has ls 7 [(0, .ref (ad 41)), (1, .int x1), (2, .int x2), (3, .int x3), (4, .int x4), (5, .int x5)]) : W p l e rm_X12_shift s m args below meth c H locs 0 0 (MQ below (Q_X12_shift D cs ad mod_code mod_shoes mod_claims mod_taped mod_here mod_fault mod_suits mod_doneMany mod_undoneMany mod_open mod_laid mod_isBoth mod_wished mod_bestMany mod_bestRow mod_ringDigits mod_traces mod_holds mod_size A R) args s 0 0 A) (F0 m 0 ls []) := by
  obtain ⟨hx, hb, hr, hml, hown, ht, hlocks⟩ := id C0
  refine lv_iload_n hx hb dX12_shift_0 rfl (lv_at hl 1 rfl) ?_
  obtain ⟨r_1, u_2, hc_3, h⟩ := zk_o2 h
  refine zz_si (post := (fun r u => (r, u) = (r_1, u_2))) (w1 := fun u => (wl_X12_isShelf ad cs )) (As := [.int x1]) (rest := []) (c_X12_isShelf l D cs ad  H.size x1 (r_1, u_2) hc_3) ⟨hx, hb, hml, hown, ht⟩ (va_cwS 1 ht g_X12_167 rfl rfl rfl hd_X12_isShelf ⟨Nat.le_of_ble_eq_true rfl, Nat.le_of_ble_eq_true rfl⟩) hP hD hS hK hA [] rfl rfl [] rfl (fun _ => rfl) rfl hl.1 (Nat.le_of_ble_eq_true rfl) dX12_shift_1 ⟨Nat.zero_le _, Nat.zero_le _⟩ (fun r u H locs hq hP hS => ?_)
  cases hq
  have hP : va_P D classes (wl_X12_shift ad cs mod_code mod_shoes mod_claims mod_taped mod_here mod_fault mod_suits mod_doneMany mod_undoneMany mod_open mod_laid mod_isBoth mod_wished mod_bestMany mod_bestRow mod_ringDigits mod_traces mod_holds mod_size mod_elements mod_shifted) H := hP
  refine lv_if_eq (tgt := 14) hx hb dX12_shift_4 (by decide) (fun c_4 => ?_) (fun c_4 => ?_)
  · have h := zk_t c_4 h
    refine lv_iconst (v := (-1 : Int32)) hx hb dX12_shift_14 (by decide) ?_
    exact W.iret (v := (-1 : Int32)) hx hb hr (fun t ht2 hW => ⟨⟨(-1 : Int32), (mod_elements, mod_shifted), rfl, Option.some.inj h, by rw [ht2]; exact hP, hD⟩, hS.F ht2⟩) hS.2.2 dX12_shift_15 hlocks
  · have h := zk_f c_4 h
    refine lv_iload_n hx hb dX12_shift_7 rfl (lv_at hl 3 rfl) ?_
    obtain ⟨r_5, u_6, hc_7, h⟩ := zk_o2 h
    refine zz_si (post := (fun r u => (r, u) = (r_5, u_6))) (w1 := fun u => (wl_X12_isShelf ad cs )) (As := [.int x3]) (rest := []) (c_X12_isShelf l D cs ad  H.size x3 (r_5, u_6) hc_7) ⟨hx, hb, hml, hown, ht⟩ (va_cwS 1 ht g_X12_167 rfl rfl rfl hd_X12_isShelf ⟨Nat.le_of_ble_eq_true rfl, Nat.le_of_ble_eq_true rfl⟩) hP hD hS hK hA [] rfl rfl [] rfl (fun _ => rfl) rfl hl.1 (Nat.le_of_ble_eq_true rfl) dX12_shift_8 ⟨Nat.zero_le _, Nat.zero_le _⟩ (fun r u H locs hq hP hS => ?_)
    cases hq
    have hP : va_P D classes (wl_X12_shift ad cs mod_code mod_shoes mod_claims mod_taped mod_here mod_fault mod_suits mod_doneMany mod_undoneMany mod_open mod_laid mod_isBoth mod_wished mod_bestMany mod_bestRow mod_ringDigits mod_traces mod_holds mod_size mod_elements mod_shifted) H := hP
    refine lv_if_ne (tgt := 16) hx hb dX12_shift_11 (by decide) (fun c_8 => ?_) (fun c_8 => ?_)
    · have h := zk_f c_8 h
      refine lv_aload_n hx hb dX12_shift_16 rfl (lv_at hl 0 rfl) ?_
      refine va_get (D := D) (ci := 12) (v := .ref (ad 81)) (C := RX12) (T := TX12) (N := 60) hx hb ht iX12 hown hK hP 0 rfl rfl 56 (by decide) (ht _ kw_1351) (fun _ h9 => h9) rfl dX12_shift_17 ?_
      refine lv_iload_n hx hb dX12_shift_20 rfl (lv_at hl 1 rfl) ?_
      obtain ⟨g_9, h⟩ := zk_gd h
      refine va_iald hx hb hK hP 1 0 rfl rfl g_9 dX12_shift_21 ?_
      refine lv_iconst (v := (-1 : Int32)) hx hb dX12_shift_22 (by decide) ?_
      refine lv_icmp_eq (tgt := 36) hx hb dX12_shift_23 (by decide) (fun c_10 => ?_) (fun c_10 => ?_)
      · have h := zk_t c_10 h
        refine lv_bipush (v := (-11 : Int32)) hx hb dX12_shift_36 (by decide) ?_
        exact W.iret (v := (-11 : Int32)) hx hb hr (fun t ht2 hW => ⟨⟨(-11 : Int32), (mod_elements, mod_shifted), rfl, Option.some.inj h, by rw [ht2]; exact hP, hD⟩, hS.F ht2⟩) hS.2.2 dX12_shift_38 hlocks
      · have h := zk_f c_10 h
        refine lv_aload_n hx hb dX12_shift_26 rfl (lv_at hl 0 rfl) ?_
        refine va_get (D := D) (ci := 12) (v := .ref (ad 81)) (C := RX12) (T := TX12) (N := 60) hx hb ht iX12 hown hK hP 0 rfl rfl 56 (by decide) (ht _ kw_1351) (fun _ h9 => h9) rfl dX12_shift_27 ?_
        refine lv_iload_n hx hb dX12_shift_30 rfl (lv_at hl 3 rfl) ?_
        obtain ⟨g_11, h⟩ := zk_gd h
        refine va_iald hx hb hK hP 1 0 rfl rfl g_11 dX12_shift_31 ?_
        refine lv_iconst (v := (-1 : Int32)) hx hb dX12_shift_32 (by decide) ?_
        refine lv_icmp_ne (tgt := 39) hx hb dX12_shift_33 (by decide) (fun c_12 => ?_) (fun c_12 => ?_)
        · have h := zk_f c_12 h
          refine lv_aload_n hx hb dX12_shift_39 rfl (lv_at hl 0 rfl) ?_
          refine va_get (D := D) (ci := 12) (v := .ref (ad 81)) (C := RX12) (T := TX12) (N := 60) hx hb ht iX12 hown hK hP 0 rfl rfl 56 (by decide) (ht _ kw_1351) (fun _ h9 => h9) rfl dX12_shift_40 ?_
          refine lv_iload_n hx hb dX12_shift_43 rfl (lv_at hl 1 rfl) ?_
          obtain ⟨g_13, h⟩ := zk_gd h
          refine va_iald hx hb hK hP 1 0 rfl rfl g_13 dX12_shift_44 ?_
          refine lv_if_ge (tgt := 63) hx hb dX12_shift_45 (by decide) (fun c_14 => ?_) (fun c_14 => ?_)
          · have h := zk_t c_14 h
            refine lv_bipush (v := (-12 : Int32)) hx hb dX12_shift_63 (by decide) ?_
            exact W.iret (v := (-12 : Int32)) hx hb hr (fun t ht2 hW => ⟨⟨(-12 : Int32), (mod_elements, mod_shifted), rfl, Option.some.inj h, by rw [ht2]; exact hP, hD⟩, hS.F ht2⟩) hS.2.2 dX12_shift_65 hlocks
          · have h := zk_f c_14 h
            refine lv_aload_n hx hb dX12_shift_48 rfl (lv_at hl 0 rfl) ?_
            refine va_get (D := D) (ci := 12) (v := .ref (ad 81)) (C := RX12) (T := TX12) (N := 60) hx hb ht iX12 hown hK hP 0 rfl rfl 56 (by decide) (ht _ kw_1351) (fun _ h9 => h9) rfl dX12_shift_49 ?_
            refine lv_iload_n hx hb dX12_shift_52 rfl (lv_at hl 1 rfl) ?_
            obtain ⟨g_15, h⟩ := zk_gd h
            refine va_iald hx hb hK hP 1 0 rfl rfl g_15 dX12_shift_53 ?_
            refine lv_aload_n hx hb dX12_shift_54 rfl (lv_at hl 0 rfl) ?_
            refine va_get (D := D) (ci := 12) (v := .ref (ad 81)) (C := RX12) (T := TX12) (N := 60) hx hb ht iX12 hown hK hP 0 rfl rfl 56 (by decide) (ht _ kw_1351) (fun _ h9 => h9) rfl dX12_shift_55 ?_
            refine lv_iload_n hx hb dX12_shift_58 rfl (lv_at hl 3 rfl) ?_
            obtain ⟨g_16, h⟩ := zk_gd h
            refine va_iald hx hb hK hP 1 0 rfl rfl g_16 dX12_shift_59 ?_
            refine lv_icmp_eq (tgt := 66) hx hb dX12_shift_60 (by decide) (fun c_17 => ?_) (fun c_17 => ?_)
            · have h := zk_t c_17 h
              refine lv_iload hx hb dX12_shift_66 (lv_at hl 5 rfl) ?_
              refine lv_if_lt (tgt := 107) hx hb dX12_shift_68 (by decide) (fun c_18 => ?_) (fun c_18 => ?_)
              · have h := zk_t c_18 h
                refine lv_bipush (v := (-13 : Int32)) hx hb dX12_shift_107 (by decide) ?_
                exact W.iret (v := (-13 : Int32)) hx hb hr (fun t ht2 hW => ⟨⟨(-13 : Int32), (mod_elements, mod_shifted), rfl, Option.some.inj h, by rw [ht2]; exact hP, hD⟩, hS.F ht2⟩) hS.2.2 dX12_shift_109 hlocks
              · have h := zk_f c_18 h
                refine lv_iload_n hx hb dX12_shift_71 rfl (lv_at hl 2 rfl) ?_
                refine lv_if_lt (tgt := 107) hx hb dX12_shift_72 (by decide) (fun c_19 => ?_) (fun c_19 => ?_)
                · have h := zk_t c_19 h
                  refine lv_bipush (v := (-13 : Int32)) hx hb dX12_shift_107 (by decide) ?_
                  exact W.iret (v := (-13 : Int32)) hx hb hr (fun t ht2 hW => ⟨⟨(-13 : Int32), (mod_elements, mod_shifted), rfl, Option.some.inj h, by rw [ht2]; exact hP, hD⟩, hS.F ht2⟩) hS.2.2 dX12_shift_109 hlocks
                · have h := zk_f c_19 h
                  refine lv_iload hx hb dX12_shift_75 (lv_at hl 4 rfl) ?_
                  refine lv_if_lt (tgt := 107) hx hb dX12_shift_77 (by decide) (fun c_20 => ?_) (fun c_20 => ?_)
                  · have h := zk_t c_20 h
                    refine lv_bipush (v := (-13 : Int32)) hx hb dX12_shift_107 (by decide) ?_
                    exact W.iret (v := (-13 : Int32)) hx hb hr (fun t ht2 hW => ⟨⟨(-13 : Int32), (mod_elements, mod_shifted), rfl, Option.some.inj h, by rw [ht2]; exact hP, hD⟩, hS.F ht2⟩) hS.2.2 dX12_shift_109 hlocks
                  · have h := zk_f c_20 h
                    refine lv_iload_n hx hb dX12_shift_80 rfl (lv_at hl 2 rfl) ?_
                    refine lv_aload_n hx hb dX12_shift_81 rfl (lv_at hl 0 rfl) ?_
                    refine va_get (D := D) (ci := 12) (v := .ref (ad 82)) (C := RX12) (T := TX12) (N := 60) hx hb ht iX12 hown hK hP 0 rfl rfl 57 (by decide) (ht _ kw_1352) (fun _ h9 => h9) rfl dX12_shift_82 ?_
                    refine lv_iload_n hx hb dX12_shift_85 rfl (lv_at hl 1 rfl) ?_
                    obtain ⟨g_21, h⟩ := zk_gd h
                    refine va_iald hx hb hK hP 2 0 rfl rfl g_21 dX12_shift_86 ?_
                    refine lv_iload hx hb dX12_shift_87 (lv_at hl 5 rfl) ?_
                    refine lv_isub hx hb dX12_shift_89 ?_
                    refine lv_icmp_gt (tgt := 107) hx hb dX12_shift_90 (by decide) (fun c_22 => ?_) (fun c_22 => ?_)
                    · have h := zk_t c_22 h
                      refine lv_bipush (v := (-13 : Int32)) hx hb dX12_shift_107 (by decide) ?_
                      exact W.iret (v := (-13 : Int32)) hx hb hr (fun t ht2 hW => ⟨⟨(-13 : Int32), (mod_elements, mod_shifted), rfl, Option.some.inj h, by rw [ht2]; exact hP, hD⟩, hS.F ht2⟩) hS.2.2 dX12_shift_109 hlocks
                    · have h := zk_f c_22 h
                      refine lv_iload hx hb dX12_shift_93 (lv_at hl 4 rfl) ?_
                      refine lv_aload_n hx hb dX12_shift_95 rfl (lv_at hl 0 rfl) ?_
                      refine va_get (D := D) (ci := 12) (v := .ref (ad 82)) (C := RX12) (T := TX12) (N := 60) hx hb ht iX12 hown hK hP 0 rfl rfl 57 (by decide) (ht _ kw_1352) (fun _ h9 => h9) rfl dX12_shift_96 ?_
                      refine lv_iload_n hx hb dX12_shift_99 rfl (lv_at hl 3 rfl) ?_
                      obtain ⟨g_23, h⟩ := zk_gd h
                      refine va_iald hx hb hK hP 2 0 rfl rfl g_23 dX12_shift_100 ?_
                      refine lv_iload hx hb dX12_shift_101 (lv_at hl 5 rfl) ?_
                      refine lv_isub hx hb dX12_shift_103 ?_
                      refine lv_icmp_le (tgt := 110) hx hb dX12_shift_104 (by decide) (fun c_24 => ?_) (fun c_24 => ?_)
                      · have h := zk_t c_24 h
                        refine lv_iconst (v := (0 : Int32)) hx hb dX12_shift_110 (by decide) ?_
                        refine lv_istore (lv' := [(6, .int (0 : Int32)), (0, .ref (ad 41)), (1, .int x1), (2, .int x2), (3, .int x3), (4, .int x4), (5, .int x5)]) hx hb dX12_shift_111 hl (by decide) rfl (fun ls hl => ?_)
                        exact ih113 x1 x2 x3 x4 x5 (0 : Int32) mod_elements mod_shifted h H locs ls hP hD hS (lv_sub hl [1, 2, 3, 4, 5, 6, 0] rfl)
                      · have h := zk_f c_24 h
                        refine lv_bipush (v := (-13 : Int32)) hx hb dX12_shift_107 (by decide) ?_
                        exact W.iret (v := (-13 : Int32)) hx hb hr (fun t ht2 hW => ⟨⟨(-13 : Int32), (mod_elements, mod_shifted), rfl, Option.some.inj h, by rw [ht2]; exact hP, hD⟩, hS.F ht2⟩) hS.2.2 dX12_shift_109 hlocks
            · have h := zk_f c_17 h
              refine lv_bipush (v := (-12 : Int32)) hx hb dX12_shift_63 (by decide) ?_
              exact W.iret (v := (-12 : Int32)) hx hb hr (fun t ht2 hW => ⟨⟨(-12 : Int32), (mod_elements, mod_shifted), rfl, Option.some.inj h, by rw [ht2]; exact hP, hD⟩, hS.F ht2⟩) hS.2.2 dX12_shift_65 hlocks
        · have h := zk_t c_12 h
          refine lv_bipush (v := (-11 : Int32)) hx hb dX12_shift_36 (by decide) ?_
          exact W.iret (v := (-11 : Int32)) hx hb hr (fun t ht2 hW => ⟨⟨(-11 : Int32), (mod_elements, mod_shifted), rfl, Option.some.inj h, by rw [ht2]; exact hP, hD⟩, hS.F ht2⟩) hS.2.2 dX12_shift_38 hlocks
    · have h := zk_t c_8 h
      refine lv_iconst (v := (-1 : Int32)) hx hb dX12_shift_14 (by decide) ?_
      exact W.iret (v := (-1 : Int32)) hx hb hr (fun t ht2 hW => ⟨⟨(-1 : Int32), (mod_elements, mod_shifted), rfl, Option.some.inj h, by rw [ht2]; exact hP, hD⟩, hS.F ht2⟩) hS.2.2 dX12_shift_15 hlocks
theorem LG_X12_shift {p : Program} {l : Launch} {e : Env} {s : State} {m : MethodId} {args : Array Value} {below : List Frame} {meth : Method} {c : Code} {A : Nat → Prop} {D : va_G} {cs : Nat → ClassId} {ad : Nat → Nat} {mod_code : Int32} {mod_shoes : Int32} {mod_claims : Int32} {mod_taped : Int32} {mod_here : Int32} {mod_fault : Int32} {mod_suits : Int32} {mod_doneMany : Int32} {mod_undoneMany : Int32} {mod_open : Int32} {mod_laid : Int32} {mod_isBoth : Int32} {mod_wished : Int32} {mod_bestMany : Int32} {mod_bestRow : Int32} {mod_ringDigits : Int32} {mod_traces : Int32} {mod_holds : Nat → Int32} {mod_size : Nat → Int32} {R : Int32 × (Nat → Int64) × (Nat → Int64)} (C0 : zC p s m args meth c cX12_shift 7 (some .int) RX12 zW) (hK : va_K D classes (zT cs) s) (hA : ∀ q : Nat, s.heap.size ≤ q → A q) : ∀ n : Nat, (∀ (x1 : Int32) (x2 : Int32) (x3 : Int32) (x4 : Int32) (x5 : Int32) (x6 : Int32) (mod_elements : Nat → Int64) (mod_shifted : Nat → Int64) (h : (G_X12_shift   mod_code mod_shoes mod_claims mod_taped mod_here mod_fault mod_suits mod_doneMany mod_undoneMany mod_open mod_laid mod_isBoth mod_wished mod_bestMany mod_bestRow mod_ringDigits mod_traces mod_holds mod_size n).1 x1 x2 x3 x4 x5 x6 mod_elements mod_shifted = some R) (H : Heap) (locs : List Loc) (ls : Array Slot) (hP : va_P D classes (wl_X12_shift ad cs mod_code mod_shoes mod_claims mod_taped mod_here mod_fault mod_suits mod_doneMany mod_undoneMany mod_open mod_laid mod_isBoth mod_wished mod_bestMany mod_bestRow mod_ringDigits mod_traces mod_holds mod_size mod_elements mod_shifted) H) (hD : va_D A (wl_X12_shift ad cs mod_code mod_shoes mod_claims mod_taped mod_here mod_fault mod_suits mod_doneMany mod_undoneMany mod_open mod_laid mod_isBoth mod_wished mod_bestMany mod_bestRow mod_ringDigits mod_traces mod_holds mod_size mod_elements mod_shifted)) (hS : va_S A s.heap H locs) (hl : lv_has ls 7 [(0, .ref (ad 41)), (1, .int x1), (2, .int x2), (3, .int x3), (4, .int x4), (5, .int x5), (6, .int x6)]), W p l e rm_X12_shift s m args below meth c H locs 0 0 (MQ below (Q_X12_shift D cs ad mod_code mod_shoes mod_claims mod_taped mod_here mod_fault mod_suits mod_doneMany mod_undoneMany mod_open mod_laid mod_isBoth mod_wished mod_bestMany mod_bestRow mod_ringDigits mod_traces mod_holds mod_size A R) args s 0 0 A) (F0 m 113 ls [])) ∧ (∀ (x3 : Int32) (x4 : Int32) (x5 : Int32) (x6 : Int32) (mod_elements : Nat → Int64) (mod_shifted : Nat → Int64) (h : (G_X12_shift   mod_code mod_shoes mod_claims mod_taped mod_here mod_fault mod_suits mod_doneMany mod_undoneMany mod_open mod_laid mod_isBoth mod_wished mod_bestMany mod_bestRow mod_ringDigits mod_traces mod_holds mod_size n).2 x3 x4 x5 x6 mod_elements mod_shifted = some R) (H : Heap) (locs : List Loc) (ls : Array Slot) (hP : va_P D classes (wl_X12_shift ad cs mod_code mod_shoes mod_claims mod_taped mod_here mod_fault mod_suits mod_doneMany mod_undoneMany mod_open mod_laid mod_isBoth mod_wished mod_bestMany mod_bestRow mod_ringDigits mod_traces mod_holds mod_size mod_elements mod_shifted) H) (hD : va_D A (wl_X12_shift ad cs mod_code mod_shoes mod_claims mod_taped mod_here mod_fault mod_suits mod_doneMany mod_undoneMany mod_open mod_laid mod_isBoth mod_wished mod_bestMany mod_bestRow mod_ringDigits mod_traces mod_holds mod_size mod_elements mod_shifted)) (hS : va_S A s.heap H locs) (hl : lv_has ls 7 [(0, .ref (ad 41)), (3, .int x3), (4, .int x4), (5, .int x5), (6, .int x6)]), W p l e rm_X12_shift s m args below meth c H locs 0 0 (MQ below (Q_X12_shift D cs ad mod_code mod_shoes mod_claims mod_taped mod_here mod_fault mod_suits mod_doneMany mod_undoneMany mod_open mod_laid mod_isBoth mod_wished mod_bestMany mod_bestRow mod_ringDigits mod_traces mod_holds mod_size A R) args s 0 0 A) (F0 m 150 ls [])) := by
  intro n
  induction n with
  | zero =>
    refine ⟨?_, ?_⟩ <;> (intros; rename_i h _ _ _ _ _ _ _; cases h)
  | succ n ih =>
    exact ⟨L_X12_shift_113 C0 hK hA  ih.1 ih.2, L_X12_shift_150 C0 hK hA  ih.1 ih.2⟩
set_option maxHeartbeats 4000000 in
set_option maxRecDepth 100000 in
theorem c_X12_shift (l : Launch) (D : va_G) (cs : Nat → ClassId) (ad : Nat → Nat) (sz : Nat) (n : Nat) (x1 : Int32) (x2 : Int32) (x3 : Int32) (x4 : Int32) (x5 : Int32) (mod_code : Int32) (mod_shoes : Int32) (mod_claims : Int32) (mod_taped : Int32) (mod_here : Int32) (mod_fault : Int32) (mod_suits : Int32) (mod_doneMany : Int32) (mod_undoneMany : Int32) (mod_open : Int32) (mod_laid : Int32) (mod_isBoth : Int32) (mod_wished : Int32) (mod_bestMany : Int32) (mod_bestRow : Int32) (mod_ringDigits : Int32) (mod_traces : Int32) (mod_holds : Nat → Int32) (mod_size : Nat → Int32) (mod_elements : Nat → Int64) (mod_shifted : Nat → Int64) (R : Int32 × (Nat → Int64) × (Nat → Int64)) (h : f_X12_shift   n x1 x2 x3 x4 x5 mod_code mod_shoes mod_claims mod_taped mod_here mod_fault mod_suits mod_doneMany mod_undoneMany mod_open mod_laid mod_isBoth mod_wished mod_bestMany mod_bestRow mod_ringDigits mod_traces mod_holds mod_size mod_elements mod_shifted = some R) : Met l yX12_shift (z_X12_shift) rm_X12_shift (va_Pc [.ref (ad 41), .int x1, .int x2, .int x3, .int x4, .int x5] (zPre D cs (wl_X12_shift ad cs mod_code mod_shoes mod_claims mod_taped mod_here mod_fault mod_suits mod_doneMany mod_undoneMany mod_open mod_laid mod_isBoth mod_wished mod_bestMany mod_bestRow mod_ringDigits mod_traces mod_holds mod_size mod_elements mod_shifted) sz)) (Q_X12_shift D cs ad mod_code mod_shoes mod_claims mod_taped mod_here mod_fault mod_suits mod_doneMany mod_undoneMany mod_open mod_laid mod_isBoth mod_wished mod_bestMany mod_bestRow mod_ringDigits mod_traces mod_holds mod_size (va_A (wl_X12_shift ad cs mod_code mod_shoes mod_claims mod_taped mod_here mod_fault mod_suits mod_doneMany mod_undoneMany mod_open mod_laid mod_isBoth mod_wished mod_bestMany mod_bestRow mod_ringDigits mod_traces mod_holds mod_size mod_elements mod_shifted) sz) R) 0 0 (va_A (wl_X12_shift ad cs mod_code mod_shoes mod_claims mod_taped mod_here mod_fault mod_suits mod_doneMany mod_undoneMany mod_open mod_laid mod_isBoth mod_wished mod_bestMany mod_bestRow mod_ringDigits mod_traces mod_holds mod_size mod_elements mod_shifted) sz) := by
  refine Met.ofW (cc := cX12_shift) (maxL := 7) (ret := (some .int)) (by decide) rfl ?_
  intro p e s m args below meth c s₁ B hml hv
  obtain ⟨rfl, hsz, hP, hK, hD0⟩ := hv
  subst hsz
  have hD := hD0.self (sz := s.heap.size)
  have C0 : zC p s m _ meth c cX12_shift 7 (some .int) RX12 zW := ⟨B.exec, B.bytes, B.returns, hml, findClass_of_methodNamed B.named, fun w hw => atoms_spec (ws := z_X12_shift) B.pre w (List.mem_cons_of_mem _ hw), B.notSynchronized⟩
  have hA : ∀ q : Nat, s.heap.size ≤ q → va_A (wl_X12_shift ad cs mod_code mod_shoes mod_claims mod_taped mod_here mod_fault mod_suits mod_doneMany mod_undoneMany mod_open mod_laid mod_isBoth mod_wished mod_bestMany mod_bestRow mod_ringDigits mod_traces mod_holds mod_size mod_elements mod_shifted) s.heap.size q := fun q h => Or.inr h
  have hl := lv_entry ([.ref (ad 41), .int x1, .int x2, .int x3, .int x4, .int x5]) (n := 7) (Nat.le_of_ble_eq_true rfl)
  rw [lg_entry_eq]
  generalize (lg_sl ([.ref (ad 41), .int x1, .int x2, .int x3, .int x4, .int x5]) ++ List.replicate (7 - (lg_sl ([.ref (ad 41), .int x1, .int x2, .int x3, .int x4, .int x5])).length) Slot.unset).toArray = ls at hl ⊢
  exact L_X12_shift_0 C0 hK hA  ((LG_X12_shift C0 hK hA  n).1) ((LG_X12_shift C0 hK hA  n).2) x1 x2 x3 x4 x5 mod_elements mod_shifted h s.heap [] ls hP hD va_S.rf hl
theorem zh_cX12_taken_0 : zck [27, 184, 0, 167, 153, 0, 13, 28, 3, 16, 6, 184, 0, 147, 154, 0, 5, 2, 172, 42, 180, 0] (zdu 0 cX12_taken.data.toList) = true := by decide +kernel
theorem dX12_taken_0 : decode cX12_taken 0 = .ok (.iload_n 1, 1) := zo_27 zh_cX12_taken_0 0 rfl
theorem dX12_taken_1 : decode cX12_taken 1 = .ok (.invokestatic 167, 3) := zo_184 zh_cX12_taken_0 1 rfl
theorem dX12_taken_4 : decode cX12_taken 4 = .ok (.ifCond .eq 13, 3) := zo_p153 zh_cX12_taken_0 4 13 rfl rfl
theorem dX12_taken_7 : decode cX12_taken 7 = .ok (.iload_n 2, 1) := zo_28 zh_cX12_taken_0 7 rfl
theorem dX12_taken_8 : decode cX12_taken 8 = .ok (.iconst 0, 1) := zo_3 zh_cX12_taken_0 8 rfl
theorem dX12_taken_9 : decode cX12_taken 9 = .ok (.bipush 6, 2) := zo_p16 zh_cX12_taken_0 9 6 rfl rfl
theorem dX12_taken_11 : decode cX12_taken 11 = .ok (.invokestatic 147, 3) := zo_184 zh_cX12_taken_0 11 rfl
theorem dX12_taken_14 : decode cX12_taken 14 = .ok (.ifCond .ne 5, 3) := zo_p154 zh_cX12_taken_0 14 5 rfl rfl
theorem dX12_taken_17 : decode cX12_taken 17 = .ok (.iconst (-1), 1) := zo_2 zh_cX12_taken_0 17 rfl
theorem dX12_taken_18 : decode cX12_taken 18 = .ok (.ireturn, 1) := zo_172 zh_cX12_taken_0 18 rfl
theorem dX12_taken_19 : decode cX12_taken 19 = .ok (.aload_n 0, 1) := zo_42 zh_cX12_taken_0 19 rfl
theorem zh_cX12_taken_1 : zck [180, 0, 130, 27, 46, 2, 160, 0, 6, 16, 245, 172, 42, 180, 0, 130, 27, 46, 155, 0, 33, 42] (zdu 20 cX12_taken.data.toList) = true := by decide +kernel
theorem dX12_taken_20 : decode cX12_taken 20 = .ok (.getfield 130, 3) := zo_180 zh_cX12_taken_1 0 rfl
theorem dX12_taken_23 : decode cX12_taken 23 = .ok (.iload_n 1, 1) := zo_27 zh_cX12_taken_1 3 rfl
theorem dX12_taken_24 : decode cX12_taken 24 = .ok (.iaload, 1) := zo_46 zh_cX12_taken_1 4 rfl
theorem dX12_taken_25 : decode cX12_taken 25 = .ok (.iconst (-1), 1) := zo_2 zh_cX12_taken_1 5 rfl
theorem dX12_taken_26 : decode cX12_taken 26 = .ok (.if_icmp .ne 6, 3) := zo_p160 zh_cX12_taken_1 6 6 rfl rfl
theorem dX12_taken_29 : decode cX12_taken 29 = .ok (.bipush (-11), 2) := zo_n16 zh_cX12_taken_1 9 10 rfl rfl
theorem dX12_taken_31 : decode cX12_taken 31 = .ok (.ireturn, 1) := zo_172 zh_cX12_taken_1 11 rfl
theorem dX12_taken_32 : decode cX12_taken 32 = .ok (.aload_n 0, 1) := zo_42 zh_cX12_taken_1 12 rfl
theorem dX12_taken_33 : decode cX12_taken 33 = .ok (.getfield 130, 3) := zo_180 zh_cX12_taken_1 13 rfl
theorem dX12_taken_36 : decode cX12_taken 36 = .ok (.iload_n 1, 1) := zo_27 zh_cX12_taken_1 16 rfl
theorem dX12_taken_37 : decode cX12_taken 37 = .ok (.iaload, 1) := zo_46 zh_cX12_taken_1 17 rfl
theorem dX12_taken_38 : decode cX12_taken 38 = .ok (.ifCond .lt 33, 3) := zo_p155 zh_cX12_taken_1 18 33 rfl rfl
theorem zh_cX12_taken_2 : zck [33, 42, 42, 180, 0, 130, 27, 46, 182, 0, 237, 28, 184, 1, 157, 153, 0, 16, 42, 42, 180, 0] (zdu 40 cX12_taken.data.toList) = true := by decide +kernel
theorem dX12_taken_41 : decode cX12_taken 41 = .ok (.aload_n 0, 1) := zo_42 zh_cX12_taken_2 1 rfl
theorem dX12_taken_42 : decode cX12_taken 42 = .ok (.aload_n 0, 1) := zo_42 zh_cX12_taken_2 2 rfl
theorem dX12_taken_43 : decode cX12_taken 43 = .ok (.getfield 130, 3) := zo_180 zh_cX12_taken_2 3 rfl
theorem dX12_taken_46 : decode cX12_taken 46 = .ok (.iload_n 1, 1) := zo_27 zh_cX12_taken_2 6 rfl
theorem dX12_taken_47 : decode cX12_taken 47 = .ok (.iaload, 1) := zo_46 zh_cX12_taken_2 7 rfl
theorem dX12_taken_48 : decode cX12_taken 48 = .ok (.invokevirtual 237, 3) := zo_182 zh_cX12_taken_2 8 rfl
theorem dX12_taken_51 : decode cX12_taken 51 = .ok (.iload_n 2, 1) := zo_28 zh_cX12_taken_2 11 rfl
theorem dX12_taken_52 : decode cX12_taken 52 = .ok (.invokestatic 413, 3) := zo_184 zh_cX12_taken_2 12 rfl
theorem dX12_taken_55 : decode cX12_taken 55 = .ok (.ifCond .eq 16, 3) := zo_p153 zh_cX12_taken_2 15 16 rfl rfl
theorem dX12_taken_58 : decode cX12_taken 58 = .ok (.aload_n 0, 1) := zo_42 zh_cX12_taken_2 18 rfl
theorem dX12_taken_59 : decode cX12_taken 59 = .ok (.aload_n 0, 1) := zo_42 zh_cX12_taken_2 19 rfl
theorem zh_cX12_taken_3 : zck [180, 0, 130, 27, 46, 182, 0, 237, 167, 0, 5, 16, 244, 172] (zdu 60 cX12_taken.data.toList) = true := by decide +kernel
theorem dX12_taken_60 : decode cX12_taken 60 = .ok (.getfield 130, 3) := zo_180 zh_cX12_taken_3 0 rfl
theorem dX12_taken_63 : decode cX12_taken 63 = .ok (.iload_n 1, 1) := zo_27 zh_cX12_taken_3 3 rfl
theorem dX12_taken_64 : decode cX12_taken 64 = .ok (.iaload, 1) := zo_46 zh_cX12_taken_3 4 rfl
theorem dX12_taken_65 : decode cX12_taken 65 = .ok (.invokevirtual 237, 3) := zo_182 zh_cX12_taken_3 5 rfl
theorem dX12_taken_68 : decode cX12_taken 68 = .ok (.goto 5, 3) := zo_p167 zh_cX12_taken_3 8 5 rfl rfl
theorem dX12_taken_71 : decode cX12_taken 71 = .ok (.bipush (-12), 2) := zo_n16 zh_cX12_taken_3 11 11 rfl rfl
theorem dX12_taken_73 : decode cX12_taken 73 = .ok (.ireturn, 1) := zo_172 zh_cX12_taken_3 13 rfl
abbrev z_X12_taken : List Cond := .code yX12_taken cX12_taken 3 (some .int) :: zW
abbrev wl_X12_taken (ad : Nat → Nat) (cs : Nat → ClassId)  (mod_code : Int32) (mod_shoes : Int32) (mod_claims : Int32) (mod_taped : Int32) (mod_here : Int32) (mod_fault : Int32) (mod_suits : Int32) (mod_doneMany : Int32) (mod_undoneMany : Int32) (mod_open : Int32) (mod_laid : Int32) (mod_isBoth : Int32) (mod_wished : Int32) (mod_bestMany : Int32) (mod_bestRow : Int32) (mod_ringDigits : Int32) (mod_traces : Int32) (mod_endKind : Nat → Int32) (mod_undoneFrom : Nat → Int32) (mod_holds : Nat → Int32) : va_W := [((ad 41), .inr (12, [.int mod_code, .int mod_shoes, .ref (ad 42), .ref (ad 43), .ref (ad 44), .ref (ad 45), .int mod_claims, .ref (ad 46), .ref (ad 47), .ref (ad 48), .ref (ad 49), .ref (ad 50), .int mod_taped, .int mod_here, .int mod_fault, .int mod_suits, .ref (ad 51), .ref (ad 52), .ref (ad 53), .ref (ad 54), .ref (ad 55), .ref (ad 56), .ref (ad 57), .ref (ad 58), .ref (ad 59), .ref (ad 60), .ref (ad 61), .int mod_doneMany, .int mod_undoneMany, .ref (ad 62), .ref (ad 63), .ref (ad 64), .ref (ad 65), .int mod_open, .int mod_laid, .ref (ad 66), .ref (ad 67), .ref (ad 68), .ref (ad 69), .ref (ad 70), .ref (ad 71), .ref (ad 72), .ref (ad 73), .ref (ad 74), .ref (ad 75), .int mod_isBoth, .int mod_wished, .ref (ad 76), .ref (ad 77), .int mod_bestMany, .int mod_bestRow, .ref (ad 78), .ref (ad 79), .int mod_ringDigits, .int mod_traces, .ref (ad 80), .ref (ad 81), .ref (ad 82), .ref (ad 83), .ref (ad 84)])), ((ad 53), .inl (cs 0, 45, .inl mod_endKind)), ((ad 57), .inl (cs 0, 45, .inl mod_undoneFrom)), ((ad 81), .inl (cs 0, 6, .inl mod_holds))]
def Q_X12_taken (D : va_G) (cs : Nat → ClassId) (ad : Nat → Nat)  (mod_code : Int32) (mod_shoes : Int32) (mod_claims : Int32) (mod_taped : Int32) (mod_here : Int32) (mod_fault : Int32) (mod_suits : Int32) (mod_doneMany : Int32) (mod_undoneMany : Int32) (mod_open : Int32) (mod_laid : Int32) (mod_isBoth : Int32) (mod_wished : Int32) (mod_bestMany : Int32) (mod_bestRow : Int32) (mod_ringDigits : Int32) (mod_traces : Int32) (mod_endKind : Nat → Int32) (mod_undoneFrom : Nat → Int32) (mod_holds : Nat → Int32) (A : Nat → Prop) (R : Int32 × Unit) : Array Value → State → Outcome → State → Prop :=
  va_Qi (fun (r : Int32) (u : Unit) => (r, u) = R) (fun (u : Unit) (t : State) => va_P D classes (wl_X12_taken ad cs mod_code mod_shoes mod_claims mod_taped mod_here mod_fault mod_suits mod_doneMany mod_undoneMany mod_open mod_laid mod_isBoth mod_wished mod_bestMany mod_bestRow mod_ringDigits mod_traces mod_endKind mod_undoneFrom mod_holds) t.heap ∧ va_D A (wl_X12_taken ad cs mod_code mod_shoes mod_claims mod_taped mod_here mod_fault mod_suits mod_doneMany mod_undoneMany mod_open mod_laid mod_isBoth mod_wished mod_bestMany mod_bestRow mod_ringDigits mod_traces mod_endKind mod_undoneFrom mod_holds)) A
abbrev rm_X12_taken : Room := { frames := 2, cells := 0, slots := 0, locals := 42 }
def B_X12_taken_0    (mod_code : Int32) (mod_shoes : Int32) (mod_claims : Int32) (mod_taped : Int32) (mod_here : Int32) (mod_fault : Int32) (mod_suits : Int32) (mod_doneMany : Int32) (mod_undoneMany : Int32) (mod_open : Int32) (mod_laid : Int32) (mod_isBoth : Int32) (mod_wished : Int32) (mod_bestMany : Int32) (mod_bestRow : Int32) (mod_ringDigits : Int32) (mod_traces : Int32) (mod_endKind : Nat → Int32) (mod_undoneFrom : Nat → Int32) (mod_holds : Nat → Int32) (x1 : Int32) (x2 : Int32) : Option (Int32 × Unit) :=
  (zk_b2 (f_X12_isShelf x1) (fun r_1 u_2 => (if r_1 = 0 then (some ((-1 : Int32), ())) else (zk_b2 (f_X12_in x2 (0 : Int32) (6 : Int32)) (fun r_5 u_6 => (if r_5 = 0 then (some ((-1 : Int32), ())) else (if (x1 < 0 ∨ 6 ≤ x1.toNatClampNeg) then none else (if (mod_holds x1.toNatClampNeg) = (-1 : Int32) then (some ((-11 : Int32), ())) else (if (x1 < 0 ∨ 6 ≤ x1.toNatClampNeg) then none else (if (mod_holds x1.toNatClampNeg) < 0 then (some ((-12 : Int32), ())) else (if (x1 < 0 ∨ 6 ≤ x1.toNatClampNeg) then none else (zk_b2 (f_X12_bodyKind (mod_holds x1.toNatClampNeg) mod_code mod_shoes mod_claims mod_taped mod_here mod_fault mod_suits mod_doneMany mod_undoneMany mod_open mod_laid mod_isBoth mod_wished mod_bestMany mod_bestRow mod_ringDigits mod_traces mod_endKind mod_undoneFrom) (fun r_14 u_15 => (zk_b2 (f_X12_isUnder r_14 x2) (fun r_17 u_18 => (if r_17 = 0 then (some ((-12 : Int32), ())) else (if (x1 < 0 ∨ 6 ≤ x1.toNatClampNeg) then none else (zk_b2 (f_X12_bodyKind (mod_holds x1.toNatClampNeg) mod_code mod_shoes mod_claims mod_taped mod_here mod_fault mod_suits mod_doneMany mod_undoneMany mod_open mod_laid mod_isBoth mod_wished mod_bestMany mod_bestRow mod_ringDigits mod_traces mod_endKind mod_undoneFrom) (fun r_22 u_23 => (some (r_22, ())))))))))))))))))))))
def f_X12_taken   (x1 : Int32) (x2 : Int32) (mod_code : Int32) (mod_shoes : Int32) (mod_claims : Int32) (mod_taped : Int32) (mod_here : Int32) (mod_fault : Int32) (mod_suits : Int32) (mod_doneMany : Int32) (mod_undoneMany : Int32) (mod_open : Int32) (mod_laid : Int32) (mod_isBoth : Int32) (mod_wished : Int32) (mod_bestMany : Int32) (mod_bestRow : Int32) (mod_ringDigits : Int32) (mod_traces : Int32) (mod_endKind : Nat → Int32) (mod_undoneFrom : Nat → Int32) (mod_holds : Nat → Int32) : Option (Int32 × Unit) := B_X12_taken_0   mod_code mod_shoes mod_claims mod_taped mod_here mod_fault mod_suits mod_doneMany mod_undoneMany mod_open mod_laid mod_isBoth mod_wished mod_bestMany mod_bestRow mod_ringDigits mod_traces mod_endKind mod_undoneFrom mod_holds x1 x2 
set_option maxHeartbeats 4000000 in
set_option maxRecDepth 100000 in
theorem L_X12_taken_0 {p : Program} {l : Launch} {e : Env} {s : State} {m : MethodId} {args : Array Value} {below : List Frame} {meth : Method} {c : Code} {A : Nat → Prop} {D : va_G} {cs : Nat → ClassId} {ad : Nat → Nat} {mod_code : Int32} {mod_shoes : Int32} {mod_claims : Int32} {mod_taped : Int32} {mod_here : Int32} {mod_fault : Int32} {mod_suits : Int32} {mod_doneMany : Int32} {mod_undoneMany : Int32} {mod_open : Int32} {mod_laid : Int32} {mod_isBoth : Int32} {mod_wished : Int32} {mod_bestMany : Int32} {mod_bestRow : Int32} {mod_ringDigits : Int32} {mod_traces : Int32} {mod_endKind : Nat → Int32} {mod_undoneFrom : Nat → Int32} {mod_holds : Nat → Int32} {R : Int32 × Unit} (C0 : zC p s m args meth c cX12_taken 3 (some .int) RX12 zW) (hK : va_K D classes (zT cs) s) (hA : ∀ q : Nat, s.heap.size ≤ q → A q) (x1 : Int32) (x2 : Int32) (h : B_X12_taken_0 mod_code mod_shoes mod_claims mod_taped mod_here mod_fault mod_suits mod_doneMany mod_undoneMany mod_open mod_laid mod_isBoth mod_wished mod_bestMany mod_bestRow mod_ringDigits mod_traces mod_endKind mod_undoneFrom mod_holds x1 x2 = some R) (H : Heap) (locs : List Loc) (ls : Array Slot) (hP : va_P D classes (wl_X12_taken ad cs mod_code mod_shoes mod_claims mod_taped mod_here mod_fault mod_suits mod_doneMany mod_undoneMany mod_open mod_laid mod_isBoth mod_wished mod_bestMany mod_bestRow mod_ringDigits mod_traces mod_endKind mod_undoneFrom mod_holds) H) (hD : va_D A (wl_X12_taken ad cs mod_code mod_shoes mod_claims mod_taped mod_here mod_fault mod_suits mod_doneMany mod_undoneMany mod_open mod_laid mod_isBoth mod_wished mod_bestMany mod_bestRow mod_ringDigits mod_traces mod_endKind mod_undoneFrom mod_holds)) (hS : va_S A s.heap H locs) (hl : lv_has ls 3 [(0, .ref (ad 41)), (1, .int x1), (2, .int x2)]) : W p l e rm_X12_taken s m args below meth c H locs 0 0 (MQ below (Q_X12_taken D cs ad mod_code mod_shoes mod_claims mod_taped mod_here mod_fault mod_suits mod_doneMany mod_undoneMany mod_open mod_laid mod_isBoth mod_wished mod_bestMany mod_bestRow mod_ringDigits mod_traces mod_endKind mod_undoneFrom mod_holds A R) args s 0 0 A) (F0 m 0 ls []) := by
  obtain ⟨hx, hb, hr, hml, hown, ht, hlocks⟩ := id C0
  refine lv_iload_n hx hb dX12_taken_0 rfl (lv_at hl 1 rfl) ?_
  obtain ⟨r_1, u_2, hc_3, h⟩ := zk_o2 h
  refine zz_si (post := (fun r u => (r, u) = (r_1, u_2))) (w1 := fun u => (wl_X12_isShelf ad cs )) (As := [.int x1]) (rest := []) (c_X12_isShelf l D cs ad  H.size x1 (r_1, u_2) hc_3) ⟨hx, hb, hml, hown, ht⟩ (va_cwS 1 ht g_X12_167 rfl rfl rfl hd_X12_isShelf ⟨Nat.le_of_ble_eq_true rfl, Nat.le_of_ble_eq_true rfl⟩) hP hD hS hK hA [] rfl rfl [] rfl (fun _ => rfl) rfl hl.1 (Nat.le_of_ble_eq_true rfl) dX12_taken_1 ⟨Nat.zero_le _, Nat.zero_le _⟩ (fun r u H locs hq hP hS => ?_)
  cases hq
  have hP : va_P D classes (wl_X12_taken ad cs mod_code mod_shoes mod_claims mod_taped mod_here mod_fault mod_suits mod_doneMany mod_undoneMany mod_open mod_laid mod_isBoth mod_wished mod_bestMany mod_bestRow mod_ringDigits mod_traces mod_endKind mod_undoneFrom mod_holds) H := hP
  refine lv_if_eq (tgt := 17) hx hb dX12_taken_4 (by decide) (fun c_4 => ?_) (fun c_4 => ?_)
  · have h := zk_t c_4 h
    refine lv_iconst (v := (-1 : Int32)) hx hb dX12_taken_17 (by decide) ?_
    exact W.iret (v := (-1 : Int32)) hx hb hr (fun t ht2 hW => ⟨⟨(-1 : Int32), (), rfl, Option.some.inj h, by rw [ht2]; exact hP, hD⟩, hS.F ht2⟩) hS.2.2 dX12_taken_18 hlocks
  · have h := zk_f c_4 h
    refine lv_iload_n hx hb dX12_taken_7 rfl (lv_at hl 2 rfl) ?_
    refine lv_iconst (v := (0 : Int32)) hx hb dX12_taken_8 (by decide) ?_
    refine lv_bipush (v := (6 : Int32)) hx hb dX12_taken_9 (by decide) ?_
    obtain ⟨r_5, u_6, hc_7, h⟩ := zk_o2 h
    refine zz_si (post := (fun r u => (r, u) = (r_5, u_6))) (w1 := fun u => (wl_X12_in ad cs )) (As := [.int x2, .int (0 : Int32), .int (6 : Int32)]) (rest := []) (c_X12_in l D cs ad  H.size x2 (0 : Int32) (6 : Int32) (r_5, u_6) hc_7) ⟨hx, hb, hml, hown, ht⟩ (va_cwS 3 ht g_X12_147 rfl rfl rfl hd_X12_in ⟨Nat.le_of_ble_eq_true rfl, Nat.le_of_ble_eq_true rfl⟩) hP hD hS hK hA [] rfl rfl [] rfl (fun _ => rfl) rfl hl.1 (Nat.le_of_ble_eq_true rfl) dX12_taken_11 ⟨Nat.zero_le _, Nat.zero_le _⟩ (fun r u H locs hq hP hS => ?_)
    cases hq
    have hP : va_P D classes (wl_X12_taken ad cs mod_code mod_shoes mod_claims mod_taped mod_here mod_fault mod_suits mod_doneMany mod_undoneMany mod_open mod_laid mod_isBoth mod_wished mod_bestMany mod_bestRow mod_ringDigits mod_traces mod_endKind mod_undoneFrom mod_holds) H := hP
    refine lv_if_ne (tgt := 19) hx hb dX12_taken_14 (by decide) (fun c_8 => ?_) (fun c_8 => ?_)
    · have h := zk_f c_8 h
      refine lv_aload_n hx hb dX12_taken_19 rfl (lv_at hl 0 rfl) ?_
      refine va_get (D := D) (ci := 12) (v := .ref (ad 81)) (C := RX12) (T := TX12) (N := 60) hx hb ht iX12 hown hK hP 0 rfl rfl 56 (by decide) (ht _ kw_1351) (fun _ h9 => h9) rfl dX12_taken_20 ?_
      refine lv_iload_n hx hb dX12_taken_23 rfl (lv_at hl 1 rfl) ?_
      obtain ⟨g_9, h⟩ := zk_gd h
      refine va_iald hx hb hK hP 3 0 rfl rfl g_9 dX12_taken_24 ?_
      refine lv_iconst (v := (-1 : Int32)) hx hb dX12_taken_25 (by decide) ?_
      refine lv_icmp_ne (tgt := 32) hx hb dX12_taken_26 (by decide) (fun c_10 => ?_) (fun c_10 => ?_)
      · have h := zk_f c_10 h
        refine lv_aload_n hx hb dX12_taken_32 rfl (lv_at hl 0 rfl) ?_
        refine va_get (D := D) (ci := 12) (v := .ref (ad 81)) (C := RX12) (T := TX12) (N := 60) hx hb ht iX12 hown hK hP 0 rfl rfl 56 (by decide) (ht _ kw_1351) (fun _ h9 => h9) rfl dX12_taken_33 ?_
        refine lv_iload_n hx hb dX12_taken_36 rfl (lv_at hl 1 rfl) ?_
        obtain ⟨g_11, h⟩ := zk_gd h
        refine va_iald hx hb hK hP 3 0 rfl rfl g_11 dX12_taken_37 ?_
        refine lv_if_lt (tgt := 71) hx hb dX12_taken_38 (by decide) (fun c_12 => ?_) (fun c_12 => ?_)
        · have h := zk_t c_12 h
          refine lv_bipush (v := (-12 : Int32)) hx hb dX12_taken_71 (by decide) ?_
          exact W.iret (v := (-12 : Int32)) hx hb hr (fun t ht2 hW => ⟨⟨(-12 : Int32), (), rfl, Option.some.inj h, by rw [ht2]; exact hP, hD⟩, hS.F ht2⟩) hS.2.2 dX12_taken_73 hlocks
        · have h := zk_f c_12 h
          refine lv_aload_n hx hb dX12_taken_41 rfl (lv_at hl 0 rfl) ?_
          refine lv_aload_n hx hb dX12_taken_42 rfl (lv_at hl 0 rfl) ?_
          refine va_get (D := D) (ci := 12) (v := .ref (ad 81)) (C := RX12) (T := TX12) (N := 60) hx hb ht iX12 hown hK hP 0 rfl rfl 56 (by decide) (ht _ kw_1351) (fun _ h9 => h9) rfl dX12_taken_43 ?_
          refine lv_iload_n hx hb dX12_taken_46 rfl (lv_at hl 1 rfl) ?_
          obtain ⟨g_13, h⟩ := zk_gd h
          refine va_iald hx hb hK hP 3 0 rfl rfl g_13 dX12_taken_47 ?_
          obtain ⟨r_14, u_15, hc_16, h⟩ := zk_o2 h
          refine zz_vi (post := (fun r u => (r, u) = (r_14, u_15))) (w1 := fun u => (wl_X12_bodyKind ad cs mod_code mod_shoes mod_claims mod_taped mod_here mod_fault mod_suits mod_doneMany mod_undoneMany mod_open mod_laid mod_isBoth mod_wished mod_bestMany mod_bestRow mod_ringDigits mod_traces mod_endKind mod_undoneFrom)) (As := [.int (mod_holds x1.toNatClampNeg)]) (rest := []) (c_X12_bodyKind l D cs ad  H.size (mod_holds x1.toNatClampNeg) mod_code mod_shoes mod_claims mod_taped mod_here mod_fault mod_suits mod_doneMany mod_undoneMany mod_open mod_laid mod_isBoth mod_wished mod_bestMany mod_bestRow mod_ringDigits mod_traces mod_endKind mod_undoneFrom (r_14, u_15) hc_16) ⟨hx, hb, hml, hown, ht⟩ (cwV 1 ht g_X12_237 rfl rfl rfl ⟨rfl, hd_X12_bodyKind⟩ ⟨Nat.le_of_ble_eq_true rfl, Nat.le_of_ble_eq_true rfl⟩) (va_recv hK hP (ci := 12) (q0 := 0) rfl rfl) hP hD hS hK hA [0, 1, 2] rfl rfl [(ad 41), (ad 53), (ad 57)] rfl (fun _ => rfl) rfl hl.1 (Nat.le_of_ble_eq_true rfl) dX12_taken_48 ⟨Nat.zero_le _, Nat.zero_le _⟩ (fun r u H locs hq hP hS => ?_)
          cases hq
          have hP : va_P D classes (wl_X12_taken ad cs mod_code mod_shoes mod_claims mod_taped mod_here mod_fault mod_suits mod_doneMany mod_undoneMany mod_open mod_laid mod_isBoth mod_wished mod_bestMany mod_bestRow mod_ringDigits mod_traces mod_endKind mod_undoneFrom mod_holds) H := hP
          have hD : va_D A (wl_X12_taken ad cs mod_code mod_shoes mod_claims mod_taped mod_here mod_fault mod_suits mod_doneMany mod_undoneMany mod_open mod_laid mod_isBoth mod_wished mod_bestMany mod_bestRow mod_ringDigits mod_traces mod_endKind mod_undoneFrom mod_holds) := zDk hD [(ad 41), (ad 53), (ad 57), (ad 81)] rfl rfl
          refine lv_iload_n hx hb dX12_taken_51 rfl (lv_at hl 2 rfl) ?_
          obtain ⟨r_17, u_18, hc_19, h⟩ := zk_o2 h
          refine zz_si (post := (fun r u => (r, u) = (r_17, u_18))) (w1 := fun u => (wl_X12_isUnder ad cs )) (As := [.int r_14, .int x2]) (rest := []) (c_X12_isUnder l D cs ad  H.size r_14 x2 (r_17, u_18) hc_19) ⟨hx, hb, hml, hown, ht⟩ (va_cwS 2 ht g_X12_413 rfl rfl rfl hd_X12_isUnder ⟨Nat.le_of_ble_eq_true rfl, Nat.le_of_ble_eq_true rfl⟩) hP hD hS hK hA [] rfl rfl [] rfl (fun _ => rfl) rfl hl.1 (Nat.le_of_ble_eq_true rfl) dX12_taken_52 ⟨Nat.zero_le _, Nat.zero_le _⟩ (fun r u H locs hq hP hS => ?_)
          cases hq
          have hP : va_P D classes (wl_X12_taken ad cs mod_code mod_shoes mod_claims mod_taped mod_here mod_fault mod_suits mod_doneMany mod_undoneMany mod_open mod_laid mod_isBoth mod_wished mod_bestMany mod_bestRow mod_ringDigits mod_traces mod_endKind mod_undoneFrom mod_holds) H := hP
          refine lv_if_eq (tgt := 71) hx hb dX12_taken_55 (by decide) (fun c_20 => ?_) (fun c_20 => ?_)
          · have h := zk_t c_20 h
            refine lv_bipush (v := (-12 : Int32)) hx hb dX12_taken_71 (by decide) ?_
            exact W.iret (v := (-12 : Int32)) hx hb hr (fun t ht2 hW => ⟨⟨(-12 : Int32), (), rfl, Option.some.inj h, by rw [ht2]; exact hP, hD⟩, hS.F ht2⟩) hS.2.2 dX12_taken_73 hlocks
          · have h := zk_f c_20 h
            refine lv_aload_n hx hb dX12_taken_58 rfl (lv_at hl 0 rfl) ?_
            refine lv_aload_n hx hb dX12_taken_59 rfl (lv_at hl 0 rfl) ?_
            refine va_get (D := D) (ci := 12) (v := .ref (ad 81)) (C := RX12) (T := TX12) (N := 60) hx hb ht iX12 hown hK hP 0 rfl rfl 56 (by decide) (ht _ kw_1351) (fun _ h9 => h9) rfl dX12_taken_60 ?_
            refine lv_iload_n hx hb dX12_taken_63 rfl (lv_at hl 1 rfl) ?_
            obtain ⟨g_21, h⟩ := zk_gd h
            refine va_iald hx hb hK hP 3 0 rfl rfl g_21 dX12_taken_64 ?_
            obtain ⟨r_22, u_23, hc_24, h⟩ := zk_o2 h
            refine zz_vi (post := (fun r u => (r, u) = (r_22, u_23))) (w1 := fun u => (wl_X12_bodyKind ad cs mod_code mod_shoes mod_claims mod_taped mod_here mod_fault mod_suits mod_doneMany mod_undoneMany mod_open mod_laid mod_isBoth mod_wished mod_bestMany mod_bestRow mod_ringDigits mod_traces mod_endKind mod_undoneFrom)) (As := [.int (mod_holds x1.toNatClampNeg)]) (rest := []) (c_X12_bodyKind l D cs ad  H.size (mod_holds x1.toNatClampNeg) mod_code mod_shoes mod_claims mod_taped mod_here mod_fault mod_suits mod_doneMany mod_undoneMany mod_open mod_laid mod_isBoth mod_wished mod_bestMany mod_bestRow mod_ringDigits mod_traces mod_endKind mod_undoneFrom (r_22, u_23) hc_24) ⟨hx, hb, hml, hown, ht⟩ (cwV 1 ht g_X12_237 rfl rfl rfl ⟨rfl, hd_X12_bodyKind⟩ ⟨Nat.le_of_ble_eq_true rfl, Nat.le_of_ble_eq_true rfl⟩) (va_recv hK hP (ci := 12) (q0 := 0) rfl rfl) hP hD hS hK hA [0, 1, 2] rfl rfl [(ad 41), (ad 53), (ad 57)] rfl (fun _ => rfl) rfl hl.1 (Nat.le_of_ble_eq_true rfl) dX12_taken_65 ⟨Nat.zero_le _, Nat.zero_le _⟩ (fun r u H locs hq hP hS => ?_)
            cases hq
            have hP : va_P D classes (wl_X12_taken ad cs mod_code mod_shoes mod_claims mod_taped mod_here mod_fault mod_suits mod_doneMany mod_undoneMany mod_open mod_laid mod_isBoth mod_wished mod_bestMany mod_bestRow mod_ringDigits mod_traces mod_endKind mod_undoneFrom mod_holds) H := hP
            have hD : va_D A (wl_X12_taken ad cs mod_code mod_shoes mod_claims mod_taped mod_here mod_fault mod_suits mod_doneMany mod_undoneMany mod_open mod_laid mod_isBoth mod_wished mod_bestMany mod_bestRow mod_ringDigits mod_traces mod_endKind mod_undoneFrom mod_holds) := zDk hD [(ad 41), (ad 53), (ad 57), (ad 81)] rfl rfl
            refine lv_goto (tgt := 73) hx hb dX12_taken_68 (by decide) ?_
            exact W.iret (v := r_22) hx hb hr (fun t ht2 hW => ⟨⟨r_22, (), rfl, Option.some.inj h, by rw [ht2]; exact hP, hD⟩, hS.F ht2⟩) hS.2.2 dX12_taken_73 hlocks
      · have h := zk_t c_10 h
        refine lv_bipush (v := (-11 : Int32)) hx hb dX12_taken_29 (by decide) ?_
        exact W.iret (v := (-11 : Int32)) hx hb hr (fun t ht2 hW => ⟨⟨(-11 : Int32), (), rfl, Option.some.inj h, by rw [ht2]; exact hP, hD⟩, hS.F ht2⟩) hS.2.2 dX12_taken_31 hlocks
    · have h := zk_t c_8 h
      refine lv_iconst (v := (-1 : Int32)) hx hb dX12_taken_17 (by decide) ?_
      exact W.iret (v := (-1 : Int32)) hx hb hr (fun t ht2 hW => ⟨⟨(-1 : Int32), (), rfl, Option.some.inj h, by rw [ht2]; exact hP, hD⟩, hS.F ht2⟩) hS.2.2 dX12_taken_18 hlocks
set_option maxHeartbeats 4000000 in
set_option maxRecDepth 100000 in
theorem c_X12_taken (l : Launch) (D : va_G) (cs : Nat → ClassId) (ad : Nat → Nat) (sz : Nat) (x1 : Int32) (x2 : Int32) (mod_code : Int32) (mod_shoes : Int32) (mod_claims : Int32) (mod_taped : Int32) (mod_here : Int32) (mod_fault : Int32) (mod_suits : Int32) (mod_doneMany : Int32) (mod_undoneMany : Int32) (mod_open : Int32) (mod_laid : Int32) (mod_isBoth : Int32) (mod_wished : Int32) (mod_bestMany : Int32) (mod_bestRow : Int32) (mod_ringDigits : Int32) (mod_traces : Int32) (mod_endKind : Nat → Int32) (mod_undoneFrom : Nat → Int32) (mod_holds : Nat → Int32) (R : Int32 × Unit) (h : f_X12_taken   x1 x2 mod_code mod_shoes mod_claims mod_taped mod_here mod_fault mod_suits mod_doneMany mod_undoneMany mod_open mod_laid mod_isBoth mod_wished mod_bestMany mod_bestRow mod_ringDigits mod_traces mod_endKind mod_undoneFrom mod_holds = some R) : Met l yX12_taken (z_X12_taken) rm_X12_taken (va_Pc [.ref (ad 41), .int x1, .int x2] (zPre D cs (wl_X12_taken ad cs mod_code mod_shoes mod_claims mod_taped mod_here mod_fault mod_suits mod_doneMany mod_undoneMany mod_open mod_laid mod_isBoth mod_wished mod_bestMany mod_bestRow mod_ringDigits mod_traces mod_endKind mod_undoneFrom mod_holds) sz)) (Q_X12_taken D cs ad mod_code mod_shoes mod_claims mod_taped mod_here mod_fault mod_suits mod_doneMany mod_undoneMany mod_open mod_laid mod_isBoth mod_wished mod_bestMany mod_bestRow mod_ringDigits mod_traces mod_endKind mod_undoneFrom mod_holds (va_A (wl_X12_taken ad cs mod_code mod_shoes mod_claims mod_taped mod_here mod_fault mod_suits mod_doneMany mod_undoneMany mod_open mod_laid mod_isBoth mod_wished mod_bestMany mod_bestRow mod_ringDigits mod_traces mod_endKind mod_undoneFrom mod_holds) sz) R) 0 0 (va_A (wl_X12_taken ad cs mod_code mod_shoes mod_claims mod_taped mod_here mod_fault mod_suits mod_doneMany mod_undoneMany mod_open mod_laid mod_isBoth mod_wished mod_bestMany mod_bestRow mod_ringDigits mod_traces mod_endKind mod_undoneFrom mod_holds) sz) := by
  refine Met.ofW (cc := cX12_taken) (maxL := 3) (ret := (some .int)) (by decide) rfl ?_
  intro p e s m args below meth c s₁ B hml hv
  obtain ⟨rfl, hsz, hP, hK, hD0⟩ := hv
  subst hsz
  have hD := hD0.self (sz := s.heap.size)
  have C0 : zC p s m _ meth c cX12_taken 3 (some .int) RX12 zW := ⟨B.exec, B.bytes, B.returns, hml, findClass_of_methodNamed B.named, fun w hw => atoms_spec (ws := z_X12_taken) B.pre w (List.mem_cons_of_mem _ hw), B.notSynchronized⟩
  have hA : ∀ q : Nat, s.heap.size ≤ q → va_A (wl_X12_taken ad cs mod_code mod_shoes mod_claims mod_taped mod_here mod_fault mod_suits mod_doneMany mod_undoneMany mod_open mod_laid mod_isBoth mod_wished mod_bestMany mod_bestRow mod_ringDigits mod_traces mod_endKind mod_undoneFrom mod_holds) s.heap.size q := fun q h => Or.inr h
  have hl := lv_entry ([.ref (ad 41), .int x1, .int x2]) (n := 3) (Nat.le_of_ble_eq_true rfl)
  rw [lg_entry_eq]
  generalize (lg_sl ([.ref (ad 41), .int x1, .int x2]) ++ List.replicate (3 - (lg_sl ([.ref (ad 41), .int x1, .int x2])).length) Slot.unset).toArray = ls at hl ⊢
  exact L_X12_taken_0 C0 hK hA   x1 x2  h s.heap [] ls hP hD va_S.rf hl
theorem kw_104 : Cond.instanceMethod objectInit ∈ zW := zwC (i := 30) zc_1 rfl rfl
theorem kw_105 : Cond.code objectInit ⟨#[0xb1]⟩ 1 none ∈ zW := zwC (i := 31) zc_1 rfl rfl
theorem kw_184 : Cond.arrayClass .int ∈ zW := zwC (i := 110) zc_1 rfl rfl
theorem kw_228 : Cond.arrayClass .long ∈ zW := zwC (i := 154) zc_1 rfl rfl
theorem kw_674 : Cond.arrayClass .byte ∈ zW := zwC (i := 120) zc_3 rfl rfl
theorem kw_1295 : Cond.methodLink RX12 1 objectInit ∈ zW := zwC (i := 21) zc_6 rfl rfl
theorem kw_1476 : Cond.arrayClass .short ∈ zW := zwC (i := 202) zc_6 rfl rfl
theorem kw_1477 : Cond.arrayClass .boolean ∈ zW := zwC (i := 203) zc_6 rfl rfl
theorem zh_cX12_init_0 : zck [42, 183, 0, 1, 42, 16, 40, 188, 10, 181, 0, 7, 42, 16, 40, 188, 10, 181, 0, 13, 42, 16] (zdu 0 cX12_init.data.toList) = true := by decide +kernel
theorem dX12_init_0 : decode cX12_init 0 = .ok (.aload_n 0, 1) := zo_42 zh_cX12_init_0 0 rfl
theorem zo_183 {c : ByteArray} {s : Nat} {K : List Nat} (h : zck K (zdu s c.data.toList) = true) (k : Nat) {v : Nat} (hk : zt3 K k 183 v = true) : decode c (s + k) = .ok (.invokespecial v, 3) := zde ((zbd (zu1 (zh3 h hk).1)).trans ((zbd (f := fun x => pure (Instr.invokespecial x)) (zh3 h hk).2).trans rfl))
theorem dX12_init_1 : decode cX12_init 1 = .ok (.invokespecial 1, 3) := zo_183 zh_cX12_init_0 1 rfl
theorem dX12_init_4 : decode cX12_init 4 = .ok (.aload_n 0, 1) := zo_42 zh_cX12_init_0 4 rfl
theorem dX12_init_5 : decode cX12_init 5 = .ok (.bipush 40, 2) := zo_p16 zh_cX12_init_0 5 40 rfl rfl
theorem zo_188_int {c : ByteArray} {s : Nat} {K : List Nat} (h : zck K (zdu s c.data.toList) = true) (k : Nat) (hk : zt2 K k 188 10 = true) : decode c (s + k) = .ok (.newarray .int, 2) := zde ((zbd (zu1 (zh2 h hk).1)).trans ((zbd (zh2 h hk).2).trans rfl))
theorem dX12_init_7 : decode cX12_init 7 = .ok (.newarray .int, 2) := zo_188_int zh_cX12_init_0 7 rfl
theorem dX12_init_9 : decode cX12_init 9 = .ok (.putfield 7, 3) := zo_181 zh_cX12_init_0 9 rfl
theorem dX12_init_12 : decode cX12_init 12 = .ok (.aload_n 0, 1) := zo_42 zh_cX12_init_0 12 rfl
theorem dX12_init_13 : decode cX12_init 13 = .ok (.bipush 40, 2) := zo_p16 zh_cX12_init_0 13 40 rfl rfl
theorem dX12_init_15 : decode cX12_init 15 = .ok (.newarray .int, 2) := zo_188_int zh_cX12_init_0 15 rfl
theorem dX12_init_17 : decode cX12_init 17 = .ok (.putfield 13, 3) := zo_181 zh_cX12_init_0 17 rfl
theorem zh_cX12_init_1 : zck [42, 16, 40, 188, 10, 181, 0, 16, 42, 16, 40, 188, 10, 181, 0, 19, 42, 16, 32, 188, 10, 181] (zdu 20 cX12_init.data.toList) = true := by decide +kernel
theorem dX12_init_20 : decode cX12_init 20 = .ok (.aload_n 0, 1) := zo_42 zh_cX12_init_1 0 rfl
theorem dX12_init_21 : decode cX12_init 21 = .ok (.bipush 40, 2) := zo_p16 zh_cX12_init_1 1 40 rfl rfl
theorem dX12_init_23 : decode cX12_init 23 = .ok (.newarray .int, 2) := zo_188_int zh_cX12_init_1 3 rfl
theorem dX12_init_25 : decode cX12_init 25 = .ok (.putfield 16, 3) := zo_181 zh_cX12_init_1 5 rfl
theorem dX12_init_28 : decode cX12_init 28 = .ok (.aload_n 0, 1) := zo_42 zh_cX12_init_1 8 rfl
theorem dX12_init_29 : decode cX12_init 29 = .ok (.bipush 40, 2) := zo_p16 zh_cX12_init_1 9 40 rfl rfl
theorem dX12_init_31 : decode cX12_init 31 = .ok (.newarray .int, 2) := zo_188_int zh_cX12_init_1 11 rfl
theorem dX12_init_33 : decode cX12_init 33 = .ok (.putfield 19, 3) := zo_181 zh_cX12_init_1 13 rfl
theorem dX12_init_36 : decode cX12_init 36 = .ok (.aload_n 0, 1) := zo_42 zh_cX12_init_1 16 rfl
theorem dX12_init_37 : decode cX12_init 37 = .ok (.bipush 32, 2) := zo_p16 zh_cX12_init_1 17 32 rfl rfl
theorem dX12_init_39 : decode cX12_init 39 = .ok (.newarray .int, 2) := zo_188_int zh_cX12_init_1 19 rfl
theorem zh_cX12_init_2 : zck [10, 181, 0, 22, 42, 16, 32, 188, 10, 181, 0, 25, 42, 16, 32, 188, 10, 181, 0, 28, 42, 16] (zdu 40 cX12_init.data.toList) = true := by decide +kernel
theorem dX12_init_41 : decode cX12_init 41 = .ok (.putfield 22, 3) := zo_181 zh_cX12_init_2 1 rfl
theorem dX12_init_44 : decode cX12_init 44 = .ok (.aload_n 0, 1) := zo_42 zh_cX12_init_2 4 rfl
theorem dX12_init_45 : decode cX12_init 45 = .ok (.bipush 32, 2) := zo_p16 zh_cX12_init_2 5 32 rfl rfl
theorem dX12_init_47 : decode cX12_init 47 = .ok (.newarray .int, 2) := zo_188_int zh_cX12_init_2 7 rfl
theorem dX12_init_49 : decode cX12_init 49 = .ok (.putfield 25, 3) := zo_181 zh_cX12_init_2 9 rfl
theorem dX12_init_52 : decode cX12_init 52 = .ok (.aload_n 0, 1) := zo_42 zh_cX12_init_2 12 rfl
theorem dX12_init_53 : decode cX12_init 53 = .ok (.bipush 32, 2) := zo_p16 zh_cX12_init_2 13 32 rfl rfl
theorem dX12_init_55 : decode cX12_init 55 = .ok (.newarray .int, 2) := zo_188_int zh_cX12_init_2 15 rfl
theorem dX12_init_57 : decode cX12_init 57 = .ok (.putfield 28, 3) := zo_181 zh_cX12_init_2 17 rfl
theorem zh_cX12_init_3 : zck [42, 16, 32, 188, 10, 181, 0, 31, 42, 16, 120, 188, 8, 181, 0, 34, 42, 16, 45, 188, 10, 181] (zdu 60 cX12_init.data.toList) = true := by decide +kernel
theorem dX12_init_60 : decode cX12_init 60 = .ok (.aload_n 0, 1) := zo_42 zh_cX12_init_3 0 rfl
theorem dX12_init_61 : decode cX12_init 61 = .ok (.bipush 32, 2) := zo_p16 zh_cX12_init_3 1 32 rfl rfl
theorem dX12_init_63 : decode cX12_init 63 = .ok (.newarray .int, 2) := zo_188_int zh_cX12_init_3 3 rfl
theorem dX12_init_65 : decode cX12_init 65 = .ok (.putfield 31, 3) := zo_181 zh_cX12_init_3 5 rfl
theorem dX12_init_68 : decode cX12_init 68 = .ok (.aload_n 0, 1) := zo_42 zh_cX12_init_3 8 rfl
theorem dX12_init_69 : decode cX12_init 69 = .ok (.bipush 120, 2) := zo_p16 zh_cX12_init_3 9 120 rfl rfl
theorem zo_188_byte {c : ByteArray} {s : Nat} {K : List Nat} (h : zck K (zdu s c.data.toList) = true) (k : Nat) (hk : zt2 K k 188 8 = true) : decode c (s + k) = .ok (.newarray .byte, 2) := zde ((zbd (zu1 (zh2 h hk).1)).trans ((zbd (zh2 h hk).2).trans rfl))
theorem dX12_init_71 : decode cX12_init 71 = .ok (.newarray .byte, 2) := zo_188_byte zh_cX12_init_3 11 rfl
theorem dX12_init_73 : decode cX12_init 73 = .ok (.putfield 34, 3) := zo_181 zh_cX12_init_3 13 rfl
theorem dX12_init_76 : decode cX12_init 76 = .ok (.aload_n 0, 1) := zo_42 zh_cX12_init_3 16 rfl
theorem dX12_init_77 : decode cX12_init 77 = .ok (.bipush 45, 2) := zo_p16 zh_cX12_init_3 17 45 rfl rfl
theorem dX12_init_79 : decode cX12_init 79 = .ok (.newarray .int, 2) := zo_188_int zh_cX12_init_3 19 rfl
theorem zh_cX12_init_4 : zck [10, 181, 0, 38, 42, 16, 45, 188, 10, 181, 0, 41, 42, 16, 45, 188, 10, 181, 0, 44, 42, 16] (zdu 80 cX12_init.data.toList) = true := by decide +kernel
theorem dX12_init_81 : decode cX12_init 81 = .ok (.putfield 38, 3) := zo_181 zh_cX12_init_4 1 rfl
theorem dX12_init_84 : decode cX12_init 84 = .ok (.aload_n 0, 1) := zo_42 zh_cX12_init_4 4 rfl
theorem dX12_init_85 : decode cX12_init 85 = .ok (.bipush 45, 2) := zo_p16 zh_cX12_init_4 5 45 rfl rfl
theorem dX12_init_87 : decode cX12_init 87 = .ok (.newarray .int, 2) := zo_188_int zh_cX12_init_4 7 rfl
theorem dX12_init_89 : decode cX12_init 89 = .ok (.putfield 41, 3) := zo_181 zh_cX12_init_4 9 rfl
theorem dX12_init_92 : decode cX12_init 92 = .ok (.aload_n 0, 1) := zo_42 zh_cX12_init_4 12 rfl
theorem dX12_init_93 : decode cX12_init 93 = .ok (.bipush 45, 2) := zo_p16 zh_cX12_init_4 13 45 rfl rfl
theorem dX12_init_95 : decode cX12_init 95 = .ok (.newarray .int, 2) := zo_188_int zh_cX12_init_4 15 rfl
theorem dX12_init_97 : decode cX12_init 97 = .ok (.putfield 44, 3) := zo_181 zh_cX12_init_4 17 rfl
theorem zh_cX12_init_5 : zck [42, 16, 45, 188, 10, 181, 0, 47, 42, 16, 45, 188, 10, 181, 0, 50, 42, 16, 45, 188, 10, 181] (zdu 100 cX12_init.data.toList) = true := by decide +kernel
theorem dX12_init_100 : decode cX12_init 100 = .ok (.aload_n 0, 1) := zo_42 zh_cX12_init_5 0 rfl
theorem dX12_init_101 : decode cX12_init 101 = .ok (.bipush 45, 2) := zo_p16 zh_cX12_init_5 1 45 rfl rfl
theorem dX12_init_103 : decode cX12_init 103 = .ok (.newarray .int, 2) := zo_188_int zh_cX12_init_5 3 rfl
theorem dX12_init_105 : decode cX12_init 105 = .ok (.putfield 47, 3) := zo_181 zh_cX12_init_5 5 rfl
theorem dX12_init_108 : decode cX12_init 108 = .ok (.aload_n 0, 1) := zo_42 zh_cX12_init_5 8 rfl
theorem dX12_init_109 : decode cX12_init 109 = .ok (.bipush 45, 2) := zo_p16 zh_cX12_init_5 9 45 rfl rfl
theorem dX12_init_111 : decode cX12_init 111 = .ok (.newarray .int, 2) := zo_188_int zh_cX12_init_5 11 rfl
theorem dX12_init_113 : decode cX12_init 113 = .ok (.putfield 50, 3) := zo_181 zh_cX12_init_5 13 rfl
theorem dX12_init_116 : decode cX12_init 116 = .ok (.aload_n 0, 1) := zo_42 zh_cX12_init_5 16 rfl
theorem dX12_init_117 : decode cX12_init 117 = .ok (.bipush 45, 2) := zo_p16 zh_cX12_init_5 17 45 rfl rfl
theorem dX12_init_119 : decode cX12_init 119 = .ok (.newarray .int, 2) := zo_188_int zh_cX12_init_5 19 rfl
theorem zh_cX12_init_6 : zck [10, 181, 0, 53, 42, 16, 45, 188, 10, 181, 0, 56, 42, 16, 45, 188, 10, 181, 0, 59, 42, 16] (zdu 120 cX12_init.data.toList) = true := by decide +kernel
theorem dX12_init_121 : decode cX12_init 121 = .ok (.putfield 53, 3) := zo_181 zh_cX12_init_6 1 rfl
theorem dX12_init_124 : decode cX12_init 124 = .ok (.aload_n 0, 1) := zo_42 zh_cX12_init_6 4 rfl
theorem dX12_init_125 : decode cX12_init 125 = .ok (.bipush 45, 2) := zo_p16 zh_cX12_init_6 5 45 rfl rfl
theorem dX12_init_127 : decode cX12_init 127 = .ok (.newarray .int, 2) := zo_188_int zh_cX12_init_6 7 rfl
theorem dX12_init_129 : decode cX12_init 129 = .ok (.putfield 56, 3) := zo_181 zh_cX12_init_6 9 rfl
theorem dX12_init_132 : decode cX12_init 132 = .ok (.aload_n 0, 1) := zo_42 zh_cX12_init_6 12 rfl
theorem dX12_init_133 : decode cX12_init 133 = .ok (.bipush 45, 2) := zo_p16 zh_cX12_init_6 13 45 rfl rfl
theorem dX12_init_135 : decode cX12_init 135 = .ok (.newarray .int, 2) := zo_188_int zh_cX12_init_6 15 rfl
theorem dX12_init_137 : decode cX12_init 137 = .ok (.putfield 59, 3) := zo_181 zh_cX12_init_6 17 rfl
theorem zh_cX12_init_7 : zck [42, 16, 45, 188, 10, 181, 0, 62, 42, 17, 5, 160, 188, 8, 181, 0, 65, 42, 17, 5, 160, 188] (zdu 140 cX12_init.data.toList) = true := by decide +kernel
theorem dX12_init_140 : decode cX12_init 140 = .ok (.aload_n 0, 1) := zo_42 zh_cX12_init_7 0 rfl
theorem dX12_init_141 : decode cX12_init 141 = .ok (.bipush 45, 2) := zo_p16 zh_cX12_init_7 1 45 rfl rfl
theorem dX12_init_143 : decode cX12_init 143 = .ok (.newarray .int, 2) := zo_188_int zh_cX12_init_7 3 rfl
theorem dX12_init_145 : decode cX12_init 145 = .ok (.putfield 62, 3) := zo_181 zh_cX12_init_7 5 rfl
theorem dX12_init_148 : decode cX12_init 148 = .ok (.aload_n 0, 1) := zo_42 zh_cX12_init_7 8 rfl
theorem dX12_init_149 : decode cX12_init 149 = .ok (.sipush 1440, 3) := zo_p17 zh_cX12_init_7 9 1440 rfl rfl
theorem dX12_init_152 : decode cX12_init 152 = .ok (.newarray .byte, 2) := zo_188_byte zh_cX12_init_7 12 rfl
theorem dX12_init_154 : decode cX12_init 154 = .ok (.putfield 65, 3) := zo_181 zh_cX12_init_7 14 rfl
theorem dX12_init_157 : decode cX12_init 157 = .ok (.aload_n 0, 1) := zo_42 zh_cX12_init_7 17 rfl
theorem dX12_init_158 : decode cX12_init 158 = .ok (.sipush 1440, 3) := zo_p17 zh_cX12_init_7 18 1440 rfl rfl
theorem zh_cX12_init_8 : zck [160, 188, 8, 181, 0, 68, 42, 16, 40, 188, 10, 181, 0, 71, 42, 16, 40, 188, 10, 181, 0, 74] (zdu 160 cX12_init.data.toList) = true := by decide +kernel
theorem dX12_init_161 : decode cX12_init 161 = .ok (.newarray .byte, 2) := zo_188_byte zh_cX12_init_8 1 rfl
theorem dX12_init_163 : decode cX12_init 163 = .ok (.putfield 68, 3) := zo_181 zh_cX12_init_8 3 rfl
theorem dX12_init_166 : decode cX12_init 166 = .ok (.aload_n 0, 1) := zo_42 zh_cX12_init_8 6 rfl
theorem dX12_init_167 : decode cX12_init 167 = .ok (.bipush 40, 2) := zo_p16 zh_cX12_init_8 7 40 rfl rfl
theorem dX12_init_169 : decode cX12_init 169 = .ok (.newarray .int, 2) := zo_188_int zh_cX12_init_8 9 rfl
theorem dX12_init_171 : decode cX12_init 171 = .ok (.putfield 71, 3) := zo_181 zh_cX12_init_8 11 rfl
theorem dX12_init_174 : decode cX12_init 174 = .ok (.aload_n 0, 1) := zo_42 zh_cX12_init_8 14 rfl
theorem dX12_init_175 : decode cX12_init 175 = .ok (.bipush 40, 2) := zo_p16 zh_cX12_init_8 15 40 rfl rfl
theorem dX12_init_177 : decode cX12_init 177 = .ok (.newarray .int, 2) := zo_188_int zh_cX12_init_8 17 rfl
theorem dX12_init_179 : decode cX12_init 179 = .ok (.putfield 74, 3) := zo_181 zh_cX12_init_8 19 rfl
theorem zh_cX12_init_9 : zck [0, 74, 42, 16, 40, 188, 10, 181, 0, 77, 42, 16, 40, 188, 10, 181, 0, 80, 42, 17, 16, 194] (zdu 180 cX12_init.data.toList) = true := by decide +kernel
theorem dX12_init_182 : decode cX12_init 182 = .ok (.aload_n 0, 1) := zo_42 zh_cX12_init_9 2 rfl
theorem dX12_init_183 : decode cX12_init 183 = .ok (.bipush 40, 2) := zo_p16 zh_cX12_init_9 3 40 rfl rfl
theorem dX12_init_185 : decode cX12_init 185 = .ok (.newarray .int, 2) := zo_188_int zh_cX12_init_9 5 rfl
theorem dX12_init_187 : decode cX12_init 187 = .ok (.putfield 77, 3) := zo_181 zh_cX12_init_9 7 rfl
theorem dX12_init_190 : decode cX12_init 190 = .ok (.aload_n 0, 1) := zo_42 zh_cX12_init_9 10 rfl
theorem dX12_init_191 : decode cX12_init 191 = .ok (.bipush 40, 2) := zo_p16 zh_cX12_init_9 11 40 rfl rfl
theorem dX12_init_193 : decode cX12_init 193 = .ok (.newarray .int, 2) := zo_188_int zh_cX12_init_9 13 rfl
theorem dX12_init_195 : decode cX12_init 195 = .ok (.putfield 80, 3) := zo_181 zh_cX12_init_9 15 rfl
theorem dX12_init_198 : decode cX12_init 198 = .ok (.aload_n 0, 1) := zo_42 zh_cX12_init_9 18 rfl
theorem dX12_init_199 : decode cX12_init 199 = .ok (.sipush 4290, 3) := zo_p17 zh_cX12_init_9 19 4290 rfl rfl
theorem zh_cX12_init_10 : zck [16, 194, 188, 8, 181, 0, 83, 42, 17, 16, 194, 188, 10, 181, 0, 86, 42, 16, 33, 188, 10, 181] (zdu 200 cX12_init.data.toList) = true := by decide +kernel
theorem dX12_init_202 : decode cX12_init 202 = .ok (.newarray .byte, 2) := zo_188_byte zh_cX12_init_10 2 rfl
theorem dX12_init_204 : decode cX12_init 204 = .ok (.putfield 83, 3) := zo_181 zh_cX12_init_10 4 rfl
theorem dX12_init_207 : decode cX12_init 207 = .ok (.aload_n 0, 1) := zo_42 zh_cX12_init_10 7 rfl
theorem dX12_init_208 : decode cX12_init 208 = .ok (.sipush 4290, 3) := zo_p17 zh_cX12_init_10 8 4290 rfl rfl
theorem dX12_init_211 : decode cX12_init 211 = .ok (.newarray .int, 2) := zo_188_int zh_cX12_init_10 11 rfl
theorem dX12_init_213 : decode cX12_init 213 = .ok (.putfield 86, 3) := zo_181 zh_cX12_init_10 13 rfl
theorem dX12_init_216 : decode cX12_init 216 = .ok (.aload_n 0, 1) := zo_42 zh_cX12_init_10 16 rfl
theorem dX12_init_217 : decode cX12_init 217 = .ok (.bipush 33, 2) := zo_p16 zh_cX12_init_10 17 33 rfl rfl
theorem dX12_init_219 : decode cX12_init 219 = .ok (.newarray .int, 2) := zo_188_int zh_cX12_init_10 19 rfl
theorem zh_cX12_init_11 : zck [10, 181, 0, 89, 42, 17, 7, 221, 188, 9, 181, 0, 92, 42, 17, 7, 221, 188, 9, 181, 0, 96] (zdu 220 cX12_init.data.toList) = true := by decide +kernel
theorem dX12_init_221 : decode cX12_init 221 = .ok (.putfield 89, 3) := zo_181 zh_cX12_init_11 1 rfl
theorem dX12_init_224 : decode cX12_init 224 = .ok (.aload_n 0, 1) := zo_42 zh_cX12_init_11 4 rfl
theorem dX12_init_225 : decode cX12_init 225 = .ok (.sipush 2013, 3) := zo_p17 zh_cX12_init_11 5 2013 rfl rfl
theorem zo_188_short {c : ByteArray} {s : Nat} {K : List Nat} (h : zck K (zdu s c.data.toList) = true) (k : Nat) (hk : zt2 K k 188 9 = true) : decode c (s + k) = .ok (.newarray .short, 2) := zde ((zbd (zu1 (zh2 h hk).1)).trans ((zbd (zh2 h hk).2).trans rfl))
theorem dX12_init_228 : decode cX12_init 228 = .ok (.newarray .short, 2) := zo_188_short zh_cX12_init_11 8 rfl
theorem dX12_init_230 : decode cX12_init 230 = .ok (.putfield 92, 3) := zo_181 zh_cX12_init_11 10 rfl
theorem dX12_init_233 : decode cX12_init 233 = .ok (.aload_n 0, 1) := zo_42 zh_cX12_init_11 13 rfl
theorem dX12_init_234 : decode cX12_init 234 = .ok (.sipush 2013, 3) := zo_p17 zh_cX12_init_11 14 2013 rfl rfl
theorem dX12_init_237 : decode cX12_init 237 = .ok (.newarray .short, 2) := zo_188_short zh_cX12_init_11 17 rfl
theorem dX12_init_239 : decode cX12_init 239 = .ok (.putfield 96, 3) := zo_181 zh_cX12_init_11 19 rfl
theorem zh_cX12_init_12 : zck [0, 96, 42, 16, 11, 188, 10, 181, 0, 99, 42, 17, 0, 130, 188, 10, 181, 0, 102, 42, 17, 0] (zdu 240 cX12_init.data.toList) = true := by decide +kernel
theorem dX12_init_242 : decode cX12_init 242 = .ok (.aload_n 0, 1) := zo_42 zh_cX12_init_12 2 rfl
theorem dX12_init_243 : decode cX12_init 243 = .ok (.bipush 11, 2) := zo_p16 zh_cX12_init_12 3 11 rfl rfl
theorem dX12_init_245 : decode cX12_init 245 = .ok (.newarray .int, 2) := zo_188_int zh_cX12_init_12 5 rfl
theorem dX12_init_247 : decode cX12_init 247 = .ok (.putfield 99, 3) := zo_181 zh_cX12_init_12 7 rfl
theorem dX12_init_250 : decode cX12_init 250 = .ok (.aload_n 0, 1) := zo_42 zh_cX12_init_12 10 rfl
theorem dX12_init_251 : decode cX12_init 251 = .ok (.sipush 130, 3) := zo_p17 zh_cX12_init_12 11 130 rfl rfl
theorem dX12_init_254 : decode cX12_init 254 = .ok (.newarray .int, 2) := zo_188_int zh_cX12_init_12 14 rfl
theorem dX12_init_256 : decode cX12_init 256 = .ok (.putfield 102, 3) := zo_181 zh_cX12_init_12 16 rfl
theorem dX12_init_259 : decode cX12_init 259 = .ok (.aload_n 0, 1) := zo_42 zh_cX12_init_12 19 rfl
theorem zh_cX12_init_13 : zck [17, 0, 240, 188, 4, 181, 0, 105, 42, 16, 20, 188, 10, 181, 0, 109, 42, 16, 7, 188, 10, 181] (zdu 260 cX12_init.data.toList) = true := by decide +kernel
theorem dX12_init_260 : decode cX12_init 260 = .ok (.sipush 240, 3) := zo_p17 zh_cX12_init_13 0 240 rfl rfl
theorem zo_188_boolean {c : ByteArray} {s : Nat} {K : List Nat} (h : zck K (zdu s c.data.toList) = true) (k : Nat) (hk : zt2 K k 188 4 = true) : decode c (s + k) = .ok (.newarray .boolean, 2) := zde ((zbd (zu1 (zh2 h hk).1)).trans ((zbd (zh2 h hk).2).trans rfl))
theorem dX12_init_263 : decode cX12_init 263 = .ok (.newarray .boolean, 2) := zo_188_boolean zh_cX12_init_13 3 rfl
theorem dX12_init_265 : decode cX12_init 265 = .ok (.putfield 105, 3) := zo_181 zh_cX12_init_13 5 rfl
theorem dX12_init_268 : decode cX12_init 268 = .ok (.aload_n 0, 1) := zo_42 zh_cX12_init_13 8 rfl
theorem dX12_init_269 : decode cX12_init 269 = .ok (.bipush 20, 2) := zo_p16 zh_cX12_init_13 9 20 rfl rfl
theorem dX12_init_271 : decode cX12_init 271 = .ok (.newarray .int, 2) := zo_188_int zh_cX12_init_13 11 rfl
theorem dX12_init_273 : decode cX12_init 273 = .ok (.putfield 109, 3) := zo_181 zh_cX12_init_13 13 rfl
theorem dX12_init_276 : decode cX12_init 276 = .ok (.aload_n 0, 1) := zo_42 zh_cX12_init_13 16 rfl
theorem dX12_init_277 : decode cX12_init 277 = .ok (.bipush 7, 2) := zo_p16 zh_cX12_init_13 17 7 rfl rfl
theorem dX12_init_279 : decode cX12_init 279 = .ok (.newarray .int, 2) := zo_188_int zh_cX12_init_13 19 rfl
theorem zh_cX12_init_14 : zck [10, 181, 0, 112, 42, 8, 188, 10, 181, 0, 115, 42, 8, 188, 10, 181, 0, 118, 42, 17, 21, 0] (zdu 280 cX12_init.data.toList) = true := by decide +kernel
theorem dX12_init_281 : decode cX12_init 281 = .ok (.putfield 112, 3) := zo_181 zh_cX12_init_14 1 rfl
theorem dX12_init_284 : decode cX12_init 284 = .ok (.aload_n 0, 1) := zo_42 zh_cX12_init_14 4 rfl
theorem dX12_init_285 : decode cX12_init 285 = .ok (.iconst 5, 1) := zo_8 zh_cX12_init_14 5 rfl
theorem dX12_init_286 : decode cX12_init 286 = .ok (.newarray .int, 2) := zo_188_int zh_cX12_init_14 6 rfl
theorem dX12_init_288 : decode cX12_init 288 = .ok (.putfield 115, 3) := zo_181 zh_cX12_init_14 8 rfl
theorem dX12_init_291 : decode cX12_init 291 = .ok (.aload_n 0, 1) := zo_42 zh_cX12_init_14 11 rfl
theorem dX12_init_292 : decode cX12_init 292 = .ok (.iconst 5, 1) := zo_8 zh_cX12_init_14 12 rfl
theorem dX12_init_293 : decode cX12_init 293 = .ok (.newarray .int, 2) := zo_188_int zh_cX12_init_14 13 rfl
theorem dX12_init_295 : decode cX12_init 295 = .ok (.putfield 118, 3) := zo_181 zh_cX12_init_14 15 rfl
theorem dX12_init_298 : decode cX12_init 298 = .ok (.aload_n 0, 1) := zo_42 zh_cX12_init_14 18 rfl
theorem dX12_init_299 : decode cX12_init 299 = .ok (.sipush 5376, 3) := zo_p17 zh_cX12_init_14 19 5376 rfl rfl
theorem zh_cX12_init_15 : zck [21, 0, 188, 10, 181, 0, 121, 42, 16, 20, 188, 10, 181, 0, 124, 42, 16, 24, 188, 10, 181, 0] (zdu 300 cX12_init.data.toList) = true := by decide +kernel
theorem dX12_init_302 : decode cX12_init 302 = .ok (.newarray .int, 2) := zo_188_int zh_cX12_init_15 2 rfl
theorem dX12_init_304 : decode cX12_init 304 = .ok (.putfield 121, 3) := zo_181 zh_cX12_init_15 4 rfl
theorem dX12_init_307 : decode cX12_init 307 = .ok (.aload_n 0, 1) := zo_42 zh_cX12_init_15 7 rfl
theorem dX12_init_308 : decode cX12_init 308 = .ok (.bipush 20, 2) := zo_p16 zh_cX12_init_15 8 20 rfl rfl
theorem dX12_init_310 : decode cX12_init 310 = .ok (.newarray .int, 2) := zo_188_int zh_cX12_init_15 10 rfl
theorem dX12_init_312 : decode cX12_init 312 = .ok (.putfield 124, 3) := zo_181 zh_cX12_init_15 12 rfl
theorem dX12_init_315 : decode cX12_init 315 = .ok (.aload_n 0, 1) := zo_42 zh_cX12_init_15 15 rfl
theorem dX12_init_316 : decode cX12_init 316 = .ok (.bipush 24, 2) := zo_p16 zh_cX12_init_15 16 24 rfl rfl
theorem dX12_init_318 : decode cX12_init 318 = .ok (.newarray .int, 2) := zo_188_int zh_cX12_init_15 18 rfl
theorem zh_cX12_init_16 : zck [181, 0, 127, 42, 16, 6, 188, 10, 89, 3, 2, 79, 89, 4, 2, 79, 89, 5, 2, 79, 89, 6] (zdu 320 cX12_init.data.toList) = true := by decide +kernel
theorem dX12_init_320 : decode cX12_init 320 = .ok (.putfield 127, 3) := zo_181 zh_cX12_init_16 0 rfl
theorem dX12_init_323 : decode cX12_init 323 = .ok (.aload_n 0, 1) := zo_42 zh_cX12_init_16 3 rfl
theorem dX12_init_324 : decode cX12_init 324 = .ok (.bipush 6, 2) := zo_p16 zh_cX12_init_16 4 6 rfl rfl
theorem dX12_init_326 : decode cX12_init 326 = .ok (.newarray .int, 2) := zo_188_int zh_cX12_init_16 6 rfl
theorem dX12_init_328 : decode cX12_init 328 = .ok (.dup, 1) := zo_89 zh_cX12_init_16 8 rfl
theorem dX12_init_329 : decode cX12_init 329 = .ok (.iconst 0, 1) := zo_3 zh_cX12_init_16 9 rfl
theorem dX12_init_330 : decode cX12_init 330 = .ok (.iconst (-1), 1) := zo_2 zh_cX12_init_16 10 rfl
theorem dX12_init_331 : decode cX12_init 331 = .ok (.iastore, 1) := zo_79 zh_cX12_init_16 11 rfl
theorem dX12_init_332 : decode cX12_init 332 = .ok (.dup, 1) := zo_89 zh_cX12_init_16 12 rfl
theorem dX12_init_333 : decode cX12_init 333 = .ok (.iconst 1, 1) := zo_4 zh_cX12_init_16 13 rfl
theorem dX12_init_334 : decode cX12_init 334 = .ok (.iconst (-1), 1) := zo_2 zh_cX12_init_16 14 rfl
theorem dX12_init_335 : decode cX12_init 335 = .ok (.iastore, 1) := zo_79 zh_cX12_init_16 15 rfl
theorem dX12_init_336 : decode cX12_init 336 = .ok (.dup, 1) := zo_89 zh_cX12_init_16 16 rfl
theorem dX12_init_337 : decode cX12_init 337 = .ok (.iconst 2, 1) := zo_5 zh_cX12_init_16 17 rfl
theorem dX12_init_338 : decode cX12_init 338 = .ok (.iconst (-1), 1) := zo_2 zh_cX12_init_16 18 rfl
theorem dX12_init_339 : decode cX12_init 339 = .ok (.iastore, 1) := zo_79 zh_cX12_init_16 19 rfl
theorem zh_cX12_init_17 : zck [89, 6, 2, 79, 89, 7, 2, 79, 89, 8, 2, 79, 181, 0, 130, 42, 16, 6, 188, 10, 181, 0] (zdu 340 cX12_init.data.toList) = true := by decide +kernel
theorem dX12_init_340 : decode cX12_init 340 = .ok (.dup, 1) := zo_89 zh_cX12_init_17 0 rfl
theorem dX12_init_341 : decode cX12_init 341 = .ok (.iconst 3, 1) := zo_6 zh_cX12_init_17 1 rfl
theorem dX12_init_342 : decode cX12_init 342 = .ok (.iconst (-1), 1) := zo_2 zh_cX12_init_17 2 rfl
theorem dX12_init_343 : decode cX12_init 343 = .ok (.iastore, 1) := zo_79 zh_cX12_init_17 3 rfl
theorem dX12_init_344 : decode cX12_init 344 = .ok (.dup, 1) := zo_89 zh_cX12_init_17 4 rfl
theorem dX12_init_345 : decode cX12_init 345 = .ok (.iconst 4, 1) := zo_7 zh_cX12_init_17 5 rfl
theorem dX12_init_346 : decode cX12_init 346 = .ok (.iconst (-1), 1) := zo_2 zh_cX12_init_17 6 rfl
theorem dX12_init_347 : decode cX12_init 347 = .ok (.iastore, 1) := zo_79 zh_cX12_init_17 7 rfl
theorem dX12_init_348 : decode cX12_init 348 = .ok (.dup, 1) := zo_89 zh_cX12_init_17 8 rfl
theorem dX12_init_349 : decode cX12_init 349 = .ok (.iconst 5, 1) := zo_8 zh_cX12_init_17 9 rfl
theorem dX12_init_350 : decode cX12_init 350 = .ok (.iconst (-1), 1) := zo_2 zh_cX12_init_17 10 rfl
theorem dX12_init_351 : decode cX12_init 351 = .ok (.iastore, 1) := zo_79 zh_cX12_init_17 11 rfl
theorem dX12_init_352 : decode cX12_init 352 = .ok (.putfield 130, 3) := zo_181 zh_cX12_init_17 12 rfl
theorem dX12_init_355 : decode cX12_init 355 = .ok (.aload_n 0, 1) := zo_42 zh_cX12_init_17 15 rfl
theorem dX12_init_356 : decode cX12_init 356 = .ok (.bipush 6, 2) := zo_p16 zh_cX12_init_17 16 6 rfl rfl
theorem dX12_init_358 : decode cX12_init 358 = .ok (.newarray .int, 2) := zo_188_int zh_cX12_init_17 18 rfl
theorem zh_cX12_init_18 : zck [181, 0, 133, 42, 17, 1, 104, 188, 11, 181, 0, 136, 42, 16, 60, 188, 11, 181, 0, 140, 177] (zdu 360 cX12_init.data.toList) = true := by decide +kernel
theorem dX12_init_360 : decode cX12_init 360 = .ok (.putfield 133, 3) := zo_181 zh_cX12_init_18 0 rfl
theorem dX12_init_363 : decode cX12_init 363 = .ok (.aload_n 0, 1) := zo_42 zh_cX12_init_18 3 rfl
theorem dX12_init_364 : decode cX12_init 364 = .ok (.sipush 360, 3) := zo_p17 zh_cX12_init_18 4 360 rfl rfl
theorem zo_188_long {c : ByteArray} {s : Nat} {K : List Nat} (h : zck K (zdu s c.data.toList) = true) (k : Nat) (hk : zt2 K k 188 11 = true) : decode c (s + k) = .ok (.newarray .long, 2) := zde ((zbd (zu1 (zh2 h hk).1)).trans ((zbd (zh2 h hk).2).trans rfl))
theorem dX12_init_367 : decode cX12_init 367 = .ok (.newarray .long, 2) := zo_188_long zh_cX12_init_18 7 rfl
theorem dX12_init_369 : decode cX12_init 369 = .ok (.putfield 136, 3) := zo_181 zh_cX12_init_18 9 rfl
theorem dX12_init_372 : decode cX12_init 372 = .ok (.aload_n 0, 1) := zo_42 zh_cX12_init_18 12 rfl
theorem dX12_init_373 : decode cX12_init 373 = .ok (.bipush 60, 2) := zo_p16 zh_cX12_init_18 13 60 rfl rfl
theorem dX12_init_375 : decode cX12_init 375 = .ok (.newarray .long, 2) := zo_188_long zh_cX12_init_18 15 rfl
theorem dX12_init_377 : decode cX12_init 377 = .ok (.putfield 140, 3) := zo_181 zh_cX12_init_18 17 rfl
theorem zh_cX12_init_19 : zck [177] (zdu 380 cX12_init.data.toList) = true := by decide +kernel
theorem dX12_init_380 : decode cX12_init 380 = .ok (.return_, 1) := zo_177 zh_cX12_init_19 0 rfl
abbrev z_X12_init : List Cond := .code yX12_init cX12_init 1 none :: zW
abbrev rm_X12_init : Room := { frames := 1, cells := 43, slots := 22762, locals := 20 }
set_option maxHeartbeats 4000000 in
set_option maxRecDepth 100000 in
theorem ci_X12_init (l : Launch) (D : va_G) (cs : Nat → ClassId) (h0 : Nat)  (sz : Nat) : Met l yX12_init z_X12_init rm_X12_init (va_Pc [.ref h0] (zPre D cs [(h0, .inr (12, [.int 0, .int 0, .null, .null, .null, .null, .int 0, .null, .null, .null, .null, .null, .int 0, .int 0, .int 0, .int 0, .null, .null, .null, .null, .null, .null, .null, .null, .null, .null, .null, .int 0, .int 0, .null, .null, .null, .null, .int 0, .int 0, .null, .null, .null, .null, .null, .null, .null, .null, .null, .null, .int 0, .int 0, .null, .null, .int 0, .int 0, .null, .null, .int 0, .int 0, .null, .null, .null, .null, .null]))] sz)) (va_Qv (fun _ : Nat → Nat => True) (fun (u : Nat → Nat) (t : State) => va_P D classes [(h0, .inr (12, [.int 0, .int 0, .ref (u 0), .ref (u 1), .ref (u 2), .ref (u 3), .int 0, .ref (u 4), .ref (u 5), .ref (u 6), .ref (u 7), .ref (u 8), .int 0, .int 0, .int 0, .int 0, .ref (u 9), .ref (u 10), .ref (u 11), .ref (u 12), .ref (u 13), .ref (u 14), .ref (u 15), .ref (u 16), .ref (u 17), .ref (u 18), .ref (u 19), .int 0, .int 0, .ref (u 20), .ref (u 21), .ref (u 22), .ref (u 23), .int 0, .int 0, .ref (u 24), .ref (u 25), .ref (u 26), .ref (u 27), .ref (u 28), .ref (u 29), .ref (u 30), .ref (u 31), .ref (u 32), .ref (u 33), .int 0, .int 0, .ref (u 34), .ref (u 35), .int 0, .int 0, .ref (u 36), .ref (u 37), .int 0, .int 0, .ref (u 38), .ref (u 39), .ref (u 40), .ref (u 41), .ref (u 42)])), ((u 0), .inl (cs 0, 40, .inl (fun _ => 0))), ((u 1), .inl (cs 0, 40, .inl (fun _ => 0))), ((u 2), .inl (cs 0, 40, .inl (fun _ => 0))), ((u 3), .inl (cs 0, 40, .inl (fun _ => 0))), ((u 4), .inl (cs 0, 32, .inl (fun _ => 0))), ((u 5), .inl (cs 0, 32, .inl (fun _ => 0))), ((u 6), .inl (cs 0, 32, .inl (fun _ => 0))), ((u 7), .inl (cs 0, 32, .inl (fun _ => 0))), ((u 8), .inl (cs 2, 120, .inl (fun _ => 0))), ((u 9), .inl (cs 0, 45, .inl (fun _ => 0))), ((u 10), .inl (cs 0, 45, .inl (fun _ => 0))), ((u 11), .inl (cs 0, 45, .inl (fun _ => 0))), ((u 12), .inl (cs 0, 45, .inl (fun _ => 0))), ((u 13), .inl (cs 0, 45, .inl (fun _ => 0))), ((u 14), .inl (cs 0, 45, .inl (fun _ => 0))), ((u 15), .inl (cs 0, 45, .inl (fun _ => 0))), ((u 16), .inl (cs 0, 45, .inl (fun _ => 0))), ((u 17), .inl (cs 0, 45, .inl (fun _ => 0))), ((u 18), .inl (cs 2, 1440, .inl (fun _ => 0))), ((u 19), .inl (cs 2, 1440, .inl (fun _ => 0))), ((u 20), .inl (cs 0, 40, .inl (fun _ => 0))), ((u 21), .inl (cs 0, 40, .inl (fun _ => 0))), ((u 22), .inl (cs 0, 40, .inl (fun _ => 0))), ((u 23), .inl (cs 0, 40, .inl (fun _ => 0))), ((u 24), .inl (cs 2, 4290, .inl (fun _ => 0))), ((u 25), .inl (cs 0, 4290, .inl (fun _ => 0))), ((u 26), .inl (cs 0, 33, .inl (fun _ => 0))), ((u 27), .inl (cs 3, 2013, .inl (fun _ => 0))), ((u 28), .inl (cs 3, 2013, .inl (fun _ => 0))), ((u 29), .inl (cs 0, 11, .inl (fun _ => 0))), ((u 30), .inl (cs 0, 130, .inl (fun _ => 0))), ((u 31), .inl (cs 4, 240, .inl (fun _ => 0))), ((u 32), .inl (cs 0, 20, .inl (fun _ => 0))), ((u 33), .inl (cs 0, 7, .inl (fun _ => 0))), ((u 34), .inl (cs 0, 5, .inl (fun _ => 0))), ((u 35), .inl (cs 0, 5, .inl (fun _ => 0))), ((u 36), .inl (cs 0, 5376, .inl (fun _ => 0))), ((u 37), .inl (cs 0, 20, .inl (fun _ => 0))), ((u 38), .inl (cs 0, 24, .inl (fun _ => 0))), ((u 39), .inl (cs 0, 6, .inl (upd (upd (upd (upd (upd (upd (fun _ => 0) ((0 : Int32)).toNatClampNeg (-1 : Int32)) ((1 : Int32)).toNatClampNeg (-1 : Int32)) ((2 : Int32)).toNatClampNeg (-1 : Int32)) ((3 : Int32)).toNatClampNeg (-1 : Int32)) ((4 : Int32)).toNatClampNeg (-1 : Int32)) ((5 : Int32)).toNatClampNeg (-1 : Int32)))), ((u 40), .inl (cs 0, 6, .inl (fun _ => 0))), ((u 41), .inl (cs 1, 360, .inr (.inl (fun _ => 0)))), ((u 42), .inl (cs 1, 60, .inr (.inl (fun _ => 0))))] t.heap ∧ va_D (va_A [(h0, .inr (12, [.int 0, .int 0, .null, .null, .null, .null, .int 0, .null, .null, .null, .null, .null, .int 0, .int 0, .int 0, .int 0, .null, .null, .null, .null, .null, .null, .null, .null, .null, .null, .null, .int 0, .int 0, .null, .null, .null, .null, .int 0, .int 0, .null, .null, .null, .null, .null, .null, .null, .null, .null, .null, .int 0, .int 0, .null, .null, .int 0, .int 0, .null, .null, .int 0, .int 0, .null, .null, .null, .null, .null]))] sz) [(h0, .inr (12, [.int 0, .int 0, .ref (u 0), .ref (u 1), .ref (u 2), .ref (u 3), .int 0, .ref (u 4), .ref (u 5), .ref (u 6), .ref (u 7), .ref (u 8), .int 0, .int 0, .int 0, .int 0, .ref (u 9), .ref (u 10), .ref (u 11), .ref (u 12), .ref (u 13), .ref (u 14), .ref (u 15), .ref (u 16), .ref (u 17), .ref (u 18), .ref (u 19), .int 0, .int 0, .ref (u 20), .ref (u 21), .ref (u 22), .ref (u 23), .int 0, .int 0, .ref (u 24), .ref (u 25), .ref (u 26), .ref (u 27), .ref (u 28), .ref (u 29), .ref (u 30), .ref (u 31), .ref (u 32), .ref (u 33), .int 0, .int 0, .ref (u 34), .ref (u 35), .int 0, .int 0, .ref (u 36), .ref (u 37), .int 0, .int 0, .ref (u 38), .ref (u 39), .ref (u 40), .ref (u 41), .ref (u 42)])), ((u 0), .inl (cs 0, 40, .inl (fun _ => 0))), ((u 1), .inl (cs 0, 40, .inl (fun _ => 0))), ((u 2), .inl (cs 0, 40, .inl (fun _ => 0))), ((u 3), .inl (cs 0, 40, .inl (fun _ => 0))), ((u 4), .inl (cs 0, 32, .inl (fun _ => 0))), ((u 5), .inl (cs 0, 32, .inl (fun _ => 0))), ((u 6), .inl (cs 0, 32, .inl (fun _ => 0))), ((u 7), .inl (cs 0, 32, .inl (fun _ => 0))), ((u 8), .inl (cs 2, 120, .inl (fun _ => 0))), ((u 9), .inl (cs 0, 45, .inl (fun _ => 0))), ((u 10), .inl (cs 0, 45, .inl (fun _ => 0))), ((u 11), .inl (cs 0, 45, .inl (fun _ => 0))), ((u 12), .inl (cs 0, 45, .inl (fun _ => 0))), ((u 13), .inl (cs 0, 45, .inl (fun _ => 0))), ((u 14), .inl (cs 0, 45, .inl (fun _ => 0))), ((u 15), .inl (cs 0, 45, .inl (fun _ => 0))), ((u 16), .inl (cs 0, 45, .inl (fun _ => 0))), ((u 17), .inl (cs 0, 45, .inl (fun _ => 0))), ((u 18), .inl (cs 2, 1440, .inl (fun _ => 0))), ((u 19), .inl (cs 2, 1440, .inl (fun _ => 0))), ((u 20), .inl (cs 0, 40, .inl (fun _ => 0))), ((u 21), .inl (cs 0, 40, .inl (fun _ => 0))), ((u 22), .inl (cs 0, 40, .inl (fun _ => 0))), ((u 23), .inl (cs 0, 40, .inl (fun _ => 0))), ((u 24), .inl (cs 2, 4290, .inl (fun _ => 0))), ((u 25), .inl (cs 0, 4290, .inl (fun _ => 0))), ((u 26), .inl (cs 0, 33, .inl (fun _ => 0))), ((u 27), .inl (cs 3, 2013, .inl (fun _ => 0))), ((u 28), .inl (cs 3, 2013, .inl (fun _ => 0))), ((u 29), .inl (cs 0, 11, .inl (fun _ => 0))), ((u 30), .inl (cs 0, 130, .inl (fun _ => 0))), ((u 31), .inl (cs 4, 240, .inl (fun _ => 0))), ((u 32), .inl (cs 0, 20, .inl (fun _ => 0))), ((u 33), .inl (cs 0, 7, .inl (fun _ => 0))), ((u 34), .inl (cs 0, 5, .inl (fun _ => 0))), ((u 35), .inl (cs 0, 5, .inl (fun _ => 0))), ((u 36), .inl (cs 0, 5376, .inl (fun _ => 0))), ((u 37), .inl (cs 0, 20, .inl (fun _ => 0))), ((u 38), .inl (cs 0, 24, .inl (fun _ => 0))), ((u 39), .inl (cs 0, 6, .inl (upd (upd (upd (upd (upd (upd (fun _ => 0) ((0 : Int32)).toNatClampNeg (-1 : Int32)) ((1 : Int32)).toNatClampNeg (-1 : Int32)) ((2 : Int32)).toNatClampNeg (-1 : Int32)) ((3 : Int32)).toNatClampNeg (-1 : Int32)) ((4 : Int32)).toNatClampNeg (-1 : Int32)) ((5 : Int32)).toNatClampNeg (-1 : Int32)))), ((u 40), .inl (cs 0, 6, .inl (fun _ => 0))), ((u 41), .inl (cs 1, 360, .inr (.inl (fun _ => 0)))), ((u 42), .inl (cs 1, 60, .inr (.inl (fun _ => 0))))]) (va_A [(h0, .inr (12, [.int 0, .int 0, .null, .null, .null, .null, .int 0, .null, .null, .null, .null, .null, .int 0, .int 0, .int 0, .int 0, .null, .null, .null, .null, .null, .null, .null, .null, .null, .null, .null, .int 0, .int 0, .null, .null, .null, .null, .int 0, .int 0, .null, .null, .null, .null, .null, .null, .null, .null, .null, .null, .int 0, .int 0, .null, .null, .int 0, .int 0, .null, .null, .int 0, .int 0, .null, .null, .null, .null, .null]))] sz)) 43 22762 (va_A [(h0, .inr (12, [.int 0, .int 0, .null, .null, .null, .null, .int 0, .null, .null, .null, .null, .null, .int 0, .int 0, .int 0, .int 0, .null, .null, .null, .null, .null, .null, .null, .null, .null, .null, .null, .int 0, .int 0, .null, .null, .null, .null, .int 0, .int 0, .null, .null, .null, .null, .null, .null, .null, .null, .null, .null, .int 0, .int 0, .null, .null, .int 0, .int 0, .null, .null, .int 0, .int 0, .null, .null, .null, .null, .null]))] sz) := by
  refine Met.ofW (cc := cX12_init) (maxL := 1) (ret := none) (by decide) rfl ?_
  intro p e s m args below meth c s₁ B hml hv
  obtain ⟨rfl, hsz, hP, hK, hD0⟩ := hv
  subst hsz
  have hD := hD0.self (sz := s.heap.size)
  have hx := B.exec
  have hb := B.bytes
  have hr := B.returns
  have ht : ∀ w ∈ zW, w.before _ s = true := fun w hw => atoms_spec (ws := z_X12_init) B.pre w (List.mem_cons_of_mem _ hw)
  have hown : s.vm.findClass RX12 = some m.cls := findClass_of_methodNamed B.named
  have hlocks := B.notSynchronized
  have hin : meth.name = "<init>" := (name_of_methodNamed B.named B.method).1
  generalize hAe : va_A [(h0, .inr (12, [.int 0, .int 0, .null, .null, .null, .null, .int 0, .null, .null, .null, .null, .null, .int 0, .int 0, .int 0, .int 0, .null, .null, .null, .null, .null, .null, .null, .null, .null, .null, .null, .int 0, .int 0, .null, .null, .null, .null, .int 0, .int 0, .null, .null, .null, .null, .null, .null, .null, .null, .null, .null, .int 0, .int 0, .null, .null, .int 0, .int 0, .null, .null, .int 0, .int 0, .null, .null, .null, .null, .null]))] s.heap.size = A at hD ⊢
  have hA : ∀ q : Nat, s.heap.size ≤ q → A q := fun q h => by rw [← hAe]; exact Or.inr h
  have hS : va_S A s.heap s.heap [] := va_S.rf
  have hl := lv_entry ([.ref h0]) (n := 1) (Nat.le_of_ble_eq_true rfl)
  rw [lg_entry_eq]
  generalize (lg_sl ([.ref h0]) ++ List.replicate (1 - (lg_sl ([.ref h0])).length) Slot.unset).toArray = ls at hl ⊢
  obtain ⟨H, hH⟩ : ∃ H, H = s.heap := ⟨_, rfl⟩
  have hS : va_S A s.heap H [] := by rw [hH]; exact va_S.rf
  rw [← hH]
  have hP : va_P D classes [(h0, .inr (12, [.int 0, .int 0, .null, .null, .null, .null, .int 0, .null, .null, .null, .null, .null, .int 0, .int 0, .int 0, .int 0, .null, .null, .null, .null, .null, .null, .null, .null, .null, .null, .null, .int 0, .int 0, .null, .null, .null, .null, .int 0, .int 0, .null, .null, .null, .null, .null, .null, .null, .null, .null, .null, .int 0, .int 0, .null, .null, .int 0, .int 0, .null, .null, .int 0, .int 0, .null, .null, .null, .null, .null]))] H := by rw [hH]; exact hP
  clear hH
  refine lv_aload_n hx hb dX12_init_0 rfl (lv_at hl 0 rfl) ?_
  refine W.objInit hx hb hown (ht _ kw_1295) (ht _ kw_104) (ht _ kw_105) rfl (by rw [hml]; exact hl.1) rfl dX12_init_1 (Nat.le_of_ble_eq_true rfl) (Nat.le_of_ble_eq_true rfl) ?_
  refine W.eq (g2 := F0 m 4 ls []) rfl ?_
  refine lv_aload_n hx hb dX12_init_4 rfl (lv_at hl 0 rfl) ?_
  refine lv_bipush (v := (40 : Int32)) hx hb dX12_init_5 (by decide) ?_
  refine zk_newa (atype := .int) (ty := .int) (a0 := (40, .inl (fun _ => 0))) (N' := 40) hx hb (ht _ kw_184) rfl hK 0 rfl (by intro C h; cases h) hP hD hS hA (fun _ => rfl) (by decide) (by decide) (Nat.le_of_ble_eq_true rfl) (Nat.le_of_ble_eq_true rfl) (Nat.le_of_ble_eq_true rfl) dX12_init_7 (fun q_0 H hP hD hS => ?_)
  refine va_putF (D := D) (ci := 12) (v := .ref q_0) (ty := .array .int) (C := RX12) (T := TX12) (N := 60) hx hb ht iX12 tyX12 tyX12_ok nmX12 hown hK hP hD hS 0 rfl rfl 2 (by decide) (ht _ kw_1297) (fun _ h9 => h9) rfl hin rfl (by decide +kernel) rfl rfl (Nat.le_of_ble_eq_true rfl) dX12_init_9 (fun H locs hP hD hS => ?_)
  refine lv_aload_n hx hb dX12_init_12 rfl (lv_at hl 0 rfl) ?_
  refine lv_bipush (v := (40 : Int32)) hx hb dX12_init_13 (by decide) ?_
  refine zk_newa (atype := .int) (ty := .int) (a0 := (40, .inl (fun _ => 0))) (N' := 40) hx hb (ht _ kw_184) rfl hK 0 rfl (by intro C h; cases h) hP hD hS hA (fun _ => rfl) (by decide) (by decide) (Nat.le_of_ble_eq_true rfl) (Nat.le_of_ble_eq_true rfl) (Nat.le_of_ble_eq_true rfl) dX12_init_15 (fun q_1 H hP hD hS => ?_)
  refine va_putF (D := D) (ci := 12) (v := .ref q_1) (ty := .array .int) (C := RX12) (T := TX12) (N := 60) hx hb ht iX12 tyX12 tyX12_ok nmX12 hown hK hP hD hS 0 rfl rfl 3 (by decide) (ht _ kw_1298) (fun _ h9 => h9) rfl hin rfl (by decide +kernel) rfl rfl (Nat.le_of_ble_eq_true rfl) dX12_init_17 (fun H locs hP hD hS => ?_)
  refine lv_aload_n hx hb dX12_init_20 rfl (lv_at hl 0 rfl) ?_
  refine lv_bipush (v := (40 : Int32)) hx hb dX12_init_21 (by decide) ?_
  refine zk_newa (atype := .int) (ty := .int) (a0 := (40, .inl (fun _ => 0))) (N' := 40) hx hb (ht _ kw_184) rfl hK 0 rfl (by intro C h; cases h) hP hD hS hA (fun _ => rfl) (by decide) (by decide) (Nat.le_of_ble_eq_true rfl) (Nat.le_of_ble_eq_true rfl) (Nat.le_of_ble_eq_true rfl) dX12_init_23 (fun q_2 H hP hD hS => ?_)
  refine va_putF (D := D) (ci := 12) (v := .ref q_2) (ty := .array .int) (C := RX12) (T := TX12) (N := 60) hx hb ht iX12 tyX12 tyX12_ok nmX12 hown hK hP hD hS 0 rfl rfl 4 (by decide) (ht _ kw_1299) (fun _ h9 => h9) rfl hin rfl (by decide +kernel) rfl rfl (Nat.le_of_ble_eq_true rfl) dX12_init_25 (fun H locs hP hD hS => ?_)
  refine lv_aload_n hx hb dX12_init_28 rfl (lv_at hl 0 rfl) ?_
  refine lv_bipush (v := (40 : Int32)) hx hb dX12_init_29 (by decide) ?_
  refine zk_newa (atype := .int) (ty := .int) (a0 := (40, .inl (fun _ => 0))) (N' := 40) hx hb (ht _ kw_184) rfl hK 0 rfl (by intro C h; cases h) hP hD hS hA (fun _ => rfl) (by decide) (by decide) (Nat.le_of_ble_eq_true rfl) (Nat.le_of_ble_eq_true rfl) (Nat.le_of_ble_eq_true rfl) dX12_init_31 (fun q_3 H hP hD hS => ?_)
  refine va_putF (D := D) (ci := 12) (v := .ref q_3) (ty := .array .int) (C := RX12) (T := TX12) (N := 60) hx hb ht iX12 tyX12 tyX12_ok nmX12 hown hK hP hD hS 0 rfl rfl 5 (by decide) (ht _ kw_1300) (fun _ h9 => h9) rfl hin rfl (by decide +kernel) rfl rfl (Nat.le_of_ble_eq_true rfl) dX12_init_33 (fun H locs hP hD hS => ?_)
  have hP : va_P D classes [(h0, .inr (12, [.int 0, .int 0, .ref q_0, .ref q_1, .ref q_2, .ref q_3, .int 0, .null, .null, .null, .null, .null, .int 0, .int 0, .int 0, .int 0, .null, .null, .null, .null, .null, .null, .null, .null, .null, .null, .null, .int 0, .int 0, .null, .null, .null, .null, .int 0, .int 0, .null, .null, .null, .null, .null, .null, .null, .null, .null, .null, .int 0, .int 0, .null, .null, .int 0, .int 0, .null, .null, .int 0, .int 0, .null, .null, .null, .null, .null])), (q_0, .inl (cs 0, 40, .inl (fun _ => 0))), (q_1, .inl (cs 0, 40, .inl (fun _ => 0))), (q_2, .inl (cs 0, 40, .inl (fun _ => 0))), (q_3, .inl (cs 0, 40, .inl (fun _ => 0)))] H := hP
  have hD : va_D A [(h0, .inr (12, [.int 0, .int 0, .ref q_0, .ref q_1, .ref q_2, .ref q_3, .int 0, .null, .null, .null, .null, .null, .int 0, .int 0, .int 0, .int 0, .null, .null, .null, .null, .null, .null, .null, .null, .null, .null, .null, .int 0, .int 0, .null, .null, .null, .null, .int 0, .int 0, .null, .null, .null, .null, .null, .null, .null, .null, .null, .null, .int 0, .int 0, .null, .null, .int 0, .int 0, .null, .null, .int 0, .int 0, .null, .null, .null, .null, .null])), (q_0, .inl (cs 0, 40, .inl (fun _ => 0))), (q_1, .inl (cs 0, 40, .inl (fun _ => 0))), (q_2, .inl (cs 0, 40, .inl (fun _ => 0))), (q_3, .inl (cs 0, 40, .inl (fun _ => 0)))] := hD
  refine lv_aload_n hx hb dX12_init_36 rfl (lv_at hl 0 rfl) ?_
  refine lv_bipush (v := (32 : Int32)) hx hb dX12_init_37 (by decide) ?_
  refine zk_newa (atype := .int) (ty := .int) (a0 := (32, .inl (fun _ => 0))) (N' := 32) hx hb (ht _ kw_184) rfl hK 0 rfl (by intro C h; cases h) hP hD hS hA (fun _ => rfl) (by decide) (by decide) (Nat.le_of_ble_eq_true rfl) (Nat.le_of_ble_eq_true rfl) (Nat.le_of_ble_eq_true rfl) dX12_init_39 (fun q_4 H hP hD hS => ?_)
  refine va_putF (D := D) (ci := 12) (v := .ref q_4) (ty := .array .int) (C := RX12) (T := TX12) (N := 60) hx hb ht iX12 tyX12 tyX12_ok nmX12 hown hK hP hD hS 0 rfl rfl 7 (by decide) (ht _ kw_1302) (fun _ h9 => h9) rfl hin rfl (by decide +kernel) rfl rfl (Nat.le_of_ble_eq_true rfl) dX12_init_41 (fun H locs hP hD hS => ?_)
  refine lv_aload_n hx hb dX12_init_44 rfl (lv_at hl 0 rfl) ?_
  refine lv_bipush (v := (32 : Int32)) hx hb dX12_init_45 (by decide) ?_
  refine zk_newa (atype := .int) (ty := .int) (a0 := (32, .inl (fun _ => 0))) (N' := 32) hx hb (ht _ kw_184) rfl hK 0 rfl (by intro C h; cases h) hP hD hS hA (fun _ => rfl) (by decide) (by decide) (Nat.le_of_ble_eq_true rfl) (Nat.le_of_ble_eq_true rfl) (Nat.le_of_ble_eq_true rfl) dX12_init_47 (fun q_5 H hP hD hS => ?_)
  refine va_putF (D := D) (ci := 12) (v := .ref q_5) (ty := .array .int) (C := RX12) (T := TX12) (N := 60) hx hb ht iX12 tyX12 tyX12_ok nmX12 hown hK hP hD hS 0 rfl rfl 8 (by decide) (ht _ kw_1303) (fun _ h9 => h9) rfl hin rfl (by decide +kernel) rfl rfl (Nat.le_of_ble_eq_true rfl) dX12_init_49 (fun H locs hP hD hS => ?_)
  refine lv_aload_n hx hb dX12_init_52 rfl (lv_at hl 0 rfl) ?_
  refine lv_bipush (v := (32 : Int32)) hx hb dX12_init_53 (by decide) ?_
  refine zk_newa (atype := .int) (ty := .int) (a0 := (32, .inl (fun _ => 0))) (N' := 32) hx hb (ht _ kw_184) rfl hK 0 rfl (by intro C h; cases h) hP hD hS hA (fun _ => rfl) (by decide) (by decide) (Nat.le_of_ble_eq_true rfl) (Nat.le_of_ble_eq_true rfl) (Nat.le_of_ble_eq_true rfl) dX12_init_55 (fun q_6 H hP hD hS => ?_)
  refine va_putF (D := D) (ci := 12) (v := .ref q_6) (ty := .array .int) (C := RX12) (T := TX12) (N := 60) hx hb ht iX12 tyX12 tyX12_ok nmX12 hown hK hP hD hS 0 rfl rfl 9 (by decide) (ht _ kw_1304) (fun _ h9 => h9) rfl hin rfl (by decide +kernel) rfl rfl (Nat.le_of_ble_eq_true rfl) dX12_init_57 (fun H locs hP hD hS => ?_)
  refine lv_aload_n hx hb dX12_init_60 rfl (lv_at hl 0 rfl) ?_
  refine lv_bipush (v := (32 : Int32)) hx hb dX12_init_61 (by decide) ?_
  refine zk_newa (atype := .int) (ty := .int) (a0 := (32, .inl (fun _ => 0))) (N' := 32) hx hb (ht _ kw_184) rfl hK 0 rfl (by intro C h; cases h) hP hD hS hA (fun _ => rfl) (by decide) (by decide) (Nat.le_of_ble_eq_true rfl) (Nat.le_of_ble_eq_true rfl) (Nat.le_of_ble_eq_true rfl) dX12_init_63 (fun q_7 H hP hD hS => ?_)
  refine va_putF (D := D) (ci := 12) (v := .ref q_7) (ty := .array .int) (C := RX12) (T := TX12) (N := 60) hx hb ht iX12 tyX12 tyX12_ok nmX12 hown hK hP hD hS 0 rfl rfl 10 (by decide) (ht _ kw_1305) (fun _ h9 => h9) rfl hin rfl (by decide +kernel) rfl rfl (Nat.le_of_ble_eq_true rfl) dX12_init_65 (fun H locs hP hD hS => ?_)
  have hP : va_P D classes [(h0, .inr (12, [.int 0, .int 0, .ref q_0, .ref q_1, .ref q_2, .ref q_3, .int 0, .ref q_4, .ref q_5, .ref q_6, .ref q_7, .null, .int 0, .int 0, .int 0, .int 0, .null, .null, .null, .null, .null, .null, .null, .null, .null, .null, .null, .int 0, .int 0, .null, .null, .null, .null, .int 0, .int 0, .null, .null, .null, .null, .null, .null, .null, .null, .null, .null, .int 0, .int 0, .null, .null, .int 0, .int 0, .null, .null, .int 0, .int 0, .null, .null, .null, .null, .null])), (q_0, .inl (cs 0, 40, .inl (fun _ => 0))), (q_1, .inl (cs 0, 40, .inl (fun _ => 0))), (q_2, .inl (cs 0, 40, .inl (fun _ => 0))), (q_3, .inl (cs 0, 40, .inl (fun _ => 0))), (q_4, .inl (cs 0, 32, .inl (fun _ => 0))), (q_5, .inl (cs 0, 32, .inl (fun _ => 0))), (q_6, .inl (cs 0, 32, .inl (fun _ => 0))), (q_7, .inl (cs 0, 32, .inl (fun _ => 0)))] H := hP
  have hD : va_D A [(h0, .inr (12, [.int 0, .int 0, .ref q_0, .ref q_1, .ref q_2, .ref q_3, .int 0, .ref q_4, .ref q_5, .ref q_6, .ref q_7, .null, .int 0, .int 0, .int 0, .int 0, .null, .null, .null, .null, .null, .null, .null, .null, .null, .null, .null, .int 0, .int 0, .null, .null, .null, .null, .int 0, .int 0, .null, .null, .null, .null, .null, .null, .null, .null, .null, .null, .int 0, .int 0, .null, .null, .int 0, .int 0, .null, .null, .int 0, .int 0, .null, .null, .null, .null, .null])), (q_0, .inl (cs 0, 40, .inl (fun _ => 0))), (q_1, .inl (cs 0, 40, .inl (fun _ => 0))), (q_2, .inl (cs 0, 40, .inl (fun _ => 0))), (q_3, .inl (cs 0, 40, .inl (fun _ => 0))), (q_4, .inl (cs 0, 32, .inl (fun _ => 0))), (q_5, .inl (cs 0, 32, .inl (fun _ => 0))), (q_6, .inl (cs 0, 32, .inl (fun _ => 0))), (q_7, .inl (cs 0, 32, .inl (fun _ => 0)))] := hD
  refine lv_aload_n hx hb dX12_init_68 rfl (lv_at hl 0 rfl) ?_
  refine lv_bipush (v := (120 : Int32)) hx hb dX12_init_69 (by decide) ?_
  refine zk_newa (atype := .byte) (ty := .byte) (a0 := (120, .inl (fun _ => 0))) (N' := 120) hx hb (ht _ kw_674) rfl hK 2 rfl (by intro C h; cases h) hP hD hS hA (fun _ => rfl) (by decide) (by decide) (Nat.le_of_ble_eq_true rfl) (Nat.le_of_ble_eq_true rfl) (Nat.le_of_ble_eq_true rfl) dX12_init_71 (fun q_8 H hP hD hS => ?_)
  refine va_putF (D := D) (ci := 12) (v := .ref q_8) (ty := .array .byte) (C := RX12) (T := TX12) (N := 60) hx hb ht iX12 tyX12 tyX12_ok nmX12 hown hK hP hD hS 0 rfl rfl 11 (by decide) (ht _ kw_1306) (fun _ h9 => h9) rfl hin rfl (by decide +kernel) rfl rfl (Nat.le_of_ble_eq_true rfl) dX12_init_73 (fun H locs hP hD hS => ?_)
  refine lv_aload_n hx hb dX12_init_76 rfl (lv_at hl 0 rfl) ?_
  refine lv_bipush (v := (45 : Int32)) hx hb dX12_init_77 (by decide) ?_
  refine zk_newa (atype := .int) (ty := .int) (a0 := (45, .inl (fun _ => 0))) (N' := 45) hx hb (ht _ kw_184) rfl hK 0 rfl (by intro C h; cases h) hP hD hS hA (fun _ => rfl) (by decide) (by decide) (Nat.le_of_ble_eq_true rfl) (Nat.le_of_ble_eq_true rfl) (Nat.le_of_ble_eq_true rfl) dX12_init_79 (fun q_9 H hP hD hS => ?_)
  refine va_putF (D := D) (ci := 12) (v := .ref q_9) (ty := .array .int) (C := RX12) (T := TX12) (N := 60) hx hb ht iX12 tyX12 tyX12_ok nmX12 hown hK hP hD hS 0 rfl rfl 16 (by decide) (ht _ kw_1311) (fun _ h9 => h9) rfl hin rfl (by decide +kernel) rfl rfl (Nat.le_of_ble_eq_true rfl) dX12_init_81 (fun H locs hP hD hS => ?_)
  refine lv_aload_n hx hb dX12_init_84 rfl (lv_at hl 0 rfl) ?_
  refine lv_bipush (v := (45 : Int32)) hx hb dX12_init_85 (by decide) ?_
  refine zk_newa (atype := .int) (ty := .int) (a0 := (45, .inl (fun _ => 0))) (N' := 45) hx hb (ht _ kw_184) rfl hK 0 rfl (by intro C h; cases h) hP hD hS hA (fun _ => rfl) (by decide) (by decide) (Nat.le_of_ble_eq_true rfl) (Nat.le_of_ble_eq_true rfl) (Nat.le_of_ble_eq_true rfl) dX12_init_87 (fun q_10 H hP hD hS => ?_)
  refine va_putF (D := D) (ci := 12) (v := .ref q_10) (ty := .array .int) (C := RX12) (T := TX12) (N := 60) hx hb ht iX12 tyX12 tyX12_ok nmX12 hown hK hP hD hS 0 rfl rfl 17 (by decide) (ht _ kw_1312) (fun _ h9 => h9) rfl hin rfl (by decide +kernel) rfl rfl (Nat.le_of_ble_eq_true rfl) dX12_init_89 (fun H locs hP hD hS => ?_)
  refine lv_aload_n hx hb dX12_init_92 rfl (lv_at hl 0 rfl) ?_
  refine lv_bipush (v := (45 : Int32)) hx hb dX12_init_93 (by decide) ?_
  refine zk_newa (atype := .int) (ty := .int) (a0 := (45, .inl (fun _ => 0))) (N' := 45) hx hb (ht _ kw_184) rfl hK 0 rfl (by intro C h; cases h) hP hD hS hA (fun _ => rfl) (by decide) (by decide) (Nat.le_of_ble_eq_true rfl) (Nat.le_of_ble_eq_true rfl) (Nat.le_of_ble_eq_true rfl) dX12_init_95 (fun q_11 H hP hD hS => ?_)
  refine va_putF (D := D) (ci := 12) (v := .ref q_11) (ty := .array .int) (C := RX12) (T := TX12) (N := 60) hx hb ht iX12 tyX12 tyX12_ok nmX12 hown hK hP hD hS 0 rfl rfl 18 (by decide) (ht _ kw_1313) (fun _ h9 => h9) rfl hin rfl (by decide +kernel) rfl rfl (Nat.le_of_ble_eq_true rfl) dX12_init_97 (fun H locs hP hD hS => ?_)
  have hP : va_P D classes [(h0, .inr (12, [.int 0, .int 0, .ref q_0, .ref q_1, .ref q_2, .ref q_3, .int 0, .ref q_4, .ref q_5, .ref q_6, .ref q_7, .ref q_8, .int 0, .int 0, .int 0, .int 0, .ref q_9, .ref q_10, .ref q_11, .null, .null, .null, .null, .null, .null, .null, .null, .int 0, .int 0, .null, .null, .null, .null, .int 0, .int 0, .null, .null, .null, .null, .null, .null, .null, .null, .null, .null, .int 0, .int 0, .null, .null, .int 0, .int 0, .null, .null, .int 0, .int 0, .null, .null, .null, .null, .null])), (q_0, .inl (cs 0, 40, .inl (fun _ => 0))), (q_1, .inl (cs 0, 40, .inl (fun _ => 0))), (q_2, .inl (cs 0, 40, .inl (fun _ => 0))), (q_3, .inl (cs 0, 40, .inl (fun _ => 0))), (q_4, .inl (cs 0, 32, .inl (fun _ => 0))), (q_5, .inl (cs 0, 32, .inl (fun _ => 0))), (q_6, .inl (cs 0, 32, .inl (fun _ => 0))), (q_7, .inl (cs 0, 32, .inl (fun _ => 0))), (q_8, .inl (cs 2, 120, .inl (fun _ => 0))), (q_9, .inl (cs 0, 45, .inl (fun _ => 0))), (q_10, .inl (cs 0, 45, .inl (fun _ => 0))), (q_11, .inl (cs 0, 45, .inl (fun _ => 0)))] H := hP
  have hD : va_D A [(h0, .inr (12, [.int 0, .int 0, .ref q_0, .ref q_1, .ref q_2, .ref q_3, .int 0, .ref q_4, .ref q_5, .ref q_6, .ref q_7, .ref q_8, .int 0, .int 0, .int 0, .int 0, .ref q_9, .ref q_10, .ref q_11, .null, .null, .null, .null, .null, .null, .null, .null, .int 0, .int 0, .null, .null, .null, .null, .int 0, .int 0, .null, .null, .null, .null, .null, .null, .null, .null, .null, .null, .int 0, .int 0, .null, .null, .int 0, .int 0, .null, .null, .int 0, .int 0, .null, .null, .null, .null, .null])), (q_0, .inl (cs 0, 40, .inl (fun _ => 0))), (q_1, .inl (cs 0, 40, .inl (fun _ => 0))), (q_2, .inl (cs 0, 40, .inl (fun _ => 0))), (q_3, .inl (cs 0, 40, .inl (fun _ => 0))), (q_4, .inl (cs 0, 32, .inl (fun _ => 0))), (q_5, .inl (cs 0, 32, .inl (fun _ => 0))), (q_6, .inl (cs 0, 32, .inl (fun _ => 0))), (q_7, .inl (cs 0, 32, .inl (fun _ => 0))), (q_8, .inl (cs 2, 120, .inl (fun _ => 0))), (q_9, .inl (cs 0, 45, .inl (fun _ => 0))), (q_10, .inl (cs 0, 45, .inl (fun _ => 0))), (q_11, .inl (cs 0, 45, .inl (fun _ => 0)))] := hD
  refine lv_aload_n hx hb dX12_init_100 rfl (lv_at hl 0 rfl) ?_
  refine lv_bipush (v := (45 : Int32)) hx hb dX12_init_101 (by decide) ?_
  refine zk_newa (atype := .int) (ty := .int) (a0 := (45, .inl (fun _ => 0))) (N' := 45) hx hb (ht _ kw_184) rfl hK 0 rfl (by intro C h; cases h) hP hD hS hA (fun _ => rfl) (by decide) (by decide) (Nat.le_of_ble_eq_true rfl) (Nat.le_of_ble_eq_true rfl) (Nat.le_of_ble_eq_true rfl) dX12_init_103 (fun q_12 H hP hD hS => ?_)
  refine va_putF (D := D) (ci := 12) (v := .ref q_12) (ty := .array .int) (C := RX12) (T := TX12) (N := 60) hx hb ht iX12 tyX12 tyX12_ok nmX12 hown hK hP hD hS 0 rfl rfl 19 (by decide) (ht _ kw_1314) (fun _ h9 => h9) rfl hin rfl (by decide +kernel) rfl rfl (Nat.le_of_ble_eq_true rfl) dX12_init_105 (fun H locs hP hD hS => ?_)
  refine lv_aload_n hx hb dX12_init_108 rfl (lv_at hl 0 rfl) ?_
  refine lv_bipush (v := (45 : Int32)) hx hb dX12_init_109 (by decide) ?_
  refine zk_newa (atype := .int) (ty := .int) (a0 := (45, .inl (fun _ => 0))) (N' := 45) hx hb (ht _ kw_184) rfl hK 0 rfl (by intro C h; cases h) hP hD hS hA (fun _ => rfl) (by decide) (by decide) (Nat.le_of_ble_eq_true rfl) (Nat.le_of_ble_eq_true rfl) (Nat.le_of_ble_eq_true rfl) dX12_init_111 (fun q_13 H hP hD hS => ?_)
  refine va_putF (D := D) (ci := 12) (v := .ref q_13) (ty := .array .int) (C := RX12) (T := TX12) (N := 60) hx hb ht iX12 tyX12 tyX12_ok nmX12 hown hK hP hD hS 0 rfl rfl 20 (by decide) (ht _ kw_1315) (fun _ h9 => h9) rfl hin rfl (by decide +kernel) rfl rfl (Nat.le_of_ble_eq_true rfl) dX12_init_113 (fun H locs hP hD hS => ?_)
  refine lv_aload_n hx hb dX12_init_116 rfl (lv_at hl 0 rfl) ?_
  refine lv_bipush (v := (45 : Int32)) hx hb dX12_init_117 (by decide) ?_
  refine zk_newa (atype := .int) (ty := .int) (a0 := (45, .inl (fun _ => 0))) (N' := 45) hx hb (ht _ kw_184) rfl hK 0 rfl (by intro C h; cases h) hP hD hS hA (fun _ => rfl) (by decide) (by decide) (Nat.le_of_ble_eq_true rfl) (Nat.le_of_ble_eq_true rfl) (Nat.le_of_ble_eq_true rfl) dX12_init_119 (fun q_14 H hP hD hS => ?_)
  refine va_putF (D := D) (ci := 12) (v := .ref q_14) (ty := .array .int) (C := RX12) (T := TX12) (N := 60) hx hb ht iX12 tyX12 tyX12_ok nmX12 hown hK hP hD hS 0 rfl rfl 21 (by decide) (ht _ kw_1316) (fun _ h9 => h9) rfl hin rfl (by decide +kernel) rfl rfl (Nat.le_of_ble_eq_true rfl) dX12_init_121 (fun H locs hP hD hS => ?_)
  refine lv_aload_n hx hb dX12_init_124 rfl (lv_at hl 0 rfl) ?_
  refine lv_bipush (v := (45 : Int32)) hx hb dX12_init_125 (by decide) ?_
  refine zk_newa (atype := .int) (ty := .int) (a0 := (45, .inl (fun _ => 0))) (N' := 45) hx hb (ht _ kw_184) rfl hK 0 rfl (by intro C h; cases h) hP hD hS hA (fun _ => rfl) (by decide) (by decide) (Nat.le_of_ble_eq_true rfl) (Nat.le_of_ble_eq_true rfl) (Nat.le_of_ble_eq_true rfl) dX12_init_127 (fun q_15 H hP hD hS => ?_)
  refine va_putF (D := D) (ci := 12) (v := .ref q_15) (ty := .array .int) (C := RX12) (T := TX12) (N := 60) hx hb ht iX12 tyX12 tyX12_ok nmX12 hown hK hP hD hS 0 rfl rfl 22 (by decide) (ht _ kw_1317) (fun _ h9 => h9) rfl hin rfl (by decide +kernel) rfl rfl (Nat.le_of_ble_eq_true rfl) dX12_init_129 (fun H locs hP hD hS => ?_)
  have hP : va_P D classes [(h0, .inr (12, [.int 0, .int 0, .ref q_0, .ref q_1, .ref q_2, .ref q_3, .int 0, .ref q_4, .ref q_5, .ref q_6, .ref q_7, .ref q_8, .int 0, .int 0, .int 0, .int 0, .ref q_9, .ref q_10, .ref q_11, .ref q_12, .ref q_13, .ref q_14, .ref q_15, .null, .null, .null, .null, .int 0, .int 0, .null, .null, .null, .null, .int 0, .int 0, .null, .null, .null, .null, .null, .null, .null, .null, .null, .null, .int 0, .int 0, .null, .null, .int 0, .int 0, .null, .null, .int 0, .int 0, .null, .null, .null, .null, .null])), (q_0, .inl (cs 0, 40, .inl (fun _ => 0))), (q_1, .inl (cs 0, 40, .inl (fun _ => 0))), (q_2, .inl (cs 0, 40, .inl (fun _ => 0))), (q_3, .inl (cs 0, 40, .inl (fun _ => 0))), (q_4, .inl (cs 0, 32, .inl (fun _ => 0))), (q_5, .inl (cs 0, 32, .inl (fun _ => 0))), (q_6, .inl (cs 0, 32, .inl (fun _ => 0))), (q_7, .inl (cs 0, 32, .inl (fun _ => 0))), (q_8, .inl (cs 2, 120, .inl (fun _ => 0))), (q_9, .inl (cs 0, 45, .inl (fun _ => 0))), (q_10, .inl (cs 0, 45, .inl (fun _ => 0))), (q_11, .inl (cs 0, 45, .inl (fun _ => 0))), (q_12, .inl (cs 0, 45, .inl (fun _ => 0))), (q_13, .inl (cs 0, 45, .inl (fun _ => 0))), (q_14, .inl (cs 0, 45, .inl (fun _ => 0))), (q_15, .inl (cs 0, 45, .inl (fun _ => 0)))] H := hP
  have hD : va_D A [(h0, .inr (12, [.int 0, .int 0, .ref q_0, .ref q_1, .ref q_2, .ref q_3, .int 0, .ref q_4, .ref q_5, .ref q_6, .ref q_7, .ref q_8, .int 0, .int 0, .int 0, .int 0, .ref q_9, .ref q_10, .ref q_11, .ref q_12, .ref q_13, .ref q_14, .ref q_15, .null, .null, .null, .null, .int 0, .int 0, .null, .null, .null, .null, .int 0, .int 0, .null, .null, .null, .null, .null, .null, .null, .null, .null, .null, .int 0, .int 0, .null, .null, .int 0, .int 0, .null, .null, .int 0, .int 0, .null, .null, .null, .null, .null])), (q_0, .inl (cs 0, 40, .inl (fun _ => 0))), (q_1, .inl (cs 0, 40, .inl (fun _ => 0))), (q_2, .inl (cs 0, 40, .inl (fun _ => 0))), (q_3, .inl (cs 0, 40, .inl (fun _ => 0))), (q_4, .inl (cs 0, 32, .inl (fun _ => 0))), (q_5, .inl (cs 0, 32, .inl (fun _ => 0))), (q_6, .inl (cs 0, 32, .inl (fun _ => 0))), (q_7, .inl (cs 0, 32, .inl (fun _ => 0))), (q_8, .inl (cs 2, 120, .inl (fun _ => 0))), (q_9, .inl (cs 0, 45, .inl (fun _ => 0))), (q_10, .inl (cs 0, 45, .inl (fun _ => 0))), (q_11, .inl (cs 0, 45, .inl (fun _ => 0))), (q_12, .inl (cs 0, 45, .inl (fun _ => 0))), (q_13, .inl (cs 0, 45, .inl (fun _ => 0))), (q_14, .inl (cs 0, 45, .inl (fun _ => 0))), (q_15, .inl (cs 0, 45, .inl (fun _ => 0)))] := hD
  refine lv_aload_n hx hb dX12_init_132 rfl (lv_at hl 0 rfl) ?_
  refine lv_bipush (v := (45 : Int32)) hx hb dX12_init_133 (by decide) ?_
  refine zk_newa (atype := .int) (ty := .int) (a0 := (45, .inl (fun _ => 0))) (N' := 45) hx hb (ht _ kw_184) rfl hK 0 rfl (by intro C h; cases h) hP hD hS hA (fun _ => rfl) (by decide) (by decide) (Nat.le_of_ble_eq_true rfl) (Nat.le_of_ble_eq_true rfl) (Nat.le_of_ble_eq_true rfl) dX12_init_135 (fun q_16 H hP hD hS => ?_)
  refine va_putF (D := D) (ci := 12) (v := .ref q_16) (ty := .array .int) (C := RX12) (T := TX12) (N := 60) hx hb ht iX12 tyX12 tyX12_ok nmX12 hown hK hP hD hS 0 rfl rfl 23 (by decide) (ht _ kw_1318) (fun _ h9 => h9) rfl hin rfl (by decide +kernel) rfl rfl (Nat.le_of_ble_eq_true rfl) dX12_init_137 (fun H locs hP hD hS => ?_)
  refine lv_aload_n hx hb dX12_init_140 rfl (lv_at hl 0 rfl) ?_
  refine lv_bipush (v := (45 : Int32)) hx hb dX12_init_141 (by decide) ?_
  refine zk_newa (atype := .int) (ty := .int) (a0 := (45, .inl (fun _ => 0))) (N' := 45) hx hb (ht _ kw_184) rfl hK 0 rfl (by intro C h; cases h) hP hD hS hA (fun _ => rfl) (by decide) (by decide) (Nat.le_of_ble_eq_true rfl) (Nat.le_of_ble_eq_true rfl) (Nat.le_of_ble_eq_true rfl) dX12_init_143 (fun q_17 H hP hD hS => ?_)
  refine va_putF (D := D) (ci := 12) (v := .ref q_17) (ty := .array .int) (C := RX12) (T := TX12) (N := 60) hx hb ht iX12 tyX12 tyX12_ok nmX12 hown hK hP hD hS 0 rfl rfl 24 (by decide) (ht _ kw_1319) (fun _ h9 => h9) rfl hin rfl (by decide +kernel) rfl rfl (Nat.le_of_ble_eq_true rfl) dX12_init_145 (fun H locs hP hD hS => ?_)
  refine lv_aload_n hx hb dX12_init_148 rfl (lv_at hl 0 rfl) ?_
  refine lv_sipush (v := (1440 : Int32)) hx hb dX12_init_149 (by decide) ?_
  refine zk_newa (atype := .byte) (ty := .byte) (a0 := (1440, .inl (fun _ => 0))) (N' := 1440) hx hb (ht _ kw_674) rfl hK 2 rfl (by intro C h; cases h) hP hD hS hA (fun _ => rfl) (by decide) (by decide) (Nat.le_of_ble_eq_true rfl) (Nat.le_of_ble_eq_true rfl) (Nat.le_of_ble_eq_true rfl) dX12_init_152 (fun q_18 H hP hD hS => ?_)
  refine va_putF (D := D) (ci := 12) (v := .ref q_18) (ty := .array .byte) (C := RX12) (T := TX12) (N := 60) hx hb ht iX12 tyX12 tyX12_ok nmX12 hown hK hP hD hS 0 rfl rfl 25 (by decide) (ht _ kw_1320) (fun _ h9 => h9) rfl hin rfl (by decide +kernel) rfl rfl (Nat.le_of_ble_eq_true rfl) dX12_init_154 (fun H locs hP hD hS => ?_)
  refine lv_aload_n hx hb dX12_init_157 rfl (lv_at hl 0 rfl) ?_
  refine lv_sipush (v := (1440 : Int32)) hx hb dX12_init_158 (by decide) ?_
  refine zk_newa (atype := .byte) (ty := .byte) (a0 := (1440, .inl (fun _ => 0))) (N' := 1440) hx hb (ht _ kw_674) rfl hK 2 rfl (by intro C h; cases h) hP hD hS hA (fun _ => rfl) (by decide) (by decide) (Nat.le_of_ble_eq_true rfl) (Nat.le_of_ble_eq_true rfl) (Nat.le_of_ble_eq_true rfl) dX12_init_161 (fun q_19 H hP hD hS => ?_)
  refine va_putF (D := D) (ci := 12) (v := .ref q_19) (ty := .array .byte) (C := RX12) (T := TX12) (N := 60) hx hb ht iX12 tyX12 tyX12_ok nmX12 hown hK hP hD hS 0 rfl rfl 26 (by decide) (ht _ kw_1321) (fun _ h9 => h9) rfl hin rfl (by decide +kernel) rfl rfl (Nat.le_of_ble_eq_true rfl) dX12_init_163 (fun H locs hP hD hS => ?_)
  have hP : va_P D classes [(h0, .inr (12, [.int 0, .int 0, .ref q_0, .ref q_1, .ref q_2, .ref q_3, .int 0, .ref q_4, .ref q_5, .ref q_6, .ref q_7, .ref q_8, .int 0, .int 0, .int 0, .int 0, .ref q_9, .ref q_10, .ref q_11, .ref q_12, .ref q_13, .ref q_14, .ref q_15, .ref q_16, .ref q_17, .ref q_18, .ref q_19, .int 0, .int 0, .null, .null, .null, .null, .int 0, .int 0, .null, .null, .null, .null, .null, .null, .null, .null, .null, .null, .int 0, .int 0, .null, .null, .int 0, .int 0, .null, .null, .int 0, .int 0, .null, .null, .null, .null, .null])), (q_0, .inl (cs 0, 40, .inl (fun _ => 0))), (q_1, .inl (cs 0, 40, .inl (fun _ => 0))), (q_2, .inl (cs 0, 40, .inl (fun _ => 0))), (q_3, .inl (cs 0, 40, .inl (fun _ => 0))), (q_4, .inl (cs 0, 32, .inl (fun _ => 0))), (q_5, .inl (cs 0, 32, .inl (fun _ => 0))), (q_6, .inl (cs 0, 32, .inl (fun _ => 0))), (q_7, .inl (cs 0, 32, .inl (fun _ => 0))), (q_8, .inl (cs 2, 120, .inl (fun _ => 0))), (q_9, .inl (cs 0, 45, .inl (fun _ => 0))), (q_10, .inl (cs 0, 45, .inl (fun _ => 0))), (q_11, .inl (cs 0, 45, .inl (fun _ => 0))), (q_12, .inl (cs 0, 45, .inl (fun _ => 0))), (q_13, .inl (cs 0, 45, .inl (fun _ => 0))), (q_14, .inl (cs 0, 45, .inl (fun _ => 0))), (q_15, .inl (cs 0, 45, .inl (fun _ => 0))), (q_16, .inl (cs 0, 45, .inl (fun _ => 0))), (q_17, .inl (cs 0, 45, .inl (fun _ => 0))), (q_18, .inl (cs 2, 1440, .inl (fun _ => 0))), (q_19, .inl (cs 2, 1440, .inl (fun _ => 0)))] H := hP
  have hD : va_D A [(h0, .inr (12, [.int 0, .int 0, .ref q_0, .ref q_1, .ref q_2, .ref q_3, .int 0, .ref q_4, .ref q_5, .ref q_6, .ref q_7, .ref q_8, .int 0, .int 0, .int 0, .int 0, .ref q_9, .ref q_10, .ref q_11, .ref q_12, .ref q_13, .ref q_14, .ref q_15, .ref q_16, .ref q_17, .ref q_18, .ref q_19, .int 0, .int 0, .null, .null, .null, .null, .int 0, .int 0, .null, .null, .null, .null, .null, .null, .null, .null, .null, .null, .int 0, .int 0, .null, .null, .int 0, .int 0, .null, .null, .int 0, .int 0, .null, .null, .null, .null, .null])), (q_0, .inl (cs 0, 40, .inl (fun _ => 0))), (q_1, .inl (cs 0, 40, .inl (fun _ => 0))), (q_2, .inl (cs 0, 40, .inl (fun _ => 0))), (q_3, .inl (cs 0, 40, .inl (fun _ => 0))), (q_4, .inl (cs 0, 32, .inl (fun _ => 0))), (q_5, .inl (cs 0, 32, .inl (fun _ => 0))), (q_6, .inl (cs 0, 32, .inl (fun _ => 0))), (q_7, .inl (cs 0, 32, .inl (fun _ => 0))), (q_8, .inl (cs 2, 120, .inl (fun _ => 0))), (q_9, .inl (cs 0, 45, .inl (fun _ => 0))), (q_10, .inl (cs 0, 45, .inl (fun _ => 0))), (q_11, .inl (cs 0, 45, .inl (fun _ => 0))), (q_12, .inl (cs 0, 45, .inl (fun _ => 0))), (q_13, .inl (cs 0, 45, .inl (fun _ => 0))), (q_14, .inl (cs 0, 45, .inl (fun _ => 0))), (q_15, .inl (cs 0, 45, .inl (fun _ => 0))), (q_16, .inl (cs 0, 45, .inl (fun _ => 0))), (q_17, .inl (cs 0, 45, .inl (fun _ => 0))), (q_18, .inl (cs 2, 1440, .inl (fun _ => 0))), (q_19, .inl (cs 2, 1440, .inl (fun _ => 0)))] := hD
  refine lv_aload_n hx hb dX12_init_166 rfl (lv_at hl 0 rfl) ?_
  refine lv_bipush (v := (40 : Int32)) hx hb dX12_init_167 (by decide) ?_
  refine zk_newa (atype := .int) (ty := .int) (a0 := (40, .inl (fun _ => 0))) (N' := 40) hx hb (ht _ kw_184) rfl hK 0 rfl (by intro C h; cases h) hP hD hS hA (fun _ => rfl) (by decide) (by decide) (Nat.le_of_ble_eq_true rfl) (Nat.le_of_ble_eq_true rfl) (Nat.le_of_ble_eq_true rfl) dX12_init_169 (fun q_20 H hP hD hS => ?_)
  refine va_putF (D := D) (ci := 12) (v := .ref q_20) (ty := .array .int) (C := RX12) (T := TX12) (N := 60) hx hb ht iX12 tyX12 tyX12_ok nmX12 hown hK hP hD hS 0 rfl rfl 29 (by decide) (ht _ kw_1324) (fun _ h9 => h9) rfl hin rfl (by decide +kernel) rfl rfl (Nat.le_of_ble_eq_true rfl) dX12_init_171 (fun H locs hP hD hS => ?_)
  refine lv_aload_n hx hb dX12_init_174 rfl (lv_at hl 0 rfl) ?_
  refine lv_bipush (v := (40 : Int32)) hx hb dX12_init_175 (by decide) ?_
  refine zk_newa (atype := .int) (ty := .int) (a0 := (40, .inl (fun _ => 0))) (N' := 40) hx hb (ht _ kw_184) rfl hK 0 rfl (by intro C h; cases h) hP hD hS hA (fun _ => rfl) (by decide) (by decide) (Nat.le_of_ble_eq_true rfl) (Nat.le_of_ble_eq_true rfl) (Nat.le_of_ble_eq_true rfl) dX12_init_177 (fun q_21 H hP hD hS => ?_)
  refine va_putF (D := D) (ci := 12) (v := .ref q_21) (ty := .array .int) (C := RX12) (T := TX12) (N := 60) hx hb ht iX12 tyX12 tyX12_ok nmX12 hown hK hP hD hS 0 rfl rfl 30 (by decide) (ht _ kw_1325) (fun _ h9 => h9) rfl hin rfl (by decide +kernel) rfl rfl (Nat.le_of_ble_eq_true rfl) dX12_init_179 (fun H locs hP hD hS => ?_)
  refine lv_aload_n hx hb dX12_init_182 rfl (lv_at hl 0 rfl) ?_
  refine lv_bipush (v := (40 : Int32)) hx hb dX12_init_183 (by decide) ?_
  refine zk_newa (atype := .int) (ty := .int) (a0 := (40, .inl (fun _ => 0))) (N' := 40) hx hb (ht _ kw_184) rfl hK 0 rfl (by intro C h; cases h) hP hD hS hA (fun _ => rfl) (by decide) (by decide) (Nat.le_of_ble_eq_true rfl) (Nat.le_of_ble_eq_true rfl) (Nat.le_of_ble_eq_true rfl) dX12_init_185 (fun q_22 H hP hD hS => ?_)
  refine va_putF (D := D) (ci := 12) (v := .ref q_22) (ty := .array .int) (C := RX12) (T := TX12) (N := 60) hx hb ht iX12 tyX12 tyX12_ok nmX12 hown hK hP hD hS 0 rfl rfl 31 (by decide) (ht _ kw_1326) (fun _ h9 => h9) rfl hin rfl (by decide +kernel) rfl rfl (Nat.le_of_ble_eq_true rfl) dX12_init_187 (fun H locs hP hD hS => ?_)
  refine lv_aload_n hx hb dX12_init_190 rfl (lv_at hl 0 rfl) ?_
  refine lv_bipush (v := (40 : Int32)) hx hb dX12_init_191 (by decide) ?_
  refine zk_newa (atype := .int) (ty := .int) (a0 := (40, .inl (fun _ => 0))) (N' := 40) hx hb (ht _ kw_184) rfl hK 0 rfl (by intro C h; cases h) hP hD hS hA (fun _ => rfl) (by decide) (by decide) (Nat.le_of_ble_eq_true rfl) (Nat.le_of_ble_eq_true rfl) (Nat.le_of_ble_eq_true rfl) dX12_init_193 (fun q_23 H hP hD hS => ?_)
  refine va_putF (D := D) (ci := 12) (v := .ref q_23) (ty := .array .int) (C := RX12) (T := TX12) (N := 60) hx hb ht iX12 tyX12 tyX12_ok nmX12 hown hK hP hD hS 0 rfl rfl 32 (by decide) (ht _ kw_1327) (fun _ h9 => h9) rfl hin rfl (by decide +kernel) rfl rfl (Nat.le_of_ble_eq_true rfl) dX12_init_195 (fun H locs hP hD hS => ?_)
  have hP : va_P D classes [(h0, .inr (12, [.int 0, .int 0, .ref q_0, .ref q_1, .ref q_2, .ref q_3, .int 0, .ref q_4, .ref q_5, .ref q_6, .ref q_7, .ref q_8, .int 0, .int 0, .int 0, .int 0, .ref q_9, .ref q_10, .ref q_11, .ref q_12, .ref q_13, .ref q_14, .ref q_15, .ref q_16, .ref q_17, .ref q_18, .ref q_19, .int 0, .int 0, .ref q_20, .ref q_21, .ref q_22, .ref q_23, .int 0, .int 0, .null, .null, .null, .null, .null, .null, .null, .null, .null, .null, .int 0, .int 0, .null, .null, .int 0, .int 0, .null, .null, .int 0, .int 0, .null, .null, .null, .null, .null])), (q_0, .inl (cs 0, 40, .inl (fun _ => 0))), (q_1, .inl (cs 0, 40, .inl (fun _ => 0))), (q_2, .inl (cs 0, 40, .inl (fun _ => 0))), (q_3, .inl (cs 0, 40, .inl (fun _ => 0))), (q_4, .inl (cs 0, 32, .inl (fun _ => 0))), (q_5, .inl (cs 0, 32, .inl (fun _ => 0))), (q_6, .inl (cs 0, 32, .inl (fun _ => 0))), (q_7, .inl (cs 0, 32, .inl (fun _ => 0))), (q_8, .inl (cs 2, 120, .inl (fun _ => 0))), (q_9, .inl (cs 0, 45, .inl (fun _ => 0))), (q_10, .inl (cs 0, 45, .inl (fun _ => 0))), (q_11, .inl (cs 0, 45, .inl (fun _ => 0))), (q_12, .inl (cs 0, 45, .inl (fun _ => 0))), (q_13, .inl (cs 0, 45, .inl (fun _ => 0))), (q_14, .inl (cs 0, 45, .inl (fun _ => 0))), (q_15, .inl (cs 0, 45, .inl (fun _ => 0))), (q_16, .inl (cs 0, 45, .inl (fun _ => 0))), (q_17, .inl (cs 0, 45, .inl (fun _ => 0))), (q_18, .inl (cs 2, 1440, .inl (fun _ => 0))), (q_19, .inl (cs 2, 1440, .inl (fun _ => 0))), (q_20, .inl (cs 0, 40, .inl (fun _ => 0))), (q_21, .inl (cs 0, 40, .inl (fun _ => 0))), (q_22, .inl (cs 0, 40, .inl (fun _ => 0))), (q_23, .inl (cs 0, 40, .inl (fun _ => 0)))] H := hP
  have hD : va_D A [(h0, .inr (12, [.int 0, .int 0, .ref q_0, .ref q_1, .ref q_2, .ref q_3, .int 0, .ref q_4, .ref q_5, .ref q_6, .ref q_7, .ref q_8, .int 0, .int 0, .int 0, .int 0, .ref q_9, .ref q_10, .ref q_11, .ref q_12, .ref q_13, .ref q_14, .ref q_15, .ref q_16, .ref q_17, .ref q_18, .ref q_19, .int 0, .int 0, .ref q_20, .ref q_21, .ref q_22, .ref q_23, .int 0, .int 0, .null, .null, .null, .null, .null, .null, .null, .null, .null, .null, .int 0, .int 0, .null, .null, .int 0, .int 0, .null, .null, .int 0, .int 0, .null, .null, .null, .null, .null])), (q_0, .inl (cs 0, 40, .inl (fun _ => 0))), (q_1, .inl (cs 0, 40, .inl (fun _ => 0))), (q_2, .inl (cs 0, 40, .inl (fun _ => 0))), (q_3, .inl (cs 0, 40, .inl (fun _ => 0))), (q_4, .inl (cs 0, 32, .inl (fun _ => 0))), (q_5, .inl (cs 0, 32, .inl (fun _ => 0))), (q_6, .inl (cs 0, 32, .inl (fun _ => 0))), (q_7, .inl (cs 0, 32, .inl (fun _ => 0))), (q_8, .inl (cs 2, 120, .inl (fun _ => 0))), (q_9, .inl (cs 0, 45, .inl (fun _ => 0))), (q_10, .inl (cs 0, 45, .inl (fun _ => 0))), (q_11, .inl (cs 0, 45, .inl (fun _ => 0))), (q_12, .inl (cs 0, 45, .inl (fun _ => 0))), (q_13, .inl (cs 0, 45, .inl (fun _ => 0))), (q_14, .inl (cs 0, 45, .inl (fun _ => 0))), (q_15, .inl (cs 0, 45, .inl (fun _ => 0))), (q_16, .inl (cs 0, 45, .inl (fun _ => 0))), (q_17, .inl (cs 0, 45, .inl (fun _ => 0))), (q_18, .inl (cs 2, 1440, .inl (fun _ => 0))), (q_19, .inl (cs 2, 1440, .inl (fun _ => 0))), (q_20, .inl (cs 0, 40, .inl (fun _ => 0))), (q_21, .inl (cs 0, 40, .inl (fun _ => 0))), (q_22, .inl (cs 0, 40, .inl (fun _ => 0))), (q_23, .inl (cs 0, 40, .inl (fun _ => 0)))] := hD
  refine lv_aload_n hx hb dX12_init_198 rfl (lv_at hl 0 rfl) ?_
  refine lv_sipush (v := (4290 : Int32)) hx hb dX12_init_199 (by decide) ?_
  refine zk_newa (atype := .byte) (ty := .byte) (a0 := (4290, .inl (fun _ => 0))) (N' := 4290) hx hb (ht _ kw_674) rfl hK 2 rfl (by intro C h; cases h) hP hD hS hA (fun _ => rfl) (by decide) (by decide) (Nat.le_of_ble_eq_true rfl) (Nat.le_of_ble_eq_true rfl) (Nat.le_of_ble_eq_true rfl) dX12_init_202 (fun q_24 H hP hD hS => ?_)
  refine va_putF (D := D) (ci := 12) (v := .ref q_24) (ty := .array .byte) (C := RX12) (T := TX12) (N := 60) hx hb ht iX12 tyX12 tyX12_ok nmX12 hown hK hP hD hS 0 rfl rfl 35 (by decide) (ht _ kw_1330) (fun _ h9 => h9) rfl hin rfl (by decide +kernel) rfl rfl (Nat.le_of_ble_eq_true rfl) dX12_init_204 (fun H locs hP hD hS => ?_)
  refine lv_aload_n hx hb dX12_init_207 rfl (lv_at hl 0 rfl) ?_
  refine lv_sipush (v := (4290 : Int32)) hx hb dX12_init_208 (by decide) ?_
  refine zk_newa (atype := .int) (ty := .int) (a0 := (4290, .inl (fun _ => 0))) (N' := 4290) hx hb (ht _ kw_184) rfl hK 0 rfl (by intro C h; cases h) hP hD hS hA (fun _ => rfl) (by decide) (by decide) (Nat.le_of_ble_eq_true rfl) (Nat.le_of_ble_eq_true rfl) (Nat.le_of_ble_eq_true rfl) dX12_init_211 (fun q_25 H hP hD hS => ?_)
  refine va_putF (D := D) (ci := 12) (v := .ref q_25) (ty := .array .int) (C := RX12) (T := TX12) (N := 60) hx hb ht iX12 tyX12 tyX12_ok nmX12 hown hK hP hD hS 0 rfl rfl 36 (by decide) (ht _ kw_1331) (fun _ h9 => h9) rfl hin rfl (by decide +kernel) rfl rfl (Nat.le_of_ble_eq_true rfl) dX12_init_213 (fun H locs hP hD hS => ?_)
  refine lv_aload_n hx hb dX12_init_216 rfl (lv_at hl 0 rfl) ?_
  refine lv_bipush (v := (33 : Int32)) hx hb dX12_init_217 (by decide) ?_
  refine zk_newa (atype := .int) (ty := .int) (a0 := (33, .inl (fun _ => 0))) (N' := 33) hx hb (ht _ kw_184) rfl hK 0 rfl (by intro C h; cases h) hP hD hS hA (fun _ => rfl) (by decide) (by decide) (Nat.le_of_ble_eq_true rfl) (Nat.le_of_ble_eq_true rfl) (Nat.le_of_ble_eq_true rfl) dX12_init_219 (fun q_26 H hP hD hS => ?_)
  refine va_putF (D := D) (ci := 12) (v := .ref q_26) (ty := .array .int) (C := RX12) (T := TX12) (N := 60) hx hb ht iX12 tyX12 tyX12_ok nmX12 hown hK hP hD hS 0 rfl rfl 37 (by decide) (ht _ kw_1332) (fun _ h9 => h9) rfl hin rfl (by decide +kernel) rfl rfl (Nat.le_of_ble_eq_true rfl) dX12_init_221 (fun H locs hP hD hS => ?_)
  refine lv_aload_n hx hb dX12_init_224 rfl (lv_at hl 0 rfl) ?_
  refine lv_sipush (v := (2013 : Int32)) hx hb dX12_init_225 (by decide) ?_
  refine zk_newa (atype := .short) (ty := .short) (a0 := (2013, .inl (fun _ => 0))) (N' := 2013) hx hb (ht _ kw_1476) rfl hK 3 rfl (by intro C h; cases h) hP hD hS hA (fun _ => rfl) (by decide) (by decide) (Nat.le_of_ble_eq_true rfl) (Nat.le_of_ble_eq_true rfl) (Nat.le_of_ble_eq_true rfl) dX12_init_228 (fun q_27 H hP hD hS => ?_)
  refine va_putF (D := D) (ci := 12) (v := .ref q_27) (ty := .array .short) (C := RX12) (T := TX12) (N := 60) hx hb ht iX12 tyX12 tyX12_ok nmX12 hown hK hP hD hS 0 rfl rfl 38 (by decide) (ht _ kw_1333) (fun _ h9 => h9) rfl hin rfl (by decide +kernel) rfl rfl (Nat.le_of_ble_eq_true rfl) dX12_init_230 (fun H locs hP hD hS => ?_)
  have hP : va_P D classes [(h0, .inr (12, [.int 0, .int 0, .ref q_0, .ref q_1, .ref q_2, .ref q_3, .int 0, .ref q_4, .ref q_5, .ref q_6, .ref q_7, .ref q_8, .int 0, .int 0, .int 0, .int 0, .ref q_9, .ref q_10, .ref q_11, .ref q_12, .ref q_13, .ref q_14, .ref q_15, .ref q_16, .ref q_17, .ref q_18, .ref q_19, .int 0, .int 0, .ref q_20, .ref q_21, .ref q_22, .ref q_23, .int 0, .int 0, .ref q_24, .ref q_25, .ref q_26, .ref q_27, .null, .null, .null, .null, .null, .null, .int 0, .int 0, .null, .null, .int 0, .int 0, .null, .null, .int 0, .int 0, .null, .null, .null, .null, .null])), (q_0, .inl (cs 0, 40, .inl (fun _ => 0))), (q_1, .inl (cs 0, 40, .inl (fun _ => 0))), (q_2, .inl (cs 0, 40, .inl (fun _ => 0))), (q_3, .inl (cs 0, 40, .inl (fun _ => 0))), (q_4, .inl (cs 0, 32, .inl (fun _ => 0))), (q_5, .inl (cs 0, 32, .inl (fun _ => 0))), (q_6, .inl (cs 0, 32, .inl (fun _ => 0))), (q_7, .inl (cs 0, 32, .inl (fun _ => 0))), (q_8, .inl (cs 2, 120, .inl (fun _ => 0))), (q_9, .inl (cs 0, 45, .inl (fun _ => 0))), (q_10, .inl (cs 0, 45, .inl (fun _ => 0))), (q_11, .inl (cs 0, 45, .inl (fun _ => 0))), (q_12, .inl (cs 0, 45, .inl (fun _ => 0))), (q_13, .inl (cs 0, 45, .inl (fun _ => 0))), (q_14, .inl (cs 0, 45, .inl (fun _ => 0))), (q_15, .inl (cs 0, 45, .inl (fun _ => 0))), (q_16, .inl (cs 0, 45, .inl (fun _ => 0))), (q_17, .inl (cs 0, 45, .inl (fun _ => 0))), (q_18, .inl (cs 2, 1440, .inl (fun _ => 0))), (q_19, .inl (cs 2, 1440, .inl (fun _ => 0))), (q_20, .inl (cs 0, 40, .inl (fun _ => 0))), (q_21, .inl (cs 0, 40, .inl (fun _ => 0))), (q_22, .inl (cs 0, 40, .inl (fun _ => 0))), (q_23, .inl (cs 0, 40, .inl (fun _ => 0))), (q_24, .inl (cs 2, 4290, .inl (fun _ => 0))), (q_25, .inl (cs 0, 4290, .inl (fun _ => 0))), (q_26, .inl (cs 0, 33, .inl (fun _ => 0))), (q_27, .inl (cs 3, 2013, .inl (fun _ => 0)))] H := hP
  have hD : va_D A [(h0, .inr (12, [.int 0, .int 0, .ref q_0, .ref q_1, .ref q_2, .ref q_3, .int 0, .ref q_4, .ref q_5, .ref q_6, .ref q_7, .ref q_8, .int 0, .int 0, .int 0, .int 0, .ref q_9, .ref q_10, .ref q_11, .ref q_12, .ref q_13, .ref q_14, .ref q_15, .ref q_16, .ref q_17, .ref q_18, .ref q_19, .int 0, .int 0, .ref q_20, .ref q_21, .ref q_22, .ref q_23, .int 0, .int 0, .ref q_24, .ref q_25, .ref q_26, .ref q_27, .null, .null, .null, .null, .null, .null, .int 0, .int 0, .null, .null, .int 0, .int 0, .null, .null, .int 0, .int 0, .null, .null, .null, .null, .null])), (q_0, .inl (cs 0, 40, .inl (fun _ => 0))), (q_1, .inl (cs 0, 40, .inl (fun _ => 0))), (q_2, .inl (cs 0, 40, .inl (fun _ => 0))), (q_3, .inl (cs 0, 40, .inl (fun _ => 0))), (q_4, .inl (cs 0, 32, .inl (fun _ => 0))), (q_5, .inl (cs 0, 32, .inl (fun _ => 0))), (q_6, .inl (cs 0, 32, .inl (fun _ => 0))), (q_7, .inl (cs 0, 32, .inl (fun _ => 0))), (q_8, .inl (cs 2, 120, .inl (fun _ => 0))), (q_9, .inl (cs 0, 45, .inl (fun _ => 0))), (q_10, .inl (cs 0, 45, .inl (fun _ => 0))), (q_11, .inl (cs 0, 45, .inl (fun _ => 0))), (q_12, .inl (cs 0, 45, .inl (fun _ => 0))), (q_13, .inl (cs 0, 45, .inl (fun _ => 0))), (q_14, .inl (cs 0, 45, .inl (fun _ => 0))), (q_15, .inl (cs 0, 45, .inl (fun _ => 0))), (q_16, .inl (cs 0, 45, .inl (fun _ => 0))), (q_17, .inl (cs 0, 45, .inl (fun _ => 0))), (q_18, .inl (cs 2, 1440, .inl (fun _ => 0))), (q_19, .inl (cs 2, 1440, .inl (fun _ => 0))), (q_20, .inl (cs 0, 40, .inl (fun _ => 0))), (q_21, .inl (cs 0, 40, .inl (fun _ => 0))), (q_22, .inl (cs 0, 40, .inl (fun _ => 0))), (q_23, .inl (cs 0, 40, .inl (fun _ => 0))), (q_24, .inl (cs 2, 4290, .inl (fun _ => 0))), (q_25, .inl (cs 0, 4290, .inl (fun _ => 0))), (q_26, .inl (cs 0, 33, .inl (fun _ => 0))), (q_27, .inl (cs 3, 2013, .inl (fun _ => 0)))] := hD
  refine lv_aload_n hx hb dX12_init_233 rfl (lv_at hl 0 rfl) ?_
  refine lv_sipush (v := (2013 : Int32)) hx hb dX12_init_234 (by decide) ?_
  refine zk_newa (atype := .short) (ty := .short) (a0 := (2013, .inl (fun _ => 0))) (N' := 2013) hx hb (ht _ kw_1476) rfl hK 3 rfl (by intro C h; cases h) hP hD hS hA (fun _ => rfl) (by decide) (by decide) (Nat.le_of_ble_eq_true rfl) (Nat.le_of_ble_eq_true rfl) (Nat.le_of_ble_eq_true rfl) dX12_init_237 (fun q_28 H hP hD hS => ?_)
  refine va_putF (D := D) (ci := 12) (v := .ref q_28) (ty := .array .short) (C := RX12) (T := TX12) (N := 60) hx hb ht iX12 tyX12 tyX12_ok nmX12 hown hK hP hD hS 0 rfl rfl 39 (by decide) (ht _ kw_1334) (fun _ h9 => h9) rfl hin rfl (by decide +kernel) rfl rfl (Nat.le_of_ble_eq_true rfl) dX12_init_239 (fun H locs hP hD hS => ?_)
  refine lv_aload_n hx hb dX12_init_242 rfl (lv_at hl 0 rfl) ?_
  refine lv_bipush (v := (11 : Int32)) hx hb dX12_init_243 (by decide) ?_
  refine zk_newa (atype := .int) (ty := .int) (a0 := (11, .inl (fun _ => 0))) (N' := 11) hx hb (ht _ kw_184) rfl hK 0 rfl (by intro C h; cases h) hP hD hS hA (fun _ => rfl) (by decide) (by decide) (Nat.le_of_ble_eq_true rfl) (Nat.le_of_ble_eq_true rfl) (Nat.le_of_ble_eq_true rfl) dX12_init_245 (fun q_29 H hP hD hS => ?_)
  refine va_putF (D := D) (ci := 12) (v := .ref q_29) (ty := .array .int) (C := RX12) (T := TX12) (N := 60) hx hb ht iX12 tyX12 tyX12_ok nmX12 hown hK hP hD hS 0 rfl rfl 40 (by decide) (ht _ kw_1335) (fun _ h9 => h9) rfl hin rfl (by decide +kernel) rfl rfl (Nat.le_of_ble_eq_true rfl) dX12_init_247 (fun H locs hP hD hS => ?_)
  refine lv_aload_n hx hb dX12_init_250 rfl (lv_at hl 0 rfl) ?_
  refine lv_sipush (v := (130 : Int32)) hx hb dX12_init_251 (by decide) ?_
  refine zk_newa (atype := .int) (ty := .int) (a0 := (130, .inl (fun _ => 0))) (N' := 130) hx hb (ht _ kw_184) rfl hK 0 rfl (by intro C h; cases h) hP hD hS hA (fun _ => rfl) (by decide) (by decide) (Nat.le_of_ble_eq_true rfl) (Nat.le_of_ble_eq_true rfl) (Nat.le_of_ble_eq_true rfl) dX12_init_254 (fun q_30 H hP hD hS => ?_)
  refine va_putF (D := D) (ci := 12) (v := .ref q_30) (ty := .array .int) (C := RX12) (T := TX12) (N := 60) hx hb ht iX12 tyX12 tyX12_ok nmX12 hown hK hP hD hS 0 rfl rfl 41 (by decide) (ht _ kw_1336) (fun _ h9 => h9) rfl hin rfl (by decide +kernel) rfl rfl (Nat.le_of_ble_eq_true rfl) dX12_init_256 (fun H locs hP hD hS => ?_)
  refine lv_aload_n hx hb dX12_init_259 rfl (lv_at hl 0 rfl) ?_
  refine lv_sipush (v := (240 : Int32)) hx hb dX12_init_260 (by decide) ?_
  refine zk_newa (atype := .boolean) (ty := .boolean) (a0 := (240, .inl (fun _ => 0))) (N' := 240) hx hb (ht _ kw_1477) rfl hK 4 rfl (by intro C h; cases h) hP hD hS hA (fun _ => rfl) (by decide) (by decide) (Nat.le_of_ble_eq_true rfl) (Nat.le_of_ble_eq_true rfl) (Nat.le_of_ble_eq_true rfl) dX12_init_263 (fun q_31 H hP hD hS => ?_)
  refine va_putF (D := D) (ci := 12) (v := .ref q_31) (ty := .array .boolean) (C := RX12) (T := TX12) (N := 60) hx hb ht iX12 tyX12 tyX12_ok nmX12 hown hK hP hD hS 0 rfl rfl 42 (by decide) (ht _ kw_1337) (fun _ h9 => h9) rfl hin rfl (by decide +kernel) rfl rfl (Nat.le_of_ble_eq_true rfl) dX12_init_265 (fun H locs hP hD hS => ?_)
  have hP : va_P D classes [(h0, .inr (12, [.int 0, .int 0, .ref q_0, .ref q_1, .ref q_2, .ref q_3, .int 0, .ref q_4, .ref q_5, .ref q_6, .ref q_7, .ref q_8, .int 0, .int 0, .int 0, .int 0, .ref q_9, .ref q_10, .ref q_11, .ref q_12, .ref q_13, .ref q_14, .ref q_15, .ref q_16, .ref q_17, .ref q_18, .ref q_19, .int 0, .int 0, .ref q_20, .ref q_21, .ref q_22, .ref q_23, .int 0, .int 0, .ref q_24, .ref q_25, .ref q_26, .ref q_27, .ref q_28, .ref q_29, .ref q_30, .ref q_31, .null, .null, .int 0, .int 0, .null, .null, .int 0, .int 0, .null, .null, .int 0, .int 0, .null, .null, .null, .null, .null])), (q_0, .inl (cs 0, 40, .inl (fun _ => 0))), (q_1, .inl (cs 0, 40, .inl (fun _ => 0))), (q_2, .inl (cs 0, 40, .inl (fun _ => 0))), (q_3, .inl (cs 0, 40, .inl (fun _ => 0))), (q_4, .inl (cs 0, 32, .inl (fun _ => 0))), (q_5, .inl (cs 0, 32, .inl (fun _ => 0))), (q_6, .inl (cs 0, 32, .inl (fun _ => 0))), (q_7, .inl (cs 0, 32, .inl (fun _ => 0))), (q_8, .inl (cs 2, 120, .inl (fun _ => 0))), (q_9, .inl (cs 0, 45, .inl (fun _ => 0))), (q_10, .inl (cs 0, 45, .inl (fun _ => 0))), (q_11, .inl (cs 0, 45, .inl (fun _ => 0))), (q_12, .inl (cs 0, 45, .inl (fun _ => 0))), (q_13, .inl (cs 0, 45, .inl (fun _ => 0))), (q_14, .inl (cs 0, 45, .inl (fun _ => 0))), (q_15, .inl (cs 0, 45, .inl (fun _ => 0))), (q_16, .inl (cs 0, 45, .inl (fun _ => 0))), (q_17, .inl (cs 0, 45, .inl (fun _ => 0))), (q_18, .inl (cs 2, 1440, .inl (fun _ => 0))), (q_19, .inl (cs 2, 1440, .inl (fun _ => 0))), (q_20, .inl (cs 0, 40, .inl (fun _ => 0))), (q_21, .inl (cs 0, 40, .inl (fun _ => 0))), (q_22, .inl (cs 0, 40, .inl (fun _ => 0))), (q_23, .inl (cs 0, 40, .inl (fun _ => 0))), (q_24, .inl (cs 2, 4290, .inl (fun _ => 0))), (q_25, .inl (cs 0, 4290, .inl (fun _ => 0))), (q_26, .inl (cs 0, 33, .inl (fun _ => 0))), (q_27, .inl (cs 3, 2013, .inl (fun _ => 0))), (q_28, .inl (cs 3, 2013, .inl (fun _ => 0))), (q_29, .inl (cs 0, 11, .inl (fun _ => 0))), (q_30, .inl (cs 0, 130, .inl (fun _ => 0))), (q_31, .inl (cs 4, 240, .inl (fun _ => 0)))] H := hP
  have hD : va_D A [(h0, .inr (12, [.int 0, .int 0, .ref q_0, .ref q_1, .ref q_2, .ref q_3, .int 0, .ref q_4, .ref q_5, .ref q_6, .ref q_7, .ref q_8, .int 0, .int 0, .int 0, .int 0, .ref q_9, .ref q_10, .ref q_11, .ref q_12, .ref q_13, .ref q_14, .ref q_15, .ref q_16, .ref q_17, .ref q_18, .ref q_19, .int 0, .int 0, .ref q_20, .ref q_21, .ref q_22, .ref q_23, .int 0, .int 0, .ref q_24, .ref q_25, .ref q_26, .ref q_27, .ref q_28, .ref q_29, .ref q_30, .ref q_31, .null, .null, .int 0, .int 0, .null, .null, .int 0, .int 0, .null, .null, .int 0, .int 0, .null, .null, .null, .null, .null])), (q_0, .inl (cs 0, 40, .inl (fun _ => 0))), (q_1, .inl (cs 0, 40, .inl (fun _ => 0))), (q_2, .inl (cs 0, 40, .inl (fun _ => 0))), (q_3, .inl (cs 0, 40, .inl (fun _ => 0))), (q_4, .inl (cs 0, 32, .inl (fun _ => 0))), (q_5, .inl (cs 0, 32, .inl (fun _ => 0))), (q_6, .inl (cs 0, 32, .inl (fun _ => 0))), (q_7, .inl (cs 0, 32, .inl (fun _ => 0))), (q_8, .inl (cs 2, 120, .inl (fun _ => 0))), (q_9, .inl (cs 0, 45, .inl (fun _ => 0))), (q_10, .inl (cs 0, 45, .inl (fun _ => 0))), (q_11, .inl (cs 0, 45, .inl (fun _ => 0))), (q_12, .inl (cs 0, 45, .inl (fun _ => 0))), (q_13, .inl (cs 0, 45, .inl (fun _ => 0))), (q_14, .inl (cs 0, 45, .inl (fun _ => 0))), (q_15, .inl (cs 0, 45, .inl (fun _ => 0))), (q_16, .inl (cs 0, 45, .inl (fun _ => 0))), (q_17, .inl (cs 0, 45, .inl (fun _ => 0))), (q_18, .inl (cs 2, 1440, .inl (fun _ => 0))), (q_19, .inl (cs 2, 1440, .inl (fun _ => 0))), (q_20, .inl (cs 0, 40, .inl (fun _ => 0))), (q_21, .inl (cs 0, 40, .inl (fun _ => 0))), (q_22, .inl (cs 0, 40, .inl (fun _ => 0))), (q_23, .inl (cs 0, 40, .inl (fun _ => 0))), (q_24, .inl (cs 2, 4290, .inl (fun _ => 0))), (q_25, .inl (cs 0, 4290, .inl (fun _ => 0))), (q_26, .inl (cs 0, 33, .inl (fun _ => 0))), (q_27, .inl (cs 3, 2013, .inl (fun _ => 0))), (q_28, .inl (cs 3, 2013, .inl (fun _ => 0))), (q_29, .inl (cs 0, 11, .inl (fun _ => 0))), (q_30, .inl (cs 0, 130, .inl (fun _ => 0))), (q_31, .inl (cs 4, 240, .inl (fun _ => 0)))] := hD
  refine lv_aload_n hx hb dX12_init_268 rfl (lv_at hl 0 rfl) ?_
  refine lv_bipush (v := (20 : Int32)) hx hb dX12_init_269 (by decide) ?_
  refine zk_newa (atype := .int) (ty := .int) (a0 := (20, .inl (fun _ => 0))) (N' := 20) hx hb (ht _ kw_184) rfl hK 0 rfl (by intro C h; cases h) hP hD hS hA (fun _ => rfl) (by decide) (by decide) (Nat.le_of_ble_eq_true rfl) (Nat.le_of_ble_eq_true rfl) (Nat.le_of_ble_eq_true rfl) dX12_init_271 (fun q_32 H hP hD hS => ?_)
  refine va_putF (D := D) (ci := 12) (v := .ref q_32) (ty := .array .int) (C := RX12) (T := TX12) (N := 60) hx hb ht iX12 tyX12 tyX12_ok nmX12 hown hK hP hD hS 0 rfl rfl 43 (by decide) (ht _ kw_1338) (fun _ h9 => h9) rfl hin rfl (by decide +kernel) rfl rfl (Nat.le_of_ble_eq_true rfl) dX12_init_273 (fun H locs hP hD hS => ?_)
  refine lv_aload_n hx hb dX12_init_276 rfl (lv_at hl 0 rfl) ?_
  refine lv_bipush (v := (7 : Int32)) hx hb dX12_init_277 (by decide) ?_
  refine zk_newa (atype := .int) (ty := .int) (a0 := (7, .inl (fun _ => 0))) (N' := 7) hx hb (ht _ kw_184) rfl hK 0 rfl (by intro C h; cases h) hP hD hS hA (fun _ => rfl) (by decide) (by decide) (Nat.le_of_ble_eq_true rfl) (Nat.le_of_ble_eq_true rfl) (Nat.le_of_ble_eq_true rfl) dX12_init_279 (fun q_33 H hP hD hS => ?_)
  refine va_putF (D := D) (ci := 12) (v := .ref q_33) (ty := .array .int) (C := RX12) (T := TX12) (N := 60) hx hb ht iX12 tyX12 tyX12_ok nmX12 hown hK hP hD hS 0 rfl rfl 44 (by decide) (ht _ kw_1339) (fun _ h9 => h9) rfl hin rfl (by decide +kernel) rfl rfl (Nat.le_of_ble_eq_true rfl) dX12_init_281 (fun H locs hP hD hS => ?_)
  refine lv_aload_n hx hb dX12_init_284 rfl (lv_at hl 0 rfl) ?_
  refine lv_iconst (v := (5 : Int32)) hx hb dX12_init_285 (by decide) ?_
  refine zk_newa (atype := .int) (ty := .int) (a0 := (5, .inl (fun _ => 0))) (N' := 5) hx hb (ht _ kw_184) rfl hK 0 rfl (by intro C h; cases h) hP hD hS hA (fun _ => rfl) (by decide) (by decide) (Nat.le_of_ble_eq_true rfl) (Nat.le_of_ble_eq_true rfl) (Nat.le_of_ble_eq_true rfl) dX12_init_286 (fun q_34 H hP hD hS => ?_)
  refine va_putF (D := D) (ci := 12) (v := .ref q_34) (ty := .array .int) (C := RX12) (T := TX12) (N := 60) hx hb ht iX12 tyX12 tyX12_ok nmX12 hown hK hP hD hS 0 rfl rfl 47 (by decide) (ht _ kw_1342) (fun _ h9 => h9) rfl hin rfl (by decide +kernel) rfl rfl (Nat.le_of_ble_eq_true rfl) dX12_init_288 (fun H locs hP hD hS => ?_)
  refine lv_aload_n hx hb dX12_init_291 rfl (lv_at hl 0 rfl) ?_
  refine lv_iconst (v := (5 : Int32)) hx hb dX12_init_292 (by decide) ?_
  refine zk_newa (atype := .int) (ty := .int) (a0 := (5, .inl (fun _ => 0))) (N' := 5) hx hb (ht _ kw_184) rfl hK 0 rfl (by intro C h; cases h) hP hD hS hA (fun _ => rfl) (by decide) (by decide) (Nat.le_of_ble_eq_true rfl) (Nat.le_of_ble_eq_true rfl) (Nat.le_of_ble_eq_true rfl) dX12_init_293 (fun q_35 H hP hD hS => ?_)
  refine va_putF (D := D) (ci := 12) (v := .ref q_35) (ty := .array .int) (C := RX12) (T := TX12) (N := 60) hx hb ht iX12 tyX12 tyX12_ok nmX12 hown hK hP hD hS 0 rfl rfl 48 (by decide) (ht _ kw_1343) (fun _ h9 => h9) rfl hin rfl (by decide +kernel) rfl rfl (Nat.le_of_ble_eq_true rfl) dX12_init_295 (fun H locs hP hD hS => ?_)
  have hP : va_P D classes [(h0, .inr (12, [.int 0, .int 0, .ref q_0, .ref q_1, .ref q_2, .ref q_3, .int 0, .ref q_4, .ref q_5, .ref q_6, .ref q_7, .ref q_8, .int 0, .int 0, .int 0, .int 0, .ref q_9, .ref q_10, .ref q_11, .ref q_12, .ref q_13, .ref q_14, .ref q_15, .ref q_16, .ref q_17, .ref q_18, .ref q_19, .int 0, .int 0, .ref q_20, .ref q_21, .ref q_22, .ref q_23, .int 0, .int 0, .ref q_24, .ref q_25, .ref q_26, .ref q_27, .ref q_28, .ref q_29, .ref q_30, .ref q_31, .ref q_32, .ref q_33, .int 0, .int 0, .ref q_34, .ref q_35, .int 0, .int 0, .null, .null, .int 0, .int 0, .null, .null, .null, .null, .null])), (q_0, .inl (cs 0, 40, .inl (fun _ => 0))), (q_1, .inl (cs 0, 40, .inl (fun _ => 0))), (q_2, .inl (cs 0, 40, .inl (fun _ => 0))), (q_3, .inl (cs 0, 40, .inl (fun _ => 0))), (q_4, .inl (cs 0, 32, .inl (fun _ => 0))), (q_5, .inl (cs 0, 32, .inl (fun _ => 0))), (q_6, .inl (cs 0, 32, .inl (fun _ => 0))), (q_7, .inl (cs 0, 32, .inl (fun _ => 0))), (q_8, .inl (cs 2, 120, .inl (fun _ => 0))), (q_9, .inl (cs 0, 45, .inl (fun _ => 0))), (q_10, .inl (cs 0, 45, .inl (fun _ => 0))), (q_11, .inl (cs 0, 45, .inl (fun _ => 0))), (q_12, .inl (cs 0, 45, .inl (fun _ => 0))), (q_13, .inl (cs 0, 45, .inl (fun _ => 0))), (q_14, .inl (cs 0, 45, .inl (fun _ => 0))), (q_15, .inl (cs 0, 45, .inl (fun _ => 0))), (q_16, .inl (cs 0, 45, .inl (fun _ => 0))), (q_17, .inl (cs 0, 45, .inl (fun _ => 0))), (q_18, .inl (cs 2, 1440, .inl (fun _ => 0))), (q_19, .inl (cs 2, 1440, .inl (fun _ => 0))), (q_20, .inl (cs 0, 40, .inl (fun _ => 0))), (q_21, .inl (cs 0, 40, .inl (fun _ => 0))), (q_22, .inl (cs 0, 40, .inl (fun _ => 0))), (q_23, .inl (cs 0, 40, .inl (fun _ => 0))), (q_24, .inl (cs 2, 4290, .inl (fun _ => 0))), (q_25, .inl (cs 0, 4290, .inl (fun _ => 0))), (q_26, .inl (cs 0, 33, .inl (fun _ => 0))), (q_27, .inl (cs 3, 2013, .inl (fun _ => 0))), (q_28, .inl (cs 3, 2013, .inl (fun _ => 0))), (q_29, .inl (cs 0, 11, .inl (fun _ => 0))), (q_30, .inl (cs 0, 130, .inl (fun _ => 0))), (q_31, .inl (cs 4, 240, .inl (fun _ => 0))), (q_32, .inl (cs 0, 20, .inl (fun _ => 0))), (q_33, .inl (cs 0, 7, .inl (fun _ => 0))), (q_34, .inl (cs 0, 5, .inl (fun _ => 0))), (q_35, .inl (cs 0, 5, .inl (fun _ => 0)))] H := hP
  have hD : va_D A [(h0, .inr (12, [.int 0, .int 0, .ref q_0, .ref q_1, .ref q_2, .ref q_3, .int 0, .ref q_4, .ref q_5, .ref q_6, .ref q_7, .ref q_8, .int 0, .int 0, .int 0, .int 0, .ref q_9, .ref q_10, .ref q_11, .ref q_12, .ref q_13, .ref q_14, .ref q_15, .ref q_16, .ref q_17, .ref q_18, .ref q_19, .int 0, .int 0, .ref q_20, .ref q_21, .ref q_22, .ref q_23, .int 0, .int 0, .ref q_24, .ref q_25, .ref q_26, .ref q_27, .ref q_28, .ref q_29, .ref q_30, .ref q_31, .ref q_32, .ref q_33, .int 0, .int 0, .ref q_34, .ref q_35, .int 0, .int 0, .null, .null, .int 0, .int 0, .null, .null, .null, .null, .null])), (q_0, .inl (cs 0, 40, .inl (fun _ => 0))), (q_1, .inl (cs 0, 40, .inl (fun _ => 0))), (q_2, .inl (cs 0, 40, .inl (fun _ => 0))), (q_3, .inl (cs 0, 40, .inl (fun _ => 0))), (q_4, .inl (cs 0, 32, .inl (fun _ => 0))), (q_5, .inl (cs 0, 32, .inl (fun _ => 0))), (q_6, .inl (cs 0, 32, .inl (fun _ => 0))), (q_7, .inl (cs 0, 32, .inl (fun _ => 0))), (q_8, .inl (cs 2, 120, .inl (fun _ => 0))), (q_9, .inl (cs 0, 45, .inl (fun _ => 0))), (q_10, .inl (cs 0, 45, .inl (fun _ => 0))), (q_11, .inl (cs 0, 45, .inl (fun _ => 0))), (q_12, .inl (cs 0, 45, .inl (fun _ => 0))), (q_13, .inl (cs 0, 45, .inl (fun _ => 0))), (q_14, .inl (cs 0, 45, .inl (fun _ => 0))), (q_15, .inl (cs 0, 45, .inl (fun _ => 0))), (q_16, .inl (cs 0, 45, .inl (fun _ => 0))), (q_17, .inl (cs 0, 45, .inl (fun _ => 0))), (q_18, .inl (cs 2, 1440, .inl (fun _ => 0))), (q_19, .inl (cs 2, 1440, .inl (fun _ => 0))), (q_20, .inl (cs 0, 40, .inl (fun _ => 0))), (q_21, .inl (cs 0, 40, .inl (fun _ => 0))), (q_22, .inl (cs 0, 40, .inl (fun _ => 0))), (q_23, .inl (cs 0, 40, .inl (fun _ => 0))), (q_24, .inl (cs 2, 4290, .inl (fun _ => 0))), (q_25, .inl (cs 0, 4290, .inl (fun _ => 0))), (q_26, .inl (cs 0, 33, .inl (fun _ => 0))), (q_27, .inl (cs 3, 2013, .inl (fun _ => 0))), (q_28, .inl (cs 3, 2013, .inl (fun _ => 0))), (q_29, .inl (cs 0, 11, .inl (fun _ => 0))), (q_30, .inl (cs 0, 130, .inl (fun _ => 0))), (q_31, .inl (cs 4, 240, .inl (fun _ => 0))), (q_32, .inl (cs 0, 20, .inl (fun _ => 0))), (q_33, .inl (cs 0, 7, .inl (fun _ => 0))), (q_34, .inl (cs 0, 5, .inl (fun _ => 0))), (q_35, .inl (cs 0, 5, .inl (fun _ => 0)))] := hD
  refine lv_aload_n hx hb dX12_init_298 rfl (lv_at hl 0 rfl) ?_
  refine lv_sipush (v := (5376 : Int32)) hx hb dX12_init_299 (by decide) ?_
  refine zk_newa (atype := .int) (ty := .int) (a0 := (5376, .inl (fun _ => 0))) (N' := 5376) hx hb (ht _ kw_184) rfl hK 0 rfl (by intro C h; cases h) hP hD hS hA (fun _ => rfl) (by decide) (by decide) (Nat.le_of_ble_eq_true rfl) (Nat.le_of_ble_eq_true rfl) (Nat.le_of_ble_eq_true rfl) dX12_init_302 (fun q_36 H hP hD hS => ?_)
  refine va_putF (D := D) (ci := 12) (v := .ref q_36) (ty := .array .int) (C := RX12) (T := TX12) (N := 60) hx hb ht iX12 tyX12 tyX12_ok nmX12 hown hK hP hD hS 0 rfl rfl 51 (by decide) (ht _ kw_1346) (fun _ h9 => h9) rfl hin rfl (by decide +kernel) rfl rfl (Nat.le_of_ble_eq_true rfl) dX12_init_304 (fun H locs hP hD hS => ?_)
  refine lv_aload_n hx hb dX12_init_307 rfl (lv_at hl 0 rfl) ?_
  refine lv_bipush (v := (20 : Int32)) hx hb dX12_init_308 (by decide) ?_
  refine zk_newa (atype := .int) (ty := .int) (a0 := (20, .inl (fun _ => 0))) (N' := 20) hx hb (ht _ kw_184) rfl hK 0 rfl (by intro C h; cases h) hP hD hS hA (fun _ => rfl) (by decide) (by decide) (Nat.le_of_ble_eq_true rfl) (Nat.le_of_ble_eq_true rfl) (Nat.le_of_ble_eq_true rfl) dX12_init_310 (fun q_37 H hP hD hS => ?_)
  refine va_putF (D := D) (ci := 12) (v := .ref q_37) (ty := .array .int) (C := RX12) (T := TX12) (N := 60) hx hb ht iX12 tyX12 tyX12_ok nmX12 hown hK hP hD hS 0 rfl rfl 52 (by decide) (ht _ kw_1347) (fun _ h9 => h9) rfl hin rfl (by decide +kernel) rfl rfl (Nat.le_of_ble_eq_true rfl) dX12_init_312 (fun H locs hP hD hS => ?_)
  refine lv_aload_n hx hb dX12_init_315 rfl (lv_at hl 0 rfl) ?_
  refine lv_bipush (v := (24 : Int32)) hx hb dX12_init_316 (by decide) ?_
  refine zk_newa (atype := .int) (ty := .int) (a0 := (24, .inl (fun _ => 0))) (N' := 24) hx hb (ht _ kw_184) rfl hK 0 rfl (by intro C h; cases h) hP hD hS hA (fun _ => rfl) (by decide) (by decide) (Nat.le_of_ble_eq_true rfl) (Nat.le_of_ble_eq_true rfl) (Nat.le_of_ble_eq_true rfl) dX12_init_318 (fun q_38 H hP hD hS => ?_)
  refine va_putF (D := D) (ci := 12) (v := .ref q_38) (ty := .array .int) (C := RX12) (T := TX12) (N := 60) hx hb ht iX12 tyX12 tyX12_ok nmX12 hown hK hP hD hS 0 rfl rfl 55 (by decide) (ht _ kw_1350) (fun _ h9 => h9) rfl hin rfl (by decide +kernel) rfl rfl (Nat.le_of_ble_eq_true rfl) dX12_init_320 (fun H locs hP hD hS => ?_)
  refine lv_aload_n hx hb dX12_init_323 rfl (lv_at hl 0 rfl) ?_
  refine lv_bipush (v := (6 : Int32)) hx hb dX12_init_324 (by decide) ?_
  refine zk_newa (atype := .int) (ty := .int) (a0 := (6, .inl (fun _ => 0))) (N' := 6) hx hb (ht _ kw_184) rfl hK 0 rfl (by intro C h; cases h) hP hD hS hA (fun _ => rfl) (by decide) (by decide) (Nat.le_of_ble_eq_true rfl) (Nat.le_of_ble_eq_true rfl) (Nat.le_of_ble_eq_true rfl) dX12_init_326 (fun q_39 H hP hD hS => ?_)
  refine lv_dup hx hb dX12_init_328 rfl ?_
  refine lv_iconst (v := (0 : Int32)) hx hb dX12_init_329 (by decide) ?_
  refine lv_iconst (v := (-1 : Int32)) hx hb dX12_init_330 (by decide) ?_
  refine va_iast hx hb hK hP hD hS 40 0 rfl rfl (by unfold vp_in; decide) dX12_init_331 (fun H locs hP hD hS => ?_)
  have hP : va_P D classes [(h0, .inr (12, [.int 0, .int 0, .ref q_0, .ref q_1, .ref q_2, .ref q_3, .int 0, .ref q_4, .ref q_5, .ref q_6, .ref q_7, .ref q_8, .int 0, .int 0, .int 0, .int 0, .ref q_9, .ref q_10, .ref q_11, .ref q_12, .ref q_13, .ref q_14, .ref q_15, .ref q_16, .ref q_17, .ref q_18, .ref q_19, .int 0, .int 0, .ref q_20, .ref q_21, .ref q_22, .ref q_23, .int 0, .int 0, .ref q_24, .ref q_25, .ref q_26, .ref q_27, .ref q_28, .ref q_29, .ref q_30, .ref q_31, .ref q_32, .ref q_33, .int 0, .int 0, .ref q_34, .ref q_35, .int 0, .int 0, .ref q_36, .ref q_37, .int 0, .int 0, .ref q_38, .null, .null, .null, .null])), (q_0, .inl (cs 0, 40, .inl (fun _ => 0))), (q_1, .inl (cs 0, 40, .inl (fun _ => 0))), (q_2, .inl (cs 0, 40, .inl (fun _ => 0))), (q_3, .inl (cs 0, 40, .inl (fun _ => 0))), (q_4, .inl (cs 0, 32, .inl (fun _ => 0))), (q_5, .inl (cs 0, 32, .inl (fun _ => 0))), (q_6, .inl (cs 0, 32, .inl (fun _ => 0))), (q_7, .inl (cs 0, 32, .inl (fun _ => 0))), (q_8, .inl (cs 2, 120, .inl (fun _ => 0))), (q_9, .inl (cs 0, 45, .inl (fun _ => 0))), (q_10, .inl (cs 0, 45, .inl (fun _ => 0))), (q_11, .inl (cs 0, 45, .inl (fun _ => 0))), (q_12, .inl (cs 0, 45, .inl (fun _ => 0))), (q_13, .inl (cs 0, 45, .inl (fun _ => 0))), (q_14, .inl (cs 0, 45, .inl (fun _ => 0))), (q_15, .inl (cs 0, 45, .inl (fun _ => 0))), (q_16, .inl (cs 0, 45, .inl (fun _ => 0))), (q_17, .inl (cs 0, 45, .inl (fun _ => 0))), (q_18, .inl (cs 2, 1440, .inl (fun _ => 0))), (q_19, .inl (cs 2, 1440, .inl (fun _ => 0))), (q_20, .inl (cs 0, 40, .inl (fun _ => 0))), (q_21, .inl (cs 0, 40, .inl (fun _ => 0))), (q_22, .inl (cs 0, 40, .inl (fun _ => 0))), (q_23, .inl (cs 0, 40, .inl (fun _ => 0))), (q_24, .inl (cs 2, 4290, .inl (fun _ => 0))), (q_25, .inl (cs 0, 4290, .inl (fun _ => 0))), (q_26, .inl (cs 0, 33, .inl (fun _ => 0))), (q_27, .inl (cs 3, 2013, .inl (fun _ => 0))), (q_28, .inl (cs 3, 2013, .inl (fun _ => 0))), (q_29, .inl (cs 0, 11, .inl (fun _ => 0))), (q_30, .inl (cs 0, 130, .inl (fun _ => 0))), (q_31, .inl (cs 4, 240, .inl (fun _ => 0))), (q_32, .inl (cs 0, 20, .inl (fun _ => 0))), (q_33, .inl (cs 0, 7, .inl (fun _ => 0))), (q_34, .inl (cs 0, 5, .inl (fun _ => 0))), (q_35, .inl (cs 0, 5, .inl (fun _ => 0))), (q_36, .inl (cs 0, 5376, .inl (fun _ => 0))), (q_37, .inl (cs 0, 20, .inl (fun _ => 0))), (q_38, .inl (cs 0, 24, .inl (fun _ => 0))), (q_39, .inl (cs 0, 6, .inl (upd (fun _ => 0) ((0 : Int32)).toNatClampNeg (-1 : Int32))))] H := hP
  have hD : va_D A [(h0, .inr (12, [.int 0, .int 0, .ref q_0, .ref q_1, .ref q_2, .ref q_3, .int 0, .ref q_4, .ref q_5, .ref q_6, .ref q_7, .ref q_8, .int 0, .int 0, .int 0, .int 0, .ref q_9, .ref q_10, .ref q_11, .ref q_12, .ref q_13, .ref q_14, .ref q_15, .ref q_16, .ref q_17, .ref q_18, .ref q_19, .int 0, .int 0, .ref q_20, .ref q_21, .ref q_22, .ref q_23, .int 0, .int 0, .ref q_24, .ref q_25, .ref q_26, .ref q_27, .ref q_28, .ref q_29, .ref q_30, .ref q_31, .ref q_32, .ref q_33, .int 0, .int 0, .ref q_34, .ref q_35, .int 0, .int 0, .ref q_36, .ref q_37, .int 0, .int 0, .ref q_38, .null, .null, .null, .null])), (q_0, .inl (cs 0, 40, .inl (fun _ => 0))), (q_1, .inl (cs 0, 40, .inl (fun _ => 0))), (q_2, .inl (cs 0, 40, .inl (fun _ => 0))), (q_3, .inl (cs 0, 40, .inl (fun _ => 0))), (q_4, .inl (cs 0, 32, .inl (fun _ => 0))), (q_5, .inl (cs 0, 32, .inl (fun _ => 0))), (q_6, .inl (cs 0, 32, .inl (fun _ => 0))), (q_7, .inl (cs 0, 32, .inl (fun _ => 0))), (q_8, .inl (cs 2, 120, .inl (fun _ => 0))), (q_9, .inl (cs 0, 45, .inl (fun _ => 0))), (q_10, .inl (cs 0, 45, .inl (fun _ => 0))), (q_11, .inl (cs 0, 45, .inl (fun _ => 0))), (q_12, .inl (cs 0, 45, .inl (fun _ => 0))), (q_13, .inl (cs 0, 45, .inl (fun _ => 0))), (q_14, .inl (cs 0, 45, .inl (fun _ => 0))), (q_15, .inl (cs 0, 45, .inl (fun _ => 0))), (q_16, .inl (cs 0, 45, .inl (fun _ => 0))), (q_17, .inl (cs 0, 45, .inl (fun _ => 0))), (q_18, .inl (cs 2, 1440, .inl (fun _ => 0))), (q_19, .inl (cs 2, 1440, .inl (fun _ => 0))), (q_20, .inl (cs 0, 40, .inl (fun _ => 0))), (q_21, .inl (cs 0, 40, .inl (fun _ => 0))), (q_22, .inl (cs 0, 40, .inl (fun _ => 0))), (q_23, .inl (cs 0, 40, .inl (fun _ => 0))), (q_24, .inl (cs 2, 4290, .inl (fun _ => 0))), (q_25, .inl (cs 0, 4290, .inl (fun _ => 0))), (q_26, .inl (cs 0, 33, .inl (fun _ => 0))), (q_27, .inl (cs 3, 2013, .inl (fun _ => 0))), (q_28, .inl (cs 3, 2013, .inl (fun _ => 0))), (q_29, .inl (cs 0, 11, .inl (fun _ => 0))), (q_30, .inl (cs 0, 130, .inl (fun _ => 0))), (q_31, .inl (cs 4, 240, .inl (fun _ => 0))), (q_32, .inl (cs 0, 20, .inl (fun _ => 0))), (q_33, .inl (cs 0, 7, .inl (fun _ => 0))), (q_34, .inl (cs 0, 5, .inl (fun _ => 0))), (q_35, .inl (cs 0, 5, .inl (fun _ => 0))), (q_36, .inl (cs 0, 5376, .inl (fun _ => 0))), (q_37, .inl (cs 0, 20, .inl (fun _ => 0))), (q_38, .inl (cs 0, 24, .inl (fun _ => 0))), (q_39, .inl (cs 0, 6, .inl (upd (fun _ => 0) ((0 : Int32)).toNatClampNeg (-1 : Int32))))] := hD
  refine lv_dup hx hb dX12_init_332 rfl ?_
  refine lv_iconst (v := (1 : Int32)) hx hb dX12_init_333 (by decide) ?_
  refine lv_iconst (v := (-1 : Int32)) hx hb dX12_init_334 (by decide) ?_
  refine va_iast hx hb hK hP hD hS 40 0 rfl rfl (by unfold vp_in; decide) dX12_init_335 (fun H locs hP hD hS => ?_)
  refine lv_dup hx hb dX12_init_336 rfl ?_
  refine lv_iconst (v := (2 : Int32)) hx hb dX12_init_337 (by decide) ?_
  refine lv_iconst (v := (-1 : Int32)) hx hb dX12_init_338 (by decide) ?_
  refine va_iast hx hb hK hP hD hS 40 0 rfl rfl (by unfold vp_in; decide) dX12_init_339 (fun H locs hP hD hS => ?_)
  refine lv_dup hx hb dX12_init_340 rfl ?_
  refine lv_iconst (v := (3 : Int32)) hx hb dX12_init_341 (by decide) ?_
  refine lv_iconst (v := (-1 : Int32)) hx hb dX12_init_342 (by decide) ?_
  refine va_iast hx hb hK hP hD hS 40 0 rfl rfl (by unfold vp_in; decide) dX12_init_343 (fun H locs hP hD hS => ?_)
  refine lv_dup hx hb dX12_init_344 rfl ?_
  refine lv_iconst (v := (4 : Int32)) hx hb dX12_init_345 (by decide) ?_
  refine lv_iconst (v := (-1 : Int32)) hx hb dX12_init_346 (by decide) ?_
  refine va_iast hx hb hK hP hD hS 40 0 rfl rfl (by unfold vp_in; decide) dX12_init_347 (fun H locs hP hD hS => ?_)
  refine lv_dup hx hb dX12_init_348 rfl ?_
  refine lv_iconst (v := (5 : Int32)) hx hb dX12_init_349 (by decide) ?_
  refine lv_iconst (v := (-1 : Int32)) hx hb dX12_init_350 (by decide) ?_
  refine va_iast hx hb hK hP hD hS 40 0 rfl rfl (by unfold vp_in; decide) dX12_init_351 (fun H locs hP hD hS => ?_)
  refine va_putF (D := D) (ci := 12) (v := .ref q_39) (ty := .array .int) (C := RX12) (T := TX12) (N := 60) hx hb ht iX12 tyX12 tyX12_ok nmX12 hown hK hP hD hS 0 rfl rfl 56 (by decide) (ht _ kw_1351) (fun _ h9 => h9) rfl hin rfl (by decide +kernel) rfl rfl (Nat.le_of_ble_eq_true rfl) dX12_init_352 (fun H locs hP hD hS => ?_)
  refine lv_aload_n hx hb dX12_init_355 rfl (lv_at hl 0 rfl) ?_
  refine lv_bipush (v := (6 : Int32)) hx hb dX12_init_356 (by decide) ?_
  refine zk_newa (atype := .int) (ty := .int) (a0 := (6, .inl (fun _ => 0))) (N' := 6) hx hb (ht _ kw_184) rfl hK 0 rfl (by intro C h; cases h) hP hD hS hA (fun _ => rfl) (by decide) (by decide) (Nat.le_of_ble_eq_true rfl) (Nat.le_of_ble_eq_true rfl) (Nat.le_of_ble_eq_true rfl) dX12_init_358 (fun q_40 H hP hD hS => ?_)
  refine va_putF (D := D) (ci := 12) (v := .ref q_40) (ty := .array .int) (C := RX12) (T := TX12) (N := 60) hx hb ht iX12 tyX12 tyX12_ok nmX12 hown hK hP hD hS 0 rfl rfl 57 (by decide) (ht _ kw_1352) (fun _ h9 => h9) rfl hin rfl (by decide +kernel) rfl rfl (Nat.le_of_ble_eq_true rfl) dX12_init_360 (fun H locs hP hD hS => ?_)
  have hP : va_P D classes [(h0, .inr (12, [.int 0, .int 0, .ref q_0, .ref q_1, .ref q_2, .ref q_3, .int 0, .ref q_4, .ref q_5, .ref q_6, .ref q_7, .ref q_8, .int 0, .int 0, .int 0, .int 0, .ref q_9, .ref q_10, .ref q_11, .ref q_12, .ref q_13, .ref q_14, .ref q_15, .ref q_16, .ref q_17, .ref q_18, .ref q_19, .int 0, .int 0, .ref q_20, .ref q_21, .ref q_22, .ref q_23, .int 0, .int 0, .ref q_24, .ref q_25, .ref q_26, .ref q_27, .ref q_28, .ref q_29, .ref q_30, .ref q_31, .ref q_32, .ref q_33, .int 0, .int 0, .ref q_34, .ref q_35, .int 0, .int 0, .ref q_36, .ref q_37, .int 0, .int 0, .ref q_38, .ref q_39, .ref q_40, .null, .null])), (q_0, .inl (cs 0, 40, .inl (fun _ => 0))), (q_1, .inl (cs 0, 40, .inl (fun _ => 0))), (q_2, .inl (cs 0, 40, .inl (fun _ => 0))), (q_3, .inl (cs 0, 40, .inl (fun _ => 0))), (q_4, .inl (cs 0, 32, .inl (fun _ => 0))), (q_5, .inl (cs 0, 32, .inl (fun _ => 0))), (q_6, .inl (cs 0, 32, .inl (fun _ => 0))), (q_7, .inl (cs 0, 32, .inl (fun _ => 0))), (q_8, .inl (cs 2, 120, .inl (fun _ => 0))), (q_9, .inl (cs 0, 45, .inl (fun _ => 0))), (q_10, .inl (cs 0, 45, .inl (fun _ => 0))), (q_11, .inl (cs 0, 45, .inl (fun _ => 0))), (q_12, .inl (cs 0, 45, .inl (fun _ => 0))), (q_13, .inl (cs 0, 45, .inl (fun _ => 0))), (q_14, .inl (cs 0, 45, .inl (fun _ => 0))), (q_15, .inl (cs 0, 45, .inl (fun _ => 0))), (q_16, .inl (cs 0, 45, .inl (fun _ => 0))), (q_17, .inl (cs 0, 45, .inl (fun _ => 0))), (q_18, .inl (cs 2, 1440, .inl (fun _ => 0))), (q_19, .inl (cs 2, 1440, .inl (fun _ => 0))), (q_20, .inl (cs 0, 40, .inl (fun _ => 0))), (q_21, .inl (cs 0, 40, .inl (fun _ => 0))), (q_22, .inl (cs 0, 40, .inl (fun _ => 0))), (q_23, .inl (cs 0, 40, .inl (fun _ => 0))), (q_24, .inl (cs 2, 4290, .inl (fun _ => 0))), (q_25, .inl (cs 0, 4290, .inl (fun _ => 0))), (q_26, .inl (cs 0, 33, .inl (fun _ => 0))), (q_27, .inl (cs 3, 2013, .inl (fun _ => 0))), (q_28, .inl (cs 3, 2013, .inl (fun _ => 0))), (q_29, .inl (cs 0, 11, .inl (fun _ => 0))), (q_30, .inl (cs 0, 130, .inl (fun _ => 0))), (q_31, .inl (cs 4, 240, .inl (fun _ => 0))), (q_32, .inl (cs 0, 20, .inl (fun _ => 0))), (q_33, .inl (cs 0, 7, .inl (fun _ => 0))), (q_34, .inl (cs 0, 5, .inl (fun _ => 0))), (q_35, .inl (cs 0, 5, .inl (fun _ => 0))), (q_36, .inl (cs 0, 5376, .inl (fun _ => 0))), (q_37, .inl (cs 0, 20, .inl (fun _ => 0))), (q_38, .inl (cs 0, 24, .inl (fun _ => 0))), (q_39, .inl (cs 0, 6, .inl (upd (upd (upd (upd (upd (upd (fun _ => 0) ((0 : Int32)).toNatClampNeg (-1 : Int32)) ((1 : Int32)).toNatClampNeg (-1 : Int32)) ((2 : Int32)).toNatClampNeg (-1 : Int32)) ((3 : Int32)).toNatClampNeg (-1 : Int32)) ((4 : Int32)).toNatClampNeg (-1 : Int32)) ((5 : Int32)).toNatClampNeg (-1 : Int32)))), (q_40, .inl (cs 0, 6, .inl (fun _ => 0)))] H := hP
  have hD : va_D A [(h0, .inr (12, [.int 0, .int 0, .ref q_0, .ref q_1, .ref q_2, .ref q_3, .int 0, .ref q_4, .ref q_5, .ref q_6, .ref q_7, .ref q_8, .int 0, .int 0, .int 0, .int 0, .ref q_9, .ref q_10, .ref q_11, .ref q_12, .ref q_13, .ref q_14, .ref q_15, .ref q_16, .ref q_17, .ref q_18, .ref q_19, .int 0, .int 0, .ref q_20, .ref q_21, .ref q_22, .ref q_23, .int 0, .int 0, .ref q_24, .ref q_25, .ref q_26, .ref q_27, .ref q_28, .ref q_29, .ref q_30, .ref q_31, .ref q_32, .ref q_33, .int 0, .int 0, .ref q_34, .ref q_35, .int 0, .int 0, .ref q_36, .ref q_37, .int 0, .int 0, .ref q_38, .ref q_39, .ref q_40, .null, .null])), (q_0, .inl (cs 0, 40, .inl (fun _ => 0))), (q_1, .inl (cs 0, 40, .inl (fun _ => 0))), (q_2, .inl (cs 0, 40, .inl (fun _ => 0))), (q_3, .inl (cs 0, 40, .inl (fun _ => 0))), (q_4, .inl (cs 0, 32, .inl (fun _ => 0))), (q_5, .inl (cs 0, 32, .inl (fun _ => 0))), (q_6, .inl (cs 0, 32, .inl (fun _ => 0))), (q_7, .inl (cs 0, 32, .inl (fun _ => 0))), (q_8, .inl (cs 2, 120, .inl (fun _ => 0))), (q_9, .inl (cs 0, 45, .inl (fun _ => 0))), (q_10, .inl (cs 0, 45, .inl (fun _ => 0))), (q_11, .inl (cs 0, 45, .inl (fun _ => 0))), (q_12, .inl (cs 0, 45, .inl (fun _ => 0))), (q_13, .inl (cs 0, 45, .inl (fun _ => 0))), (q_14, .inl (cs 0, 45, .inl (fun _ => 0))), (q_15, .inl (cs 0, 45, .inl (fun _ => 0))), (q_16, .inl (cs 0, 45, .inl (fun _ => 0))), (q_17, .inl (cs 0, 45, .inl (fun _ => 0))), (q_18, .inl (cs 2, 1440, .inl (fun _ => 0))), (q_19, .inl (cs 2, 1440, .inl (fun _ => 0))), (q_20, .inl (cs 0, 40, .inl (fun _ => 0))), (q_21, .inl (cs 0, 40, .inl (fun _ => 0))), (q_22, .inl (cs 0, 40, .inl (fun _ => 0))), (q_23, .inl (cs 0, 40, .inl (fun _ => 0))), (q_24, .inl (cs 2, 4290, .inl (fun _ => 0))), (q_25, .inl (cs 0, 4290, .inl (fun _ => 0))), (q_26, .inl (cs 0, 33, .inl (fun _ => 0))), (q_27, .inl (cs 3, 2013, .inl (fun _ => 0))), (q_28, .inl (cs 3, 2013, .inl (fun _ => 0))), (q_29, .inl (cs 0, 11, .inl (fun _ => 0))), (q_30, .inl (cs 0, 130, .inl (fun _ => 0))), (q_31, .inl (cs 4, 240, .inl (fun _ => 0))), (q_32, .inl (cs 0, 20, .inl (fun _ => 0))), (q_33, .inl (cs 0, 7, .inl (fun _ => 0))), (q_34, .inl (cs 0, 5, .inl (fun _ => 0))), (q_35, .inl (cs 0, 5, .inl (fun _ => 0))), (q_36, .inl (cs 0, 5376, .inl (fun _ => 0))), (q_37, .inl (cs 0, 20, .inl (fun _ => 0))), (q_38, .inl (cs 0, 24, .inl (fun _ => 0))), (q_39, .inl (cs 0, 6, .inl (upd (upd (upd (upd (upd (upd (fun _ => 0) ((0 : Int32)).toNatClampNeg (-1 : Int32)) ((1 : Int32)).toNatClampNeg (-1 : Int32)) ((2 : Int32)).toNatClampNeg (-1 : Int32)) ((3 : Int32)).toNatClampNeg (-1 : Int32)) ((4 : Int32)).toNatClampNeg (-1 : Int32)) ((5 : Int32)).toNatClampNeg (-1 : Int32)))), (q_40, .inl (cs 0, 6, .inl (fun _ => 0)))] := hD
  refine lv_aload_n hx hb dX12_init_363 rfl (lv_at hl 0 rfl) ?_
  refine lv_sipush (v := (360 : Int32)) hx hb dX12_init_364 (by decide) ?_
  refine zk_newa (atype := .long) (ty := .long) (a0 := (360, .inr (.inl (fun _ => 0)))) (N' := 360) hx hb (ht _ kw_228) rfl hK 1 rfl (by intro C h; cases h) hP hD hS hA (fun _ => rfl) (by decide) (by decide) (Nat.le_of_ble_eq_true rfl) (Nat.le_of_ble_eq_true rfl) (Nat.le_of_ble_eq_true rfl) dX12_init_367 (fun q_41 H hP hD hS => ?_)
  refine va_putF (D := D) (ci := 12) (v := .ref q_41) (ty := .array .long) (C := RX12) (T := TX12) (N := 60) hx hb ht iX12 tyX12 tyX12_ok nmX12 hown hK hP hD hS 0 rfl rfl 58 (by decide) (ht _ kw_1353) (fun _ h9 => h9) rfl hin rfl (by decide +kernel) rfl rfl (Nat.le_of_ble_eq_true rfl) dX12_init_369 (fun H locs hP hD hS => ?_)
  refine lv_aload_n hx hb dX12_init_372 rfl (lv_at hl 0 rfl) ?_
  refine lv_bipush (v := (60 : Int32)) hx hb dX12_init_373 (by decide) ?_
  refine zk_newa (atype := .long) (ty := .long) (a0 := (60, .inr (.inl (fun _ => 0)))) (N' := 60) hx hb (ht _ kw_228) rfl hK 1 rfl (by intro C h; cases h) hP hD hS hA (fun _ => rfl) (by decide) (by decide) (Nat.le_of_ble_eq_true rfl) (Nat.le_of_ble_eq_true rfl) (Nat.le_of_ble_eq_true rfl) dX12_init_375 (fun q_42 H hP hD hS => ?_)
  refine va_putF (D := D) (ci := 12) (v := .ref q_42) (ty := .array .long) (C := RX12) (T := TX12) (N := 60) hx hb ht iX12 tyX12 tyX12_ok nmX12 hown hK hP hD hS 0 rfl rfl 59 (by decide) (ht _ kw_1354) (fun _ h9 => h9) rfl hin rfl (by decide +kernel) rfl rfl (Nat.le_of_ble_eq_true rfl) dX12_init_377 (fun H locs hP hD hS => ?_)
  have hP : va_P D classes [(h0, .inr (12, [.int 0, .int 0, .ref q_0, .ref q_1, .ref q_2, .ref q_3, .int 0, .ref q_4, .ref q_5, .ref q_6, .ref q_7, .ref q_8, .int 0, .int 0, .int 0, .int 0, .ref q_9, .ref q_10, .ref q_11, .ref q_12, .ref q_13, .ref q_14, .ref q_15, .ref q_16, .ref q_17, .ref q_18, .ref q_19, .int 0, .int 0, .ref q_20, .ref q_21, .ref q_22, .ref q_23, .int 0, .int 0, .ref q_24, .ref q_25, .ref q_26, .ref q_27, .ref q_28, .ref q_29, .ref q_30, .ref q_31, .ref q_32, .ref q_33, .int 0, .int 0, .ref q_34, .ref q_35, .int 0, .int 0, .ref q_36, .ref q_37, .int 0, .int 0, .ref q_38, .ref q_39, .ref q_40, .ref q_41, .ref q_42])), (q_0, .inl (cs 0, 40, .inl (fun _ => 0))), (q_1, .inl (cs 0, 40, .inl (fun _ => 0))), (q_2, .inl (cs 0, 40, .inl (fun _ => 0))), (q_3, .inl (cs 0, 40, .inl (fun _ => 0))), (q_4, .inl (cs 0, 32, .inl (fun _ => 0))), (q_5, .inl (cs 0, 32, .inl (fun _ => 0))), (q_6, .inl (cs 0, 32, .inl (fun _ => 0))), (q_7, .inl (cs 0, 32, .inl (fun _ => 0))), (q_8, .inl (cs 2, 120, .inl (fun _ => 0))), (q_9, .inl (cs 0, 45, .inl (fun _ => 0))), (q_10, .inl (cs 0, 45, .inl (fun _ => 0))), (q_11, .inl (cs 0, 45, .inl (fun _ => 0))), (q_12, .inl (cs 0, 45, .inl (fun _ => 0))), (q_13, .inl (cs 0, 45, .inl (fun _ => 0))), (q_14, .inl (cs 0, 45, .inl (fun _ => 0))), (q_15, .inl (cs 0, 45, .inl (fun _ => 0))), (q_16, .inl (cs 0, 45, .inl (fun _ => 0))), (q_17, .inl (cs 0, 45, .inl (fun _ => 0))), (q_18, .inl (cs 2, 1440, .inl (fun _ => 0))), (q_19, .inl (cs 2, 1440, .inl (fun _ => 0))), (q_20, .inl (cs 0, 40, .inl (fun _ => 0))), (q_21, .inl (cs 0, 40, .inl (fun _ => 0))), (q_22, .inl (cs 0, 40, .inl (fun _ => 0))), (q_23, .inl (cs 0, 40, .inl (fun _ => 0))), (q_24, .inl (cs 2, 4290, .inl (fun _ => 0))), (q_25, .inl (cs 0, 4290, .inl (fun _ => 0))), (q_26, .inl (cs 0, 33, .inl (fun _ => 0))), (q_27, .inl (cs 3, 2013, .inl (fun _ => 0))), (q_28, .inl (cs 3, 2013, .inl (fun _ => 0))), (q_29, .inl (cs 0, 11, .inl (fun _ => 0))), (q_30, .inl (cs 0, 130, .inl (fun _ => 0))), (q_31, .inl (cs 4, 240, .inl (fun _ => 0))), (q_32, .inl (cs 0, 20, .inl (fun _ => 0))), (q_33, .inl (cs 0, 7, .inl (fun _ => 0))), (q_34, .inl (cs 0, 5, .inl (fun _ => 0))), (q_35, .inl (cs 0, 5, .inl (fun _ => 0))), (q_36, .inl (cs 0, 5376, .inl (fun _ => 0))), (q_37, .inl (cs 0, 20, .inl (fun _ => 0))), (q_38, .inl (cs 0, 24, .inl (fun _ => 0))), (q_39, .inl (cs 0, 6, .inl (upd (upd (upd (upd (upd (upd (fun _ => 0) ((0 : Int32)).toNatClampNeg (-1 : Int32)) ((1 : Int32)).toNatClampNeg (-1 : Int32)) ((2 : Int32)).toNatClampNeg (-1 : Int32)) ((3 : Int32)).toNatClampNeg (-1 : Int32)) ((4 : Int32)).toNatClampNeg (-1 : Int32)) ((5 : Int32)).toNatClampNeg (-1 : Int32)))), (q_40, .inl (cs 0, 6, .inl (fun _ => 0))), (q_41, .inl (cs 1, 360, .inr (.inl (fun _ => 0)))), (q_42, .inl (cs 1, 60, .inr (.inl (fun _ => 0))))] H := hP
  have hD : va_D A [(h0, .inr (12, [.int 0, .int 0, .ref q_0, .ref q_1, .ref q_2, .ref q_3, .int 0, .ref q_4, .ref q_5, .ref q_6, .ref q_7, .ref q_8, .int 0, .int 0, .int 0, .int 0, .ref q_9, .ref q_10, .ref q_11, .ref q_12, .ref q_13, .ref q_14, .ref q_15, .ref q_16, .ref q_17, .ref q_18, .ref q_19, .int 0, .int 0, .ref q_20, .ref q_21, .ref q_22, .ref q_23, .int 0, .int 0, .ref q_24, .ref q_25, .ref q_26, .ref q_27, .ref q_28, .ref q_29, .ref q_30, .ref q_31, .ref q_32, .ref q_33, .int 0, .int 0, .ref q_34, .ref q_35, .int 0, .int 0, .ref q_36, .ref q_37, .int 0, .int 0, .ref q_38, .ref q_39, .ref q_40, .ref q_41, .ref q_42])), (q_0, .inl (cs 0, 40, .inl (fun _ => 0))), (q_1, .inl (cs 0, 40, .inl (fun _ => 0))), (q_2, .inl (cs 0, 40, .inl (fun _ => 0))), (q_3, .inl (cs 0, 40, .inl (fun _ => 0))), (q_4, .inl (cs 0, 32, .inl (fun _ => 0))), (q_5, .inl (cs 0, 32, .inl (fun _ => 0))), (q_6, .inl (cs 0, 32, .inl (fun _ => 0))), (q_7, .inl (cs 0, 32, .inl (fun _ => 0))), (q_8, .inl (cs 2, 120, .inl (fun _ => 0))), (q_9, .inl (cs 0, 45, .inl (fun _ => 0))), (q_10, .inl (cs 0, 45, .inl (fun _ => 0))), (q_11, .inl (cs 0, 45, .inl (fun _ => 0))), (q_12, .inl (cs 0, 45, .inl (fun _ => 0))), (q_13, .inl (cs 0, 45, .inl (fun _ => 0))), (q_14, .inl (cs 0, 45, .inl (fun _ => 0))), (q_15, .inl (cs 0, 45, .inl (fun _ => 0))), (q_16, .inl (cs 0, 45, .inl (fun _ => 0))), (q_17, .inl (cs 0, 45, .inl (fun _ => 0))), (q_18, .inl (cs 2, 1440, .inl (fun _ => 0))), (q_19, .inl (cs 2, 1440, .inl (fun _ => 0))), (q_20, .inl (cs 0, 40, .inl (fun _ => 0))), (q_21, .inl (cs 0, 40, .inl (fun _ => 0))), (q_22, .inl (cs 0, 40, .inl (fun _ => 0))), (q_23, .inl (cs 0, 40, .inl (fun _ => 0))), (q_24, .inl (cs 2, 4290, .inl (fun _ => 0))), (q_25, .inl (cs 0, 4290, .inl (fun _ => 0))), (q_26, .inl (cs 0, 33, .inl (fun _ => 0))), (q_27, .inl (cs 3, 2013, .inl (fun _ => 0))), (q_28, .inl (cs 3, 2013, .inl (fun _ => 0))), (q_29, .inl (cs 0, 11, .inl (fun _ => 0))), (q_30, .inl (cs 0, 130, .inl (fun _ => 0))), (q_31, .inl (cs 4, 240, .inl (fun _ => 0))), (q_32, .inl (cs 0, 20, .inl (fun _ => 0))), (q_33, .inl (cs 0, 7, .inl (fun _ => 0))), (q_34, .inl (cs 0, 5, .inl (fun _ => 0))), (q_35, .inl (cs 0, 5, .inl (fun _ => 0))), (q_36, .inl (cs 0, 5376, .inl (fun _ => 0))), (q_37, .inl (cs 0, 20, .inl (fun _ => 0))), (q_38, .inl (cs 0, 24, .inl (fun _ => 0))), (q_39, .inl (cs 0, 6, .inl (upd (upd (upd (upd (upd (upd (fun _ => 0) ((0 : Int32)).toNatClampNeg (-1 : Int32)) ((1 : Int32)).toNatClampNeg (-1 : Int32)) ((2 : Int32)).toNatClampNeg (-1 : Int32)) ((3 : Int32)).toNatClampNeg (-1 : Int32)) ((4 : Int32)).toNatClampNeg (-1 : Int32)) ((5 : Int32)).toNatClampNeg (-1 : Int32)))), (q_40, .inl (cs 0, 6, .inl (fun _ => 0))), (q_41, .inl (cs 1, 360, .inr (.inl (fun _ => 0)))), (q_42, .inl (cs 1, 60, .inr (.inl (fun _ => 0))))] := hD
  refine W.widen (k := 43) (n := 22762) (Nat.le_of_ble_eq_true rfl) (Nat.le_of_ble_eq_true rfl) ?_
  exact W.vret hx hb hr (fun t ht2 hW => ⟨⟨fun k => [q_0, q_1, q_2, q_3, q_4, q_5, q_6, q_7, q_8, q_9, q_10, q_11, q_12, q_13, q_14, q_15, q_16, q_17, q_18, q_19, q_20, q_21, q_22, q_23, q_24, q_25, q_26, q_27, q_28, q_29, q_30, q_31, q_32, q_33, q_34, q_35, q_36, q_37, q_38, q_39, q_40, q_41, q_42].getD k 0, rfl, trivial, by rw [ht2]; exact hP, hD⟩, hS.F ht2⟩) hS.2.2 dX12_init_380 hlocks

theorem zP_l {D : va_G} {X PL : va_W} {H : Heap} (h : va_P D classes (X ++ PL) H) : va_P D classes X H := fun k q hk => h k q (by rw [List.getElem?_append_left (List.getElem?_eq_some_iff.mp hk).1]; exact hk)
theorem zD_l {A : Nat → Prop} {X PL : va_W} (h : va_D A (X ++ PL)) : va_D A X := by
  have g : ∀ (k : Nat) (q : Nat × va_E), X[k]? = some q → (X ++ PL)[k]? = some q := fun k q hk => by rw [List.getElem?_append_left (List.getElem?_eq_some_iff.mp hk).1]; exact hk
  exact ⟨fun i j p q hi hj e => h.1 i j p q (g i p hi) (g j q hj) e, fun k q hk => h.2 k q (g k q hk)⟩
theorem zPm {X PL : va_W} {j n : Nat} {q : Nat × va_E} (h : PL[j]? = some q) (hn : X.length = n) : (X ++ PL)[n + j]? = some q := by
  rw [← hn, List.getElem?_append_right (Nat.le_add_right _ _), Nat.add_sub_cancel_left]
  exact h
theorem zk_joinM {A : Nat → Prop} {D : va_G} {ws : va_W} {H H1 : Heap} {b j : Nat} {e : va_E} (hP : va_P D classes ws H) (hD : va_D A ws) (hj : ws[j]? = some (b, e)) (hk : ∀ q : Nat, q < H.size → ¬ va_A [(b, e)] H.size q → H1[q]? = H[q]?) (hB : va_P D classes [(b, e)] H1) : va_P D classes ws H1 := by
  intro k q hq
  by_cases c : q.1 = b
  · have e1 : k = j := hD.1 k j q (b, e) hq hj c
    subst e1
    have e2 : q = (b, e) := Option.some.inj (hq.symm.trans hj)
    rw [e2]
    exact hB 0 (b, e) rfl
  · have hl := (hP k q hq).lt
    refine (hP k q hq).kept (hk q.1 hl (fun h => ?_))
    rcases h with ⟨i, e2, h⟩ | h
    · cases i with
      | zero => exact c (congrArg Prod.fst (Option.some.inj h)).symm
      | succ i => cases h
    · omega
section ZKP
variable {p : Program} {l : Launch} {e : Env} {R : Room} {s : State} {m : MethodId} {args : Array Value} {below : List Frame} {meth : Method} {c : Code} {H : Heap} {locs : List Loc} {cells slots : Nat} {Q : State → Prop} {ls : Array Slot} {pc : Nat}
variable {A : Nat → Prop} {D : va_G} {cs : Nat → ClassId} {X cx PL : va_W} {S : Type} {w1 pl1 : S → va_W} {y : MethodName} {wsY : List Cond} {rm : Room} {C own host : String} {index maxL mc ms n nL : Nat} {bytes cc : ByteArray} {ret : Option FieldType} {b : Nat} {As rest : List Value}
theorem zk_viP  {post : Int32 → S → Prop} (hM : Met l y wsY rm (va_Pc (.ref b :: As) (zPre D cs (cx ++ PL) H.size)) (va_Qi post (fun (u : S) (t : State) => va_P D classes (w1 u ++ pl1 u) t.heap ∧ va_D (va_A (cx ++ PL) H.size) (w1 u ++ pl1 u)) (va_A (cx ++ PL) H.size)) mc ms (va_A (cx ++ PL) H.size))
    (S0 : CallFix p m c cc nL s args zW own) (cw : CallW R s args own C index y bytes maxL ret wsY rm mc ms n) (hrv : ∃ cellB : Cell, H[b]? = some cellB ∧ cellB.vm.isStatics = false ∧ s.vm.findClass C = some cellB.cls)
    (hP : va_P D classes (X ++ PL) H) (hD : va_D A (X ++ PL)) (hS : va_S A s.heap H locs) (hK : va_K D classes (zT cs) s) (hA : ∀ q : Nat, s.heap.size ≤ q → A q) (isC isR : List Nat) (hC : isC.map (fun i => X[i]?) = cx.map some) (hnC : va_nd isC = true) (hR : isR.map (fun i => X[i]?) = (isR.filterMap (fun i => X[i]?)).map some) (hn : va_nd isR = true) (hdis : ∀ i ∈ isR, i ∉ isC)
    (hlen : As.length = n) (hsize : ls.size = nL) (hW : (rest.map fun v => v.category).sum ≤ 8) (hdg : decode cc pc = .ok (.invokevirtual index, 3)) (hf : cells + mc ≤ R.cells ∧ slots + ms ≤ R.slots)
    (kk : ∀ (r : Int32) (u : S) (H1 : Heap) (locs1 : List Loc), post r u → va_P D classes ((isR.filterMap (fun i => X[i]?) ++ w1 u) ++ pl1 u) H1 → va_D A ((isR.filterMap (fun i => X[i]?) ++ w1 u) ++ pl1 u) → va_S A s.heap H1 locs1 → W p l e R s m args below meth c H1 locs1 (cells + mc) (slots + ms) Q (F0 m (pc + 3) ls (.int r :: rest))) :
    W p l e R s m args below meth c H locs cells slots Q (F0 m pc ls (As.reverse ++ .ref b :: rest)) := by
  have hPc : va_P D classes (cx ++ PL) H := hP.part isC hC
  have hDc : va_D A (cx ++ PL) := hD.part isC hnC hC
  have hFc := va_freeP hD hS hA isC hC
  refine va_calli (va_runV (As := As) (rest := rest) S0 hM cw ⟨zPre_blind, hrv, fun U hU hW => ⟨rfl, ⟨by rw [hU], by rw [hU]; exact hPc, va_K.moved hW.alike hK, hDc.weaken (fun _ _ _ _ => trivial)⟩⟩⟩ rfl hlen hsize rfl (lv_room hW) hdg hf) hS (fun q _ h => hFc q h) hFc (fun r u t H1 locs1 ht hvm hw hB hz1 hk1 hS1 => ?_)
  have hB : va_P D classes (w1 u ++ pl1 u) t.heap ∧ va_D (va_A (cx ++ PL) H.size) (w1 u ++ pl1 u) := hB
  rw [ht] at hB
  obtain ⟨hP2, hD2⟩ := va_joinP hP hD isC isR hC hR hn hdis hk1 hFc hB.1 hB.2
  exact kk r u H1 locs1 hw hP2 hD2 hS1
theorem zk_viQ  {post : Int32 → S → Prop} (hM : Met l y wsY rm (va_Pc (.ref b :: As) (zPre D cs cx H.size)) (va_Qi post (fun (u : S) (t : State) => va_P D classes (w1 u) t.heap ∧ va_D (va_A cx H.size) (w1 u)) (va_A cx H.size)) mc ms (va_A cx H.size))
    (S0 : CallFix p m c cc nL s args zW own) (cw : CallW R s args own C index y bytes maxL ret wsY rm mc ms n) (hrv : ∃ cellB : Cell, H[b]? = some cellB ∧ cellB.vm.isStatics = false ∧ s.vm.findClass C = some cellB.cls)
    (hP : va_P D classes (X ++ PL) H) (hD : va_D A (X ++ PL)) (hS : va_S A s.heap H locs) (hK : va_K D classes (zT cs) s) (hA : ∀ q : Nat, s.heap.size ≤ q → A q) (isC isR : List Nat) (hC : isC.map (fun i => X[i]?) = cx.map some) (hnC : va_nd isC = true) (hR : isR.map (fun i => X[i]?) = (isR.filterMap (fun i => X[i]?)).map some) (hn : va_nd isR = true) (hdis : ∀ i ∈ isR, i ∉ isC)
    (hlen : As.length = n) (hsize : ls.size = nL) (hW : (rest.map fun v => v.category).sum ≤ 8) (hdg : decode cc pc = .ok (.invokevirtual index, 3)) (hf : cells + mc ≤ R.cells ∧ slots + ms ≤ R.slots)
    (kk : ∀ (r : Int32) (u : S) (H1 : Heap) (locs1 : List Loc), post r u → va_P D classes ((isR.filterMap (fun i => X[i]?) ++ w1 u) ++ PL) H1 → va_D A ((isR.filterMap (fun i => X[i]?) ++ w1 u) ++ PL) → va_S A s.heap H1 locs1 → W p l e R s m args below meth c H1 locs1 (cells + mc) (slots + ms) Q (F0 m (pc + 3) ls (.int r :: rest))) :
    W p l e R s m args below meth c H locs cells slots Q (F0 m pc ls (As.reverse ++ .ref b :: rest)) := by
  have hPc : va_P D classes cx H := (zP_l hP).sub isC (zk_fm hC)
  have hDc : va_D A cx := (zD_l hD).sub isC hnC hC
  have hFc := va_free (zD_l hD) hS hA isC hC
  refine va_calli (va_runV (As := As) (rest := rest) S0 hM cw ⟨zPre_blind, hrv, fun U hU hW => ⟨rfl, ⟨by rw [hU], by rw [hU]; exact hPc, va_K.moved hW.alike hK, hDc.weaken (fun _ _ _ _ => trivial)⟩⟩⟩ rfl hlen hsize rfl (lv_room hW) hdg hf) hS (fun q _ h => hFc q h) hFc (fun r u t H1 locs1 ht hvm hw hB hz1 hk1 hS1 => ?_)
  have hB : va_P D classes (w1 u) t.heap ∧ va_D (va_A cx H.size) (w1 u) := hB
  rw [ht] at hB
  obtain ⟨hP2, hD2⟩ := va_joinQ hP hD isC isR hC hR hn hdis hk1 hFc hB.1 hB.2
  exact kk r u H1 locs1 hw hP2 hD2 hS1
theorem zk_viOP  {post : Int32 → S → Prop} (hO : zO s) (hM : Met l y wsY rm (va_Pc (.ref b :: As) (zPreO D cs (cx ++ PL) H.size)) (va_Qi post (fun (u : S) (t : State) => va_P D classes (w1 u ++ pl1 u) t.heap ∧ va_D (va_A (cx ++ PL) H.size) (w1 u ++ pl1 u)) (va_A (cx ++ PL) H.size)) mc ms (va_A (cx ++ PL) H.size))
    (S0 : CallFix p m c cc nL s args zW own) (cw : CallW R s args own C index y bytes maxL ret wsY rm mc ms n) (hrv : ∃ cellB : Cell, H[b]? = some cellB ∧ cellB.vm.isStatics = false ∧ s.vm.findClass C = some cellB.cls)
    (hP : va_P D classes (X ++ PL) H) (hD : va_D A (X ++ PL)) (hS : va_S A s.heap H locs) (hK : va_K D classes (zT cs) s) (hA : ∀ q : Nat, s.heap.size ≤ q → A q) (isC isR : List Nat) (hC : isC.map (fun i => X[i]?) = cx.map some) (hnC : va_nd isC = true) (hR : isR.map (fun i => X[i]?) = (isR.filterMap (fun i => X[i]?)).map some) (hn : va_nd isR = true) (hdis : ∀ i ∈ isR, i ∉ isC)
    (hlen : As.length = n) (hsize : ls.size = nL) (hW : (rest.map fun v => v.category).sum ≤ 8) (hdg : decode cc pc = .ok (.invokevirtual index, 3)) (hf : cells + mc ≤ R.cells ∧ slots + ms ≤ R.slots)
    (kk : ∀ (r : Int32) (u : S) (H1 : Heap) (locs1 : List Loc), post r u → va_P D classes ((isR.filterMap (fun i => X[i]?) ++ w1 u) ++ pl1 u) H1 → va_D A ((isR.filterMap (fun i => X[i]?) ++ w1 u) ++ pl1 u) → va_S A s.heap H1 locs1 → W p l e R s m args below meth c H1 locs1 (cells + mc) (slots + ms) Q (F0 m (pc + 3) ls (.int r :: rest))) :
    W p l e R s m args below meth c H locs cells slots Q (F0 m pc ls (As.reverse ++ .ref b :: rest)) := by
  have hPc : va_P D classes (cx ++ PL) H := hP.part isC hC
  have hDc : va_D A (cx ++ PL) := hD.part isC hnC hC
  have hFc := va_freeP hD hS hA isC hC
  refine va_calli (va_runV (As := As) (rest := rest) S0 hM cw ⟨zPreO_blind, hrv, fun U hU hW => ⟨rfl, ⟨by rw [hU], by rw [hU]; exact hPc, va_K.moved hW.alike hK, hDc.weaken (fun _ _ _ _ => trivial)⟩, zO.warm hW hO⟩⟩ rfl hlen hsize rfl (lv_room hW) hdg hf) hS (fun q _ h => hFc q h) hFc (fun r u t H1 locs1 ht hvm hw hB hz1 hk1 hS1 => ?_)
  have hB : va_P D classes (w1 u ++ pl1 u) t.heap ∧ va_D (va_A (cx ++ PL) H.size) (w1 u ++ pl1 u) := hB
  rw [ht] at hB
  obtain ⟨hP2, hD2⟩ := va_joinP hP hD isC isR hC hR hn hdis hk1 hFc hB.1 hB.2
  exact kk r u H1 locs1 hw hP2 hD2 hS1
theorem zk_viOQ  {post : Int32 → S → Prop} (hO : zO s) (hM : Met l y wsY rm (va_Pc (.ref b :: As) (zPreO D cs cx H.size)) (va_Qi post (fun (u : S) (t : State) => va_P D classes (w1 u) t.heap ∧ va_D (va_A cx H.size) (w1 u)) (va_A cx H.size)) mc ms (va_A cx H.size))
    (S0 : CallFix p m c cc nL s args zW own) (cw : CallW R s args own C index y bytes maxL ret wsY rm mc ms n) (hrv : ∃ cellB : Cell, H[b]? = some cellB ∧ cellB.vm.isStatics = false ∧ s.vm.findClass C = some cellB.cls)
    (hP : va_P D classes (X ++ PL) H) (hD : va_D A (X ++ PL)) (hS : va_S A s.heap H locs) (hK : va_K D classes (zT cs) s) (hA : ∀ q : Nat, s.heap.size ≤ q → A q) (isC isR : List Nat) (hC : isC.map (fun i => X[i]?) = cx.map some) (hnC : va_nd isC = true) (hR : isR.map (fun i => X[i]?) = (isR.filterMap (fun i => X[i]?)).map some) (hn : va_nd isR = true) (hdis : ∀ i ∈ isR, i ∉ isC)
    (hlen : As.length = n) (hsize : ls.size = nL) (hW : (rest.map fun v => v.category).sum ≤ 8) (hdg : decode cc pc = .ok (.invokevirtual index, 3)) (hf : cells + mc ≤ R.cells ∧ slots + ms ≤ R.slots)
    (kk : ∀ (r : Int32) (u : S) (H1 : Heap) (locs1 : List Loc), post r u → va_P D classes ((isR.filterMap (fun i => X[i]?) ++ w1 u) ++ PL) H1 → va_D A ((isR.filterMap (fun i => X[i]?) ++ w1 u) ++ PL) → va_S A s.heap H1 locs1 → W p l e R s m args below meth c H1 locs1 (cells + mc) (slots + ms) Q (F0 m (pc + 3) ls (.int r :: rest))) :
    W p l e R s m args below meth c H locs cells slots Q (F0 m pc ls (As.reverse ++ .ref b :: rest)) := by
  have hPc : va_P D classes cx H := (zP_l hP).sub isC (zk_fm hC)
  have hDc : va_D A cx := (zD_l hD).sub isC hnC hC
  have hFc := va_free (zD_l hD) hS hA isC hC
  refine va_calli (va_runV (As := As) (rest := rest) S0 hM cw ⟨zPreO_blind, hrv, fun U hU hW => ⟨rfl, ⟨by rw [hU], by rw [hU]; exact hPc, va_K.moved hW.alike hK, hDc.weaken (fun _ _ _ _ => trivial)⟩, zO.warm hW hO⟩⟩ rfl hlen hsize rfl (lv_room hW) hdg hf) hS (fun q _ h => hFc q h) hFc (fun r u t H1 locs1 ht hvm hw hB hz1 hk1 hS1 => ?_)
  have hB : va_P D classes (w1 u) t.heap ∧ va_D (va_A cx H.size) (w1 u) := hB
  rw [ht] at hB
  obtain ⟨hP2, hD2⟩ := va_joinQ hP hD isC isR hC hR hn hdis hk1 hFc hB.1 hB.2
  exact kk r u H1 locs1 hw hP2 hD2 hS1
theorem zk_vlP  {post : Int64 → S → Prop} (hM : Met l y wsY rm (va_Pc (.ref b :: As) (zPre D cs (cx ++ PL) H.size)) (va_Ql post (fun (u : S) (t : State) => va_P D classes (w1 u ++ pl1 u) t.heap ∧ va_D (va_A (cx ++ PL) H.size) (w1 u ++ pl1 u)) (va_A (cx ++ PL) H.size)) mc ms (va_A (cx ++ PL) H.size))
    (S0 : CallFix p m c cc nL s args zW own) (cw : CallW R s args own C index y bytes maxL ret wsY rm mc ms n) (hrv : ∃ cellB : Cell, H[b]? = some cellB ∧ cellB.vm.isStatics = false ∧ s.vm.findClass C = some cellB.cls)
    (hP : va_P D classes (X ++ PL) H) (hD : va_D A (X ++ PL)) (hS : va_S A s.heap H locs) (hK : va_K D classes (zT cs) s) (hA : ∀ q : Nat, s.heap.size ≤ q → A q) (isC isR : List Nat) (hC : isC.map (fun i => X[i]?) = cx.map some) (hnC : va_nd isC = true) (hR : isR.map (fun i => X[i]?) = (isR.filterMap (fun i => X[i]?)).map some) (hn : va_nd isR = true) (hdis : ∀ i ∈ isR, i ∉ isC)
    (hlen : As.length = n) (hsize : ls.size = nL) (hW : (rest.map fun v => v.category).sum ≤ 8) (hdg : decode cc pc = .ok (.invokevirtual index, 3)) (hf : cells + mc ≤ R.cells ∧ slots + ms ≤ R.slots)
    (kk : ∀ (r : Int64) (u : S) (H1 : Heap) (locs1 : List Loc), post r u → va_P D classes ((isR.filterMap (fun i => X[i]?) ++ w1 u) ++ pl1 u) H1 → va_D A ((isR.filterMap (fun i => X[i]?) ++ w1 u) ++ pl1 u) → va_S A s.heap H1 locs1 → W p l e R s m args below meth c H1 locs1 (cells + mc) (slots + ms) Q (F0 m (pc + 3) ls (.long r :: rest))) :
    W p l e R s m args below meth c H locs cells slots Q (F0 m pc ls (As.reverse ++ .ref b :: rest)) := by
  have hPc : va_P D classes (cx ++ PL) H := hP.part isC hC
  have hDc : va_D A (cx ++ PL) := hD.part isC hnC hC
  have hFc := va_freeP hD hS hA isC hC
  refine va_calll (va_runV (As := As) (rest := rest) S0 hM cw ⟨zPre_blind, hrv, fun U hU hW => ⟨rfl, ⟨by rw [hU], by rw [hU]; exact hPc, va_K.moved hW.alike hK, hDc.weaken (fun _ _ _ _ => trivial)⟩⟩⟩ rfl hlen hsize rfl (lv_room hW) hdg hf) hS (fun q _ h => hFc q h) hFc (fun r u t H1 locs1 ht hvm hw hB hz1 hk1 hS1 => ?_)
  have hB : va_P D classes (w1 u ++ pl1 u) t.heap ∧ va_D (va_A (cx ++ PL) H.size) (w1 u ++ pl1 u) := hB
  rw [ht] at hB
  obtain ⟨hP2, hD2⟩ := va_joinP hP hD isC isR hC hR hn hdis hk1 hFc hB.1 hB.2
  exact kk r u H1 locs1 hw hP2 hD2 hS1
theorem zk_vlQ  {post : Int64 → S → Prop} (hM : Met l y wsY rm (va_Pc (.ref b :: As) (zPre D cs cx H.size)) (va_Ql post (fun (u : S) (t : State) => va_P D classes (w1 u) t.heap ∧ va_D (va_A cx H.size) (w1 u)) (va_A cx H.size)) mc ms (va_A cx H.size))
    (S0 : CallFix p m c cc nL s args zW own) (cw : CallW R s args own C index y bytes maxL ret wsY rm mc ms n) (hrv : ∃ cellB : Cell, H[b]? = some cellB ∧ cellB.vm.isStatics = false ∧ s.vm.findClass C = some cellB.cls)
    (hP : va_P D classes (X ++ PL) H) (hD : va_D A (X ++ PL)) (hS : va_S A s.heap H locs) (hK : va_K D classes (zT cs) s) (hA : ∀ q : Nat, s.heap.size ≤ q → A q) (isC isR : List Nat) (hC : isC.map (fun i => X[i]?) = cx.map some) (hnC : va_nd isC = true) (hR : isR.map (fun i => X[i]?) = (isR.filterMap (fun i => X[i]?)).map some) (hn : va_nd isR = true) (hdis : ∀ i ∈ isR, i ∉ isC)
    (hlen : As.length = n) (hsize : ls.size = nL) (hW : (rest.map fun v => v.category).sum ≤ 8) (hdg : decode cc pc = .ok (.invokevirtual index, 3)) (hf : cells + mc ≤ R.cells ∧ slots + ms ≤ R.slots)
    (kk : ∀ (r : Int64) (u : S) (H1 : Heap) (locs1 : List Loc), post r u → va_P D classes ((isR.filterMap (fun i => X[i]?) ++ w1 u) ++ PL) H1 → va_D A ((isR.filterMap (fun i => X[i]?) ++ w1 u) ++ PL) → va_S A s.heap H1 locs1 → W p l e R s m args below meth c H1 locs1 (cells + mc) (slots + ms) Q (F0 m (pc + 3) ls (.long r :: rest))) :
    W p l e R s m args below meth c H locs cells slots Q (F0 m pc ls (As.reverse ++ .ref b :: rest)) := by
  have hPc : va_P D classes cx H := (zP_l hP).sub isC (zk_fm hC)
  have hDc : va_D A cx := (zD_l hD).sub isC hnC hC
  have hFc := va_free (zD_l hD) hS hA isC hC
  refine va_calll (va_runV (As := As) (rest := rest) S0 hM cw ⟨zPre_blind, hrv, fun U hU hW => ⟨rfl, ⟨by rw [hU], by rw [hU]; exact hPc, va_K.moved hW.alike hK, hDc.weaken (fun _ _ _ _ => trivial)⟩⟩⟩ rfl hlen hsize rfl (lv_room hW) hdg hf) hS (fun q _ h => hFc q h) hFc (fun r u t H1 locs1 ht hvm hw hB hz1 hk1 hS1 => ?_)
  have hB : va_P D classes (w1 u) t.heap ∧ va_D (va_A cx H.size) (w1 u) := hB
  rw [ht] at hB
  obtain ⟨hP2, hD2⟩ := va_joinQ hP hD isC isR hC hR hn hdis hk1 hFc hB.1 hB.2
  exact kk r u H1 locs1 hw hP2 hD2 hS1
theorem zk_vlOP  {post : Int64 → S → Prop} (hO : zO s) (hM : Met l y wsY rm (va_Pc (.ref b :: As) (zPreO D cs (cx ++ PL) H.size)) (va_Ql post (fun (u : S) (t : State) => va_P D classes (w1 u ++ pl1 u) t.heap ∧ va_D (va_A (cx ++ PL) H.size) (w1 u ++ pl1 u)) (va_A (cx ++ PL) H.size)) mc ms (va_A (cx ++ PL) H.size))
    (S0 : CallFix p m c cc nL s args zW own) (cw : CallW R s args own C index y bytes maxL ret wsY rm mc ms n) (hrv : ∃ cellB : Cell, H[b]? = some cellB ∧ cellB.vm.isStatics = false ∧ s.vm.findClass C = some cellB.cls)
    (hP : va_P D classes (X ++ PL) H) (hD : va_D A (X ++ PL)) (hS : va_S A s.heap H locs) (hK : va_K D classes (zT cs) s) (hA : ∀ q : Nat, s.heap.size ≤ q → A q) (isC isR : List Nat) (hC : isC.map (fun i => X[i]?) = cx.map some) (hnC : va_nd isC = true) (hR : isR.map (fun i => X[i]?) = (isR.filterMap (fun i => X[i]?)).map some) (hn : va_nd isR = true) (hdis : ∀ i ∈ isR, i ∉ isC)
    (hlen : As.length = n) (hsize : ls.size = nL) (hW : (rest.map fun v => v.category).sum ≤ 8) (hdg : decode cc pc = .ok (.invokevirtual index, 3)) (hf : cells + mc ≤ R.cells ∧ slots + ms ≤ R.slots)
    (kk : ∀ (r : Int64) (u : S) (H1 : Heap) (locs1 : List Loc), post r u → va_P D classes ((isR.filterMap (fun i => X[i]?) ++ w1 u) ++ pl1 u) H1 → va_D A ((isR.filterMap (fun i => X[i]?) ++ w1 u) ++ pl1 u) → va_S A s.heap H1 locs1 → W p l e R s m args below meth c H1 locs1 (cells + mc) (slots + ms) Q (F0 m (pc + 3) ls (.long r :: rest))) :
    W p l e R s m args below meth c H locs cells slots Q (F0 m pc ls (As.reverse ++ .ref b :: rest)) := by
  have hPc : va_P D classes (cx ++ PL) H := hP.part isC hC
  have hDc : va_D A (cx ++ PL) := hD.part isC hnC hC
  have hFc := va_freeP hD hS hA isC hC
  refine va_calll (va_runV (As := As) (rest := rest) S0 hM cw ⟨zPreO_blind, hrv, fun U hU hW => ⟨rfl, ⟨by rw [hU], by rw [hU]; exact hPc, va_K.moved hW.alike hK, hDc.weaken (fun _ _ _ _ => trivial)⟩, zO.warm hW hO⟩⟩ rfl hlen hsize rfl (lv_room hW) hdg hf) hS (fun q _ h => hFc q h) hFc (fun r u t H1 locs1 ht hvm hw hB hz1 hk1 hS1 => ?_)
  have hB : va_P D classes (w1 u ++ pl1 u) t.heap ∧ va_D (va_A (cx ++ PL) H.size) (w1 u ++ pl1 u) := hB
  rw [ht] at hB
  obtain ⟨hP2, hD2⟩ := va_joinP hP hD isC isR hC hR hn hdis hk1 hFc hB.1 hB.2
  exact kk r u H1 locs1 hw hP2 hD2 hS1
theorem zk_vlOQ  {post : Int64 → S → Prop} (hO : zO s) (hM : Met l y wsY rm (va_Pc (.ref b :: As) (zPreO D cs cx H.size)) (va_Ql post (fun (u : S) (t : State) => va_P D classes (w1 u) t.heap ∧ va_D (va_A cx H.size) (w1 u)) (va_A cx H.size)) mc ms (va_A cx H.size))
    (S0 : CallFix p m c cc nL s args zW own) (cw : CallW R s args own C index y bytes maxL ret wsY rm mc ms n) (hrv : ∃ cellB : Cell, H[b]? = some cellB ∧ cellB.vm.isStatics = false ∧ s.vm.findClass C = some cellB.cls)
    (hP : va_P D classes (X ++ PL) H) (hD : va_D A (X ++ PL)) (hS : va_S A s.heap H locs) (hK : va_K D classes (zT cs) s) (hA : ∀ q : Nat, s.heap.size ≤ q → A q) (isC isR : List Nat) (hC : isC.map (fun i => X[i]?) = cx.map some) (hnC : va_nd isC = true) (hR : isR.map (fun i => X[i]?) = (isR.filterMap (fun i => X[i]?)).map some) (hn : va_nd isR = true) (hdis : ∀ i ∈ isR, i ∉ isC)
    (hlen : As.length = n) (hsize : ls.size = nL) (hW : (rest.map fun v => v.category).sum ≤ 8) (hdg : decode cc pc = .ok (.invokevirtual index, 3)) (hf : cells + mc ≤ R.cells ∧ slots + ms ≤ R.slots)
    (kk : ∀ (r : Int64) (u : S) (H1 : Heap) (locs1 : List Loc), post r u → va_P D classes ((isR.filterMap (fun i => X[i]?) ++ w1 u) ++ PL) H1 → va_D A ((isR.filterMap (fun i => X[i]?) ++ w1 u) ++ PL) → va_S A s.heap H1 locs1 → W p l e R s m args below meth c H1 locs1 (cells + mc) (slots + ms) Q (F0 m (pc + 3) ls (.long r :: rest))) :
    W p l e R s m args below meth c H locs cells slots Q (F0 m pc ls (As.reverse ++ .ref b :: rest)) := by
  have hPc : va_P D classes cx H := (zP_l hP).sub isC (zk_fm hC)
  have hDc : va_D A cx := (zD_l hD).sub isC hnC hC
  have hFc := va_free (zD_l hD) hS hA isC hC
  refine va_calll (va_runV (As := As) (rest := rest) S0 hM cw ⟨zPreO_blind, hrv, fun U hU hW => ⟨rfl, ⟨by rw [hU], by rw [hU]; exact hPc, va_K.moved hW.alike hK, hDc.weaken (fun _ _ _ _ => trivial)⟩, zO.warm hW hO⟩⟩ rfl hlen hsize rfl (lv_room hW) hdg hf) hS (fun q _ h => hFc q h) hFc (fun r u t H1 locs1 ht hvm hw hB hz1 hk1 hS1 => ?_)
  have hB : va_P D classes (w1 u) t.heap ∧ va_D (va_A cx H.size) (w1 u) := hB
  rw [ht] at hB
  obtain ⟨hP2, hD2⟩ := va_joinQ hP hD isC isR hC hR hn hdis hk1 hFc hB.1 hB.2
  exact kk r u H1 locs1 hw hP2 hD2 hS1
theorem zk_vvP  {post : S → Prop} (hM : Met l y wsY rm (va_Pc (.ref b :: As) (zPre D cs (cx ++ PL) H.size)) (va_Qv post (fun (u : S) (t : State) => va_P D classes (w1 u ++ pl1 u) t.heap ∧ va_D (va_A (cx ++ PL) H.size) (w1 u ++ pl1 u)) (va_A (cx ++ PL) H.size)) mc ms (va_A (cx ++ PL) H.size))
    (S0 : CallFix p m c cc nL s args zW own) (cw : CallW R s args own C index y bytes maxL ret wsY rm mc ms n) (hrv : ∃ cellB : Cell, H[b]? = some cellB ∧ cellB.vm.isStatics = false ∧ s.vm.findClass C = some cellB.cls)
    (hP : va_P D classes (X ++ PL) H) (hD : va_D A (X ++ PL)) (hS : va_S A s.heap H locs) (hK : va_K D classes (zT cs) s) (hA : ∀ q : Nat, s.heap.size ≤ q → A q) (isC isR : List Nat) (hC : isC.map (fun i => X[i]?) = cx.map some) (hnC : va_nd isC = true) (hR : isR.map (fun i => X[i]?) = (isR.filterMap (fun i => X[i]?)).map some) (hn : va_nd isR = true) (hdis : ∀ i ∈ isR, i ∉ isC)
    (hlen : As.length = n) (hsize : ls.size = nL) (hW : (rest.map fun v => v.category).sum ≤ 8) (hdg : decode cc pc = .ok (.invokevirtual index, 3)) (hf : cells + mc ≤ R.cells ∧ slots + ms ≤ R.slots)
    (kk : ∀ (u : S) (H1 : Heap) (locs1 : List Loc), post u → va_P D classes ((isR.filterMap (fun i => X[i]?) ++ w1 u) ++ pl1 u) H1 → va_D A ((isR.filterMap (fun i => X[i]?) ++ w1 u) ++ pl1 u) → va_S A s.heap H1 locs1 → W p l e R s m args below meth c H1 locs1 (cells + mc) (slots + ms) Q (F0 m (pc + 3) ls (rest))) :
    W p l e R s m args below meth c H locs cells slots Q (F0 m pc ls (As.reverse ++ .ref b :: rest)) := by
  have hPc : va_P D classes (cx ++ PL) H := hP.part isC hC
  have hDc : va_D A (cx ++ PL) := hD.part isC hnC hC
  have hFc := va_freeP hD hS hA isC hC
  refine va_callv (va_runV (As := As) (rest := rest) S0 hM cw ⟨zPre_blind, hrv, fun U hU hW => ⟨rfl, ⟨by rw [hU], by rw [hU]; exact hPc, va_K.moved hW.alike hK, hDc.weaken (fun _ _ _ _ => trivial)⟩⟩⟩ rfl hlen hsize rfl (lv_room hW) hdg hf) hS (fun q _ h => hFc q h) hFc (fun u t H1 locs1 ht hvm hw hB hz1 hk1 hS1 => ?_)
  have hB : va_P D classes (w1 u ++ pl1 u) t.heap ∧ va_D (va_A (cx ++ PL) H.size) (w1 u ++ pl1 u) := hB
  rw [ht] at hB
  obtain ⟨hP2, hD2⟩ := va_joinP hP hD isC isR hC hR hn hdis hk1 hFc hB.1 hB.2
  exact kk u H1 locs1 hw hP2 hD2 hS1
theorem zk_vvQ  {post : S → Prop} (hM : Met l y wsY rm (va_Pc (.ref b :: As) (zPre D cs cx H.size)) (va_Qv post (fun (u : S) (t : State) => va_P D classes (w1 u) t.heap ∧ va_D (va_A cx H.size) (w1 u)) (va_A cx H.size)) mc ms (va_A cx H.size))
    (S0 : CallFix p m c cc nL s args zW own) (cw : CallW R s args own C index y bytes maxL ret wsY rm mc ms n) (hrv : ∃ cellB : Cell, H[b]? = some cellB ∧ cellB.vm.isStatics = false ∧ s.vm.findClass C = some cellB.cls)
    (hP : va_P D classes (X ++ PL) H) (hD : va_D A (X ++ PL)) (hS : va_S A s.heap H locs) (hK : va_K D classes (zT cs) s) (hA : ∀ q : Nat, s.heap.size ≤ q → A q) (isC isR : List Nat) (hC : isC.map (fun i => X[i]?) = cx.map some) (hnC : va_nd isC = true) (hR : isR.map (fun i => X[i]?) = (isR.filterMap (fun i => X[i]?)).map some) (hn : va_nd isR = true) (hdis : ∀ i ∈ isR, i ∉ isC)
    (hlen : As.length = n) (hsize : ls.size = nL) (hW : (rest.map fun v => v.category).sum ≤ 8) (hdg : decode cc pc = .ok (.invokevirtual index, 3)) (hf : cells + mc ≤ R.cells ∧ slots + ms ≤ R.slots)
    (kk : ∀ (u : S) (H1 : Heap) (locs1 : List Loc), post u → va_P D classes ((isR.filterMap (fun i => X[i]?) ++ w1 u) ++ PL) H1 → va_D A ((isR.filterMap (fun i => X[i]?) ++ w1 u) ++ PL) → va_S A s.heap H1 locs1 → W p l e R s m args below meth c H1 locs1 (cells + mc) (slots + ms) Q (F0 m (pc + 3) ls (rest))) :
    W p l e R s m args below meth c H locs cells slots Q (F0 m pc ls (As.reverse ++ .ref b :: rest)) := by
  have hPc : va_P D classes cx H := (zP_l hP).sub isC (zk_fm hC)
  have hDc : va_D A cx := (zD_l hD).sub isC hnC hC
  have hFc := va_free (zD_l hD) hS hA isC hC
  refine va_callv (va_runV (As := As) (rest := rest) S0 hM cw ⟨zPre_blind, hrv, fun U hU hW => ⟨rfl, ⟨by rw [hU], by rw [hU]; exact hPc, va_K.moved hW.alike hK, hDc.weaken (fun _ _ _ _ => trivial)⟩⟩⟩ rfl hlen hsize rfl (lv_room hW) hdg hf) hS (fun q _ h => hFc q h) hFc (fun u t H1 locs1 ht hvm hw hB hz1 hk1 hS1 => ?_)
  have hB : va_P D classes (w1 u) t.heap ∧ va_D (va_A cx H.size) (w1 u) := hB
  rw [ht] at hB
  obtain ⟨hP2, hD2⟩ := va_joinQ hP hD isC isR hC hR hn hdis hk1 hFc hB.1 hB.2
  exact kk u H1 locs1 hw hP2 hD2 hS1
theorem zk_vvOP  {post : S → Prop} (hO : zO s) (hM : Met l y wsY rm (va_Pc (.ref b :: As) (zPreO D cs (cx ++ PL) H.size)) (va_Qv post (fun (u : S) (t : State) => va_P D classes (w1 u ++ pl1 u) t.heap ∧ va_D (va_A (cx ++ PL) H.size) (w1 u ++ pl1 u)) (va_A (cx ++ PL) H.size)) mc ms (va_A (cx ++ PL) H.size))
    (S0 : CallFix p m c cc nL s args zW own) (cw : CallW R s args own C index y bytes maxL ret wsY rm mc ms n) (hrv : ∃ cellB : Cell, H[b]? = some cellB ∧ cellB.vm.isStatics = false ∧ s.vm.findClass C = some cellB.cls)
    (hP : va_P D classes (X ++ PL) H) (hD : va_D A (X ++ PL)) (hS : va_S A s.heap H locs) (hK : va_K D classes (zT cs) s) (hA : ∀ q : Nat, s.heap.size ≤ q → A q) (isC isR : List Nat) (hC : isC.map (fun i => X[i]?) = cx.map some) (hnC : va_nd isC = true) (hR : isR.map (fun i => X[i]?) = (isR.filterMap (fun i => X[i]?)).map some) (hn : va_nd isR = true) (hdis : ∀ i ∈ isR, i ∉ isC)
    (hlen : As.length = n) (hsize : ls.size = nL) (hW : (rest.map fun v => v.category).sum ≤ 8) (hdg : decode cc pc = .ok (.invokevirtual index, 3)) (hf : cells + mc ≤ R.cells ∧ slots + ms ≤ R.slots)
    (kk : ∀ (u : S) (H1 : Heap) (locs1 : List Loc), post u → va_P D classes ((isR.filterMap (fun i => X[i]?) ++ w1 u) ++ pl1 u) H1 → va_D A ((isR.filterMap (fun i => X[i]?) ++ w1 u) ++ pl1 u) → va_S A s.heap H1 locs1 → W p l e R s m args below meth c H1 locs1 (cells + mc) (slots + ms) Q (F0 m (pc + 3) ls (rest))) :
    W p l e R s m args below meth c H locs cells slots Q (F0 m pc ls (As.reverse ++ .ref b :: rest)) := by
  have hPc : va_P D classes (cx ++ PL) H := hP.part isC hC
  have hDc : va_D A (cx ++ PL) := hD.part isC hnC hC
  have hFc := va_freeP hD hS hA isC hC
  refine va_callv (va_runV (As := As) (rest := rest) S0 hM cw ⟨zPreO_blind, hrv, fun U hU hW => ⟨rfl, ⟨by rw [hU], by rw [hU]; exact hPc, va_K.moved hW.alike hK, hDc.weaken (fun _ _ _ _ => trivial)⟩, zO.warm hW hO⟩⟩ rfl hlen hsize rfl (lv_room hW) hdg hf) hS (fun q _ h => hFc q h) hFc (fun u t H1 locs1 ht hvm hw hB hz1 hk1 hS1 => ?_)
  have hB : va_P D classes (w1 u ++ pl1 u) t.heap ∧ va_D (va_A (cx ++ PL) H.size) (w1 u ++ pl1 u) := hB
  rw [ht] at hB
  obtain ⟨hP2, hD2⟩ := va_joinP hP hD isC isR hC hR hn hdis hk1 hFc hB.1 hB.2
  exact kk u H1 locs1 hw hP2 hD2 hS1
theorem zk_vvOQ  {post : S → Prop} (hO : zO s) (hM : Met l y wsY rm (va_Pc (.ref b :: As) (zPreO D cs cx H.size)) (va_Qv post (fun (u : S) (t : State) => va_P D classes (w1 u) t.heap ∧ va_D (va_A cx H.size) (w1 u)) (va_A cx H.size)) mc ms (va_A cx H.size))
    (S0 : CallFix p m c cc nL s args zW own) (cw : CallW R s args own C index y bytes maxL ret wsY rm mc ms n) (hrv : ∃ cellB : Cell, H[b]? = some cellB ∧ cellB.vm.isStatics = false ∧ s.vm.findClass C = some cellB.cls)
    (hP : va_P D classes (X ++ PL) H) (hD : va_D A (X ++ PL)) (hS : va_S A s.heap H locs) (hK : va_K D classes (zT cs) s) (hA : ∀ q : Nat, s.heap.size ≤ q → A q) (isC isR : List Nat) (hC : isC.map (fun i => X[i]?) = cx.map some) (hnC : va_nd isC = true) (hR : isR.map (fun i => X[i]?) = (isR.filterMap (fun i => X[i]?)).map some) (hn : va_nd isR = true) (hdis : ∀ i ∈ isR, i ∉ isC)
    (hlen : As.length = n) (hsize : ls.size = nL) (hW : (rest.map fun v => v.category).sum ≤ 8) (hdg : decode cc pc = .ok (.invokevirtual index, 3)) (hf : cells + mc ≤ R.cells ∧ slots + ms ≤ R.slots)
    (kk : ∀ (u : S) (H1 : Heap) (locs1 : List Loc), post u → va_P D classes ((isR.filterMap (fun i => X[i]?) ++ w1 u) ++ PL) H1 → va_D A ((isR.filterMap (fun i => X[i]?) ++ w1 u) ++ PL) → va_S A s.heap H1 locs1 → W p l e R s m args below meth c H1 locs1 (cells + mc) (slots + ms) Q (F0 m (pc + 3) ls (rest))) :
    W p l e R s m args below meth c H locs cells slots Q (F0 m pc ls (As.reverse ++ .ref b :: rest)) := by
  have hPc : va_P D classes cx H := (zP_l hP).sub isC (zk_fm hC)
  have hDc : va_D A cx := (zD_l hD).sub isC hnC hC
  have hFc := va_free (zD_l hD) hS hA isC hC
  refine va_callv (va_runV (As := As) (rest := rest) S0 hM cw ⟨zPreO_blind, hrv, fun U hU hW => ⟨rfl, ⟨by rw [hU], by rw [hU]; exact hPc, va_K.moved hW.alike hK, hDc.weaken (fun _ _ _ _ => trivial)⟩, zO.warm hW hO⟩⟩ rfl hlen hsize rfl (lv_room hW) hdg hf) hS (fun q _ h => hFc q h) hFc (fun u t H1 locs1 ht hvm hw hB hz1 hk1 hS1 => ?_)
  have hB : va_P D classes (w1 u) t.heap ∧ va_D (va_A cx H.size) (w1 u) := hB
  rw [ht] at hB
  obtain ⟨hP2, hD2⟩ := va_joinQ hP hD isC isR hC hR hn hdis hk1 hFc hB.1 hB.2
  exact kk u H1 locs1 hw hP2 hD2 hS1
theorem zk_vqP  {post : Option Nat → S → Prop} (hM : Met l y wsY rm (va_Pc (.ref b :: As) (zPre D cs (cx ++ PL) H.size)) (va_Qq post (fun (u : S) (t : State) => va_P D classes (w1 u ++ pl1 u) t.heap ∧ va_D (va_A (cx ++ PL) H.size) (w1 u ++ pl1 u)) (va_A (cx ++ PL) H.size)) mc ms (va_A (cx ++ PL) H.size))
    (S0 : CallFix p m c cc nL s args zW own) (cw : CallW R s args own C index y bytes maxL ret wsY rm mc ms n) (hrv : ∃ cellB : Cell, H[b]? = some cellB ∧ cellB.vm.isStatics = false ∧ s.vm.findClass C = some cellB.cls)
    (hP : va_P D classes (X ++ PL) H) (hD : va_D A (X ++ PL)) (hS : va_S A s.heap H locs) (hK : va_K D classes (zT cs) s) (hA : ∀ q : Nat, s.heap.size ≤ q → A q) (isC isR : List Nat) (hC : isC.map (fun i => X[i]?) = cx.map some) (hnC : va_nd isC = true) (hR : isR.map (fun i => X[i]?) = (isR.filterMap (fun i => X[i]?)).map some) (hn : va_nd isR = true) (hdis : ∀ i ∈ isR, i ∉ isC)
    (hlen : As.length = n) (hsize : ls.size = nL) (hW : (rest.map fun v => v.category).sum ≤ 8) (hdg : decode cc pc = .ok (.invokevirtual index, 3)) (hf : cells + mc ≤ R.cells ∧ slots + ms ≤ R.slots)
    (kk : ∀ (r : Option Nat) (u : S) (H1 : Heap) (locs1 : List Loc), post r u → va_P D classes ((isR.filterMap (fun i => X[i]?) ++ w1 u) ++ pl1 u) H1 → va_D A ((isR.filterMap (fun i => X[i]?) ++ w1 u) ++ pl1 u) → va_S A s.heap H1 locs1 → W p l e R s m args below meth c H1 locs1 (cells + mc) (slots + ms) Q (F0 m (pc + 3) ls (va_rf r :: rest))) :
    W p l e R s m args below meth c H locs cells slots Q (F0 m pc ls (As.reverse ++ .ref b :: rest)) := by
  have hPc : va_P D classes (cx ++ PL) H := hP.part isC hC
  have hDc : va_D A (cx ++ PL) := hD.part isC hnC hC
  have hFc := va_freeP hD hS hA isC hC
  refine va_callq (va_runV (As := As) (rest := rest) S0 hM cw ⟨zPre_blind, hrv, fun U hU hW => ⟨rfl, ⟨by rw [hU], by rw [hU]; exact hPc, va_K.moved hW.alike hK, hDc.weaken (fun _ _ _ _ => trivial)⟩⟩⟩ rfl hlen hsize rfl (lv_room hW) hdg hf) hS (fun q _ h => hFc q h) hFc (fun r u t H1 locs1 ht hvm hw hB hz1 hk1 hS1 => ?_)
  have hB : va_P D classes (w1 u ++ pl1 u) t.heap ∧ va_D (va_A (cx ++ PL) H.size) (w1 u ++ pl1 u) := hB
  rw [ht] at hB
  obtain ⟨hP2, hD2⟩ := va_joinP hP hD isC isR hC hR hn hdis hk1 hFc hB.1 hB.2
  exact kk r u H1 locs1 hw hP2 hD2 hS1
theorem zk_vqQ  {post : Option Nat → S → Prop} (hM : Met l y wsY rm (va_Pc (.ref b :: As) (zPre D cs cx H.size)) (va_Qq post (fun (u : S) (t : State) => va_P D classes (w1 u) t.heap ∧ va_D (va_A cx H.size) (w1 u)) (va_A cx H.size)) mc ms (va_A cx H.size))
    (S0 : CallFix p m c cc nL s args zW own) (cw : CallW R s args own C index y bytes maxL ret wsY rm mc ms n) (hrv : ∃ cellB : Cell, H[b]? = some cellB ∧ cellB.vm.isStatics = false ∧ s.vm.findClass C = some cellB.cls)
    (hP : va_P D classes (X ++ PL) H) (hD : va_D A (X ++ PL)) (hS : va_S A s.heap H locs) (hK : va_K D classes (zT cs) s) (hA : ∀ q : Nat, s.heap.size ≤ q → A q) (isC isR : List Nat) (hC : isC.map (fun i => X[i]?) = cx.map some) (hnC : va_nd isC = true) (hR : isR.map (fun i => X[i]?) = (isR.filterMap (fun i => X[i]?)).map some) (hn : va_nd isR = true) (hdis : ∀ i ∈ isR, i ∉ isC)
    (hlen : As.length = n) (hsize : ls.size = nL) (hW : (rest.map fun v => v.category).sum ≤ 8) (hdg : decode cc pc = .ok (.invokevirtual index, 3)) (hf : cells + mc ≤ R.cells ∧ slots + ms ≤ R.slots)
    (kk : ∀ (r : Option Nat) (u : S) (H1 : Heap) (locs1 : List Loc), post r u → va_P D classes ((isR.filterMap (fun i => X[i]?) ++ w1 u) ++ PL) H1 → va_D A ((isR.filterMap (fun i => X[i]?) ++ w1 u) ++ PL) → va_S A s.heap H1 locs1 → W p l e R s m args below meth c H1 locs1 (cells + mc) (slots + ms) Q (F0 m (pc + 3) ls (va_rf r :: rest))) :
    W p l e R s m args below meth c H locs cells slots Q (F0 m pc ls (As.reverse ++ .ref b :: rest)) := by
  have hPc : va_P D classes cx H := (zP_l hP).sub isC (zk_fm hC)
  have hDc : va_D A cx := (zD_l hD).sub isC hnC hC
  have hFc := va_free (zD_l hD) hS hA isC hC
  refine va_callq (va_runV (As := As) (rest := rest) S0 hM cw ⟨zPre_blind, hrv, fun U hU hW => ⟨rfl, ⟨by rw [hU], by rw [hU]; exact hPc, va_K.moved hW.alike hK, hDc.weaken (fun _ _ _ _ => trivial)⟩⟩⟩ rfl hlen hsize rfl (lv_room hW) hdg hf) hS (fun q _ h => hFc q h) hFc (fun r u t H1 locs1 ht hvm hw hB hz1 hk1 hS1 => ?_)
  have hB : va_P D classes (w1 u) t.heap ∧ va_D (va_A cx H.size) (w1 u) := hB
  rw [ht] at hB
  obtain ⟨hP2, hD2⟩ := va_joinQ hP hD isC isR hC hR hn hdis hk1 hFc hB.1 hB.2
  exact kk r u H1 locs1 hw hP2 hD2 hS1
theorem zk_vqOP  {post : Option Nat → S → Prop} (hO : zO s) (hM : Met l y wsY rm (va_Pc (.ref b :: As) (zPreO D cs (cx ++ PL) H.size)) (va_Qq post (fun (u : S) (t : State) => va_P D classes (w1 u ++ pl1 u) t.heap ∧ va_D (va_A (cx ++ PL) H.size) (w1 u ++ pl1 u)) (va_A (cx ++ PL) H.size)) mc ms (va_A (cx ++ PL) H.size))
    (S0 : CallFix p m c cc nL s args zW own) (cw : CallW R s args own C index y bytes maxL ret wsY rm mc ms n) (hrv : ∃ cellB : Cell, H[b]? = some cellB ∧ cellB.vm.isStatics = false ∧ s.vm.findClass C = some cellB.cls)
    (hP : va_P D classes (X ++ PL) H) (hD : va_D A (X ++ PL)) (hS : va_S A s.heap H locs) (hK : va_K D classes (zT cs) s) (hA : ∀ q : Nat, s.heap.size ≤ q → A q) (isC isR : List Nat) (hC : isC.map (fun i => X[i]?) = cx.map some) (hnC : va_nd isC = true) (hR : isR.map (fun i => X[i]?) = (isR.filterMap (fun i => X[i]?)).map some) (hn : va_nd isR = true) (hdis : ∀ i ∈ isR, i ∉ isC)
    (hlen : As.length = n) (hsize : ls.size = nL) (hW : (rest.map fun v => v.category).sum ≤ 8) (hdg : decode cc pc = .ok (.invokevirtual index, 3)) (hf : cells + mc ≤ R.cells ∧ slots + ms ≤ R.slots)
    (kk : ∀ (r : Option Nat) (u : S) (H1 : Heap) (locs1 : List Loc), post r u → va_P D classes ((isR.filterMap (fun i => X[i]?) ++ w1 u) ++ pl1 u) H1 → va_D A ((isR.filterMap (fun i => X[i]?) ++ w1 u) ++ pl1 u) → va_S A s.heap H1 locs1 → W p l e R s m args below meth c H1 locs1 (cells + mc) (slots + ms) Q (F0 m (pc + 3) ls (va_rf r :: rest))) :
    W p l e R s m args below meth c H locs cells slots Q (F0 m pc ls (As.reverse ++ .ref b :: rest)) := by
  have hPc : va_P D classes (cx ++ PL) H := hP.part isC hC
  have hDc : va_D A (cx ++ PL) := hD.part isC hnC hC
  have hFc := va_freeP hD hS hA isC hC
  refine va_callq (va_runV (As := As) (rest := rest) S0 hM cw ⟨zPreO_blind, hrv, fun U hU hW => ⟨rfl, ⟨by rw [hU], by rw [hU]; exact hPc, va_K.moved hW.alike hK, hDc.weaken (fun _ _ _ _ => trivial)⟩, zO.warm hW hO⟩⟩ rfl hlen hsize rfl (lv_room hW) hdg hf) hS (fun q _ h => hFc q h) hFc (fun r u t H1 locs1 ht hvm hw hB hz1 hk1 hS1 => ?_)
  have hB : va_P D classes (w1 u ++ pl1 u) t.heap ∧ va_D (va_A (cx ++ PL) H.size) (w1 u ++ pl1 u) := hB
  rw [ht] at hB
  obtain ⟨hP2, hD2⟩ := va_joinP hP hD isC isR hC hR hn hdis hk1 hFc hB.1 hB.2
  exact kk r u H1 locs1 hw hP2 hD2 hS1
theorem zk_vqOQ  {post : Option Nat → S → Prop} (hO : zO s) (hM : Met l y wsY rm (va_Pc (.ref b :: As) (zPreO D cs cx H.size)) (va_Qq post (fun (u : S) (t : State) => va_P D classes (w1 u) t.heap ∧ va_D (va_A cx H.size) (w1 u)) (va_A cx H.size)) mc ms (va_A cx H.size))
    (S0 : CallFix p m c cc nL s args zW own) (cw : CallW R s args own C index y bytes maxL ret wsY rm mc ms n) (hrv : ∃ cellB : Cell, H[b]? = some cellB ∧ cellB.vm.isStatics = false ∧ s.vm.findClass C = some cellB.cls)
    (hP : va_P D classes (X ++ PL) H) (hD : va_D A (X ++ PL)) (hS : va_S A s.heap H locs) (hK : va_K D classes (zT cs) s) (hA : ∀ q : Nat, s.heap.size ≤ q → A q) (isC isR : List Nat) (hC : isC.map (fun i => X[i]?) = cx.map some) (hnC : va_nd isC = true) (hR : isR.map (fun i => X[i]?) = (isR.filterMap (fun i => X[i]?)).map some) (hn : va_nd isR = true) (hdis : ∀ i ∈ isR, i ∉ isC)
    (hlen : As.length = n) (hsize : ls.size = nL) (hW : (rest.map fun v => v.category).sum ≤ 8) (hdg : decode cc pc = .ok (.invokevirtual index, 3)) (hf : cells + mc ≤ R.cells ∧ slots + ms ≤ R.slots)
    (kk : ∀ (r : Option Nat) (u : S) (H1 : Heap) (locs1 : List Loc), post r u → va_P D classes ((isR.filterMap (fun i => X[i]?) ++ w1 u) ++ PL) H1 → va_D A ((isR.filterMap (fun i => X[i]?) ++ w1 u) ++ PL) → va_S A s.heap H1 locs1 → W p l e R s m args below meth c H1 locs1 (cells + mc) (slots + ms) Q (F0 m (pc + 3) ls (va_rf r :: rest))) :
    W p l e R s m args below meth c H locs cells slots Q (F0 m pc ls (As.reverse ++ .ref b :: rest)) := by
  have hPc : va_P D classes cx H := (zP_l hP).sub isC (zk_fm hC)
  have hDc : va_D A cx := (zD_l hD).sub isC hnC hC
  have hFc := va_free (zD_l hD) hS hA isC hC
  refine va_callq (va_runV (As := As) (rest := rest) S0 hM cw ⟨zPreO_blind, hrv, fun U hU hW => ⟨rfl, ⟨by rw [hU], by rw [hU]; exact hPc, va_K.moved hW.alike hK, hDc.weaken (fun _ _ _ _ => trivial)⟩, zO.warm hW hO⟩⟩ rfl hlen hsize rfl (lv_room hW) hdg hf) hS (fun q _ h => hFc q h) hFc (fun r u t H1 locs1 ht hvm hw hB hz1 hk1 hS1 => ?_)
  have hB : va_P D classes (w1 u) t.heap ∧ va_D (va_A cx H.size) (w1 u) := hB
  rw [ht] at hB
  obtain ⟨hP2, hD2⟩ := va_joinQ hP hD isC isR hC hR hn hdis hk1 hFc hB.1 hB.2
  exact kk r u H1 locs1 hw hP2 hD2 hS1
theorem zk_siP  {post : Int32 → S → Prop} (hM : Met l y wsY rm (va_Pc As (zPre D cs (cx ++ PL) H.size)) (va_Qi post (fun (u : S) (t : State) => va_P D classes (w1 u ++ pl1 u) t.heap ∧ va_D (va_A (cx ++ PL) H.size) (w1 u ++ pl1 u)) (va_A (cx ++ PL) H.size)) mc ms (va_A (cx ++ PL) H.size))
    (S0 : CallFix p m c cc nL s args zW own) (cw : CallB R s args own index y bytes maxL ret wsY rm mc ms n ∧ (Cond.static y).before args s = true)
    (hP : va_P D classes (X ++ PL) H) (hD : va_D A (X ++ PL)) (hS : va_S A s.heap H locs) (hK : va_K D classes (zT cs) s) (hA : ∀ q : Nat, s.heap.size ≤ q → A q) (isC isR : List Nat) (hC : isC.map (fun i => X[i]?) = cx.map some) (hnC : va_nd isC = true) (hR : isR.map (fun i => X[i]?) = (isR.filterMap (fun i => X[i]?)).map some) (hn : va_nd isR = true) (hdis : ∀ i ∈ isR, i ∉ isC)
    (hlen : As.length = n) (hsize : ls.size = nL) (hW : (rest.map fun v => v.category).sum ≤ 8) (hdg : decode cc pc = .ok (.invokestatic index, 3)) (hf : cells + mc ≤ R.cells ∧ slots + ms ≤ R.slots)
    (kk : ∀ (r : Int32) (u : S) (H1 : Heap) (locs1 : List Loc), post r u → va_P D classes ((isR.filterMap (fun i => X[i]?) ++ w1 u) ++ pl1 u) H1 → va_D A ((isR.filterMap (fun i => X[i]?) ++ w1 u) ++ pl1 u) → va_S A s.heap H1 locs1 → W p l e R s m args below meth c H1 locs1 (cells + mc) (slots + ms) Q (F0 m (pc + 3) ls (.int r :: rest))) :
    W p l e R s m args below meth c H locs cells slots Q (F0 m pc ls (As.reverse ++ rest)) := by
  have hPc : va_P D classes (cx ++ PL) H := hP.part isC hC
  have hDc : va_D A (cx ++ PL) := hD.part isC hnC hC
  have hFc := va_freeP hD hS hA isC hC
  refine va_calli (va_runS (As := As) (rest := rest) S0 hM cw ⟨zPre_blind, fun U hU hW => ⟨rfl, ⟨by rw [hU], by rw [hU]; exact hPc, va_K.moved hW.alike hK, hDc.weaken (fun _ _ _ _ => trivial)⟩⟩⟩ rfl hlen hsize rfl (lv_room hW) hdg hf) hS (fun q _ h => hFc q h) hFc (fun r u t H1 locs1 ht hvm hw hB hz1 hk1 hS1 => ?_)
  have hB : va_P D classes (w1 u ++ pl1 u) t.heap ∧ va_D (va_A (cx ++ PL) H.size) (w1 u ++ pl1 u) := hB
  rw [ht] at hB
  obtain ⟨hP2, hD2⟩ := va_joinP hP hD isC isR hC hR hn hdis hk1 hFc hB.1 hB.2
  exact kk r u H1 locs1 hw hP2 hD2 hS1
theorem zk_siQ  {post : Int32 → S → Prop} (hM : Met l y wsY rm (va_Pc As (zPre D cs cx H.size)) (va_Qi post (fun (u : S) (t : State) => va_P D classes (w1 u) t.heap ∧ va_D (va_A cx H.size) (w1 u)) (va_A cx H.size)) mc ms (va_A cx H.size))
    (S0 : CallFix p m c cc nL s args zW own) (cw : CallB R s args own index y bytes maxL ret wsY rm mc ms n ∧ (Cond.static y).before args s = true)
    (hP : va_P D classes (X ++ PL) H) (hD : va_D A (X ++ PL)) (hS : va_S A s.heap H locs) (hK : va_K D classes (zT cs) s) (hA : ∀ q : Nat, s.heap.size ≤ q → A q) (isC isR : List Nat) (hC : isC.map (fun i => X[i]?) = cx.map some) (hnC : va_nd isC = true) (hR : isR.map (fun i => X[i]?) = (isR.filterMap (fun i => X[i]?)).map some) (hn : va_nd isR = true) (hdis : ∀ i ∈ isR, i ∉ isC)
    (hlen : As.length = n) (hsize : ls.size = nL) (hW : (rest.map fun v => v.category).sum ≤ 8) (hdg : decode cc pc = .ok (.invokestatic index, 3)) (hf : cells + mc ≤ R.cells ∧ slots + ms ≤ R.slots)
    (kk : ∀ (r : Int32) (u : S) (H1 : Heap) (locs1 : List Loc), post r u → va_P D classes ((isR.filterMap (fun i => X[i]?) ++ w1 u) ++ PL) H1 → va_D A ((isR.filterMap (fun i => X[i]?) ++ w1 u) ++ PL) → va_S A s.heap H1 locs1 → W p l e R s m args below meth c H1 locs1 (cells + mc) (slots + ms) Q (F0 m (pc + 3) ls (.int r :: rest))) :
    W p l e R s m args below meth c H locs cells slots Q (F0 m pc ls (As.reverse ++ rest)) := by
  have hPc : va_P D classes cx H := (zP_l hP).sub isC (zk_fm hC)
  have hDc : va_D A cx := (zD_l hD).sub isC hnC hC
  have hFc := va_free (zD_l hD) hS hA isC hC
  refine va_calli (va_runS (As := As) (rest := rest) S0 hM cw ⟨zPre_blind, fun U hU hW => ⟨rfl, ⟨by rw [hU], by rw [hU]; exact hPc, va_K.moved hW.alike hK, hDc.weaken (fun _ _ _ _ => trivial)⟩⟩⟩ rfl hlen hsize rfl (lv_room hW) hdg hf) hS (fun q _ h => hFc q h) hFc (fun r u t H1 locs1 ht hvm hw hB hz1 hk1 hS1 => ?_)
  have hB : va_P D classes (w1 u) t.heap ∧ va_D (va_A cx H.size) (w1 u) := hB
  rw [ht] at hB
  obtain ⟨hP2, hD2⟩ := va_joinQ hP hD isC isR hC hR hn hdis hk1 hFc hB.1 hB.2
  exact kk r u H1 locs1 hw hP2 hD2 hS1
theorem zk_siOP  {post : Int32 → S → Prop} (hO : zO s) (hM : Met l y wsY rm (va_Pc As (zPreO D cs (cx ++ PL) H.size)) (va_Qi post (fun (u : S) (t : State) => va_P D classes (w1 u ++ pl1 u) t.heap ∧ va_D (va_A (cx ++ PL) H.size) (w1 u ++ pl1 u)) (va_A (cx ++ PL) H.size)) mc ms (va_A (cx ++ PL) H.size))
    (S0 : CallFix p m c cc nL s args zW own) (cw : CallB R s args own index y bytes maxL ret wsY rm mc ms n ∧ (Cond.static y).before args s = true)
    (hP : va_P D classes (X ++ PL) H) (hD : va_D A (X ++ PL)) (hS : va_S A s.heap H locs) (hK : va_K D classes (zT cs) s) (hA : ∀ q : Nat, s.heap.size ≤ q → A q) (isC isR : List Nat) (hC : isC.map (fun i => X[i]?) = cx.map some) (hnC : va_nd isC = true) (hR : isR.map (fun i => X[i]?) = (isR.filterMap (fun i => X[i]?)).map some) (hn : va_nd isR = true) (hdis : ∀ i ∈ isR, i ∉ isC)
    (hlen : As.length = n) (hsize : ls.size = nL) (hW : (rest.map fun v => v.category).sum ≤ 8) (hdg : decode cc pc = .ok (.invokestatic index, 3)) (hf : cells + mc ≤ R.cells ∧ slots + ms ≤ R.slots)
    (kk : ∀ (r : Int32) (u : S) (H1 : Heap) (locs1 : List Loc), post r u → va_P D classes ((isR.filterMap (fun i => X[i]?) ++ w1 u) ++ pl1 u) H1 → va_D A ((isR.filterMap (fun i => X[i]?) ++ w1 u) ++ pl1 u) → va_S A s.heap H1 locs1 → W p l e R s m args below meth c H1 locs1 (cells + mc) (slots + ms) Q (F0 m (pc + 3) ls (.int r :: rest))) :
    W p l e R s m args below meth c H locs cells slots Q (F0 m pc ls (As.reverse ++ rest)) := by
  have hPc : va_P D classes (cx ++ PL) H := hP.part isC hC
  have hDc : va_D A (cx ++ PL) := hD.part isC hnC hC
  have hFc := va_freeP hD hS hA isC hC
  refine va_calli (va_runS (As := As) (rest := rest) S0 hM cw ⟨zPreO_blind, fun U hU hW => ⟨rfl, ⟨by rw [hU], by rw [hU]; exact hPc, va_K.moved hW.alike hK, hDc.weaken (fun _ _ _ _ => trivial)⟩, zO.warm hW hO⟩⟩ rfl hlen hsize rfl (lv_room hW) hdg hf) hS (fun q _ h => hFc q h) hFc (fun r u t H1 locs1 ht hvm hw hB hz1 hk1 hS1 => ?_)
  have hB : va_P D classes (w1 u ++ pl1 u) t.heap ∧ va_D (va_A (cx ++ PL) H.size) (w1 u ++ pl1 u) := hB
  rw [ht] at hB
  obtain ⟨hP2, hD2⟩ := va_joinP hP hD isC isR hC hR hn hdis hk1 hFc hB.1 hB.2
  exact kk r u H1 locs1 hw hP2 hD2 hS1
theorem zk_siOQ  {post : Int32 → S → Prop} (hO : zO s) (hM : Met l y wsY rm (va_Pc As (zPreO D cs cx H.size)) (va_Qi post (fun (u : S) (t : State) => va_P D classes (w1 u) t.heap ∧ va_D (va_A cx H.size) (w1 u)) (va_A cx H.size)) mc ms (va_A cx H.size))
    (S0 : CallFix p m c cc nL s args zW own) (cw : CallB R s args own index y bytes maxL ret wsY rm mc ms n ∧ (Cond.static y).before args s = true)
    (hP : va_P D classes (X ++ PL) H) (hD : va_D A (X ++ PL)) (hS : va_S A s.heap H locs) (hK : va_K D classes (zT cs) s) (hA : ∀ q : Nat, s.heap.size ≤ q → A q) (isC isR : List Nat) (hC : isC.map (fun i => X[i]?) = cx.map some) (hnC : va_nd isC = true) (hR : isR.map (fun i => X[i]?) = (isR.filterMap (fun i => X[i]?)).map some) (hn : va_nd isR = true) (hdis : ∀ i ∈ isR, i ∉ isC)
    (hlen : As.length = n) (hsize : ls.size = nL) (hW : (rest.map fun v => v.category).sum ≤ 8) (hdg : decode cc pc = .ok (.invokestatic index, 3)) (hf : cells + mc ≤ R.cells ∧ slots + ms ≤ R.slots)
    (kk : ∀ (r : Int32) (u : S) (H1 : Heap) (locs1 : List Loc), post r u → va_P D classes ((isR.filterMap (fun i => X[i]?) ++ w1 u) ++ PL) H1 → va_D A ((isR.filterMap (fun i => X[i]?) ++ w1 u) ++ PL) → va_S A s.heap H1 locs1 → W p l e R s m args below meth c H1 locs1 (cells + mc) (slots + ms) Q (F0 m (pc + 3) ls (.int r :: rest))) :
    W p l e R s m args below meth c H locs cells slots Q (F0 m pc ls (As.reverse ++ rest)) := by
  have hPc : va_P D classes cx H := (zP_l hP).sub isC (zk_fm hC)
  have hDc : va_D A cx := (zD_l hD).sub isC hnC hC
  have hFc := va_free (zD_l hD) hS hA isC hC
  refine va_calli (va_runS (As := As) (rest := rest) S0 hM cw ⟨zPreO_blind, fun U hU hW => ⟨rfl, ⟨by rw [hU], by rw [hU]; exact hPc, va_K.moved hW.alike hK, hDc.weaken (fun _ _ _ _ => trivial)⟩, zO.warm hW hO⟩⟩ rfl hlen hsize rfl (lv_room hW) hdg hf) hS (fun q _ h => hFc q h) hFc (fun r u t H1 locs1 ht hvm hw hB hz1 hk1 hS1 => ?_)
  have hB : va_P D classes (w1 u) t.heap ∧ va_D (va_A cx H.size) (w1 u) := hB
  rw [ht] at hB
  obtain ⟨hP2, hD2⟩ := va_joinQ hP hD isC isR hC hR hn hdis hk1 hFc hB.1 hB.2
  exact kk r u H1 locs1 hw hP2 hD2 hS1
theorem zk_slP  {post : Int64 → S → Prop} (hM : Met l y wsY rm (va_Pc As (zPre D cs (cx ++ PL) H.size)) (va_Ql post (fun (u : S) (t : State) => va_P D classes (w1 u ++ pl1 u) t.heap ∧ va_D (va_A (cx ++ PL) H.size) (w1 u ++ pl1 u)) (va_A (cx ++ PL) H.size)) mc ms (va_A (cx ++ PL) H.size))
    (S0 : CallFix p m c cc nL s args zW own) (cw : CallB R s args own index y bytes maxL ret wsY rm mc ms n ∧ (Cond.static y).before args s = true)
    (hP : va_P D classes (X ++ PL) H) (hD : va_D A (X ++ PL)) (hS : va_S A s.heap H locs) (hK : va_K D classes (zT cs) s) (hA : ∀ q : Nat, s.heap.size ≤ q → A q) (isC isR : List Nat) (hC : isC.map (fun i => X[i]?) = cx.map some) (hnC : va_nd isC = true) (hR : isR.map (fun i => X[i]?) = (isR.filterMap (fun i => X[i]?)).map some) (hn : va_nd isR = true) (hdis : ∀ i ∈ isR, i ∉ isC)
    (hlen : As.length = n) (hsize : ls.size = nL) (hW : (rest.map fun v => v.category).sum ≤ 8) (hdg : decode cc pc = .ok (.invokestatic index, 3)) (hf : cells + mc ≤ R.cells ∧ slots + ms ≤ R.slots)
    (kk : ∀ (r : Int64) (u : S) (H1 : Heap) (locs1 : List Loc), post r u → va_P D classes ((isR.filterMap (fun i => X[i]?) ++ w1 u) ++ pl1 u) H1 → va_D A ((isR.filterMap (fun i => X[i]?) ++ w1 u) ++ pl1 u) → va_S A s.heap H1 locs1 → W p l e R s m args below meth c H1 locs1 (cells + mc) (slots + ms) Q (F0 m (pc + 3) ls (.long r :: rest))) :
    W p l e R s m args below meth c H locs cells slots Q (F0 m pc ls (As.reverse ++ rest)) := by
  have hPc : va_P D classes (cx ++ PL) H := hP.part isC hC
  have hDc : va_D A (cx ++ PL) := hD.part isC hnC hC
  have hFc := va_freeP hD hS hA isC hC
  refine va_calll (va_runS (As := As) (rest := rest) S0 hM cw ⟨zPre_blind, fun U hU hW => ⟨rfl, ⟨by rw [hU], by rw [hU]; exact hPc, va_K.moved hW.alike hK, hDc.weaken (fun _ _ _ _ => trivial)⟩⟩⟩ rfl hlen hsize rfl (lv_room hW) hdg hf) hS (fun q _ h => hFc q h) hFc (fun r u t H1 locs1 ht hvm hw hB hz1 hk1 hS1 => ?_)
  have hB : va_P D classes (w1 u ++ pl1 u) t.heap ∧ va_D (va_A (cx ++ PL) H.size) (w1 u ++ pl1 u) := hB
  rw [ht] at hB
  obtain ⟨hP2, hD2⟩ := va_joinP hP hD isC isR hC hR hn hdis hk1 hFc hB.1 hB.2
  exact kk r u H1 locs1 hw hP2 hD2 hS1
theorem zk_slQ  {post : Int64 → S → Prop} (hM : Met l y wsY rm (va_Pc As (zPre D cs cx H.size)) (va_Ql post (fun (u : S) (t : State) => va_P D classes (w1 u) t.heap ∧ va_D (va_A cx H.size) (w1 u)) (va_A cx H.size)) mc ms (va_A cx H.size))
    (S0 : CallFix p m c cc nL s args zW own) (cw : CallB R s args own index y bytes maxL ret wsY rm mc ms n ∧ (Cond.static y).before args s = true)
    (hP : va_P D classes (X ++ PL) H) (hD : va_D A (X ++ PL)) (hS : va_S A s.heap H locs) (hK : va_K D classes (zT cs) s) (hA : ∀ q : Nat, s.heap.size ≤ q → A q) (isC isR : List Nat) (hC : isC.map (fun i => X[i]?) = cx.map some) (hnC : va_nd isC = true) (hR : isR.map (fun i => X[i]?) = (isR.filterMap (fun i => X[i]?)).map some) (hn : va_nd isR = true) (hdis : ∀ i ∈ isR, i ∉ isC)
    (hlen : As.length = n) (hsize : ls.size = nL) (hW : (rest.map fun v => v.category).sum ≤ 8) (hdg : decode cc pc = .ok (.invokestatic index, 3)) (hf : cells + mc ≤ R.cells ∧ slots + ms ≤ R.slots)
    (kk : ∀ (r : Int64) (u : S) (H1 : Heap) (locs1 : List Loc), post r u → va_P D classes ((isR.filterMap (fun i => X[i]?) ++ w1 u) ++ PL) H1 → va_D A ((isR.filterMap (fun i => X[i]?) ++ w1 u) ++ PL) → va_S A s.heap H1 locs1 → W p l e R s m args below meth c H1 locs1 (cells + mc) (slots + ms) Q (F0 m (pc + 3) ls (.long r :: rest))) :
    W p l e R s m args below meth c H locs cells slots Q (F0 m pc ls (As.reverse ++ rest)) := by
  have hPc : va_P D classes cx H := (zP_l hP).sub isC (zk_fm hC)
  have hDc : va_D A cx := (zD_l hD).sub isC hnC hC
  have hFc := va_free (zD_l hD) hS hA isC hC
  refine va_calll (va_runS (As := As) (rest := rest) S0 hM cw ⟨zPre_blind, fun U hU hW => ⟨rfl, ⟨by rw [hU], by rw [hU]; exact hPc, va_K.moved hW.alike hK, hDc.weaken (fun _ _ _ _ => trivial)⟩⟩⟩ rfl hlen hsize rfl (lv_room hW) hdg hf) hS (fun q _ h => hFc q h) hFc (fun r u t H1 locs1 ht hvm hw hB hz1 hk1 hS1 => ?_)
  have hB : va_P D classes (w1 u) t.heap ∧ va_D (va_A cx H.size) (w1 u) := hB
  rw [ht] at hB
  obtain ⟨hP2, hD2⟩ := va_joinQ hP hD isC isR hC hR hn hdis hk1 hFc hB.1 hB.2
  exact kk r u H1 locs1 hw hP2 hD2 hS1
theorem zk_slOP  {post : Int64 → S → Prop} (hO : zO s) (hM : Met l y wsY rm (va_Pc As (zPreO D cs (cx ++ PL) H.size)) (va_Ql post (fun (u : S) (t : State) => va_P D classes (w1 u ++ pl1 u) t.heap ∧ va_D (va_A (cx ++ PL) H.size) (w1 u ++ pl1 u)) (va_A (cx ++ PL) H.size)) mc ms (va_A (cx ++ PL) H.size))
    (S0 : CallFix p m c cc nL s args zW own) (cw : CallB R s args own index y bytes maxL ret wsY rm mc ms n ∧ (Cond.static y).before args s = true)
    (hP : va_P D classes (X ++ PL) H) (hD : va_D A (X ++ PL)) (hS : va_S A s.heap H locs) (hK : va_K D classes (zT cs) s) (hA : ∀ q : Nat, s.heap.size ≤ q → A q) (isC isR : List Nat) (hC : isC.map (fun i => X[i]?) = cx.map some) (hnC : va_nd isC = true) (hR : isR.map (fun i => X[i]?) = (isR.filterMap (fun i => X[i]?)).map some) (hn : va_nd isR = true) (hdis : ∀ i ∈ isR, i ∉ isC)
    (hlen : As.length = n) (hsize : ls.size = nL) (hW : (rest.map fun v => v.category).sum ≤ 8) (hdg : decode cc pc = .ok (.invokestatic index, 3)) (hf : cells + mc ≤ R.cells ∧ slots + ms ≤ R.slots)
    (kk : ∀ (r : Int64) (u : S) (H1 : Heap) (locs1 : List Loc), post r u → va_P D classes ((isR.filterMap (fun i => X[i]?) ++ w1 u) ++ pl1 u) H1 → va_D A ((isR.filterMap (fun i => X[i]?) ++ w1 u) ++ pl1 u) → va_S A s.heap H1 locs1 → W p l e R s m args below meth c H1 locs1 (cells + mc) (slots + ms) Q (F0 m (pc + 3) ls (.long r :: rest))) :
    W p l e R s m args below meth c H locs cells slots Q (F0 m pc ls (As.reverse ++ rest)) := by
  have hPc : va_P D classes (cx ++ PL) H := hP.part isC hC
  have hDc : va_D A (cx ++ PL) := hD.part isC hnC hC
  have hFc := va_freeP hD hS hA isC hC
  refine va_calll (va_runS (As := As) (rest := rest) S0 hM cw ⟨zPreO_blind, fun U hU hW => ⟨rfl, ⟨by rw [hU], by rw [hU]; exact hPc, va_K.moved hW.alike hK, hDc.weaken (fun _ _ _ _ => trivial)⟩, zO.warm hW hO⟩⟩ rfl hlen hsize rfl (lv_room hW) hdg hf) hS (fun q _ h => hFc q h) hFc (fun r u t H1 locs1 ht hvm hw hB hz1 hk1 hS1 => ?_)
  have hB : va_P D classes (w1 u ++ pl1 u) t.heap ∧ va_D (va_A (cx ++ PL) H.size) (w1 u ++ pl1 u) := hB
  rw [ht] at hB
  obtain ⟨hP2, hD2⟩ := va_joinP hP hD isC isR hC hR hn hdis hk1 hFc hB.1 hB.2
  exact kk r u H1 locs1 hw hP2 hD2 hS1
theorem zk_slOQ  {post : Int64 → S → Prop} (hO : zO s) (hM : Met l y wsY rm (va_Pc As (zPreO D cs cx H.size)) (va_Ql post (fun (u : S) (t : State) => va_P D classes (w1 u) t.heap ∧ va_D (va_A cx H.size) (w1 u)) (va_A cx H.size)) mc ms (va_A cx H.size))
    (S0 : CallFix p m c cc nL s args zW own) (cw : CallB R s args own index y bytes maxL ret wsY rm mc ms n ∧ (Cond.static y).before args s = true)
    (hP : va_P D classes (X ++ PL) H) (hD : va_D A (X ++ PL)) (hS : va_S A s.heap H locs) (hK : va_K D classes (zT cs) s) (hA : ∀ q : Nat, s.heap.size ≤ q → A q) (isC isR : List Nat) (hC : isC.map (fun i => X[i]?) = cx.map some) (hnC : va_nd isC = true) (hR : isR.map (fun i => X[i]?) = (isR.filterMap (fun i => X[i]?)).map some) (hn : va_nd isR = true) (hdis : ∀ i ∈ isR, i ∉ isC)
    (hlen : As.length = n) (hsize : ls.size = nL) (hW : (rest.map fun v => v.category).sum ≤ 8) (hdg : decode cc pc = .ok (.invokestatic index, 3)) (hf : cells + mc ≤ R.cells ∧ slots + ms ≤ R.slots)
    (kk : ∀ (r : Int64) (u : S) (H1 : Heap) (locs1 : List Loc), post r u → va_P D classes ((isR.filterMap (fun i => X[i]?) ++ w1 u) ++ PL) H1 → va_D A ((isR.filterMap (fun i => X[i]?) ++ w1 u) ++ PL) → va_S A s.heap H1 locs1 → W p l e R s m args below meth c H1 locs1 (cells + mc) (slots + ms) Q (F0 m (pc + 3) ls (.long r :: rest))) :
    W p l e R s m args below meth c H locs cells slots Q (F0 m pc ls (As.reverse ++ rest)) := by
  have hPc : va_P D classes cx H := (zP_l hP).sub isC (zk_fm hC)
  have hDc : va_D A cx := (zD_l hD).sub isC hnC hC
  have hFc := va_free (zD_l hD) hS hA isC hC
  refine va_calll (va_runS (As := As) (rest := rest) S0 hM cw ⟨zPreO_blind, fun U hU hW => ⟨rfl, ⟨by rw [hU], by rw [hU]; exact hPc, va_K.moved hW.alike hK, hDc.weaken (fun _ _ _ _ => trivial)⟩, zO.warm hW hO⟩⟩ rfl hlen hsize rfl (lv_room hW) hdg hf) hS (fun q _ h => hFc q h) hFc (fun r u t H1 locs1 ht hvm hw hB hz1 hk1 hS1 => ?_)
  have hB : va_P D classes (w1 u) t.heap ∧ va_D (va_A cx H.size) (w1 u) := hB
  rw [ht] at hB
  obtain ⟨hP2, hD2⟩ := va_joinQ hP hD isC isR hC hR hn hdis hk1 hFc hB.1 hB.2
  exact kk r u H1 locs1 hw hP2 hD2 hS1
theorem zk_svP  {post : S → Prop} (hM : Met l y wsY rm (va_Pc As (zPre D cs (cx ++ PL) H.size)) (va_Qv post (fun (u : S) (t : State) => va_P D classes (w1 u ++ pl1 u) t.heap ∧ va_D (va_A (cx ++ PL) H.size) (w1 u ++ pl1 u)) (va_A (cx ++ PL) H.size)) mc ms (va_A (cx ++ PL) H.size))
    (S0 : CallFix p m c cc nL s args zW own) (cw : CallB R s args own index y bytes maxL ret wsY rm mc ms n ∧ (Cond.static y).before args s = true)
    (hP : va_P D classes (X ++ PL) H) (hD : va_D A (X ++ PL)) (hS : va_S A s.heap H locs) (hK : va_K D classes (zT cs) s) (hA : ∀ q : Nat, s.heap.size ≤ q → A q) (isC isR : List Nat) (hC : isC.map (fun i => X[i]?) = cx.map some) (hnC : va_nd isC = true) (hR : isR.map (fun i => X[i]?) = (isR.filterMap (fun i => X[i]?)).map some) (hn : va_nd isR = true) (hdis : ∀ i ∈ isR, i ∉ isC)
    (hlen : As.length = n) (hsize : ls.size = nL) (hW : (rest.map fun v => v.category).sum ≤ 8) (hdg : decode cc pc = .ok (.invokestatic index, 3)) (hf : cells + mc ≤ R.cells ∧ slots + ms ≤ R.slots)
    (kk : ∀ (u : S) (H1 : Heap) (locs1 : List Loc), post u → va_P D classes ((isR.filterMap (fun i => X[i]?) ++ w1 u) ++ pl1 u) H1 → va_D A ((isR.filterMap (fun i => X[i]?) ++ w1 u) ++ pl1 u) → va_S A s.heap H1 locs1 → W p l e R s m args below meth c H1 locs1 (cells + mc) (slots + ms) Q (F0 m (pc + 3) ls (rest))) :
    W p l e R s m args below meth c H locs cells slots Q (F0 m pc ls (As.reverse ++ rest)) := by
  have hPc : va_P D classes (cx ++ PL) H := hP.part isC hC
  have hDc : va_D A (cx ++ PL) := hD.part isC hnC hC
  have hFc := va_freeP hD hS hA isC hC
  refine va_callv (va_runS (As := As) (rest := rest) S0 hM cw ⟨zPre_blind, fun U hU hW => ⟨rfl, ⟨by rw [hU], by rw [hU]; exact hPc, va_K.moved hW.alike hK, hDc.weaken (fun _ _ _ _ => trivial)⟩⟩⟩ rfl hlen hsize rfl (lv_room hW) hdg hf) hS (fun q _ h => hFc q h) hFc (fun u t H1 locs1 ht hvm hw hB hz1 hk1 hS1 => ?_)
  have hB : va_P D classes (w1 u ++ pl1 u) t.heap ∧ va_D (va_A (cx ++ PL) H.size) (w1 u ++ pl1 u) := hB
  rw [ht] at hB
  obtain ⟨hP2, hD2⟩ := va_joinP hP hD isC isR hC hR hn hdis hk1 hFc hB.1 hB.2
  exact kk u H1 locs1 hw hP2 hD2 hS1
theorem zk_svQ  {post : S → Prop} (hM : Met l y wsY rm (va_Pc As (zPre D cs cx H.size)) (va_Qv post (fun (u : S) (t : State) => va_P D classes (w1 u) t.heap ∧ va_D (va_A cx H.size) (w1 u)) (va_A cx H.size)) mc ms (va_A cx H.size))
    (S0 : CallFix p m c cc nL s args zW own) (cw : CallB R s args own index y bytes maxL ret wsY rm mc ms n ∧ (Cond.static y).before args s = true)
    (hP : va_P D classes (X ++ PL) H) (hD : va_D A (X ++ PL)) (hS : va_S A s.heap H locs) (hK : va_K D classes (zT cs) s) (hA : ∀ q : Nat, s.heap.size ≤ q → A q) (isC isR : List Nat) (hC : isC.map (fun i => X[i]?) = cx.map some) (hnC : va_nd isC = true) (hR : isR.map (fun i => X[i]?) = (isR.filterMap (fun i => X[i]?)).map some) (hn : va_nd isR = true) (hdis : ∀ i ∈ isR, i ∉ isC)
    (hlen : As.length = n) (hsize : ls.size = nL) (hW : (rest.map fun v => v.category).sum ≤ 8) (hdg : decode cc pc = .ok (.invokestatic index, 3)) (hf : cells + mc ≤ R.cells ∧ slots + ms ≤ R.slots)
    (kk : ∀ (u : S) (H1 : Heap) (locs1 : List Loc), post u → va_P D classes ((isR.filterMap (fun i => X[i]?) ++ w1 u) ++ PL) H1 → va_D A ((isR.filterMap (fun i => X[i]?) ++ w1 u) ++ PL) → va_S A s.heap H1 locs1 → W p l e R s m args below meth c H1 locs1 (cells + mc) (slots + ms) Q (F0 m (pc + 3) ls (rest))) :
    W p l e R s m args below meth c H locs cells slots Q (F0 m pc ls (As.reverse ++ rest)) := by
  have hPc : va_P D classes cx H := (zP_l hP).sub isC (zk_fm hC)
  have hDc : va_D A cx := (zD_l hD).sub isC hnC hC
  have hFc := va_free (zD_l hD) hS hA isC hC
  refine va_callv (va_runS (As := As) (rest := rest) S0 hM cw ⟨zPre_blind, fun U hU hW => ⟨rfl, ⟨by rw [hU], by rw [hU]; exact hPc, va_K.moved hW.alike hK, hDc.weaken (fun _ _ _ _ => trivial)⟩⟩⟩ rfl hlen hsize rfl (lv_room hW) hdg hf) hS (fun q _ h => hFc q h) hFc (fun u t H1 locs1 ht hvm hw hB hz1 hk1 hS1 => ?_)
  have hB : va_P D classes (w1 u) t.heap ∧ va_D (va_A cx H.size) (w1 u) := hB
  rw [ht] at hB
  obtain ⟨hP2, hD2⟩ := va_joinQ hP hD isC isR hC hR hn hdis hk1 hFc hB.1 hB.2
  exact kk u H1 locs1 hw hP2 hD2 hS1
theorem zk_svOP  {post : S → Prop} (hO : zO s) (hM : Met l y wsY rm (va_Pc As (zPreO D cs (cx ++ PL) H.size)) (va_Qv post (fun (u : S) (t : State) => va_P D classes (w1 u ++ pl1 u) t.heap ∧ va_D (va_A (cx ++ PL) H.size) (w1 u ++ pl1 u)) (va_A (cx ++ PL) H.size)) mc ms (va_A (cx ++ PL) H.size))
    (S0 : CallFix p m c cc nL s args zW own) (cw : CallB R s args own index y bytes maxL ret wsY rm mc ms n ∧ (Cond.static y).before args s = true)
    (hP : va_P D classes (X ++ PL) H) (hD : va_D A (X ++ PL)) (hS : va_S A s.heap H locs) (hK : va_K D classes (zT cs) s) (hA : ∀ q : Nat, s.heap.size ≤ q → A q) (isC isR : List Nat) (hC : isC.map (fun i => X[i]?) = cx.map some) (hnC : va_nd isC = true) (hR : isR.map (fun i => X[i]?) = (isR.filterMap (fun i => X[i]?)).map some) (hn : va_nd isR = true) (hdis : ∀ i ∈ isR, i ∉ isC)
    (hlen : As.length = n) (hsize : ls.size = nL) (hW : (rest.map fun v => v.category).sum ≤ 8) (hdg : decode cc pc = .ok (.invokestatic index, 3)) (hf : cells + mc ≤ R.cells ∧ slots + ms ≤ R.slots)
    (kk : ∀ (u : S) (H1 : Heap) (locs1 : List Loc), post u → va_P D classes ((isR.filterMap (fun i => X[i]?) ++ w1 u) ++ pl1 u) H1 → va_D A ((isR.filterMap (fun i => X[i]?) ++ w1 u) ++ pl1 u) → va_S A s.heap H1 locs1 → W p l e R s m args below meth c H1 locs1 (cells + mc) (slots + ms) Q (F0 m (pc + 3) ls (rest))) :
    W p l e R s m args below meth c H locs cells slots Q (F0 m pc ls (As.reverse ++ rest)) := by
  have hPc : va_P D classes (cx ++ PL) H := hP.part isC hC
  have hDc : va_D A (cx ++ PL) := hD.part isC hnC hC
  have hFc := va_freeP hD hS hA isC hC
  refine va_callv (va_runS (As := As) (rest := rest) S0 hM cw ⟨zPreO_blind, fun U hU hW => ⟨rfl, ⟨by rw [hU], by rw [hU]; exact hPc, va_K.moved hW.alike hK, hDc.weaken (fun _ _ _ _ => trivial)⟩, zO.warm hW hO⟩⟩ rfl hlen hsize rfl (lv_room hW) hdg hf) hS (fun q _ h => hFc q h) hFc (fun u t H1 locs1 ht hvm hw hB hz1 hk1 hS1 => ?_)
  have hB : va_P D classes (w1 u ++ pl1 u) t.heap ∧ va_D (va_A (cx ++ PL) H.size) (w1 u ++ pl1 u) := hB
  rw [ht] at hB
  obtain ⟨hP2, hD2⟩ := va_joinP hP hD isC isR hC hR hn hdis hk1 hFc hB.1 hB.2
  exact kk u H1 locs1 hw hP2 hD2 hS1
theorem zk_svOQ  {post : S → Prop} (hO : zO s) (hM : Met l y wsY rm (va_Pc As (zPreO D cs cx H.size)) (va_Qv post (fun (u : S) (t : State) => va_P D classes (w1 u) t.heap ∧ va_D (va_A cx H.size) (w1 u)) (va_A cx H.size)) mc ms (va_A cx H.size))
    (S0 : CallFix p m c cc nL s args zW own) (cw : CallB R s args own index y bytes maxL ret wsY rm mc ms n ∧ (Cond.static y).before args s = true)
    (hP : va_P D classes (X ++ PL) H) (hD : va_D A (X ++ PL)) (hS : va_S A s.heap H locs) (hK : va_K D classes (zT cs) s) (hA : ∀ q : Nat, s.heap.size ≤ q → A q) (isC isR : List Nat) (hC : isC.map (fun i => X[i]?) = cx.map some) (hnC : va_nd isC = true) (hR : isR.map (fun i => X[i]?) = (isR.filterMap (fun i => X[i]?)).map some) (hn : va_nd isR = true) (hdis : ∀ i ∈ isR, i ∉ isC)
    (hlen : As.length = n) (hsize : ls.size = nL) (hW : (rest.map fun v => v.category).sum ≤ 8) (hdg : decode cc pc = .ok (.invokestatic index, 3)) (hf : cells + mc ≤ R.cells ∧ slots + ms ≤ R.slots)
    (kk : ∀ (u : S) (H1 : Heap) (locs1 : List Loc), post u → va_P D classes ((isR.filterMap (fun i => X[i]?) ++ w1 u) ++ PL) H1 → va_D A ((isR.filterMap (fun i => X[i]?) ++ w1 u) ++ PL) → va_S A s.heap H1 locs1 → W p l e R s m args below meth c H1 locs1 (cells + mc) (slots + ms) Q (F0 m (pc + 3) ls (rest))) :
    W p l e R s m args below meth c H locs cells slots Q (F0 m pc ls (As.reverse ++ rest)) := by
  have hPc : va_P D classes cx H := (zP_l hP).sub isC (zk_fm hC)
  have hDc : va_D A cx := (zD_l hD).sub isC hnC hC
  have hFc := va_free (zD_l hD) hS hA isC hC
  refine va_callv (va_runS (As := As) (rest := rest) S0 hM cw ⟨zPreO_blind, fun U hU hW => ⟨rfl, ⟨by rw [hU], by rw [hU]; exact hPc, va_K.moved hW.alike hK, hDc.weaken (fun _ _ _ _ => trivial)⟩, zO.warm hW hO⟩⟩ rfl hlen hsize rfl (lv_room hW) hdg hf) hS (fun q _ h => hFc q h) hFc (fun u t H1 locs1 ht hvm hw hB hz1 hk1 hS1 => ?_)
  have hB : va_P D classes (w1 u) t.heap ∧ va_D (va_A cx H.size) (w1 u) := hB
  rw [ht] at hB
  obtain ⟨hP2, hD2⟩ := va_joinQ hP hD isC isR hC hR hn hdis hk1 hFc hB.1 hB.2
  exact kk u H1 locs1 hw hP2 hD2 hS1
theorem zk_sqP  {post : Option Nat → S → Prop} (hM : Met l y wsY rm (va_Pc As (zPre D cs (cx ++ PL) H.size)) (va_Qq post (fun (u : S) (t : State) => va_P D classes (w1 u ++ pl1 u) t.heap ∧ va_D (va_A (cx ++ PL) H.size) (w1 u ++ pl1 u)) (va_A (cx ++ PL) H.size)) mc ms (va_A (cx ++ PL) H.size))
    (S0 : CallFix p m c cc nL s args zW own) (cw : CallB R s args own index y bytes maxL ret wsY rm mc ms n ∧ (Cond.static y).before args s = true)
    (hP : va_P D classes (X ++ PL) H) (hD : va_D A (X ++ PL)) (hS : va_S A s.heap H locs) (hK : va_K D classes (zT cs) s) (hA : ∀ q : Nat, s.heap.size ≤ q → A q) (isC isR : List Nat) (hC : isC.map (fun i => X[i]?) = cx.map some) (hnC : va_nd isC = true) (hR : isR.map (fun i => X[i]?) = (isR.filterMap (fun i => X[i]?)).map some) (hn : va_nd isR = true) (hdis : ∀ i ∈ isR, i ∉ isC)
    (hlen : As.length = n) (hsize : ls.size = nL) (hW : (rest.map fun v => v.category).sum ≤ 8) (hdg : decode cc pc = .ok (.invokestatic index, 3)) (hf : cells + mc ≤ R.cells ∧ slots + ms ≤ R.slots)
    (kk : ∀ (r : Option Nat) (u : S) (H1 : Heap) (locs1 : List Loc), post r u → va_P D classes ((isR.filterMap (fun i => X[i]?) ++ w1 u) ++ pl1 u) H1 → va_D A ((isR.filterMap (fun i => X[i]?) ++ w1 u) ++ pl1 u) → va_S A s.heap H1 locs1 → W p l e R s m args below meth c H1 locs1 (cells + mc) (slots + ms) Q (F0 m (pc + 3) ls (va_rf r :: rest))) :
    W p l e R s m args below meth c H locs cells slots Q (F0 m pc ls (As.reverse ++ rest)) := by
  have hPc : va_P D classes (cx ++ PL) H := hP.part isC hC
  have hDc : va_D A (cx ++ PL) := hD.part isC hnC hC
  have hFc := va_freeP hD hS hA isC hC
  refine va_callq (va_runS (As := As) (rest := rest) S0 hM cw ⟨zPre_blind, fun U hU hW => ⟨rfl, ⟨by rw [hU], by rw [hU]; exact hPc, va_K.moved hW.alike hK, hDc.weaken (fun _ _ _ _ => trivial)⟩⟩⟩ rfl hlen hsize rfl (lv_room hW) hdg hf) hS (fun q _ h => hFc q h) hFc (fun r u t H1 locs1 ht hvm hw hB hz1 hk1 hS1 => ?_)
  have hB : va_P D classes (w1 u ++ pl1 u) t.heap ∧ va_D (va_A (cx ++ PL) H.size) (w1 u ++ pl1 u) := hB
  rw [ht] at hB
  obtain ⟨hP2, hD2⟩ := va_joinP hP hD isC isR hC hR hn hdis hk1 hFc hB.1 hB.2
  exact kk r u H1 locs1 hw hP2 hD2 hS1
theorem zk_sqQ  {post : Option Nat → S → Prop} (hM : Met l y wsY rm (va_Pc As (zPre D cs cx H.size)) (va_Qq post (fun (u : S) (t : State) => va_P D classes (w1 u) t.heap ∧ va_D (va_A cx H.size) (w1 u)) (va_A cx H.size)) mc ms (va_A cx H.size))
    (S0 : CallFix p m c cc nL s args zW own) (cw : CallB R s args own index y bytes maxL ret wsY rm mc ms n ∧ (Cond.static y).before args s = true)
    (hP : va_P D classes (X ++ PL) H) (hD : va_D A (X ++ PL)) (hS : va_S A s.heap H locs) (hK : va_K D classes (zT cs) s) (hA : ∀ q : Nat, s.heap.size ≤ q → A q) (isC isR : List Nat) (hC : isC.map (fun i => X[i]?) = cx.map some) (hnC : va_nd isC = true) (hR : isR.map (fun i => X[i]?) = (isR.filterMap (fun i => X[i]?)).map some) (hn : va_nd isR = true) (hdis : ∀ i ∈ isR, i ∉ isC)
    (hlen : As.length = n) (hsize : ls.size = nL) (hW : (rest.map fun v => v.category).sum ≤ 8) (hdg : decode cc pc = .ok (.invokestatic index, 3)) (hf : cells + mc ≤ R.cells ∧ slots + ms ≤ R.slots)
    (kk : ∀ (r : Option Nat) (u : S) (H1 : Heap) (locs1 : List Loc), post r u → va_P D classes ((isR.filterMap (fun i => X[i]?) ++ w1 u) ++ PL) H1 → va_D A ((isR.filterMap (fun i => X[i]?) ++ w1 u) ++ PL) → va_S A s.heap H1 locs1 → W p l e R s m args below meth c H1 locs1 (cells + mc) (slots + ms) Q (F0 m (pc + 3) ls (va_rf r :: rest))) :
    W p l e R s m args below meth c H locs cells slots Q (F0 m pc ls (As.reverse ++ rest)) := by
  have hPc : va_P D classes cx H := (zP_l hP).sub isC (zk_fm hC)
  have hDc : va_D A cx := (zD_l hD).sub isC hnC hC
  have hFc := va_free (zD_l hD) hS hA isC hC
  refine va_callq (va_runS (As := As) (rest := rest) S0 hM cw ⟨zPre_blind, fun U hU hW => ⟨rfl, ⟨by rw [hU], by rw [hU]; exact hPc, va_K.moved hW.alike hK, hDc.weaken (fun _ _ _ _ => trivial)⟩⟩⟩ rfl hlen hsize rfl (lv_room hW) hdg hf) hS (fun q _ h => hFc q h) hFc (fun r u t H1 locs1 ht hvm hw hB hz1 hk1 hS1 => ?_)
  have hB : va_P D classes (w1 u) t.heap ∧ va_D (va_A cx H.size) (w1 u) := hB
  rw [ht] at hB
  obtain ⟨hP2, hD2⟩ := va_joinQ hP hD isC isR hC hR hn hdis hk1 hFc hB.1 hB.2
  exact kk r u H1 locs1 hw hP2 hD2 hS1
theorem zk_sqOP  {post : Option Nat → S → Prop} (hO : zO s) (hM : Met l y wsY rm (va_Pc As (zPreO D cs (cx ++ PL) H.size)) (va_Qq post (fun (u : S) (t : State) => va_P D classes (w1 u ++ pl1 u) t.heap ∧ va_D (va_A (cx ++ PL) H.size) (w1 u ++ pl1 u)) (va_A (cx ++ PL) H.size)) mc ms (va_A (cx ++ PL) H.size))
    (S0 : CallFix p m c cc nL s args zW own) (cw : CallB R s args own index y bytes maxL ret wsY rm mc ms n ∧ (Cond.static y).before args s = true)
    (hP : va_P D classes (X ++ PL) H) (hD : va_D A (X ++ PL)) (hS : va_S A s.heap H locs) (hK : va_K D classes (zT cs) s) (hA : ∀ q : Nat, s.heap.size ≤ q → A q) (isC isR : List Nat) (hC : isC.map (fun i => X[i]?) = cx.map some) (hnC : va_nd isC = true) (hR : isR.map (fun i => X[i]?) = (isR.filterMap (fun i => X[i]?)).map some) (hn : va_nd isR = true) (hdis : ∀ i ∈ isR, i ∉ isC)
    (hlen : As.length = n) (hsize : ls.size = nL) (hW : (rest.map fun v => v.category).sum ≤ 8) (hdg : decode cc pc = .ok (.invokestatic index, 3)) (hf : cells + mc ≤ R.cells ∧ slots + ms ≤ R.slots)
    (kk : ∀ (r : Option Nat) (u : S) (H1 : Heap) (locs1 : List Loc), post r u → va_P D classes ((isR.filterMap (fun i => X[i]?) ++ w1 u) ++ pl1 u) H1 → va_D A ((isR.filterMap (fun i => X[i]?) ++ w1 u) ++ pl1 u) → va_S A s.heap H1 locs1 → W p l e R s m args below meth c H1 locs1 (cells + mc) (slots + ms) Q (F0 m (pc + 3) ls (va_rf r :: rest))) :
    W p l e R s m args below meth c H locs cells slots Q (F0 m pc ls (As.reverse ++ rest)) := by
  have hPc : va_P D classes (cx ++ PL) H := hP.part isC hC
  have hDc : va_D A (cx ++ PL) := hD.part isC hnC hC
  have hFc := va_freeP hD hS hA isC hC
  refine va_callq (va_runS (As := As) (rest := rest) S0 hM cw ⟨zPreO_blind, fun U hU hW => ⟨rfl, ⟨by rw [hU], by rw [hU]; exact hPc, va_K.moved hW.alike hK, hDc.weaken (fun _ _ _ _ => trivial)⟩, zO.warm hW hO⟩⟩ rfl hlen hsize rfl (lv_room hW) hdg hf) hS (fun q _ h => hFc q h) hFc (fun r u t H1 locs1 ht hvm hw hB hz1 hk1 hS1 => ?_)
  have hB : va_P D classes (w1 u ++ pl1 u) t.heap ∧ va_D (va_A (cx ++ PL) H.size) (w1 u ++ pl1 u) := hB
  rw [ht] at hB
  obtain ⟨hP2, hD2⟩ := va_joinP hP hD isC isR hC hR hn hdis hk1 hFc hB.1 hB.2
  exact kk r u H1 locs1 hw hP2 hD2 hS1
theorem zk_sqOQ  {post : Option Nat → S → Prop} (hO : zO s) (hM : Met l y wsY rm (va_Pc As (zPreO D cs cx H.size)) (va_Qq post (fun (u : S) (t : State) => va_P D classes (w1 u) t.heap ∧ va_D (va_A cx H.size) (w1 u)) (va_A cx H.size)) mc ms (va_A cx H.size))
    (S0 : CallFix p m c cc nL s args zW own) (cw : CallB R s args own index y bytes maxL ret wsY rm mc ms n ∧ (Cond.static y).before args s = true)
    (hP : va_P D classes (X ++ PL) H) (hD : va_D A (X ++ PL)) (hS : va_S A s.heap H locs) (hK : va_K D classes (zT cs) s) (hA : ∀ q : Nat, s.heap.size ≤ q → A q) (isC isR : List Nat) (hC : isC.map (fun i => X[i]?) = cx.map some) (hnC : va_nd isC = true) (hR : isR.map (fun i => X[i]?) = (isR.filterMap (fun i => X[i]?)).map some) (hn : va_nd isR = true) (hdis : ∀ i ∈ isR, i ∉ isC)
    (hlen : As.length = n) (hsize : ls.size = nL) (hW : (rest.map fun v => v.category).sum ≤ 8) (hdg : decode cc pc = .ok (.invokestatic index, 3)) (hf : cells + mc ≤ R.cells ∧ slots + ms ≤ R.slots)
    (kk : ∀ (r : Option Nat) (u : S) (H1 : Heap) (locs1 : List Loc), post r u → va_P D classes ((isR.filterMap (fun i => X[i]?) ++ w1 u) ++ PL) H1 → va_D A ((isR.filterMap (fun i => X[i]?) ++ w1 u) ++ PL) → va_S A s.heap H1 locs1 → W p l e R s m args below meth c H1 locs1 (cells + mc) (slots + ms) Q (F0 m (pc + 3) ls (va_rf r :: rest))) :
    W p l e R s m args below meth c H locs cells slots Q (F0 m pc ls (As.reverse ++ rest)) := by
  have hPc : va_P D classes cx H := (zP_l hP).sub isC (zk_fm hC)
  have hDc : va_D A cx := (zD_l hD).sub isC hnC hC
  have hFc := va_free (zD_l hD) hS hA isC hC
  refine va_callq (va_runS (As := As) (rest := rest) S0 hM cw ⟨zPreO_blind, fun U hU hW => ⟨rfl, ⟨by rw [hU], by rw [hU]; exact hPc, va_K.moved hW.alike hK, hDc.weaken (fun _ _ _ _ => trivial)⟩, zO.warm hW hO⟩⟩ rfl hlen hsize rfl (lv_room hW) hdg hf) hS (fun q _ h => hFc q h) hFc (fun r u t H1 locs1 ht hvm hw hB hz1 hk1 hS1 => ?_)
  have hB : va_P D classes (w1 u) t.heap ∧ va_D (va_A cx H.size) (w1 u) := hB
  rw [ht] at hB
  obtain ⟨hP2, hD2⟩ := va_joinQ hP hD isC isR hC hR hn hdis hk1 hFc hB.1 hB.2
  exact kk r u H1 locs1 hw hP2 hD2 hS1
theorem zk_niP  {post : Int32 → S → Prop} (hM : Met l y wsY rm (va_Pc (.ref b :: As) (zPre D cs (cx ++ PL) H.size)) (va_Qi post (fun (u : S) (t : State) => va_P D classes (w1 u ++ pl1 u) t.heap ∧ va_D (va_A (cx ++ PL) H.size) (w1 u ++ pl1 u)) (va_A (cx ++ PL) H.size)) mc ms (va_A (cx ++ PL) H.size))
    (S0 : CallFix p m c cc nL s args zW own) (cw : va_CN R s args own index y host bytes maxL ret wsY rm mc ms n ∧ (Cond.instanceMethod y).before args s = true ∧ (Cond.selects C y y).before args s = true) (hrv : ∃ cellB : Cell, H[b]? = some cellB ∧ cellB.vm.isStatics = false ∧ s.vm.findClass C = some cellB.cls)
    (hP : va_P D classes (X ++ PL) H) (hD : va_D A (X ++ PL)) (hS : va_S A s.heap H locs) (hK : va_K D classes (zT cs) s) (hA : ∀ q : Nat, s.heap.size ≤ q → A q) (isC isR : List Nat) (hC : isC.map (fun i => X[i]?) = cx.map some) (hnC : va_nd isC = true) (hR : isR.map (fun i => X[i]?) = (isR.filterMap (fun i => X[i]?)).map some) (hn : va_nd isR = true) (hdis : ∀ i ∈ isR, i ∉ isC)
    (hlen : As.length = n) (hsize : ls.size = nL) (hW : (rest.map fun v => v.category).sum ≤ 8) (hdg : decode cc pc = .ok (.invokevirtual index, 3)) (hf : cells + mc ≤ R.cells ∧ slots + ms ≤ R.slots)
    (kk : ∀ (r : Int32) (u : S) (H1 : Heap) (locs1 : List Loc), post r u → va_P D classes ((isR.filterMap (fun i => X[i]?) ++ w1 u) ++ pl1 u) H1 → va_D A ((isR.filterMap (fun i => X[i]?) ++ w1 u) ++ pl1 u) → va_S A s.heap H1 locs1 → W p l e R s m args below meth c H1 locs1 (cells + mc) (slots + ms) Q (F0 m (pc + 3) ls (.int r :: rest))) :
    W p l e R s m args below meth c H locs cells slots Q (F0 m pc ls (As.reverse ++ .ref b :: rest)) := by
  have hPc : va_P D classes (cx ++ PL) H := hP.part isC hC
  have hDc : va_D A (cx ++ PL) := hD.part isC hnC hC
  have hFc := va_freeP hD hS hA isC hC
  refine va_calli (va_runVN (As := As) (rest := rest) S0 hM cw ⟨zPre_blind, hrv, fun U hU hW => ⟨rfl, ⟨by rw [hU], by rw [hU]; exact hPc, va_K.moved hW.alike hK, hDc.weaken (fun _ _ _ _ => trivial)⟩⟩⟩ rfl hlen hsize rfl (lv_room hW) hdg hf) hS (fun q _ h => hFc q h) hFc (fun r u t H1 locs1 ht hvm hw hB hz1 hk1 hS1 => ?_)
  have hB : va_P D classes (w1 u ++ pl1 u) t.heap ∧ va_D (va_A (cx ++ PL) H.size) (w1 u ++ pl1 u) := hB
  rw [ht] at hB
  obtain ⟨hP2, hD2⟩ := va_joinP hP hD isC isR hC hR hn hdis hk1 hFc hB.1 hB.2
  exact kk r u H1 locs1 hw hP2 hD2 hS1
theorem zk_niQ  {post : Int32 → S → Prop} (hM : Met l y wsY rm (va_Pc (.ref b :: As) (zPre D cs cx H.size)) (va_Qi post (fun (u : S) (t : State) => va_P D classes (w1 u) t.heap ∧ va_D (va_A cx H.size) (w1 u)) (va_A cx H.size)) mc ms (va_A cx H.size))
    (S0 : CallFix p m c cc nL s args zW own) (cw : va_CN R s args own index y host bytes maxL ret wsY rm mc ms n ∧ (Cond.instanceMethod y).before args s = true ∧ (Cond.selects C y y).before args s = true) (hrv : ∃ cellB : Cell, H[b]? = some cellB ∧ cellB.vm.isStatics = false ∧ s.vm.findClass C = some cellB.cls)
    (hP : va_P D classes (X ++ PL) H) (hD : va_D A (X ++ PL)) (hS : va_S A s.heap H locs) (hK : va_K D classes (zT cs) s) (hA : ∀ q : Nat, s.heap.size ≤ q → A q) (isC isR : List Nat) (hC : isC.map (fun i => X[i]?) = cx.map some) (hnC : va_nd isC = true) (hR : isR.map (fun i => X[i]?) = (isR.filterMap (fun i => X[i]?)).map some) (hn : va_nd isR = true) (hdis : ∀ i ∈ isR, i ∉ isC)
    (hlen : As.length = n) (hsize : ls.size = nL) (hW : (rest.map fun v => v.category).sum ≤ 8) (hdg : decode cc pc = .ok (.invokevirtual index, 3)) (hf : cells + mc ≤ R.cells ∧ slots + ms ≤ R.slots)
    (kk : ∀ (r : Int32) (u : S) (H1 : Heap) (locs1 : List Loc), post r u → va_P D classes ((isR.filterMap (fun i => X[i]?) ++ w1 u) ++ PL) H1 → va_D A ((isR.filterMap (fun i => X[i]?) ++ w1 u) ++ PL) → va_S A s.heap H1 locs1 → W p l e R s m args below meth c H1 locs1 (cells + mc) (slots + ms) Q (F0 m (pc + 3) ls (.int r :: rest))) :
    W p l e R s m args below meth c H locs cells slots Q (F0 m pc ls (As.reverse ++ .ref b :: rest)) := by
  have hPc : va_P D classes cx H := (zP_l hP).sub isC (zk_fm hC)
  have hDc : va_D A cx := (zD_l hD).sub isC hnC hC
  have hFc := va_free (zD_l hD) hS hA isC hC
  refine va_calli (va_runVN (As := As) (rest := rest) S0 hM cw ⟨zPre_blind, hrv, fun U hU hW => ⟨rfl, ⟨by rw [hU], by rw [hU]; exact hPc, va_K.moved hW.alike hK, hDc.weaken (fun _ _ _ _ => trivial)⟩⟩⟩ rfl hlen hsize rfl (lv_room hW) hdg hf) hS (fun q _ h => hFc q h) hFc (fun r u t H1 locs1 ht hvm hw hB hz1 hk1 hS1 => ?_)
  have hB : va_P D classes (w1 u) t.heap ∧ va_D (va_A cx H.size) (w1 u) := hB
  rw [ht] at hB
  obtain ⟨hP2, hD2⟩ := va_joinQ hP hD isC isR hC hR hn hdis hk1 hFc hB.1 hB.2
  exact kk r u H1 locs1 hw hP2 hD2 hS1
theorem zk_niOP  {post : Int32 → S → Prop} (hO : zO s) (hM : Met l y wsY rm (va_Pc (.ref b :: As) (zPreO D cs (cx ++ PL) H.size)) (va_Qi post (fun (u : S) (t : State) => va_P D classes (w1 u ++ pl1 u) t.heap ∧ va_D (va_A (cx ++ PL) H.size) (w1 u ++ pl1 u)) (va_A (cx ++ PL) H.size)) mc ms (va_A (cx ++ PL) H.size))
    (S0 : CallFix p m c cc nL s args zW own) (cw : va_CN R s args own index y host bytes maxL ret wsY rm mc ms n ∧ (Cond.instanceMethod y).before args s = true ∧ (Cond.selects C y y).before args s = true) (hrv : ∃ cellB : Cell, H[b]? = some cellB ∧ cellB.vm.isStatics = false ∧ s.vm.findClass C = some cellB.cls)
    (hP : va_P D classes (X ++ PL) H) (hD : va_D A (X ++ PL)) (hS : va_S A s.heap H locs) (hK : va_K D classes (zT cs) s) (hA : ∀ q : Nat, s.heap.size ≤ q → A q) (isC isR : List Nat) (hC : isC.map (fun i => X[i]?) = cx.map some) (hnC : va_nd isC = true) (hR : isR.map (fun i => X[i]?) = (isR.filterMap (fun i => X[i]?)).map some) (hn : va_nd isR = true) (hdis : ∀ i ∈ isR, i ∉ isC)
    (hlen : As.length = n) (hsize : ls.size = nL) (hW : (rest.map fun v => v.category).sum ≤ 8) (hdg : decode cc pc = .ok (.invokevirtual index, 3)) (hf : cells + mc ≤ R.cells ∧ slots + ms ≤ R.slots)
    (kk : ∀ (r : Int32) (u : S) (H1 : Heap) (locs1 : List Loc), post r u → va_P D classes ((isR.filterMap (fun i => X[i]?) ++ w1 u) ++ pl1 u) H1 → va_D A ((isR.filterMap (fun i => X[i]?) ++ w1 u) ++ pl1 u) → va_S A s.heap H1 locs1 → W p l e R s m args below meth c H1 locs1 (cells + mc) (slots + ms) Q (F0 m (pc + 3) ls (.int r :: rest))) :
    W p l e R s m args below meth c H locs cells slots Q (F0 m pc ls (As.reverse ++ .ref b :: rest)) := by
  have hPc : va_P D classes (cx ++ PL) H := hP.part isC hC
  have hDc : va_D A (cx ++ PL) := hD.part isC hnC hC
  have hFc := va_freeP hD hS hA isC hC
  refine va_calli (va_runVN (As := As) (rest := rest) S0 hM cw ⟨zPreO_blind, hrv, fun U hU hW => ⟨rfl, ⟨by rw [hU], by rw [hU]; exact hPc, va_K.moved hW.alike hK, hDc.weaken (fun _ _ _ _ => trivial)⟩, zO.warm hW hO⟩⟩ rfl hlen hsize rfl (lv_room hW) hdg hf) hS (fun q _ h => hFc q h) hFc (fun r u t H1 locs1 ht hvm hw hB hz1 hk1 hS1 => ?_)
  have hB : va_P D classes (w1 u ++ pl1 u) t.heap ∧ va_D (va_A (cx ++ PL) H.size) (w1 u ++ pl1 u) := hB
  rw [ht] at hB
  obtain ⟨hP2, hD2⟩ := va_joinP hP hD isC isR hC hR hn hdis hk1 hFc hB.1 hB.2
  exact kk r u H1 locs1 hw hP2 hD2 hS1
theorem zk_niOQ  {post : Int32 → S → Prop} (hO : zO s) (hM : Met l y wsY rm (va_Pc (.ref b :: As) (zPreO D cs cx H.size)) (va_Qi post (fun (u : S) (t : State) => va_P D classes (w1 u) t.heap ∧ va_D (va_A cx H.size) (w1 u)) (va_A cx H.size)) mc ms (va_A cx H.size))
    (S0 : CallFix p m c cc nL s args zW own) (cw : va_CN R s args own index y host bytes maxL ret wsY rm mc ms n ∧ (Cond.instanceMethod y).before args s = true ∧ (Cond.selects C y y).before args s = true) (hrv : ∃ cellB : Cell, H[b]? = some cellB ∧ cellB.vm.isStatics = false ∧ s.vm.findClass C = some cellB.cls)
    (hP : va_P D classes (X ++ PL) H) (hD : va_D A (X ++ PL)) (hS : va_S A s.heap H locs) (hK : va_K D classes (zT cs) s) (hA : ∀ q : Nat, s.heap.size ≤ q → A q) (isC isR : List Nat) (hC : isC.map (fun i => X[i]?) = cx.map some) (hnC : va_nd isC = true) (hR : isR.map (fun i => X[i]?) = (isR.filterMap (fun i => X[i]?)).map some) (hn : va_nd isR = true) (hdis : ∀ i ∈ isR, i ∉ isC)
    (hlen : As.length = n) (hsize : ls.size = nL) (hW : (rest.map fun v => v.category).sum ≤ 8) (hdg : decode cc pc = .ok (.invokevirtual index, 3)) (hf : cells + mc ≤ R.cells ∧ slots + ms ≤ R.slots)
    (kk : ∀ (r : Int32) (u : S) (H1 : Heap) (locs1 : List Loc), post r u → va_P D classes ((isR.filterMap (fun i => X[i]?) ++ w1 u) ++ PL) H1 → va_D A ((isR.filterMap (fun i => X[i]?) ++ w1 u) ++ PL) → va_S A s.heap H1 locs1 → W p l e R s m args below meth c H1 locs1 (cells + mc) (slots + ms) Q (F0 m (pc + 3) ls (.int r :: rest))) :
    W p l e R s m args below meth c H locs cells slots Q (F0 m pc ls (As.reverse ++ .ref b :: rest)) := by
  have hPc : va_P D classes cx H := (zP_l hP).sub isC (zk_fm hC)
  have hDc : va_D A cx := (zD_l hD).sub isC hnC hC
  have hFc := va_free (zD_l hD) hS hA isC hC
  refine va_calli (va_runVN (As := As) (rest := rest) S0 hM cw ⟨zPreO_blind, hrv, fun U hU hW => ⟨rfl, ⟨by rw [hU], by rw [hU]; exact hPc, va_K.moved hW.alike hK, hDc.weaken (fun _ _ _ _ => trivial)⟩, zO.warm hW hO⟩⟩ rfl hlen hsize rfl (lv_room hW) hdg hf) hS (fun q _ h => hFc q h) hFc (fun r u t H1 locs1 ht hvm hw hB hz1 hk1 hS1 => ?_)
  have hB : va_P D classes (w1 u) t.heap ∧ va_D (va_A cx H.size) (w1 u) := hB
  rw [ht] at hB
  obtain ⟨hP2, hD2⟩ := va_joinQ hP hD isC isR hC hR hn hdis hk1 hFc hB.1 hB.2
  exact kk r u H1 locs1 hw hP2 hD2 hS1
theorem zk_nlP  {post : Int64 → S → Prop} (hM : Met l y wsY rm (va_Pc (.ref b :: As) (zPre D cs (cx ++ PL) H.size)) (va_Ql post (fun (u : S) (t : State) => va_P D classes (w1 u ++ pl1 u) t.heap ∧ va_D (va_A (cx ++ PL) H.size) (w1 u ++ pl1 u)) (va_A (cx ++ PL) H.size)) mc ms (va_A (cx ++ PL) H.size))
    (S0 : CallFix p m c cc nL s args zW own) (cw : va_CN R s args own index y host bytes maxL ret wsY rm mc ms n ∧ (Cond.instanceMethod y).before args s = true ∧ (Cond.selects C y y).before args s = true) (hrv : ∃ cellB : Cell, H[b]? = some cellB ∧ cellB.vm.isStatics = false ∧ s.vm.findClass C = some cellB.cls)
    (hP : va_P D classes (X ++ PL) H) (hD : va_D A (X ++ PL)) (hS : va_S A s.heap H locs) (hK : va_K D classes (zT cs) s) (hA : ∀ q : Nat, s.heap.size ≤ q → A q) (isC isR : List Nat) (hC : isC.map (fun i => X[i]?) = cx.map some) (hnC : va_nd isC = true) (hR : isR.map (fun i => X[i]?) = (isR.filterMap (fun i => X[i]?)).map some) (hn : va_nd isR = true) (hdis : ∀ i ∈ isR, i ∉ isC)
    (hlen : As.length = n) (hsize : ls.size = nL) (hW : (rest.map fun v => v.category).sum ≤ 8) (hdg : decode cc pc = .ok (.invokevirtual index, 3)) (hf : cells + mc ≤ R.cells ∧ slots + ms ≤ R.slots)
    (kk : ∀ (r : Int64) (u : S) (H1 : Heap) (locs1 : List Loc), post r u → va_P D classes ((isR.filterMap (fun i => X[i]?) ++ w1 u) ++ pl1 u) H1 → va_D A ((isR.filterMap (fun i => X[i]?) ++ w1 u) ++ pl1 u) → va_S A s.heap H1 locs1 → W p l e R s m args below meth c H1 locs1 (cells + mc) (slots + ms) Q (F0 m (pc + 3) ls (.long r :: rest))) :
    W p l e R s m args below meth c H locs cells slots Q (F0 m pc ls (As.reverse ++ .ref b :: rest)) := by
  have hPc : va_P D classes (cx ++ PL) H := hP.part isC hC
  have hDc : va_D A (cx ++ PL) := hD.part isC hnC hC
  have hFc := va_freeP hD hS hA isC hC
  refine va_calll (va_runVN (As := As) (rest := rest) S0 hM cw ⟨zPre_blind, hrv, fun U hU hW => ⟨rfl, ⟨by rw [hU], by rw [hU]; exact hPc, va_K.moved hW.alike hK, hDc.weaken (fun _ _ _ _ => trivial)⟩⟩⟩ rfl hlen hsize rfl (lv_room hW) hdg hf) hS (fun q _ h => hFc q h) hFc (fun r u t H1 locs1 ht hvm hw hB hz1 hk1 hS1 => ?_)
  have hB : va_P D classes (w1 u ++ pl1 u) t.heap ∧ va_D (va_A (cx ++ PL) H.size) (w1 u ++ pl1 u) := hB
  rw [ht] at hB
  obtain ⟨hP2, hD2⟩ := va_joinP hP hD isC isR hC hR hn hdis hk1 hFc hB.1 hB.2
  exact kk r u H1 locs1 hw hP2 hD2 hS1
theorem zk_nlQ  {post : Int64 → S → Prop} (hM : Met l y wsY rm (va_Pc (.ref b :: As) (zPre D cs cx H.size)) (va_Ql post (fun (u : S) (t : State) => va_P D classes (w1 u) t.heap ∧ va_D (va_A cx H.size) (w1 u)) (va_A cx H.size)) mc ms (va_A cx H.size))
    (S0 : CallFix p m c cc nL s args zW own) (cw : va_CN R s args own index y host bytes maxL ret wsY rm mc ms n ∧ (Cond.instanceMethod y).before args s = true ∧ (Cond.selects C y y).before args s = true) (hrv : ∃ cellB : Cell, H[b]? = some cellB ∧ cellB.vm.isStatics = false ∧ s.vm.findClass C = some cellB.cls)
    (hP : va_P D classes (X ++ PL) H) (hD : va_D A (X ++ PL)) (hS : va_S A s.heap H locs) (hK : va_K D classes (zT cs) s) (hA : ∀ q : Nat, s.heap.size ≤ q → A q) (isC isR : List Nat) (hC : isC.map (fun i => X[i]?) = cx.map some) (hnC : va_nd isC = true) (hR : isR.map (fun i => X[i]?) = (isR.filterMap (fun i => X[i]?)).map some) (hn : va_nd isR = true) (hdis : ∀ i ∈ isR, i ∉ isC)
    (hlen : As.length = n) (hsize : ls.size = nL) (hW : (rest.map fun v => v.category).sum ≤ 8) (hdg : decode cc pc = .ok (.invokevirtual index, 3)) (hf : cells + mc ≤ R.cells ∧ slots + ms ≤ R.slots)
    (kk : ∀ (r : Int64) (u : S) (H1 : Heap) (locs1 : List Loc), post r u → va_P D classes ((isR.filterMap (fun i => X[i]?) ++ w1 u) ++ PL) H1 → va_D A ((isR.filterMap (fun i => X[i]?) ++ w1 u) ++ PL) → va_S A s.heap H1 locs1 → W p l e R s m args below meth c H1 locs1 (cells + mc) (slots + ms) Q (F0 m (pc + 3) ls (.long r :: rest))) :
    W p l e R s m args below meth c H locs cells slots Q (F0 m pc ls (As.reverse ++ .ref b :: rest)) := by
  have hPc : va_P D classes cx H := (zP_l hP).sub isC (zk_fm hC)
  have hDc : va_D A cx := (zD_l hD).sub isC hnC hC
  have hFc := va_free (zD_l hD) hS hA isC hC
  refine va_calll (va_runVN (As := As) (rest := rest) S0 hM cw ⟨zPre_blind, hrv, fun U hU hW => ⟨rfl, ⟨by rw [hU], by rw [hU]; exact hPc, va_K.moved hW.alike hK, hDc.weaken (fun _ _ _ _ => trivial)⟩⟩⟩ rfl hlen hsize rfl (lv_room hW) hdg hf) hS (fun q _ h => hFc q h) hFc (fun r u t H1 locs1 ht hvm hw hB hz1 hk1 hS1 => ?_)
  have hB : va_P D classes (w1 u) t.heap ∧ va_D (va_A cx H.size) (w1 u) := hB
  rw [ht] at hB
  obtain ⟨hP2, hD2⟩ := va_joinQ hP hD isC isR hC hR hn hdis hk1 hFc hB.1 hB.2
  exact kk r u H1 locs1 hw hP2 hD2 hS1
theorem zk_nlOP  {post : Int64 → S → Prop} (hO : zO s) (hM : Met l y wsY rm (va_Pc (.ref b :: As) (zPreO D cs (cx ++ PL) H.size)) (va_Ql post (fun (u : S) (t : State) => va_P D classes (w1 u ++ pl1 u) t.heap ∧ va_D (va_A (cx ++ PL) H.size) (w1 u ++ pl1 u)) (va_A (cx ++ PL) H.size)) mc ms (va_A (cx ++ PL) H.size))
    (S0 : CallFix p m c cc nL s args zW own) (cw : va_CN R s args own index y host bytes maxL ret wsY rm mc ms n ∧ (Cond.instanceMethod y).before args s = true ∧ (Cond.selects C y y).before args s = true) (hrv : ∃ cellB : Cell, H[b]? = some cellB ∧ cellB.vm.isStatics = false ∧ s.vm.findClass C = some cellB.cls)
    (hP : va_P D classes (X ++ PL) H) (hD : va_D A (X ++ PL)) (hS : va_S A s.heap H locs) (hK : va_K D classes (zT cs) s) (hA : ∀ q : Nat, s.heap.size ≤ q → A q) (isC isR : List Nat) (hC : isC.map (fun i => X[i]?) = cx.map some) (hnC : va_nd isC = true) (hR : isR.map (fun i => X[i]?) = (isR.filterMap (fun i => X[i]?)).map some) (hn : va_nd isR = true) (hdis : ∀ i ∈ isR, i ∉ isC)
    (hlen : As.length = n) (hsize : ls.size = nL) (hW : (rest.map fun v => v.category).sum ≤ 8) (hdg : decode cc pc = .ok (.invokevirtual index, 3)) (hf : cells + mc ≤ R.cells ∧ slots + ms ≤ R.slots)
    (kk : ∀ (r : Int64) (u : S) (H1 : Heap) (locs1 : List Loc), post r u → va_P D classes ((isR.filterMap (fun i => X[i]?) ++ w1 u) ++ pl1 u) H1 → va_D A ((isR.filterMap (fun i => X[i]?) ++ w1 u) ++ pl1 u) → va_S A s.heap H1 locs1 → W p l e R s m args below meth c H1 locs1 (cells + mc) (slots + ms) Q (F0 m (pc + 3) ls (.long r :: rest))) :
    W p l e R s m args below meth c H locs cells slots Q (F0 m pc ls (As.reverse ++ .ref b :: rest)) := by
  have hPc : va_P D classes (cx ++ PL) H := hP.part isC hC
  have hDc : va_D A (cx ++ PL) := hD.part isC hnC hC
  have hFc := va_freeP hD hS hA isC hC
  refine va_calll (va_runVN (As := As) (rest := rest) S0 hM cw ⟨zPreO_blind, hrv, fun U hU hW => ⟨rfl, ⟨by rw [hU], by rw [hU]; exact hPc, va_K.moved hW.alike hK, hDc.weaken (fun _ _ _ _ => trivial)⟩, zO.warm hW hO⟩⟩ rfl hlen hsize rfl (lv_room hW) hdg hf) hS (fun q _ h => hFc q h) hFc (fun r u t H1 locs1 ht hvm hw hB hz1 hk1 hS1 => ?_)
  have hB : va_P D classes (w1 u ++ pl1 u) t.heap ∧ va_D (va_A (cx ++ PL) H.size) (w1 u ++ pl1 u) := hB
  rw [ht] at hB
  obtain ⟨hP2, hD2⟩ := va_joinP hP hD isC isR hC hR hn hdis hk1 hFc hB.1 hB.2
  exact kk r u H1 locs1 hw hP2 hD2 hS1
theorem zk_nlOQ  {post : Int64 → S → Prop} (hO : zO s) (hM : Met l y wsY rm (va_Pc (.ref b :: As) (zPreO D cs cx H.size)) (va_Ql post (fun (u : S) (t : State) => va_P D classes (w1 u) t.heap ∧ va_D (va_A cx H.size) (w1 u)) (va_A cx H.size)) mc ms (va_A cx H.size))
    (S0 : CallFix p m c cc nL s args zW own) (cw : va_CN R s args own index y host bytes maxL ret wsY rm mc ms n ∧ (Cond.instanceMethod y).before args s = true ∧ (Cond.selects C y y).before args s = true) (hrv : ∃ cellB : Cell, H[b]? = some cellB ∧ cellB.vm.isStatics = false ∧ s.vm.findClass C = some cellB.cls)
    (hP : va_P D classes (X ++ PL) H) (hD : va_D A (X ++ PL)) (hS : va_S A s.heap H locs) (hK : va_K D classes (zT cs) s) (hA : ∀ q : Nat, s.heap.size ≤ q → A q) (isC isR : List Nat) (hC : isC.map (fun i => X[i]?) = cx.map some) (hnC : va_nd isC = true) (hR : isR.map (fun i => X[i]?) = (isR.filterMap (fun i => X[i]?)).map some) (hn : va_nd isR = true) (hdis : ∀ i ∈ isR, i ∉ isC)
    (hlen : As.length = n) (hsize : ls.size = nL) (hW : (rest.map fun v => v.category).sum ≤ 8) (hdg : decode cc pc = .ok (.invokevirtual index, 3)) (hf : cells + mc ≤ R.cells ∧ slots + ms ≤ R.slots)
    (kk : ∀ (r : Int64) (u : S) (H1 : Heap) (locs1 : List Loc), post r u → va_P D classes ((isR.filterMap (fun i => X[i]?) ++ w1 u) ++ PL) H1 → va_D A ((isR.filterMap (fun i => X[i]?) ++ w1 u) ++ PL) → va_S A s.heap H1 locs1 → W p l e R s m args below meth c H1 locs1 (cells + mc) (slots + ms) Q (F0 m (pc + 3) ls (.long r :: rest))) :
    W p l e R s m args below meth c H locs cells slots Q (F0 m pc ls (As.reverse ++ .ref b :: rest)) := by
  have hPc : va_P D classes cx H := (zP_l hP).sub isC (zk_fm hC)
  have hDc : va_D A cx := (zD_l hD).sub isC hnC hC
  have hFc := va_free (zD_l hD) hS hA isC hC
  refine va_calll (va_runVN (As := As) (rest := rest) S0 hM cw ⟨zPreO_blind, hrv, fun U hU hW => ⟨rfl, ⟨by rw [hU], by rw [hU]; exact hPc, va_K.moved hW.alike hK, hDc.weaken (fun _ _ _ _ => trivial)⟩, zO.warm hW hO⟩⟩ rfl hlen hsize rfl (lv_room hW) hdg hf) hS (fun q _ h => hFc q h) hFc (fun r u t H1 locs1 ht hvm hw hB hz1 hk1 hS1 => ?_)
  have hB : va_P D classes (w1 u) t.heap ∧ va_D (va_A cx H.size) (w1 u) := hB
  rw [ht] at hB
  obtain ⟨hP2, hD2⟩ := va_joinQ hP hD isC isR hC hR hn hdis hk1 hFc hB.1 hB.2
  exact kk r u H1 locs1 hw hP2 hD2 hS1
theorem zk_nvP  {post : S → Prop} (hM : Met l y wsY rm (va_Pc (.ref b :: As) (zPre D cs (cx ++ PL) H.size)) (va_Qv post (fun (u : S) (t : State) => va_P D classes (w1 u ++ pl1 u) t.heap ∧ va_D (va_A (cx ++ PL) H.size) (w1 u ++ pl1 u)) (va_A (cx ++ PL) H.size)) mc ms (va_A (cx ++ PL) H.size))
    (S0 : CallFix p m c cc nL s args zW own) (cw : va_CN R s args own index y host bytes maxL ret wsY rm mc ms n ∧ (Cond.instanceMethod y).before args s = true ∧ (Cond.selects C y y).before args s = true) (hrv : ∃ cellB : Cell, H[b]? = some cellB ∧ cellB.vm.isStatics = false ∧ s.vm.findClass C = some cellB.cls)
    (hP : va_P D classes (X ++ PL) H) (hD : va_D A (X ++ PL)) (hS : va_S A s.heap H locs) (hK : va_K D classes (zT cs) s) (hA : ∀ q : Nat, s.heap.size ≤ q → A q) (isC isR : List Nat) (hC : isC.map (fun i => X[i]?) = cx.map some) (hnC : va_nd isC = true) (hR : isR.map (fun i => X[i]?) = (isR.filterMap (fun i => X[i]?)).map some) (hn : va_nd isR = true) (hdis : ∀ i ∈ isR, i ∉ isC)
    (hlen : As.length = n) (hsize : ls.size = nL) (hW : (rest.map fun v => v.category).sum ≤ 8) (hdg : decode cc pc = .ok (.invokevirtual index, 3)) (hf : cells + mc ≤ R.cells ∧ slots + ms ≤ R.slots)
    (kk : ∀ (u : S) (H1 : Heap) (locs1 : List Loc), post u → va_P D classes ((isR.filterMap (fun i => X[i]?) ++ w1 u) ++ pl1 u) H1 → va_D A ((isR.filterMap (fun i => X[i]?) ++ w1 u) ++ pl1 u) → va_S A s.heap H1 locs1 → W p l e R s m args below meth c H1 locs1 (cells + mc) (slots + ms) Q (F0 m (pc + 3) ls (rest))) :
    W p l e R s m args below meth c H locs cells slots Q (F0 m pc ls (As.reverse ++ .ref b :: rest)) := by
  have hPc : va_P D classes (cx ++ PL) H := hP.part isC hC
  have hDc : va_D A (cx ++ PL) := hD.part isC hnC hC
  have hFc := va_freeP hD hS hA isC hC
  refine va_callv (va_runVN (As := As) (rest := rest) S0 hM cw ⟨zPre_blind, hrv, fun U hU hW => ⟨rfl, ⟨by rw [hU], by rw [hU]; exact hPc, va_K.moved hW.alike hK, hDc.weaken (fun _ _ _ _ => trivial)⟩⟩⟩ rfl hlen hsize rfl (lv_room hW) hdg hf) hS (fun q _ h => hFc q h) hFc (fun u t H1 locs1 ht hvm hw hB hz1 hk1 hS1 => ?_)
  have hB : va_P D classes (w1 u ++ pl1 u) t.heap ∧ va_D (va_A (cx ++ PL) H.size) (w1 u ++ pl1 u) := hB
  rw [ht] at hB
  obtain ⟨hP2, hD2⟩ := va_joinP hP hD isC isR hC hR hn hdis hk1 hFc hB.1 hB.2
  exact kk u H1 locs1 hw hP2 hD2 hS1
theorem zk_nvQ  {post : S → Prop} (hM : Met l y wsY rm (va_Pc (.ref b :: As) (zPre D cs cx H.size)) (va_Qv post (fun (u : S) (t : State) => va_P D classes (w1 u) t.heap ∧ va_D (va_A cx H.size) (w1 u)) (va_A cx H.size)) mc ms (va_A cx H.size))
    (S0 : CallFix p m c cc nL s args zW own) (cw : va_CN R s args own index y host bytes maxL ret wsY rm mc ms n ∧ (Cond.instanceMethod y).before args s = true ∧ (Cond.selects C y y).before args s = true) (hrv : ∃ cellB : Cell, H[b]? = some cellB ∧ cellB.vm.isStatics = false ∧ s.vm.findClass C = some cellB.cls)
    (hP : va_P D classes (X ++ PL) H) (hD : va_D A (X ++ PL)) (hS : va_S A s.heap H locs) (hK : va_K D classes (zT cs) s) (hA : ∀ q : Nat, s.heap.size ≤ q → A q) (isC isR : List Nat) (hC : isC.map (fun i => X[i]?) = cx.map some) (hnC : va_nd isC = true) (hR : isR.map (fun i => X[i]?) = (isR.filterMap (fun i => X[i]?)).map some) (hn : va_nd isR = true) (hdis : ∀ i ∈ isR, i ∉ isC)
    (hlen : As.length = n) (hsize : ls.size = nL) (hW : (rest.map fun v => v.category).sum ≤ 8) (hdg : decode cc pc = .ok (.invokevirtual index, 3)) (hf : cells + mc ≤ R.cells ∧ slots + ms ≤ R.slots)
    (kk : ∀ (u : S) (H1 : Heap) (locs1 : List Loc), post u → va_P D classes ((isR.filterMap (fun i => X[i]?) ++ w1 u) ++ PL) H1 → va_D A ((isR.filterMap (fun i => X[i]?) ++ w1 u) ++ PL) → va_S A s.heap H1 locs1 → W p l e R s m args below meth c H1 locs1 (cells + mc) (slots + ms) Q (F0 m (pc + 3) ls (rest))) :
    W p l e R s m args below meth c H locs cells slots Q (F0 m pc ls (As.reverse ++ .ref b :: rest)) := by
  have hPc : va_P D classes cx H := (zP_l hP).sub isC (zk_fm hC)
  have hDc : va_D A cx := (zD_l hD).sub isC hnC hC
  have hFc := va_free (zD_l hD) hS hA isC hC
  refine va_callv (va_runVN (As := As) (rest := rest) S0 hM cw ⟨zPre_blind, hrv, fun U hU hW => ⟨rfl, ⟨by rw [hU], by rw [hU]; exact hPc, va_K.moved hW.alike hK, hDc.weaken (fun _ _ _ _ => trivial)⟩⟩⟩ rfl hlen hsize rfl (lv_room hW) hdg hf) hS (fun q _ h => hFc q h) hFc (fun u t H1 locs1 ht hvm hw hB hz1 hk1 hS1 => ?_)
  have hB : va_P D classes (w1 u) t.heap ∧ va_D (va_A cx H.size) (w1 u) := hB
  rw [ht] at hB
  obtain ⟨hP2, hD2⟩ := va_joinQ hP hD isC isR hC hR hn hdis hk1 hFc hB.1 hB.2
  exact kk u H1 locs1 hw hP2 hD2 hS1
theorem zk_nvOP  {post : S → Prop} (hO : zO s) (hM : Met l y wsY rm (va_Pc (.ref b :: As) (zPreO D cs (cx ++ PL) H.size)) (va_Qv post (fun (u : S) (t : State) => va_P D classes (w1 u ++ pl1 u) t.heap ∧ va_D (va_A (cx ++ PL) H.size) (w1 u ++ pl1 u)) (va_A (cx ++ PL) H.size)) mc ms (va_A (cx ++ PL) H.size))
    (S0 : CallFix p m c cc nL s args zW own) (cw : va_CN R s args own index y host bytes maxL ret wsY rm mc ms n ∧ (Cond.instanceMethod y).before args s = true ∧ (Cond.selects C y y).before args s = true) (hrv : ∃ cellB : Cell, H[b]? = some cellB ∧ cellB.vm.isStatics = false ∧ s.vm.findClass C = some cellB.cls)
    (hP : va_P D classes (X ++ PL) H) (hD : va_D A (X ++ PL)) (hS : va_S A s.heap H locs) (hK : va_K D classes (zT cs) s) (hA : ∀ q : Nat, s.heap.size ≤ q → A q) (isC isR : List Nat) (hC : isC.map (fun i => X[i]?) = cx.map some) (hnC : va_nd isC = true) (hR : isR.map (fun i => X[i]?) = (isR.filterMap (fun i => X[i]?)).map some) (hn : va_nd isR = true) (hdis : ∀ i ∈ isR, i ∉ isC)
    (hlen : As.length = n) (hsize : ls.size = nL) (hW : (rest.map fun v => v.category).sum ≤ 8) (hdg : decode cc pc = .ok (.invokevirtual index, 3)) (hf : cells + mc ≤ R.cells ∧ slots + ms ≤ R.slots)
    (kk : ∀ (u : S) (H1 : Heap) (locs1 : List Loc), post u → va_P D classes ((isR.filterMap (fun i => X[i]?) ++ w1 u) ++ pl1 u) H1 → va_D A ((isR.filterMap (fun i => X[i]?) ++ w1 u) ++ pl1 u) → va_S A s.heap H1 locs1 → W p l e R s m args below meth c H1 locs1 (cells + mc) (slots + ms) Q (F0 m (pc + 3) ls (rest))) :
    W p l e R s m args below meth c H locs cells slots Q (F0 m pc ls (As.reverse ++ .ref b :: rest)) := by
  have hPc : va_P D classes (cx ++ PL) H := hP.part isC hC
  have hDc : va_D A (cx ++ PL) := hD.part isC hnC hC
  have hFc := va_freeP hD hS hA isC hC
  refine va_callv (va_runVN (As := As) (rest := rest) S0 hM cw ⟨zPreO_blind, hrv, fun U hU hW => ⟨rfl, ⟨by rw [hU], by rw [hU]; exact hPc, va_K.moved hW.alike hK, hDc.weaken (fun _ _ _ _ => trivial)⟩, zO.warm hW hO⟩⟩ rfl hlen hsize rfl (lv_room hW) hdg hf) hS (fun q _ h => hFc q h) hFc (fun u t H1 locs1 ht hvm hw hB hz1 hk1 hS1 => ?_)
  have hB : va_P D classes (w1 u ++ pl1 u) t.heap ∧ va_D (va_A (cx ++ PL) H.size) (w1 u ++ pl1 u) := hB
  rw [ht] at hB
  obtain ⟨hP2, hD2⟩ := va_joinP hP hD isC isR hC hR hn hdis hk1 hFc hB.1 hB.2
  exact kk u H1 locs1 hw hP2 hD2 hS1
theorem zk_nvOQ  {post : S → Prop} (hO : zO s) (hM : Met l y wsY rm (va_Pc (.ref b :: As) (zPreO D cs cx H.size)) (va_Qv post (fun (u : S) (t : State) => va_P D classes (w1 u) t.heap ∧ va_D (va_A cx H.size) (w1 u)) (va_A cx H.size)) mc ms (va_A cx H.size))
    (S0 : CallFix p m c cc nL s args zW own) (cw : va_CN R s args own index y host bytes maxL ret wsY rm mc ms n ∧ (Cond.instanceMethod y).before args s = true ∧ (Cond.selects C y y).before args s = true) (hrv : ∃ cellB : Cell, H[b]? = some cellB ∧ cellB.vm.isStatics = false ∧ s.vm.findClass C = some cellB.cls)
    (hP : va_P D classes (X ++ PL) H) (hD : va_D A (X ++ PL)) (hS : va_S A s.heap H locs) (hK : va_K D classes (zT cs) s) (hA : ∀ q : Nat, s.heap.size ≤ q → A q) (isC isR : List Nat) (hC : isC.map (fun i => X[i]?) = cx.map some) (hnC : va_nd isC = true) (hR : isR.map (fun i => X[i]?) = (isR.filterMap (fun i => X[i]?)).map some) (hn : va_nd isR = true) (hdis : ∀ i ∈ isR, i ∉ isC)
    (hlen : As.length = n) (hsize : ls.size = nL) (hW : (rest.map fun v => v.category).sum ≤ 8) (hdg : decode cc pc = .ok (.invokevirtual index, 3)) (hf : cells + mc ≤ R.cells ∧ slots + ms ≤ R.slots)
    (kk : ∀ (u : S) (H1 : Heap) (locs1 : List Loc), post u → va_P D classes ((isR.filterMap (fun i => X[i]?) ++ w1 u) ++ PL) H1 → va_D A ((isR.filterMap (fun i => X[i]?) ++ w1 u) ++ PL) → va_S A s.heap H1 locs1 → W p l e R s m args below meth c H1 locs1 (cells + mc) (slots + ms) Q (F0 m (pc + 3) ls (rest))) :
    W p l e R s m args below meth c H locs cells slots Q (F0 m pc ls (As.reverse ++ .ref b :: rest)) := by
  have hPc : va_P D classes cx H := (zP_l hP).sub isC (zk_fm hC)
  have hDc : va_D A cx := (zD_l hD).sub isC hnC hC
  have hFc := va_free (zD_l hD) hS hA isC hC
  refine va_callv (va_runVN (As := As) (rest := rest) S0 hM cw ⟨zPreO_blind, hrv, fun U hU hW => ⟨rfl, ⟨by rw [hU], by rw [hU]; exact hPc, va_K.moved hW.alike hK, hDc.weaken (fun _ _ _ _ => trivial)⟩, zO.warm hW hO⟩⟩ rfl hlen hsize rfl (lv_room hW) hdg hf) hS (fun q _ h => hFc q h) hFc (fun u t H1 locs1 ht hvm hw hB hz1 hk1 hS1 => ?_)
  have hB : va_P D classes (w1 u) t.heap ∧ va_D (va_A cx H.size) (w1 u) := hB
  rw [ht] at hB
  obtain ⟨hP2, hD2⟩ := va_joinQ hP hD isC isR hC hR hn hdis hk1 hFc hB.1 hB.2
  exact kk u H1 locs1 hw hP2 hD2 hS1
theorem zk_nqP  {post : Option Nat → S → Prop} (hM : Met l y wsY rm (va_Pc (.ref b :: As) (zPre D cs (cx ++ PL) H.size)) (va_Qq post (fun (u : S) (t : State) => va_P D classes (w1 u ++ pl1 u) t.heap ∧ va_D (va_A (cx ++ PL) H.size) (w1 u ++ pl1 u)) (va_A (cx ++ PL) H.size)) mc ms (va_A (cx ++ PL) H.size))
    (S0 : CallFix p m c cc nL s args zW own) (cw : va_CN R s args own index y host bytes maxL ret wsY rm mc ms n ∧ (Cond.instanceMethod y).before args s = true ∧ (Cond.selects C y y).before args s = true) (hrv : ∃ cellB : Cell, H[b]? = some cellB ∧ cellB.vm.isStatics = false ∧ s.vm.findClass C = some cellB.cls)
    (hP : va_P D classes (X ++ PL) H) (hD : va_D A (X ++ PL)) (hS : va_S A s.heap H locs) (hK : va_K D classes (zT cs) s) (hA : ∀ q : Nat, s.heap.size ≤ q → A q) (isC isR : List Nat) (hC : isC.map (fun i => X[i]?) = cx.map some) (hnC : va_nd isC = true) (hR : isR.map (fun i => X[i]?) = (isR.filterMap (fun i => X[i]?)).map some) (hn : va_nd isR = true) (hdis : ∀ i ∈ isR, i ∉ isC)
    (hlen : As.length = n) (hsize : ls.size = nL) (hW : (rest.map fun v => v.category).sum ≤ 8) (hdg : decode cc pc = .ok (.invokevirtual index, 3)) (hf : cells + mc ≤ R.cells ∧ slots + ms ≤ R.slots)
    (kk : ∀ (r : Option Nat) (u : S) (H1 : Heap) (locs1 : List Loc), post r u → va_P D classes ((isR.filterMap (fun i => X[i]?) ++ w1 u) ++ pl1 u) H1 → va_D A ((isR.filterMap (fun i => X[i]?) ++ w1 u) ++ pl1 u) → va_S A s.heap H1 locs1 → W p l e R s m args below meth c H1 locs1 (cells + mc) (slots + ms) Q (F0 m (pc + 3) ls (va_rf r :: rest))) :
    W p l e R s m args below meth c H locs cells slots Q (F0 m pc ls (As.reverse ++ .ref b :: rest)) := by
  have hPc : va_P D classes (cx ++ PL) H := hP.part isC hC
  have hDc : va_D A (cx ++ PL) := hD.part isC hnC hC
  have hFc := va_freeP hD hS hA isC hC
  refine va_callq (va_runVN (As := As) (rest := rest) S0 hM cw ⟨zPre_blind, hrv, fun U hU hW => ⟨rfl, ⟨by rw [hU], by rw [hU]; exact hPc, va_K.moved hW.alike hK, hDc.weaken (fun _ _ _ _ => trivial)⟩⟩⟩ rfl hlen hsize rfl (lv_room hW) hdg hf) hS (fun q _ h => hFc q h) hFc (fun r u t H1 locs1 ht hvm hw hB hz1 hk1 hS1 => ?_)
  have hB : va_P D classes (w1 u ++ pl1 u) t.heap ∧ va_D (va_A (cx ++ PL) H.size) (w1 u ++ pl1 u) := hB
  rw [ht] at hB
  obtain ⟨hP2, hD2⟩ := va_joinP hP hD isC isR hC hR hn hdis hk1 hFc hB.1 hB.2
  exact kk r u H1 locs1 hw hP2 hD2 hS1
theorem zk_nqQ  {post : Option Nat → S → Prop} (hM : Met l y wsY rm (va_Pc (.ref b :: As) (zPre D cs cx H.size)) (va_Qq post (fun (u : S) (t : State) => va_P D classes (w1 u) t.heap ∧ va_D (va_A cx H.size) (w1 u)) (va_A cx H.size)) mc ms (va_A cx H.size))
    (S0 : CallFix p m c cc nL s args zW own) (cw : va_CN R s args own index y host bytes maxL ret wsY rm mc ms n ∧ (Cond.instanceMethod y).before args s = true ∧ (Cond.selects C y y).before args s = true) (hrv : ∃ cellB : Cell, H[b]? = some cellB ∧ cellB.vm.isStatics = false ∧ s.vm.findClass C = some cellB.cls)
    (hP : va_P D classes (X ++ PL) H) (hD : va_D A (X ++ PL)) (hS : va_S A s.heap H locs) (hK : va_K D classes (zT cs) s) (hA : ∀ q : Nat, s.heap.size ≤ q → A q) (isC isR : List Nat) (hC : isC.map (fun i => X[i]?) = cx.map some) (hnC : va_nd isC = true) (hR : isR.map (fun i => X[i]?) = (isR.filterMap (fun i => X[i]?)).map some) (hn : va_nd isR = true) (hdis : ∀ i ∈ isR, i ∉ isC)
    (hlen : As.length = n) (hsize : ls.size = nL) (hW : (rest.map fun v => v.category).sum ≤ 8) (hdg : decode cc pc = .ok (.invokevirtual index, 3)) (hf : cells + mc ≤ R.cells ∧ slots + ms ≤ R.slots)
    (kk : ∀ (r : Option Nat) (u : S) (H1 : Heap) (locs1 : List Loc), post r u → va_P D classes ((isR.filterMap (fun i => X[i]?) ++ w1 u) ++ PL) H1 → va_D A ((isR.filterMap (fun i => X[i]?) ++ w1 u) ++ PL) → va_S A s.heap H1 locs1 → W p l e R s m args below meth c H1 locs1 (cells + mc) (slots + ms) Q (F0 m (pc + 3) ls (va_rf r :: rest))) :
    W p l e R s m args below meth c H locs cells slots Q (F0 m pc ls (As.reverse ++ .ref b :: rest)) := by
  have hPc : va_P D classes cx H := (zP_l hP).sub isC (zk_fm hC)
  have hDc : va_D A cx := (zD_l hD).sub isC hnC hC
  have hFc := va_free (zD_l hD) hS hA isC hC
  refine va_callq (va_runVN (As := As) (rest := rest) S0 hM cw ⟨zPre_blind, hrv, fun U hU hW => ⟨rfl, ⟨by rw [hU], by rw [hU]; exact hPc, va_K.moved hW.alike hK, hDc.weaken (fun _ _ _ _ => trivial)⟩⟩⟩ rfl hlen hsize rfl (lv_room hW) hdg hf) hS (fun q _ h => hFc q h) hFc (fun r u t H1 locs1 ht hvm hw hB hz1 hk1 hS1 => ?_)
  have hB : va_P D classes (w1 u) t.heap ∧ va_D (va_A cx H.size) (w1 u) := hB
  rw [ht] at hB
  obtain ⟨hP2, hD2⟩ := va_joinQ hP hD isC isR hC hR hn hdis hk1 hFc hB.1 hB.2
  exact kk r u H1 locs1 hw hP2 hD2 hS1
theorem zk_nqOP  {post : Option Nat → S → Prop} (hO : zO s) (hM : Met l y wsY rm (va_Pc (.ref b :: As) (zPreO D cs (cx ++ PL) H.size)) (va_Qq post (fun (u : S) (t : State) => va_P D classes (w1 u ++ pl1 u) t.heap ∧ va_D (va_A (cx ++ PL) H.size) (w1 u ++ pl1 u)) (va_A (cx ++ PL) H.size)) mc ms (va_A (cx ++ PL) H.size))
    (S0 : CallFix p m c cc nL s args zW own) (cw : va_CN R s args own index y host bytes maxL ret wsY rm mc ms n ∧ (Cond.instanceMethod y).before args s = true ∧ (Cond.selects C y y).before args s = true) (hrv : ∃ cellB : Cell, H[b]? = some cellB ∧ cellB.vm.isStatics = false ∧ s.vm.findClass C = some cellB.cls)
    (hP : va_P D classes (X ++ PL) H) (hD : va_D A (X ++ PL)) (hS : va_S A s.heap H locs) (hK : va_K D classes (zT cs) s) (hA : ∀ q : Nat, s.heap.size ≤ q → A q) (isC isR : List Nat) (hC : isC.map (fun i => X[i]?) = cx.map some) (hnC : va_nd isC = true) (hR : isR.map (fun i => X[i]?) = (isR.filterMap (fun i => X[i]?)).map some) (hn : va_nd isR = true) (hdis : ∀ i ∈ isR, i ∉ isC)
    (hlen : As.length = n) (hsize : ls.size = nL) (hW : (rest.map fun v => v.category).sum ≤ 8) (hdg : decode cc pc = .ok (.invokevirtual index, 3)) (hf : cells + mc ≤ R.cells ∧ slots + ms ≤ R.slots)
    (kk : ∀ (r : Option Nat) (u : S) (H1 : Heap) (locs1 : List Loc), post r u → va_P D classes ((isR.filterMap (fun i => X[i]?) ++ w1 u) ++ pl1 u) H1 → va_D A ((isR.filterMap (fun i => X[i]?) ++ w1 u) ++ pl1 u) → va_S A s.heap H1 locs1 → W p l e R s m args below meth c H1 locs1 (cells + mc) (slots + ms) Q (F0 m (pc + 3) ls (va_rf r :: rest))) :
    W p l e R s m args below meth c H locs cells slots Q (F0 m pc ls (As.reverse ++ .ref b :: rest)) := by
  have hPc : va_P D classes (cx ++ PL) H := hP.part isC hC
  have hDc : va_D A (cx ++ PL) := hD.part isC hnC hC
  have hFc := va_freeP hD hS hA isC hC
  refine va_callq (va_runVN (As := As) (rest := rest) S0 hM cw ⟨zPreO_blind, hrv, fun U hU hW => ⟨rfl, ⟨by rw [hU], by rw [hU]; exact hPc, va_K.moved hW.alike hK, hDc.weaken (fun _ _ _ _ => trivial)⟩, zO.warm hW hO⟩⟩ rfl hlen hsize rfl (lv_room hW) hdg hf) hS (fun q _ h => hFc q h) hFc (fun r u t H1 locs1 ht hvm hw hB hz1 hk1 hS1 => ?_)
  have hB : va_P D classes (w1 u ++ pl1 u) t.heap ∧ va_D (va_A (cx ++ PL) H.size) (w1 u ++ pl1 u) := hB
  rw [ht] at hB
  obtain ⟨hP2, hD2⟩ := va_joinP hP hD isC isR hC hR hn hdis hk1 hFc hB.1 hB.2
  exact kk r u H1 locs1 hw hP2 hD2 hS1
theorem zk_nqOQ  {post : Option Nat → S → Prop} (hO : zO s) (hM : Met l y wsY rm (va_Pc (.ref b :: As) (zPreO D cs cx H.size)) (va_Qq post (fun (u : S) (t : State) => va_P D classes (w1 u) t.heap ∧ va_D (va_A cx H.size) (w1 u)) (va_A cx H.size)) mc ms (va_A cx H.size))
    (S0 : CallFix p m c cc nL s args zW own) (cw : va_CN R s args own index y host bytes maxL ret wsY rm mc ms n ∧ (Cond.instanceMethod y).before args s = true ∧ (Cond.selects C y y).before args s = true) (hrv : ∃ cellB : Cell, H[b]? = some cellB ∧ cellB.vm.isStatics = false ∧ s.vm.findClass C = some cellB.cls)
    (hP : va_P D classes (X ++ PL) H) (hD : va_D A (X ++ PL)) (hS : va_S A s.heap H locs) (hK : va_K D classes (zT cs) s) (hA : ∀ q : Nat, s.heap.size ≤ q → A q) (isC isR : List Nat) (hC : isC.map (fun i => X[i]?) = cx.map some) (hnC : va_nd isC = true) (hR : isR.map (fun i => X[i]?) = (isR.filterMap (fun i => X[i]?)).map some) (hn : va_nd isR = true) (hdis : ∀ i ∈ isR, i ∉ isC)
    (hlen : As.length = n) (hsize : ls.size = nL) (hW : (rest.map fun v => v.category).sum ≤ 8) (hdg : decode cc pc = .ok (.invokevirtual index, 3)) (hf : cells + mc ≤ R.cells ∧ slots + ms ≤ R.slots)
    (kk : ∀ (r : Option Nat) (u : S) (H1 : Heap) (locs1 : List Loc), post r u → va_P D classes ((isR.filterMap (fun i => X[i]?) ++ w1 u) ++ PL) H1 → va_D A ((isR.filterMap (fun i => X[i]?) ++ w1 u) ++ PL) → va_S A s.heap H1 locs1 → W p l e R s m args below meth c H1 locs1 (cells + mc) (slots + ms) Q (F0 m (pc + 3) ls (va_rf r :: rest))) :
    W p l e R s m args below meth c H locs cells slots Q (F0 m pc ls (As.reverse ++ .ref b :: rest)) := by
  have hPc : va_P D classes cx H := (zP_l hP).sub isC (zk_fm hC)
  have hDc : va_D A cx := (zD_l hD).sub isC hnC hC
  have hFc := va_free (zD_l hD) hS hA isC hC
  refine va_callq (va_runVN (As := As) (rest := rest) S0 hM cw ⟨zPreO_blind, hrv, fun U hU hW => ⟨rfl, ⟨by rw [hU], by rw [hU]; exact hPc, va_K.moved hW.alike hK, hDc.weaken (fun _ _ _ _ => trivial)⟩, zO.warm hW hO⟩⟩ rfl hlen hsize rfl (lv_room hW) hdg hf) hS (fun q _ h => hFc q h) hFc (fun r u t H1 locs1 ht hvm hw hB hz1 hk1 hS1 => ?_)
  have hB : va_P D classes (w1 u) t.heap ∧ va_D (va_A cx H.size) (w1 u) := hB
  rw [ht] at hB
  obtain ⟨hP2, hD2⟩ := va_joinQ hP hD isC isR hC hR hn hdis hk1 hFc hB.1 hB.2
  exact kk r u H1 locs1 hw hP2 hD2 hS1
theorem zk_tiP  {post : Int32 → S → Prop} (hM : Met l y wsY rm (va_Pc As (zPre D cs (cx ++ PL) H.size)) (va_Qi post (fun (u : S) (t : State) => va_P D classes (w1 u ++ pl1 u) t.heap ∧ va_D (va_A (cx ++ PL) H.size) (w1 u ++ pl1 u)) (va_A (cx ++ PL) H.size)) mc ms (va_A (cx ++ PL) H.size))
    (S0 : CallFix p m c cc nL s args zW own) (cw : va_CN R s args own index y host bytes maxL ret wsY rm mc ms n ∧ (Cond.static y).before args s = true ∧ True)
    (hP : va_P D classes (X ++ PL) H) (hD : va_D A (X ++ PL)) (hS : va_S A s.heap H locs) (hK : va_K D classes (zT cs) s) (hA : ∀ q : Nat, s.heap.size ≤ q → A q) (isC isR : List Nat) (hC : isC.map (fun i => X[i]?) = cx.map some) (hnC : va_nd isC = true) (hR : isR.map (fun i => X[i]?) = (isR.filterMap (fun i => X[i]?)).map some) (hn : va_nd isR = true) (hdis : ∀ i ∈ isR, i ∉ isC)
    (hlen : As.length = n) (hsize : ls.size = nL) (hW : (rest.map fun v => v.category).sum ≤ 8) (hdg : decode cc pc = .ok (.invokestatic index, 3)) (hf : cells + mc ≤ R.cells ∧ slots + ms ≤ R.slots)
    (kk : ∀ (r : Int32) (u : S) (H1 : Heap) (locs1 : List Loc), post r u → va_P D classes ((isR.filterMap (fun i => X[i]?) ++ w1 u) ++ pl1 u) H1 → va_D A ((isR.filterMap (fun i => X[i]?) ++ w1 u) ++ pl1 u) → va_S A s.heap H1 locs1 → W p l e R s m args below meth c H1 locs1 (cells + mc) (slots + ms) Q (F0 m (pc + 3) ls (.int r :: rest))) :
    W p l e R s m args below meth c H locs cells slots Q (F0 m pc ls (As.reverse ++ rest)) := by
  have hPc : va_P D classes (cx ++ PL) H := hP.part isC hC
  have hDc : va_D A (cx ++ PL) := hD.part isC hnC hC
  have hFc := va_freeP hD hS hA isC hC
  refine va_calli (va_runSN (As := As) (rest := rest) S0 hM cw ⟨zPre_blind, fun U hU hW => ⟨rfl, ⟨by rw [hU], by rw [hU]; exact hPc, va_K.moved hW.alike hK, hDc.weaken (fun _ _ _ _ => trivial)⟩⟩⟩ rfl hlen hsize rfl (lv_room hW) hdg hf) hS (fun q _ h => hFc q h) hFc (fun r u t H1 locs1 ht hvm hw hB hz1 hk1 hS1 => ?_)
  have hB : va_P D classes (w1 u ++ pl1 u) t.heap ∧ va_D (va_A (cx ++ PL) H.size) (w1 u ++ pl1 u) := hB
  rw [ht] at hB
  obtain ⟨hP2, hD2⟩ := va_joinP hP hD isC isR hC hR hn hdis hk1 hFc hB.1 hB.2
  exact kk r u H1 locs1 hw hP2 hD2 hS1
theorem zk_tiQ  {post : Int32 → S → Prop} (hM : Met l y wsY rm (va_Pc As (zPre D cs cx H.size)) (va_Qi post (fun (u : S) (t : State) => va_P D classes (w1 u) t.heap ∧ va_D (va_A cx H.size) (w1 u)) (va_A cx H.size)) mc ms (va_A cx H.size))
    (S0 : CallFix p m c cc nL s args zW own) (cw : va_CN R s args own index y host bytes maxL ret wsY rm mc ms n ∧ (Cond.static y).before args s = true ∧ True)
    (hP : va_P D classes (X ++ PL) H) (hD : va_D A (X ++ PL)) (hS : va_S A s.heap H locs) (hK : va_K D classes (zT cs) s) (hA : ∀ q : Nat, s.heap.size ≤ q → A q) (isC isR : List Nat) (hC : isC.map (fun i => X[i]?) = cx.map some) (hnC : va_nd isC = true) (hR : isR.map (fun i => X[i]?) = (isR.filterMap (fun i => X[i]?)).map some) (hn : va_nd isR = true) (hdis : ∀ i ∈ isR, i ∉ isC)
    (hlen : As.length = n) (hsize : ls.size = nL) (hW : (rest.map fun v => v.category).sum ≤ 8) (hdg : decode cc pc = .ok (.invokestatic index, 3)) (hf : cells + mc ≤ R.cells ∧ slots + ms ≤ R.slots)
    (kk : ∀ (r : Int32) (u : S) (H1 : Heap) (locs1 : List Loc), post r u → va_P D classes ((isR.filterMap (fun i => X[i]?) ++ w1 u) ++ PL) H1 → va_D A ((isR.filterMap (fun i => X[i]?) ++ w1 u) ++ PL) → va_S A s.heap H1 locs1 → W p l e R s m args below meth c H1 locs1 (cells + mc) (slots + ms) Q (F0 m (pc + 3) ls (.int r :: rest))) :
    W p l e R s m args below meth c H locs cells slots Q (F0 m pc ls (As.reverse ++ rest)) := by
  have hPc : va_P D classes cx H := (zP_l hP).sub isC (zk_fm hC)
  have hDc : va_D A cx := (zD_l hD).sub isC hnC hC
  have hFc := va_free (zD_l hD) hS hA isC hC
  refine va_calli (va_runSN (As := As) (rest := rest) S0 hM cw ⟨zPre_blind, fun U hU hW => ⟨rfl, ⟨by rw [hU], by rw [hU]; exact hPc, va_K.moved hW.alike hK, hDc.weaken (fun _ _ _ _ => trivial)⟩⟩⟩ rfl hlen hsize rfl (lv_room hW) hdg hf) hS (fun q _ h => hFc q h) hFc (fun r u t H1 locs1 ht hvm hw hB hz1 hk1 hS1 => ?_)
  have hB : va_P D classes (w1 u) t.heap ∧ va_D (va_A cx H.size) (w1 u) := hB
  rw [ht] at hB
  obtain ⟨hP2, hD2⟩ := va_joinQ hP hD isC isR hC hR hn hdis hk1 hFc hB.1 hB.2
  exact kk r u H1 locs1 hw hP2 hD2 hS1
theorem zk_tiOP  {post : Int32 → S → Prop} (hO : zO s) (hM : Met l y wsY rm (va_Pc As (zPreO D cs (cx ++ PL) H.size)) (va_Qi post (fun (u : S) (t : State) => va_P D classes (w1 u ++ pl1 u) t.heap ∧ va_D (va_A (cx ++ PL) H.size) (w1 u ++ pl1 u)) (va_A (cx ++ PL) H.size)) mc ms (va_A (cx ++ PL) H.size))
    (S0 : CallFix p m c cc nL s args zW own) (cw : va_CN R s args own index y host bytes maxL ret wsY rm mc ms n ∧ (Cond.static y).before args s = true ∧ True)
    (hP : va_P D classes (X ++ PL) H) (hD : va_D A (X ++ PL)) (hS : va_S A s.heap H locs) (hK : va_K D classes (zT cs) s) (hA : ∀ q : Nat, s.heap.size ≤ q → A q) (isC isR : List Nat) (hC : isC.map (fun i => X[i]?) = cx.map some) (hnC : va_nd isC = true) (hR : isR.map (fun i => X[i]?) = (isR.filterMap (fun i => X[i]?)).map some) (hn : va_nd isR = true) (hdis : ∀ i ∈ isR, i ∉ isC)
    (hlen : As.length = n) (hsize : ls.size = nL) (hW : (rest.map fun v => v.category).sum ≤ 8) (hdg : decode cc pc = .ok (.invokestatic index, 3)) (hf : cells + mc ≤ R.cells ∧ slots + ms ≤ R.slots)
    (kk : ∀ (r : Int32) (u : S) (H1 : Heap) (locs1 : List Loc), post r u → va_P D classes ((isR.filterMap (fun i => X[i]?) ++ w1 u) ++ pl1 u) H1 → va_D A ((isR.filterMap (fun i => X[i]?) ++ w1 u) ++ pl1 u) → va_S A s.heap H1 locs1 → W p l e R s m args below meth c H1 locs1 (cells + mc) (slots + ms) Q (F0 m (pc + 3) ls (.int r :: rest))) :
    W p l e R s m args below meth c H locs cells slots Q (F0 m pc ls (As.reverse ++ rest)) := by
  have hPc : va_P D classes (cx ++ PL) H := hP.part isC hC
  have hDc : va_D A (cx ++ PL) := hD.part isC hnC hC
  have hFc := va_freeP hD hS hA isC hC
  refine va_calli (va_runSN (As := As) (rest := rest) S0 hM cw ⟨zPreO_blind, fun U hU hW => ⟨rfl, ⟨by rw [hU], by rw [hU]; exact hPc, va_K.moved hW.alike hK, hDc.weaken (fun _ _ _ _ => trivial)⟩, zO.warm hW hO⟩⟩ rfl hlen hsize rfl (lv_room hW) hdg hf) hS (fun q _ h => hFc q h) hFc (fun r u t H1 locs1 ht hvm hw hB hz1 hk1 hS1 => ?_)
  have hB : va_P D classes (w1 u ++ pl1 u) t.heap ∧ va_D (va_A (cx ++ PL) H.size) (w1 u ++ pl1 u) := hB
  rw [ht] at hB
  obtain ⟨hP2, hD2⟩ := va_joinP hP hD isC isR hC hR hn hdis hk1 hFc hB.1 hB.2
  exact kk r u H1 locs1 hw hP2 hD2 hS1
theorem zk_tiOQ  {post : Int32 → S → Prop} (hO : zO s) (hM : Met l y wsY rm (va_Pc As (zPreO D cs cx H.size)) (va_Qi post (fun (u : S) (t : State) => va_P D classes (w1 u) t.heap ∧ va_D (va_A cx H.size) (w1 u)) (va_A cx H.size)) mc ms (va_A cx H.size))
    (S0 : CallFix p m c cc nL s args zW own) (cw : va_CN R s args own index y host bytes maxL ret wsY rm mc ms n ∧ (Cond.static y).before args s = true ∧ True)
    (hP : va_P D classes (X ++ PL) H) (hD : va_D A (X ++ PL)) (hS : va_S A s.heap H locs) (hK : va_K D classes (zT cs) s) (hA : ∀ q : Nat, s.heap.size ≤ q → A q) (isC isR : List Nat) (hC : isC.map (fun i => X[i]?) = cx.map some) (hnC : va_nd isC = true) (hR : isR.map (fun i => X[i]?) = (isR.filterMap (fun i => X[i]?)).map some) (hn : va_nd isR = true) (hdis : ∀ i ∈ isR, i ∉ isC)
    (hlen : As.length = n) (hsize : ls.size = nL) (hW : (rest.map fun v => v.category).sum ≤ 8) (hdg : decode cc pc = .ok (.invokestatic index, 3)) (hf : cells + mc ≤ R.cells ∧ slots + ms ≤ R.slots)
    (kk : ∀ (r : Int32) (u : S) (H1 : Heap) (locs1 : List Loc), post r u → va_P D classes ((isR.filterMap (fun i => X[i]?) ++ w1 u) ++ PL) H1 → va_D A ((isR.filterMap (fun i => X[i]?) ++ w1 u) ++ PL) → va_S A s.heap H1 locs1 → W p l e R s m args below meth c H1 locs1 (cells + mc) (slots + ms) Q (F0 m (pc + 3) ls (.int r :: rest))) :
    W p l e R s m args below meth c H locs cells slots Q (F0 m pc ls (As.reverse ++ rest)) := by
  have hPc : va_P D classes cx H := (zP_l hP).sub isC (zk_fm hC)
  have hDc : va_D A cx := (zD_l hD).sub isC hnC hC
  have hFc := va_free (zD_l hD) hS hA isC hC
  refine va_calli (va_runSN (As := As) (rest := rest) S0 hM cw ⟨zPreO_blind, fun U hU hW => ⟨rfl, ⟨by rw [hU], by rw [hU]; exact hPc, va_K.moved hW.alike hK, hDc.weaken (fun _ _ _ _ => trivial)⟩, zO.warm hW hO⟩⟩ rfl hlen hsize rfl (lv_room hW) hdg hf) hS (fun q _ h => hFc q h) hFc (fun r u t H1 locs1 ht hvm hw hB hz1 hk1 hS1 => ?_)
  have hB : va_P D classes (w1 u) t.heap ∧ va_D (va_A cx H.size) (w1 u) := hB
  rw [ht] at hB
  obtain ⟨hP2, hD2⟩ := va_joinQ hP hD isC isR hC hR hn hdis hk1 hFc hB.1 hB.2
  exact kk r u H1 locs1 hw hP2 hD2 hS1
theorem zk_tlP  {post : Int64 → S → Prop} (hM : Met l y wsY rm (va_Pc As (zPre D cs (cx ++ PL) H.size)) (va_Ql post (fun (u : S) (t : State) => va_P D classes (w1 u ++ pl1 u) t.heap ∧ va_D (va_A (cx ++ PL) H.size) (w1 u ++ pl1 u)) (va_A (cx ++ PL) H.size)) mc ms (va_A (cx ++ PL) H.size))
    (S0 : CallFix p m c cc nL s args zW own) (cw : va_CN R s args own index y host bytes maxL ret wsY rm mc ms n ∧ (Cond.static y).before args s = true ∧ True)
    (hP : va_P D classes (X ++ PL) H) (hD : va_D A (X ++ PL)) (hS : va_S A s.heap H locs) (hK : va_K D classes (zT cs) s) (hA : ∀ q : Nat, s.heap.size ≤ q → A q) (isC isR : List Nat) (hC : isC.map (fun i => X[i]?) = cx.map some) (hnC : va_nd isC = true) (hR : isR.map (fun i => X[i]?) = (isR.filterMap (fun i => X[i]?)).map some) (hn : va_nd isR = true) (hdis : ∀ i ∈ isR, i ∉ isC)
    (hlen : As.length = n) (hsize : ls.size = nL) (hW : (rest.map fun v => v.category).sum ≤ 8) (hdg : decode cc pc = .ok (.invokestatic index, 3)) (hf : cells + mc ≤ R.cells ∧ slots + ms ≤ R.slots)
    (kk : ∀ (r : Int64) (u : S) (H1 : Heap) (locs1 : List Loc), post r u → va_P D classes ((isR.filterMap (fun i => X[i]?) ++ w1 u) ++ pl1 u) H1 → va_D A ((isR.filterMap (fun i => X[i]?) ++ w1 u) ++ pl1 u) → va_S A s.heap H1 locs1 → W p l e R s m args below meth c H1 locs1 (cells + mc) (slots + ms) Q (F0 m (pc + 3) ls (.long r :: rest))) :
    W p l e R s m args below meth c H locs cells slots Q (F0 m pc ls (As.reverse ++ rest)) := by
  have hPc : va_P D classes (cx ++ PL) H := hP.part isC hC
  have hDc : va_D A (cx ++ PL) := hD.part isC hnC hC
  have hFc := va_freeP hD hS hA isC hC
  refine va_calll (va_runSN (As := As) (rest := rest) S0 hM cw ⟨zPre_blind, fun U hU hW => ⟨rfl, ⟨by rw [hU], by rw [hU]; exact hPc, va_K.moved hW.alike hK, hDc.weaken (fun _ _ _ _ => trivial)⟩⟩⟩ rfl hlen hsize rfl (lv_room hW) hdg hf) hS (fun q _ h => hFc q h) hFc (fun r u t H1 locs1 ht hvm hw hB hz1 hk1 hS1 => ?_)
  have hB : va_P D classes (w1 u ++ pl1 u) t.heap ∧ va_D (va_A (cx ++ PL) H.size) (w1 u ++ pl1 u) := hB
  rw [ht] at hB
  obtain ⟨hP2, hD2⟩ := va_joinP hP hD isC isR hC hR hn hdis hk1 hFc hB.1 hB.2
  exact kk r u H1 locs1 hw hP2 hD2 hS1
theorem zk_tlQ  {post : Int64 → S → Prop} (hM : Met l y wsY rm (va_Pc As (zPre D cs cx H.size)) (va_Ql post (fun (u : S) (t : State) => va_P D classes (w1 u) t.heap ∧ va_D (va_A cx H.size) (w1 u)) (va_A cx H.size)) mc ms (va_A cx H.size))
    (S0 : CallFix p m c cc nL s args zW own) (cw : va_CN R s args own index y host bytes maxL ret wsY rm mc ms n ∧ (Cond.static y).before args s = true ∧ True)
    (hP : va_P D classes (X ++ PL) H) (hD : va_D A (X ++ PL)) (hS : va_S A s.heap H locs) (hK : va_K D classes (zT cs) s) (hA : ∀ q : Nat, s.heap.size ≤ q → A q) (isC isR : List Nat) (hC : isC.map (fun i => X[i]?) = cx.map some) (hnC : va_nd isC = true) (hR : isR.map (fun i => X[i]?) = (isR.filterMap (fun i => X[i]?)).map some) (hn : va_nd isR = true) (hdis : ∀ i ∈ isR, i ∉ isC)
    (hlen : As.length = n) (hsize : ls.size = nL) (hW : (rest.map fun v => v.category).sum ≤ 8) (hdg : decode cc pc = .ok (.invokestatic index, 3)) (hf : cells + mc ≤ R.cells ∧ slots + ms ≤ R.slots)
    (kk : ∀ (r : Int64) (u : S) (H1 : Heap) (locs1 : List Loc), post r u → va_P D classes ((isR.filterMap (fun i => X[i]?) ++ w1 u) ++ PL) H1 → va_D A ((isR.filterMap (fun i => X[i]?) ++ w1 u) ++ PL) → va_S A s.heap H1 locs1 → W p l e R s m args below meth c H1 locs1 (cells + mc) (slots + ms) Q (F0 m (pc + 3) ls (.long r :: rest))) :
    W p l e R s m args below meth c H locs cells slots Q (F0 m pc ls (As.reverse ++ rest)) := by
  have hPc : va_P D classes cx H := (zP_l hP).sub isC (zk_fm hC)
  have hDc : va_D A cx := (zD_l hD).sub isC hnC hC
  have hFc := va_free (zD_l hD) hS hA isC hC
  refine va_calll (va_runSN (As := As) (rest := rest) S0 hM cw ⟨zPre_blind, fun U hU hW => ⟨rfl, ⟨by rw [hU], by rw [hU]; exact hPc, va_K.moved hW.alike hK, hDc.weaken (fun _ _ _ _ => trivial)⟩⟩⟩ rfl hlen hsize rfl (lv_room hW) hdg hf) hS (fun q _ h => hFc q h) hFc (fun r u t H1 locs1 ht hvm hw hB hz1 hk1 hS1 => ?_)
  have hB : va_P D classes (w1 u) t.heap ∧ va_D (va_A cx H.size) (w1 u) := hB
  rw [ht] at hB
  obtain ⟨hP2, hD2⟩ := va_joinQ hP hD isC isR hC hR hn hdis hk1 hFc hB.1 hB.2
  exact kk r u H1 locs1 hw hP2 hD2 hS1
theorem zk_tlOP  {post : Int64 → S → Prop} (hO : zO s) (hM : Met l y wsY rm (va_Pc As (zPreO D cs (cx ++ PL) H.size)) (va_Ql post (fun (u : S) (t : State) => va_P D classes (w1 u ++ pl1 u) t.heap ∧ va_D (va_A (cx ++ PL) H.size) (w1 u ++ pl1 u)) (va_A (cx ++ PL) H.size)) mc ms (va_A (cx ++ PL) H.size))
    (S0 : CallFix p m c cc nL s args zW own) (cw : va_CN R s args own index y host bytes maxL ret wsY rm mc ms n ∧ (Cond.static y).before args s = true ∧ True)
    (hP : va_P D classes (X ++ PL) H) (hD : va_D A (X ++ PL)) (hS : va_S A s.heap H locs) (hK : va_K D classes (zT cs) s) (hA : ∀ q : Nat, s.heap.size ≤ q → A q) (isC isR : List Nat) (hC : isC.map (fun i => X[i]?) = cx.map some) (hnC : va_nd isC = true) (hR : isR.map (fun i => X[i]?) = (isR.filterMap (fun i => X[i]?)).map some) (hn : va_nd isR = true) (hdis : ∀ i ∈ isR, i ∉ isC)
    (hlen : As.length = n) (hsize : ls.size = nL) (hW : (rest.map fun v => v.category).sum ≤ 8) (hdg : decode cc pc = .ok (.invokestatic index, 3)) (hf : cells + mc ≤ R.cells ∧ slots + ms ≤ R.slots)
    (kk : ∀ (r : Int64) (u : S) (H1 : Heap) (locs1 : List Loc), post r u → va_P D classes ((isR.filterMap (fun i => X[i]?) ++ w1 u) ++ pl1 u) H1 → va_D A ((isR.filterMap (fun i => X[i]?) ++ w1 u) ++ pl1 u) → va_S A s.heap H1 locs1 → W p l e R s m args below meth c H1 locs1 (cells + mc) (slots + ms) Q (F0 m (pc + 3) ls (.long r :: rest))) :
    W p l e R s m args below meth c H locs cells slots Q (F0 m pc ls (As.reverse ++ rest)) := by
  have hPc : va_P D classes (cx ++ PL) H := hP.part isC hC
  have hDc : va_D A (cx ++ PL) := hD.part isC hnC hC
  have hFc := va_freeP hD hS hA isC hC
  refine va_calll (va_runSN (As := As) (rest := rest) S0 hM cw ⟨zPreO_blind, fun U hU hW => ⟨rfl, ⟨by rw [hU], by rw [hU]; exact hPc, va_K.moved hW.alike hK, hDc.weaken (fun _ _ _ _ => trivial)⟩, zO.warm hW hO⟩⟩ rfl hlen hsize rfl (lv_room hW) hdg hf) hS (fun q _ h => hFc q h) hFc (fun r u t H1 locs1 ht hvm hw hB hz1 hk1 hS1 => ?_)
  have hB : va_P D classes (w1 u ++ pl1 u) t.heap ∧ va_D (va_A (cx ++ PL) H.size) (w1 u ++ pl1 u) := hB
  rw [ht] at hB
  obtain ⟨hP2, hD2⟩ := va_joinP hP hD isC isR hC hR hn hdis hk1 hFc hB.1 hB.2
  exact kk r u H1 locs1 hw hP2 hD2 hS1
theorem zk_tlOQ  {post : Int64 → S → Prop} (hO : zO s) (hM : Met l y wsY rm (va_Pc As (zPreO D cs cx H.size)) (va_Ql post (fun (u : S) (t : State) => va_P D classes (w1 u) t.heap ∧ va_D (va_A cx H.size) (w1 u)) (va_A cx H.size)) mc ms (va_A cx H.size))
    (S0 : CallFix p m c cc nL s args zW own) (cw : va_CN R s args own index y host bytes maxL ret wsY rm mc ms n ∧ (Cond.static y).before args s = true ∧ True)
    (hP : va_P D classes (X ++ PL) H) (hD : va_D A (X ++ PL)) (hS : va_S A s.heap H locs) (hK : va_K D classes (zT cs) s) (hA : ∀ q : Nat, s.heap.size ≤ q → A q) (isC isR : List Nat) (hC : isC.map (fun i => X[i]?) = cx.map some) (hnC : va_nd isC = true) (hR : isR.map (fun i => X[i]?) = (isR.filterMap (fun i => X[i]?)).map some) (hn : va_nd isR = true) (hdis : ∀ i ∈ isR, i ∉ isC)
    (hlen : As.length = n) (hsize : ls.size = nL) (hW : (rest.map fun v => v.category).sum ≤ 8) (hdg : decode cc pc = .ok (.invokestatic index, 3)) (hf : cells + mc ≤ R.cells ∧ slots + ms ≤ R.slots)
    (kk : ∀ (r : Int64) (u : S) (H1 : Heap) (locs1 : List Loc), post r u → va_P D classes ((isR.filterMap (fun i => X[i]?) ++ w1 u) ++ PL) H1 → va_D A ((isR.filterMap (fun i => X[i]?) ++ w1 u) ++ PL) → va_S A s.heap H1 locs1 → W p l e R s m args below meth c H1 locs1 (cells + mc) (slots + ms) Q (F0 m (pc + 3) ls (.long r :: rest))) :
    W p l e R s m args below meth c H locs cells slots Q (F0 m pc ls (As.reverse ++ rest)) := by
  have hPc : va_P D classes cx H := (zP_l hP).sub isC (zk_fm hC)
  have hDc : va_D A cx := (zD_l hD).sub isC hnC hC
  have hFc := va_free (zD_l hD) hS hA isC hC
  refine va_calll (va_runSN (As := As) (rest := rest) S0 hM cw ⟨zPreO_blind, fun U hU hW => ⟨rfl, ⟨by rw [hU], by rw [hU]; exact hPc, va_K.moved hW.alike hK, hDc.weaken (fun _ _ _ _ => trivial)⟩, zO.warm hW hO⟩⟩ rfl hlen hsize rfl (lv_room hW) hdg hf) hS (fun q _ h => hFc q h) hFc (fun r u t H1 locs1 ht hvm hw hB hz1 hk1 hS1 => ?_)
  have hB : va_P D classes (w1 u) t.heap ∧ va_D (va_A cx H.size) (w1 u) := hB
  rw [ht] at hB
  obtain ⟨hP2, hD2⟩ := va_joinQ hP hD isC isR hC hR hn hdis hk1 hFc hB.1 hB.2
  exact kk r u H1 locs1 hw hP2 hD2 hS1
theorem zk_tvP  {post : S → Prop} (hM : Met l y wsY rm (va_Pc As (zPre D cs (cx ++ PL) H.size)) (va_Qv post (fun (u : S) (t : State) => va_P D classes (w1 u ++ pl1 u) t.heap ∧ va_D (va_A (cx ++ PL) H.size) (w1 u ++ pl1 u)) (va_A (cx ++ PL) H.size)) mc ms (va_A (cx ++ PL) H.size))
    (S0 : CallFix p m c cc nL s args zW own) (cw : va_CN R s args own index y host bytes maxL ret wsY rm mc ms n ∧ (Cond.static y).before args s = true ∧ True)
    (hP : va_P D classes (X ++ PL) H) (hD : va_D A (X ++ PL)) (hS : va_S A s.heap H locs) (hK : va_K D classes (zT cs) s) (hA : ∀ q : Nat, s.heap.size ≤ q → A q) (isC isR : List Nat) (hC : isC.map (fun i => X[i]?) = cx.map some) (hnC : va_nd isC = true) (hR : isR.map (fun i => X[i]?) = (isR.filterMap (fun i => X[i]?)).map some) (hn : va_nd isR = true) (hdis : ∀ i ∈ isR, i ∉ isC)
    (hlen : As.length = n) (hsize : ls.size = nL) (hW : (rest.map fun v => v.category).sum ≤ 8) (hdg : decode cc pc = .ok (.invokestatic index, 3)) (hf : cells + mc ≤ R.cells ∧ slots + ms ≤ R.slots)
    (kk : ∀ (u : S) (H1 : Heap) (locs1 : List Loc), post u → va_P D classes ((isR.filterMap (fun i => X[i]?) ++ w1 u) ++ pl1 u) H1 → va_D A ((isR.filterMap (fun i => X[i]?) ++ w1 u) ++ pl1 u) → va_S A s.heap H1 locs1 → W p l e R s m args below meth c H1 locs1 (cells + mc) (slots + ms) Q (F0 m (pc + 3) ls (rest))) :
    W p l e R s m args below meth c H locs cells slots Q (F0 m pc ls (As.reverse ++ rest)) := by
  have hPc : va_P D classes (cx ++ PL) H := hP.part isC hC
  have hDc : va_D A (cx ++ PL) := hD.part isC hnC hC
  have hFc := va_freeP hD hS hA isC hC
  refine va_callv (va_runSN (As := As) (rest := rest) S0 hM cw ⟨zPre_blind, fun U hU hW => ⟨rfl, ⟨by rw [hU], by rw [hU]; exact hPc, va_K.moved hW.alike hK, hDc.weaken (fun _ _ _ _ => trivial)⟩⟩⟩ rfl hlen hsize rfl (lv_room hW) hdg hf) hS (fun q _ h => hFc q h) hFc (fun u t H1 locs1 ht hvm hw hB hz1 hk1 hS1 => ?_)
  have hB : va_P D classes (w1 u ++ pl1 u) t.heap ∧ va_D (va_A (cx ++ PL) H.size) (w1 u ++ pl1 u) := hB
  rw [ht] at hB
  obtain ⟨hP2, hD2⟩ := va_joinP hP hD isC isR hC hR hn hdis hk1 hFc hB.1 hB.2
  exact kk u H1 locs1 hw hP2 hD2 hS1
theorem zk_tvQ  {post : S → Prop} (hM : Met l y wsY rm (va_Pc As (zPre D cs cx H.size)) (va_Qv post (fun (u : S) (t : State) => va_P D classes (w1 u) t.heap ∧ va_D (va_A cx H.size) (w1 u)) (va_A cx H.size)) mc ms (va_A cx H.size))
    (S0 : CallFix p m c cc nL s args zW own) (cw : va_CN R s args own index y host bytes maxL ret wsY rm mc ms n ∧ (Cond.static y).before args s = true ∧ True)
    (hP : va_P D classes (X ++ PL) H) (hD : va_D A (X ++ PL)) (hS : va_S A s.heap H locs) (hK : va_K D classes (zT cs) s) (hA : ∀ q : Nat, s.heap.size ≤ q → A q) (isC isR : List Nat) (hC : isC.map (fun i => X[i]?) = cx.map some) (hnC : va_nd isC = true) (hR : isR.map (fun i => X[i]?) = (isR.filterMap (fun i => X[i]?)).map some) (hn : va_nd isR = true) (hdis : ∀ i ∈ isR, i ∉ isC)
    (hlen : As.length = n) (hsize : ls.size = nL) (hW : (rest.map fun v => v.category).sum ≤ 8) (hdg : decode cc pc = .ok (.invokestatic index, 3)) (hf : cells + mc ≤ R.cells ∧ slots + ms ≤ R.slots)
    (kk : ∀ (u : S) (H1 : Heap) (locs1 : List Loc), post u → va_P D classes ((isR.filterMap (fun i => X[i]?) ++ w1 u) ++ PL) H1 → va_D A ((isR.filterMap (fun i => X[i]?) ++ w1 u) ++ PL) → va_S A s.heap H1 locs1 → W p l e R s m args below meth c H1 locs1 (cells + mc) (slots + ms) Q (F0 m (pc + 3) ls (rest))) :
    W p l e R s m args below meth c H locs cells slots Q (F0 m pc ls (As.reverse ++ rest)) := by
  have hPc : va_P D classes cx H := (zP_l hP).sub isC (zk_fm hC)
  have hDc : va_D A cx := (zD_l hD).sub isC hnC hC
  have hFc := va_free (zD_l hD) hS hA isC hC
  refine va_callv (va_runSN (As := As) (rest := rest) S0 hM cw ⟨zPre_blind, fun U hU hW => ⟨rfl, ⟨by rw [hU], by rw [hU]; exact hPc, va_K.moved hW.alike hK, hDc.weaken (fun _ _ _ _ => trivial)⟩⟩⟩ rfl hlen hsize rfl (lv_room hW) hdg hf) hS (fun q _ h => hFc q h) hFc (fun u t H1 locs1 ht hvm hw hB hz1 hk1 hS1 => ?_)
  have hB : va_P D classes (w1 u) t.heap ∧ va_D (va_A cx H.size) (w1 u) := hB
  rw [ht] at hB
  obtain ⟨hP2, hD2⟩ := va_joinQ hP hD isC isR hC hR hn hdis hk1 hFc hB.1 hB.2
  exact kk u H1 locs1 hw hP2 hD2 hS1
theorem zk_tvOP  {post : S → Prop} (hO : zO s) (hM : Met l y wsY rm (va_Pc As (zPreO D cs (cx ++ PL) H.size)) (va_Qv post (fun (u : S) (t : State) => va_P D classes (w1 u ++ pl1 u) t.heap ∧ va_D (va_A (cx ++ PL) H.size) (w1 u ++ pl1 u)) (va_A (cx ++ PL) H.size)) mc ms (va_A (cx ++ PL) H.size))
    (S0 : CallFix p m c cc nL s args zW own) (cw : va_CN R s args own index y host bytes maxL ret wsY rm mc ms n ∧ (Cond.static y).before args s = true ∧ True)
    (hP : va_P D classes (X ++ PL) H) (hD : va_D A (X ++ PL)) (hS : va_S A s.heap H locs) (hK : va_K D classes (zT cs) s) (hA : ∀ q : Nat, s.heap.size ≤ q → A q) (isC isR : List Nat) (hC : isC.map (fun i => X[i]?) = cx.map some) (hnC : va_nd isC = true) (hR : isR.map (fun i => X[i]?) = (isR.filterMap (fun i => X[i]?)).map some) (hn : va_nd isR = true) (hdis : ∀ i ∈ isR, i ∉ isC)
    (hlen : As.length = n) (hsize : ls.size = nL) (hW : (rest.map fun v => v.category).sum ≤ 8) (hdg : decode cc pc = .ok (.invokestatic index, 3)) (hf : cells + mc ≤ R.cells ∧ slots + ms ≤ R.slots)
    (kk : ∀ (u : S) (H1 : Heap) (locs1 : List Loc), post u → va_P D classes ((isR.filterMap (fun i => X[i]?) ++ w1 u) ++ pl1 u) H1 → va_D A ((isR.filterMap (fun i => X[i]?) ++ w1 u) ++ pl1 u) → va_S A s.heap H1 locs1 → W p l e R s m args below meth c H1 locs1 (cells + mc) (slots + ms) Q (F0 m (pc + 3) ls (rest))) :
    W p l e R s m args below meth c H locs cells slots Q (F0 m pc ls (As.reverse ++ rest)) := by
  have hPc : va_P D classes (cx ++ PL) H := hP.part isC hC
  have hDc : va_D A (cx ++ PL) := hD.part isC hnC hC
  have hFc := va_freeP hD hS hA isC hC
  refine va_callv (va_runSN (As := As) (rest := rest) S0 hM cw ⟨zPreO_blind, fun U hU hW => ⟨rfl, ⟨by rw [hU], by rw [hU]; exact hPc, va_K.moved hW.alike hK, hDc.weaken (fun _ _ _ _ => trivial)⟩, zO.warm hW hO⟩⟩ rfl hlen hsize rfl (lv_room hW) hdg hf) hS (fun q _ h => hFc q h) hFc (fun u t H1 locs1 ht hvm hw hB hz1 hk1 hS1 => ?_)
  have hB : va_P D classes (w1 u ++ pl1 u) t.heap ∧ va_D (va_A (cx ++ PL) H.size) (w1 u ++ pl1 u) := hB
  rw [ht] at hB
  obtain ⟨hP2, hD2⟩ := va_joinP hP hD isC isR hC hR hn hdis hk1 hFc hB.1 hB.2
  exact kk u H1 locs1 hw hP2 hD2 hS1
theorem zk_tvOQ  {post : S → Prop} (hO : zO s) (hM : Met l y wsY rm (va_Pc As (zPreO D cs cx H.size)) (va_Qv post (fun (u : S) (t : State) => va_P D classes (w1 u) t.heap ∧ va_D (va_A cx H.size) (w1 u)) (va_A cx H.size)) mc ms (va_A cx H.size))
    (S0 : CallFix p m c cc nL s args zW own) (cw : va_CN R s args own index y host bytes maxL ret wsY rm mc ms n ∧ (Cond.static y).before args s = true ∧ True)
    (hP : va_P D classes (X ++ PL) H) (hD : va_D A (X ++ PL)) (hS : va_S A s.heap H locs) (hK : va_K D classes (zT cs) s) (hA : ∀ q : Nat, s.heap.size ≤ q → A q) (isC isR : List Nat) (hC : isC.map (fun i => X[i]?) = cx.map some) (hnC : va_nd isC = true) (hR : isR.map (fun i => X[i]?) = (isR.filterMap (fun i => X[i]?)).map some) (hn : va_nd isR = true) (hdis : ∀ i ∈ isR, i ∉ isC)
    (hlen : As.length = n) (hsize : ls.size = nL) (hW : (rest.map fun v => v.category).sum ≤ 8) (hdg : decode cc pc = .ok (.invokestatic index, 3)) (hf : cells + mc ≤ R.cells ∧ slots + ms ≤ R.slots)
    (kk : ∀ (u : S) (H1 : Heap) (locs1 : List Loc), post u → va_P D classes ((isR.filterMap (fun i => X[i]?) ++ w1 u) ++ PL) H1 → va_D A ((isR.filterMap (fun i => X[i]?) ++ w1 u) ++ PL) → va_S A s.heap H1 locs1 → W p l e R s m args below meth c H1 locs1 (cells + mc) (slots + ms) Q (F0 m (pc + 3) ls (rest))) :
    W p l e R s m args below meth c H locs cells slots Q (F0 m pc ls (As.reverse ++ rest)) := by
  have hPc : va_P D classes cx H := (zP_l hP).sub isC (zk_fm hC)
  have hDc : va_D A cx := (zD_l hD).sub isC hnC hC
  have hFc := va_free (zD_l hD) hS hA isC hC
  refine va_callv (va_runSN (As := As) (rest := rest) S0 hM cw ⟨zPreO_blind, fun U hU hW => ⟨rfl, ⟨by rw [hU], by rw [hU]; exact hPc, va_K.moved hW.alike hK, hDc.weaken (fun _ _ _ _ => trivial)⟩, zO.warm hW hO⟩⟩ rfl hlen hsize rfl (lv_room hW) hdg hf) hS (fun q _ h => hFc q h) hFc (fun u t H1 locs1 ht hvm hw hB hz1 hk1 hS1 => ?_)
  have hB : va_P D classes (w1 u) t.heap ∧ va_D (va_A cx H.size) (w1 u) := hB
  rw [ht] at hB
  obtain ⟨hP2, hD2⟩ := va_joinQ hP hD isC isR hC hR hn hdis hk1 hFc hB.1 hB.2
  exact kk u H1 locs1 hw hP2 hD2 hS1
theorem zk_tqP  {post : Option Nat → S → Prop} (hM : Met l y wsY rm (va_Pc As (zPre D cs (cx ++ PL) H.size)) (va_Qq post (fun (u : S) (t : State) => va_P D classes (w1 u ++ pl1 u) t.heap ∧ va_D (va_A (cx ++ PL) H.size) (w1 u ++ pl1 u)) (va_A (cx ++ PL) H.size)) mc ms (va_A (cx ++ PL) H.size))
    (S0 : CallFix p m c cc nL s args zW own) (cw : va_CN R s args own index y host bytes maxL ret wsY rm mc ms n ∧ (Cond.static y).before args s = true ∧ True)
    (hP : va_P D classes (X ++ PL) H) (hD : va_D A (X ++ PL)) (hS : va_S A s.heap H locs) (hK : va_K D classes (zT cs) s) (hA : ∀ q : Nat, s.heap.size ≤ q → A q) (isC isR : List Nat) (hC : isC.map (fun i => X[i]?) = cx.map some) (hnC : va_nd isC = true) (hR : isR.map (fun i => X[i]?) = (isR.filterMap (fun i => X[i]?)).map some) (hn : va_nd isR = true) (hdis : ∀ i ∈ isR, i ∉ isC)
    (hlen : As.length = n) (hsize : ls.size = nL) (hW : (rest.map fun v => v.category).sum ≤ 8) (hdg : decode cc pc = .ok (.invokestatic index, 3)) (hf : cells + mc ≤ R.cells ∧ slots + ms ≤ R.slots)
    (kk : ∀ (r : Option Nat) (u : S) (H1 : Heap) (locs1 : List Loc), post r u → va_P D classes ((isR.filterMap (fun i => X[i]?) ++ w1 u) ++ pl1 u) H1 → va_D A ((isR.filterMap (fun i => X[i]?) ++ w1 u) ++ pl1 u) → va_S A s.heap H1 locs1 → W p l e R s m args below meth c H1 locs1 (cells + mc) (slots + ms) Q (F0 m (pc + 3) ls (va_rf r :: rest))) :
    W p l e R s m args below meth c H locs cells slots Q (F0 m pc ls (As.reverse ++ rest)) := by
  have hPc : va_P D classes (cx ++ PL) H := hP.part isC hC
  have hDc : va_D A (cx ++ PL) := hD.part isC hnC hC
  have hFc := va_freeP hD hS hA isC hC
  refine va_callq (va_runSN (As := As) (rest := rest) S0 hM cw ⟨zPre_blind, fun U hU hW => ⟨rfl, ⟨by rw [hU], by rw [hU]; exact hPc, va_K.moved hW.alike hK, hDc.weaken (fun _ _ _ _ => trivial)⟩⟩⟩ rfl hlen hsize rfl (lv_room hW) hdg hf) hS (fun q _ h => hFc q h) hFc (fun r u t H1 locs1 ht hvm hw hB hz1 hk1 hS1 => ?_)
  have hB : va_P D classes (w1 u ++ pl1 u) t.heap ∧ va_D (va_A (cx ++ PL) H.size) (w1 u ++ pl1 u) := hB
  rw [ht] at hB
  obtain ⟨hP2, hD2⟩ := va_joinP hP hD isC isR hC hR hn hdis hk1 hFc hB.1 hB.2
  exact kk r u H1 locs1 hw hP2 hD2 hS1
theorem zk_tqQ  {post : Option Nat → S → Prop} (hM : Met l y wsY rm (va_Pc As (zPre D cs cx H.size)) (va_Qq post (fun (u : S) (t : State) => va_P D classes (w1 u) t.heap ∧ va_D (va_A cx H.size) (w1 u)) (va_A cx H.size)) mc ms (va_A cx H.size))
    (S0 : CallFix p m c cc nL s args zW own) (cw : va_CN R s args own index y host bytes maxL ret wsY rm mc ms n ∧ (Cond.static y).before args s = true ∧ True)
    (hP : va_P D classes (X ++ PL) H) (hD : va_D A (X ++ PL)) (hS : va_S A s.heap H locs) (hK : va_K D classes (zT cs) s) (hA : ∀ q : Nat, s.heap.size ≤ q → A q) (isC isR : List Nat) (hC : isC.map (fun i => X[i]?) = cx.map some) (hnC : va_nd isC = true) (hR : isR.map (fun i => X[i]?) = (isR.filterMap (fun i => X[i]?)).map some) (hn : va_nd isR = true) (hdis : ∀ i ∈ isR, i ∉ isC)
    (hlen : As.length = n) (hsize : ls.size = nL) (hW : (rest.map fun v => v.category).sum ≤ 8) (hdg : decode cc pc = .ok (.invokestatic index, 3)) (hf : cells + mc ≤ R.cells ∧ slots + ms ≤ R.slots)
    (kk : ∀ (r : Option Nat) (u : S) (H1 : Heap) (locs1 : List Loc), post r u → va_P D classes ((isR.filterMap (fun i => X[i]?) ++ w1 u) ++ PL) H1 → va_D A ((isR.filterMap (fun i => X[i]?) ++ w1 u) ++ PL) → va_S A s.heap H1 locs1 → W p l e R s m args below meth c H1 locs1 (cells + mc) (slots + ms) Q (F0 m (pc + 3) ls (va_rf r :: rest))) :
    W p l e R s m args below meth c H locs cells slots Q (F0 m pc ls (As.reverse ++ rest)) := by
  have hPc : va_P D classes cx H := (zP_l hP).sub isC (zk_fm hC)
  have hDc : va_D A cx := (zD_l hD).sub isC hnC hC
  have hFc := va_free (zD_l hD) hS hA isC hC
  refine va_callq (va_runSN (As := As) (rest := rest) S0 hM cw ⟨zPre_blind, fun U hU hW => ⟨rfl, ⟨by rw [hU], by rw [hU]; exact hPc, va_K.moved hW.alike hK, hDc.weaken (fun _ _ _ _ => trivial)⟩⟩⟩ rfl hlen hsize rfl (lv_room hW) hdg hf) hS (fun q _ h => hFc q h) hFc (fun r u t H1 locs1 ht hvm hw hB hz1 hk1 hS1 => ?_)
  have hB : va_P D classes (w1 u) t.heap ∧ va_D (va_A cx H.size) (w1 u) := hB
  rw [ht] at hB
  obtain ⟨hP2, hD2⟩ := va_joinQ hP hD isC isR hC hR hn hdis hk1 hFc hB.1 hB.2
  exact kk r u H1 locs1 hw hP2 hD2 hS1
theorem zk_tqOP  {post : Option Nat → S → Prop} (hO : zO s) (hM : Met l y wsY rm (va_Pc As (zPreO D cs (cx ++ PL) H.size)) (va_Qq post (fun (u : S) (t : State) => va_P D classes (w1 u ++ pl1 u) t.heap ∧ va_D (va_A (cx ++ PL) H.size) (w1 u ++ pl1 u)) (va_A (cx ++ PL) H.size)) mc ms (va_A (cx ++ PL) H.size))
    (S0 : CallFix p m c cc nL s args zW own) (cw : va_CN R s args own index y host bytes maxL ret wsY rm mc ms n ∧ (Cond.static y).before args s = true ∧ True)
    (hP : va_P D classes (X ++ PL) H) (hD : va_D A (X ++ PL)) (hS : va_S A s.heap H locs) (hK : va_K D classes (zT cs) s) (hA : ∀ q : Nat, s.heap.size ≤ q → A q) (isC isR : List Nat) (hC : isC.map (fun i => X[i]?) = cx.map some) (hnC : va_nd isC = true) (hR : isR.map (fun i => X[i]?) = (isR.filterMap (fun i => X[i]?)).map some) (hn : va_nd isR = true) (hdis : ∀ i ∈ isR, i ∉ isC)
    (hlen : As.length = n) (hsize : ls.size = nL) (hW : (rest.map fun v => v.category).sum ≤ 8) (hdg : decode cc pc = .ok (.invokestatic index, 3)) (hf : cells + mc ≤ R.cells ∧ slots + ms ≤ R.slots)
    (kk : ∀ (r : Option Nat) (u : S) (H1 : Heap) (locs1 : List Loc), post r u → va_P D classes ((isR.filterMap (fun i => X[i]?) ++ w1 u) ++ pl1 u) H1 → va_D A ((isR.filterMap (fun i => X[i]?) ++ w1 u) ++ pl1 u) → va_S A s.heap H1 locs1 → W p l e R s m args below meth c H1 locs1 (cells + mc) (slots + ms) Q (F0 m (pc + 3) ls (va_rf r :: rest))) :
    W p l e R s m args below meth c H locs cells slots Q (F0 m pc ls (As.reverse ++ rest)) := by
  have hPc : va_P D classes (cx ++ PL) H := hP.part isC hC
  have hDc : va_D A (cx ++ PL) := hD.part isC hnC hC
  have hFc := va_freeP hD hS hA isC hC
  refine va_callq (va_runSN (As := As) (rest := rest) S0 hM cw ⟨zPreO_blind, fun U hU hW => ⟨rfl, ⟨by rw [hU], by rw [hU]; exact hPc, va_K.moved hW.alike hK, hDc.weaken (fun _ _ _ _ => trivial)⟩, zO.warm hW hO⟩⟩ rfl hlen hsize rfl (lv_room hW) hdg hf) hS (fun q _ h => hFc q h) hFc (fun r u t H1 locs1 ht hvm hw hB hz1 hk1 hS1 => ?_)
  have hB : va_P D classes (w1 u ++ pl1 u) t.heap ∧ va_D (va_A (cx ++ PL) H.size) (w1 u ++ pl1 u) := hB
  rw [ht] at hB
  obtain ⟨hP2, hD2⟩ := va_joinP hP hD isC isR hC hR hn hdis hk1 hFc hB.1 hB.2
  exact kk r u H1 locs1 hw hP2 hD2 hS1
theorem zk_tqOQ  {post : Option Nat → S → Prop} (hO : zO s) (hM : Met l y wsY rm (va_Pc As (zPreO D cs cx H.size)) (va_Qq post (fun (u : S) (t : State) => va_P D classes (w1 u) t.heap ∧ va_D (va_A cx H.size) (w1 u)) (va_A cx H.size)) mc ms (va_A cx H.size))
    (S0 : CallFix p m c cc nL s args zW own) (cw : va_CN R s args own index y host bytes maxL ret wsY rm mc ms n ∧ (Cond.static y).before args s = true ∧ True)
    (hP : va_P D classes (X ++ PL) H) (hD : va_D A (X ++ PL)) (hS : va_S A s.heap H locs) (hK : va_K D classes (zT cs) s) (hA : ∀ q : Nat, s.heap.size ≤ q → A q) (isC isR : List Nat) (hC : isC.map (fun i => X[i]?) = cx.map some) (hnC : va_nd isC = true) (hR : isR.map (fun i => X[i]?) = (isR.filterMap (fun i => X[i]?)).map some) (hn : va_nd isR = true) (hdis : ∀ i ∈ isR, i ∉ isC)
    (hlen : As.length = n) (hsize : ls.size = nL) (hW : (rest.map fun v => v.category).sum ≤ 8) (hdg : decode cc pc = .ok (.invokestatic index, 3)) (hf : cells + mc ≤ R.cells ∧ slots + ms ≤ R.slots)
    (kk : ∀ (r : Option Nat) (u : S) (H1 : Heap) (locs1 : List Loc), post r u → va_P D classes ((isR.filterMap (fun i => X[i]?) ++ w1 u) ++ PL) H1 → va_D A ((isR.filterMap (fun i => X[i]?) ++ w1 u) ++ PL) → va_S A s.heap H1 locs1 → W p l e R s m args below meth c H1 locs1 (cells + mc) (slots + ms) Q (F0 m (pc + 3) ls (va_rf r :: rest))) :
    W p l e R s m args below meth c H locs cells slots Q (F0 m pc ls (As.reverse ++ rest)) := by
  have hPc : va_P D classes cx H := (zP_l hP).sub isC (zk_fm hC)
  have hDc : va_D A cx := (zD_l hD).sub isC hnC hC
  have hFc := va_free (zD_l hD) hS hA isC hC
  refine va_callq (va_runSN (As := As) (rest := rest) S0 hM cw ⟨zPreO_blind, fun U hU hW => ⟨rfl, ⟨by rw [hU], by rw [hU]; exact hPc, va_K.moved hW.alike hK, hDc.weaken (fun _ _ _ _ => trivial)⟩, zO.warm hW hO⟩⟩ rfl hlen hsize rfl (lv_room hW) hdg hf) hS (fun q _ h => hFc q h) hFc (fun r u t H1 locs1 ht hvm hw hB hz1 hk1 hS1 => ?_)
  have hB : va_P D classes (w1 u) t.heap ∧ va_D (va_A cx H.size) (w1 u) := hB
  rw [ht] at hB
  obtain ⟨hP2, hD2⟩ := va_joinQ hP hD isC isR hC hR hn hdis hk1 hFc hB.1 hB.2
  exact kk r u H1 locs1 hw hP2 hD2 hS1
theorem zk_viM {e0 : va_E} {ws : va_W} {post : Int32 → S → Prop} (hM : Met l y wsY rm (va_Pc (.ref b :: As) (zPre D cs [(b, e0)] H.size)) (va_Qi post (fun (u : S) (t : State) => va_P D classes [(b, e0)] t.heap ∧ va_D (va_A [(b, e0)] H.size) [(b, e0)]) (va_A [(b, e0)] H.size)) mc ms (va_A [(b, e0)] H.size))
    (S0 : CallFix p m c cc nL s args zW own) (cw : CallW R s args own C index y bytes maxL ret wsY rm mc ms n) (hrv : ∃ cellB : Cell, H[b]? = some cellB ∧ cellB.vm.isStatics = false ∧ s.vm.findClass C = some cellB.cls)
    (hP : va_P D classes ws H) (hD : va_D A ws) (hS : va_S A s.heap H locs) (hK : va_K D classes (zT cs) s) (hA : ∀ q : Nat, s.heap.size ≤ q → A q) (j : Nat) (hj : ws[j]? = some (b, e0))
    (hlen : As.length = n) (hsize : ls.size = nL) (hW : (rest.map fun v => v.category).sum ≤ 8) (hdg : decode cc pc = .ok (.invokevirtual index, 3)) (hf : cells + mc ≤ R.cells ∧ slots + ms ≤ R.slots)
    (kk : ∀ (r : Int32) (u : S) (H1 : Heap) (locs1 : List Loc), post r u → va_P D classes ws H1 → va_D A ws → va_S A s.heap H1 locs1 → W p l e R s m args below meth c H1 locs1 (cells + mc) (slots + ms) Q (F0 m (pc + 3) ls (.int r :: rest))) :
    W p l e R s m args below meth c H locs cells slots Q (F0 m pc ls (As.reverse ++ .ref b :: rest)) := by
  have hPc : va_P D classes [(b, e0)] H := fun k q hk => by
    cases k with
    | zero => exact hP j q (hj.trans (by rw [← hk]; rfl))
    | succ k => cases hk
  have hDc : va_D A [(b, e0)] := by
    refine ⟨fun i k p q hi hk _ => ?_, fun k q hk => ?_⟩
    · cases i with
      | zero => cases k with
        | zero => rfl
        | succ k => cases hk
      | succ i => cases hi
    · cases k with
      | zero => exact hD.2 j q (hj.trans (by rw [← hk]; rfl))
      | succ k => cases hk
  have hFc : ∀ q, va_A [(b, e0)] H.size q → A q := fun q h => by
    rcases h with ⟨i, e2, h⟩ | h
    · cases i with
      | zero => exact hD.2 j (q, e2) (hj.trans h)
      | succ i => cases h
    · exact hA q (Nat.le_trans hS.1 h)
  refine va_calli (va_runV (As := As) (rest := rest) S0 hM cw ⟨zPre_blind, hrv, fun U hU hW => ⟨rfl, ⟨by rw [hU], by rw [hU]; exact hPc, va_K.moved hW.alike hK, hDc.weaken (fun _ _ _ _ => trivial)⟩⟩⟩ rfl hlen hsize rfl (lv_room hW) hdg hf) hS (fun q _ h => hFc q h) hFc (fun r u t H1 locs1 ht hvm hw hB hz1 hk1 hS1 => ?_)
  have hB : va_P D classes [(b, e0)] t.heap ∧ va_D (va_A [(b, e0)] H.size) [(b, e0)] := hB
  rw [ht] at hB
  have hP2 := zk_joinM hP hD hj hk1 hB.1
  have hD2 := hD
  exact kk r u H1 locs1 hw hP2 hD2 hS1
theorem zk_vvM {e0 : va_E} {ws : va_W} {post : S → Prop} (hM : Met l y wsY rm (va_Pc (.ref b :: As) (zPre D cs [(b, e0)] H.size)) (va_Qv post (fun (u : S) (t : State) => va_P D classes [(b, e0)] t.heap ∧ va_D (va_A [(b, e0)] H.size) [(b, e0)]) (va_A [(b, e0)] H.size)) mc ms (va_A [(b, e0)] H.size))
    (S0 : CallFix p m c cc nL s args zW own) (cw : CallW R s args own C index y bytes maxL ret wsY rm mc ms n) (hrv : ∃ cellB : Cell, H[b]? = some cellB ∧ cellB.vm.isStatics = false ∧ s.vm.findClass C = some cellB.cls)
    (hP : va_P D classes ws H) (hD : va_D A ws) (hS : va_S A s.heap H locs) (hK : va_K D classes (zT cs) s) (hA : ∀ q : Nat, s.heap.size ≤ q → A q) (j : Nat) (hj : ws[j]? = some (b, e0))
    (hlen : As.length = n) (hsize : ls.size = nL) (hW : (rest.map fun v => v.category).sum ≤ 8) (hdg : decode cc pc = .ok (.invokevirtual index, 3)) (hf : cells + mc ≤ R.cells ∧ slots + ms ≤ R.slots)
    (kk : ∀ (u : S) (H1 : Heap) (locs1 : List Loc), post u → va_P D classes ws H1 → va_D A ws → va_S A s.heap H1 locs1 → W p l e R s m args below meth c H1 locs1 (cells + mc) (slots + ms) Q (F0 m (pc + 3) ls (rest))) :
    W p l e R s m args below meth c H locs cells slots Q (F0 m pc ls (As.reverse ++ .ref b :: rest)) := by
  have hPc : va_P D classes [(b, e0)] H := fun k q hk => by
    cases k with
    | zero => exact hP j q (hj.trans (by rw [← hk]; rfl))
    | succ k => cases hk
  have hDc : va_D A [(b, e0)] := by
    refine ⟨fun i k p q hi hk _ => ?_, fun k q hk => ?_⟩
    · cases i with
      | zero => cases k with
        | zero => rfl
        | succ k => cases hk
      | succ i => cases hi
    · cases k with
      | zero => exact hD.2 j q (hj.trans (by rw [← hk]; rfl))
      | succ k => cases hk
  have hFc : ∀ q, va_A [(b, e0)] H.size q → A q := fun q h => by
    rcases h with ⟨i, e2, h⟩ | h
    · cases i with
      | zero => exact hD.2 j (q, e2) (hj.trans h)
      | succ i => cases h
    · exact hA q (Nat.le_trans hS.1 h)
  refine va_callv (va_runV (As := As) (rest := rest) S0 hM cw ⟨zPre_blind, hrv, fun U hU hW => ⟨rfl, ⟨by rw [hU], by rw [hU]; exact hPc, va_K.moved hW.alike hK, hDc.weaken (fun _ _ _ _ => trivial)⟩⟩⟩ rfl hlen hsize rfl (lv_room hW) hdg hf) hS (fun q _ h => hFc q h) hFc (fun u t H1 locs1 ht hvm hw hB hz1 hk1 hS1 => ?_)
  have hB : va_P D classes [(b, e0)] t.heap ∧ va_D (va_A [(b, e0)] H.size) [(b, e0)] := hB
  rw [ht] at hB
  have hP2 := zk_joinM hP hD hj hk1 hB.1
  have hD2 := hD
  exact kk u H1 locs1 hw hP2 hD2 hS1
theorem zk_viOM {e0 : va_E} {ws : va_W} {post : Int32 → S → Prop} (hO : zO s) (hM : Met l y wsY rm (va_Pc (.ref b :: As) (zPreO D cs [(b, e0)] H.size)) (va_Qi post (fun (u : S) (t : State) => va_P D classes [(b, e0)] t.heap ∧ va_D (va_A [(b, e0)] H.size) [(b, e0)]) (va_A [(b, e0)] H.size)) mc ms (va_A [(b, e0)] H.size))
    (S0 : CallFix p m c cc nL s args zW own) (cw : CallW R s args own C index y bytes maxL ret wsY rm mc ms n) (hrv : ∃ cellB : Cell, H[b]? = some cellB ∧ cellB.vm.isStatics = false ∧ s.vm.findClass C = some cellB.cls)
    (hP : va_P D classes ws H) (hD : va_D A ws) (hS : va_S A s.heap H locs) (hK : va_K D classes (zT cs) s) (hA : ∀ q : Nat, s.heap.size ≤ q → A q) (j : Nat) (hj : ws[j]? = some (b, e0))
    (hlen : As.length = n) (hsize : ls.size = nL) (hW : (rest.map fun v => v.category).sum ≤ 8) (hdg : decode cc pc = .ok (.invokevirtual index, 3)) (hf : cells + mc ≤ R.cells ∧ slots + ms ≤ R.slots)
    (kk : ∀ (r : Int32) (u : S) (H1 : Heap) (locs1 : List Loc), post r u → va_P D classes ws H1 → va_D A ws → va_S A s.heap H1 locs1 → W p l e R s m args below meth c H1 locs1 (cells + mc) (slots + ms) Q (F0 m (pc + 3) ls (.int r :: rest))) :
    W p l e R s m args below meth c H locs cells slots Q (F0 m pc ls (As.reverse ++ .ref b :: rest)) := by
  have hPc : va_P D classes [(b, e0)] H := fun k q hk => by
    cases k with
    | zero => exact hP j q (hj.trans (by rw [← hk]; rfl))
    | succ k => cases hk
  have hDc : va_D A [(b, e0)] := by
    refine ⟨fun i k p q hi hk _ => ?_, fun k q hk => ?_⟩
    · cases i with
      | zero => cases k with
        | zero => rfl
        | succ k => cases hk
      | succ i => cases hi
    · cases k with
      | zero => exact hD.2 j q (hj.trans (by rw [← hk]; rfl))
      | succ k => cases hk
  have hFc : ∀ q, va_A [(b, e0)] H.size q → A q := fun q h => by
    rcases h with ⟨i, e2, h⟩ | h
    · cases i with
      | zero => exact hD.2 j (q, e2) (hj.trans h)
      | succ i => cases h
    · exact hA q (Nat.le_trans hS.1 h)
  refine va_calli (va_runV (As := As) (rest := rest) S0 hM cw ⟨zPreO_blind, hrv, fun U hU hW => ⟨rfl, ⟨by rw [hU], by rw [hU]; exact hPc, va_K.moved hW.alike hK, hDc.weaken (fun _ _ _ _ => trivial)⟩, zO.warm hW hO⟩⟩ rfl hlen hsize rfl (lv_room hW) hdg hf) hS (fun q _ h => hFc q h) hFc (fun r u t H1 locs1 ht hvm hw hB hz1 hk1 hS1 => ?_)
  have hB : va_P D classes [(b, e0)] t.heap ∧ va_D (va_A [(b, e0)] H.size) [(b, e0)] := hB
  rw [ht] at hB
  have hP2 := zk_joinM hP hD hj hk1 hB.1
  have hD2 := hD
  exact kk r u H1 locs1 hw hP2 hD2 hS1
theorem zk_vvOM {e0 : va_E} {ws : va_W} {post : S → Prop} (hO : zO s) (hM : Met l y wsY rm (va_Pc (.ref b :: As) (zPreO D cs [(b, e0)] H.size)) (va_Qv post (fun (u : S) (t : State) => va_P D classes [(b, e0)] t.heap ∧ va_D (va_A [(b, e0)] H.size) [(b, e0)]) (va_A [(b, e0)] H.size)) mc ms (va_A [(b, e0)] H.size))
    (S0 : CallFix p m c cc nL s args zW own) (cw : CallW R s args own C index y bytes maxL ret wsY rm mc ms n) (hrv : ∃ cellB : Cell, H[b]? = some cellB ∧ cellB.vm.isStatics = false ∧ s.vm.findClass C = some cellB.cls)
    (hP : va_P D classes ws H) (hD : va_D A ws) (hS : va_S A s.heap H locs) (hK : va_K D classes (zT cs) s) (hA : ∀ q : Nat, s.heap.size ≤ q → A q) (j : Nat) (hj : ws[j]? = some (b, e0))
    (hlen : As.length = n) (hsize : ls.size = nL) (hW : (rest.map fun v => v.category).sum ≤ 8) (hdg : decode cc pc = .ok (.invokevirtual index, 3)) (hf : cells + mc ≤ R.cells ∧ slots + ms ≤ R.slots)
    (kk : ∀ (u : S) (H1 : Heap) (locs1 : List Loc), post u → va_P D classes ws H1 → va_D A ws → va_S A s.heap H1 locs1 → W p l e R s m args below meth c H1 locs1 (cells + mc) (slots + ms) Q (F0 m (pc + 3) ls (rest))) :
    W p l e R s m args below meth c H locs cells slots Q (F0 m pc ls (As.reverse ++ .ref b :: rest)) := by
  have hPc : va_P D classes [(b, e0)] H := fun k q hk => by
    cases k with
    | zero => exact hP j q (hj.trans (by rw [← hk]; rfl))
    | succ k => cases hk
  have hDc : va_D A [(b, e0)] := by
    refine ⟨fun i k p q hi hk _ => ?_, fun k q hk => ?_⟩
    · cases i with
      | zero => cases k with
        | zero => rfl
        | succ k => cases hk
      | succ i => cases hi
    · cases k with
      | zero => exact hD.2 j q (hj.trans (by rw [← hk]; rfl))
      | succ k => cases hk
  have hFc : ∀ q, va_A [(b, e0)] H.size q → A q := fun q h => by
    rcases h with ⟨i, e2, h⟩ | h
    · cases i with
      | zero => exact hD.2 j (q, e2) (hj.trans h)
      | succ i => cases h
    · exact hA q (Nat.le_trans hS.1 h)
  refine va_callv (va_runV (As := As) (rest := rest) S0 hM cw ⟨zPreO_blind, hrv, fun U hU hW => ⟨rfl, ⟨by rw [hU], by rw [hU]; exact hPc, va_K.moved hW.alike hK, hDc.weaken (fun _ _ _ _ => trivial)⟩, zO.warm hW hO⟩⟩ rfl hlen hsize rfl (lv_room hW) hdg hf) hS (fun q _ h => hFc q h) hFc (fun u t H1 locs1 ht hvm hw hB hz1 hk1 hS1 => ?_)
  have hB : va_P D classes [(b, e0)] t.heap ∧ va_D (va_A [(b, e0)] H.size) [(b, e0)] := hB
  rw [ht] at hB
  have hP2 := zk_joinM hP hD hj hk1 hB.1
  have hD2 := hD
  exact kk u H1 locs1 hw hP2 hD2 hS1
end ZKP
section ZZP
variable {p : Program} {l : Launch} {e : Env} {R : Room} {s : State} {m : MethodId} {args : Array Value} {below : List Frame} {meth : Method} {c : Code} {H : Heap} {locs : List Loc} {cells slots : Nat} {Q : State → Prop} {ls : Array Slot} {pc : Nat}
variable {A : Nat → Prop} {D : va_G} {cs : Nat → ClassId} {ws wc X cx PL : va_W} {S : Type} {w1 : S → va_W} {y : MethodName} {wsY : List Cond} {rm : Room} {C own host : String} {index maxL mc ms n nL : Nat} {bytes cc : ByteArray} {ret : Option FieldType} {b : Nat} {As rest : List Value}
theorem zz_viP {post : Int32 → S → Prop} (hM : Met l y wsY rm (va_Pc (.ref b :: As) (zPre D cs (cx ++ PL) H.size)) (va_Qi post (fun (u : S) (t : State) => va_P D classes (w1 u ++ PL) t.heap ∧ va_D (va_A (cx ++ PL) H.size) (w1 u ++ PL)) (va_A (cx ++ PL) H.size)) mc ms (va_A (cx ++ PL) H.size))
    (S0 : CallFix p m c cc nL s args zW own) (cw : CallW R s args own C index y bytes maxL ret wsY rm mc ms n) (hrv : ∃ cellB : Cell, H[b]? = some cellB ∧ cellB.vm.isStatics = false ∧ s.vm.findClass C = some cellB.cls)
    (hP : va_P D classes (X ++ PL) H) (hD : va_D A (X ++ PL)) (hS : va_S A s.heap H locs) (hK : va_K D classes (zT cs) s) (hA : ∀ q : Nat, s.heap.size ≤ q → A q) (isC : List Nat) (hC0 : isC.map (zgt X) = cx.map some) (hnC : va_nd isC = true) (ks : List Nat) (hks : cx.map Prod.fst = ks) (hkey : ∀ u : S, (w1 u).map Prod.fst = ks)
    (hlen : As.length = n) (hsize : ls.size = nL) (hW : (rest.map fun v => v.category).sum ≤ 8) (hdg : decode cc pc = .ok (.invokevirtual index, 3)) (hf : cells + mc ≤ R.cells ∧ slots + ms ≤ R.slots)
    (kk : ∀ (r : Int32) (u : S) (H1 : Heap) (locs1 : List Loc), post r u → va_P D classes (zset isC X (w1 u) ++ PL) H1 → va_S A s.heap H1 locs1 → W p l e R s m args below meth c H1 locs1 (cells + mc) (slots + ms) Q (F0 m (pc + 3) ls (.int r :: rest))) :
    W p l e R s m args below meth c H locs cells slots Q (F0 m pc ls (As.reverse ++ .ref b :: rest)) := by
  have hC := zmp hC0
  have hPc : va_P D classes (cx ++ PL) H := hP.part isC hC
  have hDc : va_D A (cx ++ PL) := hD.part isC hnC hC
  have hFc := va_freeP hD hS hA isC hC
  refine va_calli (va_runV (As := As) (rest := rest) S0 hM cw ⟨zPre_blind, hrv, fun U hU hW => ⟨rfl, ⟨by rw [hU], by rw [hU]; exact hPc, va_K.moved hW.alike hK, hDc.weaken (fun _ _ _ _ => trivial)⟩⟩⟩ rfl hlen hsize rfl (lv_room hW) hdg hf) hS (fun q _ h => hFc q h) hFc (fun r u t H1 locs1 ht hvm hw hB hz1 hk1 hS1 => ?_)
  have hB : va_P D classes (w1 u ++ PL) t.heap ∧ va_D (va_A (cx ++ PL) H.size) (w1 u ++ PL) := hB
  rw [ht] at hB
  exact kk r u H1 locs1 hw (zjP hP hD hC ((hkey u).trans hks.symm) hk1 hB.1) hS1
theorem zz_viQ {post : Int32 → S → Prop} (hM : Met l y wsY rm (va_Pc (.ref b :: As) (zPre D cs cx H.size)) (va_Qi post (fun (u : S) (t : State) => va_P D classes (w1 u) t.heap ∧ va_D (va_A cx H.size) (w1 u)) (va_A cx H.size)) mc ms (va_A cx H.size))
    (S0 : CallFix p m c cc nL s args zW own) (cw : CallW R s args own C index y bytes maxL ret wsY rm mc ms n) (hrv : ∃ cellB : Cell, H[b]? = some cellB ∧ cellB.vm.isStatics = false ∧ s.vm.findClass C = some cellB.cls)
    (hP : va_P D classes (X ++ PL) H) (hD : va_D A (X ++ PL)) (hS : va_S A s.heap H locs) (hK : va_K D classes (zT cs) s) (hA : ∀ q : Nat, s.heap.size ≤ q → A q) (isC : List Nat) (hC0 : isC.map (zgt X) = cx.map some) (hnC : va_nd isC = true) (ks : List Nat) (hks : cx.map Prod.fst = ks) (hkey : ∀ u : S, (w1 u).map Prod.fst = ks)
    (hlen : As.length = n) (hsize : ls.size = nL) (hW : (rest.map fun v => v.category).sum ≤ 8) (hdg : decode cc pc = .ok (.invokevirtual index, 3)) (hf : cells + mc ≤ R.cells ∧ slots + ms ≤ R.slots)
    (kk : ∀ (r : Int32) (u : S) (H1 : Heap) (locs1 : List Loc), post r u → va_P D classes (zset isC X (w1 u) ++ PL) H1 → va_S A s.heap H1 locs1 → W p l e R s m args below meth c H1 locs1 (cells + mc) (slots + ms) Q (F0 m (pc + 3) ls (.int r :: rest))) :
    W p l e R s m args below meth c H locs cells slots Q (F0 m pc ls (As.reverse ++ .ref b :: rest)) := by
  have hC := zmp hC0
  have hPc : va_P D classes cx H := (zP_l hP).sub isC (zk_fm hC)
  have hDc : va_D A cx := (zD_l hD).sub isC hnC hC
  have hFc := va_free (zD_l hD) hS hA isC hC
  refine va_calli (va_runV (As := As) (rest := rest) S0 hM cw ⟨zPre_blind, hrv, fun U hU hW => ⟨rfl, ⟨by rw [hU], by rw [hU]; exact hPc, va_K.moved hW.alike hK, hDc.weaken (fun _ _ _ _ => trivial)⟩⟩⟩ rfl hlen hsize rfl (lv_room hW) hdg hf) hS (fun q _ h => hFc q h) hFc (fun r u t H1 locs1 ht hvm hw hB hz1 hk1 hS1 => ?_)
  have hB : va_P D classes (w1 u) t.heap ∧ va_D (va_A cx H.size) (w1 u) := hB
  rw [ht] at hB
  exact kk r u H1 locs1 hw (zjQ hP hD hC ((hkey u).trans hks.symm) hk1 hB.1) hS1
theorem zz_viOP {post : Int32 → S → Prop} (hO : zO s) (hM : Met l y wsY rm (va_Pc (.ref b :: As) (zPreO D cs (cx ++ PL) H.size)) (va_Qi post (fun (u : S) (t : State) => va_P D classes (w1 u ++ PL) t.heap ∧ va_D (va_A (cx ++ PL) H.size) (w1 u ++ PL)) (va_A (cx ++ PL) H.size)) mc ms (va_A (cx ++ PL) H.size))
    (S0 : CallFix p m c cc nL s args zW own) (cw : CallW R s args own C index y bytes maxL ret wsY rm mc ms n) (hrv : ∃ cellB : Cell, H[b]? = some cellB ∧ cellB.vm.isStatics = false ∧ s.vm.findClass C = some cellB.cls)
    (hP : va_P D classes (X ++ PL) H) (hD : va_D A (X ++ PL)) (hS : va_S A s.heap H locs) (hK : va_K D classes (zT cs) s) (hA : ∀ q : Nat, s.heap.size ≤ q → A q) (isC : List Nat) (hC0 : isC.map (zgt X) = cx.map some) (hnC : va_nd isC = true) (ks : List Nat) (hks : cx.map Prod.fst = ks) (hkey : ∀ u : S, (w1 u).map Prod.fst = ks)
    (hlen : As.length = n) (hsize : ls.size = nL) (hW : (rest.map fun v => v.category).sum ≤ 8) (hdg : decode cc pc = .ok (.invokevirtual index, 3)) (hf : cells + mc ≤ R.cells ∧ slots + ms ≤ R.slots)
    (kk : ∀ (r : Int32) (u : S) (H1 : Heap) (locs1 : List Loc), post r u → va_P D classes (zset isC X (w1 u) ++ PL) H1 → va_S A s.heap H1 locs1 → W p l e R s m args below meth c H1 locs1 (cells + mc) (slots + ms) Q (F0 m (pc + 3) ls (.int r :: rest))) :
    W p l e R s m args below meth c H locs cells slots Q (F0 m pc ls (As.reverse ++ .ref b :: rest)) := by
  have hC := zmp hC0
  have hPc : va_P D classes (cx ++ PL) H := hP.part isC hC
  have hDc : va_D A (cx ++ PL) := hD.part isC hnC hC
  have hFc := va_freeP hD hS hA isC hC
  refine va_calli (va_runV (As := As) (rest := rest) S0 hM cw ⟨zPreO_blind, hrv, fun U hU hW => ⟨rfl, ⟨by rw [hU], by rw [hU]; exact hPc, va_K.moved hW.alike hK, hDc.weaken (fun _ _ _ _ => trivial)⟩, zO.warm hW hO⟩⟩ rfl hlen hsize rfl (lv_room hW) hdg hf) hS (fun q _ h => hFc q h) hFc (fun r u t H1 locs1 ht hvm hw hB hz1 hk1 hS1 => ?_)
  have hB : va_P D classes (w1 u ++ PL) t.heap ∧ va_D (va_A (cx ++ PL) H.size) (w1 u ++ PL) := hB
  rw [ht] at hB
  exact kk r u H1 locs1 hw (zjP hP hD hC ((hkey u).trans hks.symm) hk1 hB.1) hS1
theorem zz_viOQ {post : Int32 → S → Prop} (hO : zO s) (hM : Met l y wsY rm (va_Pc (.ref b :: As) (zPreO D cs cx H.size)) (va_Qi post (fun (u : S) (t : State) => va_P D classes (w1 u) t.heap ∧ va_D (va_A cx H.size) (w1 u)) (va_A cx H.size)) mc ms (va_A cx H.size))
    (S0 : CallFix p m c cc nL s args zW own) (cw : CallW R s args own C index y bytes maxL ret wsY rm mc ms n) (hrv : ∃ cellB : Cell, H[b]? = some cellB ∧ cellB.vm.isStatics = false ∧ s.vm.findClass C = some cellB.cls)
    (hP : va_P D classes (X ++ PL) H) (hD : va_D A (X ++ PL)) (hS : va_S A s.heap H locs) (hK : va_K D classes (zT cs) s) (hA : ∀ q : Nat, s.heap.size ≤ q → A q) (isC : List Nat) (hC0 : isC.map (zgt X) = cx.map some) (hnC : va_nd isC = true) (ks : List Nat) (hks : cx.map Prod.fst = ks) (hkey : ∀ u : S, (w1 u).map Prod.fst = ks)
    (hlen : As.length = n) (hsize : ls.size = nL) (hW : (rest.map fun v => v.category).sum ≤ 8) (hdg : decode cc pc = .ok (.invokevirtual index, 3)) (hf : cells + mc ≤ R.cells ∧ slots + ms ≤ R.slots)
    (kk : ∀ (r : Int32) (u : S) (H1 : Heap) (locs1 : List Loc), post r u → va_P D classes (zset isC X (w1 u) ++ PL) H1 → va_S A s.heap H1 locs1 → W p l e R s m args below meth c H1 locs1 (cells + mc) (slots + ms) Q (F0 m (pc + 3) ls (.int r :: rest))) :
    W p l e R s m args below meth c H locs cells slots Q (F0 m pc ls (As.reverse ++ .ref b :: rest)) := by
  have hC := zmp hC0
  have hPc : va_P D classes cx H := (zP_l hP).sub isC (zk_fm hC)
  have hDc : va_D A cx := (zD_l hD).sub isC hnC hC
  have hFc := va_free (zD_l hD) hS hA isC hC
  refine va_calli (va_runV (As := As) (rest := rest) S0 hM cw ⟨zPreO_blind, hrv, fun U hU hW => ⟨rfl, ⟨by rw [hU], by rw [hU]; exact hPc, va_K.moved hW.alike hK, hDc.weaken (fun _ _ _ _ => trivial)⟩, zO.warm hW hO⟩⟩ rfl hlen hsize rfl (lv_room hW) hdg hf) hS (fun q _ h => hFc q h) hFc (fun r u t H1 locs1 ht hvm hw hB hz1 hk1 hS1 => ?_)
  have hB : va_P D classes (w1 u) t.heap ∧ va_D (va_A cx H.size) (w1 u) := hB
  rw [ht] at hB
  exact kk r u H1 locs1 hw (zjQ hP hD hC ((hkey u).trans hks.symm) hk1 hB.1) hS1
theorem zz_vlP {post : Int64 → S → Prop} (hM : Met l y wsY rm (va_Pc (.ref b :: As) (zPre D cs (cx ++ PL) H.size)) (va_Ql post (fun (u : S) (t : State) => va_P D classes (w1 u ++ PL) t.heap ∧ va_D (va_A (cx ++ PL) H.size) (w1 u ++ PL)) (va_A (cx ++ PL) H.size)) mc ms (va_A (cx ++ PL) H.size))
    (S0 : CallFix p m c cc nL s args zW own) (cw : CallW R s args own C index y bytes maxL ret wsY rm mc ms n) (hrv : ∃ cellB : Cell, H[b]? = some cellB ∧ cellB.vm.isStatics = false ∧ s.vm.findClass C = some cellB.cls)
    (hP : va_P D classes (X ++ PL) H) (hD : va_D A (X ++ PL)) (hS : va_S A s.heap H locs) (hK : va_K D classes (zT cs) s) (hA : ∀ q : Nat, s.heap.size ≤ q → A q) (isC : List Nat) (hC0 : isC.map (zgt X) = cx.map some) (hnC : va_nd isC = true) (ks : List Nat) (hks : cx.map Prod.fst = ks) (hkey : ∀ u : S, (w1 u).map Prod.fst = ks)
    (hlen : As.length = n) (hsize : ls.size = nL) (hW : (rest.map fun v => v.category).sum ≤ 8) (hdg : decode cc pc = .ok (.invokevirtual index, 3)) (hf : cells + mc ≤ R.cells ∧ slots + ms ≤ R.slots)
    (kk : ∀ (r : Int64) (u : S) (H1 : Heap) (locs1 : List Loc), post r u → va_P D classes (zset isC X (w1 u) ++ PL) H1 → va_S A s.heap H1 locs1 → W p l e R s m args below meth c H1 locs1 (cells + mc) (slots + ms) Q (F0 m (pc + 3) ls (.long r :: rest))) :
    W p l e R s m args below meth c H locs cells slots Q (F0 m pc ls (As.reverse ++ .ref b :: rest)) := by
  have hC := zmp hC0
  have hPc : va_P D classes (cx ++ PL) H := hP.part isC hC
  have hDc : va_D A (cx ++ PL) := hD.part isC hnC hC
  have hFc := va_freeP hD hS hA isC hC
  refine va_calll (va_runV (As := As) (rest := rest) S0 hM cw ⟨zPre_blind, hrv, fun U hU hW => ⟨rfl, ⟨by rw [hU], by rw [hU]; exact hPc, va_K.moved hW.alike hK, hDc.weaken (fun _ _ _ _ => trivial)⟩⟩⟩ rfl hlen hsize rfl (lv_room hW) hdg hf) hS (fun q _ h => hFc q h) hFc (fun r u t H1 locs1 ht hvm hw hB hz1 hk1 hS1 => ?_)
  have hB : va_P D classes (w1 u ++ PL) t.heap ∧ va_D (va_A (cx ++ PL) H.size) (w1 u ++ PL) := hB
  rw [ht] at hB
  exact kk r u H1 locs1 hw (zjP hP hD hC ((hkey u).trans hks.symm) hk1 hB.1) hS1
theorem zz_vlQ {post : Int64 → S → Prop} (hM : Met l y wsY rm (va_Pc (.ref b :: As) (zPre D cs cx H.size)) (va_Ql post (fun (u : S) (t : State) => va_P D classes (w1 u) t.heap ∧ va_D (va_A cx H.size) (w1 u)) (va_A cx H.size)) mc ms (va_A cx H.size))
    (S0 : CallFix p m c cc nL s args zW own) (cw : CallW R s args own C index y bytes maxL ret wsY rm mc ms n) (hrv : ∃ cellB : Cell, H[b]? = some cellB ∧ cellB.vm.isStatics = false ∧ s.vm.findClass C = some cellB.cls)
    (hP : va_P D classes (X ++ PL) H) (hD : va_D A (X ++ PL)) (hS : va_S A s.heap H locs) (hK : va_K D classes (zT cs) s) (hA : ∀ q : Nat, s.heap.size ≤ q → A q) (isC : List Nat) (hC0 : isC.map (zgt X) = cx.map some) (hnC : va_nd isC = true) (ks : List Nat) (hks : cx.map Prod.fst = ks) (hkey : ∀ u : S, (w1 u).map Prod.fst = ks)
    (hlen : As.length = n) (hsize : ls.size = nL) (hW : (rest.map fun v => v.category).sum ≤ 8) (hdg : decode cc pc = .ok (.invokevirtual index, 3)) (hf : cells + mc ≤ R.cells ∧ slots + ms ≤ R.slots)
    (kk : ∀ (r : Int64) (u : S) (H1 : Heap) (locs1 : List Loc), post r u → va_P D classes (zset isC X (w1 u) ++ PL) H1 → va_S A s.heap H1 locs1 → W p l e R s m args below meth c H1 locs1 (cells + mc) (slots + ms) Q (F0 m (pc + 3) ls (.long r :: rest))) :
    W p l e R s m args below meth c H locs cells slots Q (F0 m pc ls (As.reverse ++ .ref b :: rest)) := by
  have hC := zmp hC0
  have hPc : va_P D classes cx H := (zP_l hP).sub isC (zk_fm hC)
  have hDc : va_D A cx := (zD_l hD).sub isC hnC hC
  have hFc := va_free (zD_l hD) hS hA isC hC
  refine va_calll (va_runV (As := As) (rest := rest) S0 hM cw ⟨zPre_blind, hrv, fun U hU hW => ⟨rfl, ⟨by rw [hU], by rw [hU]; exact hPc, va_K.moved hW.alike hK, hDc.weaken (fun _ _ _ _ => trivial)⟩⟩⟩ rfl hlen hsize rfl (lv_room hW) hdg hf) hS (fun q _ h => hFc q h) hFc (fun r u t H1 locs1 ht hvm hw hB hz1 hk1 hS1 => ?_)
  have hB : va_P D classes (w1 u) t.heap ∧ va_D (va_A cx H.size) (w1 u) := hB
  rw [ht] at hB
  exact kk r u H1 locs1 hw (zjQ hP hD hC ((hkey u).trans hks.symm) hk1 hB.1) hS1
theorem zz_vlOP {post : Int64 → S → Prop} (hO : zO s) (hM : Met l y wsY rm (va_Pc (.ref b :: As) (zPreO D cs (cx ++ PL) H.size)) (va_Ql post (fun (u : S) (t : State) => va_P D classes (w1 u ++ PL) t.heap ∧ va_D (va_A (cx ++ PL) H.size) (w1 u ++ PL)) (va_A (cx ++ PL) H.size)) mc ms (va_A (cx ++ PL) H.size))
    (S0 : CallFix p m c cc nL s args zW own) (cw : CallW R s args own C index y bytes maxL ret wsY rm mc ms n) (hrv : ∃ cellB : Cell, H[b]? = some cellB ∧ cellB.vm.isStatics = false ∧ s.vm.findClass C = some cellB.cls)
    (hP : va_P D classes (X ++ PL) H) (hD : va_D A (X ++ PL)) (hS : va_S A s.heap H locs) (hK : va_K D classes (zT cs) s) (hA : ∀ q : Nat, s.heap.size ≤ q → A q) (isC : List Nat) (hC0 : isC.map (zgt X) = cx.map some) (hnC : va_nd isC = true) (ks : List Nat) (hks : cx.map Prod.fst = ks) (hkey : ∀ u : S, (w1 u).map Prod.fst = ks)
    (hlen : As.length = n) (hsize : ls.size = nL) (hW : (rest.map fun v => v.category).sum ≤ 8) (hdg : decode cc pc = .ok (.invokevirtual index, 3)) (hf : cells + mc ≤ R.cells ∧ slots + ms ≤ R.slots)
    (kk : ∀ (r : Int64) (u : S) (H1 : Heap) (locs1 : List Loc), post r u → va_P D classes (zset isC X (w1 u) ++ PL) H1 → va_S A s.heap H1 locs1 → W p l e R s m args below meth c H1 locs1 (cells + mc) (slots + ms) Q (F0 m (pc + 3) ls (.long r :: rest))) :
    W p l e R s m args below meth c H locs cells slots Q (F0 m pc ls (As.reverse ++ .ref b :: rest)) := by
  have hC := zmp hC0
  have hPc : va_P D classes (cx ++ PL) H := hP.part isC hC
  have hDc : va_D A (cx ++ PL) := hD.part isC hnC hC
  have hFc := va_freeP hD hS hA isC hC
  refine va_calll (va_runV (As := As) (rest := rest) S0 hM cw ⟨zPreO_blind, hrv, fun U hU hW => ⟨rfl, ⟨by rw [hU], by rw [hU]; exact hPc, va_K.moved hW.alike hK, hDc.weaken (fun _ _ _ _ => trivial)⟩, zO.warm hW hO⟩⟩ rfl hlen hsize rfl (lv_room hW) hdg hf) hS (fun q _ h => hFc q h) hFc (fun r u t H1 locs1 ht hvm hw hB hz1 hk1 hS1 => ?_)
  have hB : va_P D classes (w1 u ++ PL) t.heap ∧ va_D (va_A (cx ++ PL) H.size) (w1 u ++ PL) := hB
  rw [ht] at hB
  exact kk r u H1 locs1 hw (zjP hP hD hC ((hkey u).trans hks.symm) hk1 hB.1) hS1
theorem zz_vlOQ {post : Int64 → S → Prop} (hO : zO s) (hM : Met l y wsY rm (va_Pc (.ref b :: As) (zPreO D cs cx H.size)) (va_Ql post (fun (u : S) (t : State) => va_P D classes (w1 u) t.heap ∧ va_D (va_A cx H.size) (w1 u)) (va_A cx H.size)) mc ms (va_A cx H.size))
    (S0 : CallFix p m c cc nL s args zW own) (cw : CallW R s args own C index y bytes maxL ret wsY rm mc ms n) (hrv : ∃ cellB : Cell, H[b]? = some cellB ∧ cellB.vm.isStatics = false ∧ s.vm.findClass C = some cellB.cls)
    (hP : va_P D classes (X ++ PL) H) (hD : va_D A (X ++ PL)) (hS : va_S A s.heap H locs) (hK : va_K D classes (zT cs) s) (hA : ∀ q : Nat, s.heap.size ≤ q → A q) (isC : List Nat) (hC0 : isC.map (zgt X) = cx.map some) (hnC : va_nd isC = true) (ks : List Nat) (hks : cx.map Prod.fst = ks) (hkey : ∀ u : S, (w1 u).map Prod.fst = ks)
    (hlen : As.length = n) (hsize : ls.size = nL) (hW : (rest.map fun v => v.category).sum ≤ 8) (hdg : decode cc pc = .ok (.invokevirtual index, 3)) (hf : cells + mc ≤ R.cells ∧ slots + ms ≤ R.slots)
    (kk : ∀ (r : Int64) (u : S) (H1 : Heap) (locs1 : List Loc), post r u → va_P D classes (zset isC X (w1 u) ++ PL) H1 → va_S A s.heap H1 locs1 → W p l e R s m args below meth c H1 locs1 (cells + mc) (slots + ms) Q (F0 m (pc + 3) ls (.long r :: rest))) :
    W p l e R s m args below meth c H locs cells slots Q (F0 m pc ls (As.reverse ++ .ref b :: rest)) := by
  have hC := zmp hC0
  have hPc : va_P D classes cx H := (zP_l hP).sub isC (zk_fm hC)
  have hDc : va_D A cx := (zD_l hD).sub isC hnC hC
  have hFc := va_free (zD_l hD) hS hA isC hC
  refine va_calll (va_runV (As := As) (rest := rest) S0 hM cw ⟨zPreO_blind, hrv, fun U hU hW => ⟨rfl, ⟨by rw [hU], by rw [hU]; exact hPc, va_K.moved hW.alike hK, hDc.weaken (fun _ _ _ _ => trivial)⟩, zO.warm hW hO⟩⟩ rfl hlen hsize rfl (lv_room hW) hdg hf) hS (fun q _ h => hFc q h) hFc (fun r u t H1 locs1 ht hvm hw hB hz1 hk1 hS1 => ?_)
  have hB : va_P D classes (w1 u) t.heap ∧ va_D (va_A cx H.size) (w1 u) := hB
  rw [ht] at hB
  exact kk r u H1 locs1 hw (zjQ hP hD hC ((hkey u).trans hks.symm) hk1 hB.1) hS1
theorem zz_vvP {post : S → Prop} (hM : Met l y wsY rm (va_Pc (.ref b :: As) (zPre D cs (cx ++ PL) H.size)) (va_Qv post (fun (u : S) (t : State) => va_P D classes (w1 u ++ PL) t.heap ∧ va_D (va_A (cx ++ PL) H.size) (w1 u ++ PL)) (va_A (cx ++ PL) H.size)) mc ms (va_A (cx ++ PL) H.size))
    (S0 : CallFix p m c cc nL s args zW own) (cw : CallW R s args own C index y bytes maxL ret wsY rm mc ms n) (hrv : ∃ cellB : Cell, H[b]? = some cellB ∧ cellB.vm.isStatics = false ∧ s.vm.findClass C = some cellB.cls)
    (hP : va_P D classes (X ++ PL) H) (hD : va_D A (X ++ PL)) (hS : va_S A s.heap H locs) (hK : va_K D classes (zT cs) s) (hA : ∀ q : Nat, s.heap.size ≤ q → A q) (isC : List Nat) (hC0 : isC.map (zgt X) = cx.map some) (hnC : va_nd isC = true) (ks : List Nat) (hks : cx.map Prod.fst = ks) (hkey : ∀ u : S, (w1 u).map Prod.fst = ks)
    (hlen : As.length = n) (hsize : ls.size = nL) (hW : (rest.map fun v => v.category).sum ≤ 8) (hdg : decode cc pc = .ok (.invokevirtual index, 3)) (hf : cells + mc ≤ R.cells ∧ slots + ms ≤ R.slots)
    (kk : ∀ (u : S) (H1 : Heap) (locs1 : List Loc), post u → va_P D classes (zset isC X (w1 u) ++ PL) H1 → va_S A s.heap H1 locs1 → W p l e R s m args below meth c H1 locs1 (cells + mc) (slots + ms) Q (F0 m (pc + 3) ls (rest))) :
    W p l e R s m args below meth c H locs cells slots Q (F0 m pc ls (As.reverse ++ .ref b :: rest)) := by
  have hC := zmp hC0
  have hPc : va_P D classes (cx ++ PL) H := hP.part isC hC
  have hDc : va_D A (cx ++ PL) := hD.part isC hnC hC
  have hFc := va_freeP hD hS hA isC hC
  refine va_callv (va_runV (As := As) (rest := rest) S0 hM cw ⟨zPre_blind, hrv, fun U hU hW => ⟨rfl, ⟨by rw [hU], by rw [hU]; exact hPc, va_K.moved hW.alike hK, hDc.weaken (fun _ _ _ _ => trivial)⟩⟩⟩ rfl hlen hsize rfl (lv_room hW) hdg hf) hS (fun q _ h => hFc q h) hFc (fun u t H1 locs1 ht hvm hw hB hz1 hk1 hS1 => ?_)
  have hB : va_P D classes (w1 u ++ PL) t.heap ∧ va_D (va_A (cx ++ PL) H.size) (w1 u ++ PL) := hB
  rw [ht] at hB
  exact kk u H1 locs1 hw (zjP hP hD hC ((hkey u).trans hks.symm) hk1 hB.1) hS1
theorem zz_vvQ {post : S → Prop} (hM : Met l y wsY rm (va_Pc (.ref b :: As) (zPre D cs cx H.size)) (va_Qv post (fun (u : S) (t : State) => va_P D classes (w1 u) t.heap ∧ va_D (va_A cx H.size) (w1 u)) (va_A cx H.size)) mc ms (va_A cx H.size))
    (S0 : CallFix p m c cc nL s args zW own) (cw : CallW R s args own C index y bytes maxL ret wsY rm mc ms n) (hrv : ∃ cellB : Cell, H[b]? = some cellB ∧ cellB.vm.isStatics = false ∧ s.vm.findClass C = some cellB.cls)
    (hP : va_P D classes (X ++ PL) H) (hD : va_D A (X ++ PL)) (hS : va_S A s.heap H locs) (hK : va_K D classes (zT cs) s) (hA : ∀ q : Nat, s.heap.size ≤ q → A q) (isC : List Nat) (hC0 : isC.map (zgt X) = cx.map some) (hnC : va_nd isC = true) (ks : List Nat) (hks : cx.map Prod.fst = ks) (hkey : ∀ u : S, (w1 u).map Prod.fst = ks)
    (hlen : As.length = n) (hsize : ls.size = nL) (hW : (rest.map fun v => v.category).sum ≤ 8) (hdg : decode cc pc = .ok (.invokevirtual index, 3)) (hf : cells + mc ≤ R.cells ∧ slots + ms ≤ R.slots)
    (kk : ∀ (u : S) (H1 : Heap) (locs1 : List Loc), post u → va_P D classes (zset isC X (w1 u) ++ PL) H1 → va_S A s.heap H1 locs1 → W p l e R s m args below meth c H1 locs1 (cells + mc) (slots + ms) Q (F0 m (pc + 3) ls (rest))) :
    W p l e R s m args below meth c H locs cells slots Q (F0 m pc ls (As.reverse ++ .ref b :: rest)) := by
  have hC := zmp hC0
  have hPc : va_P D classes cx H := (zP_l hP).sub isC (zk_fm hC)
  have hDc : va_D A cx := (zD_l hD).sub isC hnC hC
  have hFc := va_free (zD_l hD) hS hA isC hC
  refine va_callv (va_runV (As := As) (rest := rest) S0 hM cw ⟨zPre_blind, hrv, fun U hU hW => ⟨rfl, ⟨by rw [hU], by rw [hU]; exact hPc, va_K.moved hW.alike hK, hDc.weaken (fun _ _ _ _ => trivial)⟩⟩⟩ rfl hlen hsize rfl (lv_room hW) hdg hf) hS (fun q _ h => hFc q h) hFc (fun u t H1 locs1 ht hvm hw hB hz1 hk1 hS1 => ?_)
  have hB : va_P D classes (w1 u) t.heap ∧ va_D (va_A cx H.size) (w1 u) := hB
  rw [ht] at hB
  exact kk u H1 locs1 hw (zjQ hP hD hC ((hkey u).trans hks.symm) hk1 hB.1) hS1
theorem zz_vvOP {post : S → Prop} (hO : zO s) (hM : Met l y wsY rm (va_Pc (.ref b :: As) (zPreO D cs (cx ++ PL) H.size)) (va_Qv post (fun (u : S) (t : State) => va_P D classes (w1 u ++ PL) t.heap ∧ va_D (va_A (cx ++ PL) H.size) (w1 u ++ PL)) (va_A (cx ++ PL) H.size)) mc ms (va_A (cx ++ PL) H.size))
    (S0 : CallFix p m c cc nL s args zW own) (cw : CallW R s args own C index y bytes maxL ret wsY rm mc ms n) (hrv : ∃ cellB : Cell, H[b]? = some cellB ∧ cellB.vm.isStatics = false ∧ s.vm.findClass C = some cellB.cls)
    (hP : va_P D classes (X ++ PL) H) (hD : va_D A (X ++ PL)) (hS : va_S A s.heap H locs) (hK : va_K D classes (zT cs) s) (hA : ∀ q : Nat, s.heap.size ≤ q → A q) (isC : List Nat) (hC0 : isC.map (zgt X) = cx.map some) (hnC : va_nd isC = true) (ks : List Nat) (hks : cx.map Prod.fst = ks) (hkey : ∀ u : S, (w1 u).map Prod.fst = ks)
    (hlen : As.length = n) (hsize : ls.size = nL) (hW : (rest.map fun v => v.category).sum ≤ 8) (hdg : decode cc pc = .ok (.invokevirtual index, 3)) (hf : cells + mc ≤ R.cells ∧ slots + ms ≤ R.slots)
    (kk : ∀ (u : S) (H1 : Heap) (locs1 : List Loc), post u → va_P D classes (zset isC X (w1 u) ++ PL) H1 → va_S A s.heap H1 locs1 → W p l e R s m args below meth c H1 locs1 (cells + mc) (slots + ms) Q (F0 m (pc + 3) ls (rest))) :
    W p l e R s m args below meth c H locs cells slots Q (F0 m pc ls (As.reverse ++ .ref b :: rest)) := by
  have hC := zmp hC0
  have hPc : va_P D classes (cx ++ PL) H := hP.part isC hC
  have hDc : va_D A (cx ++ PL) := hD.part isC hnC hC
  have hFc := va_freeP hD hS hA isC hC
  refine va_callv (va_runV (As := As) (rest := rest) S0 hM cw ⟨zPreO_blind, hrv, fun U hU hW => ⟨rfl, ⟨by rw [hU], by rw [hU]; exact hPc, va_K.moved hW.alike hK, hDc.weaken (fun _ _ _ _ => trivial)⟩, zO.warm hW hO⟩⟩ rfl hlen hsize rfl (lv_room hW) hdg hf) hS (fun q _ h => hFc q h) hFc (fun u t H1 locs1 ht hvm hw hB hz1 hk1 hS1 => ?_)
  have hB : va_P D classes (w1 u ++ PL) t.heap ∧ va_D (va_A (cx ++ PL) H.size) (w1 u ++ PL) := hB
  rw [ht] at hB
  exact kk u H1 locs1 hw (zjP hP hD hC ((hkey u).trans hks.symm) hk1 hB.1) hS1
theorem zz_vvOQ {post : S → Prop} (hO : zO s) (hM : Met l y wsY rm (va_Pc (.ref b :: As) (zPreO D cs cx H.size)) (va_Qv post (fun (u : S) (t : State) => va_P D classes (w1 u) t.heap ∧ va_D (va_A cx H.size) (w1 u)) (va_A cx H.size)) mc ms (va_A cx H.size))
    (S0 : CallFix p m c cc nL s args zW own) (cw : CallW R s args own C index y bytes maxL ret wsY rm mc ms n) (hrv : ∃ cellB : Cell, H[b]? = some cellB ∧ cellB.vm.isStatics = false ∧ s.vm.findClass C = some cellB.cls)
    (hP : va_P D classes (X ++ PL) H) (hD : va_D A (X ++ PL)) (hS : va_S A s.heap H locs) (hK : va_K D classes (zT cs) s) (hA : ∀ q : Nat, s.heap.size ≤ q → A q) (isC : List Nat) (hC0 : isC.map (zgt X) = cx.map some) (hnC : va_nd isC = true) (ks : List Nat) (hks : cx.map Prod.fst = ks) (hkey : ∀ u : S, (w1 u).map Prod.fst = ks)
    (hlen : As.length = n) (hsize : ls.size = nL) (hW : (rest.map fun v => v.category).sum ≤ 8) (hdg : decode cc pc = .ok (.invokevirtual index, 3)) (hf : cells + mc ≤ R.cells ∧ slots + ms ≤ R.slots)
    (kk : ∀ (u : S) (H1 : Heap) (locs1 : List Loc), post u → va_P D classes (zset isC X (w1 u) ++ PL) H1 → va_S A s.heap H1 locs1 → W p l e R s m args below meth c H1 locs1 (cells + mc) (slots + ms) Q (F0 m (pc + 3) ls (rest))) :
    W p l e R s m args below meth c H locs cells slots Q (F0 m pc ls (As.reverse ++ .ref b :: rest)) := by
  have hC := zmp hC0
  have hPc : va_P D classes cx H := (zP_l hP).sub isC (zk_fm hC)
  have hDc : va_D A cx := (zD_l hD).sub isC hnC hC
  have hFc := va_free (zD_l hD) hS hA isC hC
  refine va_callv (va_runV (As := As) (rest := rest) S0 hM cw ⟨zPreO_blind, hrv, fun U hU hW => ⟨rfl, ⟨by rw [hU], by rw [hU]; exact hPc, va_K.moved hW.alike hK, hDc.weaken (fun _ _ _ _ => trivial)⟩, zO.warm hW hO⟩⟩ rfl hlen hsize rfl (lv_room hW) hdg hf) hS (fun q _ h => hFc q h) hFc (fun u t H1 locs1 ht hvm hw hB hz1 hk1 hS1 => ?_)
  have hB : va_P D classes (w1 u) t.heap ∧ va_D (va_A cx H.size) (w1 u) := hB
  rw [ht] at hB
  exact kk u H1 locs1 hw (zjQ hP hD hC ((hkey u).trans hks.symm) hk1 hB.1) hS1
theorem zz_vqP {post : Option Nat → S → Prop} (hM : Met l y wsY rm (va_Pc (.ref b :: As) (zPre D cs (cx ++ PL) H.size)) (va_Qq post (fun (u : S) (t : State) => va_P D classes (w1 u ++ PL) t.heap ∧ va_D (va_A (cx ++ PL) H.size) (w1 u ++ PL)) (va_A (cx ++ PL) H.size)) mc ms (va_A (cx ++ PL) H.size))
    (S0 : CallFix p m c cc nL s args zW own) (cw : CallW R s args own C index y bytes maxL ret wsY rm mc ms n) (hrv : ∃ cellB : Cell, H[b]? = some cellB ∧ cellB.vm.isStatics = false ∧ s.vm.findClass C = some cellB.cls)
    (hP : va_P D classes (X ++ PL) H) (hD : va_D A (X ++ PL)) (hS : va_S A s.heap H locs) (hK : va_K D classes (zT cs) s) (hA : ∀ q : Nat, s.heap.size ≤ q → A q) (isC : List Nat) (hC0 : isC.map (zgt X) = cx.map some) (hnC : va_nd isC = true) (ks : List Nat) (hks : cx.map Prod.fst = ks) (hkey : ∀ u : S, (w1 u).map Prod.fst = ks)
    (hlen : As.length = n) (hsize : ls.size = nL) (hW : (rest.map fun v => v.category).sum ≤ 8) (hdg : decode cc pc = .ok (.invokevirtual index, 3)) (hf : cells + mc ≤ R.cells ∧ slots + ms ≤ R.slots)
    (kk : ∀ (r : Option Nat) (u : S) (H1 : Heap) (locs1 : List Loc), post r u → va_P D classes (zset isC X (w1 u) ++ PL) H1 → va_S A s.heap H1 locs1 → W p l e R s m args below meth c H1 locs1 (cells + mc) (slots + ms) Q (F0 m (pc + 3) ls (va_rf r :: rest))) :
    W p l e R s m args below meth c H locs cells slots Q (F0 m pc ls (As.reverse ++ .ref b :: rest)) := by
  have hC := zmp hC0
  have hPc : va_P D classes (cx ++ PL) H := hP.part isC hC
  have hDc : va_D A (cx ++ PL) := hD.part isC hnC hC
  have hFc := va_freeP hD hS hA isC hC
  refine va_callq (va_runV (As := As) (rest := rest) S0 hM cw ⟨zPre_blind, hrv, fun U hU hW => ⟨rfl, ⟨by rw [hU], by rw [hU]; exact hPc, va_K.moved hW.alike hK, hDc.weaken (fun _ _ _ _ => trivial)⟩⟩⟩ rfl hlen hsize rfl (lv_room hW) hdg hf) hS (fun q _ h => hFc q h) hFc (fun r u t H1 locs1 ht hvm hw hB hz1 hk1 hS1 => ?_)
  have hB : va_P D classes (w1 u ++ PL) t.heap ∧ va_D (va_A (cx ++ PL) H.size) (w1 u ++ PL) := hB
  rw [ht] at hB
  exact kk r u H1 locs1 hw (zjP hP hD hC ((hkey u).trans hks.symm) hk1 hB.1) hS1
theorem zz_vqQ {post : Option Nat → S → Prop} (hM : Met l y wsY rm (va_Pc (.ref b :: As) (zPre D cs cx H.size)) (va_Qq post (fun (u : S) (t : State) => va_P D classes (w1 u) t.heap ∧ va_D (va_A cx H.size) (w1 u)) (va_A cx H.size)) mc ms (va_A cx H.size))
    (S0 : CallFix p m c cc nL s args zW own) (cw : CallW R s args own C index y bytes maxL ret wsY rm mc ms n) (hrv : ∃ cellB : Cell, H[b]? = some cellB ∧ cellB.vm.isStatics = false ∧ s.vm.findClass C = some cellB.cls)
    (hP : va_P D classes (X ++ PL) H) (hD : va_D A (X ++ PL)) (hS : va_S A s.heap H locs) (hK : va_K D classes (zT cs) s) (hA : ∀ q : Nat, s.heap.size ≤ q → A q) (isC : List Nat) (hC0 : isC.map (zgt X) = cx.map some) (hnC : va_nd isC = true) (ks : List Nat) (hks : cx.map Prod.fst = ks) (hkey : ∀ u : S, (w1 u).map Prod.fst = ks)
    (hlen : As.length = n) (hsize : ls.size = nL) (hW : (rest.map fun v => v.category).sum ≤ 8) (hdg : decode cc pc = .ok (.invokevirtual index, 3)) (hf : cells + mc ≤ R.cells ∧ slots + ms ≤ R.slots)
    (kk : ∀ (r : Option Nat) (u : S) (H1 : Heap) (locs1 : List Loc), post r u → va_P D classes (zset isC X (w1 u) ++ PL) H1 → va_S A s.heap H1 locs1 → W p l e R s m args below meth c H1 locs1 (cells + mc) (slots + ms) Q (F0 m (pc + 3) ls (va_rf r :: rest))) :
    W p l e R s m args below meth c H locs cells slots Q (F0 m pc ls (As.reverse ++ .ref b :: rest)) := by
  have hC := zmp hC0
  have hPc : va_P D classes cx H := (zP_l hP).sub isC (zk_fm hC)
  have hDc : va_D A cx := (zD_l hD).sub isC hnC hC
  have hFc := va_free (zD_l hD) hS hA isC hC
  refine va_callq (va_runV (As := As) (rest := rest) S0 hM cw ⟨zPre_blind, hrv, fun U hU hW => ⟨rfl, ⟨by rw [hU], by rw [hU]; exact hPc, va_K.moved hW.alike hK, hDc.weaken (fun _ _ _ _ => trivial)⟩⟩⟩ rfl hlen hsize rfl (lv_room hW) hdg hf) hS (fun q _ h => hFc q h) hFc (fun r u t H1 locs1 ht hvm hw hB hz1 hk1 hS1 => ?_)
  have hB : va_P D classes (w1 u) t.heap ∧ va_D (va_A cx H.size) (w1 u) := hB
  rw [ht] at hB
  exact kk r u H1 locs1 hw (zjQ hP hD hC ((hkey u).trans hks.symm) hk1 hB.1) hS1
theorem zz_vqOP {post : Option Nat → S → Prop} (hO : zO s) (hM : Met l y wsY rm (va_Pc (.ref b :: As) (zPreO D cs (cx ++ PL) H.size)) (va_Qq post (fun (u : S) (t : State) => va_P D classes (w1 u ++ PL) t.heap ∧ va_D (va_A (cx ++ PL) H.size) (w1 u ++ PL)) (va_A (cx ++ PL) H.size)) mc ms (va_A (cx ++ PL) H.size))
    (S0 : CallFix p m c cc nL s args zW own) (cw : CallW R s args own C index y bytes maxL ret wsY rm mc ms n) (hrv : ∃ cellB : Cell, H[b]? = some cellB ∧ cellB.vm.isStatics = false ∧ s.vm.findClass C = some cellB.cls)
    (hP : va_P D classes (X ++ PL) H) (hD : va_D A (X ++ PL)) (hS : va_S A s.heap H locs) (hK : va_K D classes (zT cs) s) (hA : ∀ q : Nat, s.heap.size ≤ q → A q) (isC : List Nat) (hC0 : isC.map (zgt X) = cx.map some) (hnC : va_nd isC = true) (ks : List Nat) (hks : cx.map Prod.fst = ks) (hkey : ∀ u : S, (w1 u).map Prod.fst = ks)
    (hlen : As.length = n) (hsize : ls.size = nL) (hW : (rest.map fun v => v.category).sum ≤ 8) (hdg : decode cc pc = .ok (.invokevirtual index, 3)) (hf : cells + mc ≤ R.cells ∧ slots + ms ≤ R.slots)
    (kk : ∀ (r : Option Nat) (u : S) (H1 : Heap) (locs1 : List Loc), post r u → va_P D classes (zset isC X (w1 u) ++ PL) H1 → va_S A s.heap H1 locs1 → W p l e R s m args below meth c H1 locs1 (cells + mc) (slots + ms) Q (F0 m (pc + 3) ls (va_rf r :: rest))) :
    W p l e R s m args below meth c H locs cells slots Q (F0 m pc ls (As.reverse ++ .ref b :: rest)) := by
  have hC := zmp hC0
  have hPc : va_P D classes (cx ++ PL) H := hP.part isC hC
  have hDc : va_D A (cx ++ PL) := hD.part isC hnC hC
  have hFc := va_freeP hD hS hA isC hC
  refine va_callq (va_runV (As := As) (rest := rest) S0 hM cw ⟨zPreO_blind, hrv, fun U hU hW => ⟨rfl, ⟨by rw [hU], by rw [hU]; exact hPc, va_K.moved hW.alike hK, hDc.weaken (fun _ _ _ _ => trivial)⟩, zO.warm hW hO⟩⟩ rfl hlen hsize rfl (lv_room hW) hdg hf) hS (fun q _ h => hFc q h) hFc (fun r u t H1 locs1 ht hvm hw hB hz1 hk1 hS1 => ?_)
  have hB : va_P D classes (w1 u ++ PL) t.heap ∧ va_D (va_A (cx ++ PL) H.size) (w1 u ++ PL) := hB
  rw [ht] at hB
  exact kk r u H1 locs1 hw (zjP hP hD hC ((hkey u).trans hks.symm) hk1 hB.1) hS1
theorem zz_vqOQ {post : Option Nat → S → Prop} (hO : zO s) (hM : Met l y wsY rm (va_Pc (.ref b :: As) (zPreO D cs cx H.size)) (va_Qq post (fun (u : S) (t : State) => va_P D classes (w1 u) t.heap ∧ va_D (va_A cx H.size) (w1 u)) (va_A cx H.size)) mc ms (va_A cx H.size))
    (S0 : CallFix p m c cc nL s args zW own) (cw : CallW R s args own C index y bytes maxL ret wsY rm mc ms n) (hrv : ∃ cellB : Cell, H[b]? = some cellB ∧ cellB.vm.isStatics = false ∧ s.vm.findClass C = some cellB.cls)
    (hP : va_P D classes (X ++ PL) H) (hD : va_D A (X ++ PL)) (hS : va_S A s.heap H locs) (hK : va_K D classes (zT cs) s) (hA : ∀ q : Nat, s.heap.size ≤ q → A q) (isC : List Nat) (hC0 : isC.map (zgt X) = cx.map some) (hnC : va_nd isC = true) (ks : List Nat) (hks : cx.map Prod.fst = ks) (hkey : ∀ u : S, (w1 u).map Prod.fst = ks)
    (hlen : As.length = n) (hsize : ls.size = nL) (hW : (rest.map fun v => v.category).sum ≤ 8) (hdg : decode cc pc = .ok (.invokevirtual index, 3)) (hf : cells + mc ≤ R.cells ∧ slots + ms ≤ R.slots)
    (kk : ∀ (r : Option Nat) (u : S) (H1 : Heap) (locs1 : List Loc), post r u → va_P D classes (zset isC X (w1 u) ++ PL) H1 → va_S A s.heap H1 locs1 → W p l e R s m args below meth c H1 locs1 (cells + mc) (slots + ms) Q (F0 m (pc + 3) ls (va_rf r :: rest))) :
    W p l e R s m args below meth c H locs cells slots Q (F0 m pc ls (As.reverse ++ .ref b :: rest)) := by
  have hC := zmp hC0
  have hPc : va_P D classes cx H := (zP_l hP).sub isC (zk_fm hC)
  have hDc : va_D A cx := (zD_l hD).sub isC hnC hC
  have hFc := va_free (zD_l hD) hS hA isC hC
  refine va_callq (va_runV (As := As) (rest := rest) S0 hM cw ⟨zPreO_blind, hrv, fun U hU hW => ⟨rfl, ⟨by rw [hU], by rw [hU]; exact hPc, va_K.moved hW.alike hK, hDc.weaken (fun _ _ _ _ => trivial)⟩, zO.warm hW hO⟩⟩ rfl hlen hsize rfl (lv_room hW) hdg hf) hS (fun q _ h => hFc q h) hFc (fun r u t H1 locs1 ht hvm hw hB hz1 hk1 hS1 => ?_)
  have hB : va_P D classes (w1 u) t.heap ∧ va_D (va_A cx H.size) (w1 u) := hB
  rw [ht] at hB
  exact kk r u H1 locs1 hw (zjQ hP hD hC ((hkey u).trans hks.symm) hk1 hB.1) hS1
theorem zz_siP {post : Int32 → S → Prop} (hM : Met l y wsY rm (va_Pc As (zPre D cs (cx ++ PL) H.size)) (va_Qi post (fun (u : S) (t : State) => va_P D classes (w1 u ++ PL) t.heap ∧ va_D (va_A (cx ++ PL) H.size) (w1 u ++ PL)) (va_A (cx ++ PL) H.size)) mc ms (va_A (cx ++ PL) H.size))
    (S0 : CallFix p m c cc nL s args zW own) (cw : CallB R s args own index y bytes maxL ret wsY rm mc ms n ∧ (Cond.static y).before args s = true)
    (hP : va_P D classes (X ++ PL) H) (hD : va_D A (X ++ PL)) (hS : va_S A s.heap H locs) (hK : va_K D classes (zT cs) s) (hA : ∀ q : Nat, s.heap.size ≤ q → A q) (isC : List Nat) (hC0 : isC.map (zgt X) = cx.map some) (hnC : va_nd isC = true) (ks : List Nat) (hks : cx.map Prod.fst = ks) (hkey : ∀ u : S, (w1 u).map Prod.fst = ks)
    (hlen : As.length = n) (hsize : ls.size = nL) (hW : (rest.map fun v => v.category).sum ≤ 8) (hdg : decode cc pc = .ok (.invokestatic index, 3)) (hf : cells + mc ≤ R.cells ∧ slots + ms ≤ R.slots)
    (kk : ∀ (r : Int32) (u : S) (H1 : Heap) (locs1 : List Loc), post r u → va_P D classes (zset isC X (w1 u) ++ PL) H1 → va_S A s.heap H1 locs1 → W p l e R s m args below meth c H1 locs1 (cells + mc) (slots + ms) Q (F0 m (pc + 3) ls (.int r :: rest))) :
    W p l e R s m args below meth c H locs cells slots Q (F0 m pc ls (As.reverse ++ rest)) := by
  have hC := zmp hC0
  have hPc : va_P D classes (cx ++ PL) H := hP.part isC hC
  have hDc : va_D A (cx ++ PL) := hD.part isC hnC hC
  have hFc := va_freeP hD hS hA isC hC
  refine va_calli (va_runS (As := As) (rest := rest) S0 hM cw ⟨zPre_blind, fun U hU hW => ⟨rfl, ⟨by rw [hU], by rw [hU]; exact hPc, va_K.moved hW.alike hK, hDc.weaken (fun _ _ _ _ => trivial)⟩⟩⟩ rfl hlen hsize rfl (lv_room hW) hdg hf) hS (fun q _ h => hFc q h) hFc (fun r u t H1 locs1 ht hvm hw hB hz1 hk1 hS1 => ?_)
  have hB : va_P D classes (w1 u ++ PL) t.heap ∧ va_D (va_A (cx ++ PL) H.size) (w1 u ++ PL) := hB
  rw [ht] at hB
  exact kk r u H1 locs1 hw (zjP hP hD hC ((hkey u).trans hks.symm) hk1 hB.1) hS1
theorem zz_siQ {post : Int32 → S → Prop} (hM : Met l y wsY rm (va_Pc As (zPre D cs cx H.size)) (va_Qi post (fun (u : S) (t : State) => va_P D classes (w1 u) t.heap ∧ va_D (va_A cx H.size) (w1 u)) (va_A cx H.size)) mc ms (va_A cx H.size))
    (S0 : CallFix p m c cc nL s args zW own) (cw : CallB R s args own index y bytes maxL ret wsY rm mc ms n ∧ (Cond.static y).before args s = true)
    (hP : va_P D classes (X ++ PL) H) (hD : va_D A (X ++ PL)) (hS : va_S A s.heap H locs) (hK : va_K D classes (zT cs) s) (hA : ∀ q : Nat, s.heap.size ≤ q → A q) (isC : List Nat) (hC0 : isC.map (zgt X) = cx.map some) (hnC : va_nd isC = true) (ks : List Nat) (hks : cx.map Prod.fst = ks) (hkey : ∀ u : S, (w1 u).map Prod.fst = ks)
    (hlen : As.length = n) (hsize : ls.size = nL) (hW : (rest.map fun v => v.category).sum ≤ 8) (hdg : decode cc pc = .ok (.invokestatic index, 3)) (hf : cells + mc ≤ R.cells ∧ slots + ms ≤ R.slots)
    (kk : ∀ (r : Int32) (u : S) (H1 : Heap) (locs1 : List Loc), post r u → va_P D classes (zset isC X (w1 u) ++ PL) H1 → va_S A s.heap H1 locs1 → W p l e R s m args below meth c H1 locs1 (cells + mc) (slots + ms) Q (F0 m (pc + 3) ls (.int r :: rest))) :
    W p l e R s m args below meth c H locs cells slots Q (F0 m pc ls (As.reverse ++ rest)) := by
  have hC := zmp hC0
  have hPc : va_P D classes cx H := (zP_l hP).sub isC (zk_fm hC)
  have hDc : va_D A cx := (zD_l hD).sub isC hnC hC
  have hFc := va_free (zD_l hD) hS hA isC hC
  refine va_calli (va_runS (As := As) (rest := rest) S0 hM cw ⟨zPre_blind, fun U hU hW => ⟨rfl, ⟨by rw [hU], by rw [hU]; exact hPc, va_K.moved hW.alike hK, hDc.weaken (fun _ _ _ _ => trivial)⟩⟩⟩ rfl hlen hsize rfl (lv_room hW) hdg hf) hS (fun q _ h => hFc q h) hFc (fun r u t H1 locs1 ht hvm hw hB hz1 hk1 hS1 => ?_)
  have hB : va_P D classes (w1 u) t.heap ∧ va_D (va_A cx H.size) (w1 u) := hB
  rw [ht] at hB
  exact kk r u H1 locs1 hw (zjQ hP hD hC ((hkey u).trans hks.symm) hk1 hB.1) hS1
theorem zz_siOP {post : Int32 → S → Prop} (hO : zO s) (hM : Met l y wsY rm (va_Pc As (zPreO D cs (cx ++ PL) H.size)) (va_Qi post (fun (u : S) (t : State) => va_P D classes (w1 u ++ PL) t.heap ∧ va_D (va_A (cx ++ PL) H.size) (w1 u ++ PL)) (va_A (cx ++ PL) H.size)) mc ms (va_A (cx ++ PL) H.size))
    (S0 : CallFix p m c cc nL s args zW own) (cw : CallB R s args own index y bytes maxL ret wsY rm mc ms n ∧ (Cond.static y).before args s = true)
    (hP : va_P D classes (X ++ PL) H) (hD : va_D A (X ++ PL)) (hS : va_S A s.heap H locs) (hK : va_K D classes (zT cs) s) (hA : ∀ q : Nat, s.heap.size ≤ q → A q) (isC : List Nat) (hC0 : isC.map (zgt X) = cx.map some) (hnC : va_nd isC = true) (ks : List Nat) (hks : cx.map Prod.fst = ks) (hkey : ∀ u : S, (w1 u).map Prod.fst = ks)
    (hlen : As.length = n) (hsize : ls.size = nL) (hW : (rest.map fun v => v.category).sum ≤ 8) (hdg : decode cc pc = .ok (.invokestatic index, 3)) (hf : cells + mc ≤ R.cells ∧ slots + ms ≤ R.slots)
    (kk : ∀ (r : Int32) (u : S) (H1 : Heap) (locs1 : List Loc), post r u → va_P D classes (zset isC X (w1 u) ++ PL) H1 → va_S A s.heap H1 locs1 → W p l e R s m args below meth c H1 locs1 (cells + mc) (slots + ms) Q (F0 m (pc + 3) ls (.int r :: rest))) :
    W p l e R s m args below meth c H locs cells slots Q (F0 m pc ls (As.reverse ++ rest)) := by
  have hC := zmp hC0
  have hPc : va_P D classes (cx ++ PL) H := hP.part isC hC
  have hDc : va_D A (cx ++ PL) := hD.part isC hnC hC
  have hFc := va_freeP hD hS hA isC hC
  refine va_calli (va_runS (As := As) (rest := rest) S0 hM cw ⟨zPreO_blind, fun U hU hW => ⟨rfl, ⟨by rw [hU], by rw [hU]; exact hPc, va_K.moved hW.alike hK, hDc.weaken (fun _ _ _ _ => trivial)⟩, zO.warm hW hO⟩⟩ rfl hlen hsize rfl (lv_room hW) hdg hf) hS (fun q _ h => hFc q h) hFc (fun r u t H1 locs1 ht hvm hw hB hz1 hk1 hS1 => ?_)
  have hB : va_P D classes (w1 u ++ PL) t.heap ∧ va_D (va_A (cx ++ PL) H.size) (w1 u ++ PL) := hB
  rw [ht] at hB
  exact kk r u H1 locs1 hw (zjP hP hD hC ((hkey u).trans hks.symm) hk1 hB.1) hS1
theorem zz_siOQ {post : Int32 → S → Prop} (hO : zO s) (hM : Met l y wsY rm (va_Pc As (zPreO D cs cx H.size)) (va_Qi post (fun (u : S) (t : State) => va_P D classes (w1 u) t.heap ∧ va_D (va_A cx H.size) (w1 u)) (va_A cx H.size)) mc ms (va_A cx H.size))
    (S0 : CallFix p m c cc nL s args zW own) (cw : CallB R s args own index y bytes maxL ret wsY rm mc ms n ∧ (Cond.static y).before args s = true)
    (hP : va_P D classes (X ++ PL) H) (hD : va_D A (X ++ PL)) (hS : va_S A s.heap H locs) (hK : va_K D classes (zT cs) s) (hA : ∀ q : Nat, s.heap.size ≤ q → A q) (isC : List Nat) (hC0 : isC.map (zgt X) = cx.map some) (hnC : va_nd isC = true) (ks : List Nat) (hks : cx.map Prod.fst = ks) (hkey : ∀ u : S, (w1 u).map Prod.fst = ks)
    (hlen : As.length = n) (hsize : ls.size = nL) (hW : (rest.map fun v => v.category).sum ≤ 8) (hdg : decode cc pc = .ok (.invokestatic index, 3)) (hf : cells + mc ≤ R.cells ∧ slots + ms ≤ R.slots)
    (kk : ∀ (r : Int32) (u : S) (H1 : Heap) (locs1 : List Loc), post r u → va_P D classes (zset isC X (w1 u) ++ PL) H1 → va_S A s.heap H1 locs1 → W p l e R s m args below meth c H1 locs1 (cells + mc) (slots + ms) Q (F0 m (pc + 3) ls (.int r :: rest))) :
    W p l e R s m args below meth c H locs cells slots Q (F0 m pc ls (As.reverse ++ rest)) := by
  have hC := zmp hC0
  have hPc : va_P D classes cx H := (zP_l hP).sub isC (zk_fm hC)
  have hDc : va_D A cx := (zD_l hD).sub isC hnC hC
  have hFc := va_free (zD_l hD) hS hA isC hC
  refine va_calli (va_runS (As := As) (rest := rest) S0 hM cw ⟨zPreO_blind, fun U hU hW => ⟨rfl, ⟨by rw [hU], by rw [hU]; exact hPc, va_K.moved hW.alike hK, hDc.weaken (fun _ _ _ _ => trivial)⟩, zO.warm hW hO⟩⟩ rfl hlen hsize rfl (lv_room hW) hdg hf) hS (fun q _ h => hFc q h) hFc (fun r u t H1 locs1 ht hvm hw hB hz1 hk1 hS1 => ?_)
  have hB : va_P D classes (w1 u) t.heap ∧ va_D (va_A cx H.size) (w1 u) := hB
  rw [ht] at hB
  exact kk r u H1 locs1 hw (zjQ hP hD hC ((hkey u).trans hks.symm) hk1 hB.1) hS1
theorem zz_slP {post : Int64 → S → Prop} (hM : Met l y wsY rm (va_Pc As (zPre D cs (cx ++ PL) H.size)) (va_Ql post (fun (u : S) (t : State) => va_P D classes (w1 u ++ PL) t.heap ∧ va_D (va_A (cx ++ PL) H.size) (w1 u ++ PL)) (va_A (cx ++ PL) H.size)) mc ms (va_A (cx ++ PL) H.size))
    (S0 : CallFix p m c cc nL s args zW own) (cw : CallB R s args own index y bytes maxL ret wsY rm mc ms n ∧ (Cond.static y).before args s = true)
    (hP : va_P D classes (X ++ PL) H) (hD : va_D A (X ++ PL)) (hS : va_S A s.heap H locs) (hK : va_K D classes (zT cs) s) (hA : ∀ q : Nat, s.heap.size ≤ q → A q) (isC : List Nat) (hC0 : isC.map (zgt X) = cx.map some) (hnC : va_nd isC = true) (ks : List Nat) (hks : cx.map Prod.fst = ks) (hkey : ∀ u : S, (w1 u).map Prod.fst = ks)
    (hlen : As.length = n) (hsize : ls.size = nL) (hW : (rest.map fun v => v.category).sum ≤ 8) (hdg : decode cc pc = .ok (.invokestatic index, 3)) (hf : cells + mc ≤ R.cells ∧ slots + ms ≤ R.slots)
    (kk : ∀ (r : Int64) (u : S) (H1 : Heap) (locs1 : List Loc), post r u → va_P D classes (zset isC X (w1 u) ++ PL) H1 → va_S A s.heap H1 locs1 → W p l e R s m args below meth c H1 locs1 (cells + mc) (slots + ms) Q (F0 m (pc + 3) ls (.long r :: rest))) :
    W p l e R s m args below meth c H locs cells slots Q (F0 m pc ls (As.reverse ++ rest)) := by
  have hC := zmp hC0
  have hPc : va_P D classes (cx ++ PL) H := hP.part isC hC
  have hDc : va_D A (cx ++ PL) := hD.part isC hnC hC
  have hFc := va_freeP hD hS hA isC hC
  refine va_calll (va_runS (As := As) (rest := rest) S0 hM cw ⟨zPre_blind, fun U hU hW => ⟨rfl, ⟨by rw [hU], by rw [hU]; exact hPc, va_K.moved hW.alike hK, hDc.weaken (fun _ _ _ _ => trivial)⟩⟩⟩ rfl hlen hsize rfl (lv_room hW) hdg hf) hS (fun q _ h => hFc q h) hFc (fun r u t H1 locs1 ht hvm hw hB hz1 hk1 hS1 => ?_)
  have hB : va_P D classes (w1 u ++ PL) t.heap ∧ va_D (va_A (cx ++ PL) H.size) (w1 u ++ PL) := hB
  rw [ht] at hB
  exact kk r u H1 locs1 hw (zjP hP hD hC ((hkey u).trans hks.symm) hk1 hB.1) hS1
theorem zz_slQ {post : Int64 → S → Prop} (hM : Met l y wsY rm (va_Pc As (zPre D cs cx H.size)) (va_Ql post (fun (u : S) (t : State) => va_P D classes (w1 u) t.heap ∧ va_D (va_A cx H.size) (w1 u)) (va_A cx H.size)) mc ms (va_A cx H.size))
    (S0 : CallFix p m c cc nL s args zW own) (cw : CallB R s args own index y bytes maxL ret wsY rm mc ms n ∧ (Cond.static y).before args s = true)
    (hP : va_P D classes (X ++ PL) H) (hD : va_D A (X ++ PL)) (hS : va_S A s.heap H locs) (hK : va_K D classes (zT cs) s) (hA : ∀ q : Nat, s.heap.size ≤ q → A q) (isC : List Nat) (hC0 : isC.map (zgt X) = cx.map some) (hnC : va_nd isC = true) (ks : List Nat) (hks : cx.map Prod.fst = ks) (hkey : ∀ u : S, (w1 u).map Prod.fst = ks)
    (hlen : As.length = n) (hsize : ls.size = nL) (hW : (rest.map fun v => v.category).sum ≤ 8) (hdg : decode cc pc = .ok (.invokestatic index, 3)) (hf : cells + mc ≤ R.cells ∧ slots + ms ≤ R.slots)
    (kk : ∀ (r : Int64) (u : S) (H1 : Heap) (locs1 : List Loc), post r u → va_P D classes (zset isC X (w1 u) ++ PL) H1 → va_S A s.heap H1 locs1 → W p l e R s m args below meth c H1 locs1 (cells + mc) (slots + ms) Q (F0 m (pc + 3) ls (.long r :: rest))) :
    W p l e R s m args below meth c H locs cells slots Q (F0 m pc ls (As.reverse ++ rest)) := by
  have hC := zmp hC0
  have hPc : va_P D classes cx H := (zP_l hP).sub isC (zk_fm hC)
  have hDc : va_D A cx := (zD_l hD).sub isC hnC hC
  have hFc := va_free (zD_l hD) hS hA isC hC
  refine va_calll (va_runS (As := As) (rest := rest) S0 hM cw ⟨zPre_blind, fun U hU hW => ⟨rfl, ⟨by rw [hU], by rw [hU]; exact hPc, va_K.moved hW.alike hK, hDc.weaken (fun _ _ _ _ => trivial)⟩⟩⟩ rfl hlen hsize rfl (lv_room hW) hdg hf) hS (fun q _ h => hFc q h) hFc (fun r u t H1 locs1 ht hvm hw hB hz1 hk1 hS1 => ?_)
  have hB : va_P D classes (w1 u) t.heap ∧ va_D (va_A cx H.size) (w1 u) := hB
  rw [ht] at hB
  exact kk r u H1 locs1 hw (zjQ hP hD hC ((hkey u).trans hks.symm) hk1 hB.1) hS1
theorem zz_slOP {post : Int64 → S → Prop} (hO : zO s) (hM : Met l y wsY rm (va_Pc As (zPreO D cs (cx ++ PL) H.size)) (va_Ql post (fun (u : S) (t : State) => va_P D classes (w1 u ++ PL) t.heap ∧ va_D (va_A (cx ++ PL) H.size) (w1 u ++ PL)) (va_A (cx ++ PL) H.size)) mc ms (va_A (cx ++ PL) H.size))
    (S0 : CallFix p m c cc nL s args zW own) (cw : CallB R s args own index y bytes maxL ret wsY rm mc ms n ∧ (Cond.static y).before args s = true)
    (hP : va_P D classes (X ++ PL) H) (hD : va_D A (X ++ PL)) (hS : va_S A s.heap H locs) (hK : va_K D classes (zT cs) s) (hA : ∀ q : Nat, s.heap.size ≤ q → A q) (isC : List Nat) (hC0 : isC.map (zgt X) = cx.map some) (hnC : va_nd isC = true) (ks : List Nat) (hks : cx.map Prod.fst = ks) (hkey : ∀ u : S, (w1 u).map Prod.fst = ks)
    (hlen : As.length = n) (hsize : ls.size = nL) (hW : (rest.map fun v => v.category).sum ≤ 8) (hdg : decode cc pc = .ok (.invokestatic index, 3)) (hf : cells + mc ≤ R.cells ∧ slots + ms ≤ R.slots)
    (kk : ∀ (r : Int64) (u : S) (H1 : Heap) (locs1 : List Loc), post r u → va_P D classes (zset isC X (w1 u) ++ PL) H1 → va_S A s.heap H1 locs1 → W p l e R s m args below meth c H1 locs1 (cells + mc) (slots + ms) Q (F0 m (pc + 3) ls (.long r :: rest))) :
    W p l e R s m args below meth c H locs cells slots Q (F0 m pc ls (As.reverse ++ rest)) := by
  have hC := zmp hC0
  have hPc : va_P D classes (cx ++ PL) H := hP.part isC hC
  have hDc : va_D A (cx ++ PL) := hD.part isC hnC hC
  have hFc := va_freeP hD hS hA isC hC
  refine va_calll (va_runS (As := As) (rest := rest) S0 hM cw ⟨zPreO_blind, fun U hU hW => ⟨rfl, ⟨by rw [hU], by rw [hU]; exact hPc, va_K.moved hW.alike hK, hDc.weaken (fun _ _ _ _ => trivial)⟩, zO.warm hW hO⟩⟩ rfl hlen hsize rfl (lv_room hW) hdg hf) hS (fun q _ h => hFc q h) hFc (fun r u t H1 locs1 ht hvm hw hB hz1 hk1 hS1 => ?_)
  have hB : va_P D classes (w1 u ++ PL) t.heap ∧ va_D (va_A (cx ++ PL) H.size) (w1 u ++ PL) := hB
  rw [ht] at hB
  exact kk r u H1 locs1 hw (zjP hP hD hC ((hkey u).trans hks.symm) hk1 hB.1) hS1
theorem zz_slOQ {post : Int64 → S → Prop} (hO : zO s) (hM : Met l y wsY rm (va_Pc As (zPreO D cs cx H.size)) (va_Ql post (fun (u : S) (t : State) => va_P D classes (w1 u) t.heap ∧ va_D (va_A cx H.size) (w1 u)) (va_A cx H.size)) mc ms (va_A cx H.size))
    (S0 : CallFix p m c cc nL s args zW own) (cw : CallB R s args own index y bytes maxL ret wsY rm mc ms n ∧ (Cond.static y).before args s = true)
    (hP : va_P D classes (X ++ PL) H) (hD : va_D A (X ++ PL)) (hS : va_S A s.heap H locs) (hK : va_K D classes (zT cs) s) (hA : ∀ q : Nat, s.heap.size ≤ q → A q) (isC : List Nat) (hC0 : isC.map (zgt X) = cx.map some) (hnC : va_nd isC = true) (ks : List Nat) (hks : cx.map Prod.fst = ks) (hkey : ∀ u : S, (w1 u).map Prod.fst = ks)
    (hlen : As.length = n) (hsize : ls.size = nL) (hW : (rest.map fun v => v.category).sum ≤ 8) (hdg : decode cc pc = .ok (.invokestatic index, 3)) (hf : cells + mc ≤ R.cells ∧ slots + ms ≤ R.slots)
    (kk : ∀ (r : Int64) (u : S) (H1 : Heap) (locs1 : List Loc), post r u → va_P D classes (zset isC X (w1 u) ++ PL) H1 → va_S A s.heap H1 locs1 → W p l e R s m args below meth c H1 locs1 (cells + mc) (slots + ms) Q (F0 m (pc + 3) ls (.long r :: rest))) :
    W p l e R s m args below meth c H locs cells slots Q (F0 m pc ls (As.reverse ++ rest)) := by
  have hC := zmp hC0
  have hPc : va_P D classes cx H := (zP_l hP).sub isC (zk_fm hC)
  have hDc : va_D A cx := (zD_l hD).sub isC hnC hC
  have hFc := va_free (zD_l hD) hS hA isC hC
  refine va_calll (va_runS (As := As) (rest := rest) S0 hM cw ⟨zPreO_blind, fun U hU hW => ⟨rfl, ⟨by rw [hU], by rw [hU]; exact hPc, va_K.moved hW.alike hK, hDc.weaken (fun _ _ _ _ => trivial)⟩, zO.warm hW hO⟩⟩ rfl hlen hsize rfl (lv_room hW) hdg hf) hS (fun q _ h => hFc q h) hFc (fun r u t H1 locs1 ht hvm hw hB hz1 hk1 hS1 => ?_)
  have hB : va_P D classes (w1 u) t.heap ∧ va_D (va_A cx H.size) (w1 u) := hB
  rw [ht] at hB
  exact kk r u H1 locs1 hw (zjQ hP hD hC ((hkey u).trans hks.symm) hk1 hB.1) hS1
theorem zz_svP {post : S → Prop} (hM : Met l y wsY rm (va_Pc As (zPre D cs (cx ++ PL) H.size)) (va_Qv post (fun (u : S) (t : State) => va_P D classes (w1 u ++ PL) t.heap ∧ va_D (va_A (cx ++ PL) H.size) (w1 u ++ PL)) (va_A (cx ++ PL) H.size)) mc ms (va_A (cx ++ PL) H.size))
    (S0 : CallFix p m c cc nL s args zW own) (cw : CallB R s args own index y bytes maxL ret wsY rm mc ms n ∧ (Cond.static y).before args s = true)
    (hP : va_P D classes (X ++ PL) H) (hD : va_D A (X ++ PL)) (hS : va_S A s.heap H locs) (hK : va_K D classes (zT cs) s) (hA : ∀ q : Nat, s.heap.size ≤ q → A q) (isC : List Nat) (hC0 : isC.map (zgt X) = cx.map some) (hnC : va_nd isC = true) (ks : List Nat) (hks : cx.map Prod.fst = ks) (hkey : ∀ u : S, (w1 u).map Prod.fst = ks)
    (hlen : As.length = n) (hsize : ls.size = nL) (hW : (rest.map fun v => v.category).sum ≤ 8) (hdg : decode cc pc = .ok (.invokestatic index, 3)) (hf : cells + mc ≤ R.cells ∧ slots + ms ≤ R.slots)
    (kk : ∀ (u : S) (H1 : Heap) (locs1 : List Loc), post u → va_P D classes (zset isC X (w1 u) ++ PL) H1 → va_S A s.heap H1 locs1 → W p l e R s m args below meth c H1 locs1 (cells + mc) (slots + ms) Q (F0 m (pc + 3) ls (rest))) :
    W p l e R s m args below meth c H locs cells slots Q (F0 m pc ls (As.reverse ++ rest)) := by
  have hC := zmp hC0
  have hPc : va_P D classes (cx ++ PL) H := hP.part isC hC
  have hDc : va_D A (cx ++ PL) := hD.part isC hnC hC
  have hFc := va_freeP hD hS hA isC hC
  refine va_callv (va_runS (As := As) (rest := rest) S0 hM cw ⟨zPre_blind, fun U hU hW => ⟨rfl, ⟨by rw [hU], by rw [hU]; exact hPc, va_K.moved hW.alike hK, hDc.weaken (fun _ _ _ _ => trivial)⟩⟩⟩ rfl hlen hsize rfl (lv_room hW) hdg hf) hS (fun q _ h => hFc q h) hFc (fun u t H1 locs1 ht hvm hw hB hz1 hk1 hS1 => ?_)
  have hB : va_P D classes (w1 u ++ PL) t.heap ∧ va_D (va_A (cx ++ PL) H.size) (w1 u ++ PL) := hB
  rw [ht] at hB
  exact kk u H1 locs1 hw (zjP hP hD hC ((hkey u).trans hks.symm) hk1 hB.1) hS1
theorem zz_svQ {post : S → Prop} (hM : Met l y wsY rm (va_Pc As (zPre D cs cx H.size)) (va_Qv post (fun (u : S) (t : State) => va_P D classes (w1 u) t.heap ∧ va_D (va_A cx H.size) (w1 u)) (va_A cx H.size)) mc ms (va_A cx H.size))
    (S0 : CallFix p m c cc nL s args zW own) (cw : CallB R s args own index y bytes maxL ret wsY rm mc ms n ∧ (Cond.static y).before args s = true)
    (hP : va_P D classes (X ++ PL) H) (hD : va_D A (X ++ PL)) (hS : va_S A s.heap H locs) (hK : va_K D classes (zT cs) s) (hA : ∀ q : Nat, s.heap.size ≤ q → A q) (isC : List Nat) (hC0 : isC.map (zgt X) = cx.map some) (hnC : va_nd isC = true) (ks : List Nat) (hks : cx.map Prod.fst = ks) (hkey : ∀ u : S, (w1 u).map Prod.fst = ks)
    (hlen : As.length = n) (hsize : ls.size = nL) (hW : (rest.map fun v => v.category).sum ≤ 8) (hdg : decode cc pc = .ok (.invokestatic index, 3)) (hf : cells + mc ≤ R.cells ∧ slots + ms ≤ R.slots)
    (kk : ∀ (u : S) (H1 : Heap) (locs1 : List Loc), post u → va_P D classes (zset isC X (w1 u) ++ PL) H1 → va_S A s.heap H1 locs1 → W p l e R s m args below meth c H1 locs1 (cells + mc) (slots + ms) Q (F0 m (pc + 3) ls (rest))) :
    W p l e R s m args below meth c H locs cells slots Q (F0 m pc ls (As.reverse ++ rest)) := by
  have hC := zmp hC0
  have hPc : va_P D classes cx H := (zP_l hP).sub isC (zk_fm hC)
  have hDc : va_D A cx := (zD_l hD).sub isC hnC hC
  have hFc := va_free (zD_l hD) hS hA isC hC
  refine va_callv (va_runS (As := As) (rest := rest) S0 hM cw ⟨zPre_blind, fun U hU hW => ⟨rfl, ⟨by rw [hU], by rw [hU]; exact hPc, va_K.moved hW.alike hK, hDc.weaken (fun _ _ _ _ => trivial)⟩⟩⟩ rfl hlen hsize rfl (lv_room hW) hdg hf) hS (fun q _ h => hFc q h) hFc (fun u t H1 locs1 ht hvm hw hB hz1 hk1 hS1 => ?_)
  have hB : va_P D classes (w1 u) t.heap ∧ va_D (va_A cx H.size) (w1 u) := hB
  rw [ht] at hB
  exact kk u H1 locs1 hw (zjQ hP hD hC ((hkey u).trans hks.symm) hk1 hB.1) hS1
theorem zz_svOP {post : S → Prop} (hO : zO s) (hM : Met l y wsY rm (va_Pc As (zPreO D cs (cx ++ PL) H.size)) (va_Qv post (fun (u : S) (t : State) => va_P D classes (w1 u ++ PL) t.heap ∧ va_D (va_A (cx ++ PL) H.size) (w1 u ++ PL)) (va_A (cx ++ PL) H.size)) mc ms (va_A (cx ++ PL) H.size))
    (S0 : CallFix p m c cc nL s args zW own) (cw : CallB R s args own index y bytes maxL ret wsY rm mc ms n ∧ (Cond.static y).before args s = true)
    (hP : va_P D classes (X ++ PL) H) (hD : va_D A (X ++ PL)) (hS : va_S A s.heap H locs) (hK : va_K D classes (zT cs) s) (hA : ∀ q : Nat, s.heap.size ≤ q → A q) (isC : List Nat) (hC0 : isC.map (zgt X) = cx.map some) (hnC : va_nd isC = true) (ks : List Nat) (hks : cx.map Prod.fst = ks) (hkey : ∀ u : S, (w1 u).map Prod.fst = ks)
    (hlen : As.length = n) (hsize : ls.size = nL) (hW : (rest.map fun v => v.category).sum ≤ 8) (hdg : decode cc pc = .ok (.invokestatic index, 3)) (hf : cells + mc ≤ R.cells ∧ slots + ms ≤ R.slots)
    (kk : ∀ (u : S) (H1 : Heap) (locs1 : List Loc), post u → va_P D classes (zset isC X (w1 u) ++ PL) H1 → va_S A s.heap H1 locs1 → W p l e R s m args below meth c H1 locs1 (cells + mc) (slots + ms) Q (F0 m (pc + 3) ls (rest))) :
    W p l e R s m args below meth c H locs cells slots Q (F0 m pc ls (As.reverse ++ rest)) := by
  have hC := zmp hC0
  have hPc : va_P D classes (cx ++ PL) H := hP.part isC hC
  have hDc : va_D A (cx ++ PL) := hD.part isC hnC hC
  have hFc := va_freeP hD hS hA isC hC
  refine va_callv (va_runS (As := As) (rest := rest) S0 hM cw ⟨zPreO_blind, fun U hU hW => ⟨rfl, ⟨by rw [hU], by rw [hU]; exact hPc, va_K.moved hW.alike hK, hDc.weaken (fun _ _ _ _ => trivial)⟩, zO.warm hW hO⟩⟩ rfl hlen hsize rfl (lv_room hW) hdg hf) hS (fun q _ h => hFc q h) hFc (fun u t H1 locs1 ht hvm hw hB hz1 hk1 hS1 => ?_)
  have hB : va_P D classes (w1 u ++ PL) t.heap ∧ va_D (va_A (cx ++ PL) H.size) (w1 u ++ PL) := hB
  rw [ht] at hB
  exact kk u H1 locs1 hw (zjP hP hD hC ((hkey u).trans hks.symm) hk1 hB.1) hS1
theorem zz_svOQ {post : S → Prop} (hO : zO s) (hM : Met l y wsY rm (va_Pc As (zPreO D cs cx H.size)) (va_Qv post (fun (u : S) (t : State) => va_P D classes (w1 u) t.heap ∧ va_D (va_A cx H.size) (w1 u)) (va_A cx H.size)) mc ms (va_A cx H.size))
    (S0 : CallFix p m c cc nL s args zW own) (cw : CallB R s args own index y bytes maxL ret wsY rm mc ms n ∧ (Cond.static y).before args s = true)
    (hP : va_P D classes (X ++ PL) H) (hD : va_D A (X ++ PL)) (hS : va_S A s.heap H locs) (hK : va_K D classes (zT cs) s) (hA : ∀ q : Nat, s.heap.size ≤ q → A q) (isC : List Nat) (hC0 : isC.map (zgt X) = cx.map some) (hnC : va_nd isC = true) (ks : List Nat) (hks : cx.map Prod.fst = ks) (hkey : ∀ u : S, (w1 u).map Prod.fst = ks)
    (hlen : As.length = n) (hsize : ls.size = nL) (hW : (rest.map fun v => v.category).sum ≤ 8) (hdg : decode cc pc = .ok (.invokestatic index, 3)) (hf : cells + mc ≤ R.cells ∧ slots + ms ≤ R.slots)
    (kk : ∀ (u : S) (H1 : Heap) (locs1 : List Loc), post u → va_P D classes (zset isC X (w1 u) ++ PL) H1 → va_S A s.heap H1 locs1 → W p l e R s m args below meth c H1 locs1 (cells + mc) (slots + ms) Q (F0 m (pc + 3) ls (rest))) :
    W p l e R s m args below meth c H locs cells slots Q (F0 m pc ls (As.reverse ++ rest)) := by
  have hC := zmp hC0
  have hPc : va_P D classes cx H := (zP_l hP).sub isC (zk_fm hC)
  have hDc : va_D A cx := (zD_l hD).sub isC hnC hC
  have hFc := va_free (zD_l hD) hS hA isC hC
  refine va_callv (va_runS (As := As) (rest := rest) S0 hM cw ⟨zPreO_blind, fun U hU hW => ⟨rfl, ⟨by rw [hU], by rw [hU]; exact hPc, va_K.moved hW.alike hK, hDc.weaken (fun _ _ _ _ => trivial)⟩, zO.warm hW hO⟩⟩ rfl hlen hsize rfl (lv_room hW) hdg hf) hS (fun q _ h => hFc q h) hFc (fun u t H1 locs1 ht hvm hw hB hz1 hk1 hS1 => ?_)
  have hB : va_P D classes (w1 u) t.heap ∧ va_D (va_A cx H.size) (w1 u) := hB
  rw [ht] at hB
  exact kk u H1 locs1 hw (zjQ hP hD hC ((hkey u).trans hks.symm) hk1 hB.1) hS1
theorem zz_sqP {post : Option Nat → S → Prop} (hM : Met l y wsY rm (va_Pc As (zPre D cs (cx ++ PL) H.size)) (va_Qq post (fun (u : S) (t : State) => va_P D classes (w1 u ++ PL) t.heap ∧ va_D (va_A (cx ++ PL) H.size) (w1 u ++ PL)) (va_A (cx ++ PL) H.size)) mc ms (va_A (cx ++ PL) H.size))
    (S0 : CallFix p m c cc nL s args zW own) (cw : CallB R s args own index y bytes maxL ret wsY rm mc ms n ∧ (Cond.static y).before args s = true)
    (hP : va_P D classes (X ++ PL) H) (hD : va_D A (X ++ PL)) (hS : va_S A s.heap H locs) (hK : va_K D classes (zT cs) s) (hA : ∀ q : Nat, s.heap.size ≤ q → A q) (isC : List Nat) (hC0 : isC.map (zgt X) = cx.map some) (hnC : va_nd isC = true) (ks : List Nat) (hks : cx.map Prod.fst = ks) (hkey : ∀ u : S, (w1 u).map Prod.fst = ks)
    (hlen : As.length = n) (hsize : ls.size = nL) (hW : (rest.map fun v => v.category).sum ≤ 8) (hdg : decode cc pc = .ok (.invokestatic index, 3)) (hf : cells + mc ≤ R.cells ∧ slots + ms ≤ R.slots)
    (kk : ∀ (r : Option Nat) (u : S) (H1 : Heap) (locs1 : List Loc), post r u → va_P D classes (zset isC X (w1 u) ++ PL) H1 → va_S A s.heap H1 locs1 → W p l e R s m args below meth c H1 locs1 (cells + mc) (slots + ms) Q (F0 m (pc + 3) ls (va_rf r :: rest))) :
    W p l e R s m args below meth c H locs cells slots Q (F0 m pc ls (As.reverse ++ rest)) := by
  have hC := zmp hC0
  have hPc : va_P D classes (cx ++ PL) H := hP.part isC hC
  have hDc : va_D A (cx ++ PL) := hD.part isC hnC hC
  have hFc := va_freeP hD hS hA isC hC
  refine va_callq (va_runS (As := As) (rest := rest) S0 hM cw ⟨zPre_blind, fun U hU hW => ⟨rfl, ⟨by rw [hU], by rw [hU]; exact hPc, va_K.moved hW.alike hK, hDc.weaken (fun _ _ _ _ => trivial)⟩⟩⟩ rfl hlen hsize rfl (lv_room hW) hdg hf) hS (fun q _ h => hFc q h) hFc (fun r u t H1 locs1 ht hvm hw hB hz1 hk1 hS1 => ?_)
  have hB : va_P D classes (w1 u ++ PL) t.heap ∧ va_D (va_A (cx ++ PL) H.size) (w1 u ++ PL) := hB
  rw [ht] at hB
  exact kk r u H1 locs1 hw (zjP hP hD hC ((hkey u).trans hks.symm) hk1 hB.1) hS1
theorem zz_sqQ {post : Option Nat → S → Prop} (hM : Met l y wsY rm (va_Pc As (zPre D cs cx H.size)) (va_Qq post (fun (u : S) (t : State) => va_P D classes (w1 u) t.heap ∧ va_D (va_A cx H.size) (w1 u)) (va_A cx H.size)) mc ms (va_A cx H.size))
    (S0 : CallFix p m c cc nL s args zW own) (cw : CallB R s args own index y bytes maxL ret wsY rm mc ms n ∧ (Cond.static y).before args s = true)
    (hP : va_P D classes (X ++ PL) H) (hD : va_D A (X ++ PL)) (hS : va_S A s.heap H locs) (hK : va_K D classes (zT cs) s) (hA : ∀ q : Nat, s.heap.size ≤ q → A q) (isC : List Nat) (hC0 : isC.map (zgt X) = cx.map some) (hnC : va_nd isC = true) (ks : List Nat) (hks : cx.map Prod.fst = ks) (hkey : ∀ u : S, (w1 u).map Prod.fst = ks)
    (hlen : As.length = n) (hsize : ls.size = nL) (hW : (rest.map fun v => v.category).sum ≤ 8) (hdg : decode cc pc = .ok (.invokestatic index, 3)) (hf : cells + mc ≤ R.cells ∧ slots + ms ≤ R.slots)
    (kk : ∀ (r : Option Nat) (u : S) (H1 : Heap) (locs1 : List Loc), post r u → va_P D classes (zset isC X (w1 u) ++ PL) H1 → va_S A s.heap H1 locs1 → W p l e R s m args below meth c H1 locs1 (cells + mc) (slots + ms) Q (F0 m (pc + 3) ls (va_rf r :: rest))) :
    W p l e R s m args below meth c H locs cells slots Q (F0 m pc ls (As.reverse ++ rest)) := by
  have hC := zmp hC0
  have hPc : va_P D classes cx H := (zP_l hP).sub isC (zk_fm hC)
  have hDc : va_D A cx := (zD_l hD).sub isC hnC hC
  have hFc := va_free (zD_l hD) hS hA isC hC
  refine va_callq (va_runS (As := As) (rest := rest) S0 hM cw ⟨zPre_blind, fun U hU hW => ⟨rfl, ⟨by rw [hU], by rw [hU]; exact hPc, va_K.moved hW.alike hK, hDc.weaken (fun _ _ _ _ => trivial)⟩⟩⟩ rfl hlen hsize rfl (lv_room hW) hdg hf) hS (fun q _ h => hFc q h) hFc (fun r u t H1 locs1 ht hvm hw hB hz1 hk1 hS1 => ?_)
  have hB : va_P D classes (w1 u) t.heap ∧ va_D (va_A cx H.size) (w1 u) := hB
  rw [ht] at hB
  exact kk r u H1 locs1 hw (zjQ hP hD hC ((hkey u).trans hks.symm) hk1 hB.1) hS1
theorem zz_sqOP {post : Option Nat → S → Prop} (hO : zO s) (hM : Met l y wsY rm (va_Pc As (zPreO D cs (cx ++ PL) H.size)) (va_Qq post (fun (u : S) (t : State) => va_P D classes (w1 u ++ PL) t.heap ∧ va_D (va_A (cx ++ PL) H.size) (w1 u ++ PL)) (va_A (cx ++ PL) H.size)) mc ms (va_A (cx ++ PL) H.size))
    (S0 : CallFix p m c cc nL s args zW own) (cw : CallB R s args own index y bytes maxL ret wsY rm mc ms n ∧ (Cond.static y).before args s = true)
    (hP : va_P D classes (X ++ PL) H) (hD : va_D A (X ++ PL)) (hS : va_S A s.heap H locs) (hK : va_K D classes (zT cs) s) (hA : ∀ q : Nat, s.heap.size ≤ q → A q) (isC : List Nat) (hC0 : isC.map (zgt X) = cx.map some) (hnC : va_nd isC = true) (ks : List Nat) (hks : cx.map Prod.fst = ks) (hkey : ∀ u : S, (w1 u).map Prod.fst = ks)
    (hlen : As.length = n) (hsize : ls.size = nL) (hW : (rest.map fun v => v.category).sum ≤ 8) (hdg : decode cc pc = .ok (.invokestatic index, 3)) (hf : cells + mc ≤ R.cells ∧ slots + ms ≤ R.slots)
    (kk : ∀ (r : Option Nat) (u : S) (H1 : Heap) (locs1 : List Loc), post r u → va_P D classes (zset isC X (w1 u) ++ PL) H1 → va_S A s.heap H1 locs1 → W p l e R s m args below meth c H1 locs1 (cells + mc) (slots + ms) Q (F0 m (pc + 3) ls (va_rf r :: rest))) :
    W p l e R s m args below meth c H locs cells slots Q (F0 m pc ls (As.reverse ++ rest)) := by
  have hC := zmp hC0
  have hPc : va_P D classes (cx ++ PL) H := hP.part isC hC
  have hDc : va_D A (cx ++ PL) := hD.part isC hnC hC
  have hFc := va_freeP hD hS hA isC hC
  refine va_callq (va_runS (As := As) (rest := rest) S0 hM cw ⟨zPreO_blind, fun U hU hW => ⟨rfl, ⟨by rw [hU], by rw [hU]; exact hPc, va_K.moved hW.alike hK, hDc.weaken (fun _ _ _ _ => trivial)⟩, zO.warm hW hO⟩⟩ rfl hlen hsize rfl (lv_room hW) hdg hf) hS (fun q _ h => hFc q h) hFc (fun r u t H1 locs1 ht hvm hw hB hz1 hk1 hS1 => ?_)
  have hB : va_P D classes (w1 u ++ PL) t.heap ∧ va_D (va_A (cx ++ PL) H.size) (w1 u ++ PL) := hB
  rw [ht] at hB
  exact kk r u H1 locs1 hw (zjP hP hD hC ((hkey u).trans hks.symm) hk1 hB.1) hS1
theorem zz_sqOQ {post : Option Nat → S → Prop} (hO : zO s) (hM : Met l y wsY rm (va_Pc As (zPreO D cs cx H.size)) (va_Qq post (fun (u : S) (t : State) => va_P D classes (w1 u) t.heap ∧ va_D (va_A cx H.size) (w1 u)) (va_A cx H.size)) mc ms (va_A cx H.size))
    (S0 : CallFix p m c cc nL s args zW own) (cw : CallB R s args own index y bytes maxL ret wsY rm mc ms n ∧ (Cond.static y).before args s = true)
    (hP : va_P D classes (X ++ PL) H) (hD : va_D A (X ++ PL)) (hS : va_S A s.heap H locs) (hK : va_K D classes (zT cs) s) (hA : ∀ q : Nat, s.heap.size ≤ q → A q) (isC : List Nat) (hC0 : isC.map (zgt X) = cx.map some) (hnC : va_nd isC = true) (ks : List Nat) (hks : cx.map Prod.fst = ks) (hkey : ∀ u : S, (w1 u).map Prod.fst = ks)
    (hlen : As.length = n) (hsize : ls.size = nL) (hW : (rest.map fun v => v.category).sum ≤ 8) (hdg : decode cc pc = .ok (.invokestatic index, 3)) (hf : cells + mc ≤ R.cells ∧ slots + ms ≤ R.slots)
    (kk : ∀ (r : Option Nat) (u : S) (H1 : Heap) (locs1 : List Loc), post r u → va_P D classes (zset isC X (w1 u) ++ PL) H1 → va_S A s.heap H1 locs1 → W p l e R s m args below meth c H1 locs1 (cells + mc) (slots + ms) Q (F0 m (pc + 3) ls (va_rf r :: rest))) :
    W p l e R s m args below meth c H locs cells slots Q (F0 m pc ls (As.reverse ++ rest)) := by
  have hC := zmp hC0
  have hPc : va_P D classes cx H := (zP_l hP).sub isC (zk_fm hC)
  have hDc : va_D A cx := (zD_l hD).sub isC hnC hC
  have hFc := va_free (zD_l hD) hS hA isC hC
  refine va_callq (va_runS (As := As) (rest := rest) S0 hM cw ⟨zPreO_blind, fun U hU hW => ⟨rfl, ⟨by rw [hU], by rw [hU]; exact hPc, va_K.moved hW.alike hK, hDc.weaken (fun _ _ _ _ => trivial)⟩, zO.warm hW hO⟩⟩ rfl hlen hsize rfl (lv_room hW) hdg hf) hS (fun q _ h => hFc q h) hFc (fun r u t H1 locs1 ht hvm hw hB hz1 hk1 hS1 => ?_)
  have hB : va_P D classes (w1 u) t.heap ∧ va_D (va_A cx H.size) (w1 u) := hB
  rw [ht] at hB
  exact kk r u H1 locs1 hw (zjQ hP hD hC ((hkey u).trans hks.symm) hk1 hB.1) hS1
theorem zz_niP {post : Int32 → S → Prop} (hM : Met l y wsY rm (va_Pc (.ref b :: As) (zPre D cs (cx ++ PL) H.size)) (va_Qi post (fun (u : S) (t : State) => va_P D classes (w1 u ++ PL) t.heap ∧ va_D (va_A (cx ++ PL) H.size) (w1 u ++ PL)) (va_A (cx ++ PL) H.size)) mc ms (va_A (cx ++ PL) H.size))
    (S0 : CallFix p m c cc nL s args zW own) (cw : va_CN R s args own index y host bytes maxL ret wsY rm mc ms n ∧ (Cond.instanceMethod y).before args s = true ∧ (Cond.selects C y y).before args s = true) (hrv : ∃ cellB : Cell, H[b]? = some cellB ∧ cellB.vm.isStatics = false ∧ s.vm.findClass C = some cellB.cls)
    (hP : va_P D classes (X ++ PL) H) (hD : va_D A (X ++ PL)) (hS : va_S A s.heap H locs) (hK : va_K D classes (zT cs) s) (hA : ∀ q : Nat, s.heap.size ≤ q → A q) (isC : List Nat) (hC0 : isC.map (zgt X) = cx.map some) (hnC : va_nd isC = true) (ks : List Nat) (hks : cx.map Prod.fst = ks) (hkey : ∀ u : S, (w1 u).map Prod.fst = ks)
    (hlen : As.length = n) (hsize : ls.size = nL) (hW : (rest.map fun v => v.category).sum ≤ 8) (hdg : decode cc pc = .ok (.invokevirtual index, 3)) (hf : cells + mc ≤ R.cells ∧ slots + ms ≤ R.slots)
    (kk : ∀ (r : Int32) (u : S) (H1 : Heap) (locs1 : List Loc), post r u → va_P D classes (zset isC X (w1 u) ++ PL) H1 → va_S A s.heap H1 locs1 → W p l e R s m args below meth c H1 locs1 (cells + mc) (slots + ms) Q (F0 m (pc + 3) ls (.int r :: rest))) :
    W p l e R s m args below meth c H locs cells slots Q (F0 m pc ls (As.reverse ++ .ref b :: rest)) := by
  have hC := zmp hC0
  have hPc : va_P D classes (cx ++ PL) H := hP.part isC hC
  have hDc : va_D A (cx ++ PL) := hD.part isC hnC hC
  have hFc := va_freeP hD hS hA isC hC
  refine va_calli (va_runVN (As := As) (rest := rest) S0 hM cw ⟨zPre_blind, hrv, fun U hU hW => ⟨rfl, ⟨by rw [hU], by rw [hU]; exact hPc, va_K.moved hW.alike hK, hDc.weaken (fun _ _ _ _ => trivial)⟩⟩⟩ rfl hlen hsize rfl (lv_room hW) hdg hf) hS (fun q _ h => hFc q h) hFc (fun r u t H1 locs1 ht hvm hw hB hz1 hk1 hS1 => ?_)
  have hB : va_P D classes (w1 u ++ PL) t.heap ∧ va_D (va_A (cx ++ PL) H.size) (w1 u ++ PL) := hB
  rw [ht] at hB
  exact kk r u H1 locs1 hw (zjP hP hD hC ((hkey u).trans hks.symm) hk1 hB.1) hS1
theorem zz_niQ {post : Int32 → S → Prop} (hM : Met l y wsY rm (va_Pc (.ref b :: As) (zPre D cs cx H.size)) (va_Qi post (fun (u : S) (t : State) => va_P D classes (w1 u) t.heap ∧ va_D (va_A cx H.size) (w1 u)) (va_A cx H.size)) mc ms (va_A cx H.size))
    (S0 : CallFix p m c cc nL s args zW own) (cw : va_CN R s args own index y host bytes maxL ret wsY rm mc ms n ∧ (Cond.instanceMethod y).before args s = true ∧ (Cond.selects C y y).before args s = true) (hrv : ∃ cellB : Cell, H[b]? = some cellB ∧ cellB.vm.isStatics = false ∧ s.vm.findClass C = some cellB.cls)
    (hP : va_P D classes (X ++ PL) H) (hD : va_D A (X ++ PL)) (hS : va_S A s.heap H locs) (hK : va_K D classes (zT cs) s) (hA : ∀ q : Nat, s.heap.size ≤ q → A q) (isC : List Nat) (hC0 : isC.map (zgt X) = cx.map some) (hnC : va_nd isC = true) (ks : List Nat) (hks : cx.map Prod.fst = ks) (hkey : ∀ u : S, (w1 u).map Prod.fst = ks)
    (hlen : As.length = n) (hsize : ls.size = nL) (hW : (rest.map fun v => v.category).sum ≤ 8) (hdg : decode cc pc = .ok (.invokevirtual index, 3)) (hf : cells + mc ≤ R.cells ∧ slots + ms ≤ R.slots)
    (kk : ∀ (r : Int32) (u : S) (H1 : Heap) (locs1 : List Loc), post r u → va_P D classes (zset isC X (w1 u) ++ PL) H1 → va_S A s.heap H1 locs1 → W p l e R s m args below meth c H1 locs1 (cells + mc) (slots + ms) Q (F0 m (pc + 3) ls (.int r :: rest))) :
    W p l e R s m args below meth c H locs cells slots Q (F0 m pc ls (As.reverse ++ .ref b :: rest)) := by
  have hC := zmp hC0
  have hPc : va_P D classes cx H := (zP_l hP).sub isC (zk_fm hC)
  have hDc : va_D A cx := (zD_l hD).sub isC hnC hC
  have hFc := va_free (zD_l hD) hS hA isC hC
  refine va_calli (va_runVN (As := As) (rest := rest) S0 hM cw ⟨zPre_blind, hrv, fun U hU hW => ⟨rfl, ⟨by rw [hU], by rw [hU]; exact hPc, va_K.moved hW.alike hK, hDc.weaken (fun _ _ _ _ => trivial)⟩⟩⟩ rfl hlen hsize rfl (lv_room hW) hdg hf) hS (fun q _ h => hFc q h) hFc (fun r u t H1 locs1 ht hvm hw hB hz1 hk1 hS1 => ?_)
  have hB : va_P D classes (w1 u) t.heap ∧ va_D (va_A cx H.size) (w1 u) := hB
  rw [ht] at hB
  exact kk r u H1 locs1 hw (zjQ hP hD hC ((hkey u).trans hks.symm) hk1 hB.1) hS1
theorem zz_niOP {post : Int32 → S → Prop} (hO : zO s) (hM : Met l y wsY rm (va_Pc (.ref b :: As) (zPreO D cs (cx ++ PL) H.size)) (va_Qi post (fun (u : S) (t : State) => va_P D classes (w1 u ++ PL) t.heap ∧ va_D (va_A (cx ++ PL) H.size) (w1 u ++ PL)) (va_A (cx ++ PL) H.size)) mc ms (va_A (cx ++ PL) H.size))
    (S0 : CallFix p m c cc nL s args zW own) (cw : va_CN R s args own index y host bytes maxL ret wsY rm mc ms n ∧ (Cond.instanceMethod y).before args s = true ∧ (Cond.selects C y y).before args s = true) (hrv : ∃ cellB : Cell, H[b]? = some cellB ∧ cellB.vm.isStatics = false ∧ s.vm.findClass C = some cellB.cls)
    (hP : va_P D classes (X ++ PL) H) (hD : va_D A (X ++ PL)) (hS : va_S A s.heap H locs) (hK : va_K D classes (zT cs) s) (hA : ∀ q : Nat, s.heap.size ≤ q → A q) (isC : List Nat) (hC0 : isC.map (zgt X) = cx.map some) (hnC : va_nd isC = true) (ks : List Nat) (hks : cx.map Prod.fst = ks) (hkey : ∀ u : S, (w1 u).map Prod.fst = ks)
    (hlen : As.length = n) (hsize : ls.size = nL) (hW : (rest.map fun v => v.category).sum ≤ 8) (hdg : decode cc pc = .ok (.invokevirtual index, 3)) (hf : cells + mc ≤ R.cells ∧ slots + ms ≤ R.slots)
    (kk : ∀ (r : Int32) (u : S) (H1 : Heap) (locs1 : List Loc), post r u → va_P D classes (zset isC X (w1 u) ++ PL) H1 → va_S A s.heap H1 locs1 → W p l e R s m args below meth c H1 locs1 (cells + mc) (slots + ms) Q (F0 m (pc + 3) ls (.int r :: rest))) :
    W p l e R s m args below meth c H locs cells slots Q (F0 m pc ls (As.reverse ++ .ref b :: rest)) := by
  have hC := zmp hC0
  have hPc : va_P D classes (cx ++ PL) H := hP.part isC hC
  have hDc : va_D A (cx ++ PL) := hD.part isC hnC hC
  have hFc := va_freeP hD hS hA isC hC
  refine va_calli (va_runVN (As := As) (rest := rest) S0 hM cw ⟨zPreO_blind, hrv, fun U hU hW => ⟨rfl, ⟨by rw [hU], by rw [hU]; exact hPc, va_K.moved hW.alike hK, hDc.weaken (fun _ _ _ _ => trivial)⟩, zO.warm hW hO⟩⟩ rfl hlen hsize rfl (lv_room hW) hdg hf) hS (fun q _ h => hFc q h) hFc (fun r u t H1 locs1 ht hvm hw hB hz1 hk1 hS1 => ?_)
  have hB : va_P D classes (w1 u ++ PL) t.heap ∧ va_D (va_A (cx ++ PL) H.size) (w1 u ++ PL) := hB
  rw [ht] at hB
  exact kk r u H1 locs1 hw (zjP hP hD hC ((hkey u).trans hks.symm) hk1 hB.1) hS1
theorem zz_niOQ {post : Int32 → S → Prop} (hO : zO s) (hM : Met l y wsY rm (va_Pc (.ref b :: As) (zPreO D cs cx H.size)) (va_Qi post (fun (u : S) (t : State) => va_P D classes (w1 u) t.heap ∧ va_D (va_A cx H.size) (w1 u)) (va_A cx H.size)) mc ms (va_A cx H.size))
    (S0 : CallFix p m c cc nL s args zW own) (cw : va_CN R s args own index y host bytes maxL ret wsY rm mc ms n ∧ (Cond.instanceMethod y).before args s = true ∧ (Cond.selects C y y).before args s = true) (hrv : ∃ cellB : Cell, H[b]? = some cellB ∧ cellB.vm.isStatics = false ∧ s.vm.findClass C = some cellB.cls)
    (hP : va_P D classes (X ++ PL) H) (hD : va_D A (X ++ PL)) (hS : va_S A s.heap H locs) (hK : va_K D classes (zT cs) s) (hA : ∀ q : Nat, s.heap.size ≤ q → A q) (isC : List Nat) (hC0 : isC.map (zgt X) = cx.map some) (hnC : va_nd isC = true) (ks : List Nat) (hks : cx.map Prod.fst = ks) (hkey : ∀ u : S, (w1 u).map Prod.fst = ks)
    (hlen : As.length = n) (hsize : ls.size = nL) (hW : (rest.map fun v => v.category).sum ≤ 8) (hdg : decode cc pc = .ok (.invokevirtual index, 3)) (hf : cells + mc ≤ R.cells ∧ slots + ms ≤ R.slots)
    (kk : ∀ (r : Int32) (u : S) (H1 : Heap) (locs1 : List Loc), post r u → va_P D classes (zset isC X (w1 u) ++ PL) H1 → va_S A s.heap H1 locs1 → W p l e R s m args below meth c H1 locs1 (cells + mc) (slots + ms) Q (F0 m (pc + 3) ls (.int r :: rest))) :
    W p l e R s m args below meth c H locs cells slots Q (F0 m pc ls (As.reverse ++ .ref b :: rest)) := by
  have hC := zmp hC0
  have hPc : va_P D classes cx H := (zP_l hP).sub isC (zk_fm hC)
  have hDc : va_D A cx := (zD_l hD).sub isC hnC hC
  have hFc := va_free (zD_l hD) hS hA isC hC
  refine va_calli (va_runVN (As := As) (rest := rest) S0 hM cw ⟨zPreO_blind, hrv, fun U hU hW => ⟨rfl, ⟨by rw [hU], by rw [hU]; exact hPc, va_K.moved hW.alike hK, hDc.weaken (fun _ _ _ _ => trivial)⟩, zO.warm hW hO⟩⟩ rfl hlen hsize rfl (lv_room hW) hdg hf) hS (fun q _ h => hFc q h) hFc (fun r u t H1 locs1 ht hvm hw hB hz1 hk1 hS1 => ?_)
  have hB : va_P D classes (w1 u) t.heap ∧ va_D (va_A cx H.size) (w1 u) := hB
  rw [ht] at hB
  exact kk r u H1 locs1 hw (zjQ hP hD hC ((hkey u).trans hks.symm) hk1 hB.1) hS1
theorem zz_nlP {post : Int64 → S → Prop} (hM : Met l y wsY rm (va_Pc (.ref b :: As) (zPre D cs (cx ++ PL) H.size)) (va_Ql post (fun (u : S) (t : State) => va_P D classes (w1 u ++ PL) t.heap ∧ va_D (va_A (cx ++ PL) H.size) (w1 u ++ PL)) (va_A (cx ++ PL) H.size)) mc ms (va_A (cx ++ PL) H.size))
    (S0 : CallFix p m c cc nL s args zW own) (cw : va_CN R s args own index y host bytes maxL ret wsY rm mc ms n ∧ (Cond.instanceMethod y).before args s = true ∧ (Cond.selects C y y).before args s = true) (hrv : ∃ cellB : Cell, H[b]? = some cellB ∧ cellB.vm.isStatics = false ∧ s.vm.findClass C = some cellB.cls)
    (hP : va_P D classes (X ++ PL) H) (hD : va_D A (X ++ PL)) (hS : va_S A s.heap H locs) (hK : va_K D classes (zT cs) s) (hA : ∀ q : Nat, s.heap.size ≤ q → A q) (isC : List Nat) (hC0 : isC.map (zgt X) = cx.map some) (hnC : va_nd isC = true) (ks : List Nat) (hks : cx.map Prod.fst = ks) (hkey : ∀ u : S, (w1 u).map Prod.fst = ks)
    (hlen : As.length = n) (hsize : ls.size = nL) (hW : (rest.map fun v => v.category).sum ≤ 8) (hdg : decode cc pc = .ok (.invokevirtual index, 3)) (hf : cells + mc ≤ R.cells ∧ slots + ms ≤ R.slots)
    (kk : ∀ (r : Int64) (u : S) (H1 : Heap) (locs1 : List Loc), post r u → va_P D classes (zset isC X (w1 u) ++ PL) H1 → va_S A s.heap H1 locs1 → W p l e R s m args below meth c H1 locs1 (cells + mc) (slots + ms) Q (F0 m (pc + 3) ls (.long r :: rest))) :
    W p l e R s m args below meth c H locs cells slots Q (F0 m pc ls (As.reverse ++ .ref b :: rest)) := by
  have hC := zmp hC0
  have hPc : va_P D classes (cx ++ PL) H := hP.part isC hC
  have hDc : va_D A (cx ++ PL) := hD.part isC hnC hC
  have hFc := va_freeP hD hS hA isC hC
  refine va_calll (va_runVN (As := As) (rest := rest) S0 hM cw ⟨zPre_blind, hrv, fun U hU hW => ⟨rfl, ⟨by rw [hU], by rw [hU]; exact hPc, va_K.moved hW.alike hK, hDc.weaken (fun _ _ _ _ => trivial)⟩⟩⟩ rfl hlen hsize rfl (lv_room hW) hdg hf) hS (fun q _ h => hFc q h) hFc (fun r u t H1 locs1 ht hvm hw hB hz1 hk1 hS1 => ?_)
  have hB : va_P D classes (w1 u ++ PL) t.heap ∧ va_D (va_A (cx ++ PL) H.size) (w1 u ++ PL) := hB
  rw [ht] at hB
  exact kk r u H1 locs1 hw (zjP hP hD hC ((hkey u).trans hks.symm) hk1 hB.1) hS1
theorem zz_nlQ {post : Int64 → S → Prop} (hM : Met l y wsY rm (va_Pc (.ref b :: As) (zPre D cs cx H.size)) (va_Ql post (fun (u : S) (t : State) => va_P D classes (w1 u) t.heap ∧ va_D (va_A cx H.size) (w1 u)) (va_A cx H.size)) mc ms (va_A cx H.size))
    (S0 : CallFix p m c cc nL s args zW own) (cw : va_CN R s args own index y host bytes maxL ret wsY rm mc ms n ∧ (Cond.instanceMethod y).before args s = true ∧ (Cond.selects C y y).before args s = true) (hrv : ∃ cellB : Cell, H[b]? = some cellB ∧ cellB.vm.isStatics = false ∧ s.vm.findClass C = some cellB.cls)
    (hP : va_P D classes (X ++ PL) H) (hD : va_D A (X ++ PL)) (hS : va_S A s.heap H locs) (hK : va_K D classes (zT cs) s) (hA : ∀ q : Nat, s.heap.size ≤ q → A q) (isC : List Nat) (hC0 : isC.map (zgt X) = cx.map some) (hnC : va_nd isC = true) (ks : List Nat) (hks : cx.map Prod.fst = ks) (hkey : ∀ u : S, (w1 u).map Prod.fst = ks)
    (hlen : As.length = n) (hsize : ls.size = nL) (hW : (rest.map fun v => v.category).sum ≤ 8) (hdg : decode cc pc = .ok (.invokevirtual index, 3)) (hf : cells + mc ≤ R.cells ∧ slots + ms ≤ R.slots)
    (kk : ∀ (r : Int64) (u : S) (H1 : Heap) (locs1 : List Loc), post r u → va_P D classes (zset isC X (w1 u) ++ PL) H1 → va_S A s.heap H1 locs1 → W p l e R s m args below meth c H1 locs1 (cells + mc) (slots + ms) Q (F0 m (pc + 3) ls (.long r :: rest))) :
    W p l e R s m args below meth c H locs cells slots Q (F0 m pc ls (As.reverse ++ .ref b :: rest)) := by
  have hC := zmp hC0
  have hPc : va_P D classes cx H := (zP_l hP).sub isC (zk_fm hC)
  have hDc : va_D A cx := (zD_l hD).sub isC hnC hC
  have hFc := va_free (zD_l hD) hS hA isC hC
  refine va_calll (va_runVN (As := As) (rest := rest) S0 hM cw ⟨zPre_blind, hrv, fun U hU hW => ⟨rfl, ⟨by rw [hU], by rw [hU]; exact hPc, va_K.moved hW.alike hK, hDc.weaken (fun _ _ _ _ => trivial)⟩⟩⟩ rfl hlen hsize rfl (lv_room hW) hdg hf) hS (fun q _ h => hFc q h) hFc (fun r u t H1 locs1 ht hvm hw hB hz1 hk1 hS1 => ?_)
  have hB : va_P D classes (w1 u) t.heap ∧ va_D (va_A cx H.size) (w1 u) := hB
  rw [ht] at hB
  exact kk r u H1 locs1 hw (zjQ hP hD hC ((hkey u).trans hks.symm) hk1 hB.1) hS1
theorem zz_nlOP {post : Int64 → S → Prop} (hO : zO s) (hM : Met l y wsY rm (va_Pc (.ref b :: As) (zPreO D cs (cx ++ PL) H.size)) (va_Ql post (fun (u : S) (t : State) => va_P D classes (w1 u ++ PL) t.heap ∧ va_D (va_A (cx ++ PL) H.size) (w1 u ++ PL)) (va_A (cx ++ PL) H.size)) mc ms (va_A (cx ++ PL) H.size))
    (S0 : CallFix p m c cc nL s args zW own) (cw : va_CN R s args own index y host bytes maxL ret wsY rm mc ms n ∧ (Cond.instanceMethod y).before args s = true ∧ (Cond.selects C y y).before args s = true) (hrv : ∃ cellB : Cell, H[b]? = some cellB ∧ cellB.vm.isStatics = false ∧ s.vm.findClass C = some cellB.cls)
    (hP : va_P D classes (X ++ PL) H) (hD : va_D A (X ++ PL)) (hS : va_S A s.heap H locs) (hK : va_K D classes (zT cs) s) (hA : ∀ q : Nat, s.heap.size ≤ q → A q) (isC : List Nat) (hC0 : isC.map (zgt X) = cx.map some) (hnC : va_nd isC = true) (ks : List Nat) (hks : cx.map Prod.fst = ks) (hkey : ∀ u : S, (w1 u).map Prod.fst = ks)
    (hlen : As.length = n) (hsize : ls.size = nL) (hW : (rest.map fun v => v.category).sum ≤ 8) (hdg : decode cc pc = .ok (.invokevirtual index, 3)) (hf : cells + mc ≤ R.cells ∧ slots + ms ≤ R.slots)
    (kk : ∀ (r : Int64) (u : S) (H1 : Heap) (locs1 : List Loc), post r u → va_P D classes (zset isC X (w1 u) ++ PL) H1 → va_S A s.heap H1 locs1 → W p l e R s m args below meth c H1 locs1 (cells + mc) (slots + ms) Q (F0 m (pc + 3) ls (.long r :: rest))) :
    W p l e R s m args below meth c H locs cells slots Q (F0 m pc ls (As.reverse ++ .ref b :: rest)) := by
  have hC := zmp hC0
  have hPc : va_P D classes (cx ++ PL) H := hP.part isC hC
  have hDc : va_D A (cx ++ PL) := hD.part isC hnC hC
  have hFc := va_freeP hD hS hA isC hC
  refine va_calll (va_runVN (As := As) (rest := rest) S0 hM cw ⟨zPreO_blind, hrv, fun U hU hW => ⟨rfl, ⟨by rw [hU], by rw [hU]; exact hPc, va_K.moved hW.alike hK, hDc.weaken (fun _ _ _ _ => trivial)⟩, zO.warm hW hO⟩⟩ rfl hlen hsize rfl (lv_room hW) hdg hf) hS (fun q _ h => hFc q h) hFc (fun r u t H1 locs1 ht hvm hw hB hz1 hk1 hS1 => ?_)
  have hB : va_P D classes (w1 u ++ PL) t.heap ∧ va_D (va_A (cx ++ PL) H.size) (w1 u ++ PL) := hB
  rw [ht] at hB
  exact kk r u H1 locs1 hw (zjP hP hD hC ((hkey u).trans hks.symm) hk1 hB.1) hS1
theorem zz_nlOQ {post : Int64 → S → Prop} (hO : zO s) (hM : Met l y wsY rm (va_Pc (.ref b :: As) (zPreO D cs cx H.size)) (va_Ql post (fun (u : S) (t : State) => va_P D classes (w1 u) t.heap ∧ va_D (va_A cx H.size) (w1 u)) (va_A cx H.size)) mc ms (va_A cx H.size))
    (S0 : CallFix p m c cc nL s args zW own) (cw : va_CN R s args own index y host bytes maxL ret wsY rm mc ms n ∧ (Cond.instanceMethod y).before args s = true ∧ (Cond.selects C y y).before args s = true) (hrv : ∃ cellB : Cell, H[b]? = some cellB ∧ cellB.vm.isStatics = false ∧ s.vm.findClass C = some cellB.cls)
    (hP : va_P D classes (X ++ PL) H) (hD : va_D A (X ++ PL)) (hS : va_S A s.heap H locs) (hK : va_K D classes (zT cs) s) (hA : ∀ q : Nat, s.heap.size ≤ q → A q) (isC : List Nat) (hC0 : isC.map (zgt X) = cx.map some) (hnC : va_nd isC = true) (ks : List Nat) (hks : cx.map Prod.fst = ks) (hkey : ∀ u : S, (w1 u).map Prod.fst = ks)
    (hlen : As.length = n) (hsize : ls.size = nL) (hW : (rest.map fun v => v.category).sum ≤ 8) (hdg : decode cc pc = .ok (.invokevirtual index, 3)) (hf : cells + mc ≤ R.cells ∧ slots + ms ≤ R.slots)
    (kk : ∀ (r : Int64) (u : S) (H1 : Heap) (locs1 : List Loc), post r u → va_P D classes (zset isC X (w1 u) ++ PL) H1 → va_S A s.heap H1 locs1 → W p l e R s m args below meth c H1 locs1 (cells + mc) (slots + ms) Q (F0 m (pc + 3) ls (.long r :: rest))) :
    W p l e R s m args below meth c H locs cells slots Q (F0 m pc ls (As.reverse ++ .ref b :: rest)) := by
  have hC := zmp hC0
  have hPc : va_P D classes cx H := (zP_l hP).sub isC (zk_fm hC)
  have hDc : va_D A cx := (zD_l hD).sub isC hnC hC
  have hFc := va_free (zD_l hD) hS hA isC hC
  refine va_calll (va_runVN (As := As) (rest := rest) S0 hM cw ⟨zPreO_blind, hrv, fun U hU hW => ⟨rfl, ⟨by rw [hU], by rw [hU]; exact hPc, va_K.moved hW.alike hK, hDc.weaken (fun _ _ _ _ => trivial)⟩, zO.warm hW hO⟩⟩ rfl hlen hsize rfl (lv_room hW) hdg hf) hS (fun q _ h => hFc q h) hFc (fun r u t H1 locs1 ht hvm hw hB hz1 hk1 hS1 => ?_)
  have hB : va_P D classes (w1 u) t.heap ∧ va_D (va_A cx H.size) (w1 u) := hB
  rw [ht] at hB
  exact kk r u H1 locs1 hw (zjQ hP hD hC ((hkey u).trans hks.symm) hk1 hB.1) hS1
theorem zz_nvP {post : S → Prop} (hM : Met l y wsY rm (va_Pc (.ref b :: As) (zPre D cs (cx ++ PL) H.size)) (va_Qv post (fun (u : S) (t : State) => va_P D classes (w1 u ++ PL) t.heap ∧ va_D (va_A (cx ++ PL) H.size) (w1 u ++ PL)) (va_A (cx ++ PL) H.size)) mc ms (va_A (cx ++ PL) H.size))
    (S0 : CallFix p m c cc nL s args zW own) (cw : va_CN R s args own index y host bytes maxL ret wsY rm mc ms n ∧ (Cond.instanceMethod y).before args s = true ∧ (Cond.selects C y y).before args s = true) (hrv : ∃ cellB : Cell, H[b]? = some cellB ∧ cellB.vm.isStatics = false ∧ s.vm.findClass C = some cellB.cls)
    (hP : va_P D classes (X ++ PL) H) (hD : va_D A (X ++ PL)) (hS : va_S A s.heap H locs) (hK : va_K D classes (zT cs) s) (hA : ∀ q : Nat, s.heap.size ≤ q → A q) (isC : List Nat) (hC0 : isC.map (zgt X) = cx.map some) (hnC : va_nd isC = true) (ks : List Nat) (hks : cx.map Prod.fst = ks) (hkey : ∀ u : S, (w1 u).map Prod.fst = ks)
    (hlen : As.length = n) (hsize : ls.size = nL) (hW : (rest.map fun v => v.category).sum ≤ 8) (hdg : decode cc pc = .ok (.invokevirtual index, 3)) (hf : cells + mc ≤ R.cells ∧ slots + ms ≤ R.slots)
    (kk : ∀ (u : S) (H1 : Heap) (locs1 : List Loc), post u → va_P D classes (zset isC X (w1 u) ++ PL) H1 → va_S A s.heap H1 locs1 → W p l e R s m args below meth c H1 locs1 (cells + mc) (slots + ms) Q (F0 m (pc + 3) ls (rest))) :
    W p l e R s m args below meth c H locs cells slots Q (F0 m pc ls (As.reverse ++ .ref b :: rest)) := by
  have hC := zmp hC0
  have hPc : va_P D classes (cx ++ PL) H := hP.part isC hC
  have hDc : va_D A (cx ++ PL) := hD.part isC hnC hC
  have hFc := va_freeP hD hS hA isC hC
  refine va_callv (va_runVN (As := As) (rest := rest) S0 hM cw ⟨zPre_blind, hrv, fun U hU hW => ⟨rfl, ⟨by rw [hU], by rw [hU]; exact hPc, va_K.moved hW.alike hK, hDc.weaken (fun _ _ _ _ => trivial)⟩⟩⟩ rfl hlen hsize rfl (lv_room hW) hdg hf) hS (fun q _ h => hFc q h) hFc (fun u t H1 locs1 ht hvm hw hB hz1 hk1 hS1 => ?_)
  have hB : va_P D classes (w1 u ++ PL) t.heap ∧ va_D (va_A (cx ++ PL) H.size) (w1 u ++ PL) := hB
  rw [ht] at hB
  exact kk u H1 locs1 hw (zjP hP hD hC ((hkey u).trans hks.symm) hk1 hB.1) hS1
theorem zz_nvQ {post : S → Prop} (hM : Met l y wsY rm (va_Pc (.ref b :: As) (zPre D cs cx H.size)) (va_Qv post (fun (u : S) (t : State) => va_P D classes (w1 u) t.heap ∧ va_D (va_A cx H.size) (w1 u)) (va_A cx H.size)) mc ms (va_A cx H.size))
    (S0 : CallFix p m c cc nL s args zW own) (cw : va_CN R s args own index y host bytes maxL ret wsY rm mc ms n ∧ (Cond.instanceMethod y).before args s = true ∧ (Cond.selects C y y).before args s = true) (hrv : ∃ cellB : Cell, H[b]? = some cellB ∧ cellB.vm.isStatics = false ∧ s.vm.findClass C = some cellB.cls)
    (hP : va_P D classes (X ++ PL) H) (hD : va_D A (X ++ PL)) (hS : va_S A s.heap H locs) (hK : va_K D classes (zT cs) s) (hA : ∀ q : Nat, s.heap.size ≤ q → A q) (isC : List Nat) (hC0 : isC.map (zgt X) = cx.map some) (hnC : va_nd isC = true) (ks : List Nat) (hks : cx.map Prod.fst = ks) (hkey : ∀ u : S, (w1 u).map Prod.fst = ks)
    (hlen : As.length = n) (hsize : ls.size = nL) (hW : (rest.map fun v => v.category).sum ≤ 8) (hdg : decode cc pc = .ok (.invokevirtual index, 3)) (hf : cells + mc ≤ R.cells ∧ slots + ms ≤ R.slots)
    (kk : ∀ (u : S) (H1 : Heap) (locs1 : List Loc), post u → va_P D classes (zset isC X (w1 u) ++ PL) H1 → va_S A s.heap H1 locs1 → W p l e R s m args below meth c H1 locs1 (cells + mc) (slots + ms) Q (F0 m (pc + 3) ls (rest))) :
    W p l e R s m args below meth c H locs cells slots Q (F0 m pc ls (As.reverse ++ .ref b :: rest)) := by
  have hC := zmp hC0
  have hPc : va_P D classes cx H := (zP_l hP).sub isC (zk_fm hC)
  have hDc : va_D A cx := (zD_l hD).sub isC hnC hC
  have hFc := va_free (zD_l hD) hS hA isC hC
  refine va_callv (va_runVN (As := As) (rest := rest) S0 hM cw ⟨zPre_blind, hrv, fun U hU hW => ⟨rfl, ⟨by rw [hU], by rw [hU]; exact hPc, va_K.moved hW.alike hK, hDc.weaken (fun _ _ _ _ => trivial)⟩⟩⟩ rfl hlen hsize rfl (lv_room hW) hdg hf) hS (fun q _ h => hFc q h) hFc (fun u t H1 locs1 ht hvm hw hB hz1 hk1 hS1 => ?_)
  have hB : va_P D classes (w1 u) t.heap ∧ va_D (va_A cx H.size) (w1 u) := hB
  rw [ht] at hB
  exact kk u H1 locs1 hw (zjQ hP hD hC ((hkey u).trans hks.symm) hk1 hB.1) hS1
theorem zz_nvOP {post : S → Prop} (hO : zO s) (hM : Met l y wsY rm (va_Pc (.ref b :: As) (zPreO D cs (cx ++ PL) H.size)) (va_Qv post (fun (u : S) (t : State) => va_P D classes (w1 u ++ PL) t.heap ∧ va_D (va_A (cx ++ PL) H.size) (w1 u ++ PL)) (va_A (cx ++ PL) H.size)) mc ms (va_A (cx ++ PL) H.size))
    (S0 : CallFix p m c cc nL s args zW own) (cw : va_CN R s args own index y host bytes maxL ret wsY rm mc ms n ∧ (Cond.instanceMethod y).before args s = true ∧ (Cond.selects C y y).before args s = true) (hrv : ∃ cellB : Cell, H[b]? = some cellB ∧ cellB.vm.isStatics = false ∧ s.vm.findClass C = some cellB.cls)
    (hP : va_P D classes (X ++ PL) H) (hD : va_D A (X ++ PL)) (hS : va_S A s.heap H locs) (hK : va_K D classes (zT cs) s) (hA : ∀ q : Nat, s.heap.size ≤ q → A q) (isC : List Nat) (hC0 : isC.map (zgt X) = cx.map some) (hnC : va_nd isC = true) (ks : List Nat) (hks : cx.map Prod.fst = ks) (hkey : ∀ u : S, (w1 u).map Prod.fst = ks)
    (hlen : As.length = n) (hsize : ls.size = nL) (hW : (rest.map fun v => v.category).sum ≤ 8) (hdg : decode cc pc = .ok (.invokevirtual index, 3)) (hf : cells + mc ≤ R.cells ∧ slots + ms ≤ R.slots)
    (kk : ∀ (u : S) (H1 : Heap) (locs1 : List Loc), post u → va_P D classes (zset isC X (w1 u) ++ PL) H1 → va_S A s.heap H1 locs1 → W p l e R s m args below meth c H1 locs1 (cells + mc) (slots + ms) Q (F0 m (pc + 3) ls (rest))) :
    W p l e R s m args below meth c H locs cells slots Q (F0 m pc ls (As.reverse ++ .ref b :: rest)) := by
  have hC := zmp hC0
  have hPc : va_P D classes (cx ++ PL) H := hP.part isC hC
  have hDc : va_D A (cx ++ PL) := hD.part isC hnC hC
  have hFc := va_freeP hD hS hA isC hC
  refine va_callv (va_runVN (As := As) (rest := rest) S0 hM cw ⟨zPreO_blind, hrv, fun U hU hW => ⟨rfl, ⟨by rw [hU], by rw [hU]; exact hPc, va_K.moved hW.alike hK, hDc.weaken (fun _ _ _ _ => trivial)⟩, zO.warm hW hO⟩⟩ rfl hlen hsize rfl (lv_room hW) hdg hf) hS (fun q _ h => hFc q h) hFc (fun u t H1 locs1 ht hvm hw hB hz1 hk1 hS1 => ?_)
  have hB : va_P D classes (w1 u ++ PL) t.heap ∧ va_D (va_A (cx ++ PL) H.size) (w1 u ++ PL) := hB
  rw [ht] at hB
  exact kk u H1 locs1 hw (zjP hP hD hC ((hkey u).trans hks.symm) hk1 hB.1) hS1
theorem zz_nvOQ {post : S → Prop} (hO : zO s) (hM : Met l y wsY rm (va_Pc (.ref b :: As) (zPreO D cs cx H.size)) (va_Qv post (fun (u : S) (t : State) => va_P D classes (w1 u) t.heap ∧ va_D (va_A cx H.size) (w1 u)) (va_A cx H.size)) mc ms (va_A cx H.size))
    (S0 : CallFix p m c cc nL s args zW own) (cw : va_CN R s args own index y host bytes maxL ret wsY rm mc ms n ∧ (Cond.instanceMethod y).before args s = true ∧ (Cond.selects C y y).before args s = true) (hrv : ∃ cellB : Cell, H[b]? = some cellB ∧ cellB.vm.isStatics = false ∧ s.vm.findClass C = some cellB.cls)
    (hP : va_P D classes (X ++ PL) H) (hD : va_D A (X ++ PL)) (hS : va_S A s.heap H locs) (hK : va_K D classes (zT cs) s) (hA : ∀ q : Nat, s.heap.size ≤ q → A q) (isC : List Nat) (hC0 : isC.map (zgt X) = cx.map some) (hnC : va_nd isC = true) (ks : List Nat) (hks : cx.map Prod.fst = ks) (hkey : ∀ u : S, (w1 u).map Prod.fst = ks)
    (hlen : As.length = n) (hsize : ls.size = nL) (hW : (rest.map fun v => v.category).sum ≤ 8) (hdg : decode cc pc = .ok (.invokevirtual index, 3)) (hf : cells + mc ≤ R.cells ∧ slots + ms ≤ R.slots)
    (kk : ∀ (u : S) (H1 : Heap) (locs1 : List Loc), post u → va_P D classes (zset isC X (w1 u) ++ PL) H1 → va_S A s.heap H1 locs1 → W p l e R s m args below meth c H1 locs1 (cells + mc) (slots + ms) Q (F0 m (pc + 3) ls (rest))) :
    W p l e R s m args below meth c H locs cells slots Q (F0 m pc ls (As.reverse ++ .ref b :: rest)) := by
  have hC := zmp hC0
  have hPc : va_P D classes cx H := (zP_l hP).sub isC (zk_fm hC)
  have hDc : va_D A cx := (zD_l hD).sub isC hnC hC
  have hFc := va_free (zD_l hD) hS hA isC hC
  refine va_callv (va_runVN (As := As) (rest := rest) S0 hM cw ⟨zPreO_blind, hrv, fun U hU hW => ⟨rfl, ⟨by rw [hU], by rw [hU]; exact hPc, va_K.moved hW.alike hK, hDc.weaken (fun _ _ _ _ => trivial)⟩, zO.warm hW hO⟩⟩ rfl hlen hsize rfl (lv_room hW) hdg hf) hS (fun q _ h => hFc q h) hFc (fun u t H1 locs1 ht hvm hw hB hz1 hk1 hS1 => ?_)
  have hB : va_P D classes (w1 u) t.heap ∧ va_D (va_A cx H.size) (w1 u) := hB
  rw [ht] at hB
  exact kk u H1 locs1 hw (zjQ hP hD hC ((hkey u).trans hks.symm) hk1 hB.1) hS1
theorem zz_nqP {post : Option Nat → S → Prop} (hM : Met l y wsY rm (va_Pc (.ref b :: As) (zPre D cs (cx ++ PL) H.size)) (va_Qq post (fun (u : S) (t : State) => va_P D classes (w1 u ++ PL) t.heap ∧ va_D (va_A (cx ++ PL) H.size) (w1 u ++ PL)) (va_A (cx ++ PL) H.size)) mc ms (va_A (cx ++ PL) H.size))
    (S0 : CallFix p m c cc nL s args zW own) (cw : va_CN R s args own index y host bytes maxL ret wsY rm mc ms n ∧ (Cond.instanceMethod y).before args s = true ∧ (Cond.selects C y y).before args s = true) (hrv : ∃ cellB : Cell, H[b]? = some cellB ∧ cellB.vm.isStatics = false ∧ s.vm.findClass C = some cellB.cls)
    (hP : va_P D classes (X ++ PL) H) (hD : va_D A (X ++ PL)) (hS : va_S A s.heap H locs) (hK : va_K D classes (zT cs) s) (hA : ∀ q : Nat, s.heap.size ≤ q → A q) (isC : List Nat) (hC0 : isC.map (zgt X) = cx.map some) (hnC : va_nd isC = true) (ks : List Nat) (hks : cx.map Prod.fst = ks) (hkey : ∀ u : S, (w1 u).map Prod.fst = ks)
    (hlen : As.length = n) (hsize : ls.size = nL) (hW : (rest.map fun v => v.category).sum ≤ 8) (hdg : decode cc pc = .ok (.invokevirtual index, 3)) (hf : cells + mc ≤ R.cells ∧ slots + ms ≤ R.slots)
    (kk : ∀ (r : Option Nat) (u : S) (H1 : Heap) (locs1 : List Loc), post r u → va_P D classes (zset isC X (w1 u) ++ PL) H1 → va_S A s.heap H1 locs1 → W p l e R s m args below meth c H1 locs1 (cells + mc) (slots + ms) Q (F0 m (pc + 3) ls (va_rf r :: rest))) :
    W p l e R s m args below meth c H locs cells slots Q (F0 m pc ls (As.reverse ++ .ref b :: rest)) := by
  have hC := zmp hC0
  have hPc : va_P D classes (cx ++ PL) H := hP.part isC hC
  have hDc : va_D A (cx ++ PL) := hD.part isC hnC hC
  have hFc := va_freeP hD hS hA isC hC
  refine va_callq (va_runVN (As := As) (rest := rest) S0 hM cw ⟨zPre_blind, hrv, fun U hU hW => ⟨rfl, ⟨by rw [hU], by rw [hU]; exact hPc, va_K.moved hW.alike hK, hDc.weaken (fun _ _ _ _ => trivial)⟩⟩⟩ rfl hlen hsize rfl (lv_room hW) hdg hf) hS (fun q _ h => hFc q h) hFc (fun r u t H1 locs1 ht hvm hw hB hz1 hk1 hS1 => ?_)
  have hB : va_P D classes (w1 u ++ PL) t.heap ∧ va_D (va_A (cx ++ PL) H.size) (w1 u ++ PL) := hB
  rw [ht] at hB
  exact kk r u H1 locs1 hw (zjP hP hD hC ((hkey u).trans hks.symm) hk1 hB.1) hS1
theorem zz_nqQ {post : Option Nat → S → Prop} (hM : Met l y wsY rm (va_Pc (.ref b :: As) (zPre D cs cx H.size)) (va_Qq post (fun (u : S) (t : State) => va_P D classes (w1 u) t.heap ∧ va_D (va_A cx H.size) (w1 u)) (va_A cx H.size)) mc ms (va_A cx H.size))
    (S0 : CallFix p m c cc nL s args zW own) (cw : va_CN R s args own index y host bytes maxL ret wsY rm mc ms n ∧ (Cond.instanceMethod y).before args s = true ∧ (Cond.selects C y y).before args s = true) (hrv : ∃ cellB : Cell, H[b]? = some cellB ∧ cellB.vm.isStatics = false ∧ s.vm.findClass C = some cellB.cls)
    (hP : va_P D classes (X ++ PL) H) (hD : va_D A (X ++ PL)) (hS : va_S A s.heap H locs) (hK : va_K D classes (zT cs) s) (hA : ∀ q : Nat, s.heap.size ≤ q → A q) (isC : List Nat) (hC0 : isC.map (zgt X) = cx.map some) (hnC : va_nd isC = true) (ks : List Nat) (hks : cx.map Prod.fst = ks) (hkey : ∀ u : S, (w1 u).map Prod.fst = ks)
    (hlen : As.length = n) (hsize : ls.size = nL) (hW : (rest.map fun v => v.category).sum ≤ 8) (hdg : decode cc pc = .ok (.invokevirtual index, 3)) (hf : cells + mc ≤ R.cells ∧ slots + ms ≤ R.slots)
    (kk : ∀ (r : Option Nat) (u : S) (H1 : Heap) (locs1 : List Loc), post r u → va_P D classes (zset isC X (w1 u) ++ PL) H1 → va_S A s.heap H1 locs1 → W p l e R s m args below meth c H1 locs1 (cells + mc) (slots + ms) Q (F0 m (pc + 3) ls (va_rf r :: rest))) :
    W p l e R s m args below meth c H locs cells slots Q (F0 m pc ls (As.reverse ++ .ref b :: rest)) := by
  have hC := zmp hC0
  have hPc : va_P D classes cx H := (zP_l hP).sub isC (zk_fm hC)
  have hDc : va_D A cx := (zD_l hD).sub isC hnC hC
  have hFc := va_free (zD_l hD) hS hA isC hC
  refine va_callq (va_runVN (As := As) (rest := rest) S0 hM cw ⟨zPre_blind, hrv, fun U hU hW => ⟨rfl, ⟨by rw [hU], by rw [hU]; exact hPc, va_K.moved hW.alike hK, hDc.weaken (fun _ _ _ _ => trivial)⟩⟩⟩ rfl hlen hsize rfl (lv_room hW) hdg hf) hS (fun q _ h => hFc q h) hFc (fun r u t H1 locs1 ht hvm hw hB hz1 hk1 hS1 => ?_)
  have hB : va_P D classes (w1 u) t.heap ∧ va_D (va_A cx H.size) (w1 u) := hB
  rw [ht] at hB
  exact kk r u H1 locs1 hw (zjQ hP hD hC ((hkey u).trans hks.symm) hk1 hB.1) hS1
theorem zz_nqOP {post : Option Nat → S → Prop} (hO : zO s) (hM : Met l y wsY rm (va_Pc (.ref b :: As) (zPreO D cs (cx ++ PL) H.size)) (va_Qq post (fun (u : S) (t : State) => va_P D classes (w1 u ++ PL) t.heap ∧ va_D (va_A (cx ++ PL) H.size) (w1 u ++ PL)) (va_A (cx ++ PL) H.size)) mc ms (va_A (cx ++ PL) H.size))
    (S0 : CallFix p m c cc nL s args zW own) (cw : va_CN R s args own index y host bytes maxL ret wsY rm mc ms n ∧ (Cond.instanceMethod y).before args s = true ∧ (Cond.selects C y y).before args s = true) (hrv : ∃ cellB : Cell, H[b]? = some cellB ∧ cellB.vm.isStatics = false ∧ s.vm.findClass C = some cellB.cls)
    (hP : va_P D classes (X ++ PL) H) (hD : va_D A (X ++ PL)) (hS : va_S A s.heap H locs) (hK : va_K D classes (zT cs) s) (hA : ∀ q : Nat, s.heap.size ≤ q → A q) (isC : List Nat) (hC0 : isC.map (zgt X) = cx.map some) (hnC : va_nd isC = true) (ks : List Nat) (hks : cx.map Prod.fst = ks) (hkey : ∀ u : S, (w1 u).map Prod.fst = ks)
    (hlen : As.length = n) (hsize : ls.size = nL) (hW : (rest.map fun v => v.category).sum ≤ 8) (hdg : decode cc pc = .ok (.invokevirtual index, 3)) (hf : cells + mc ≤ R.cells ∧ slots + ms ≤ R.slots)
    (kk : ∀ (r : Option Nat) (u : S) (H1 : Heap) (locs1 : List Loc), post r u → va_P D classes (zset isC X (w1 u) ++ PL) H1 → va_S A s.heap H1 locs1 → W p l e R s m args below meth c H1 locs1 (cells + mc) (slots + ms) Q (F0 m (pc + 3) ls (va_rf r :: rest))) :
    W p l e R s m args below meth c H locs cells slots Q (F0 m pc ls (As.reverse ++ .ref b :: rest)) := by
  have hC := zmp hC0
  have hPc : va_P D classes (cx ++ PL) H := hP.part isC hC
  have hDc : va_D A (cx ++ PL) := hD.part isC hnC hC
  have hFc := va_freeP hD hS hA isC hC
  refine va_callq (va_runVN (As := As) (rest := rest) S0 hM cw ⟨zPreO_blind, hrv, fun U hU hW => ⟨rfl, ⟨by rw [hU], by rw [hU]; exact hPc, va_K.moved hW.alike hK, hDc.weaken (fun _ _ _ _ => trivial)⟩, zO.warm hW hO⟩⟩ rfl hlen hsize rfl (lv_room hW) hdg hf) hS (fun q _ h => hFc q h) hFc (fun r u t H1 locs1 ht hvm hw hB hz1 hk1 hS1 => ?_)
  have hB : va_P D classes (w1 u ++ PL) t.heap ∧ va_D (va_A (cx ++ PL) H.size) (w1 u ++ PL) := hB
  rw [ht] at hB
  exact kk r u H1 locs1 hw (zjP hP hD hC ((hkey u).trans hks.symm) hk1 hB.1) hS1
theorem zz_nqOQ {post : Option Nat → S → Prop} (hO : zO s) (hM : Met l y wsY rm (va_Pc (.ref b :: As) (zPreO D cs cx H.size)) (va_Qq post (fun (u : S) (t : State) => va_P D classes (w1 u) t.heap ∧ va_D (va_A cx H.size) (w1 u)) (va_A cx H.size)) mc ms (va_A cx H.size))
    (S0 : CallFix p m c cc nL s args zW own) (cw : va_CN R s args own index y host bytes maxL ret wsY rm mc ms n ∧ (Cond.instanceMethod y).before args s = true ∧ (Cond.selects C y y).before args s = true) (hrv : ∃ cellB : Cell, H[b]? = some cellB ∧ cellB.vm.isStatics = false ∧ s.vm.findClass C = some cellB.cls)
    (hP : va_P D classes (X ++ PL) H) (hD : va_D A (X ++ PL)) (hS : va_S A s.heap H locs) (hK : va_K D classes (zT cs) s) (hA : ∀ q : Nat, s.heap.size ≤ q → A q) (isC : List Nat) (hC0 : isC.map (zgt X) = cx.map some) (hnC : va_nd isC = true) (ks : List Nat) (hks : cx.map Prod.fst = ks) (hkey : ∀ u : S, (w1 u).map Prod.fst = ks)
    (hlen : As.length = n) (hsize : ls.size = nL) (hW : (rest.map fun v => v.category).sum ≤ 8) (hdg : decode cc pc = .ok (.invokevirtual index, 3)) (hf : cells + mc ≤ R.cells ∧ slots + ms ≤ R.slots)
    (kk : ∀ (r : Option Nat) (u : S) (H1 : Heap) (locs1 : List Loc), post r u → va_P D classes (zset isC X (w1 u) ++ PL) H1 → va_S A s.heap H1 locs1 → W p l e R s m args below meth c H1 locs1 (cells + mc) (slots + ms) Q (F0 m (pc + 3) ls (va_rf r :: rest))) :
    W p l e R s m args below meth c H locs cells slots Q (F0 m pc ls (As.reverse ++ .ref b :: rest)) := by
  have hC := zmp hC0
  have hPc : va_P D classes cx H := (zP_l hP).sub isC (zk_fm hC)
  have hDc : va_D A cx := (zD_l hD).sub isC hnC hC
  have hFc := va_free (zD_l hD) hS hA isC hC
  refine va_callq (va_runVN (As := As) (rest := rest) S0 hM cw ⟨zPreO_blind, hrv, fun U hU hW => ⟨rfl, ⟨by rw [hU], by rw [hU]; exact hPc, va_K.moved hW.alike hK, hDc.weaken (fun _ _ _ _ => trivial)⟩, zO.warm hW hO⟩⟩ rfl hlen hsize rfl (lv_room hW) hdg hf) hS (fun q _ h => hFc q h) hFc (fun r u t H1 locs1 ht hvm hw hB hz1 hk1 hS1 => ?_)
  have hB : va_P D classes (w1 u) t.heap ∧ va_D (va_A cx H.size) (w1 u) := hB
  rw [ht] at hB
  exact kk r u H1 locs1 hw (zjQ hP hD hC ((hkey u).trans hks.symm) hk1 hB.1) hS1
theorem zz_tiP {post : Int32 → S → Prop} (hM : Met l y wsY rm (va_Pc As (zPre D cs (cx ++ PL) H.size)) (va_Qi post (fun (u : S) (t : State) => va_P D classes (w1 u ++ PL) t.heap ∧ va_D (va_A (cx ++ PL) H.size) (w1 u ++ PL)) (va_A (cx ++ PL) H.size)) mc ms (va_A (cx ++ PL) H.size))
    (S0 : CallFix p m c cc nL s args zW own) (cw : va_CN R s args own index y host bytes maxL ret wsY rm mc ms n ∧ (Cond.static y).before args s = true ∧ True)
    (hP : va_P D classes (X ++ PL) H) (hD : va_D A (X ++ PL)) (hS : va_S A s.heap H locs) (hK : va_K D classes (zT cs) s) (hA : ∀ q : Nat, s.heap.size ≤ q → A q) (isC : List Nat) (hC0 : isC.map (zgt X) = cx.map some) (hnC : va_nd isC = true) (ks : List Nat) (hks : cx.map Prod.fst = ks) (hkey : ∀ u : S, (w1 u).map Prod.fst = ks)
    (hlen : As.length = n) (hsize : ls.size = nL) (hW : (rest.map fun v => v.category).sum ≤ 8) (hdg : decode cc pc = .ok (.invokestatic index, 3)) (hf : cells + mc ≤ R.cells ∧ slots + ms ≤ R.slots)
    (kk : ∀ (r : Int32) (u : S) (H1 : Heap) (locs1 : List Loc), post r u → va_P D classes (zset isC X (w1 u) ++ PL) H1 → va_S A s.heap H1 locs1 → W p l e R s m args below meth c H1 locs1 (cells + mc) (slots + ms) Q (F0 m (pc + 3) ls (.int r :: rest))) :
    W p l e R s m args below meth c H locs cells slots Q (F0 m pc ls (As.reverse ++ rest)) := by
  have hC := zmp hC0
  have hPc : va_P D classes (cx ++ PL) H := hP.part isC hC
  have hDc : va_D A (cx ++ PL) := hD.part isC hnC hC
  have hFc := va_freeP hD hS hA isC hC
  refine va_calli (va_runSN (As := As) (rest := rest) S0 hM cw ⟨zPre_blind, fun U hU hW => ⟨rfl, ⟨by rw [hU], by rw [hU]; exact hPc, va_K.moved hW.alike hK, hDc.weaken (fun _ _ _ _ => trivial)⟩⟩⟩ rfl hlen hsize rfl (lv_room hW) hdg hf) hS (fun q _ h => hFc q h) hFc (fun r u t H1 locs1 ht hvm hw hB hz1 hk1 hS1 => ?_)
  have hB : va_P D classes (w1 u ++ PL) t.heap ∧ va_D (va_A (cx ++ PL) H.size) (w1 u ++ PL) := hB
  rw [ht] at hB
  exact kk r u H1 locs1 hw (zjP hP hD hC ((hkey u).trans hks.symm) hk1 hB.1) hS1
theorem zz_tiQ {post : Int32 → S → Prop} (hM : Met l y wsY rm (va_Pc As (zPre D cs cx H.size)) (va_Qi post (fun (u : S) (t : State) => va_P D classes (w1 u) t.heap ∧ va_D (va_A cx H.size) (w1 u)) (va_A cx H.size)) mc ms (va_A cx H.size))
    (S0 : CallFix p m c cc nL s args zW own) (cw : va_CN R s args own index y host bytes maxL ret wsY rm mc ms n ∧ (Cond.static y).before args s = true ∧ True)
    (hP : va_P D classes (X ++ PL) H) (hD : va_D A (X ++ PL)) (hS : va_S A s.heap H locs) (hK : va_K D classes (zT cs) s) (hA : ∀ q : Nat, s.heap.size ≤ q → A q) (isC : List Nat) (hC0 : isC.map (zgt X) = cx.map some) (hnC : va_nd isC = true) (ks : List Nat) (hks : cx.map Prod.fst = ks) (hkey : ∀ u : S, (w1 u).map Prod.fst = ks)
    (hlen : As.length = n) (hsize : ls.size = nL) (hW : (rest.map fun v => v.category).sum ≤ 8) (hdg : decode cc pc = .ok (.invokestatic index, 3)) (hf : cells + mc ≤ R.cells ∧ slots + ms ≤ R.slots)
    (kk : ∀ (r : Int32) (u : S) (H1 : Heap) (locs1 : List Loc), post r u → va_P D classes (zset isC X (w1 u) ++ PL) H1 → va_S A s.heap H1 locs1 → W p l e R s m args below meth c H1 locs1 (cells + mc) (slots + ms) Q (F0 m (pc + 3) ls (.int r :: rest))) :
    W p l e R s m args below meth c H locs cells slots Q (F0 m pc ls (As.reverse ++ rest)) := by
  have hC := zmp hC0
  have hPc : va_P D classes cx H := (zP_l hP).sub isC (zk_fm hC)
  have hDc : va_D A cx := (zD_l hD).sub isC hnC hC
  have hFc := va_free (zD_l hD) hS hA isC hC
  refine va_calli (va_runSN (As := As) (rest := rest) S0 hM cw ⟨zPre_blind, fun U hU hW => ⟨rfl, ⟨by rw [hU], by rw [hU]; exact hPc, va_K.moved hW.alike hK, hDc.weaken (fun _ _ _ _ => trivial)⟩⟩⟩ rfl hlen hsize rfl (lv_room hW) hdg hf) hS (fun q _ h => hFc q h) hFc (fun r u t H1 locs1 ht hvm hw hB hz1 hk1 hS1 => ?_)
  have hB : va_P D classes (w1 u) t.heap ∧ va_D (va_A cx H.size) (w1 u) := hB
  rw [ht] at hB
  exact kk r u H1 locs1 hw (zjQ hP hD hC ((hkey u).trans hks.symm) hk1 hB.1) hS1
theorem zz_tiOP {post : Int32 → S → Prop} (hO : zO s) (hM : Met l y wsY rm (va_Pc As (zPreO D cs (cx ++ PL) H.size)) (va_Qi post (fun (u : S) (t : State) => va_P D classes (w1 u ++ PL) t.heap ∧ va_D (va_A (cx ++ PL) H.size) (w1 u ++ PL)) (va_A (cx ++ PL) H.size)) mc ms (va_A (cx ++ PL) H.size))
    (S0 : CallFix p m c cc nL s args zW own) (cw : va_CN R s args own index y host bytes maxL ret wsY rm mc ms n ∧ (Cond.static y).before args s = true ∧ True)
    (hP : va_P D classes (X ++ PL) H) (hD : va_D A (X ++ PL)) (hS : va_S A s.heap H locs) (hK : va_K D classes (zT cs) s) (hA : ∀ q : Nat, s.heap.size ≤ q → A q) (isC : List Nat) (hC0 : isC.map (zgt X) = cx.map some) (hnC : va_nd isC = true) (ks : List Nat) (hks : cx.map Prod.fst = ks) (hkey : ∀ u : S, (w1 u).map Prod.fst = ks)
    (hlen : As.length = n) (hsize : ls.size = nL) (hW : (rest.map fun v => v.category).sum ≤ 8) (hdg : decode cc pc = .ok (.invokestatic index, 3)) (hf : cells + mc ≤ R.cells ∧ slots + ms ≤ R.slots)
    (kk : ∀ (r : Int32) (u : S) (H1 : Heap) (locs1 : List Loc), post r u → va_P D classes (zset isC X (w1 u) ++ PL) H1 → va_S A s.heap H1 locs1 → W p l e R s m args below meth c H1 locs1 (cells + mc) (slots + ms) Q (F0 m (pc + 3) ls (.int r :: rest))) :
    W p l e R s m args below meth c H locs cells slots Q (F0 m pc ls (As.reverse ++ rest)) := by
  have hC := zmp hC0
  have hPc : va_P D classes (cx ++ PL) H := hP.part isC hC
  have hDc : va_D A (cx ++ PL) := hD.part isC hnC hC
  have hFc := va_freeP hD hS hA isC hC
  refine va_calli (va_runSN (As := As) (rest := rest) S0 hM cw ⟨zPreO_blind, fun U hU hW => ⟨rfl, ⟨by rw [hU], by rw [hU]; exact hPc, va_K.moved hW.alike hK, hDc.weaken (fun _ _ _ _ => trivial)⟩, zO.warm hW hO⟩⟩ rfl hlen hsize rfl (lv_room hW) hdg hf) hS (fun q _ h => hFc q h) hFc (fun r u t H1 locs1 ht hvm hw hB hz1 hk1 hS1 => ?_)
  have hB : va_P D classes (w1 u ++ PL) t.heap ∧ va_D (va_A (cx ++ PL) H.size) (w1 u ++ PL) := hB
  rw [ht] at hB
  exact kk r u H1 locs1 hw (zjP hP hD hC ((hkey u).trans hks.symm) hk1 hB.1) hS1
theorem zz_tiOQ {post : Int32 → S → Prop} (hO : zO s) (hM : Met l y wsY rm (va_Pc As (zPreO D cs cx H.size)) (va_Qi post (fun (u : S) (t : State) => va_P D classes (w1 u) t.heap ∧ va_D (va_A cx H.size) (w1 u)) (va_A cx H.size)) mc ms (va_A cx H.size))
    (S0 : CallFix p m c cc nL s args zW own) (cw : va_CN R s args own index y host bytes maxL ret wsY rm mc ms n ∧ (Cond.static y).before args s = true ∧ True)
    (hP : va_P D classes (X ++ PL) H) (hD : va_D A (X ++ PL)) (hS : va_S A s.heap H locs) (hK : va_K D classes (zT cs) s) (hA : ∀ q : Nat, s.heap.size ≤ q → A q) (isC : List Nat) (hC0 : isC.map (zgt X) = cx.map some) (hnC : va_nd isC = true) (ks : List Nat) (hks : cx.map Prod.fst = ks) (hkey : ∀ u : S, (w1 u).map Prod.fst = ks)
    (hlen : As.length = n) (hsize : ls.size = nL) (hW : (rest.map fun v => v.category).sum ≤ 8) (hdg : decode cc pc = .ok (.invokestatic index, 3)) (hf : cells + mc ≤ R.cells ∧ slots + ms ≤ R.slots)
    (kk : ∀ (r : Int32) (u : S) (H1 : Heap) (locs1 : List Loc), post r u → va_P D classes (zset isC X (w1 u) ++ PL) H1 → va_S A s.heap H1 locs1 → W p l e R s m args below meth c H1 locs1 (cells + mc) (slots + ms) Q (F0 m (pc + 3) ls (.int r :: rest))) :
    W p l e R s m args below meth c H locs cells slots Q (F0 m pc ls (As.reverse ++ rest)) := by
  have hC := zmp hC0
  have hPc : va_P D classes cx H := (zP_l hP).sub isC (zk_fm hC)
  have hDc : va_D A cx := (zD_l hD).sub isC hnC hC
  have hFc := va_free (zD_l hD) hS hA isC hC
  refine va_calli (va_runSN (As := As) (rest := rest) S0 hM cw ⟨zPreO_blind, fun U hU hW => ⟨rfl, ⟨by rw [hU], by rw [hU]; exact hPc, va_K.moved hW.alike hK, hDc.weaken (fun _ _ _ _ => trivial)⟩, zO.warm hW hO⟩⟩ rfl hlen hsize rfl (lv_room hW) hdg hf) hS (fun q _ h => hFc q h) hFc (fun r u t H1 locs1 ht hvm hw hB hz1 hk1 hS1 => ?_)
  have hB : va_P D classes (w1 u) t.heap ∧ va_D (va_A cx H.size) (w1 u) := hB
  rw [ht] at hB
  exact kk r u H1 locs1 hw (zjQ hP hD hC ((hkey u).trans hks.symm) hk1 hB.1) hS1
theorem zz_tlP {post : Int64 → S → Prop} (hM : Met l y wsY rm (va_Pc As (zPre D cs (cx ++ PL) H.size)) (va_Ql post (fun (u : S) (t : State) => va_P D classes (w1 u ++ PL) t.heap ∧ va_D (va_A (cx ++ PL) H.size) (w1 u ++ PL)) (va_A (cx ++ PL) H.size)) mc ms (va_A (cx ++ PL) H.size))
    (S0 : CallFix p m c cc nL s args zW own) (cw : va_CN R s args own index y host bytes maxL ret wsY rm mc ms n ∧ (Cond.static y).before args s = true ∧ True)
    (hP : va_P D classes (X ++ PL) H) (hD : va_D A (X ++ PL)) (hS : va_S A s.heap H locs) (hK : va_K D classes (zT cs) s) (hA : ∀ q : Nat, s.heap.size ≤ q → A q) (isC : List Nat) (hC0 : isC.map (zgt X) = cx.map some) (hnC : va_nd isC = true) (ks : List Nat) (hks : cx.map Prod.fst = ks) (hkey : ∀ u : S, (w1 u).map Prod.fst = ks)
    (hlen : As.length = n) (hsize : ls.size = nL) (hW : (rest.map fun v => v.category).sum ≤ 8) (hdg : decode cc pc = .ok (.invokestatic index, 3)) (hf : cells + mc ≤ R.cells ∧ slots + ms ≤ R.slots)
    (kk : ∀ (r : Int64) (u : S) (H1 : Heap) (locs1 : List Loc), post r u → va_P D classes (zset isC X (w1 u) ++ PL) H1 → va_S A s.heap H1 locs1 → W p l e R s m args below meth c H1 locs1 (cells + mc) (slots + ms) Q (F0 m (pc + 3) ls (.long r :: rest))) :
    W p l e R s m args below meth c H locs cells slots Q (F0 m pc ls (As.reverse ++ rest)) := by
  have hC := zmp hC0
  have hPc : va_P D classes (cx ++ PL) H := hP.part isC hC
  have hDc : va_D A (cx ++ PL) := hD.part isC hnC hC
  have hFc := va_freeP hD hS hA isC hC
  refine va_calll (va_runSN (As := As) (rest := rest) S0 hM cw ⟨zPre_blind, fun U hU hW => ⟨rfl, ⟨by rw [hU], by rw [hU]; exact hPc, va_K.moved hW.alike hK, hDc.weaken (fun _ _ _ _ => trivial)⟩⟩⟩ rfl hlen hsize rfl (lv_room hW) hdg hf) hS (fun q _ h => hFc q h) hFc (fun r u t H1 locs1 ht hvm hw hB hz1 hk1 hS1 => ?_)
  have hB : va_P D classes (w1 u ++ PL) t.heap ∧ va_D (va_A (cx ++ PL) H.size) (w1 u ++ PL) := hB
  rw [ht] at hB
  exact kk r u H1 locs1 hw (zjP hP hD hC ((hkey u).trans hks.symm) hk1 hB.1) hS1
theorem zz_tlQ {post : Int64 → S → Prop} (hM : Met l y wsY rm (va_Pc As (zPre D cs cx H.size)) (va_Ql post (fun (u : S) (t : State) => va_P D classes (w1 u) t.heap ∧ va_D (va_A cx H.size) (w1 u)) (va_A cx H.size)) mc ms (va_A cx H.size))
    (S0 : CallFix p m c cc nL s args zW own) (cw : va_CN R s args own index y host bytes maxL ret wsY rm mc ms n ∧ (Cond.static y).before args s = true ∧ True)
    (hP : va_P D classes (X ++ PL) H) (hD : va_D A (X ++ PL)) (hS : va_S A s.heap H locs) (hK : va_K D classes (zT cs) s) (hA : ∀ q : Nat, s.heap.size ≤ q → A q) (isC : List Nat) (hC0 : isC.map (zgt X) = cx.map some) (hnC : va_nd isC = true) (ks : List Nat) (hks : cx.map Prod.fst = ks) (hkey : ∀ u : S, (w1 u).map Prod.fst = ks)
    (hlen : As.length = n) (hsize : ls.size = nL) (hW : (rest.map fun v => v.category).sum ≤ 8) (hdg : decode cc pc = .ok (.invokestatic index, 3)) (hf : cells + mc ≤ R.cells ∧ slots + ms ≤ R.slots)
    (kk : ∀ (r : Int64) (u : S) (H1 : Heap) (locs1 : List Loc), post r u → va_P D classes (zset isC X (w1 u) ++ PL) H1 → va_S A s.heap H1 locs1 → W p l e R s m args below meth c H1 locs1 (cells + mc) (slots + ms) Q (F0 m (pc + 3) ls (.long r :: rest))) :
    W p l e R s m args below meth c H locs cells slots Q (F0 m pc ls (As.reverse ++ rest)) := by
  have hC := zmp hC0
  have hPc : va_P D classes cx H := (zP_l hP).sub isC (zk_fm hC)
  have hDc : va_D A cx := (zD_l hD).sub isC hnC hC
  have hFc := va_free (zD_l hD) hS hA isC hC
  refine va_calll (va_runSN (As := As) (rest := rest) S0 hM cw ⟨zPre_blind, fun U hU hW => ⟨rfl, ⟨by rw [hU], by rw [hU]; exact hPc, va_K.moved hW.alike hK, hDc.weaken (fun _ _ _ _ => trivial)⟩⟩⟩ rfl hlen hsize rfl (lv_room hW) hdg hf) hS (fun q _ h => hFc q h) hFc (fun r u t H1 locs1 ht hvm hw hB hz1 hk1 hS1 => ?_)
  have hB : va_P D classes (w1 u) t.heap ∧ va_D (va_A cx H.size) (w1 u) := hB
  rw [ht] at hB
  exact kk r u H1 locs1 hw (zjQ hP hD hC ((hkey u).trans hks.symm) hk1 hB.1) hS1
theorem zz_tlOP {post : Int64 → S → Prop} (hO : zO s) (hM : Met l y wsY rm (va_Pc As (zPreO D cs (cx ++ PL) H.size)) (va_Ql post (fun (u : S) (t : State) => va_P D classes (w1 u ++ PL) t.heap ∧ va_D (va_A (cx ++ PL) H.size) (w1 u ++ PL)) (va_A (cx ++ PL) H.size)) mc ms (va_A (cx ++ PL) H.size))
    (S0 : CallFix p m c cc nL s args zW own) (cw : va_CN R s args own index y host bytes maxL ret wsY rm mc ms n ∧ (Cond.static y).before args s = true ∧ True)
    (hP : va_P D classes (X ++ PL) H) (hD : va_D A (X ++ PL)) (hS : va_S A s.heap H locs) (hK : va_K D classes (zT cs) s) (hA : ∀ q : Nat, s.heap.size ≤ q → A q) (isC : List Nat) (hC0 : isC.map (zgt X) = cx.map some) (hnC : va_nd isC = true) (ks : List Nat) (hks : cx.map Prod.fst = ks) (hkey : ∀ u : S, (w1 u).map Prod.fst = ks)
    (hlen : As.length = n) (hsize : ls.size = nL) (hW : (rest.map fun v => v.category).sum ≤ 8) (hdg : decode cc pc = .ok (.invokestatic index, 3)) (hf : cells + mc ≤ R.cells ∧ slots + ms ≤ R.slots)
    (kk : ∀ (r : Int64) (u : S) (H1 : Heap) (locs1 : List Loc), post r u → va_P D classes (zset isC X (w1 u) ++ PL) H1 → va_S A s.heap H1 locs1 → W p l e R s m args below meth c H1 locs1 (cells + mc) (slots + ms) Q (F0 m (pc + 3) ls (.long r :: rest))) :
    W p l e R s m args below meth c H locs cells slots Q (F0 m pc ls (As.reverse ++ rest)) := by
  have hC := zmp hC0
  have hPc : va_P D classes (cx ++ PL) H := hP.part isC hC
  have hDc : va_D A (cx ++ PL) := hD.part isC hnC hC
  have hFc := va_freeP hD hS hA isC hC
  refine va_calll (va_runSN (As := As) (rest := rest) S0 hM cw ⟨zPreO_blind, fun U hU hW => ⟨rfl, ⟨by rw [hU], by rw [hU]; exact hPc, va_K.moved hW.alike hK, hDc.weaken (fun _ _ _ _ => trivial)⟩, zO.warm hW hO⟩⟩ rfl hlen hsize rfl (lv_room hW) hdg hf) hS (fun q _ h => hFc q h) hFc (fun r u t H1 locs1 ht hvm hw hB hz1 hk1 hS1 => ?_)
  have hB : va_P D classes (w1 u ++ PL) t.heap ∧ va_D (va_A (cx ++ PL) H.size) (w1 u ++ PL) := hB
  rw [ht] at hB
  exact kk r u H1 locs1 hw (zjP hP hD hC ((hkey u).trans hks.symm) hk1 hB.1) hS1
theorem zz_tlOQ {post : Int64 → S → Prop} (hO : zO s) (hM : Met l y wsY rm (va_Pc As (zPreO D cs cx H.size)) (va_Ql post (fun (u : S) (t : State) => va_P D classes (w1 u) t.heap ∧ va_D (va_A cx H.size) (w1 u)) (va_A cx H.size)) mc ms (va_A cx H.size))
    (S0 : CallFix p m c cc nL s args zW own) (cw : va_CN R s args own index y host bytes maxL ret wsY rm mc ms n ∧ (Cond.static y).before args s = true ∧ True)
    (hP : va_P D classes (X ++ PL) H) (hD : va_D A (X ++ PL)) (hS : va_S A s.heap H locs) (hK : va_K D classes (zT cs) s) (hA : ∀ q : Nat, s.heap.size ≤ q → A q) (isC : List Nat) (hC0 : isC.map (zgt X) = cx.map some) (hnC : va_nd isC = true) (ks : List Nat) (hks : cx.map Prod.fst = ks) (hkey : ∀ u : S, (w1 u).map Prod.fst = ks)
    (hlen : As.length = n) (hsize : ls.size = nL) (hW : (rest.map fun v => v.category).sum ≤ 8) (hdg : decode cc pc = .ok (.invokestatic index, 3)) (hf : cells + mc ≤ R.cells ∧ slots + ms ≤ R.slots)
    (kk : ∀ (r : Int64) (u : S) (H1 : Heap) (locs1 : List Loc), post r u → va_P D classes (zset isC X (w1 u) ++ PL) H1 → va_S A s.heap H1 locs1 → W p l e R s m args below meth c H1 locs1 (cells + mc) (slots + ms) Q (F0 m (pc + 3) ls (.long r :: rest))) :
    W p l e R s m args below meth c H locs cells slots Q (F0 m pc ls (As.reverse ++ rest)) := by
  have hC := zmp hC0
  have hPc : va_P D classes cx H := (zP_l hP).sub isC (zk_fm hC)
  have hDc : va_D A cx := (zD_l hD).sub isC hnC hC
  have hFc := va_free (zD_l hD) hS hA isC hC
  refine va_calll (va_runSN (As := As) (rest := rest) S0 hM cw ⟨zPreO_blind, fun U hU hW => ⟨rfl, ⟨by rw [hU], by rw [hU]; exact hPc, va_K.moved hW.alike hK, hDc.weaken (fun _ _ _ _ => trivial)⟩, zO.warm hW hO⟩⟩ rfl hlen hsize rfl (lv_room hW) hdg hf) hS (fun q _ h => hFc q h) hFc (fun r u t H1 locs1 ht hvm hw hB hz1 hk1 hS1 => ?_)
  have hB : va_P D classes (w1 u) t.heap ∧ va_D (va_A cx H.size) (w1 u) := hB
  rw [ht] at hB
  exact kk r u H1 locs1 hw (zjQ hP hD hC ((hkey u).trans hks.symm) hk1 hB.1) hS1
theorem zz_tvP {post : S → Prop} (hM : Met l y wsY rm (va_Pc As (zPre D cs (cx ++ PL) H.size)) (va_Qv post (fun (u : S) (t : State) => va_P D classes (w1 u ++ PL) t.heap ∧ va_D (va_A (cx ++ PL) H.size) (w1 u ++ PL)) (va_A (cx ++ PL) H.size)) mc ms (va_A (cx ++ PL) H.size))
    (S0 : CallFix p m c cc nL s args zW own) (cw : va_CN R s args own index y host bytes maxL ret wsY rm mc ms n ∧ (Cond.static y).before args s = true ∧ True)
    (hP : va_P D classes (X ++ PL) H) (hD : va_D A (X ++ PL)) (hS : va_S A s.heap H locs) (hK : va_K D classes (zT cs) s) (hA : ∀ q : Nat, s.heap.size ≤ q → A q) (isC : List Nat) (hC0 : isC.map (zgt X) = cx.map some) (hnC : va_nd isC = true) (ks : List Nat) (hks : cx.map Prod.fst = ks) (hkey : ∀ u : S, (w1 u).map Prod.fst = ks)
    (hlen : As.length = n) (hsize : ls.size = nL) (hW : (rest.map fun v => v.category).sum ≤ 8) (hdg : decode cc pc = .ok (.invokestatic index, 3)) (hf : cells + mc ≤ R.cells ∧ slots + ms ≤ R.slots)
    (kk : ∀ (u : S) (H1 : Heap) (locs1 : List Loc), post u → va_P D classes (zset isC X (w1 u) ++ PL) H1 → va_S A s.heap H1 locs1 → W p l e R s m args below meth c H1 locs1 (cells + mc) (slots + ms) Q (F0 m (pc + 3) ls (rest))) :
    W p l e R s m args below meth c H locs cells slots Q (F0 m pc ls (As.reverse ++ rest)) := by
  have hC := zmp hC0
  have hPc : va_P D classes (cx ++ PL) H := hP.part isC hC
  have hDc : va_D A (cx ++ PL) := hD.part isC hnC hC
  have hFc := va_freeP hD hS hA isC hC
  refine va_callv (va_runSN (As := As) (rest := rest) S0 hM cw ⟨zPre_blind, fun U hU hW => ⟨rfl, ⟨by rw [hU], by rw [hU]; exact hPc, va_K.moved hW.alike hK, hDc.weaken (fun _ _ _ _ => trivial)⟩⟩⟩ rfl hlen hsize rfl (lv_room hW) hdg hf) hS (fun q _ h => hFc q h) hFc (fun u t H1 locs1 ht hvm hw hB hz1 hk1 hS1 => ?_)
  have hB : va_P D classes (w1 u ++ PL) t.heap ∧ va_D (va_A (cx ++ PL) H.size) (w1 u ++ PL) := hB
  rw [ht] at hB
  exact kk u H1 locs1 hw (zjP hP hD hC ((hkey u).trans hks.symm) hk1 hB.1) hS1
theorem zz_tvQ {post : S → Prop} (hM : Met l y wsY rm (va_Pc As (zPre D cs cx H.size)) (va_Qv post (fun (u : S) (t : State) => va_P D classes (w1 u) t.heap ∧ va_D (va_A cx H.size) (w1 u)) (va_A cx H.size)) mc ms (va_A cx H.size))
    (S0 : CallFix p m c cc nL s args zW own) (cw : va_CN R s args own index y host bytes maxL ret wsY rm mc ms n ∧ (Cond.static y).before args s = true ∧ True)
    (hP : va_P D classes (X ++ PL) H) (hD : va_D A (X ++ PL)) (hS : va_S A s.heap H locs) (hK : va_K D classes (zT cs) s) (hA : ∀ q : Nat, s.heap.size ≤ q → A q) (isC : List Nat) (hC0 : isC.map (zgt X) = cx.map some) (hnC : va_nd isC = true) (ks : List Nat) (hks : cx.map Prod.fst = ks) (hkey : ∀ u : S, (w1 u).map Prod.fst = ks)
    (hlen : As.length = n) (hsize : ls.size = nL) (hW : (rest.map fun v => v.category).sum ≤ 8) (hdg : decode cc pc = .ok (.invokestatic index, 3)) (hf : cells + mc ≤ R.cells ∧ slots + ms ≤ R.slots)
    (kk : ∀ (u : S) (H1 : Heap) (locs1 : List Loc), post u → va_P D classes (zset isC X (w1 u) ++ PL) H1 → va_S A s.heap H1 locs1 → W p l e R s m args below meth c H1 locs1 (cells + mc) (slots + ms) Q (F0 m (pc + 3) ls (rest))) :
    W p l e R s m args below meth c H locs cells slots Q (F0 m pc ls (As.reverse ++ rest)) := by
  have hC := zmp hC0
  have hPc : va_P D classes cx H := (zP_l hP).sub isC (zk_fm hC)
  have hDc : va_D A cx := (zD_l hD).sub isC hnC hC
  have hFc := va_free (zD_l hD) hS hA isC hC
  refine va_callv (va_runSN (As := As) (rest := rest) S0 hM cw ⟨zPre_blind, fun U hU hW => ⟨rfl, ⟨by rw [hU], by rw [hU]; exact hPc, va_K.moved hW.alike hK, hDc.weaken (fun _ _ _ _ => trivial)⟩⟩⟩ rfl hlen hsize rfl (lv_room hW) hdg hf) hS (fun q _ h => hFc q h) hFc (fun u t H1 locs1 ht hvm hw hB hz1 hk1 hS1 => ?_)
  have hB : va_P D classes (w1 u) t.heap ∧ va_D (va_A cx H.size) (w1 u) := hB
  rw [ht] at hB
  exact kk u H1 locs1 hw (zjQ hP hD hC ((hkey u).trans hks.symm) hk1 hB.1) hS1
theorem zz_tvOP {post : S → Prop} (hO : zO s) (hM : Met l y wsY rm (va_Pc As (zPreO D cs (cx ++ PL) H.size)) (va_Qv post (fun (u : S) (t : State) => va_P D classes (w1 u ++ PL) t.heap ∧ va_D (va_A (cx ++ PL) H.size) (w1 u ++ PL)) (va_A (cx ++ PL) H.size)) mc ms (va_A (cx ++ PL) H.size))
    (S0 : CallFix p m c cc nL s args zW own) (cw : va_CN R s args own index y host bytes maxL ret wsY rm mc ms n ∧ (Cond.static y).before args s = true ∧ True)
    (hP : va_P D classes (X ++ PL) H) (hD : va_D A (X ++ PL)) (hS : va_S A s.heap H locs) (hK : va_K D classes (zT cs) s) (hA : ∀ q : Nat, s.heap.size ≤ q → A q) (isC : List Nat) (hC0 : isC.map (zgt X) = cx.map some) (hnC : va_nd isC = true) (ks : List Nat) (hks : cx.map Prod.fst = ks) (hkey : ∀ u : S, (w1 u).map Prod.fst = ks)
    (hlen : As.length = n) (hsize : ls.size = nL) (hW : (rest.map fun v => v.category).sum ≤ 8) (hdg : decode cc pc = .ok (.invokestatic index, 3)) (hf : cells + mc ≤ R.cells ∧ slots + ms ≤ R.slots)
    (kk : ∀ (u : S) (H1 : Heap) (locs1 : List Loc), post u → va_P D classes (zset isC X (w1 u) ++ PL) H1 → va_S A s.heap H1 locs1 → W p l e R s m args below meth c H1 locs1 (cells + mc) (slots + ms) Q (F0 m (pc + 3) ls (rest))) :
    W p l e R s m args below meth c H locs cells slots Q (F0 m pc ls (As.reverse ++ rest)) := by
  have hC := zmp hC0
  have hPc : va_P D classes (cx ++ PL) H := hP.part isC hC
  have hDc : va_D A (cx ++ PL) := hD.part isC hnC hC
  have hFc := va_freeP hD hS hA isC hC
  refine va_callv (va_runSN (As := As) (rest := rest) S0 hM cw ⟨zPreO_blind, fun U hU hW => ⟨rfl, ⟨by rw [hU], by rw [hU]; exact hPc, va_K.moved hW.alike hK, hDc.weaken (fun _ _ _ _ => trivial)⟩, zO.warm hW hO⟩⟩ rfl hlen hsize rfl (lv_room hW) hdg hf) hS (fun q _ h => hFc q h) hFc (fun u t H1 locs1 ht hvm hw hB hz1 hk1 hS1 => ?_)
  have hB : va_P D classes (w1 u ++ PL) t.heap ∧ va_D (va_A (cx ++ PL) H.size) (w1 u ++ PL) := hB
  rw [ht] at hB
  exact kk u H1 locs1 hw (zjP hP hD hC ((hkey u).trans hks.symm) hk1 hB.1) hS1
theorem zz_tvOQ {post : S → Prop} (hO : zO s) (hM : Met l y wsY rm (va_Pc As (zPreO D cs cx H.size)) (va_Qv post (fun (u : S) (t : State) => va_P D classes (w1 u) t.heap ∧ va_D (va_A cx H.size) (w1 u)) (va_A cx H.size)) mc ms (va_A cx H.size))
    (S0 : CallFix p m c cc nL s args zW own) (cw : va_CN R s args own index y host bytes maxL ret wsY rm mc ms n ∧ (Cond.static y).before args s = true ∧ True)
    (hP : va_P D classes (X ++ PL) H) (hD : va_D A (X ++ PL)) (hS : va_S A s.heap H locs) (hK : va_K D classes (zT cs) s) (hA : ∀ q : Nat, s.heap.size ≤ q → A q) (isC : List Nat) (hC0 : isC.map (zgt X) = cx.map some) (hnC : va_nd isC = true) (ks : List Nat) (hks : cx.map Prod.fst = ks) (hkey : ∀ u : S, (w1 u).map Prod.fst = ks)
    (hlen : As.length = n) (hsize : ls.size = nL) (hW : (rest.map fun v => v.category).sum ≤ 8) (hdg : decode cc pc = .ok (.invokestatic index, 3)) (hf : cells + mc ≤ R.cells ∧ slots + ms ≤ R.slots)
    (kk : ∀ (u : S) (H1 : Heap) (locs1 : List Loc), post u → va_P D classes (zset isC X (w1 u) ++ PL) H1 → va_S A s.heap H1 locs1 → W p l e R s m args below meth c H1 locs1 (cells + mc) (slots + ms) Q (F0 m (pc + 3) ls (rest))) :
    W p l e R s m args below meth c H locs cells slots Q (F0 m pc ls (As.reverse ++ rest)) := by
  have hC := zmp hC0
  have hPc : va_P D classes cx H := (zP_l hP).sub isC (zk_fm hC)
  have hDc : va_D A cx := (zD_l hD).sub isC hnC hC
  have hFc := va_free (zD_l hD) hS hA isC hC
  refine va_callv (va_runSN (As := As) (rest := rest) S0 hM cw ⟨zPreO_blind, fun U hU hW => ⟨rfl, ⟨by rw [hU], by rw [hU]; exact hPc, va_K.moved hW.alike hK, hDc.weaken (fun _ _ _ _ => trivial)⟩, zO.warm hW hO⟩⟩ rfl hlen hsize rfl (lv_room hW) hdg hf) hS (fun q _ h => hFc q h) hFc (fun u t H1 locs1 ht hvm hw hB hz1 hk1 hS1 => ?_)
  have hB : va_P D classes (w1 u) t.heap ∧ va_D (va_A cx H.size) (w1 u) := hB
  rw [ht] at hB
  exact kk u H1 locs1 hw (zjQ hP hD hC ((hkey u).trans hks.symm) hk1 hB.1) hS1
theorem zz_tqP {post : Option Nat → S → Prop} (hM : Met l y wsY rm (va_Pc As (zPre D cs (cx ++ PL) H.size)) (va_Qq post (fun (u : S) (t : State) => va_P D classes (w1 u ++ PL) t.heap ∧ va_D (va_A (cx ++ PL) H.size) (w1 u ++ PL)) (va_A (cx ++ PL) H.size)) mc ms (va_A (cx ++ PL) H.size))
    (S0 : CallFix p m c cc nL s args zW own) (cw : va_CN R s args own index y host bytes maxL ret wsY rm mc ms n ∧ (Cond.static y).before args s = true ∧ True)
    (hP : va_P D classes (X ++ PL) H) (hD : va_D A (X ++ PL)) (hS : va_S A s.heap H locs) (hK : va_K D classes (zT cs) s) (hA : ∀ q : Nat, s.heap.size ≤ q → A q) (isC : List Nat) (hC0 : isC.map (zgt X) = cx.map some) (hnC : va_nd isC = true) (ks : List Nat) (hks : cx.map Prod.fst = ks) (hkey : ∀ u : S, (w1 u).map Prod.fst = ks)
    (hlen : As.length = n) (hsize : ls.size = nL) (hW : (rest.map fun v => v.category).sum ≤ 8) (hdg : decode cc pc = .ok (.invokestatic index, 3)) (hf : cells + mc ≤ R.cells ∧ slots + ms ≤ R.slots)
    (kk : ∀ (r : Option Nat) (u : S) (H1 : Heap) (locs1 : List Loc), post r u → va_P D classes (zset isC X (w1 u) ++ PL) H1 → va_S A s.heap H1 locs1 → W p l e R s m args below meth c H1 locs1 (cells + mc) (slots + ms) Q (F0 m (pc + 3) ls (va_rf r :: rest))) :
    W p l e R s m args below meth c H locs cells slots Q (F0 m pc ls (As.reverse ++ rest)) := by
  have hC := zmp hC0
  have hPc : va_P D classes (cx ++ PL) H := hP.part isC hC
  have hDc : va_D A (cx ++ PL) := hD.part isC hnC hC
  have hFc := va_freeP hD hS hA isC hC
  refine va_callq (va_runSN (As := As) (rest := rest) S0 hM cw ⟨zPre_blind, fun U hU hW => ⟨rfl, ⟨by rw [hU], by rw [hU]; exact hPc, va_K.moved hW.alike hK, hDc.weaken (fun _ _ _ _ => trivial)⟩⟩⟩ rfl hlen hsize rfl (lv_room hW) hdg hf) hS (fun q _ h => hFc q h) hFc (fun r u t H1 locs1 ht hvm hw hB hz1 hk1 hS1 => ?_)
  have hB : va_P D classes (w1 u ++ PL) t.heap ∧ va_D (va_A (cx ++ PL) H.size) (w1 u ++ PL) := hB
  rw [ht] at hB
  exact kk r u H1 locs1 hw (zjP hP hD hC ((hkey u).trans hks.symm) hk1 hB.1) hS1
theorem zz_tqQ {post : Option Nat → S → Prop} (hM : Met l y wsY rm (va_Pc As (zPre D cs cx H.size)) (va_Qq post (fun (u : S) (t : State) => va_P D classes (w1 u) t.heap ∧ va_D (va_A cx H.size) (w1 u)) (va_A cx H.size)) mc ms (va_A cx H.size))
    (S0 : CallFix p m c cc nL s args zW own) (cw : va_CN R s args own index y host bytes maxL ret wsY rm mc ms n ∧ (Cond.static y).before args s = true ∧ True)
    (hP : va_P D classes (X ++ PL) H) (hD : va_D A (X ++ PL)) (hS : va_S A s.heap H locs) (hK : va_K D classes (zT cs) s) (hA : ∀ q : Nat, s.heap.size ≤ q → A q) (isC : List Nat) (hC0 : isC.map (zgt X) = cx.map some) (hnC : va_nd isC = true) (ks : List Nat) (hks : cx.map Prod.fst = ks) (hkey : ∀ u : S, (w1 u).map Prod.fst = ks)
    (hlen : As.length = n) (hsize : ls.size = nL) (hW : (rest.map fun v => v.category).sum ≤ 8) (hdg : decode cc pc = .ok (.invokestatic index, 3)) (hf : cells + mc ≤ R.cells ∧ slots + ms ≤ R.slots)
    (kk : ∀ (r : Option Nat) (u : S) (H1 : Heap) (locs1 : List Loc), post r u → va_P D classes (zset isC X (w1 u) ++ PL) H1 → va_S A s.heap H1 locs1 → W p l e R s m args below meth c H1 locs1 (cells + mc) (slots + ms) Q (F0 m (pc + 3) ls (va_rf r :: rest))) :
    W p l e R s m args below meth c H locs cells slots Q (F0 m pc ls (As.reverse ++ rest)) := by
  have hC := zmp hC0
  have hPc : va_P D classes cx H := (zP_l hP).sub isC (zk_fm hC)
  have hDc : va_D A cx := (zD_l hD).sub isC hnC hC
  have hFc := va_free (zD_l hD) hS hA isC hC
  refine va_callq (va_runSN (As := As) (rest := rest) S0 hM cw ⟨zPre_blind, fun U hU hW => ⟨rfl, ⟨by rw [hU], by rw [hU]; exact hPc, va_K.moved hW.alike hK, hDc.weaken (fun _ _ _ _ => trivial)⟩⟩⟩ rfl hlen hsize rfl (lv_room hW) hdg hf) hS (fun q _ h => hFc q h) hFc (fun r u t H1 locs1 ht hvm hw hB hz1 hk1 hS1 => ?_)
  have hB : va_P D classes (w1 u) t.heap ∧ va_D (va_A cx H.size) (w1 u) := hB
  rw [ht] at hB
  exact kk r u H1 locs1 hw (zjQ hP hD hC ((hkey u).trans hks.symm) hk1 hB.1) hS1
theorem zz_tqOP {post : Option Nat → S → Prop} (hO : zO s) (hM : Met l y wsY rm (va_Pc As (zPreO D cs (cx ++ PL) H.size)) (va_Qq post (fun (u : S) (t : State) => va_P D classes (w1 u ++ PL) t.heap ∧ va_D (va_A (cx ++ PL) H.size) (w1 u ++ PL)) (va_A (cx ++ PL) H.size)) mc ms (va_A (cx ++ PL) H.size))
    (S0 : CallFix p m c cc nL s args zW own) (cw : va_CN R s args own index y host bytes maxL ret wsY rm mc ms n ∧ (Cond.static y).before args s = true ∧ True)
    (hP : va_P D classes (X ++ PL) H) (hD : va_D A (X ++ PL)) (hS : va_S A s.heap H locs) (hK : va_K D classes (zT cs) s) (hA : ∀ q : Nat, s.heap.size ≤ q → A q) (isC : List Nat) (hC0 : isC.map (zgt X) = cx.map some) (hnC : va_nd isC = true) (ks : List Nat) (hks : cx.map Prod.fst = ks) (hkey : ∀ u : S, (w1 u).map Prod.fst = ks)
    (hlen : As.length = n) (hsize : ls.size = nL) (hW : (rest.map fun v => v.category).sum ≤ 8) (hdg : decode cc pc = .ok (.invokestatic index, 3)) (hf : cells + mc ≤ R.cells ∧ slots + ms ≤ R.slots)
    (kk : ∀ (r : Option Nat) (u : S) (H1 : Heap) (locs1 : List Loc), post r u → va_P D classes (zset isC X (w1 u) ++ PL) H1 → va_S A s.heap H1 locs1 → W p l e R s m args below meth c H1 locs1 (cells + mc) (slots + ms) Q (F0 m (pc + 3) ls (va_rf r :: rest))) :
    W p l e R s m args below meth c H locs cells slots Q (F0 m pc ls (As.reverse ++ rest)) := by
  have hC := zmp hC0
  have hPc : va_P D classes (cx ++ PL) H := hP.part isC hC
  have hDc : va_D A (cx ++ PL) := hD.part isC hnC hC
  have hFc := va_freeP hD hS hA isC hC
  refine va_callq (va_runSN (As := As) (rest := rest) S0 hM cw ⟨zPreO_blind, fun U hU hW => ⟨rfl, ⟨by rw [hU], by rw [hU]; exact hPc, va_K.moved hW.alike hK, hDc.weaken (fun _ _ _ _ => trivial)⟩, zO.warm hW hO⟩⟩ rfl hlen hsize rfl (lv_room hW) hdg hf) hS (fun q _ h => hFc q h) hFc (fun r u t H1 locs1 ht hvm hw hB hz1 hk1 hS1 => ?_)
  have hB : va_P D classes (w1 u ++ PL) t.heap ∧ va_D (va_A (cx ++ PL) H.size) (w1 u ++ PL) := hB
  rw [ht] at hB
  exact kk r u H1 locs1 hw (zjP hP hD hC ((hkey u).trans hks.symm) hk1 hB.1) hS1
theorem zz_tqOQ {post : Option Nat → S → Prop} (hO : zO s) (hM : Met l y wsY rm (va_Pc As (zPreO D cs cx H.size)) (va_Qq post (fun (u : S) (t : State) => va_P D classes (w1 u) t.heap ∧ va_D (va_A cx H.size) (w1 u)) (va_A cx H.size)) mc ms (va_A cx H.size))
    (S0 : CallFix p m c cc nL s args zW own) (cw : va_CN R s args own index y host bytes maxL ret wsY rm mc ms n ∧ (Cond.static y).before args s = true ∧ True)
    (hP : va_P D classes (X ++ PL) H) (hD : va_D A (X ++ PL)) (hS : va_S A s.heap H locs) (hK : va_K D classes (zT cs) s) (hA : ∀ q : Nat, s.heap.size ≤ q → A q) (isC : List Nat) (hC0 : isC.map (zgt X) = cx.map some) (hnC : va_nd isC = true) (ks : List Nat) (hks : cx.map Prod.fst = ks) (hkey : ∀ u : S, (w1 u).map Prod.fst = ks)
    (hlen : As.length = n) (hsize : ls.size = nL) (hW : (rest.map fun v => v.category).sum ≤ 8) (hdg : decode cc pc = .ok (.invokestatic index, 3)) (hf : cells + mc ≤ R.cells ∧ slots + ms ≤ R.slots)
    (kk : ∀ (r : Option Nat) (u : S) (H1 : Heap) (locs1 : List Loc), post r u → va_P D classes (zset isC X (w1 u) ++ PL) H1 → va_S A s.heap H1 locs1 → W p l e R s m args below meth c H1 locs1 (cells + mc) (slots + ms) Q (F0 m (pc + 3) ls (va_rf r :: rest))) :
    W p l e R s m args below meth c H locs cells slots Q (F0 m pc ls (As.reverse ++ rest)) := by
  have hC := zmp hC0
  have hPc : va_P D classes cx H := (zP_l hP).sub isC (zk_fm hC)
  have hDc : va_D A cx := (zD_l hD).sub isC hnC hC
  have hFc := va_free (zD_l hD) hS hA isC hC
  refine va_callq (va_runSN (As := As) (rest := rest) S0 hM cw ⟨zPreO_blind, fun U hU hW => ⟨rfl, ⟨by rw [hU], by rw [hU]; exact hPc, va_K.moved hW.alike hK, hDc.weaken (fun _ _ _ _ => trivial)⟩, zO.warm hW hO⟩⟩ rfl hlen hsize rfl (lv_room hW) hdg hf) hS (fun q _ h => hFc q h) hFc (fun r u t H1 locs1 ht hvm hw hB hz1 hk1 hS1 => ?_)
  have hB : va_P D classes (w1 u) t.heap ∧ va_D (va_A cx H.size) (w1 u) := hB
  rw [ht] at hB
  exact kk r u H1 locs1 hw (zjQ hP hD hC ((hkey u).trans hks.symm) hk1 hB.1) hS1
end ZZP
theorem zs_lt2 {i c : Int32} (h : ¬ (i < 0 ∨ c ≤ i)) : i.toNatClampNeg < c.toInt.toNat := by
  have h1 : ¬ i.toInt < (0 : Int32).toInt := fun z => h (Or.inl (Int32.lt_iff_toInt_lt.mpr z))
  have h2 : ¬ c.toInt ≤ i.toInt := fun z => h (Or.inr (Int32.le_iff_toInt_le.mpr z))
  have e : (0 : Int32).toInt = 0 := by decide
  show i.toInt.toNat < c.toInt.toNat
  omega
theorem zs_lt3 {i : Int32} (h : ¬ (i < 0 ∨ (32 : Int32) ≤ i)) : i.toNatClampNeg < 32 := by
  have h2 := zs_lt2 h
  have e : (32 : Int32).toInt.toNat = 32 := by decide
  rw [e] at h2
  exact h2
def PSu (cs : Nat → ClassId) (PL : va_W) (n : Int32) (suits : Nat → Option Nat) (S_a S_b : Nat → Nat) (S_who : Nat → Int32) (S_against : Nat → Int32) (S_kind : Nat → Int32) (S_won : Nat → Int32) (S_day : Nat → Int32) (S_land : Nat → Int32) (S_undoneFrom : Nat → Int32) (S_asked : Nat → Nat → Int32) (S_askedCount : Nat → Int32) (S_askedBits : Nat → Int32) (S_first : Nat → Int32) (S_foundSo : Nat → Int32) (S_foundNot : Nat → Int32) (S_fought : Nat → Int32) (S_needed : Nat → Int32) : Prop := ∀ i, i < n.toInt.toNat → suits i = some (S_a i) ∧ (∃ j : Nat, PL[j]? = some (S_a i, .inr (7, [.int (S_who i), .int (S_against i), .int (S_kind i), .int (S_won i), .int (S_day i), .int (S_land i), .int (S_undoneFrom i), .ref (S_b i), .int (S_askedCount i), .int (S_askedBits i), .int (S_first i), .int (S_foundSo i), .int (S_foundNot i), .int (S_fought i), .int (S_needed i)]))) ∧ ∃ j : Nat, PL[j]? = some (S_b i, .inl (cs 0, 32, .inl (S_asked i)))
def PLa (cs : Nat → ClassId) (PL : va_W) (laws : Nat → Option Nat) (L_a L_b : Nat → Nat) (L_n : Nat → Nat) (L_code : Nat → Nat → Int32) : Prop := ∀ i, i < 32 → laws i = some (L_a i) ∧ (∃ j : Nat, PL[j]? = some (L_a i, .inr (4, [.ref (L_b i)]))) ∧ ∃ j : Nat, PL[j]? = some (L_b i, .inl (cs 0, L_n i, .inl (L_code i)))
theorem zs_app {Z PL : va_W} {q : Nat × va_E} (h : ∃ j : Nat, PL[j]? = some q) : ∃ j : Nat, (Z ++ PL)[j]? = some q := by
  obtain ⟨j, h⟩ := h
  exact ⟨Z.length + j, zPm h rfl⟩
theorem PLa_app {cs : Nat → ClassId} {Z PL : va_W} {laws : Nat → Option Nat} {L_a L_b L_n : Nat → Nat} {L_code : Nat → Nat → Int32} (h : PLa cs PL laws L_a L_b L_n L_code) : PLa cs (Z ++ PL) laws L_a L_b L_n L_code := fun i hi => ⟨(h i hi).1, zs_app (h i hi).2.1, zs_app (h i hi).2.2⟩
theorem PLa_app2 {cs : Nat → ClassId} {Z PL : va_W} {laws : Nat → Option Nat} {L_a L_b L_n : Nat → Nat} {L_code : Nat → Nat → Int32} (h : PLa cs PL laws L_a L_b L_n L_code) : PLa cs (Z ++ PL) laws L_a L_b L_n L_code := PLa_app h
/-- the pool of suits: an object and a row of claims asked each -/
def zSG (S_a S_b : Nat → Nat) (o a : Nat → va_E) : Nat → va_W
  | 0 => []
  | n + 1 => zSG S_a S_b o a n ++ [(S_a n, o n), (S_b n, a n)]
theorem zSG_len {S_a S_b : Nat → Nat} {o a : Nat → va_E} : ∀ n, (zSG S_a S_b o a n).length = 2 * n
  | 0 => rfl
  | n + 1 => by
    show (zSG S_a S_b o a n ++ [_, _]).length = _
    rw [List.length_append, zSG_len n]
    rfl
theorem zSG_at {S_a S_b : Nat → Nat} {o a : Nat → va_E} : ∀ n i, i < n → (zSG S_a S_b o a n)[2 * i]? = some (S_a i, o i) ∧ (zSG S_a S_b o a n)[2 * i + 1]? = some (S_b i, a i)
  | 0, i, h => absurd h (Nat.not_lt_zero i)
  | n + 1, i, h => by
    show (zSG S_a S_b o a n ++ [_, _])[2 * i]? = _ ∧ (zSG S_a S_b o a n ++ [_, _])[2 * i + 1]? = _
    by_cases c : i < n
    · rw [List.getElem?_append_left (by rw [zSG_len]; omega), List.getElem?_append_left (by rw [zSG_len]; omega)]
      exact zSG_at n i c
    · have e : i = n := by omega
      subst e
      rw [List.getElem?_append_right (by rw [zSG_len]; omega), List.getElem?_append_right (by rw [zSG_len]; omega), zSG_len]
      rw [Nat.sub_self, Nat.add_sub_cancel_left]
      exact ⟨rfl, rfl⟩
theorem zSG_congr {S_a S_b : Nat → Nat} {o a o' a' : Nat → va_E} : ∀ n, (∀ i, i < n → o i = o' i ∧ a i = a' i) → zSG S_a S_b o a n = zSG S_a S_b o' a' n
  | 0, _ => rfl
  | n + 1, h => by
    show zSG S_a S_b o a n ++ [_, _] = zSG S_a S_b o' a' n ++ [_, _]
    rw [zSG_congr n (fun i hi => h i (by omega)), (h n (by omega)).1, (h n (by omega)).2]
theorem zSG_set {S_a S_b : Nat → Nat} {o o' a : Nat → va_E} : ∀ n i, i < n → (∀ k, ¬ k = i → o' k = o k) → (zSG S_a S_b o a n).set (2 * i) (S_a i, o' i) = zSG S_a S_b o' a n
  | 0, i, h, _ => absurd h (Nat.not_lt_zero i)
  | n + 1, i, h, hk => by
    show (zSG S_a S_b o a n ++ [_, _]).set (2 * i) _ = zSG S_a S_b o' a n ++ [_, _]
    by_cases c : i < n
    · rw [List.set_append_left _ _ (by rw [zSG_len]; omega), zSG_set n i c hk, hk n (by omega)]
    · have e : i = n := by omega
      subst e
      rw [List.set_append_right _ _ (by rw [zSG_len]; omega), zSG_len, Nat.sub_self, zSG_congr i (o := o) (o' := o') (fun k q => ⟨(hk k (by omega)).symm, rfl⟩)]
      rfl
def zSu (cs : Nat → ClassId) (S_a S_b : Nat → Nat) (n : Nat) (S_who : Nat → Int32) (S_against : Nat → Int32) (S_kind : Nat → Int32) (S_won : Nat → Int32) (S_day : Nat → Int32) (S_land : Nat → Int32) (S_undoneFrom : Nat → Int32) (S_asked : Nat → Nat → Int32) (S_askedCount : Nat → Int32) (S_askedBits : Nat → Int32) (S_first : Nat → Int32) (S_foundSo : Nat → Int32) (S_foundNot : Nat → Int32) (S_fought : Nat → Int32) (S_needed : Nat → Int32) : va_W := zSG S_a S_b (fun i => .inr (7, [.int (S_who i), .int (S_against i), .int (S_kind i), .int (S_won i), .int (S_day i), .int (S_land i), .int (S_undoneFrom i), .ref (S_b i), .int (S_askedCount i), .int (S_askedBits i), .int (S_first i), .int (S_foundSo i), .int (S_foundNot i), .int (S_fought i), .int (S_needed i)])) (fun i => .inl (cs 0, 32, .inl (S_asked i))) n
theorem zSu_ok {cs : Nat → ClassId} {LP : va_W} {n : Int32} {suits : Nat → Option Nat} {S_a S_b : Nat → Nat} {S_who : Nat → Int32} {S_against : Nat → Int32} {S_kind : Nat → Int32} {S_won : Nat → Int32} {S_day : Nat → Int32} {S_land : Nat → Int32} {S_undoneFrom : Nat → Int32} {S_asked : Nat → Nat → Int32} {S_askedCount : Nat → Int32} {S_askedBits : Nat → Int32} {S_first : Nat → Int32} {S_foundSo : Nat → Int32} {S_foundNot : Nat → Int32} {S_fought : Nat → Int32} {S_needed : Nat → Int32} (h : ∀ i, i < n.toInt.toNat → suits i = some (S_a i)) : PSu cs (zSu cs S_a S_b n.toInt.toNat S_who S_against S_kind S_won S_day S_land S_undoneFrom S_asked S_askedCount S_askedBits S_first S_foundSo S_foundNot S_fought S_needed ++ LP) n suits S_a S_b S_who S_against S_kind S_won S_day S_land S_undoneFrom S_asked S_askedCount S_askedBits S_first S_foundSo S_foundNot S_fought S_needed := fun i hi => by
  have hl : 2 * i + 1 < (zSu cs S_a S_b n.toInt.toNat S_who S_against S_kind S_won S_day S_land S_undoneFrom S_asked S_askedCount S_askedBits S_first S_foundSo S_foundNot S_fought S_needed).length := by unfold zSu; rw [zSG_len]; omega
  have h2 := zSG_at (S_a := S_a) (S_b := S_b) (o := fun i => .inr (7, [.int (S_who i), .int (S_against i), .int (S_kind i), .int (S_won i), .int (S_day i), .int (S_land i), .int (S_undoneFrom i), .ref (S_b i), .int (S_askedCount i), .int (S_askedBits i), .int (S_first i), .int (S_foundSo i), .int (S_foundNot i), .int (S_fought i), .int (S_needed i)])) (a := fun i => .inl (cs 0, 32, .inl (S_asked i))) n.toInt.toNat i hi
  exact ⟨h i hi, ⟨2 * i, by rw [List.getElem?_append_left (by omega)]; exact h2.1⟩, ⟨2 * i + 1, by rw [List.getElem?_append_left hl]; exact h2.2⟩⟩
theorem zSu_at {cs : Nat → ClassId} {X LP : va_W} {n nx : Nat} {S_a S_b : Nat → Nat} {S_who : Nat → Int32} {S_against : Nat → Int32} {S_kind : Nat → Int32} {S_won : Nat → Int32} {S_day : Nat → Int32} {S_land : Nat → Int32} {S_undoneFrom : Nat → Int32} {S_asked : Nat → Nat → Int32} {S_askedCount : Nat → Int32} {S_askedBits : Nat → Int32} {S_first : Nat → Int32} {S_foundSo : Nat → Int32} {S_foundNot : Nat → Int32} {S_fought : Nat → Int32} {S_needed : Nat → Int32} {i : Nat} (hX : X.length = nx) (hi : i < n) : (X ++ (zSu cs S_a S_b n S_who S_against S_kind S_won S_day S_land S_undoneFrom S_asked S_askedCount S_askedBits S_first S_foundSo S_foundNot S_fought S_needed ++ LP))[nx + 2 * i]? = some (S_a i, .inr (7, [.int (S_who i), .int (S_against i), .int (S_kind i), .int (S_won i), .int (S_day i), .int (S_land i), .int (S_undoneFrom i), .ref (S_b i), .int (S_askedCount i), .int (S_askedBits i), .int (S_first i), .int (S_foundSo i), .int (S_foundNot i), .int (S_fought i), .int (S_needed i)])) := by
  have hl : 2 * i < (zSu cs S_a S_b n S_who S_against S_kind S_won S_day S_land S_undoneFrom S_asked S_askedCount S_askedBits S_first S_foundSo S_foundNot S_fought S_needed).length := by unfold zSu; rw [zSG_len]; omega
  refine zPm ?_ hX
  rw [List.getElem?_append_left hl]
  exact (zSG_at (S_a := S_a) (S_b := S_b) (o := fun i => .inr (7, [.int (S_who i), .int (S_against i), .int (S_kind i), .int (S_won i), .int (S_day i), .int (S_land i), .int (S_undoneFrom i), .ref (S_b i), .int (S_askedCount i), .int (S_askedBits i), .int (S_first i), .int (S_foundSo i), .int (S_foundNot i), .int (S_fought i), .int (S_needed i)])) (a := fun i => .inl (cs 0, 32, .inl (S_asked i))) n i hi).1
theorem zSu_won {cs : Nat → ClassId} {X LP : va_W} {n nx : Nat} {S_a S_b : Nat → Nat} {S_who : Nat → Int32} {S_against : Nat → Int32} {S_kind : Nat → Int32} {S_won : Nat → Int32} {S_day : Nat → Int32} {S_land : Nat → Int32} {S_undoneFrom : Nat → Int32} {S_asked : Nat → Nat → Int32} {S_askedCount : Nat → Int32} {S_askedBits : Nat → Int32} {S_first : Nat → Int32} {S_foundSo : Nat → Int32} {S_foundNot : Nat → Int32} {S_fought : Nat → Int32} {S_needed : Nat → Int32} {i : Nat} {v : Int32} (hX : X.length = nx) (hi : i < n) : (X ++ (zSu cs S_a S_b n S_who S_against S_kind S_won S_day S_land S_undoneFrom S_asked S_askedCount S_askedBits S_first S_foundSo S_foundNot S_fought S_needed ++ LP)).set (nx + 2 * i) (S_a i, .inr (7, [.int (S_who i), .int (S_against i), .int (S_kind i), .int (S_won i), .int (S_day i), .int (S_land i), .int (S_undoneFrom i), .ref (S_b i), .int (S_askedCount i), .int (S_askedBits i), .int (S_first i), .int (S_foundSo i), .int (S_foundNot i), .int (S_fought i), .int (S_needed i)].set 3 (.int v))) = X ++ (zSu cs S_a S_b n S_who S_against S_kind (upd S_won i v) S_day S_land S_undoneFrom S_asked S_askedCount S_askedBits S_first S_foundSo S_foundNot S_fought S_needed ++ LP) := by
  have hl : 2 * i < (zSu cs S_a S_b n S_who S_against S_kind S_won S_day S_land S_undoneFrom S_asked S_askedCount S_askedBits S_first S_foundSo S_foundNot S_fought S_needed).length := by unfold zSu; rw [zSG_len]; omega
  rw [List.set_append_right _ _ (by omega), ← hX, Nat.add_sub_cancel_left, List.set_append_left _ _ hl]
  congr 2
  have e : ∀ z w : Nat, (upd S_won i v) i = v := fun _ _ => by unfold upd; rw [if_pos rfl]
  have key := zSG_set (S_a := S_a) (S_b := S_b) (o := fun i => .inr (7, [.int (S_who i), .int (S_against i), .int (S_kind i), .int (S_won i), .int (S_day i), .int (S_land i), .int (S_undoneFrom i), .ref (S_b i), .int (S_askedCount i), .int (S_askedBits i), .int (S_first i), .int (S_foundSo i), .int (S_foundNot i), .int (S_fought i), .int (S_needed i)])) (o' := fun k => (fun (S_won : Nat → Int32) (i : Nat) => (.inr (7, [.int (S_who i), .int (S_against i), .int (S_kind i), .int (S_won i), .int (S_day i), .int (S_land i), .int (S_undoneFrom i), .ref (S_b i), .int (S_askedCount i), .int (S_askedBits i), .int (S_first i), .int (S_foundSo i), .int (S_foundNot i), .int (S_fought i), .int (S_needed i)]) : va_E)) (upd S_won i v) k) (a := fun i => .inl (cs 0, 32, .inl (S_asked i))) n i hi (fun k hk => by
    show (.inr (7, [.int (S_who k), .int (S_against k), .int (S_kind k), .int (upd S_won i v k), .int (S_day k), .int (S_land k), .int (S_undoneFrom k), .ref (S_b k), .int (S_askedCount k), .int (S_askedBits k), .int (S_first k), .int (S_foundSo k), .int (S_foundNot k), .int (S_fought k), .int (S_needed k)]) : va_E) = _
    unfold upd
    rw [if_neg hk])
  unfold zSu
  refine Eq.trans ?_ key
  show _ = (zSG S_a S_b _ _ n).set (2 * i) (S_a i, .inr (7, [.int (S_who i), .int (S_against i), .int (S_kind i), .int (upd S_won i v i), .int (S_day i), .int (S_land i), .int (S_undoneFrom i), .ref (S_b i), .int (S_askedCount i), .int (S_askedBits i), .int (S_first i), .int (S_foundSo i), .int (S_foundNot i), .int (S_fought i), .int (S_needed i)]))
  rw [e 0 0]
  rfl
theorem zSu_undoneFrom {cs : Nat → ClassId} {X LP : va_W} {n nx : Nat} {S_a S_b : Nat → Nat} {S_who : Nat → Int32} {S_against : Nat → Int32} {S_kind : Nat → Int32} {S_won : Nat → Int32} {S_day : Nat → Int32} {S_land : Nat → Int32} {S_undoneFrom : Nat → Int32} {S_asked : Nat → Nat → Int32} {S_askedCount : Nat → Int32} {S_askedBits : Nat → Int32} {S_first : Nat → Int32} {S_foundSo : Nat → Int32} {S_foundNot : Nat → Int32} {S_fought : Nat → Int32} {S_needed : Nat → Int32} {i : Nat} {v : Int32} (hX : X.length = nx) (hi : i < n) : (X ++ (zSu cs S_a S_b n S_who S_against S_kind S_won S_day S_land S_undoneFrom S_asked S_askedCount S_askedBits S_first S_foundSo S_foundNot S_fought S_needed ++ LP)).set (nx + 2 * i) (S_a i, .inr (7, [.int (S_who i), .int (S_against i), .int (S_kind i), .int (S_won i), .int (S_day i), .int (S_land i), .int (S_undoneFrom i), .ref (S_b i), .int (S_askedCount i), .int (S_askedBits i), .int (S_first i), .int (S_foundSo i), .int (S_foundNot i), .int (S_fought i), .int (S_needed i)].set 6 (.int v))) = X ++ (zSu cs S_a S_b n S_who S_against S_kind S_won S_day S_land (upd S_undoneFrom i v) S_asked S_askedCount S_askedBits S_first S_foundSo S_foundNot S_fought S_needed ++ LP) := by
  have hl : 2 * i < (zSu cs S_a S_b n S_who S_against S_kind S_won S_day S_land S_undoneFrom S_asked S_askedCount S_askedBits S_first S_foundSo S_foundNot S_fought S_needed).length := by unfold zSu; rw [zSG_len]; omega
  rw [List.set_append_right _ _ (by omega), ← hX, Nat.add_sub_cancel_left, List.set_append_left _ _ hl]
  congr 2
  have e : ∀ z w : Nat, (upd S_undoneFrom i v) i = v := fun _ _ => by unfold upd; rw [if_pos rfl]
  have key := zSG_set (S_a := S_a) (S_b := S_b) (o := fun i => .inr (7, [.int (S_who i), .int (S_against i), .int (S_kind i), .int (S_won i), .int (S_day i), .int (S_land i), .int (S_undoneFrom i), .ref (S_b i), .int (S_askedCount i), .int (S_askedBits i), .int (S_first i), .int (S_foundSo i), .int (S_foundNot i), .int (S_fought i), .int (S_needed i)])) (o' := fun k => (fun (S_undoneFrom : Nat → Int32) (i : Nat) => (.inr (7, [.int (S_who i), .int (S_against i), .int (S_kind i), .int (S_won i), .int (S_day i), .int (S_land i), .int (S_undoneFrom i), .ref (S_b i), .int (S_askedCount i), .int (S_askedBits i), .int (S_first i), .int (S_foundSo i), .int (S_foundNot i), .int (S_fought i), .int (S_needed i)]) : va_E)) (upd S_undoneFrom i v) k) (a := fun i => .inl (cs 0, 32, .inl (S_asked i))) n i hi (fun k hk => by
    show (.inr (7, [.int (S_who k), .int (S_against k), .int (S_kind k), .int (S_won k), .int (S_day k), .int (S_land k), .int (upd S_undoneFrom i v k), .ref (S_b k), .int (S_askedCount k), .int (S_askedBits k), .int (S_first k), .int (S_foundSo k), .int (S_foundNot k), .int (S_fought k), .int (S_needed k)]) : va_E) = _
    unfold upd
    rw [if_neg hk])
  unfold zSu
  refine Eq.trans ?_ key
  show _ = (zSG S_a S_b _ _ n).set (2 * i) (S_a i, .inr (7, [.int (S_who i), .int (S_against i), .int (S_kind i), .int (S_won i), .int (S_day i), .int (S_land i), .int (upd S_undoneFrom i v i), .ref (S_b i), .int (S_askedCount i), .int (S_askedBits i), .int (S_first i), .int (S_foundSo i), .int (S_foundNot i), .int (S_fought i), .int (S_needed i)]))
  rw [e 0 0]
  rfl

