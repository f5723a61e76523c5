theorem kw_68 : Cond.selects RX12 yX12_meritsSettles yX12_meritsSettles ∈ zW := zwI (i := 68) (by decide +kernel) (by decide +kernel)
theorem kw_69 : Cond.selects RX12 yX12_binds yX12_binds ∈ zW := zwI (i := 69) (by decide +kernel) (by decide +kernel)
theorem kw_1842 : Cond.methodLink RX12 407 yX12_meritsSettles ∈ zW := zwC (i := 88) zc_8 rfl rfl
theorem kw_1844 : Cond.instanceMethod yX12_meritsSettles ∈ zW := zwC (i := 90) zc_8 rfl rfl
theorem kw_1845 : Cond.code yX12_meritsSettles cX12_meritsSettles 3 (some .int) ∈ zW := zwC (i := 91) zc_8 rfl rfl
theorem kw_1846 : Cond.methodLink RX12 410 yX12_binds ∈ zW := zwC (i := 92) zc_8 rfl rfl
theorem kw_1848 : Cond.instanceMethod yX12_binds ∈ zW := zwC (i := 94) zc_8 rfl rfl
theorem kw_1849 : Cond.code yX12_binds cX12_binds 3 (some .int) ∈ zW := zwC (i := 95) zc_8 rfl rfl
theorem zh_cX12_settles_0 : zck [42, 27, 182, 0, 237, 62, 29, 7, 160, 0, 17, 42, 16, 50, 182, 1, 139, 42, 27, 28, 182, 1] (zdu 0 cX12_settles.data.toList) = true := by decide +kernel
theorem dX12_settles_0 : decode cX12_settles 0 = .ok (.aload_n 0, 1) := zo_42 zh_cX12_settles_0 0 rfl
theorem dX12_settles_1 : decode cX12_settles 1 = .ok (.iload_n 1, 1) := zo_27 zh_cX12_settles_0 1 rfl
theorem dX12_settles_2 : decode cX12_settles 2 = .ok (.invokevirtual 237, 3) := zo_182 zh_cX12_settles_0 2 rfl
theorem dX12_settles_5 : decode cX12_settles 5 = .ok (.istore_n 3, 1) := zo_62 zh_cX12_settles_0 5 rfl
theorem dX12_settles_6 : decode cX12_settles 6 = .ok (.iload_n 3, 1) := zo_29 zh_cX12_settles_0 6 rfl
theorem dX12_settles_7 : decode cX12_settles 7 = .ok (.iconst 4, 1) := zo_7 zh_cX12_settles_0 7 rfl
theorem dX12_settles_8 : decode cX12_settles 8 = .ok (.if_icmp .ne 17, 3) := zo_p160 zh_cX12_settles_0 8 17 rfl rfl
theorem dX12_settles_11 : decode cX12_settles 11 = .ok (.aload_n 0, 1) := zo_42 zh_cX12_settles_0 11 rfl
theorem dX12_settles_12 : decode cX12_settles 12 = .ok (.bipush 50, 2) := zo_p16 zh_cX12_settles_0 12 50 rfl rfl
theorem dX12_settles_14 : decode cX12_settles 14 = .ok (.invokevirtual 395, 3) := zo_182 zh_cX12_settles_0 14 rfl
theorem dX12_settles_17 : decode cX12_settles 17 = .ok (.aload_n 0, 1) := zo_42 zh_cX12_settles_0 17 rfl
theorem dX12_settles_18 : decode cX12_settles 18 = .ok (.iload_n 1, 1) := zo_27 zh_cX12_settles_0 18 rfl
theorem dX12_settles_19 : decode cX12_settles 19 = .ok (.iload_n 2, 1) := zo_28 zh_cX12_settles_0 19 rfl
theorem zh_cX12_settles_1 : zck [182, 1, 148, 116, 172, 29, 16, 6, 160, 0, 27, 42, 16, 71, 182, 1, 139, 42, 27, 28, 182, 1] (zdu 20 cX12_settles.data.toList) = true := by decide +kernel
theorem dX12_settles_20 : decode cX12_settles 20 = .ok (.invokevirtual 404, 3) := zo_182 zh_cX12_settles_1 0 rfl
theorem dX12_settles_23 : decode cX12_settles 23 = .ok (.ineg, 1) := zo_116 zh_cX12_settles_1 3 rfl
theorem dX12_settles_24 : decode cX12_settles 24 = .ok (.ireturn, 1) := zo_172 zh_cX12_settles_1 4 rfl
theorem dX12_settles_25 : decode cX12_settles 25 = .ok (.iload_n 3, 1) := zo_29 zh_cX12_settles_1 5 rfl
theorem dX12_settles_26 : decode cX12_settles 26 = .ok (.bipush 6, 2) := zo_p16 zh_cX12_settles_1 6 6 rfl rfl
theorem dX12_settles_28 : decode cX12_settles 28 = .ok (.if_icmp .ne 27, 3) := zo_p160 zh_cX12_settles_1 8 27 rfl rfl
theorem dX12_settles_31 : decode cX12_settles 31 = .ok (.aload_n 0, 1) := zo_42 zh_cX12_settles_1 11 rfl
theorem dX12_settles_32 : decode cX12_settles 32 = .ok (.bipush 71, 2) := zo_p16 zh_cX12_settles_1 12 71 rfl rfl
theorem dX12_settles_34 : decode cX12_settles 34 = .ok (.invokevirtual 395, 3) := zo_182 zh_cX12_settles_1 14 rfl
theorem dX12_settles_37 : decode cX12_settles 37 = .ok (.aload_n 0, 1) := zo_42 zh_cX12_settles_1 17 rfl
theorem dX12_settles_38 : decode cX12_settles 38 = .ok (.iload_n 1, 1) := zo_27 zh_cX12_settles_1 18 rfl
theorem dX12_settles_39 : decode cX12_settles 39 = .ok (.iload_n 2, 1) := zo_28 zh_cX12_settles_1 19 rfl
theorem zh_cX12_settles_2 : zck [182, 1, 151, 54, 4, 21, 4, 42, 27, 5, 182, 1, 154, 100, 172, 29, 4, 160, 0, 12, 42, 27] (zdu 40 cX12_settles.data.toList) = true := by decide +kernel
theorem dX12_settles_40 : decode cX12_settles 40 = .ok (.invokevirtual 407, 3) := zo_182 zh_cX12_settles_2 0 rfl
theorem dX12_settles_43 : decode cX12_settles 43 = .ok (.istore 4, 2) := zo_54 zh_cX12_settles_2 3 rfl
theorem dX12_settles_45 : decode cX12_settles 45 = .ok (.iload 4, 2) := zo_21 zh_cX12_settles_2 5 rfl
theorem dX12_settles_47 : decode cX12_settles 47 = .ok (.aload_n 0, 1) := zo_42 zh_cX12_settles_2 7 rfl
theorem dX12_settles_48 : decode cX12_settles 48 = .ok (.iload_n 1, 1) := zo_27 zh_cX12_settles_2 8 rfl
theorem dX12_settles_49 : decode cX12_settles 49 = .ok (.iconst 2, 1) := zo_5 zh_cX12_settles_2 9 rfl
theorem dX12_settles_50 : decode cX12_settles 50 = .ok (.invokevirtual 410, 3) := zo_182 zh_cX12_settles_2 10 rfl
theorem dX12_settles_53 : decode cX12_settles 53 = .ok (.isub, 1) := zo_100 zh_cX12_settles_2 13 rfl
theorem dX12_settles_54 : decode cX12_settles 54 = .ok (.ireturn, 1) := zo_172 zh_cX12_settles_2 14 rfl
theorem dX12_settles_55 : decode cX12_settles 55 = .ok (.iload_n 3, 1) := zo_29 zh_cX12_settles_2 15 rfl
theorem dX12_settles_56 : decode cX12_settles 56 = .ok (.iconst 1, 1) := zo_4 zh_cX12_settles_2 16 rfl
theorem dX12_settles_57 : decode cX12_settles 57 = .ok (.if_icmp .ne 12, 3) := zo_p160 zh_cX12_settles_2 17 12 rfl rfl
theorem zh_cX12_settles_3 : zck [42, 27, 28, 182, 1, 151, 167, 0, 9, 42, 27, 28, 182, 1, 148, 172] (zdu 60 cX12_settles.data.toList) = true := by decide +kernel
theorem dX12_settles_60 : decode cX12_settles 60 = .ok (.aload_n 0, 1) := zo_42 zh_cX12_settles_3 0 rfl
theorem dX12_settles_61 : decode cX12_settles 61 = .ok (.iload_n 1, 1) := zo_27 zh_cX12_settles_3 1 rfl
theorem dX12_settles_62 : decode cX12_settles 62 = .ok (.iload_n 2, 1) := zo_28 zh_cX12_settles_3 2 rfl
theorem dX12_settles_63 : decode cX12_settles 63 = .ok (.invokevirtual 407, 3) := zo_182 zh_cX12_settles_3 3 rfl
theorem dX12_settles_66 : decode cX12_settles 66 = .ok (.goto 9, 3) := zo_p167 zh_cX12_settles_3 6 9 rfl rfl
theorem dX12_settles_69 : decode cX12_settles 69 = .ok (.aload_n 0, 1) := zo_42 zh_cX12_settles_3 9 rfl
theorem dX12_settles_70 : decode cX12_settles 70 = .ok (.iload_n 1, 1) := zo_27 zh_cX12_settles_3 10 rfl
theorem dX12_settles_71 : decode cX12_settles 71 = .ok (.iload_n 2, 1) := zo_28 zh_cX12_settles_3 11 rfl
theorem dX12_settles_72 : decode cX12_settles 72 = .ok (.invokevirtual 404, 3) := zo_182 zh_cX12_settles_3 12 rfl
theorem dX12_settles_75 : decode cX12_settles 75 = .ok (.ireturn, 1) := zo_172 zh_cX12_settles_3 15 rfl
abbrev z_X12_settles : List Cond := .code yX12_settles cX12_settles 5 (some .int) :: zW
abbrev wl_X12_settles (ad : Nat → Nat) (cs : Nat → ClassId)  (mod_code : Int32) (mod_shoes : Int32) (mod_claims : Int32) (mod_taped : Int32) (mod_here : Int32) (mod_fault : Int32) (mod_suits : Int32) (mod_doneMany : Int32) (mod_undoneMany : Int32) (mod_open : Int32) (mod_laid : Int32) (mod_isBoth : Int32) (mod_wished : Int32) (mod_bestMany : Int32) (mod_bestRow : Int32) (mod_ringDigits : Int32) (mod_traces : Int32) (mod_endKind : Nat → Int32) (mod_undoneFrom : Nat → Int32) (mod_askedMany : Nat → Int32) (mod_traced : Nat → Int32) : va_W := [((ad 41), .inr (12, [.int mod_code, .int mod_shoes, .ref (ad 42), .ref (ad 43), .ref (ad 44), .ref (ad 45), .int mod_claims, .ref (ad 46), .ref (ad 47), .ref (ad 48), .ref (ad 49), .ref (ad 50), .int mod_taped, .int mod_here, .int mod_fault, .int mod_suits, .ref (ad 51), .ref (ad 52), .ref (ad 53), .ref (ad 54), .ref (ad 55), .ref (ad 56), .ref (ad 57), .ref (ad 58), .ref (ad 59), .ref (ad 60), .ref (ad 61), .int mod_doneMany, .int mod_undoneMany, .ref (ad 62), .ref (ad 63), .ref (ad 64), .ref (ad 65), .int mod_open, .int mod_laid, .ref (ad 66), .ref (ad 67), .ref (ad 68), .ref (ad 69), .ref (ad 70), .ref (ad 71), .ref (ad 72), .ref (ad 73), .ref (ad 74), .ref (ad 75), .int mod_isBoth, .int mod_wished, .ref (ad 76), .ref (ad 77), .int mod_bestMany, .int mod_bestRow, .ref (ad 78), .ref (ad 79), .int mod_ringDigits, .int mod_traces, .ref (ad 80), .ref (ad 81), .ref (ad 82), .ref (ad 83), .ref (ad 84)])), ((ad 53), .inl (cs 0, 45, .inl mod_endKind)), ((ad 57), .inl (cs 0, 45, .inl mod_undoneFrom)), ((ad 58), .inl (cs 0, 45, .inl mod_askedMany)), ((ad 80), .inl (cs 0, 24, .inl mod_traced))]
def Q_X12_settles (D : va_G) (cs : Nat → ClassId) (ad : Nat → Nat)  (mod_code : Int32) (mod_shoes : Int32) (mod_claims : Int32) (mod_taped : Int32) (mod_here : Int32) (mod_fault : Int32) (mod_suits : Int32) (mod_doneMany : Int32) (mod_undoneMany : Int32) (mod_open : Int32) (mod_laid : Int32) (mod_isBoth : Int32) (mod_wished : Int32) (mod_bestMany : Int32) (mod_bestRow : Int32) (mod_ringDigits : Int32) (mod_endKind : Nat → Int32) (mod_undoneFrom : Nat → Int32) (mod_askedMany : Nat → Int32) (A : Nat → Prop) (R : Int32 × Int32 × (Nat → Int32)) : Array Value → State → Outcome → State → Prop :=
  va_Qi (fun (r : Int32) (u : Int32 × (Nat → Int32)) => (r, u) = R) (fun (u : Int32 × (Nat → Int32)) (t : State) => va_P D classes (wl_X12_settles ad cs mod_code mod_shoes mod_claims mod_taped mod_here mod_fault mod_suits mod_doneMany mod_undoneMany mod_open mod_laid mod_isBoth mod_wished mod_bestMany mod_bestRow mod_ringDigits u.1 mod_endKind mod_undoneFrom mod_askedMany u.2) t.heap ∧ va_D A (wl_X12_settles ad cs mod_code mod_shoes mod_claims mod_taped mod_here mod_fault mod_suits mod_doneMany mod_undoneMany mod_open mod_laid mod_isBoth mod_wished mod_bestMany mod_bestRow mod_ringDigits u.1 mod_endKind mod_undoneFrom mod_askedMany u.2)) A
abbrev rm_X12_settles : Room := { frames := 5, cells := 0, slots := 0, locals := 110 }
theorem g_X12_407 : GoodIn zW (wsV RX12 407 RX12 yX12_meritsSettles z_X12_meritsSettles) := zGV kw_1842 kw_1844 kw_68 kw_95 kw_1845
theorem g_X12_410 : GoodIn zW (wsV RX12 410 RX12 yX12_binds z_X12_binds) := zGV kw_1846 kw_1848 kw_69 kw_95 kw_1849
theorem hd_X12_binds : yX12_binds.cls ≠ "java/lang/invoke/MethodHandle" ∧ yX12_binds.cls ≠ "java/lang/invoke/VarHandle" ∧ (parseMethodDescriptor yX12_binds.desc).map (fun d => d.parameters.length) = some 2 := by decide +kernel
theorem hd_X12_meritsSettles : yX12_meritsSettles.cls ≠ "java/lang/invoke/MethodHandle" ∧ yX12_meritsSettles.cls ≠ "java/lang/invoke/VarHandle" ∧ (parseMethodDescriptor yX12_meritsSettles.desc).map (fun d => d.parameters.length) = some 2 := by decide +kernel
def B_X12_settles_0    (mod_code : Int32) (mod_shoes : Int32) (mod_claims : Int32) (mod_taped : Int32) (mod_here : Int32) (mod_fault : Int32) (mod_suits : Int32) (mod_doneMany : Int32) (mod_undoneMany : Int32) (mod_open : Int32) (mod_laid : Int32) (mod_isBoth : Int32) (mod_wished : Int32) (mod_bestMany : Int32) (mod_bestRow : Int32) (mod_ringDigits : Int32) (mod_endKind : Nat → Int32) (mod_undoneFrom : Nat → Int32) (mod_askedMany : Nat → Int32) (x1 : Int32) (x2 : Int32) (mod_traces : Int32) (mod_traced : Nat → Int32) : Option (Int32 × Int32 × (Nat → Int32)) :=
  (zk_b2 (f_X12_bodyKind x1 mod_code mod_shoes mod_claims mod_taped mod_here mod_fault mod_suits mod_doneMany mod_undoneMany mod_open mod_laid mod_isBoth mod_wished mod_bestMany mod_bestRow mod_ringDigits mod_traces mod_endKind mod_undoneFrom) (fun r_1 u_2 => (if r_1 = (4 : Int32) then (zk_b2 (f_X12_ran (50 : Int32) mod_code mod_shoes mod_claims mod_taped mod_here mod_fault mod_suits mod_doneMany mod_undoneMany mod_open mod_laid mod_isBoth mod_wished mod_bestMany mod_bestRow mod_ringDigits mod_traces mod_traced) (fun u_26 u_27 => (zk_b3 (f_X12_plainSettles x1 x2 mod_code mod_shoes mod_claims mod_taped mod_here mod_fault mod_suits mod_doneMany mod_undoneMany mod_open mod_laid mod_isBoth mod_wished mod_bestMany mod_bestRow mod_ringDigits u_26 mod_endKind mod_undoneFrom mod_askedMany u_27) (fun r_29 u_30 u_31 => (some (-r_29, u_30, u_31)))))) else (if r_1 = (6 : Int32) then (zk_b2 (f_X12_ran (71 : Int32) mod_code mod_shoes mod_claims mod_taped mod_here mod_fault mod_suits mod_doneMany mod_undoneMany mod_open mod_laid mod_isBoth mod_wished mod_bestMany mod_bestRow mod_ringDigits mod_traces mod_traced) (fun u_15 u_16 => (zk_b3 (f_X12_meritsSettles x1 x2 mod_code mod_shoes mod_claims mod_taped mod_here mod_fault mod_suits mod_doneMany mod_undoneMany mod_open mod_laid mod_isBoth mod_wished mod_bestMany mod_bestRow mod_ringDigits u_15 mod_endKind mod_undoneFrom mod_askedMany u_16) (fun r_18 u_19 u_20 => (zk_b3 (f_X12_binds x1 (2 : Int32) mod_code mod_shoes mod_claims mod_taped mod_here mod_fault mod_suits mod_doneMany mod_undoneMany mod_open mod_laid mod_isBoth mod_wished mod_bestMany mod_bestRow mod_ringDigits u_19 mod_endKind mod_undoneFrom u_20) (fun r_22 u_23 u_24 => (some (r_18 - r_22, u_23, u_24)))))))) else (if r_1 = (1 : Int32) then (zk_b3 (f_X12_meritsSettles x1 x2 mod_code mod_shoes mod_claims mod_taped mod_here mod_fault mod_suits mod_doneMany mod_undoneMany mod_open mod_laid mod_isBoth mod_wished mod_bestMany mod_bestRow mod_ringDigits mod_traces mod_endKind mod_undoneFrom mod_askedMany mod_traced) (fun r_11 u_12 u_13 => (some (r_11, u_12, u_13)))) else (zk_b3 (f_X12_plainSettles x1 x2 mod_code mod_shoes mod_claims mod_taped mod_here mod_fault mod_suits mod_doneMany mod_undoneMany mod_open mod_laid mod_isBoth mod_wished mod_bestMany mod_bestRow mod_ringDigits mod_traces mod_endKind mod_undoneFrom mod_askedMany mod_traced) (fun r_7 u_8 u_9 => (some (r_7, u_8, u_9)))))))))
def f_X12_settles   (x1 : Int32) (x2 : Int32) (mod_code : Int32) (mod_shoes : Int32) (mod_claims : Int32) (mod_taped : Int32) (mod_here : Int32) (mod_fault : Int32) (mod_suits : Int32) (mod_doneMany : Int32) (mod_undoneMany : Int32) (mod_open : Int32) (mod_laid : Int32) (mod_isBoth : Int32) (mod_wished : Int32) (mod_bestMany : Int32) (mod_bestRow : Int32) (mod_ringDigits : Int32) (mod_traces : Int32) (mod_endKind : Nat → Int32) (mod_undoneFrom : Nat → Int32) (mod_askedMany : Nat → Int32) (mod_traced : Nat → Int32) : Option (Int32 × Int32 × (Nat → Int32)) := B_X12_settles_0   mod_code mod_shoes mod_claims mod_taped mod_here mod_fault mod_suits mod_doneMany mod_undoneMany mod_open mod_laid mod_isBoth mod_wished mod_bestMany mod_bestRow mod_ringDigits mod_endKind mod_undoneFrom mod_askedMany x1 x2 mod_traces mod_traced
set_option maxHeartbeats 4000000 in
set_option maxRecDepth 100000 in
theorem L_X12_settles_0 {p : Program} {l : Launch} {e : Env} {s : State} {m : MethodId} {args : Array Value} {below : List Frame} {meth : Method} {c : Code} {A : Nat → Prop} {D : va_G} {cs : Nat → ClassId} {ad : Nat → Nat} {mod_code : Int32} {mod_shoes : Int32} {mod_claims : Int32} {mod_taped : Int32} {mod_here : Int32} {mod_fault : Int32} {mod_suits : Int32} {mod_doneMany : Int32} {mod_undoneMany : Int32} {mod_open : Int32} {mod_laid : Int32} {mod_isBoth : Int32} {mod_wished : Int32} {mod_bestMany : Int32} {mod_bestRow : Int32} {mod_ringDigits : Int32} {mod_endKind : Nat → Int32} {mod_undoneFrom : Nat → Int32} {mod_askedMany : Nat → Int32} {R : Int32 × Int32 × (Nat → Int32)} (C0 : zC p s m args meth c cX12_settles 5 (some .int) RX12 zW) (hK : va_K D classes (zT cs) s) (hA : ∀ q : Nat, s.heap.size ≤ q → A q) (x1 : Int32) (x2 : Int32) (mod_traces : Int32) (mod_traced : Nat → Int32) (h : B_X12_settles_0 mod_code mod_shoes mod_claims mod_taped mod_here mod_fault mod_suits mod_doneMany mod_undoneMany mod_open mod_laid mod_isBoth mod_wished mod_bestMany mod_bestRow mod_ringDigits mod_endKind mod_undoneFrom mod_askedMany x1 x2 mod_traces mod_traced = some R) (H : Heap) (locs : List Loc) (ls : Array Slot) (hP : va_P D classes (wl_X12_settles ad cs mod_code mod_shoes mod_claims mod_taped mod_here mod_fault mod_suits mod_doneMany mod_undoneMany mod_open mod_laid mod_isBoth mod_wished mod_bestMany mod_bestRow mod_ringDigits mod_traces mod_endKind mod_undoneFrom mod_askedMany mod_traced) H) (hD : va_D A (wl_X12_settles ad cs mod_code mod_shoes mod_claims mod_taped mod_here mod_fault mod_suits mod_doneMany mod_undoneMany mod_open mod_laid mod_isBoth mod_wished mod_bestMany mod_bestRow mod_ringDigits mod_traces mod_endKind mod_undoneFrom mod_askedMany mod_traced)) (hS : va_S A s.heap H locs) (hl : lv_has ls 5 [(0, .ref (ad 41)), (1, .int x1), (2, .int x2)]) : W p l e rm_X12_settles s m args below meth c H locs 0 0 (MQ below (Q_X12_settles D cs ad mod_code mod_shoes mod_claims mod_taped mod_here mod_fault mod_suits mod_doneMany mod_undoneMany mod_open mod_laid mod_isBoth mod_wished mod_bestMany mod_bestRow mod_ringDigits mod_endKind mod_undoneFrom mod_askedMany A R) args s 0 0 A) (F0 m 0 ls []) := by
  obtain ⟨hx, hb, hr, hml, hown, ht, hlocks⟩ := id C0
  refine lv_aload_n hx hb dX12_settles_0 rfl (lv_at hl 0 rfl) ?_
  refine lv_iload_n hx hb dX12_settles_1 rfl (lv_at hl 1 rfl) ?_
  obtain ⟨r_1, u_2, hc_3, h⟩ := zk_o2 h
  refine zz_vi (post := (fun r u => (r, u) = (r_1, u_2))) (w1 := fun u => (wl_X12_bodyKind ad cs mod_code mod_shoes mod_claims mod_taped mod_here mod_fault mod_suits mod_doneMany mod_undoneMany mod_open mod_laid mod_isBoth mod_wished mod_bestMany mod_bestRow mod_ringDigits mod_traces mod_endKind mod_undoneFrom)) (As := [.int x1]) (rest := []) (c_X12_bodyKind l D cs ad  H.size x1 mod_code mod_shoes mod_claims mod_taped mod_here mod_fault mod_suits mod_doneMany mod_undoneMany mod_open mod_laid mod_isBoth mod_wished mod_bestMany mod_bestRow mod_ringDigits mod_traces mod_endKind mod_undoneFrom (r_1, u_2) hc_3) ⟨hx, hb, hml, hown, ht⟩ (cwV 1 ht g_X12_237 rfl rfl rfl ⟨rfl, hd_X12_bodyKind⟩ ⟨Nat.le_of_ble_eq_true rfl, Nat.le_of_ble_eq_true rfl⟩) (va_recv hK hP (ci := 12) (q0 := 0) rfl rfl) hP hD hS hK hA [0, 1, 2] rfl rfl [(ad 41), (ad 53), (ad 57)] rfl (fun _ => rfl) rfl hl.1 (Nat.le_of_ble_eq_true rfl) dX12_settles_2 ⟨Nat.zero_le _, Nat.zero_le _⟩ (fun r u H locs hq hP hS => ?_)
  cases hq
  have hP : va_P D classes (wl_X12_settles ad cs mod_code mod_shoes mod_claims mod_taped mod_here mod_fault mod_suits mod_doneMany mod_undoneMany mod_open mod_laid mod_isBoth mod_wished mod_bestMany mod_bestRow mod_ringDigits mod_traces mod_endKind mod_undoneFrom mod_askedMany mod_traced) H := hP
  have hD : va_D A (wl_X12_settles ad cs mod_code mod_shoes mod_claims mod_taped mod_here mod_fault mod_suits mod_doneMany mod_undoneMany mod_open mod_laid mod_isBoth mod_wished mod_bestMany mod_bestRow mod_ringDigits mod_traces mod_endKind mod_undoneFrom mod_askedMany mod_traced) := zDk hD [(ad 41), (ad 53), (ad 57), (ad 58), (ad 80)] rfl rfl
  refine lv_istore_n (lv' := [(3, .int r_1), (0, .ref (ad 41)), (1, .int x1), (2, .int x2)]) hx hb dX12_settles_5 rfl hl (by decide) rfl (fun ls hl => ?_)
  refine lv_iload_n hx hb dX12_settles_6 rfl (lv_at hl 0 rfl) ?_
  refine lv_iconst (v := (4 : Int32)) hx hb dX12_settles_7 (by decide) ?_
  refine lv_icmp_ne (tgt := 25) hx hb dX12_settles_8 (by decide) (fun c_4 => ?_) (fun c_4 => ?_)
  · have h := zk_f c_4 h
    refine lv_iload_n hx hb dX12_settles_25 rfl (lv_at hl 0 rfl) ?_
    refine lv_bipush (v := (6 : Int32)) hx hb dX12_settles_26 (by decide) ?_
    refine lv_icmp_ne (tgt := 55) hx hb dX12_settles_28 (by decide) (fun c_5 => ?_) (fun c_5 => ?_)
    · have h := zk_f c_5 h
      refine lv_iload_n hx hb dX12_settles_55 rfl (lv_at hl 0 rfl) ?_
      refine lv_iconst (v := (1 : Int32)) hx hb dX12_settles_56 (by decide) ?_
      refine lv_icmp_ne (tgt := 69) hx hb dX12_settles_57 (by decide) (fun c_6 => ?_) (fun c_6 => ?_)
      · have h := zk_f c_6 h
        refine lv_aload_n hx hb dX12_settles_69 rfl (lv_at hl 1 rfl) ?_
        refine lv_iload_n hx hb dX12_settles_70 rfl (lv_at hl 2 rfl) ?_
        refine lv_iload_n hx hb dX12_settles_71 rfl (lv_at hl 3 rfl) ?_
        obtain ⟨r_7, u_8, u_9, hc_10, h⟩ := zk_o3 h
        refine zz_vi (post := (fun r u => (r, u) = (r_7, u_8, u_9))) (w1 := fun u => (wl_X12_plainSettles ad cs mod_code mod_shoes mod_claims mod_taped mod_here mod_fault mod_suits mod_doneMany mod_undoneMany mod_open mod_laid mod_isBoth mod_wished mod_bestMany mod_bestRow mod_ringDigits u.1 mod_endKind mod_undoneFrom mod_askedMany u.2)) (As := [.int x1, .int x2]) (rest := []) (c_X12_plainSettles l D cs ad  H.size x1 x2 mod_code mod_shoes mod_claims mod_taped mod_here mod_fault mod_suits mod_doneMany mod_undoneMany mod_open mod_laid mod_isBoth mod_wished mod_bestMany mod_bestRow mod_ringDigits mod_traces mod_endKind mod_undoneFrom mod_askedMany mod_traced (r_7, u_8, u_9) hc_10) ⟨hx, hb, hml, hown, ht⟩ (cwV 2 ht g_X12_404 rfl rfl rfl ⟨rfl, hd_X12_plainSettles⟩ ⟨Nat.le_of_ble_eq_true rfl, Nat.le_of_ble_eq_true rfl⟩) (va_recv hK hP (ci := 12) (q0 := 0) rfl rfl) hP hD hS hK hA [0, 1, 2, 3, 4] rfl rfl [(ad 41), (ad 53), (ad 57), (ad 58), (ad 80)] rfl (fun _ => rfl) rfl hl.1 (Nat.le_of_ble_eq_true rfl) dX12_settles_72 ⟨Nat.zero_le _, Nat.zero_le _⟩ (fun r u H locs hq hP hS => ?_)
        cases hq
        have hP : va_P D classes (wl_X12_settles ad cs mod_code mod_shoes mod_claims mod_taped mod_here mod_fault mod_suits mod_doneMany mod_undoneMany mod_open mod_laid mod_isBoth mod_wished mod_bestMany mod_bestRow mod_ringDigits u_8 mod_endKind mod_undoneFrom mod_askedMany u_9) H := hP
        have hD : va_D A (wl_X12_settles ad cs mod_code mod_shoes mod_claims mod_taped mod_here mod_fault mod_suits mod_doneMany mod_undoneMany mod_open mod_laid mod_isBoth mod_wished mod_bestMany mod_bestRow mod_ringDigits u_8 mod_endKind mod_undoneFrom mod_askedMany u_9) := zDk hD [(ad 41), (ad 53), (ad 57), (ad 58), (ad 80)] rfl rfl
        exact W.iret (v := r_7) hx hb hr (fun t ht2 hW => ⟨⟨r_7, (u_8, u_9), rfl, Option.some.inj h, by rw [ht2]; exact hP, hD⟩, hS.F ht2⟩) hS.2.2 dX12_settles_75 hlocks
      · have h := zk_t c_6 h
        refine lv_aload_n hx hb dX12_settles_60 rfl (lv_at hl 1 rfl) ?_
        refine lv_iload_n hx hb dX12_settles_61 rfl (lv_at hl 2 rfl) ?_
        refine lv_iload_n hx hb dX12_settles_62 rfl (lv_at hl 3 rfl) ?_
        obtain ⟨r_11, u_12, u_13, hc_14, h⟩ := zk_o3 h
        refine zz_vi (post := (fun r u => (r, u) = (r_11, u_12, u_13))) (w1 := fun u => (wl_X12_meritsSettles ad cs mod_code mod_shoes mod_claims mod_taped mod_here mod_fault mod_suits mod_doneMany mod_undoneMany mod_open mod_laid mod_isBoth mod_wished mod_bestMany mod_bestRow mod_ringDigits u.1 mod_endKind mod_undoneFrom mod_askedMany u.2)) (As := [.int x1, .int x2]) (rest := []) (c_X12_meritsSettles l D cs ad  H.size x1 x2 mod_code mod_shoes mod_claims mod_taped mod_here mod_fault mod_suits mod_doneMany mod_undoneMany mod_open mod_laid mod_isBoth mod_wished mod_bestMany mod_bestRow mod_ringDigits mod_traces mod_endKind mod_undoneFrom mod_askedMany mod_traced (r_11, u_12, u_13) hc_14) ⟨hx, hb, hml, hown, ht⟩ (cwV 2 ht g_X12_407 rfl rfl rfl ⟨rfl, hd_X12_meritsSettles⟩ ⟨Nat.le_of_ble_eq_true rfl, Nat.le_of_ble_eq_true rfl⟩) (va_recv hK hP (ci := 12) (q0 := 0) rfl rfl) hP hD hS hK hA [0, 1, 2, 3, 4] rfl rfl [(ad 41), (ad 53), (ad 57), (ad 58), (ad 80)] rfl (fun _ => rfl) rfl hl.1 (Nat.le_of_ble_eq_true rfl) dX12_settles_63 ⟨Nat.zero_le _, Nat.zero_le _⟩ (fun r u H locs hq hP hS => ?_)
        cases hq
        have hP : va_P D classes (wl_X12_settles ad cs mod_code mod_shoes mod_claims mod_taped mod_here mod_fault mod_suits mod_doneMany mod_undoneMany mod_open mod_laid mod_isBoth mod_wished mod_bestMany mod_bestRow mod_ringDigits u_12 mod_endKind mod_undoneFrom mod_askedMany u_13) H := hP
        have hD : va_D A (wl_X12_settles ad cs mod_code mod_shoes mod_claims mod_taped mod_here mod_fault mod_suits mod_doneMany mod_undoneMany mod_open mod_laid mod_isBoth mod_wished mod_bestMany mod_bestRow mod_ringDigits u_12 mod_endKind mod_undoneFrom mod_askedMany u_13) := zDk hD [(ad 41), (ad 53), (ad 57), (ad 58), (ad 80)] rfl rfl
        refine lv_goto (tgt := 75) hx hb dX12_settles_66 (by decide) ?_
        exact W.iret (v := r_11) hx hb hr (fun t ht2 hW => ⟨⟨r_11, (u_12, u_13), rfl, Option.some.inj h, by rw [ht2]; exact hP, hD⟩, hS.F ht2⟩) hS.2.2 dX12_settles_75 hlocks
    · have h := zk_t c_5 h
      refine lv_aload_n hx hb dX12_settles_31 rfl (lv_at hl 1 rfl) ?_
      refine lv_bipush (v := (71 : Int32)) hx hb dX12_settles_32 (by decide) ?_
      obtain ⟨u_15, u_16, hc_17, h⟩ := zk_o2 h
      refine zz_vv (post := (fun u => u = (u_15, u_16))) (w1 := fun u => (wl_X12_ran ad cs mod_code mod_shoes mod_claims mod_taped mod_here mod_fault mod_suits mod_doneMany mod_undoneMany mod_open mod_laid mod_isBoth mod_wished mod_bestMany mod_bestRow mod_ringDigits u.1 u.2)) (As := [.int (71 : Int32)]) (rest := []) (c_X12_ran l D cs ad  H.size (71 : Int32) mod_code mod_shoes mod_claims mod_taped mod_here mod_fault mod_suits mod_doneMany mod_undoneMany mod_open mod_laid mod_isBoth mod_wished mod_bestMany mod_bestRow mod_ringDigits mod_traces mod_traced (u_15, u_16) hc_17) ⟨hx, hb, hml, hown, ht⟩ (cwV 1 ht g_X12_395 rfl rfl rfl ⟨rfl, hd_X12_ran⟩ ⟨Nat.le_of_ble_eq_true rfl, Nat.le_of_ble_eq_true rfl⟩) (va_recv hK hP (ci := 12) (q0 := 0) rfl rfl) hP hD hS hK hA [0, 4] rfl rfl [(ad 41), (ad 80)] rfl (fun _ => rfl) rfl hl.1 (Nat.le_of_ble_eq_true rfl) dX12_settles_34 ⟨Nat.zero_le _, Nat.zero_le _⟩ (fun u H locs hq hP hS => ?_)
      cases hq
      have hP : va_P D classes (wl_X12_settles ad cs mod_code mod_shoes mod_claims mod_taped mod_here mod_fault mod_suits mod_doneMany mod_undoneMany mod_open mod_laid mod_isBoth mod_wished mod_bestMany mod_bestRow mod_ringDigits u_15 mod_endKind mod_undoneFrom mod_askedMany u_16) H := hP
      have hD : va_D A (wl_X12_settles ad cs mod_code mod_shoes mod_claims mod_taped mod_here mod_fault mod_suits mod_doneMany mod_undoneMany mod_open mod_laid mod_isBoth mod_wished mod_bestMany mod_bestRow mod_ringDigits u_15 mod_endKind mod_undoneFrom mod_askedMany u_16) := zDk hD [(ad 41), (ad 53), (ad 57), (ad 58), (ad 80)] rfl rfl
      refine lv_aload_n hx hb dX12_settles_37 rfl (lv_at hl 1 rfl) ?_
      refine lv_iload_n hx hb dX12_settles_38 rfl (lv_at hl 2 rfl) ?_
      refine lv_iload_n hx hb dX12_settles_39 rfl (lv_at hl 3 rfl) ?_
      obtain ⟨r_18, u_19, u_20, hc_21, h⟩ := zk_o3 h
      refine zz_vi (post := (fun r u => (r, u) = (r_18, u_19, u_20))) (w1 := fun u => (wl_X12_meritsSettles ad cs mod_code mod_shoes mod_claims mod_taped mod_here mod_fault mod_suits mod_doneMany mod_undoneMany mod_open mod_laid mod_isBoth mod_wished mod_bestMany mod_bestRow mod_ringDigits u.1 mod_endKind mod_undoneFrom mod_askedMany u.2)) (As := [.int x1, .int x2]) (rest := []) (c_X12_meritsSettles l D cs ad  H.size x1 x2 mod_code mod_shoes mod_claims mod_taped mod_here mod_fault mod_suits mod_doneMany mod_undoneMany mod_open mod_laid mod_isBoth mod_wished mod_bestMany mod_bestRow mod_ringDigits u_15 mod_endKind mod_undoneFrom mod_askedMany u_16 (r_18, u_19, u_20) hc_21) ⟨hx, hb, hml, hown, ht⟩ (cwV 2 ht g_X12_407 rfl rfl rfl ⟨rfl, hd_X12_meritsSettles⟩ ⟨Nat.le_of_ble_eq_true rfl, Nat.le_of_ble_eq_true rfl⟩) (va_recv hK hP (ci := 12) (q0 := 0) rfl rfl) hP hD hS hK hA [0, 1, 2, 3, 4] rfl rfl [(ad 41), (ad 53), (ad 57), (ad 58), (ad 80)] rfl (fun _ => rfl) rfl hl.1 (Nat.le_of_ble_eq_true rfl) dX12_settles_40 ⟨Nat.zero_le _, Nat.zero_le _⟩ (fun r u H locs hq hP hS => ?_)
      cases hq
      have hP : va_P D classes (wl_X12_settles ad cs mod_code mod_shoes mod_claims mod_taped mod_here mod_fault mod_suits mod_doneMany mod_undoneMany mod_open mod_laid mod_isBoth mod_wished mod_bestMany mod_bestRow mod_ringDigits u_19 mod_endKind mod_undoneFrom mod_askedMany u_20) H := hP
      have hD : va_D A (wl_X12_settles ad cs mod_code mod_shoes mod_claims mod_taped mod_here mod_fault mod_suits mod_doneMany mod_undoneMany mod_open mod_laid mod_isBoth mod_wished mod_bestMany mod_bestRow mod_ringDigits u_19 mod_endKind mod_undoneFrom mod_askedMany u_20) := zDk hD [(ad 41), (ad 53), (ad 57), (ad 58), (ad 80)] rfl rfl
      refine lv_istore (lv' := [(4, .int r_18), (3, .int r_1), (0, .ref (ad 41)), (1, .int x1), (2, .int x2)]) hx hb dX12_settles_43 hl (by decide) rfl (fun ls hl => ?_)
      refine lv_iload hx hb dX12_settles_45 (lv_at hl 0 rfl) ?_
      refine lv_aload_n hx hb dX12_settles_47 rfl (lv_at hl 2 rfl) ?_
      refine lv_iload_n hx hb dX12_settles_48 rfl (lv_at hl 3 rfl) ?_
      refine lv_iconst (v := (2 : Int32)) hx hb dX12_settles_49 (by decide) ?_
      obtain ⟨r_22, u_23, u_24, hc_25, h⟩ := zk_o3 h
      refine zz_vi (post := (fun r u => (r, u) = (r_22, u_23, u_24))) (w1 := fun u => (wl_X12_binds ad cs mod_code mod_shoes mod_claims mod_taped mod_here mod_fault mod_suits mod_doneMany mod_undoneMany mod_open mod_laid mod_isBoth mod_wished mod_bestMany mod_bestRow mod_ringDigits u.1 mod_endKind mod_undoneFrom u.2)) (As := [.int x1, .int (2 : Int32)]) (rest := [.int r_18]) (c_X12_binds l D cs ad  H.size x1 (2 : Int32) mod_code mod_shoes mod_claims mod_taped mod_here mod_fault mod_suits mod_doneMany mod_undoneMany mod_open mod_laid mod_isBoth mod_wished mod_bestMany mod_bestRow mod_ringDigits u_19 mod_endKind mod_undoneFrom u_20 (r_22, u_23, u_24) hc_25) ⟨hx, hb, hml, hown, ht⟩ (cwV 2 ht g_X12_410 rfl rfl rfl ⟨rfl, hd_X12_binds⟩ ⟨Nat.le_of_ble_eq_true rfl, Nat.le_of_ble_eq_true rfl⟩) (va_recv hK hP (ci := 12) (q0 := 0) rfl rfl) hP hD hS hK hA [0, 1, 2, 4] rfl rfl [(ad 41), (ad 53), (ad 57), (ad 80)] rfl (fun _ => rfl) rfl hl.1 (Nat.le_of_ble_eq_true rfl) dX12_settles_50 ⟨Nat.zero_le _, Nat.zero_le _⟩ (fun r u H locs hq hP hS => ?_)
      cases hq
      have hP : va_P D classes (wl_X12_settles ad cs mod_code mod_shoes mod_claims mod_taped mod_here mod_fault mod_suits mod_doneMany mod_undoneMany mod_open mod_laid mod_isBoth mod_wished mod_bestMany mod_bestRow mod_ringDigits u_23 mod_endKind mod_undoneFrom mod_askedMany u_24) H := hP
      have hD : va_D A (wl_X12_settles ad cs mod_code mod_shoes mod_claims mod_taped mod_here mod_fault mod_suits mod_doneMany mod_undoneMany mod_open mod_laid mod_isBoth mod_wished mod_bestMany mod_bestRow mod_ringDigits u_23 mod_endKind mod_undoneFrom mod_askedMany u_24) := zDk hD [(ad 41), (ad 53), (ad 57), (ad 58), (ad 80)] rfl rfl
      refine lv_isub hx hb dX12_settles_53 ?_
      exact W.iret (v := r_18 - r_22) hx hb hr (fun t ht2 hW => ⟨⟨r_18 - r_22, (u_23, u_24), rfl, Option.some.inj h, by rw [ht2]; exact hP, hD⟩, hS.F ht2⟩) hS.2.2 dX12_settles_54 hlocks
  · have h := zk_t c_4 h
    refine lv_aload_n hx hb dX12_settles_11 rfl (lv_at hl 1 rfl) ?_
    refine lv_bipush (v := (50 : Int32)) hx hb dX12_settles_12 (by decide) ?_
    obtain ⟨u_26, u_27, hc_28, h⟩ := zk_o2 h
    refine zz_vv (post := (fun u => u = (u_26, u_27))) (w1 := fun u => (wl_X12_ran ad cs mod_code mod_shoes mod_claims mod_taped mod_here mod_fault mod_suits mod_doneMany mod_undoneMany mod_open mod_laid mod_isBoth mod_wished mod_bestMany mod_bestRow mod_ringDigits u.1 u.2)) (As := [.int (50 : Int32)]) (rest := []) (c_X12_ran l D cs ad  H.size (50 : Int32) mod_code mod_shoes mod_claims mod_taped mod_here mod_fault mod_suits mod_doneMany mod_undoneMany mod_open mod_laid mod_isBoth mod_wished mod_bestMany mod_bestRow mod_ringDigits mod_traces mod_traced (u_26, u_27) hc_28) ⟨hx, hb, hml, hown, ht⟩ (cwV 1 ht g_X12_395 rfl rfl rfl ⟨rfl, hd_X12_ran⟩ ⟨Nat.le_of_ble_eq_true rfl, Nat.le_of_ble_eq_true rfl⟩) (va_recv hK hP (ci := 12) (q0 := 0) rfl rfl) hP hD hS hK hA [0, 4] rfl rfl [(ad 41), (ad 80)] rfl (fun _ => rfl) rfl hl.1 (Nat.le_of_ble_eq_true rfl) dX12_settles_14 ⟨Nat.zero_le _, Nat.zero_le _⟩ (fun u H locs hq hP hS => ?_)
    cases hq
    have hP : va_P D classes (wl_X12_settles ad cs mod_code mod_shoes mod_claims mod_taped mod_here mod_fault mod_suits mod_doneMany mod_undoneMany mod_open mod_laid mod_isBoth mod_wished mod_bestMany mod_bestRow mod_ringDigits u_26 mod_endKind mod_undoneFrom mod_askedMany u_27) H := hP
    have hD : va_D A (wl_X12_settles ad cs mod_code mod_shoes mod_claims mod_taped mod_here mod_fault mod_suits mod_doneMany mod_undoneMany mod_open mod_laid mod_isBoth mod_wished mod_bestMany mod_bestRow mod_ringDigits u_26 mod_endKind mod_undoneFrom mod_askedMany u_27) := zDk hD [(ad 41), (ad 53), (ad 57), (ad 58), (ad 80)] rfl rfl
    refine lv_aload_n hx hb dX12_settles_17 rfl (lv_at hl 1 rfl) ?_
    refine lv_iload_n hx hb dX12_settles_18 rfl (lv_at hl 2 rfl) ?_
    refine lv_iload_n hx hb dX12_settles_19 rfl (lv_at hl 3 rfl) ?_
    obtain ⟨r_29, u_30, u_31, hc_32, h⟩ := zk_o3 h
    refine zz_vi (post := (fun r u => (r, u) = (r_29, u_30, u_31))) (w1 := fun u => (wl_X12_plainSettles ad cs mod_code mod_shoes mod_claims mod_taped mod_here mod_fault mod_suits mod_doneMany mod_undoneMany mod_open mod_laid mod_isBoth mod_wished mod_bestMany mod_bestRow mod_ringDigits u.1 mod_endKind mod_undoneFrom mod_askedMany u.2)) (As := [.int x1, .int x2]) (rest := []) (c_X12_plainSettles l D cs ad  H.size x1 x2 mod_code mod_shoes mod_claims mod_taped mod_here mod_fault mod_suits mod_doneMany mod_undoneMany mod_open mod_laid mod_isBoth mod_wished mod_bestMany mod_bestRow mod_ringDigits u_26 mod_endKind mod_undoneFrom mod_askedMany u_27 (r_29, u_30, u_31) hc_32) ⟨hx, hb, hml, hown, ht⟩ (cwV 2 ht g_X12_404 rfl rfl rfl ⟨rfl, hd_X12_plainSettles⟩ ⟨Nat.le_of_ble_eq_true rfl, Nat.le_of_ble_eq_true rfl⟩) (va_recv hK hP (ci := 12) (q0 := 0) rfl rfl) hP hD hS hK hA [0, 1, 2, 3, 4] rfl rfl [(ad 41), (ad 53), (ad 57), (ad 58), (ad 80)] rfl (fun _ => rfl) rfl hl.1 (Nat.le_of_ble_eq_true rfl) dX12_settles_20 ⟨Nat.zero_le _, Nat.zero_le _⟩ (fun r u H locs hq hP hS => ?_)
    cases hq
    have hP : va_P D classes (wl_X12_settles ad cs mod_code mod_shoes mod_claims mod_taped mod_here mod_fault mod_suits mod_doneMany mod_undoneMany mod_open mod_laid mod_isBoth mod_wished mod_bestMany mod_bestRow mod_ringDigits u_30 mod_endKind mod_undoneFrom mod_askedMany u_31) H := hP
    have hD : va_D A (wl_X12_settles ad cs mod_code mod_shoes mod_claims mod_taped mod_here mod_fault mod_suits mod_doneMany mod_undoneMany mod_open mod_laid mod_isBoth mod_wished mod_bestMany mod_bestRow mod_ringDigits u_30 mod_endKind mod_undoneFrom mod_askedMany u_31) := zDk hD [(ad 41), (ad 53), (ad 57), (ad 58), (ad 80)] rfl rfl
    refine lv_ineg hx hb dX12_settles_23 ?_
    exact W.iret (v := -r_29) hx hb hr (fun t ht2 hW => ⟨⟨-r_29, (u_30, u_31), rfl, Option.some.inj h, by rw [ht2]; exact hP, hD⟩, hS.F ht2⟩) hS.2.2 dX12_settles_24 hlocks
set_option maxHeartbeats 4000000 in
set_option maxRecDepth 100000 in
theorem c_X12_settles (l : Launch) (D : va_G) (cs : Nat → ClassId) (ad : Nat → Nat) (sz : Nat) (x1 : Int32) (x2 : Int32) (mod_code : Int32) (mod_shoes : Int32) (mod_claims : Int32) (mod_taped : Int32) (mod_here : Int32) (mod_fault : Int32) (mod_suits : Int32) (mod_doneMany : Int32) (mod_undoneMany : Int32) (mod_open : Int32) (mod_laid : Int32) (mod_isBoth : Int32) (mod_wished : Int32) (mod_bestMany : Int32) (mod_bestRow : Int32) (mod_ringDigits : Int32) (mod_traces : Int32) (mod_endKind : Nat → Int32) (mod_undoneFrom : Nat → Int32) (mod_askedMany : Nat → Int32) (mod_traced : Nat → Int32) (R : Int32 × Int32 × (Nat → Int32)) (h : f_X12_settles   x1 x2 mod_code mod_shoes mod_claims mod_taped mod_here mod_fault mod_suits mod_doneMany mod_undoneMany mod_open mod_laid mod_isBoth mod_wished mod_bestMany mod_bestRow mod_ringDigits mod_traces mod_endKind mod_undoneFrom mod_askedMany mod_traced = some R) : Met l yX12_settles (z_X12_settles) rm_X12_settles (va_Pc [.ref (ad 41), .int x1, .int x2] (zPre D cs (wl_X12_settles ad cs mod_code mod_shoes mod_claims mod_taped mod_here mod_fault mod_suits mod_doneMany mod_undoneMany mod_open mod_laid mod_isBoth mod_wished mod_bestMany mod_bestRow mod_ringDigits mod_traces mod_endKind mod_undoneFrom mod_askedMany mod_traced) sz)) (Q_X12_settles D cs ad mod_code mod_shoes mod_claims mod_taped mod_here mod_fault mod_suits mod_doneMany mod_undoneMany mod_open mod_laid mod_isBoth mod_wished mod_bestMany mod_bestRow mod_ringDigits mod_endKind mod_undoneFrom mod_askedMany (va_A (wl_X12_settles ad cs mod_code mod_shoes mod_claims mod_taped mod_here mod_fault mod_suits mod_doneMany mod_undoneMany mod_open mod_laid mod_isBoth mod_wished mod_bestMany mod_bestRow mod_ringDigits mod_traces mod_endKind mod_undoneFrom mod_askedMany mod_traced) sz) R) 0 0 (va_A (wl_X12_settles ad cs mod_code mod_shoes mod_claims mod_taped mod_here mod_fault mod_suits mod_doneMany mod_undoneMany mod_open mod_laid mod_isBoth mod_wished mod_bestMany mod_bestRow mod_ringDigits mod_traces mod_endKind mod_undoneFrom mod_askedMany mod_traced) sz) := by
  refine Met.ofW (cc := cX12_settles) (maxL := 5) (ret := (some .int)) (by decide) rfl ?_
  intro p e s m args below meth c s₁ B hml hv
  obtain ⟨rfl, hsz, hP, hK, hD0⟩ := hv
  subst hsz
  have hD := hD0.self (sz := s.heap.size)
  have C0 : zC p s m _ meth c cX12_settles 5 (some .int) RX12 zW := ⟨B.exec, B.bytes, B.returns, hml, findClass_of_methodNamed B.named, fun w hw => atoms_spec (ws := z_X12_settles) B.pre w (List.mem_cons_of_mem _ hw), B.notSynchronized⟩
  have hA : ∀ q : Nat, s.heap.size ≤ q → va_A (wl_X12_settles ad cs mod_code mod_shoes mod_claims mod_taped mod_here mod_fault mod_suits mod_doneMany mod_undoneMany mod_open mod_laid mod_isBoth mod_wished mod_bestMany mod_bestRow mod_ringDigits mod_traces mod_endKind mod_undoneFrom mod_askedMany mod_traced) s.heap.size q := fun q h => Or.inr h
  have hl := lv_entry ([.ref (ad 41), .int x1, .int x2]) (n := 5) (Nat.le_of_ble_eq_true rfl)
  rw [lg_entry_eq]
  generalize (lg_sl ([.ref (ad 41), .int x1, .int x2]) ++ List.replicate (5 - (lg_sl ([.ref (ad 41), .int x1, .int x2])).length) Slot.unset).toArray = ls at hl ⊢
  exact L_X12_settles_0 C0 hK hA   x1 x2 mod_traces mod_traced h s.heap [] ls hP hD va_S.rf hl
theorem kw_66 : Cond.selects RX12 yX12_settles yX12_settles ∈ zW := zwI (i := 66) (by decide +kernel) (by decide +kernel)
theorem kw_1834 : Cond.methodLink RX12 419 yX12_settles ∈ zW := zwC (i := 80) zc_8 rfl rfl
theorem kw_1836 : Cond.instanceMethod yX12_settles ∈ zW := zwC (i := 82) zc_8 rfl rfl
theorem kw_1837 : Cond.code yX12_settles cX12_settles 5 (some .int) ∈ zW := zwC (i := 83) zc_8 rfl rfl
theorem zh_cX12_plainTells_0 : zck [42, 5, 182, 1, 139, 42, 27, 28, 182, 1, 163, 62, 29, 42, 27, 4, 182, 1, 154, 100, 172] (zdu 0 cX12_plainTells.data.toList) = true := by decide +kernel
theorem dX12_plainTells_0 : decode cX12_plainTells 0 = .ok (.aload_n 0, 1) := zo_42 zh_cX12_plainTells_0 0 rfl
theorem dX12_plainTells_1 : decode cX12_plainTells 1 = .ok (.iconst 2, 1) := zo_5 zh_cX12_plainTells_0 1 rfl
theorem dX12_plainTells_2 : decode cX12_plainTells 2 = .ok (.invokevirtual 395, 3) := zo_182 zh_cX12_plainTells_0 2 rfl
theorem dX12_plainTells_5 : decode cX12_plainTells 5 = .ok (.aload_n 0, 1) := zo_42 zh_cX12_plainTells_0 5 rfl
theorem dX12_plainTells_6 : decode cX12_plainTells 6 = .ok (.iload_n 1, 1) := zo_27 zh_cX12_plainTells_0 6 rfl
theorem dX12_plainTells_7 : decode cX12_plainTells 7 = .ok (.iload_n 2, 1) := zo_28 zh_cX12_plainTells_0 7 rfl
theorem dX12_plainTells_8 : decode cX12_plainTells 8 = .ok (.invokevirtual 419, 3) := zo_182 zh_cX12_plainTells_0 8 rfl
theorem dX12_plainTells_11 : decode cX12_plainTells 11 = .ok (.istore_n 3, 1) := zo_62 zh_cX12_plainTells_0 11 rfl
theorem dX12_plainTells_12 : decode cX12_plainTells 12 = .ok (.iload_n 3, 1) := zo_29 zh_cX12_plainTells_0 12 rfl
theorem dX12_plainTells_13 : decode cX12_plainTells 13 = .ok (.aload_n 0, 1) := zo_42 zh_cX12_plainTells_0 13 rfl
theorem dX12_plainTells_14 : decode cX12_plainTells 14 = .ok (.iload_n 1, 1) := zo_27 zh_cX12_plainTells_0 14 rfl
theorem dX12_plainTells_15 : decode cX12_plainTells 15 = .ok (.iconst 1, 1) := zo_4 zh_cX12_plainTells_0 15 rfl
theorem dX12_plainTells_16 : decode cX12_plainTells 16 = .ok (.invokevirtual 410, 3) := zo_182 zh_cX12_plainTells_0 16 rfl
theorem dX12_plainTells_19 : decode cX12_plainTells 19 = .ok (.isub, 1) := zo_100 zh_cX12_plainTells_0 19 rfl
theorem zh_cX12_plainTells_1 : zck [172] (zdu 20 cX12_plainTells.data.toList) = true := by decide +kernel
theorem dX12_plainTells_20 : decode cX12_plainTells 20 = .ok (.ireturn, 1) := zo_172 zh_cX12_plainTells_1 0 rfl
abbrev z_X12_plainTells : List Cond := .code yX12_plainTells cX12_plainTells 4 (some .int) :: zW
abbrev wl_X12_plainTells (ad : Nat → Nat) (cs : Nat → ClassId)  (mod_code : Int32) (mod_shoes : Int32) (mod_claims : Int32) (mod_taped : Int32) (mod_here : Int32) (mod_fault : Int32) (mod_suits : Int32) (mod_doneMany : Int32) (mod_undoneMany : Int32) (mod_open : Int32) (mod_laid : Int32) (mod_isBoth : Int32) (mod_wished : Int32) (mod_bestMany : Int32) (mod_bestRow : Int32) (mod_ringDigits : Int32) (mod_traces : Int32) (mod_endKind : Nat → Int32) (mod_undoneFrom : Nat → Int32) (mod_askedMany : Nat → Int32) (mod_traced : Nat → Int32) : va_W := [((ad 41), .inr (12, [.int mod_code, .int mod_shoes, .ref (ad 42), .ref (ad 43), .ref (ad 44), .ref (ad 45), .int mod_claims, .ref (ad 46), .ref (ad 47), .ref (ad 48), .ref (ad 49), .ref (ad 50), .int mod_taped, .int mod_here, .int mod_fault, .int mod_suits, .ref (ad 51), .ref (ad 52), .ref (ad 53), .ref (ad 54), .ref (ad 55), .ref (ad 56), .ref (ad 57), .ref (ad 58), .ref (ad 59), .ref (ad 60), .ref (ad 61), .int mod_doneMany, .int mod_undoneMany, .ref (ad 62), .ref (ad 63), .ref (ad 64), .ref (ad 65), .int mod_open, .int mod_laid, .ref (ad 66), .ref (ad 67), .ref (ad 68), .ref (ad 69), .ref (ad 70), .ref (ad 71), .ref (ad 72), .ref (ad 73), .ref (ad 74), .ref (ad 75), .int mod_isBoth, .int mod_wished, .ref (ad 76), .ref (ad 77), .int mod_bestMany, .int mod_bestRow, .ref (ad 78), .ref (ad 79), .int mod_ringDigits, .int mod_traces, .ref (ad 80), .ref (ad 81), .ref (ad 82), .ref (ad 83), .ref (ad 84)])), ((ad 53), .inl (cs 0, 45, .inl mod_endKind)), ((ad 57), .inl (cs 0, 45, .inl mod_undoneFrom)), ((ad 58), .inl (cs 0, 45, .inl mod_askedMany)), ((ad 80), .inl (cs 0, 24, .inl mod_traced))]
def Q_X12_plainTells (D : va_G) (cs : Nat → ClassId) (ad : Nat → Nat)  (mod_code : Int32) (mod_shoes : Int32) (mod_claims : Int32) (mod_taped : Int32) (mod_here : Int32) (mod_fault : Int32) (mod_suits : Int32) (mod_doneMany : Int32) (mod_undoneMany : Int32) (mod_open : Int32) (mod_laid : Int32) (mod_isBoth : Int32) (mod_wished : Int32) (mod_bestMany : Int32) (mod_bestRow : Int32) (mod_ringDigits : Int32) (mod_endKind : Nat → Int32) (mod_undoneFrom : Nat → Int32) (mod_askedMany : Nat → Int32) (A : Nat → Prop) (R : Int32 × Int32 × (Nat → Int32)) : Array Value → State → Outcome → State → Prop :=
  va_Qi (fun (r : Int32) (u : Int32 × (Nat → Int32)) => (r, u) = R) (fun (u : Int32 × (Nat → Int32)) (t : State) => va_P D classes (wl_X12_plainTells ad cs mod_code mod_shoes mod_claims mod_taped mod_here mod_fault mod_suits mod_doneMany mod_undoneMany mod_open mod_laid mod_isBoth mod_wished mod_bestMany mod_bestRow mod_ringDigits u.1 mod_endKind mod_undoneFrom mod_askedMany u.2) t.heap ∧ va_D A (wl_X12_plainTells ad cs mod_code mod_shoes mod_claims mod_taped mod_here mod_fault mod_suits mod_doneMany mod_undoneMany mod_open mod_laid mod_isBoth mod_wished mod_bestMany mod_bestRow mod_ringDigits u.1 mod_endKind mod_undoneFrom mod_askedMany u.2)) A
abbrev rm_X12_plainTells : Room := { frames := 6, cells := 0, slots := 0, locals := 134 }
theorem g_X12_419 : GoodIn zW (wsV RX12 419 RX12 yX12_settles z_X12_settles) := zGV kw_1834 kw_1836 kw_66 kw_95 kw_1837
theorem hd_X12_settles : yX12_settles.cls ≠ "java/lang/invoke/MethodHandle" ∧ yX12_settles.cls ≠ "java/lang/invoke/VarHandle" ∧ (parseMethodDescriptor yX12_settles.desc).map (fun d => d.parameters.length) = some 2 := by decide +kernel
def B_X12_plainTells_0    (mod_code : Int32) (mod_shoes : Int32) (mod_claims : Int32) (mod_taped : Int32) (mod_here : Int32) (mod_fault : Int32) (mod_suits : Int32) (mod_doneMany : Int32) (mod_undoneMany : Int32) (mod_open : Int32) (mod_laid : Int32) (mod_isBoth : Int32) (mod_wished : Int32) (mod_bestMany : Int32) (mod_bestRow : Int32) (mod_ringDigits : Int32) (mod_endKind : Nat → Int32) (mod_undoneFrom : Nat → Int32) (mod_askedMany : Nat → Int32) (x1 : Int32) (x2 : Int32) (mod_traces : Int32) (mod_traced : Nat → Int32) : Option (Int32 × Int32 × (Nat → Int32)) :=
  (zk_b2 (f_X12_ran (2 : Int32) mod_code mod_shoes mod_claims mod_taped mod_here mod_fault mod_suits mod_doneMany mod_undoneMany mod_open mod_laid mod_isBoth mod_wished mod_bestMany mod_bestRow mod_ringDigits mod_traces mod_traced) (fun u_1 u_2 => (zk_b3 (f_X12_settles x1 x2 mod_code mod_shoes mod_claims mod_taped mod_here mod_fault mod_suits mod_doneMany mod_undoneMany mod_open mod_laid mod_isBoth mod_wished mod_bestMany mod_bestRow mod_ringDigits u_1 mod_endKind mod_undoneFrom mod_askedMany u_2) (fun r_4 u_5 u_6 => (zk_b3 (f_X12_binds x1 (1 : Int32) mod_code mod_shoes mod_claims mod_taped mod_here mod_fault mod_suits mod_doneMany mod_undoneMany mod_open mod_laid mod_isBoth mod_wished mod_bestMany mod_bestRow mod_ringDigits u_5 mod_endKind mod_undoneFrom u_6) (fun r_8 u_9 u_10 => (some (r_4 - r_8, u_9, u_10))))))))
def f_X12_plainTells   (x1 : Int32) (x2 : Int32) (mod_code : Int32) (mod_shoes : Int32) (mod_claims : Int32) (mod_taped : Int32) (mod_here : Int32) (mod_fault : Int32) (mod_suits : Int32) (mod_doneMany : Int32) (mod_undoneMany : Int32) (mod_open : Int32) (mod_laid : Int32) (mod_isBoth : Int32) (mod_wished : Int32) (mod_bestMany : Int32) (mod_bestRow : Int32) (mod_ringDigits : Int32) (mod_traces : Int32) (mod_endKind : Nat → Int32) (mod_undoneFrom : Nat → Int32) (mod_askedMany : Nat → Int32) (mod_traced : Nat → Int32) : Option (Int32 × Int32 × (Nat → Int32)) := B_X12_plainTells_0   mod_code mod_shoes mod_claims mod_taped mod_here mod_fault mod_suits mod_doneMany mod_undoneMany mod_open mod_laid mod_isBoth mod_wished mod_bestMany mod_bestRow mod_ringDigits mod_endKind mod_undoneFrom mod_askedMany x1 x2 mod_traces mod_traced
set_option maxHeartbeats 4000000 in
set_option maxRecDepth 100000 in
theorem L_X12_plainTells_0 {p : Program} {l : Launch} {e : Env} {s : State} {m : MethodId} {args : Array Value} {below : List Frame} {meth : Method} {c : Code} {A : Nat → Prop} {D : va_G} {cs : Nat → ClassId} {ad : Nat → Nat} {mod_code : Int32} {mod_shoes : Int32} {mod_claims : Int32} {mod_taped : Int32} {mod_here : Int32} {mod_fault : Int32} {mod_suits : Int32} {mod_doneMany : Int32} {mod_undoneMany : Int32} {mod_open : Int32} {mod_laid : Int32} {mod_isBoth : Int32} {mod_wished : Int32} {mod_bestMany : Int32} {mod_bestRow : Int32} {mod_ringDigits : Int32} {mod_endKind : Nat → Int32} {mod_undoneFrom : Nat → Int32} {mod_askedMany : Nat → Int32} {R : Int32 × Int32 × (Nat → Int32)} (C0 : zC p s m args meth c cX12_plainTells 4 (some .int) RX12 zW) (hK : va_K D classes (zT cs) s) (hA : ∀ q : Nat, s.heap.size ≤ q → A q) (x1 : Int32) (x2 : Int32) (mod_traces : Int32) (mod_traced : Nat → Int32) (h : B_X12_plainTells_0 mod_code mod_shoes mod_claims mod_taped mod_here mod_fault mod_suits mod_doneMany mod_undoneMany mod_open mod_laid mod_isBoth mod_wished mod_bestMany mod_bestRow mod_ringDigits mod_endKind mod_undoneFrom mod_askedMany x1 x2 mod_traces mod_traced = some R) (H : Heap) (locs : List Loc) (ls : Array Slot) (hP : va_P D classes (wl_X12_plainTells ad cs mod_code mod_shoes mod_claims mod_taped mod_here mod_fault mod_suits mod_doneMany mod_undoneMany mod_open mod_laid mod_isBoth mod_wished mod_bestMany mod_bestRow mod_ringDigits mod_traces mod_endKind mod_undoneFrom mod_askedMany mod_traced) H) (hD : va_D A (wl_X12_plainTells ad cs mod_code mod_shoes mod_claims mod_taped mod_here mod_fault mod_suits mod_doneMany mod_undoneMany mod_open mod_laid mod_isBoth mod_wished mod_bestMany mod_bestRow mod_ringDigits mod_traces mod_endKind mod_undoneFrom mod_askedMany mod_traced)) (hS : va_S A s.heap H locs) (hl : lv_has ls 4 [(0, .ref (ad 41)), (1, .int x1), (2, .int x2)]) : W p l e rm_X12_plainTells s m args below meth c H locs 0 0 (MQ below (Q_X12_plainTells D cs ad mod_code mod_shoes mod_claims mod_taped mod_here mod_fault mod_suits mod_doneMany mod_undoneMany mod_open mod_laid mod_isBoth mod_wished mod_bestMany mod_bestRow mod_ringDigits mod_endKind mod_undoneFrom mod_askedMany A R) args s 0 0 A) (F0 m 0 ls []) := by
  obtain ⟨hx, hb, hr, hml, hown, ht, hlocks⟩ := id C0
  refine lv_aload_n hx hb dX12_plainTells_0 rfl (lv_at hl 0 rfl) ?_
  refine lv_iconst (v := (2 : Int32)) hx hb dX12_plainTells_1 (by decide) ?_
  obtain ⟨u_1, u_2, hc_3, h⟩ := zk_o2 h
  refine zz_vv (post := (fun u => u = (u_1, u_2))) (w1 := fun u => (wl_X12_ran ad cs mod_code mod_shoes mod_claims mod_taped mod_here mod_fault mod_suits mod_doneMany mod_undoneMany mod_open mod_laid mod_isBoth mod_wished mod_bestMany mod_bestRow mod_ringDigits u.1 u.2)) (As := [.int (2 : Int32)]) (rest := []) (c_X12_ran l D cs ad  H.size (2 : Int32) mod_code mod_shoes mod_claims mod_taped mod_here mod_fault mod_suits mod_doneMany mod_undoneMany mod_open mod_laid mod_isBoth mod_wished mod_bestMany mod_bestRow mod_ringDigits mod_traces mod_traced (u_1, u_2) hc_3) ⟨hx, hb, hml, hown, ht⟩ (cwV 1 ht g_X12_395 rfl rfl rfl ⟨rfl, hd_X12_ran⟩ ⟨Nat.le_of_ble_eq_true rfl, Nat.le_of_ble_eq_true rfl⟩) (va_recv hK hP (ci := 12) (q0 := 0) rfl rfl) hP hD hS hK hA [0, 4] rfl rfl [(ad 41), (ad 80)] rfl (fun _ => rfl) rfl hl.1 (Nat.le_of_ble_eq_true rfl) dX12_plainTells_2 ⟨Nat.zero_le _, Nat.zero_le _⟩ (fun u H locs hq hP hS => ?_)
  cases hq
  have hP : va_P D classes (wl_X12_plainTells ad cs mod_code mod_shoes mod_claims mod_taped mod_here mod_fault mod_suits mod_doneMany mod_undoneMany mod_open mod_laid mod_isBoth mod_wished mod_bestMany mod_bestRow mod_ringDigits u_1 mod_endKind mod_undoneFrom mod_askedMany u_2) H := hP
  have hD : va_D A (wl_X12_plainTells ad cs mod_code mod_shoes mod_claims mod_taped mod_here mod_fault mod_suits mod_doneMany mod_undoneMany mod_open mod_laid mod_isBoth mod_wished mod_bestMany mod_bestRow mod_ringDigits u_1 mod_endKind mod_undoneFrom mod_askedMany u_2) := zDk hD [(ad 41), (ad 53), (ad 57), (ad 58), (ad 80)] rfl rfl
  refine lv_aload_n hx hb dX12_plainTells_5 rfl (lv_at hl 0 rfl) ?_
  refine lv_iload_n hx hb dX12_plainTells_6 rfl (lv_at hl 1 rfl) ?_
  refine lv_iload_n hx hb dX12_plainTells_7 rfl (lv_at hl 2 rfl) ?_
  obtain ⟨r_4, u_5, u_6, hc_7, h⟩ := zk_o3 h
  refine zz_vi (post := (fun r u => (r, u) = (r_4, u_5, u_6))) (w1 := fun u => (wl_X12_settles ad cs mod_code mod_shoes mod_claims mod_taped mod_here mod_fault mod_suits mod_doneMany mod_undoneMany mod_open mod_laid mod_isBoth mod_wished mod_bestMany mod_bestRow mod_ringDigits u.1 mod_endKind mod_undoneFrom mod_askedMany u.2)) (As := [.int x1, .int x2]) (rest := []) (c_X12_settles l D cs ad  H.size x1 x2 mod_code mod_shoes mod_claims mod_taped mod_here mod_fault mod_suits mod_doneMany mod_undoneMany mod_open mod_laid mod_isBoth mod_wished mod_bestMany mod_bestRow mod_ringDigits u_1 mod_endKind mod_undoneFrom mod_askedMany u_2 (r_4, u_5, u_6) hc_7) ⟨hx, hb, hml, hown, ht⟩ (cwV 2 ht g_X12_419 rfl rfl rfl ⟨rfl, hd_X12_settles⟩ ⟨Nat.le_of_ble_eq_true rfl, Nat.le_of_ble_eq_true rfl⟩) (va_recv hK hP (ci := 12) (q0 := 0) rfl rfl) hP hD hS hK hA [0, 1, 2, 3, 4] rfl rfl [(ad 41), (ad 53), (ad 57), (ad 58), (ad 80)] rfl (fun _ => rfl) rfl hl.1 (Nat.le_of_ble_eq_true rfl) dX12_plainTells_8 ⟨Nat.zero_le _, Nat.zero_le _⟩ (fun r u H locs hq hP hS => ?_)
  cases hq
  have hP : va_P D classes (wl_X12_plainTells ad cs mod_code mod_shoes mod_claims mod_taped mod_here mod_fault mod_suits mod_doneMany mod_undoneMany mod_open mod_laid mod_isBoth mod_wished mod_bestMany mod_bestRow mod_ringDigits u_5 mod_endKind mod_undoneFrom mod_askedMany u_6) H := hP
  have hD : va_D A (wl_X12_plainTells ad cs mod_code mod_shoes mod_claims mod_taped mod_here mod_fault mod_suits mod_doneMany mod_undoneMany mod_open mod_laid mod_isBoth mod_wished mod_bestMany mod_bestRow mod_ringDigits u_5 mod_endKind mod_undoneFrom mod_askedMany u_6) := zDk hD [(ad 41), (ad 53), (ad 57), (ad 58), (ad 80)] rfl rfl
  refine lv_istore_n (lv' := [(3, .int r_4), (0, .ref (ad 41)), (1, .int x1), (2, .int x2)]) hx hb dX12_plainTells_11 rfl hl (by decide) rfl (fun ls hl => ?_)
  refine lv_iload_n hx hb dX12_plainTells_12 rfl (lv_at hl 0 rfl) ?_
  refine lv_aload_n hx hb dX12_plainTells_13 rfl (lv_at hl 1 rfl) ?_
  refine lv_iload_n hx hb dX12_plainTells_14 rfl (lv_at hl 2 rfl) ?_
  refine lv_iconst (v := (1 : Int32)) hx hb dX12_plainTells_15 (by decide) ?_
  obtain ⟨r_8, u_9, u_10, hc_11, h⟩ := zk_o3 h
  refine zz_vi (post := (fun r u => (r, u) = (r_8, u_9, u_10))) (w1 := fun u => (wl_X12_binds ad cs mod_code mod_shoes mod_claims mod_taped mod_here mod_fault mod_suits mod_doneMany mod_undoneMany mod_open mod_laid mod_isBoth mod_wished mod_bestMany mod_bestRow mod_ringDigits u.1 mod_endKind mod_undoneFrom u.2)) (As := [.int x1, .int (1 : Int32)]) (rest := [.int r_4]) (c_X12_binds l D cs ad  H.size x1 (1 : Int32) mod_code mod_shoes mod_claims mod_taped mod_here mod_fault mod_suits mod_doneMany mod_undoneMany mod_open mod_laid mod_isBoth mod_wished mod_bestMany mod_bestRow mod_ringDigits u_5 mod_endKind mod_undoneFrom u_6 (r_8, u_9, u_10) hc_11) ⟨hx, hb, hml, hown, ht⟩ (cwV 2 ht g_X12_410 rfl rfl rfl ⟨rfl, hd_X12_binds⟩ ⟨Nat.le_of_ble_eq_true rfl, Nat.le_of_ble_eq_true rfl⟩) (va_recv hK hP (ci := 12) (q0 := 0) rfl rfl) hP hD hS hK hA [0, 1, 2, 4] rfl rfl [(ad 41), (ad 53), (ad 57), (ad 80)] rfl (fun _ => rfl) rfl hl.1 (Nat.le_of_ble_eq_true rfl) dX12_plainTells_16 ⟨Nat.zero_le _, Nat.zero_le _⟩ (fun r u H locs hq hP hS => ?_)
  cases hq
  have hP : va_P D classes (wl_X12_plainTells ad cs mod_code mod_shoes mod_claims mod_taped mod_here mod_fault mod_suits mod_doneMany mod_undoneMany mod_open mod_laid mod_isBoth mod_wished mod_bestMany mod_bestRow mod_ringDigits u_9 mod_endKind mod_undoneFrom mod_askedMany u_10) H := hP
  have hD : va_D A (wl_X12_plainTells ad cs mod_code mod_shoes mod_claims mod_taped mod_here mod_fault mod_suits mod_doneMany mod_undoneMany mod_open mod_laid mod_isBoth mod_wished mod_bestMany mod_bestRow mod_ringDigits u_9 mod_endKind mod_undoneFrom mod_askedMany u_10) := zDk hD [(ad 41), (ad 53), (ad 57), (ad 58), (ad 80)] rfl rfl
  refine lv_isub hx hb dX12_plainTells_19 ?_
  exact W.iret (v := r_4 - r_8) hx hb hr (fun t ht2 hW => ⟨⟨r_4 - r_8, (u_9, u_10), rfl, Option.some.inj h, by rw [ht2]; exact hP, hD⟩, hS.F ht2⟩) hS.2.2 dX12_plainTells_20 hlocks
set_option maxHeartbeats 4000000 in
set_option maxRecDepth 100000 in
theorem c_X12_plainTells (l : Launch) (D : va_G) (cs : Nat → ClassId) (ad : Nat → Nat) (sz : Nat) (x1 : Int32) (x2 : Int32) (mod_code : Int32) (mod_shoes : Int32) (mod_claims : Int32) (mod_taped : Int32) (mod_here : Int32) (mod_fault : Int32) (mod_suits : Int32) (mod_doneMany : Int32) (mod_undoneMany : Int32) (mod_open : Int32) (mod_laid : Int32) (mod_isBoth : Int32) (mod_wished : Int32) (mod_bestMany : Int32) (mod_bestRow : Int32) (mod_ringDigits : Int32) (mod_traces : Int32) (mod_endKind : Nat → Int32) (mod_undoneFrom : Nat → Int32) (mod_askedMany : Nat → Int32) (mod_traced : Nat → Int32) (R : Int32 × Int32 × (Nat → Int32)) (h : f_X12_plainTells   x1 x2 mod_code mod_shoes mod_claims mod_taped mod_here mod_fault mod_suits mod_doneMany mod_undoneMany mod_open mod_laid mod_isBoth mod_wished mod_bestMany mod_bestRow mod_ringDigits mod_traces mod_endKind mod_undoneFrom mod_askedMany mod_traced = some R) : Met l yX12_plainTells (z_X12_plainTells) rm_X12_plainTells (va_Pc [.ref (ad 41), .int x1, .int x2] (zPre D cs (wl_X12_plainTells ad cs mod_code mod_shoes mod_claims mod_taped mod_here mod_fault mod_suits mod_doneMany mod_undoneMany mod_open mod_laid mod_isBoth mod_wished mod_bestMany mod_bestRow mod_ringDigits mod_traces mod_endKind mod_undoneFrom mod_askedMany mod_traced) sz)) (Q_X12_plainTells D cs ad mod_code mod_shoes mod_claims mod_taped mod_here mod_fault mod_suits mod_doneMany mod_undoneMany mod_open mod_laid mod_isBoth mod_wished mod_bestMany mod_bestRow mod_ringDigits mod_endKind mod_undoneFrom mod_askedMany (va_A (wl_X12_plainTells ad cs mod_code mod_shoes mod_claims mod_taped mod_here mod_fault mod_suits mod_doneMany mod_undoneMany mod_open mod_laid mod_isBoth mod_wished mod_bestMany mod_bestRow mod_ringDigits mod_traces mod_endKind mod_undoneFrom mod_askedMany mod_traced) sz) R) 0 0 (va_A (wl_X12_plainTells ad cs mod_code mod_shoes mod_claims mod_taped mod_here mod_fault mod_suits mod_doneMany mod_undoneMany mod_open mod_laid mod_isBoth mod_wished mod_bestMany mod_bestRow mod_ringDigits mod_traces mod_endKind mod_undoneFrom mod_askedMany mod_traced) sz) := by
  refine Met.ofW (cc := cX12_plainTells) (maxL := 4) (ret := (some .int)) (by decide) rfl ?_
  intro p e s m args below meth c s₁ B hml hv
  obtain ⟨rfl, hsz, hP, hK, hD0⟩ := hv
  subst hsz
  have hD := hD0.self (sz := s.heap.size)
  have C0 : zC p s m _ meth c cX12_plainTells 4 (some .int) RX12 zW := ⟨B.exec, B.bytes, B.returns, hml, findClass_of_methodNamed B.named, fun w hw => atoms_spec (ws := z_X12_plainTells) B.pre w (List.mem_cons_of_mem _ hw), B.notSynchronized⟩
  have hA : ∀ q : Nat, s.heap.size ≤ q → va_A (wl_X12_plainTells ad cs mod_code mod_shoes mod_claims mod_taped mod_here mod_fault mod_suits mod_doneMany mod_undoneMany mod_open mod_laid mod_isBoth mod_wished mod_bestMany mod_bestRow mod_ringDigits mod_traces mod_endKind mod_undoneFrom mod_askedMany mod_traced) s.heap.size q := fun q h => Or.inr h
  have hl := lv_entry ([.ref (ad 41), .int x1, .int x2]) (n := 4) (Nat.le_of_ble_eq_true rfl)
  rw [lg_entry_eq]
  generalize (lg_sl ([.ref (ad 41), .int x1, .int x2]) ++ List.replicate (4 - (lg_sl ([.ref (ad 41), .int x1, .int x2])).length) Slot.unset).toArray = ls at hl ⊢
  exact L_X12_plainTells_0 C0 hK hA   x1 x2 mod_traces mod_traced h s.heap [] ls hP hD va_S.rf hl
theorem kw_72 : Cond.selects RX12 yX12_plainTells yX12_plainTells ∈ zW := zwI (i := 72) (by decide +kernel) (by decide +kernel)
theorem kw_1861 : Cond.methodLink RX12 422 yX12_plainTells ∈ zW := zwC (i := 107) zc_8 rfl rfl
theorem kw_1863 : Cond.instanceMethod yX12_plainTells ∈ zW := zwC (i := 109) zc_8 rfl rfl
theorem kw_1864 : Cond.code yX12_plainTells cX12_plainTells 4 (some .int) ∈ zW := zwC (i := 110) zc_8 rfl rfl
theorem zh_cX12_tells_0 : zck [42, 27, 182, 0, 237, 7, 160, 0, 18, 42, 16, 51, 182, 1, 139, 42, 27, 28, 182, 1, 166, 8] (zdu 0 cX12_tells.data.toList) = true := by decide +kernel
theorem dX12_tells_0 : decode cX12_tells 0 = .ok (.aload_n 0, 1) := zo_42 zh_cX12_tells_0 0 rfl
theorem dX12_tells_1 : decode cX12_tells 1 = .ok (.iload_n 1, 1) := zo_27 zh_cX12_tells_0 1 rfl
theorem dX12_tells_2 : decode cX12_tells 2 = .ok (.invokevirtual 237, 3) := zo_182 zh_cX12_tells_0 2 rfl
theorem dX12_tells_5 : decode cX12_tells 5 = .ok (.iconst 4, 1) := zo_7 zh_cX12_tells_0 5 rfl
theorem dX12_tells_6 : decode cX12_tells 6 = .ok (.if_icmp .ne 18, 3) := zo_p160 zh_cX12_tells_0 6 18 rfl rfl
theorem dX12_tells_9 : decode cX12_tells 9 = .ok (.aload_n 0, 1) := zo_42 zh_cX12_tells_0 9 rfl
theorem dX12_tells_10 : decode cX12_tells 10 = .ok (.bipush 51, 2) := zo_p16 zh_cX12_tells_0 10 51 rfl rfl
theorem dX12_tells_12 : decode cX12_tells 12 = .ok (.invokevirtual 395, 3) := zo_182 zh_cX12_tells_0 12 rfl
theorem dX12_tells_15 : decode cX12_tells 15 = .ok (.aload_n 0, 1) := zo_42 zh_cX12_tells_0 15 rfl
theorem dX12_tells_16 : decode cX12_tells 16 = .ok (.iload_n 1, 1) := zo_27 zh_cX12_tells_0 16 rfl
theorem dX12_tells_17 : decode cX12_tells 17 = .ok (.iload_n 2, 1) := zo_28 zh_cX12_tells_0 17 rfl
theorem dX12_tells_18 : decode cX12_tells 18 = .ok (.invokevirtual 422, 3) := zo_182 zh_cX12_tells_0 18 rfl
theorem zh_cX12_tells_1 : zck [166, 8, 130, 172, 42, 27, 28, 182, 1, 166, 172] (zdu 20 cX12_tells.data.toList) = true := by decide +kernel
theorem dX12_tells_21 : decode cX12_tells 21 = .ok (.iconst 5, 1) := zo_8 zh_cX12_tells_1 1 rfl
theorem dX12_tells_22 : decode cX12_tells 22 = .ok (.ixor, 1) := zo_130 zh_cX12_tells_1 2 rfl
theorem dX12_tells_23 : decode cX12_tells 23 = .ok (.ireturn, 1) := zo_172 zh_cX12_tells_1 3 rfl
theorem dX12_tells_24 : decode cX12_tells 24 = .ok (.aload_n 0, 1) := zo_42 zh_cX12_tells_1 4 rfl
theorem dX12_tells_25 : decode cX12_tells 25 = .ok (.iload_n 1, 1) := zo_27 zh_cX12_tells_1 5 rfl
theorem dX12_tells_26 : decode cX12_tells 26 = .ok (.iload_n 2, 1) := zo_28 zh_cX12_tells_1 6 rfl
theorem dX12_tells_27 : decode cX12_tells 27 = .ok (.invokevirtual 422, 3) := zo_182 zh_cX12_tells_1 7 rfl
theorem dX12_tells_30 : decode cX12_tells 30 = .ok (.ireturn, 1) := zo_172 zh_cX12_tells_1 10 rfl
abbrev z_X12_tells : List Cond := .code yX12_tells cX12_tells 3 (some .int) :: zW
abbrev wl_X12_tells (ad : Nat → Nat) (cs : Nat → ClassId)  (mod_code : Int32) (mod_shoes : Int32) (mod_claims : Int32) (mod_taped : Int32) (mod_here : Int32) (mod_fault : Int32) (mod_suits : Int32) (mod_doneMany : Int32) (mod_undoneMany : Int32) (mod_open : Int32) (mod_laid : Int32) (mod_isBoth : Int32) (mod_wished : Int32) (mod_bestMany : Int32) (mod_bestRow : Int32) (mod_ringDigits : Int32) (mod_traces : Int32) (mod_endKind : Nat → Int32) (mod_undoneFrom : Nat → Int32) (mod_askedMany : Nat → Int32) (mod_traced : Nat → Int32) : va_W := [((ad 41), .inr (12, [.int mod_code, .int mod_shoes, .ref (ad 42), .ref (ad 43), .ref (ad 44), .ref (ad 45), .int mod_claims, .ref (ad 46), .ref (ad 47), .ref (ad 48), .ref (ad 49), .ref (ad 50), .int mod_taped, .int mod_here, .int mod_fault, .int mod_suits, .ref (ad 51), .ref (ad 52), .ref (ad 53), .ref (ad 54), .ref (ad 55), .ref (ad 56), .ref (ad 57), .ref (ad 58), .ref (ad 59), .ref (ad 60), .ref (ad 61), .int mod_doneMany, .int mod_undoneMany, .ref (ad 62), .ref (ad 63), .ref (ad 64), .ref (ad 65), .int mod_open, .int mod_laid, .ref (ad 66), .ref (ad 67), .ref (ad 68), .ref (ad 69), .ref (ad 70), .ref (ad 71), .ref (ad 72), .ref (ad 73), .ref (ad 74), .ref (ad 75), .int mod_isBoth, .int mod_wished, .ref (ad 76), .ref (ad 77), .int mod_bestMany, .int mod_bestRow, .ref (ad 78), .ref (ad 79), .int mod_ringDigits, .int mod_traces, .ref (ad 80), .ref (ad 81), .ref (ad 82), .ref (ad 83), .ref (ad 84)])), ((ad 53), .inl (cs 0, 45, .inl mod_endKind)), ((ad 57), .inl (cs 0, 45, .inl mod_undoneFrom)), ((ad 58), .inl (cs 0, 45, .inl mod_askedMany)), ((ad 80), .inl (cs 0, 24, .inl mod_traced))]
def Q_X12_tells (D : va_G) (cs : Nat → ClassId) (ad : Nat → Nat)  (mod_code : Int32) (mod_shoes : Int32) (mod_claims : Int32) (mod_taped : Int32) (mod_here : Int32) (mod_fault : Int32) (mod_suits : Int32) (mod_doneMany : Int32) (mod_undoneMany : Int32) (mod_open : Int32) (mod_laid : Int32) (mod_isBoth : Int32) (mod_wished : Int32) (mod_bestMany : Int32) (mod_bestRow : Int32) (mod_ringDigits : Int32) (mod_endKind : Nat → Int32) (mod_undoneFrom : Nat → Int32) (mod_askedMany : Nat → Int32) (A : Nat → Prop) (R : Int32 × Int32 × (Nat → Int32)) : Array Value → State → Outcome → State → Prop :=
  va_Qi (fun (r : Int32) (u : Int32 × (Nat → Int32)) => (r, u) = R) (fun (u : Int32 × (Nat → Int32)) (t : State) => va_P D classes (wl_X12_tells ad cs mod_code mod_shoes mod_claims mod_taped mod_here mod_fault mod_suits mod_doneMany mod_undoneMany mod_open mod_laid mod_isBoth mod_wished mod_bestMany mod_bestRow mod_ringDigits u.1 mod_endKind mod_undoneFrom mod_askedMany u.2) t.heap ∧ va_D A (wl_X12_tells ad cs mod_code mod_shoes mod_claims mod_taped mod_here mod_fault mod_suits mod_doneMany mod_undoneMany mod_open mod_laid mod_isBoth mod_wished mod_bestMany mod_bestRow mod_ringDigits u.1 mod_endKind mod_undoneFrom mod_askedMany u.2)) A
abbrev rm_X12_tells : Room := { frames := 7, cells := 0, slots := 0, locals := 157 }
theorem g_X12_422 : GoodIn zW (wsV RX12 422 RX12 yX12_plainTells z_X12_plainTells) := zGV kw_1861 kw_1863 kw_72 kw_95 kw_1864
theorem hd_X12_plainTells : yX12_plainTells.cls ≠ "java/lang/invoke/MethodHandle" ∧ yX12_plainTells.cls ≠ "java/lang/invoke/VarHandle" ∧ (parseMethodDescriptor yX12_plainTells.desc).map (fun d => d.parameters.length) = some 2 := by decide +kernel
def B_X12_tells_0    (mod_code : Int32) (mod_shoes : Int32) (mod_claims : Int32) (mod_taped : Int32) (mod_here : Int32) (mod_fault : Int32) (mod_suits : Int32) (mod_doneMany : Int32) (mod_undoneMany : Int32) (mod_open : Int32) (mod_laid : Int32) (mod_isBoth : Int32) (mod_wished : Int32) (mod_bestMany : Int32) (mod_bestRow : Int32) (mod_ringDigits : Int32) (mod_endKind : Nat → Int32) (mod_undoneFrom : Nat → Int32) (mod_askedMany : Nat → Int32) (x1 : Int32) (x2 : Int32) (mod_traces : Int32) (mod_traced : Nat → Int32) : Option (Int32 × Int32 × (Nat → Int32)) :=
  (zk_b2 (f_X12_bodyKind x1 mod_code mod_shoes mod_claims mod_taped mod_here mod_fault mod_suits mod_doneMany mod_undoneMany mod_open mod_laid mod_isBoth mod_wished mod_bestMany mod_bestRow mod_ringDigits mod_traces mod_endKind mod_undoneFrom) (fun r_1 u_2 => (if r_1 = (4 : Int32) then (zk_b2 (f_X12_ran (51 : Int32) mod_code mod_shoes mod_claims mod_taped mod_here mod_fault mod_suits mod_doneMany mod_undoneMany mod_open mod_laid mod_isBoth mod_wished mod_bestMany mod_bestRow mod_ringDigits mod_traces mod_traced) (fun u_9 u_10 => (zk_b3 (f_X12_plainTells x1 x2 mod_code mod_shoes mod_claims mod_taped mod_here mod_fault mod_suits mod_doneMany mod_undoneMany mod_open mod_laid mod_isBoth mod_wished mod_bestMany mod_bestRow mod_ringDigits u_9 mod_endKind mod_undoneFrom mod_askedMany u_10) (fun r_12 u_13 u_14 => (some (r_12 ^^^ (5 : Int32), u_13, u_14)))))) else (zk_b3 (f_X12_plainTells x1 x2 mod_code mod_shoes mod_claims mod_taped mod_here mod_fault mod_suits mod_doneMany mod_undoneMany mod_open mod_laid mod_isBoth mod_wished mod_bestMany mod_bestRow mod_ringDigits mod_traces mod_endKind mod_undoneFrom mod_askedMany mod_traced) (fun r_5 u_6 u_7 => (some (r_5, u_6, u_7)))))))
def f_X12_tells   (x1 : Int32) (x2 : Int32) (mod_code : Int32) (mod_shoes : Int32) (mod_claims : Int32) (mod_taped : Int32) (mod_here : Int32) (mod_fault : Int32) (mod_suits : Int32) (mod_doneMany : Int32) (mod_undoneMany : Int32) (mod_open : Int32) (mod_laid : Int32) (mod_isBoth : Int32) (mod_wished : Int32) (mod_bestMany : Int32) (mod_bestRow : Int32) (mod_ringDigits : Int32) (mod_traces : Int32) (mod_endKind : Nat → Int32) (mod_undoneFrom : Nat → Int32) (mod_askedMany : Nat → Int32) (mod_traced : Nat → Int32) : Option (Int32 × Int32 × (Nat → Int32)) := B_X12_tells_0   mod_code mod_shoes mod_claims mod_taped mod_here mod_fault mod_suits mod_doneMany mod_undoneMany mod_open mod_laid mod_isBoth mod_wished mod_bestMany mod_bestRow mod_ringDigits mod_endKind mod_undoneFrom mod_askedMany x1 x2 mod_traces mod_traced
set_option maxHeartbeats 4000000 in
set_option maxRecDepth 100000 in
theorem L_X12_tells_0 {p : Program} {l : Launch} {e : Env} {s : State} {m : MethodId} {args : Array Value} {below : List Frame} {meth : Method} {c : Code} {A : Nat → Prop} {D : va_G} {cs : Nat → ClassId} {ad : Nat → Nat} {mod_code : Int32} {mod_shoes : Int32} {mod_claims : Int32} {mod_taped : Int32} {mod_here : Int32} {mod_fault : Int32} {mod_suits : Int32} {mod_doneMany : Int32} {mod_undoneMany : Int32} {mod_open : Int32} {mod_laid : Int32} {mod_isBoth : Int32} {mod_wished : Int32} {mod_bestMany : Int32} {mod_bestRow : Int32} {mod_ringDigits : Int32} {mod_endKind : Nat → Int32} {mod_undoneFrom : Nat → Int32} {mod_askedMany : Nat → Int32} {R : Int32 × Int32 × (Nat → Int32)} (C0 : zC p s m args meth c cX12_tells 3 (some .int) RX12 zW) (hK : va_K D classes (zT cs) s) (hA : ∀ q : Nat, s.heap.size ≤ q → A q) (x1 : Int32) (x2 : Int32) (mod_traces : Int32) (mod_traced : Nat → Int32) (h : B_X12_tells_0 mod_code mod_shoes mod_claims mod_taped mod_here mod_fault mod_suits mod_doneMany mod_undoneMany mod_open mod_laid mod_isBoth mod_wished mod_bestMany mod_bestRow mod_ringDigits mod_endKind mod_undoneFrom mod_askedMany x1 x2 mod_traces mod_traced = some R) (H : Heap) (locs : List Loc) (ls : Array Slot) (hP : va_P D classes (wl_X12_tells ad cs mod_code mod_shoes mod_claims mod_taped mod_here mod_fault mod_suits mod_doneMany mod_undoneMany mod_open mod_laid mod_isBoth mod_wished mod_bestMany mod_bestRow mod_ringDigits mod_traces mod_endKind mod_undoneFrom mod_askedMany mod_traced) H) (hD : va_D A (wl_X12_tells ad cs mod_code mod_shoes mod_claims mod_taped mod_here mod_fault mod_suits mod_doneMany mod_undoneMany mod_open mod_laid mod_isBoth mod_wished mod_bestMany mod_bestRow mod_ringDigits mod_traces mod_endKind mod_undoneFrom mod_askedMany mod_traced)) (hS : va_S A s.heap H locs) (hl : lv_has ls 3 [(0, .ref (ad 41)), (1, .int x1), (2, .int x2)]) : W p l e rm_X12_tells s m args below meth c H locs 0 0 (MQ below (Q_X12_tells D cs ad mod_code mod_shoes mod_claims mod_taped mod_here mod_fault mod_suits mod_doneMany mod_undoneMany mod_open mod_laid mod_isBoth mod_wished mod_bestMany mod_bestRow mod_ringDigits mod_endKind mod_undoneFrom mod_askedMany A R) args s 0 0 A) (F0 m 0 ls []) := by
  obtain ⟨hx, hb, hr, hml, hown, ht, hlocks⟩ := id C0
  refine lv_aload_n hx hb dX12_tells_0 rfl (lv_at hl 0 rfl) ?_
  refine lv_iload_n hx hb dX12_tells_1 rfl (lv_at hl 1 rfl) ?_
  obtain ⟨r_1, u_2, hc_3, h⟩ := zk_o2 h
  refine zz_vi (post := (fun r u => (r, u) = (r_1, u_2))) (w1 := fun u => (wl_X12_bodyKind ad cs mod_code mod_shoes mod_claims mod_taped mod_here mod_fault mod_suits mod_doneMany mod_undoneMany mod_open mod_laid mod_isBoth mod_wished mod_bestMany mod_bestRow mod_ringDigits mod_traces mod_endKind mod_undoneFrom)) (As := [.int x1]) (rest := []) (c_X12_bodyKind l D cs ad  H.size x1 mod_code mod_shoes mod_claims mod_taped mod_here mod_fault mod_suits mod_doneMany mod_undoneMany mod_open mod_laid mod_isBoth mod_wished mod_bestMany mod_bestRow mod_ringDigits mod_traces mod_endKind mod_undoneFrom (r_1, u_2) hc_3) ⟨hx, hb, hml, hown, ht⟩ (cwV 1 ht g_X12_237 rfl rfl rfl ⟨rfl, hd_X12_bodyKind⟩ ⟨Nat.le_of_ble_eq_true rfl, Nat.le_of_ble_eq_true rfl⟩) (va_recv hK hP (ci := 12) (q0 := 0) rfl rfl) hP hD hS hK hA [0, 1, 2] rfl rfl [(ad 41), (ad 53), (ad 57)] rfl (fun _ => rfl) rfl hl.1 (Nat.le_of_ble_eq_true rfl) dX12_tells_2 ⟨Nat.zero_le _, Nat.zero_le _⟩ (fun r u H locs hq hP hS => ?_)
  cases hq
  have hP : va_P D classes (wl_X12_tells ad cs mod_code mod_shoes mod_claims mod_taped mod_here mod_fault mod_suits mod_doneMany mod_undoneMany mod_open mod_laid mod_isBoth mod_wished mod_bestMany mod_bestRow mod_ringDigits mod_traces mod_endKind mod_undoneFrom mod_askedMany mod_traced) H := hP
  have hD : va_D A (wl_X12_tells ad cs mod_code mod_shoes mod_claims mod_taped mod_here mod_fault mod_suits mod_doneMany mod_undoneMany mod_open mod_laid mod_isBoth mod_wished mod_bestMany mod_bestRow mod_ringDigits mod_traces mod_endKind mod_undoneFrom mod_askedMany mod_traced) := zDk hD [(ad 41), (ad 53), (ad 57), (ad 58), (ad 80)] rfl rfl
  refine lv_iconst (v := (4 : Int32)) hx hb dX12_tells_5 (by decide) ?_
  refine lv_icmp_ne (tgt := 24) hx hb dX12_tells_6 (by decide) (fun c_4 => ?_) (fun c_4 => ?_)
  · have h := zk_f c_4 h
    refine lv_aload_n hx hb dX12_tells_24 rfl (lv_at hl 0 rfl) ?_
    refine lv_iload_n hx hb dX12_tells_25 rfl (lv_at hl 1 rfl) ?_
    refine lv_iload_n hx hb dX12_tells_26 rfl (lv_at hl 2 rfl) ?_
    obtain ⟨r_5, u_6, u_7, hc_8, h⟩ := zk_o3 h
    refine zz_vi (post := (fun r u => (r, u) = (r_5, u_6, u_7))) (w1 := fun u => (wl_X12_plainTells ad cs mod_code mod_shoes mod_claims mod_taped mod_here mod_fault mod_suits mod_doneMany mod_undoneMany mod_open mod_laid mod_isBoth mod_wished mod_bestMany mod_bestRow mod_ringDigits u.1 mod_endKind mod_undoneFrom mod_askedMany u.2)) (As := [.int x1, .int x2]) (rest := []) (c_X12_plainTells l D cs ad  H.size x1 x2 mod_code mod_shoes mod_claims mod_taped mod_here mod_fault mod_suits mod_doneMany mod_undoneMany mod_open mod_laid mod_isBoth mod_wished mod_bestMany mod_bestRow mod_ringDigits mod_traces mod_endKind mod_undoneFrom mod_askedMany mod_traced (r_5, u_6, u_7) hc_8) ⟨hx, hb, hml, hown, ht⟩ (cwV 2 ht g_X12_422 rfl rfl rfl ⟨rfl, hd_X12_plainTells⟩ ⟨Nat.le_of_ble_eq_true rfl, Nat.le_of_ble_eq_true rfl⟩) (va_recv hK hP (ci := 12) (q0 := 0) rfl rfl) hP hD hS hK hA [0, 1, 2, 3, 4] rfl rfl [(ad 41), (ad 53), (ad 57), (ad 58), (ad 80)] rfl (fun _ => rfl) rfl hl.1 (Nat.le_of_ble_eq_true rfl) dX12_tells_27 ⟨Nat.zero_le _, Nat.zero_le _⟩ (fun r u H locs hq hP hS => ?_)
    cases hq
    have hP : va_P D classes (wl_X12_tells ad cs mod_code mod_shoes mod_claims mod_taped mod_here mod_fault mod_suits mod_doneMany mod_undoneMany mod_open mod_laid mod_isBoth mod_wished mod_bestMany mod_bestRow mod_ringDigits u_6 mod_endKind mod_undoneFrom mod_askedMany u_7) H := hP
    have hD : va_D A (wl_X12_tells ad cs mod_code mod_shoes mod_claims mod_taped mod_here mod_fault mod_suits mod_doneMany mod_undoneMany mod_open mod_laid mod_isBoth mod_wished mod_bestMany mod_bestRow mod_ringDigits u_6 mod_endKind mod_undoneFrom mod_askedMany u_7) := zDk hD [(ad 41), (ad 53), (ad 57), (ad 58), (ad 80)] rfl rfl
    exact W.iret (v := r_5) hx hb hr (fun t ht2 hW => ⟨⟨r_5, (u_6, u_7), rfl, Option.some.inj h, by rw [ht2]; exact hP, hD⟩, hS.F ht2⟩) hS.2.2 dX12_tells_30 hlocks
  · have h := zk_t c_4 h
    refine lv_aload_n hx hb dX12_tells_9 rfl (lv_at hl 0 rfl) ?_
    refine lv_bipush (v := (51 : Int32)) hx hb dX12_tells_10 (by decide) ?_
    obtain ⟨u_9, u_10, hc_11, h⟩ := zk_o2 h
    refine zz_vv (post := (fun u => u = (u_9, u_10))) (w1 := fun u => (wl_X12_ran ad cs mod_code mod_shoes mod_claims mod_taped mod_here mod_fault mod_suits mod_doneMany mod_undoneMany mod_open mod_laid mod_isBoth mod_wished mod_bestMany mod_bestRow mod_ringDigits u.1 u.2)) (As := [.int (51 : Int32)]) (rest := []) (c_X12_ran l D cs ad  H.size (51 : Int32) mod_code mod_shoes mod_claims mod_taped mod_here mod_fault mod_suits mod_doneMany mod_undoneMany mod_open mod_laid mod_isBoth mod_wished mod_bestMany mod_bestRow mod_ringDigits mod_traces mod_traced (u_9, u_10) hc_11) ⟨hx, hb, hml, hown, ht⟩ (cwV 1 ht g_X12_395 rfl rfl rfl ⟨rfl, hd_X12_ran⟩ ⟨Nat.le_of_ble_eq_true rfl, Nat.le_of_ble_eq_true rfl⟩) (va_recv hK hP (ci := 12) (q0 := 0) rfl rfl) hP hD hS hK hA [0, 4] rfl rfl [(ad 41), (ad 80)] rfl (fun _ => rfl) rfl hl.1 (Nat.le_of_ble_eq_true rfl) dX12_tells_12 ⟨Nat.zero_le _, Nat.zero_le _⟩ (fun u H locs hq hP hS => ?_)
    cases hq
    have hP : va_P D classes (wl_X12_tells ad cs mod_code mod_shoes mod_claims mod_taped mod_here mod_fault mod_suits mod_doneMany mod_undoneMany mod_open mod_laid mod_isBoth mod_wished mod_bestMany mod_bestRow mod_ringDigits u_9 mod_endKind mod_undoneFrom mod_askedMany u_10) H := hP
    have hD : va_D A (wl_X12_tells ad cs mod_code mod_shoes mod_claims mod_taped mod_here mod_fault mod_suits mod_doneMany mod_undoneMany mod_open mod_laid mod_isBoth mod_wished mod_bestMany mod_bestRow mod_ringDigits u_9 mod_endKind mod_undoneFrom mod_askedMany u_10) := zDk hD [(ad 41), (ad 53), (ad 57), (ad 58), (ad 80)] rfl rfl
    refine lv_aload_n hx hb dX12_tells_15 rfl (lv_at hl 0 rfl) ?_
    refine lv_iload_n hx hb dX12_tells_16 rfl (lv_at hl 1 rfl) ?_
    refine lv_iload_n hx hb dX12_tells_17 rfl (lv_at hl 2 rfl) ?_
    obtain ⟨r_12, u_13, u_14, hc_15, h⟩ := zk_o3 h
    refine zz_vi (post := (fun r u => (r, u) = (r_12, u_13, u_14))) (w1 := fun u => (wl_X12_plainTells ad cs mod_code mod_shoes mod_claims mod_taped mod_here mod_fault mod_suits mod_doneMany mod_undoneMany mod_open mod_laid mod_isBoth mod_wished mod_bestMany mod_bestRow mod_ringDigits u.1 mod_endKind mod_undoneFrom mod_askedMany u.2)) (As := [.int x1, .int x2]) (rest := []) (c_X12_plainTells l D cs ad  H.size x1 x2 mod_code mod_shoes mod_claims mod_taped mod_here mod_fault mod_suits mod_doneMany mod_undoneMany mod_open mod_laid mod_isBoth mod_wished mod_bestMany mod_bestRow mod_ringDigits u_9 mod_endKind mod_undoneFrom mod_askedMany u_10 (r_12, u_13, u_14) hc_15) ⟨hx, hb, hml, hown, ht⟩ (cwV 2 ht g_X12_422 rfl rfl rfl ⟨rfl, hd_X12_plainTells⟩ ⟨Nat.le_of_ble_eq_true rfl, Nat.le_of_ble_eq_true rfl⟩) (va_recv hK hP (ci := 12) (q0 := 0) rfl rfl) hP hD hS hK hA [0, 1, 2, 3, 4] rfl rfl [(ad 41), (ad 53), (ad 57), (ad 58), (ad 80)] rfl (fun _ => rfl) rfl hl.1 (Nat.le_of_ble_eq_true rfl) dX12_tells_18 ⟨Nat.zero_le _, Nat.zero_le _⟩ (fun r u H locs hq hP hS => ?_)
    cases hq
    have hP : va_P D classes (wl_X12_tells ad cs mod_code mod_shoes mod_claims mod_taped mod_here mod_fault mod_suits mod_doneMany mod_undoneMany mod_open mod_laid mod_isBoth mod_wished mod_bestMany mod_bestRow mod_ringDigits u_13 mod_endKind mod_undoneFrom mod_askedMany u_14) H := hP
    have hD : va_D A (wl_X12_tells ad cs mod_code mod_shoes mod_claims mod_taped mod_here mod_fault mod_suits mod_doneMany mod_undoneMany mod_open mod_laid mod_isBoth mod_wished mod_bestMany mod_bestRow mod_ringDigits u_13 mod_endKind mod_undoneFrom mod_askedMany u_14) := zDk hD [(ad 41), (ad 53), (ad 57), (ad 58), (ad 80)] rfl rfl
    refine lv_iconst (v := (5 : Int32)) hx hb dX12_tells_21 (by decide) ?_
    refine lv_ixor hx hb dX12_tells_22 ?_
    exact W.iret (v := r_12 ^^^ (5 : Int32)) hx hb hr (fun t ht2 hW => ⟨⟨r_12 ^^^ (5 : Int32), (u_13, u_14), rfl, Option.some.inj h, by rw [ht2]; exact hP, hD⟩, hS.F ht2⟩) hS.2.2 dX12_tells_23 hlocks
set_option maxHeartbeats 4000000 in
set_option maxRecDepth 100000 in
theorem c_X12_tells (l : Launch) (D : va_G) (cs : Nat → ClassId) (ad : Nat → Nat) (sz : Nat) (x1 : Int32) (x2 : Int32) (mod_code : Int32) (mod_shoes : Int32) (mod_claims : Int32) (mod_taped : Int32) (mod_here : Int32) (mod_fault : Int32) (mod_suits : Int32) (mod_doneMany : Int32) (mod_undoneMany : Int32) (mod_open : Int32) (mod_laid : Int32) (mod_isBoth : Int32) (mod_wished : Int32) (mod_bestMany : Int32) (mod_bestRow : Int32) (mod_ringDigits : Int32) (mod_traces : Int32) (mod_endKind : Nat → Int32) (mod_undoneFrom : Nat → Int32) (mod_askedMany : Nat → Int32) (mod_traced : Nat → Int32) (R : Int32 × Int32 × (Nat → Int32)) (h : f_X12_tells   x1 x2 mod_code mod_shoes mod_claims mod_taped mod_here mod_fault mod_suits mod_doneMany mod_undoneMany mod_open mod_laid mod_isBoth mod_wished mod_bestMany mod_bestRow mod_ringDigits mod_traces mod_endKind mod_undoneFrom mod_askedMany mod_traced = some R) : Met l yX12_tells (z_X12_tells) rm_X12_tells (va_Pc [.ref (ad 41), .int x1, .int x2] (zPre D cs (wl_X12_tells ad cs mod_code mod_shoes mod_claims mod_taped mod_here mod_fault mod_suits mod_doneMany mod_undoneMany mod_open mod_laid mod_isBoth mod_wished mod_bestMany mod_bestRow mod_ringDigits mod_traces mod_endKind mod_undoneFrom mod_askedMany mod_traced) sz)) (Q_X12_tells D cs ad mod_code mod_shoes mod_claims mod_taped mod_here mod_fault mod_suits mod_doneMany mod_undoneMany mod_open mod_laid mod_isBoth mod_wished mod_bestMany mod_bestRow mod_ringDigits mod_endKind mod_undoneFrom mod_askedMany (va_A (wl_X12_tells ad cs mod_code mod_shoes mod_claims mod_taped mod_here mod_fault mod_suits mod_doneMany mod_undoneMany mod_open mod_laid mod_isBoth mod_wished mod_bestMany mod_bestRow mod_ringDigits mod_traces mod_endKind mod_undoneFrom mod_askedMany mod_traced) sz) R) 0 0 (va_A (wl_X12_tells ad cs mod_code mod_shoes mod_claims mod_taped mod_here mod_fault mod_suits mod_doneMany mod_undoneMany mod_open mod_laid mod_isBoth mod_wished mod_bestMany mod_bestRow mod_ringDigits mod_traces mod_endKind mod_undoneFrom mod_askedMany mod_traced) sz) := by
  refine Met.ofW (cc := cX12_tells) (maxL := 3) (ret := (some .int)) (by decide) rfl ?_
  intro p e s m args below meth c s₁ B hml hv
  obtain ⟨rfl, hsz, hP, hK, hD0⟩ := hv
  subst hsz
  have hD := hD0.self (sz := s.heap.size)
  have C0 : zC p s m _ meth c cX12_tells 3 (some .int) RX12 zW := ⟨B.exec, B.bytes, B.returns, hml, findClass_of_methodNamed B.named, fun w hw => atoms_spec (ws := z_X12_tells) B.pre w (List.mem_cons_of_mem _ hw), B.notSynchronized⟩
  have hA : ∀ q : Nat, s.heap.size ≤ q → va_A (wl_X12_tells ad cs mod_code mod_shoes mod_claims mod_taped mod_here mod_fault mod_suits mod_doneMany mod_undoneMany mod_open mod_laid mod_isBoth mod_wished mod_bestMany mod_bestRow mod_ringDigits mod_traces mod_endKind mod_undoneFrom mod_askedMany mod_traced) s.heap.size q := fun q h => Or.inr h
  have hl := lv_entry ([.ref (ad 41), .int x1, .int x2]) (n := 3) (Nat.le_of_ble_eq_true rfl)
  rw [lg_entry_eq]
  generalize (lg_sl ([.ref (ad 41), .int x1, .int x2]) ++ List.replicate (3 - (lg_sl ([.ref (ad 41), .int x1, .int x2])).length) Slot.unset).toArray = ls at hl ⊢
  exact L_X12_tells_0 C0 hK hA   x1 x2 mod_traces mod_traced h s.heap [] ls hP hD va_S.rf hl
theorem kw_71 : Cond.selects RX12 yX12_tells yX12_tells ∈ zW := zwI (i := 71) (by decide +kernel) (by decide +kernel)
theorem kw_1857 : Cond.methodLink RX12 425 yX12_tells ∈ zW := zwC (i := 103) zc_8 rfl rfl
theorem kw_1859 : Cond.instanceMethod yX12_tells ∈ zW := zwC (i := 105) zc_8 rfl rfl
theorem kw_1860 : Cond.code yX12_tells cX12_tells 3 (some .int) ∈ zW := zwC (i := 106) zc_8 rfl rfl
theorem zh_cX12_act_0 : zck [42, 3, 181, 1, 136, 42, 27, 182, 0, 234, 153, 0, 12, 28, 3, 6, 184, 0, 147, 154, 0, 5] (zdu 0 cX12_act.data.toList) = true := by decide +kernel
theorem dX12_act_0 : decode cX12_act 0 = .ok (.aload_n 0, 1) := zo_42 zh_cX12_act_0 0 rfl
theorem dX12_act_1 : decode cX12_act 1 = .ok (.iconst 0, 1) := zo_3 zh_cX12_act_0 1 rfl
theorem dX12_act_2 : decode cX12_act 2 = .ok (.putfield 392, 3) := zo_181 zh_cX12_act_0 2 rfl
theorem dX12_act_5 : decode cX12_act 5 = .ok (.aload_n 0, 1) := zo_42 zh_cX12_act_0 5 rfl
theorem dX12_act_6 : decode cX12_act 6 = .ok (.iload_n 1, 1) := zo_27 zh_cX12_act_0 6 rfl
theorem dX12_act_7 : decode cX12_act 7 = .ok (.invokevirtual 234, 3) := zo_182 zh_cX12_act_0 7 rfl
theorem dX12_act_10 : decode cX12_act 10 = .ok (.ifCond .eq 12, 3) := zo_p153 zh_cX12_act_0 10 12 rfl rfl
theorem dX12_act_13 : decode cX12_act 13 = .ok (.iload_n 2, 1) := zo_28 zh_cX12_act_0 13 rfl
theorem dX12_act_14 : decode cX12_act 14 = .ok (.iconst 0, 1) := zo_3 zh_cX12_act_0 14 rfl
theorem dX12_act_15 : decode cX12_act 15 = .ok (.iconst 3, 1) := zo_6 zh_cX12_act_0 15 rfl
theorem dX12_act_16 : decode cX12_act 16 = .ok (.invokestatic 147, 3) := zo_184 zh_cX12_act_0 16 rfl
theorem dX12_act_19 : decode cX12_act 19 = .ok (.ifCond .ne 5, 3) := zo_p154 zh_cX12_act_0 19 5 rfl rfl
theorem zh_cX12_act_1 : zck [0, 5, 3, 172, 28, 154, 0, 12, 42, 27, 29, 182, 1, 145, 167, 0, 37, 28, 4, 160, 0, 12] (zdu 20 cX12_act.data.toList) = true := by decide +kernel
theorem dX12_act_22 : decode cX12_act 22 = .ok (.iconst 0, 1) := zo_3 zh_cX12_act_1 2 rfl
theorem dX12_act_23 : decode cX12_act 23 = .ok (.ireturn, 1) := zo_172 zh_cX12_act_1 3 rfl
theorem dX12_act_24 : decode cX12_act 24 = .ok (.iload_n 2, 1) := zo_28 zh_cX12_act_1 4 rfl
theorem dX12_act_25 : decode cX12_act 25 = .ok (.ifCond .ne 12, 3) := zo_p154 zh_cX12_act_1 5 12 rfl rfl
theorem dX12_act_28 : decode cX12_act 28 = .ok (.aload_n 0, 1) := zo_42 zh_cX12_act_1 8 rfl
theorem dX12_act_29 : decode cX12_act 29 = .ok (.iload_n 1, 1) := zo_27 zh_cX12_act_1 9 rfl
theorem dX12_act_30 : decode cX12_act 30 = .ok (.iload_n 3, 1) := zo_29 zh_cX12_act_1 10 rfl
theorem dX12_act_31 : decode cX12_act 31 = .ok (.invokevirtual 401, 3) := zo_182 zh_cX12_act_1 11 rfl
theorem dX12_act_34 : decode cX12_act 34 = .ok (.goto 37, 3) := zo_p167 zh_cX12_act_1 14 37 rfl rfl
theorem dX12_act_37 : decode cX12_act 37 = .ok (.iload_n 2, 1) := zo_28 zh_cX12_act_1 17 rfl
theorem dX12_act_38 : decode cX12_act 38 = .ok (.iconst 1, 1) := zo_4 zh_cX12_act_1 18 rfl
theorem dX12_act_39 : decode cX12_act 39 = .ok (.if_icmp .ne 12, 3) := zo_p160 zh_cX12_act_1 19 12 rfl rfl
theorem zh_cX12_act_2 : zck [0, 12, 42, 27, 29, 182, 1, 163, 167, 0, 23, 28, 5, 160, 0, 12, 42, 27, 29, 182, 1, 154] (zdu 40 cX12_act.data.toList) = true := by decide +kernel
theorem dX12_act_42 : decode cX12_act 42 = .ok (.aload_n 0, 1) := zo_42 zh_cX12_act_2 2 rfl
theorem dX12_act_43 : decode cX12_act 43 = .ok (.iload_n 1, 1) := zo_27 zh_cX12_act_2 3 rfl
theorem dX12_act_44 : decode cX12_act 44 = .ok (.iload_n 3, 1) := zo_29 zh_cX12_act_2 4 rfl
theorem dX12_act_45 : decode cX12_act 45 = .ok (.invokevirtual 419, 3) := zo_182 zh_cX12_act_2 5 rfl
theorem dX12_act_48 : decode cX12_act 48 = .ok (.goto 23, 3) := zo_p167 zh_cX12_act_2 8 23 rfl rfl
theorem dX12_act_51 : decode cX12_act 51 = .ok (.iload_n 2, 1) := zo_28 zh_cX12_act_2 11 rfl
theorem dX12_act_52 : decode cX12_act 52 = .ok (.iconst 2, 1) := zo_5 zh_cX12_act_2 12 rfl
theorem dX12_act_53 : decode cX12_act 53 = .ok (.if_icmp .ne 12, 3) := zo_p160 zh_cX12_act_2 13 12 rfl rfl
theorem dX12_act_56 : decode cX12_act 56 = .ok (.aload_n 0, 1) := zo_42 zh_cX12_act_2 16 rfl
theorem dX12_act_57 : decode cX12_act 57 = .ok (.iload_n 1, 1) := zo_27 zh_cX12_act_2 17 rfl
theorem dX12_act_58 : decode cX12_act 58 = .ok (.iload_n 3, 1) := zo_29 zh_cX12_act_2 18 rfl
theorem dX12_act_59 : decode cX12_act 59 = .ok (.invokevirtual 410, 3) := zo_182 zh_cX12_act_2 19 rfl
theorem zh_cX12_act_3 : zck [1, 154, 167, 0, 9, 42, 27, 29, 182, 1, 169, 172] (zdu 60 cX12_act.data.toList) = true := by decide +kernel
theorem dX12_act_62 : decode cX12_act 62 = .ok (.goto 9, 3) := zo_p167 zh_cX12_act_3 2 9 rfl rfl
theorem dX12_act_65 : decode cX12_act 65 = .ok (.aload_n 0, 1) := zo_42 zh_cX12_act_3 5 rfl
theorem dX12_act_66 : decode cX12_act 66 = .ok (.iload_n 1, 1) := zo_27 zh_cX12_act_3 6 rfl
theorem dX12_act_67 : decode cX12_act 67 = .ok (.iload_n 3, 1) := zo_29 zh_cX12_act_3 7 rfl
theorem dX12_act_68 : decode cX12_act 68 = .ok (.invokevirtual 425, 3) := zo_182 zh_cX12_act_3 8 rfl
theorem dX12_act_71 : decode cX12_act 71 = .ok (.ireturn, 1) := zo_172 zh_cX12_act_3 11 rfl
abbrev z_X12_act : List Cond := .code yX12_act cX12_act 4 (some .int) :: zW
abbrev wl_X12_act (ad : Nat → Nat) (cs : Nat → ClassId)  (mod_code : Int32) (mod_shoes : Int32) (mod_claims : Int32) (mod_taped : Int32) (mod_here : Int32) (mod_fault : Int32) (mod_suits : Int32) (mod_doneMany : Int32) (mod_undoneMany : Int32) (mod_open : Int32) (mod_laid : Int32) (mod_isBoth : Int32) (mod_wished : Int32) (mod_bestMany : Int32) (mod_bestRow : Int32) (mod_ringDigits : Int32) (mod_traces : Int32) (mod_endKind : Nat → Int32) (mod_undoneFrom : Nat → Int32) (mod_askedMany : Nat → Int32) (mod_traced : Nat → Int32) : va_W := [((ad 41), .inr (12, [.int mod_code, .int mod_shoes, .ref (ad 42), .ref (ad 43), .ref (ad 44), .ref (ad 45), .int mod_claims, .ref (ad 46), .ref (ad 47), .ref (ad 48), .ref (ad 49), .ref (ad 50), .int mod_taped, .int mod_here, .int mod_fault, .int mod_suits, .ref (ad 51), .ref (ad 52), .ref (ad 53), .ref (ad 54), .ref (ad 55), .ref (ad 56), .ref (ad 57), .ref (ad 58), .ref (ad 59), .ref (ad 60), .ref (ad 61), .int mod_doneMany, .int mod_undoneMany, .ref (ad 62), .ref (ad 63), .ref (ad 64), .ref (ad 65), .int mod_open, .int mod_laid, .ref (ad 66), .ref (ad 67), .ref (ad 68), .ref (ad 69), .ref (ad 70), .ref (ad 71), .ref (ad 72), .ref (ad 73), .ref (ad 74), .ref (ad 75), .int mod_isBoth, .int mod_wished, .ref (ad 76), .ref (ad 77), .int mod_bestMany, .int mod_bestRow, .ref (ad 78), .ref (ad 79), .int mod_ringDigits, .int mod_traces, .ref (ad 80), .ref (ad 81), .ref (ad 82), .ref (ad 83), .ref (ad 84)])), ((ad 53), .inl (cs 0, 45, .inl mod_endKind)), ((ad 57), .inl (cs 0, 45, .inl mod_undoneFrom)), ((ad 58), .inl (cs 0, 45, .inl mod_askedMany)), ((ad 80), .inl (cs 0, 24, .inl mod_traced))]
def Q_X12_act (D : va_G) (cs : Nat → ClassId) (ad : Nat → Nat)  (mod_code : Int32) (mod_shoes : Int32) (mod_claims : Int32) (mod_taped : Int32) (mod_here : Int32) (mod_fault : Int32) (mod_suits : Int32) (mod_doneMany : Int32) (mod_undoneMany : Int32) (mod_open : Int32) (mod_laid : Int32) (mod_isBoth : Int32) (mod_wished : Int32) (mod_bestMany : Int32) (mod_bestRow : Int32) (mod_ringDigits : Int32) (mod_endKind : Nat → Int32) (mod_undoneFrom : Nat → Int32) (mod_askedMany : Nat → Int32) (A : Nat → Prop) (R : Int32 × Int32 × (Nat → Int32)) : Array Value → State → Outcome → State → Prop :=
  va_Qi (fun (r : Int32) (u : Int32 × (Nat → Int32)) => (r, u) = R) (fun (u : Int32 × (Nat → Int32)) (t : State) => va_P D classes (wl_X12_act ad cs mod_code mod_shoes mod_claims mod_taped mod_here mod_fault mod_suits mod_doneMany mod_undoneMany mod_open mod_laid mod_isBoth mod_wished mod_bestMany mod_bestRow mod_ringDigits u.1 mod_endKind mod_undoneFrom mod_askedMany u.2) t.heap ∧ va_D A (wl_X12_act ad cs mod_code mod_shoes mod_claims mod_taped mod_here mod_fault mod_suits mod_doneMany mod_undoneMany mod_open mod_laid mod_isBoth mod_wished mod_bestMany mod_bestRow mod_ringDigits u.1 mod_endKind mod_undoneFrom mod_askedMany u.2)) A
abbrev rm_X12_act : Room := { frames := 8, cells := 0, slots := 0, locals := 179 }
theorem g_X12_425 : GoodIn zW (wsV RX12 425 RX12 yX12_tells z_X12_tells) := zGV kw_1857 kw_1859 kw_71 kw_95 kw_1860
theorem hd_X12_tells : yX12_tells.cls ≠ "java/lang/invoke/MethodHandle" ∧ yX12_tells.cls ≠ "java/lang/invoke/VarHandle" ∧ (parseMethodDescriptor yX12_tells.desc).map (fun d => d.parameters.length) = some 2 := by decide +kernel
def B_X12_act_0    (mod_code : Int32) (mod_shoes : Int32) (mod_claims : Int32) (mod_taped : Int32) (mod_here : Int32) (mod_fault : Int32) (mod_suits : Int32) (mod_doneMany : Int32) (mod_undoneMany : Int32) (mod_open : Int32) (mod_laid : Int32) (mod_isBoth : Int32) (mod_wished : Int32) (mod_bestMany : Int32) (mod_bestRow : Int32) (mod_ringDigits : Int32) (mod_endKind : Nat → Int32) (mod_undoneFrom : Nat → Int32) (mod_askedMany : Nat → Int32) (x1 : Int32) (x2 : Int32) (x3 : Int32) (mod_traces : Int32) (mod_traced : Nat → Int32) : Option (Int32 × Int32 × (Nat → Int32)) :=
  (zk_b2 (f_X12_isSuit x1 mod_code mod_shoes mod_claims mod_taped mod_here mod_fault mod_suits mod_doneMany mod_undoneMany mod_open mod_laid mod_isBoth mod_wished mod_bestMany mod_bestRow mod_ringDigits (0 : Int32)) (fun r_1 u_2 => (if r_1 = 0 then (some ((0 : Int32), (0 : Int32), mod_traced)) else (zk_b2 (f_X12_in x2 (0 : Int32) (3 : Int32)) (fun r_5 u_6 => (if r_5 = 0 then (some ((0 : Int32), (0 : Int32), mod_traced)) else (if x2 = 0 then (zk_b3 (f_X12_closes x1 x3 mod_code mod_shoes mod_claims mod_taped mod_here mod_fault mod_suits mod_doneMany mod_undoneMany mod_open mod_laid mod_isBoth mod_wished mod_bestMany mod_bestRow mod_ringDigits (0 : Int32) mod_endKind mod_undoneFrom mod_askedMany mod_traced) (fun r_24 u_25 u_26 => (some (r_24, u_25, u_26)))) else (if x2 = (1 : Int32) then (zk_b3 (f_X12_settles x1 x3 mod_code mod_shoes mod_claims mod_taped mod_here mod_fault mod_suits mod_doneMany mod_undoneMany mod_open mod_laid mod_isBoth mod_wished mod_bestMany mod_bestRow mod_ringDigits (0 : Int32) mod_endKind mod_undoneFrom mod_askedMany mod_traced) (fun r_20 u_21 u_22 => (some (r_20, u_21, u_22)))) else (if x2 = (2 : Int32) then (zk_b3 (f_X12_binds x1 x3 mod_code mod_shoes mod_claims mod_taped mod_here mod_fault mod_suits mod_doneMany mod_undoneMany mod_open mod_laid mod_isBoth mod_wished mod_bestMany mod_bestRow mod_ringDigits (0 : Int32) mod_endKind mod_undoneFrom mod_traced) (fun r_16 u_17 u_18 => (some (r_16, u_17, u_18)))) else (zk_b3 (f_X12_tells x1 x3 mod_code mod_shoes mod_claims mod_taped mod_here mod_fault mod_suits mod_doneMany mod_undoneMany mod_open mod_laid mod_isBoth mod_wished mod_bestMany mod_bestRow mod_ringDigits (0 : Int32) mod_endKind mod_undoneFrom mod_askedMany mod_traced) (fun r_12 u_13 u_14 => (some (r_12, u_13, u_14)))))))))))))
def f_X12_act   (x1 : Int32) (x2 : Int32) (x3 : Int32) (mod_code : Int32) (mod_shoes : Int32) (mod_claims : Int32) (mod_taped : Int32) (mod_here : Int32) (mod_fault : Int32) (mod_suits : Int32) (mod_doneMany : Int32) (mod_undoneMany : Int32) (mod_open : Int32) (mod_laid : Int32) (mod_isBoth : Int32) (mod_wished : Int32) (mod_bestMany : Int32) (mod_bestRow : Int32) (mod_ringDigits : Int32) (mod_traces : Int32) (mod_endKind : Nat → Int32) (mod_undoneFrom : Nat → Int32) (mod_askedMany : Nat → Int32) (mod_traced : Nat → Int32) : Option (Int32 × Int32 × (Nat → Int32)) := B_X12_act_0   mod_code mod_shoes mod_claims mod_taped mod_here mod_fault mod_suits mod_doneMany mod_undoneMany mod_open mod_laid mod_isBoth mod_wished mod_bestMany mod_bestRow mod_ringDigits mod_endKind mod_undoneFrom mod_askedMany x1 x2 x3 mod_traces mod_traced
set_option maxHeartbeats 4000000 in
set_option maxRecDepth 100000 in
theorem L_X12_act_0 {p : Program} {l : Launch} {e : Env} {s : State} {m : MethodId} {args : Array Value} {below : List Frame} {meth : Method} {c : Code} {A : Nat → Prop} {D : va_G} {cs : Nat → ClassId} {ad : Nat → Nat} {mod_code : Int32} {mod_shoes : Int32} {mod_claims : Int32} {mod_taped : Int32} {mod_here : Int32} {mod_fault : Int32} {mod_suits : Int32} {mod_doneMany : Int32} {mod_undoneMany : Int32} {mod_open : Int32} {mod_laid : Int32} {mod_isBoth : Int32} {mod_wished : Int32} {mod_bestMany : Int32} {mod_bestRow : Int32} {mod_ringDigits : Int32} {mod_endKind : Nat → Int32} {mod_undoneFrom : Nat → Int32} {mod_askedMany : Nat → Int32} {R : Int32 × Int32 × (Nat → Int32)} (C0 : zC p s m args meth c cX12_act 4 (some .int) RX12 zW) (hK : va_K D classes (zT cs) s) (hA : ∀ q : Nat, s.heap.size ≤ q → A q) (x1 : Int32) (x2 : Int32) (x3 : Int32) (mod_traces : Int32) (mod_traced : Nat → Int32) (h : B_X12_act_0 mod_code mod_shoes mod_claims mod_taped mod_here mod_fault mod_suits mod_doneMany mod_undoneMany mod_open mod_laid mod_isBoth mod_wished mod_bestMany mod_bestRow mod_ringDigits mod_endKind mod_undoneFrom mod_askedMany x1 x2 x3 mod_traces mod_traced = some R) (H : Heap) (locs : List Loc) (ls : Array Slot) (hP : va_P D classes (wl_X12_act ad cs mod_code mod_shoes mod_claims mod_taped mod_here mod_fault mod_suits mod_doneMany mod_undoneMany mod_open mod_laid mod_isBoth mod_wished mod_bestMany mod_bestRow mod_ringDigits mod_traces mod_endKind mod_undoneFrom mod_askedMany mod_traced) H) (hD : va_D A (wl_X12_act ad cs mod_code mod_shoes mod_claims mod_taped mod_here mod_fault mod_suits mod_doneMany mod_undoneMany mod_open mod_laid mod_isBoth mod_wished mod_bestMany mod_bestRow mod_ringDigits mod_traces mod_endKind mod_undoneFrom mod_askedMany mod_traced)) (hS : va_S A s.heap H locs) (hl : lv_has ls 4 [(0, .ref (ad 41)), (1, .int x1), (2, .int x2), (3, .int x3)]) : W p l e rm_X12_act s m args below meth c H locs 0 0 (MQ below (Q_X12_act D cs ad mod_code mod_shoes mod_claims mod_taped mod_here mod_fault mod_suits mod_doneMany mod_undoneMany mod_open mod_laid mod_isBoth mod_wished mod_bestMany mod_bestRow mod_ringDigits mod_endKind mod_undoneFrom mod_askedMany A R) args s 0 0 A) (F0 m 0 ls []) := by
  obtain ⟨hx, hb, hr, hml, hown, ht, hlocks⟩ := id C0
  refine lv_aload_n hx hb dX12_act_0 rfl (lv_at hl 0 rfl) ?_
  refine lv_iconst (v := (0 : Int32)) hx hb dX12_act_1 (by decide) ?_
  refine va_put (D := D) (ci := 12) (v := .int (0 : Int32)) (ty := .int) (C := RX12) (T := TX12) (N := 60) hx hb ht iX12 tyX12 tyX12_ok nmX12 hown hK hP hD hS 0 rfl rfl 54 (by decide) (ht _ kw_1349) (fun _ h9 => h9) rfl (by decide +kernel) rfl rfl (Nat.le_of_ble_eq_true rfl) dX12_act_2 (fun H locs hP hD hS => ?_)
  have hP : va_P D classes (wl_X12_act ad cs mod_code mod_shoes mod_claims mod_taped mod_here mod_fault mod_suits mod_doneMany mod_undoneMany mod_open mod_laid mod_isBoth mod_wished mod_bestMany mod_bestRow mod_ringDigits (0 : Int32) mod_endKind mod_undoneFrom mod_askedMany mod_traced) H := hP
  have hD : va_D A (wl_X12_act ad cs mod_code mod_shoes mod_claims mod_taped mod_here mod_fault mod_suits mod_doneMany mod_undoneMany mod_open mod_laid mod_isBoth mod_wished mod_bestMany mod_bestRow mod_ringDigits (0 : Int32) mod_endKind mod_undoneFrom mod_askedMany mod_traced) := hD
  refine lv_aload_n hx hb dX12_act_5 rfl (lv_at hl 0 rfl) ?_
  refine lv_iload_n hx hb dX12_act_6 rfl (lv_at hl 1 rfl) ?_
  obtain ⟨r_1, u_2, hc_3, h⟩ := zk_o2 h
  refine zz_vi (post := (fun r u => (r, u) = (r_1, u_2))) (w1 := fun u => (wl_X12_isSuit ad cs mod_code mod_shoes mod_claims mod_taped mod_here mod_fault mod_suits mod_doneMany mod_undoneMany mod_open mod_laid mod_isBoth mod_wished mod_bestMany mod_bestRow mod_ringDigits (0 : Int32))) (As := [.int x1]) (rest := []) (c_X12_isSuit l D cs ad  H.size x1 mod_code mod_shoes mod_claims mod_taped mod_here mod_fault mod_suits mod_doneMany mod_undoneMany mod_open mod_laid mod_isBoth mod_wished mod_bestMany mod_bestRow mod_ringDigits (0 : Int32) (r_1, u_2) hc_3) ⟨hx, hb, hml, hown, ht⟩ (cwV 1 ht g_X12_234 rfl rfl rfl ⟨rfl, hd_X12_isSuit⟩ ⟨Nat.le_of_ble_eq_true rfl, Nat.le_of_ble_eq_true rfl⟩) (va_recv hK hP (ci := 12) (q0 := 0) rfl rfl) hP hD hS hK hA [0] rfl rfl [(ad 41)] rfl (fun _ => rfl) rfl hl.1 (Nat.le_of_ble_eq_true rfl) dX12_act_7 ⟨Nat.zero_le _, Nat.zero_le _⟩ (fun r u H locs hq hP hS => ?_)
  cases hq
  have hP : va_P D classes (wl_X12_act ad cs mod_code mod_shoes mod_claims mod_taped mod_here mod_fault mod_suits mod_doneMany mod_undoneMany mod_open mod_laid mod_isBoth mod_wished mod_bestMany mod_bestRow mod_ringDigits (0 : Int32) mod_endKind mod_undoneFrom mod_askedMany mod_traced) H := hP
  have hD : va_D A (wl_X12_act ad cs mod_code mod_shoes mod_claims mod_taped mod_here mod_fault mod_suits mod_doneMany mod_undoneMany mod_open mod_laid mod_isBoth mod_wished mod_bestMany mod_bestRow mod_ringDigits (0 : Int32) mod_endKind mod_undoneFrom mod_askedMany mod_traced) := zDk hD [(ad 41), (ad 53), (ad 57), (ad 58), (ad 80)] rfl rfl
  refine lv_if_eq (tgt := 22) hx hb dX12_act_10 (by decide) (fun c_4 => ?_) (fun c_4 => ?_)
  · have h := zk_t c_4 h
    refine lv_iconst (v := (0 : Int32)) hx hb dX12_act_22 (by decide) ?_
    exact W.iret (v := (0 : Int32)) hx hb hr (fun t ht2 hW => ⟨⟨(0 : Int32), ((0 : Int32), mod_traced), rfl, Option.some.inj h, by rw [ht2]; exact hP, hD⟩, hS.F ht2⟩) hS.2.2 dX12_act_23 hlocks
  · have h := zk_f c_4 h
    refine lv_iload_n hx hb dX12_act_13 rfl (lv_at hl 2 rfl) ?_
    refine lv_iconst (v := (0 : Int32)) hx hb dX12_act_14 (by decide) ?_
    refine lv_iconst (v := (3 : Int32)) hx hb dX12_act_15 (by decide) ?_
    obtain ⟨r_5, u_6, hc_7, h⟩ := zk_o2 h
    refine zz_si (post := (fun r u => (r, u) = (r_5, u_6))) (w1 := fun u => (wl_X12_in ad cs )) (As := [.int x2, .int (0 : Int32), .int (3 : Int32)]) (rest := []) (c_X12_in l D cs ad  H.size x2 (0 : Int32) (3 : Int32) (r_5, u_6) hc_7) ⟨hx, hb, hml, hown, ht⟩ (va_cwS 3 ht g_X12_147 rfl rfl rfl hd_X12_in ⟨Nat.le_of_ble_eq_true rfl, Nat.le_of_ble_eq_true rfl⟩) hP hD hS hK hA [] rfl rfl [] rfl (fun _ => rfl) rfl hl.1 (Nat.le_of_ble_eq_true rfl) dX12_act_16 ⟨Nat.zero_le _, Nat.zero_le _⟩ (fun r u H locs hq hP hS => ?_)
    cases hq
    have hP : va_P D classes (wl_X12_act ad cs mod_code mod_shoes mod_claims mod_taped mod_here mod_fault mod_suits mod_doneMany mod_undoneMany mod_open mod_laid mod_isBoth mod_wished mod_bestMany mod_bestRow mod_ringDigits (0 : Int32) mod_endKind mod_undoneFrom mod_askedMany mod_traced) H := hP
    refine lv_if_ne (tgt := 24) hx hb dX12_act_19 (by decide) (fun c_8 => ?_) (fun c_8 => ?_)
    · have h := zk_f c_8 h
      refine lv_iload_n hx hb dX12_act_24 rfl (lv_at hl 2 rfl) ?_
      refine lv_if_ne (tgt := 37) hx hb dX12_act_25 (by decide) (fun c_9 => ?_) (fun c_9 => ?_)
      · have h := zk_f c_9 h
        refine lv_iload_n hx hb dX12_act_37 rfl (lv_at hl 2 rfl) ?_
        refine lv_iconst (v := (1 : Int32)) hx hb dX12_act_38 (by decide) ?_
        refine lv_icmp_ne (tgt := 51) hx hb dX12_act_39 (by decide) (fun c_10 => ?_) (fun c_10 => ?_)
        · have h := zk_f c_10 h
          refine lv_iload_n hx hb dX12_act_51 rfl (lv_at hl 2 rfl) ?_
          refine lv_iconst (v := (2 : Int32)) hx hb dX12_act_52 (by decide) ?_
          refine lv_icmp_ne (tgt := 65) hx hb dX12_act_53 (by decide) (fun c_11 => ?_) (fun c_11 => ?_)
          · have h := zk_f c_11 h
            refine lv_aload_n hx hb dX12_act_65 rfl (lv_at hl 0 rfl) ?_
            refine lv_iload_n hx hb dX12_act_66 rfl (lv_at hl 1 rfl) ?_
            refine lv_iload_n hx hb dX12_act_67 rfl (lv_at hl 3 rfl) ?_
            obtain ⟨r_12, u_13, u_14, hc_15, h⟩ := zk_o3 h
            refine zz_vi (post := (fun r u => (r, u) = (r_12, u_13, u_14))) (w1 := fun u => (wl_X12_tells ad cs mod_code mod_shoes mod_claims mod_taped mod_here mod_fault mod_suits mod_doneMany mod_undoneMany mod_open mod_laid mod_isBoth mod_wished mod_bestMany mod_bestRow mod_ringDigits u.1 mod_endKind mod_undoneFrom mod_askedMany u.2)) (As := [.int x1, .int x3]) (rest := []) (c_X12_tells l D cs ad  H.size x1 x3 mod_code mod_shoes mod_claims mod_taped mod_here mod_fault mod_suits mod_doneMany mod_undoneMany mod_open mod_laid mod_isBoth mod_wished mod_bestMany mod_bestRow mod_ringDigits (0 : Int32) mod_endKind mod_undoneFrom mod_askedMany mod_traced (r_12, u_13, u_14) hc_15) ⟨hx, hb, hml, hown, ht⟩ (cwV 2 ht g_X12_425 rfl rfl rfl ⟨rfl, hd_X12_tells⟩ ⟨Nat.le_of_ble_eq_true rfl, Nat.le_of_ble_eq_true rfl⟩) (va_recv hK hP (ci := 12) (q0 := 0) rfl rfl) hP hD hS hK hA [0, 1, 2, 3, 4] rfl rfl [(ad 41), (ad 53), (ad 57), (ad 58), (ad 80)] rfl (fun _ => rfl) rfl hl.1 (Nat.le_of_ble_eq_true rfl) dX12_act_68 ⟨Nat.zero_le _, Nat.zero_le _⟩ (fun r u H locs hq hP hS => ?_)
            cases hq
            have hP : va_P D classes (wl_X12_act ad cs mod_code mod_shoes mod_claims mod_taped mod_here mod_fault mod_suits mod_doneMany mod_undoneMany mod_open mod_laid mod_isBoth mod_wished mod_bestMany mod_bestRow mod_ringDigits u_13 mod_endKind mod_undoneFrom mod_askedMany u_14) H := hP
            have hD : va_D A (wl_X12_act ad cs mod_code mod_shoes mod_claims mod_taped mod_here mod_fault mod_suits mod_doneMany mod_undoneMany mod_open mod_laid mod_isBoth mod_wished mod_bestMany mod_bestRow mod_ringDigits u_13 mod_endKind mod_undoneFrom mod_askedMany u_14) := zDk hD [(ad 41), (ad 53), (ad 57), (ad 58), (ad 80)] rfl rfl
            exact W.iret (v := r_12) hx hb hr (fun t ht2 hW => ⟨⟨r_12, (u_13, u_14), rfl, Option.some.inj h, by rw [ht2]; exact hP, hD⟩, hS.F ht2⟩) hS.2.2 dX12_act_71 hlocks
          · have h := zk_t c_11 h
            refine lv_aload_n hx hb dX12_act_56 rfl (lv_at hl 0 rfl) ?_
            refine lv_iload_n hx hb dX12_act_57 rfl (lv_at hl 1 rfl) ?_
            refine lv_iload_n hx hb dX12_act_58 rfl (lv_at hl 3 rfl) ?_
            obtain ⟨r_16, u_17, u_18, hc_19, h⟩ := zk_o3 h
            refine zz_vi (post := (fun r u => (r, u) = (r_16, u_17, u_18))) (w1 := fun u => (wl_X12_binds ad cs mod_code mod_shoes mod_claims mod_taped mod_here mod_fault mod_suits mod_doneMany mod_undoneMany mod_open mod_laid mod_isBoth mod_wished mod_bestMany mod_bestRow mod_ringDigits u.1 mod_endKind mod_undoneFrom u.2)) (As := [.int x1, .int x3]) (rest := []) (c_X12_binds l D cs ad  H.size x1 x3 mod_code mod_shoes mod_claims mod_taped mod_here mod_fault mod_suits mod_doneMany mod_undoneMany mod_open mod_laid mod_isBoth mod_wished mod_bestMany mod_bestRow mod_ringDigits (0 : Int32) mod_endKind mod_undoneFrom mod_traced (r_16, u_17, u_18) hc_19) ⟨hx, hb, hml, hown, ht⟩ (cwV 2 ht g_X12_410 rfl rfl rfl ⟨rfl, hd_X12_binds⟩ ⟨Nat.le_of_ble_eq_true rfl, Nat.le_of_ble_eq_true rfl⟩) (va_recv hK hP (ci := 12) (q0 := 0) rfl rfl) hP hD hS hK hA [0, 1, 2, 4] rfl rfl [(ad 41), (ad 53), (ad 57), (ad 80)] rfl (fun _ => rfl) rfl hl.1 (Nat.le_of_ble_eq_true rfl) dX12_act_59 ⟨Nat.zero_le _, Nat.zero_le _⟩ (fun r u H locs hq hP hS => ?_)
            cases hq
            have hP : va_P D classes (wl_X12_act ad cs mod_code mod_shoes mod_claims mod_taped mod_here mod_fault mod_suits mod_doneMany mod_undoneMany mod_open mod_laid mod_isBoth mod_wished mod_bestMany mod_bestRow mod_ringDigits u_17 mod_endKind mod_undoneFrom mod_askedMany u_18) H := hP
            have hD : va_D A (wl_X12_act ad cs mod_code mod_shoes mod_claims mod_taped mod_here mod_fault mod_suits mod_doneMany mod_undoneMany mod_open mod_laid mod_isBoth mod_wished mod_bestMany mod_bestRow mod_ringDigits u_17 mod_endKind mod_undoneFrom mod_askedMany u_18) := zDk hD [(ad 41), (ad 53), (ad 57), (ad 58), (ad 80)] rfl rfl
            refine lv_goto (tgt := 71) hx hb dX12_act_62 (by decide) ?_
            exact W.iret (v := r_16) hx hb hr (fun t ht2 hW => ⟨⟨r_16, (u_17, u_18), rfl, Option.some.inj h, by rw [ht2]; exact hP, hD⟩, hS.F ht2⟩) hS.2.2 dX12_act_71 hlocks
        · have h := zk_t c_10 h
          refine lv_aload_n hx hb dX12_act_42 rfl (lv_at hl 0 rfl) ?_
          refine lv_iload_n hx hb dX12_act_43 rfl (lv_at hl 1 rfl) ?_
          refine lv_iload_n hx hb dX12_act_44 rfl (lv_at hl 3 rfl) ?_
          obtain ⟨r_20, u_21, u_22, hc_23, h⟩ := zk_o3 h
          refine zz_vi (post := (fun r u => (r, u) = (r_20, u_21, u_22))) (w1 := fun u => (wl_X12_settles ad cs mod_code mod_shoes mod_claims mod_taped mod_here mod_fault mod_suits mod_doneMany mod_undoneMany mod_open mod_laid mod_isBoth mod_wished mod_bestMany mod_bestRow mod_ringDigits u.1 mod_endKind mod_undoneFrom mod_askedMany u.2)) (As := [.int x1, .int x3]) (rest := []) (c_X12_settles l D cs ad  H.size x1 x3 mod_code mod_shoes mod_claims mod_taped mod_here mod_fault mod_suits mod_doneMany mod_undoneMany mod_open mod_laid mod_isBoth mod_wished mod_bestMany mod_bestRow mod_ringDigits (0 : Int32) mod_endKind mod_undoneFrom mod_askedMany mod_traced (r_20, u_21, u_22) hc_23) ⟨hx, hb, hml, hown, ht⟩ (cwV 2 ht g_X12_419 rfl rfl rfl ⟨rfl, hd_X12_settles⟩ ⟨Nat.le_of_ble_eq_true rfl, Nat.le_of_ble_eq_true rfl⟩) (va_recv hK hP (ci := 12) (q0 := 0) rfl rfl) hP hD hS hK hA [0, 1, 2, 3, 4] rfl rfl [(ad 41), (ad 53), (ad 57), (ad 58), (ad 80)] rfl (fun _ => rfl) rfl hl.1 (Nat.le_of_ble_eq_true rfl) dX12_act_45 ⟨Nat.zero_le _, Nat.zero_le _⟩ (fun r u H locs hq hP hS => ?_)
          cases hq
          have hP : va_P D classes (wl_X12_act ad cs mod_code mod_shoes mod_claims mod_taped mod_here mod_fault mod_suits mod_doneMany mod_undoneMany mod_open mod_laid mod_isBoth mod_wished mod_bestMany mod_bestRow mod_ringDigits u_21 mod_endKind mod_undoneFrom mod_askedMany u_22) H := hP
          have hD : va_D A (wl_X12_act ad cs mod_code mod_shoes mod_claims mod_taped mod_here mod_fault mod_suits mod_doneMany mod_undoneMany mod_open mod_laid mod_isBoth mod_wished mod_bestMany mod_bestRow mod_ringDigits u_21 mod_endKind mod_undoneFrom mod_askedMany u_22) := zDk hD [(ad 41), (ad 53), (ad 57), (ad 58), (ad 80)] rfl rfl
          refine lv_goto (tgt := 71) hx hb dX12_act_48 (by decide) ?_
          exact W.iret (v := r_20) hx hb hr (fun t ht2 hW => ⟨⟨r_20, (u_21, u_22), rfl, Option.some.inj h, by rw [ht2]; exact hP, hD⟩, hS.F ht2⟩) hS.2.2 dX12_act_71 hlocks
      · have h := zk_t c_9 h
        refine lv_aload_n hx hb dX12_act_28 rfl (lv_at hl 0 rfl) ?_
        refine lv_iload_n hx hb dX12_act_29 rfl (lv_at hl 1 rfl) ?_
        refine lv_iload_n hx hb dX12_act_30 rfl (lv_at hl 3 rfl) ?_
        obtain ⟨r_24, u_25, u_26, hc_27, h⟩ := zk_o3 h
        refine zz_vi (post := (fun r u => (r, u) = (r_24, u_25, u_26))) (w1 := fun u => (wl_X12_closes ad cs mod_code mod_shoes mod_claims mod_taped mod_here mod_fault mod_suits mod_doneMany mod_undoneMany mod_open mod_laid mod_isBoth mod_wished mod_bestMany mod_bestRow mod_ringDigits u.1 mod_endKind mod_undoneFrom mod_askedMany u.2)) (As := [.int x1, .int x3]) (rest := []) (c_X12_closes l D cs ad  H.size x1 x3 mod_code mod_shoes mod_claims mod_taped mod_here mod_fault mod_suits mod_doneMany mod_undoneMany mod_open mod_laid mod_isBoth mod_wished mod_bestMany mod_bestRow mod_ringDigits (0 : Int32) mod_endKind mod_undoneFrom mod_askedMany mod_traced (r_24, u_25, u_26) hc_27) ⟨hx, hb, hml, hown, ht⟩ (cwV 2 ht g_X12_401 rfl rfl rfl ⟨rfl, hd_X12_closes⟩ ⟨Nat.le_of_ble_eq_true rfl, Nat.le_of_ble_eq_true rfl⟩) (va_recv hK hP (ci := 12) (q0 := 0) rfl rfl) hP hD hS hK hA [0, 1, 2, 3, 4] rfl rfl [(ad 41), (ad 53), (ad 57), (ad 58), (ad 80)] rfl (fun _ => rfl) rfl hl.1 (Nat.le_of_ble_eq_true rfl) dX12_act_31 ⟨Nat.zero_le _, Nat.zero_le _⟩ (fun r u H locs hq hP hS => ?_)
        cases hq
        have hP : va_P D classes (wl_X12_act ad cs mod_code mod_shoes mod_claims mod_taped mod_here mod_fault mod_suits mod_doneMany mod_undoneMany mod_open mod_laid mod_isBoth mod_wished mod_bestMany mod_bestRow mod_ringDigits u_25 mod_endKind mod_undoneFrom mod_askedMany u_26) H := hP
        have hD : va_D A (wl_X12_act ad cs mod_code mod_shoes mod_claims mod_taped mod_here mod_fault mod_suits mod_doneMany mod_undoneMany mod_open mod_laid mod_isBoth mod_wished mod_bestMany mod_bestRow mod_ringDigits u_25 mod_endKind mod_undoneFrom mod_askedMany u_26) := zDk hD [(ad 41), (ad 53), (ad 57), (ad 58), (ad 80)] rfl rfl
        refine lv_goto (tgt := 71) hx hb dX12_act_34 (by decide) ?_
        exact W.iret (v := r_24) hx hb hr (fun t ht2 hW => ⟨⟨r_24, (u_25, u_26), rfl, Option.some.inj h, by rw [ht2]; exact hP, hD⟩, hS.F ht2⟩) hS.2.2 dX12_act_71 hlocks
    · have h := zk_t c_8 h
      refine lv_iconst (v := (0 : Int32)) hx hb dX12_act_22 (by decide) ?_
      exact W.iret (v := (0 : Int32)) hx hb hr (fun t ht2 hW => ⟨⟨(0 : Int32), ((0 : Int32), mod_traced), rfl, Option.some.inj h, by rw [ht2]; exact hP, hD⟩, hS.F ht2⟩) hS.2.2 dX12_act_23 hlocks
set_option maxHeartbeats 4000000 in
set_option maxRecDepth 100000 in
theorem c_X12_act (l : Launch) (D : va_G) (cs : Nat → ClassId) (ad : Nat → Nat) (sz : Nat) (x1 : Int32) (x2 : Int32) (x3 : Int32) (mod_code : Int32) (mod_shoes : Int32) (mod_claims : Int32) (mod_taped : Int32) (mod_here : Int32) (mod_fault : Int32) (mod_suits : Int32) (mod_doneMany : Int32) (mod_undoneMany : Int32) (mod_open : Int32) (mod_laid : Int32) (mod_isBoth : Int32) (mod_wished : Int32) (mod_bestMany : Int32) (mod_bestRow : Int32) (mod_ringDigits : Int32) (mod_traces : Int32) (mod_endKind : Nat → Int32) (mod_undoneFrom : Nat → Int32) (mod_askedMany : Nat → Int32) (mod_traced : Nat → Int32) (R : Int32 × Int32 × (Nat → Int32)) (h : f_X12_act   x1 x2 x3 mod_code mod_shoes mod_claims mod_taped mod_here mod_fault mod_suits mod_doneMany mod_undoneMany mod_open mod_laid mod_isBoth mod_wished mod_bestMany mod_bestRow mod_ringDigits mod_traces mod_endKind mod_undoneFrom mod_askedMany mod_traced = some R) : Met l yX12_act (z_X12_act) rm_X12_act (va_Pc [.ref (ad 41), .int x1, .int x2, .int x3] (zPre D cs (wl_X12_act ad cs mod_code mod_shoes mod_claims mod_taped mod_here mod_fault mod_suits mod_doneMany mod_undoneMany mod_open mod_laid mod_isBoth mod_wished mod_bestMany mod_bestRow mod_ringDigits mod_traces mod_endKind mod_undoneFrom mod_askedMany mod_traced) sz)) (Q_X12_act D cs ad mod_code mod_shoes mod_claims mod_taped mod_here mod_fault mod_suits mod_doneMany mod_undoneMany mod_open mod_laid mod_isBoth mod_wished mod_bestMany mod_bestRow mod_ringDigits mod_endKind mod_undoneFrom mod_askedMany (va_A (wl_X12_act ad cs mod_code mod_shoes mod_claims mod_taped mod_here mod_fault mod_suits mod_doneMany mod_undoneMany mod_open mod_laid mod_isBoth mod_wished mod_bestMany mod_bestRow mod_ringDigits mod_traces mod_endKind mod_undoneFrom mod_askedMany mod_traced) sz) R) 0 0 (va_A (wl_X12_act ad cs mod_code mod_shoes mod_claims mod_taped mod_here mod_fault mod_suits mod_doneMany mod_undoneMany mod_open mod_laid mod_isBoth mod_wished mod_bestMany mod_bestRow mod_ringDigits mod_traces mod_endKind mod_undoneFrom mod_askedMany mod_traced) sz) := by
  refine Met.ofW (cc := cX12_act) (maxL := 4) (ret := (some .int)) (by decide) rfl ?_
  intro p e s m args below meth c s₁ B hml hv
  obtain ⟨rfl, hsz, hP, hK, hD0⟩ := hv
  subst hsz
  have hD := hD0.self (sz := s.heap.size)
  have C0 : zC p s m _ meth c cX12_act 4 (some .int) RX12 zW := ⟨B.exec, B.bytes, B.returns, hml, findClass_of_methodNamed B.named, fun w hw => atoms_spec (ws := z_X12_act) B.pre w (List.mem_cons_of_mem _ hw), B.notSynchronized⟩
  have hA : ∀ q : Nat, s.heap.size ≤ q → va_A (wl_X12_act ad cs mod_code mod_shoes mod_claims mod_taped mod_here mod_fault mod_suits mod_doneMany mod_undoneMany mod_open mod_laid mod_isBoth mod_wished mod_bestMany mod_bestRow mod_ringDigits mod_traces mod_endKind mod_undoneFrom mod_askedMany mod_traced) s.heap.size q := fun q h => Or.inr h
  have hl := lv_entry ([.ref (ad 41), .int x1, .int x2, .int x3]) (n := 4) (Nat.le_of_ble_eq_true rfl)
  rw [lg_entry_eq]
  generalize (lg_sl ([.ref (ad 41), .int x1, .int x2, .int x3]) ++ List.replicate (4 - (lg_sl ([.ref (ad 41), .int x1, .int x2, .int x3])).length) Slot.unset).toArray = ls at hl ⊢
  exact L_X12_act_0 C0 hK hA   x1 x2 x3 mod_traces mod_traced h s.heap [] ls hP hD va_S.rf hl
theorem zh_cX12_trace_0 : zck [27, 155, 0, 26, 27, 42, 180, 1, 136, 162, 0, 18, 27, 16, 24, 162, 0, 12, 42, 180, 0, 127] (zdu 0 cX12_trace.data.toList) = true := by decide +kernel
theorem dX12_trace_0 : decode cX12_trace 0 = .ok (.iload_n 1, 1) := zo_27 zh_cX12_trace_0 0 rfl
theorem dX12_trace_1 : decode cX12_trace 1 = .ok (.ifCond .lt 26, 3) := zo_p155 zh_cX12_trace_0 1 26 rfl rfl
theorem dX12_trace_4 : decode cX12_trace 4 = .ok (.iload_n 1, 1) := zo_27 zh_cX12_trace_0 4 rfl
theorem dX12_trace_5 : decode cX12_trace 5 = .ok (.aload_n 0, 1) := zo_42 zh_cX12_trace_0 5 rfl
theorem dX12_trace_6 : decode cX12_trace 6 = .ok (.getfield 392, 3) := zo_180 zh_cX12_trace_0 6 rfl
theorem dX12_trace_9 : decode cX12_trace 9 = .ok (.if_icmp .ge 18, 3) := zo_p162 zh_cX12_trace_0 9 18 rfl rfl
theorem dX12_trace_12 : decode cX12_trace 12 = .ok (.iload_n 1, 1) := zo_27 zh_cX12_trace_0 12 rfl
theorem dX12_trace_13 : decode cX12_trace 13 = .ok (.bipush 24, 2) := zo_p16 zh_cX12_trace_0 13 24 rfl rfl
theorem dX12_trace_15 : decode cX12_trace 15 = .ok (.if_icmp .ge 12, 3) := zo_p162 zh_cX12_trace_0 15 12 rfl rfl
theorem dX12_trace_18 : decode cX12_trace 18 = .ok (.aload_n 0, 1) := zo_42 zh_cX12_trace_0 18 rfl
theorem dX12_trace_19 : decode cX12_trace 19 = .ok (.getfield 127, 3) := zo_180 zh_cX12_trace_0 19 rfl
theorem zh_cX12_trace_1 : zck [0, 127, 27, 46, 167, 0, 4, 2, 172] (zdu 20 cX12_trace.data.toList) = true := by decide +kernel
theorem dX12_trace_22 : decode cX12_trace 22 = .ok (.iload_n 1, 1) := zo_27 zh_cX12_trace_1 2 rfl
theorem dX12_trace_23 : decode cX12_trace 23 = .ok (.iaload, 1) := zo_46 zh_cX12_trace_1 3 rfl
theorem dX12_trace_24 : decode cX12_trace 24 = .ok (.goto 4, 3) := zo_p167 zh_cX12_trace_1 4 4 rfl rfl
theorem dX12_trace_27 : decode cX12_trace 27 = .ok (.iconst (-1), 1) := zo_2 zh_cX12_trace_1 7 rfl
theorem dX12_trace_28 : decode cX12_trace 28 = .ok (.ireturn, 1) := zo_172 zh_cX12_trace_1 8 rfl
abbrev z_X12_trace : List Cond := .code yX12_trace cX12_trace 2 (some .int) :: zW
abbrev wl_X12_trace (ad : Nat → Nat) (cs : Nat → ClassId)  (mod_code : Int32) (mod_shoes : Int32) (mod_claims : Int32) (mod_taped : Int32) (mod_here : Int32) (mod_fault : Int32) (mod_suits : Int32) (mod_doneMany : Int32) (mod_undoneMany : Int32) (mod_open : Int32) (mod_laid : Int32) (mod_isBoth : Int32) (mod_wished : Int32) (mod_bestMany : Int32) (mod_bestRow : Int32) (mod_ringDigits : Int32) (mod_traces : Int32) (mod_traced : Nat → Int32) : va_W := [((ad 41), .inr (12, [.int mod_code, .int mod_shoes, .ref (ad 42), .ref (ad 43), .ref (ad 44), .ref (ad 45), .int mod_claims, .ref (ad 46), .ref (ad 47), .ref (ad 48), .ref (ad 49), .ref (ad 50), .int mod_taped, .int mod_here, .int mod_fault, .int mod_suits, .ref (ad 51), .ref (ad 52), .ref (ad 53), .ref (ad 54), .ref (ad 55), .ref (ad 56), .ref (ad 57), .ref (ad 58), .ref (ad 59), .ref (ad 60), .ref (ad 61), .int mod_doneMany, .int mod_undoneMany, .ref (ad 62), .ref (ad 63), .ref (ad 64), .ref (ad 65), .int mod_open, .int mod_laid, .ref (ad 66), .ref (ad 67), .ref (ad 68), .ref (ad 69), .ref (ad 70), .ref (ad 71), .ref (ad 72), .ref (ad 73), .ref (ad 74), .ref (ad 75), .int mod_isBoth, .int mod_wished, .ref (ad 76), .ref (ad 77), .int mod_bestMany, .int mod_bestRow, .ref (ad 78), .ref (ad 79), .int mod_ringDigits, .int mod_traces, .ref (ad 80), .ref (ad 81), .ref (ad 82), .ref (ad 83), .ref (ad 84)])), ((ad 80), .inl (cs 0, 24, .inl mod_traced))]
def Q_X12_trace (D : va_G) (cs : Nat → ClassId) (ad : Nat → Nat)  (mod_code : Int32) (mod_shoes : Int32) (mod_claims : Int32) (mod_taped : Int32) (mod_here : Int32) (mod_fault : Int32) (mod_suits : Int32) (mod_doneMany : Int32) (mod_undoneMany : Int32) (mod_open : Int32) (mod_laid : Int32) (mod_isBoth : Int32) (mod_wished : Int32) (mod_bestMany : Int32) (mod_bestRow : Int32) (mod_ringDigits : Int32) (mod_traces : Int32) (mod_traced : Nat → Int32) (A : Nat → Prop) (R : Int32 × Unit) : Array Value → State → Outcome → State → Prop :=
  va_Qi (fun (r : Int32) (u : Unit) => (r, u) = R) (fun (u : Unit) (t : State) => va_P D classes (wl_X12_trace ad cs mod_code mod_shoes mod_claims mod_taped mod_here mod_fault mod_suits mod_doneMany mod_undoneMany mod_open mod_laid mod_isBoth mod_wished mod_bestMany mod_bestRow mod_ringDigits mod_traces mod_traced) t.heap ∧ va_D A (wl_X12_trace ad cs mod_code mod_shoes mod_claims mod_taped mod_here mod_fault mod_suits mod_doneMany mod_undoneMany mod_open mod_laid mod_isBoth mod_wished mod_bestMany mod_bestRow mod_ringDigits mod_traces mod_traced)) A
abbrev rm_X12_trace : Room := { frames := 0, cells := 0, slots := 0, locals := 0 }
def B_X12_trace_0    (mod_code : Int32) (mod_shoes : Int32) (mod_claims : Int32) (mod_taped : Int32) (mod_here : Int32) (mod_fault : Int32) (mod_suits : Int32) (mod_doneMany : Int32) (mod_undoneMany : Int32) (mod_open : Int32) (mod_laid : Int32) (mod_isBoth : Int32) (mod_wished : Int32) (mod_bestMany : Int32) (mod_bestRow : Int32) (mod_ringDigits : Int32) (mod_traces : Int32) (mod_traced : Nat → Int32) (x1 : Int32) : Option (Int32 × Unit) :=
  (if x1 < 0 then (some ((-1 : Int32), ())) else (if mod_traces ≤ x1 then (some ((-1 : Int32), ())) else (if (24 : Int32) ≤ x1 then (some ((-1 : Int32), ())) else (if (x1 < 0 ∨ 24 ≤ x1.toNatClampNeg) then none else (some (mod_traced x1.toNatClampNeg, ()))))))
def f_X12_trace   (x1 : Int32) (mod_code : Int32) (mod_shoes : Int32) (mod_claims : Int32) (mod_taped : Int32) (mod_here : Int32) (mod_fault : Int32) (mod_suits : Int32) (mod_doneMany : Int32) (mod_undoneMany : Int32) (mod_open : Int32) (mod_laid : Int32) (mod_isBoth : Int32) (mod_wished : Int32) (mod_bestMany : Int32) (mod_bestRow : Int32) (mod_ringDigits : Int32) (mod_traces : Int32) (mod_traced : Nat → Int32) : Option (Int32 × Unit) := B_X12_trace_0   mod_code mod_shoes mod_claims mod_taped mod_here mod_fault mod_suits mod_doneMany mod_undoneMany mod_open mod_laid mod_isBoth mod_wished mod_bestMany mod_bestRow mod_ringDigits mod_traces mod_traced x1 
set_option maxHeartbeats 4000000 in
set_option maxRecDepth 100000 in
theorem L_X12_trace_0 {p : Program} {l : Launch} {e : Env} {s : State} {m : MethodId} {args : Array Value} {below : List Frame} {meth : Method} {c : Code} {A : Nat → Prop} {D : va_G} {cs : Nat → ClassId} {ad : Nat → Nat} {mod_code : Int32} {mod_shoes : Int32} {mod_claims : Int32} {mod_taped : Int32} {mod_here : Int32} {mod_fault : Int32} {mod_suits : Int32} {mod_doneMany : Int32} {mod_undoneMany : Int32} {mod_open : Int32} {mod_laid : Int32} {mod_isBoth : Int32} {mod_wished : Int32} {mod_bestMany : Int32} {mod_bestRow : Int32} {mod_ringDigits : Int32} {mod_traces : Int32} {mod_traced : Nat → Int32} {R : Int32 × Unit} (C0 : zC p s m args meth c cX12_trace 2 (some .int) RX12 zW) (hK : va_K D classes (zT cs) s) (hA : ∀ q : Nat, s.heap.size ≤ q → A q) (x1 : Int32) (h : B_X12_trace_0 mod_code mod_shoes mod_claims mod_taped mod_here mod_fault mod_suits mod_doneMany mod_undoneMany mod_open mod_laid mod_isBoth mod_wished mod_bestMany mod_bestRow mod_ringDigits mod_traces mod_traced x1 = some R) (H : Heap) (locs : List Loc) (ls : Array Slot) (hP : va_P D classes (wl_X12_trace ad cs mod_code mod_shoes mod_claims mod_taped mod_here mod_fault mod_suits mod_doneMany mod_undoneMany mod_open mod_laid mod_isBoth mod_wished mod_bestMany mod_bestRow mod_ringDigits mod_traces mod_traced) H) (hD : va_D A (wl_X12_trace ad cs mod_code mod_shoes mod_claims mod_taped mod_here mod_fault mod_suits mod_doneMany mod_undoneMany mod_open mod_laid mod_isBoth mod_wished mod_bestMany mod_bestRow mod_ringDigits mod_traces mod_traced)) (hS : va_S A s.heap H locs) (hl : lv_has ls 2 [(0, .ref (ad 41)), (1, .int x1)]) : W p l e rm_X12_trace s m args below meth c H locs 0 0 (MQ below (Q_X12_trace D cs ad mod_code mod_shoes mod_claims mod_taped mod_here mod_fault mod_suits mod_doneMany mod_undoneMany mod_open mod_laid mod_isBoth mod_wished mod_bestMany mod_bestRow mod_ringDigits mod_traces mod_traced A R) args s 0 0 A) (F0 m 0 ls []) := by
  obtain ⟨hx, hb, hr, hml, hown, ht, hlocks⟩ := id C0
  refine lv_iload_n hx hb dX12_trace_0 rfl (lv_at hl 1 rfl) ?_
  refine lv_if_lt (tgt := 27) hx hb dX12_trace_1 (by decide) (fun c_1 => ?_) (fun c_1 => ?_)
  · have h := zk_t c_1 h
    refine lv_iconst (v := (-1 : Int32)) hx hb dX12_trace_27 (by decide) ?_
    exact W.iret (v := (-1 : Int32)) hx hb hr (fun t ht2 hW => ⟨⟨(-1 : Int32), (), rfl, Option.some.inj h, by rw [ht2]; exact hP, hD⟩, hS.F ht2⟩) hS.2.2 dX12_trace_28 hlocks
  · have h := zk_f c_1 h
    refine lv_iload_n hx hb dX12_trace_4 rfl (lv_at hl 1 rfl) ?_
    refine lv_aload_n hx hb dX12_trace_5 rfl (lv_at hl 0 rfl) ?_
    refine va_get (D := D) (ci := 12) (v := .int mod_traces) (C := RX12) (T := TX12) (N := 60) hx hb ht iX12 hown hK hP 0 rfl rfl 54 (by decide) (ht _ kw_1349) (fun _ h9 => h9) rfl dX12_trace_6 ?_
    refine lv_icmp_ge (tgt := 27) hx hb dX12_trace_9 (by decide) (fun c_2 => ?_) (fun c_2 => ?_)
    · have h := zk_t c_2 h
      refine lv_iconst (v := (-1 : Int32)) hx hb dX12_trace_27 (by decide) ?_
      exact W.iret (v := (-1 : Int32)) hx hb hr (fun t ht2 hW => ⟨⟨(-1 : Int32), (), rfl, Option.some.inj h, by rw [ht2]; exact hP, hD⟩, hS.F ht2⟩) hS.2.2 dX12_trace_28 hlocks
    · have h := zk_f c_2 h
      refine lv_iload_n hx hb dX12_trace_12 rfl (lv_at hl 1 rfl) ?_
      refine lv_bipush (v := (24 : Int32)) hx hb dX12_trace_13 (by decide) ?_
      refine lv_icmp_ge (tgt := 27) hx hb dX12_trace_15 (by decide) (fun c_3 => ?_) (fun c_3 => ?_)
      · have h := zk_t c_3 h
        refine lv_iconst (v := (-1 : Int32)) hx hb dX12_trace_27 (by decide) ?_
        exact W.iret (v := (-1 : Int32)) hx hb hr (fun t ht2 hW => ⟨⟨(-1 : Int32), (), rfl, Option.some.inj h, by rw [ht2]; exact hP, hD⟩, hS.F ht2⟩) hS.2.2 dX12_trace_28 hlocks
      · have h := zk_f c_3 h
        refine lv_aload_n hx hb dX12_trace_18 rfl (lv_at hl 0 rfl) ?_
        refine va_get (D := D) (ci := 12) (v := .ref (ad 80)) (C := RX12) (T := TX12) (N := 60) hx hb ht iX12 hown hK hP 0 rfl rfl 55 (by decide) (ht _ kw_1350) (fun _ h9 => h9) rfl dX12_trace_19 ?_
        refine lv_iload_n hx hb dX12_trace_22 rfl (lv_at hl 1 rfl) ?_
        obtain ⟨g_4, h⟩ := zk_gd h
        refine va_iald hx hb hK hP 1 0 rfl rfl g_4 dX12_trace_23 ?_
        refine lv_goto (tgt := 28) hx hb dX12_trace_24 (by decide) ?_
        exact W.iret (v := mod_traced x1.toNatClampNeg) hx hb hr (fun t ht2 hW => ⟨⟨mod_traced x1.toNatClampNeg, (), rfl, Option.some.inj h, by rw [ht2]; exact hP, hD⟩, hS.F ht2⟩) hS.2.2 dX12_trace_28 hlocks
set_option maxHeartbeats 4000000 in
set_option maxRecDepth 100000 in
theorem c_X12_trace (l : Launch) (D : va_G) (cs : Nat → ClassId) (ad : Nat → Nat) (sz : Nat) (x1 : Int32) (mod_code : Int32) (mod_shoes : Int32) (mod_claims : Int32) (mod_taped : Int32) (mod_here : Int32) (mod_fault : Int32) (mod_suits : Int32) (mod_doneMany : Int32) (mod_undoneMany : Int32) (mod_open : Int32) (mod_laid : Int32) (mod_isBoth : Int32) (mod_wished : Int32) (mod_bestMany : Int32) (mod_bestRow : Int32) (mod_ringDigits : Int32) (mod_traces : Int32) (mod_traced : Nat → Int32) (R : Int32 × Unit) (h : f_X12_trace   x1 mod_code mod_shoes mod_claims mod_taped mod_here mod_fault mod_suits mod_doneMany mod_undoneMany mod_open mod_laid mod_isBoth mod_wished mod_bestMany mod_bestRow mod_ringDigits mod_traces mod_traced = some R) : Met l yX12_trace (z_X12_trace) rm_X12_trace (va_Pc [.ref (ad 41), .int x1] (zPre D cs (wl_X12_trace ad cs mod_code mod_shoes mod_claims mod_taped mod_here mod_fault mod_suits mod_doneMany mod_undoneMany mod_open mod_laid mod_isBoth mod_wished mod_bestMany mod_bestRow mod_ringDigits mod_traces mod_traced) sz)) (Q_X12_trace D cs ad mod_code mod_shoes mod_claims mod_taped mod_here mod_fault mod_suits mod_doneMany mod_undoneMany mod_open mod_laid mod_isBoth mod_wished mod_bestMany mod_bestRow mod_ringDigits mod_traces mod_traced (va_A (wl_X12_trace ad cs mod_code mod_shoes mod_claims mod_taped mod_here mod_fault mod_suits mod_doneMany mod_undoneMany mod_open mod_laid mod_isBoth mod_wished mod_bestMany mod_bestRow mod_ringDigits mod_traces mod_traced) sz) R) 0 0 (va_A (wl_X12_trace ad cs mod_code mod_shoes mod_claims mod_taped mod_here mod_fault mod_suits mod_doneMany mod_undoneMany mod_open mod_laid mod_isBoth mod_wished mod_bestMany mod_bestRow mod_ringDigits mod_traces mod_traced) sz) := by
  refine Met.ofW (cc := cX12_trace) (maxL := 2) (ret := (some .int)) (by decide) rfl ?_
  intro p e s m args below meth c s₁ B hml hv
  obtain ⟨rfl, hsz, hP, hK, hD0⟩ := hv
  subst hsz
  have hD := hD0.self (sz := s.heap.size)
  have C0 : zC p s m _ meth c cX12_trace 2 (some .int) RX12 zW := ⟨B.exec, B.bytes, B.returns, hml, findClass_of_methodNamed B.named, fun w hw => atoms_spec (ws := z_X12_trace) B.pre w (List.mem_cons_of_mem _ hw), B.notSynchronized⟩
  have hA : ∀ q : Nat, s.heap.size ≤ q → va_A (wl_X12_trace ad cs mod_code mod_shoes mod_claims mod_taped mod_here mod_fault mod_suits mod_doneMany mod_undoneMany mod_open mod_laid mod_isBoth mod_wished mod_bestMany mod_bestRow mod_ringDigits mod_traces mod_traced) s.heap.size q := fun q h => Or.inr h
  have hl := lv_entry ([.ref (ad 41), .int x1]) (n := 2) (Nat.le_of_ble_eq_true rfl)
  rw [lg_entry_eq]
  generalize (lg_sl ([.ref (ad 41), .int x1]) ++ List.replicate (2 - (lg_sl ([.ref (ad 41), .int x1])).length) Slot.unset).toArray = ls at hl ⊢
  exact L_X12_trace_0 C0 hK hA   x1  h s.heap [] ls hP hD va_S.rf hl
theorem zh_cX12_count_0 : zck [27, 170, 0, 0, 0, 0, 0, 78, 0, 0, 0, 0, 0, 0, 0, 6, 0, 0, 0, 43, 0, 0] (zdu 0 cX12_count.data.toList) = true := by decide +kernel
theorem dX12_count_0 : decode cX12_count 0 = .ok (.iload_n 1, 1) := zo_27 zh_cX12_count_0 0 rfl
theorem dX12_count_1 : decode cX12_count 1 = .ok (.tableswitch 78 0 6 #[43, 48, 53, 58, 63, 68, 73], 43) := by decide +kernel
theorem zh_cX12_count_2 : zck [0, 0, 0, 73, 42, 180, 0, 158, 172, 42, 180, 0, 161, 172, 42, 180, 0, 188, 172, 42, 180, 0] (zdu 40 cX12_count.data.toList) = true := by decide +kernel
theorem dX12_count_44 : decode cX12_count 44 = .ok (.aload_n 0, 1) := zo_42 zh_cX12_count_2 4 rfl
theorem dX12_count_45 : decode cX12_count 45 = .ok (.getfield 158, 3) := zo_180 zh_cX12_count_2 5 rfl
theorem dX12_count_48 : decode cX12_count 48 = .ok (.ireturn, 1) := zo_172 zh_cX12_count_2 8 rfl
theorem dX12_count_49 : decode cX12_count 49 = .ok (.aload_n 0, 1) := zo_42 zh_cX12_count_2 9 rfl
theorem dX12_count_50 : decode cX12_count 50 = .ok (.getfield 161, 3) := zo_180 zh_cX12_count_2 10 rfl
theorem dX12_count_53 : decode cX12_count 53 = .ok (.ireturn, 1) := zo_172 zh_cX12_count_2 13 rfl
theorem dX12_count_54 : decode cX12_count 54 = .ok (.aload_n 0, 1) := zo_42 zh_cX12_count_2 14 rfl
theorem dX12_count_55 : decode cX12_count 55 = .ok (.getfield 188, 3) := zo_180 zh_cX12_count_2 15 rfl
theorem dX12_count_58 : decode cX12_count 58 = .ok (.ireturn, 1) := zo_172 zh_cX12_count_2 18 rfl
theorem dX12_count_59 : decode cX12_count 59 = .ok (.aload_n 0, 1) := zo_42 zh_cX12_count_2 19 rfl
theorem zh_cX12_count_3 : zck [180, 0, 185, 172, 42, 180, 1, 106, 172, 42, 180, 0, 244, 172, 42, 180, 1, 136, 172, 2, 172] (zdu 60 cX12_count.data.toList) = true := by decide +kernel
theorem dX12_count_60 : decode cX12_count 60 = .ok (.getfield 185, 3) := zo_180 zh_cX12_count_3 0 rfl
theorem dX12_count_63 : decode cX12_count 63 = .ok (.ireturn, 1) := zo_172 zh_cX12_count_3 3 rfl
theorem dX12_count_64 : decode cX12_count 64 = .ok (.aload_n 0, 1) := zo_42 zh_cX12_count_3 4 rfl
theorem dX12_count_65 : decode cX12_count 65 = .ok (.getfield 362, 3) := zo_180 zh_cX12_count_3 5 rfl
theorem dX12_count_68 : decode cX12_count 68 = .ok (.ireturn, 1) := zo_172 zh_cX12_count_3 8 rfl
theorem dX12_count_69 : decode cX12_count 69 = .ok (.aload_n 0, 1) := zo_42 zh_cX12_count_3 9 rfl
theorem dX12_count_70 : decode cX12_count 70 = .ok (.getfield 244, 3) := zo_180 zh_cX12_count_3 10 rfl
theorem dX12_count_73 : decode cX12_count 73 = .ok (.ireturn, 1) := zo_172 zh_cX12_count_3 13 rfl
theorem dX12_count_74 : decode cX12_count 74 = .ok (.aload_n 0, 1) := zo_42 zh_cX12_count_3 14 rfl
theorem dX12_count_75 : decode cX12_count 75 = .ok (.getfield 392, 3) := zo_180 zh_cX12_count_3 15 rfl
theorem dX12_count_78 : decode cX12_count 78 = .ok (.ireturn, 1) := zo_172 zh_cX12_count_3 18 rfl
theorem dX12_count_79 : decode cX12_count 79 = .ok (.iconst (-1), 1) := zo_2 zh_cX12_count_3 19 rfl
theorem zh_cX12_count_4 : zck [172] (zdu 80 cX12_count.data.toList) = true := by decide +kernel
theorem dX12_count_80 : decode cX12_count 80 = .ok (.ireturn, 1) := zo_172 zh_cX12_count_4 0 rfl
abbrev z_X12_count : List Cond := .code yX12_count cX12_count 2 (some .int) :: zW
abbrev wl_X12_count (ad : Nat → Nat) (cs : Nat → ClassId)  (mod_code : Int32) (mod_shoes : Int32) (mod_claims : Int32) (mod_taped : Int32) (mod_here : Int32) (mod_fault : Int32) (mod_suits : Int32) (mod_doneMany : Int32) (mod_undoneMany : Int32) (mod_open : Int32) (mod_laid : Int32) (mod_isBoth : Int32) (mod_wished : Int32) (mod_bestMany : Int32) (mod_bestRow : Int32) (mod_ringDigits : Int32) (mod_traces : Int32) : va_W := [((ad 41), .inr (12, [.int mod_code, .int mod_shoes, .ref (ad 42), .ref (ad 43), .ref (ad 44), .ref (ad 45), .int mod_claims, .ref (ad 46), .ref (ad 47), .ref (ad 48), .ref (ad 49), .ref (ad 50), .int mod_taped, .int mod_here, .int mod_fault, .int mod_suits, .ref (ad 51), .ref (ad 52), .ref (ad 53), .ref (ad 54), .ref (ad 55), .ref (ad 56), .ref (ad 57), .ref (ad 58), .ref (ad 59), .ref (ad 60), .ref (ad 61), .int mod_doneMany, .int mod_undoneMany, .ref (ad 62), .ref (ad 63), .ref (ad 64), .ref (ad 65), .int mod_open, .int mod_laid, .ref (ad 66), .ref (ad 67), .ref (ad 68), .ref (ad 69), .ref (ad 70), .ref (ad 71), .ref (ad 72), .ref (ad 73), .ref (ad 74), .ref (ad 75), .int mod_isBoth, .int mod_wished, .ref (ad 76), .ref (ad 77), .int mod_bestMany, .int mod_bestRow, .ref (ad 78), .ref (ad 79), .int mod_ringDigits, .int mod_traces, .ref (ad 80), .ref (ad 81), .ref (ad 82), .ref (ad 83), .ref (ad 84)]))]
def Q_X12_count (D : va_G) (cs : Nat → ClassId) (ad : Nat → Nat)  (mod_code : Int32) (mod_shoes : Int32) (mod_claims : Int32) (mod_taped : Int32) (mod_here : Int32) (mod_fault : Int32) (mod_suits : Int32) (mod_doneMany : Int32) (mod_undoneMany : Int32) (mod_open : Int32) (mod_laid : Int32) (mod_isBoth : Int32) (mod_wished : Int32) (mod_bestMany : Int32) (mod_bestRow : Int32) (mod_ringDigits : Int32) (mod_traces : Int32) (A : Nat → Prop) (R : Int32 × Unit) : Array Value → State → Outcome → State → Prop :=
  va_Qi (fun (r : Int32) (u : Unit) => (r, u) = R) (fun (u : Unit) (t : State) => va_P D classes (wl_X12_count ad cs mod_code mod_shoes mod_claims mod_taped mod_here mod_fault mod_suits mod_doneMany mod_undoneMany mod_open mod_laid mod_isBoth mod_wished mod_bestMany mod_bestRow mod_ringDigits mod_traces) t.heap ∧ va_D A (wl_X12_count ad cs mod_code mod_shoes mod_claims mod_taped mod_here mod_fault mod_suits mod_doneMany mod_undoneMany mod_open mod_laid mod_isBoth mod_wished mod_bestMany mod_bestRow mod_ringDigits mod_traces)) A
abbrev rm_X12_count : Room := { frames := 0, cells := 0, slots := 0, locals := 0 }
def B_X12_count_0    (mod_code : Int32) (mod_shoes : Int32) (mod_claims : Int32) (mod_taped : Int32) (mod_here : Int32) (mod_fault : Int32) (mod_suits : Int32) (mod_doneMany : Int32) (mod_undoneMany : Int32) (mod_open : Int32) (mod_laid : Int32) (mod_isBoth : Int32) (mod_wished : Int32) (mod_bestMany : Int32) (mod_bestRow : Int32) (mod_ringDigits : Int32) (mod_traces : Int32) (x1 : Int32) : Option (Int32 × Unit) :=
  (if x1 = (0 : Int32) then (some (mod_shoes, ())) else (if x1 = (1 : Int32) then (some (mod_claims, ())) else (if x1 = (2 : Int32) then (some (mod_suits, ())) else (if x1 = (3 : Int32) then (some (mod_taped, ())) else (if x1 = (4 : Int32) then (some (mod_wished, ())) else (if x1 = (5 : Int32) then (some (mod_doneMany, ())) else (if x1 = (6 : Int32) then (some (mod_traces, ())) else (some ((-1 : Int32), ())))))))))
def f_X12_count   (x1 : Int32) (mod_code : Int32) (mod_shoes : Int32) (mod_claims : Int32) (mod_taped : Int32) (mod_here : Int32) (mod_fault : Int32) (mod_suits : Int32) (mod_doneMany : Int32) (mod_undoneMany : Int32) (mod_open : Int32) (mod_laid : Int32) (mod_isBoth : Int32) (mod_wished : Int32) (mod_bestMany : Int32) (mod_bestRow : Int32) (mod_ringDigits : Int32) (mod_traces : Int32) : Option (Int32 × Unit) := B_X12_count_0   mod_code mod_shoes mod_claims mod_taped mod_here mod_fault mod_suits mod_doneMany mod_undoneMany mod_open mod_laid mod_isBoth mod_wished mod_bestMany mod_bestRow mod_ringDigits mod_traces x1 
set_option maxHeartbeats 4000000 in
set_option maxRecDepth 100000 in
theorem L_X12_count_0 {p : Program} {l : Launch} {e : Env} {s : State} {m : MethodId} {args : Array Value} {below : List Frame} {meth : Method} {c : Code} {A : Nat → Prop} {D : va_G} {cs : Nat → ClassId} {ad : Nat → Nat} {mod_code : Int32} {mod_shoes : Int32} {mod_claims : Int32} {mod_taped : Int32} {mod_here : Int32} {mod_fault : Int32} {mod_suits : Int32} {mod_doneMany : Int32} {mod_undoneMany : Int32} {mod_open : Int32} {mod_laid : Int32} {mod_isBoth : Int32} {mod_wished : Int32} {mod_bestMany : Int32} {mod_bestRow : Int32} {mod_ringDigits : Int32} {mod_traces : Int32} {R : Int32 × Unit} (C0 : zC p s m args meth c cX12_count 2 (some .int) RX12 zW) (hK : va_K D classes (zT cs) s) (hA : ∀ q : Nat, s.heap.size ≤ q → A q) (x1 : Int32) (h : B_X12_count_0 mod_code mod_shoes mod_claims mod_taped mod_here mod_fault mod_suits mod_doneMany mod_undoneMany mod_open mod_laid mod_isBoth mod_wished mod_bestMany mod_bestRow mod_ringDigits mod_traces x1 = some R) (H : Heap) (locs : List Loc) (ls : Array Slot) (hP : va_P D classes (wl_X12_count ad cs mod_code mod_shoes mod_claims mod_taped mod_here mod_fault mod_suits mod_doneMany mod_undoneMany mod_open mod_laid mod_isBoth mod_wished mod_bestMany mod_bestRow mod_ringDigits mod_traces) H) (hD : va_D A (wl_X12_count ad cs mod_code mod_shoes mod_claims mod_taped mod_here mod_fault mod_suits mod_doneMany mod_undoneMany mod_open mod_laid mod_isBoth mod_wished mod_bestMany mod_bestRow mod_ringDigits mod_traces)) (hS : va_S A s.heap H locs) (hl : lv_has ls 2 [(0, .ref (ad 41)), (1, .int x1)]) : W p l e rm_X12_count s m args below meth c H locs 0 0 (MQ below (Q_X12_count D cs ad mod_code mod_shoes mod_claims mod_taped mod_here mod_fault mod_suits mod_doneMany mod_undoneMany mod_open mod_laid mod_isBoth mod_wished mod_bestMany mod_bestRow mod_ringDigits mod_traces A R) args s 0 0 A) (F0 m 0 ls []) := by
  obtain ⟨hx, hb, hr, hml, hown, ht, hlocks⟩ := id C0
  refine lv_iload_n hx hb dX12_count_0 rfl (lv_at hl 1 rfl) ?_
  by_cases c_1 : x1 = (0 : Int32)
  · have h := zk_t c_1 h
    refine lv_tableIn (tgt := 44) hx hb dX12_count_1 (by rw [c_1]; decide) (by rw [c_1]; decide) (by rw [c_1]; rfl) (by decide) ?_
    refine lv_aload_n hx hb dX12_count_44 rfl (lv_at hl 0 rfl) ?_
    refine va_get (D := D) (ci := 12) (v := .int mod_shoes) (C := RX12) (T := TX12) (N := 60) hx hb ht iX12 hown hK hP 0 rfl rfl 1 (by decide) (ht _ kw_1296) (fun _ h9 => h9) rfl dX12_count_45 ?_
    exact W.iret (v := mod_shoes) hx hb hr (fun t ht2 hW => ⟨⟨mod_shoes, (), rfl, Option.some.inj h, by rw [ht2]; exact hP, hD⟩, hS.F ht2⟩) hS.2.2 dX12_count_48 hlocks
  · have h := zk_f c_1 h
    by_cases c_2 : x1 = (1 : Int32)
    · have h := zk_t c_2 h
      refine lv_tableIn (tgt := 49) hx hb dX12_count_1 (by rw [c_2]; decide) (by rw [c_2]; decide) (by rw [c_2]; rfl) (by decide) ?_
      refine lv_aload_n hx hb dX12_count_49 rfl (lv_at hl 0 rfl) ?_
      refine va_get (D := D) (ci := 12) (v := .int mod_claims) (C := RX12) (T := TX12) (N := 60) hx hb ht iX12 hown hK hP 0 rfl rfl 6 (by decide) (ht _ kw_1301) (fun _ h9 => h9) rfl dX12_count_50 ?_
      exact W.iret (v := mod_claims) hx hb hr (fun t ht2 hW => ⟨⟨mod_claims, (), rfl, Option.some.inj h, by rw [ht2]; exact hP, hD⟩, hS.F ht2⟩) hS.2.2 dX12_count_53 hlocks
    · have h := zk_f c_2 h
      by_cases c_3 : x1 = (2 : Int32)
      · have h := zk_t c_3 h
        refine lv_tableIn (tgt := 54) hx hb dX12_count_1 (by rw [c_3]; decide) (by rw [c_3]; decide) (by rw [c_3]; rfl) (by decide) ?_
        refine lv_aload_n hx hb dX12_count_54 rfl (lv_at hl 0 rfl) ?_
        refine va_get (D := D) (ci := 12) (v := .int mod_suits) (C := RX12) (T := TX12) (N := 60) hx hb ht iX12 hown hK hP 0 rfl rfl 15 (by decide) (ht _ kw_1310) (fun _ h9 => h9) rfl dX12_count_55 ?_
        exact W.iret (v := mod_suits) hx hb hr (fun t ht2 hW => ⟨⟨mod_suits, (), rfl, Option.some.inj h, by rw [ht2]; exact hP, hD⟩, hS.F ht2⟩) hS.2.2 dX12_count_58 hlocks
      · have h := zk_f c_3 h
        by_cases c_4 : x1 = (3 : Int32)
        · have h := zk_t c_4 h
          refine lv_tableIn (tgt := 59) hx hb dX12_count_1 (by rw [c_4]; decide) (by rw [c_4]; decide) (by rw [c_4]; rfl) (by decide) ?_
          refine lv_aload_n hx hb dX12_count_59 rfl (lv_at hl 0 rfl) ?_
          refine va_get (D := D) (ci := 12) (v := .int mod_taped) (C := RX12) (T := TX12) (N := 60) hx hb ht iX12 hown hK hP 0 rfl rfl 12 (by decide) (ht _ kw_1307) (fun _ h9 => h9) rfl dX12_count_60 ?_
          exact W.iret (v := mod_taped) hx hb hr (fun t ht2 hW => ⟨⟨mod_taped, (), rfl, Option.some.inj h, by rw [ht2]; exact hP, hD⟩, hS.F ht2⟩) hS.2.2 dX12_count_63 hlocks
        · have h := zk_f c_4 h
          by_cases c_5 : x1 = (4 : Int32)
          · have h := zk_t c_5 h
            refine lv_tableIn (tgt := 64) hx hb dX12_count_1 (by rw [c_5]; decide) (by rw [c_5]; decide) (by rw [c_5]; rfl) (by decide) ?_
            refine lv_aload_n hx hb dX12_count_64 rfl (lv_at hl 0 rfl) ?_
            refine va_get (D := D) (ci := 12) (v := .int mod_wished) (C := RX12) (T := TX12) (N := 60) hx hb ht iX12 hown hK hP 0 rfl rfl 46 (by decide) (ht _ kw_1341) (fun _ h9 => h9) rfl dX12_count_65 ?_
            exact W.iret (v := mod_wished) hx hb hr (fun t ht2 hW => ⟨⟨mod_wished, (), rfl, Option.some.inj h, by rw [ht2]; exact hP, hD⟩, hS.F ht2⟩) hS.2.2 dX12_count_68 hlocks
          · have h := zk_f c_5 h
            by_cases c_6 : x1 = (5 : Int32)
            · have h := zk_t c_6 h
              refine lv_tableIn (tgt := 69) hx hb dX12_count_1 (by rw [c_6]; decide) (by rw [c_6]; decide) (by rw [c_6]; rfl) (by decide) ?_
              refine lv_aload_n hx hb dX12_count_69 rfl (lv_at hl 0 rfl) ?_
              refine va_get (D := D) (ci := 12) (v := .int mod_doneMany) (C := RX12) (T := TX12) (N := 60) hx hb ht iX12 hown hK hP 0 rfl rfl 27 (by decide) (ht _ kw_1322) (fun _ h9 => h9) rfl dX12_count_70 ?_
              exact W.iret (v := mod_doneMany) hx hb hr (fun t ht2 hW => ⟨⟨mod_doneMany, (), rfl, Option.some.inj h, by rw [ht2]; exact hP, hD⟩, hS.F ht2⟩) hS.2.2 dX12_count_73 hlocks
            · have h := zk_f c_6 h
              by_cases c_7 : x1 = (6 : Int32)
              · have h := zk_t c_7 h
                refine lv_tableIn (tgt := 74) hx hb dX12_count_1 (by rw [c_7]; decide) (by rw [c_7]; decide) (by rw [c_7]; rfl) (by decide) ?_
                refine lv_aload_n hx hb dX12_count_74 rfl (lv_at hl 0 rfl) ?_
                refine va_get (D := D) (ci := 12) (v := .int mod_traces) (C := RX12) (T := TX12) (N := 60) hx hb ht iX12 hown hK hP 0 rfl rfl 54 (by decide) (ht _ kw_1349) (fun _ h9 => h9) rfl dX12_count_75 ?_
                exact W.iret (v := mod_traces) hx hb hr (fun t ht2 hW => ⟨⟨mod_traces, (), rfl, Option.some.inj h, by rw [ht2]; exact hP, hD⟩, hS.F ht2⟩) hS.2.2 dX12_count_78 hlocks
              · have h := zk_f c_7 h
                refine lv_tableOut (tgt := 79) hx hb dX12_count_1 (zk_out (lo := 0) (hi := 6) [(0 : Int32), (1 : Int32), (2 : Int32), (3 : Int32), (4 : Int32), (5 : Int32), (6 : Int32)] (by decide +kernel) (List.forall_mem_cons.mpr ⟨c_1, List.forall_mem_cons.mpr ⟨c_2, List.forall_mem_cons.mpr ⟨c_3, List.forall_mem_cons.mpr ⟨c_4, List.forall_mem_cons.mpr ⟨c_5, List.forall_mem_cons.mpr ⟨c_6, List.forall_mem_cons.mpr ⟨c_7, fun _ h => absurd h List.not_mem_nil⟩⟩⟩⟩⟩⟩⟩)) (by decide) ?_
                refine lv_iconst (v := (-1 : Int32)) hx hb dX12_count_79 (by decide) ?_
                exact W.iret (v := (-1 : Int32)) hx hb hr (fun t ht2 hW => ⟨⟨(-1 : Int32), (), rfl, Option.some.inj h, by rw [ht2]; exact hP, hD⟩, hS.F ht2⟩) hS.2.2 dX12_count_80 hlocks
set_option maxHeartbeats 4000000 in
set_option maxRecDepth 100000 in
theorem c_X12_count (l : Launch) (D : va_G) (cs : Nat → ClassId) (ad : Nat → Nat) (sz : Nat) (x1 : Int32) (mod_code : Int32) (mod_shoes : Int32) (mod_claims : Int32) (mod_taped : Int32) (mod_here : Int32) (mod_fault : Int32) (mod_suits : Int32) (mod_doneMany : Int32) (mod_undoneMany : Int32) (mod_open : Int32) (mod_laid : Int32) (mod_isBoth : Int32) (mod_wished : Int32) (mod_bestMany : Int32) (mod_bestRow : Int32) (mod_ringDigits : Int32) (mod_traces : Int32) (R : Int32 × Unit) (h : f_X12_count   x1 mod_code mod_shoes mod_claims mod_taped mod_here mod_fault mod_suits mod_doneMany mod_undoneMany mod_open mod_laid mod_isBoth mod_wished mod_bestMany mod_bestRow mod_ringDigits mod_traces = some R) : Met l yX12_count (z_X12_count) rm_X12_count (va_Pc [.ref (ad 41), .int x1] (zPre D cs (wl_X12_count ad cs mod_code mod_shoes mod_claims mod_taped mod_here mod_fault mod_suits mod_doneMany mod_undoneMany mod_open mod_laid mod_isBoth mod_wished mod_bestMany mod_bestRow mod_ringDigits mod_traces) sz)) (Q_X12_count D cs ad mod_code mod_shoes mod_claims mod_taped mod_here mod_fault mod_suits mod_doneMany mod_undoneMany mod_open mod_laid mod_isBoth mod_wished mod_bestMany mod_bestRow mod_ringDigits mod_traces (va_A (wl_X12_count ad cs mod_code mod_shoes mod_claims mod_taped mod_here mod_fault mod_suits mod_doneMany mod_undoneMany mod_open mod_laid mod_isBoth mod_wished mod_bestMany mod_bestRow mod_ringDigits mod_traces) sz) R) 0 0 (va_A (wl_X12_count ad cs mod_code mod_shoes mod_claims mod_taped mod_here mod_fault mod_suits mod_doneMany mod_undoneMany mod_open mod_laid mod_isBoth mod_wished mod_bestMany mod_bestRow mod_ringDigits mod_traces) sz) := by
  refine Met.ofW (cc := cX12_count) (maxL := 2) (ret := (some .int)) (by decide) rfl ?_
  intro p e s m args below meth c s₁ B hml hv
  obtain ⟨rfl, hsz, hP, hK, hD0⟩ := hv
  subst hsz
  have hD := hD0.self (sz := s.heap.size)
  have C0 : zC p s m _ meth c cX12_count 2 (some .int) RX12 zW := ⟨B.exec, B.bytes, B.returns, hml, findClass_of_methodNamed B.named, fun w hw => atoms_spec (ws := z_X12_count) B.pre w (List.mem_cons_of_mem _ hw), B.notSynchronized⟩
  have hA : ∀ q : Nat, s.heap.size ≤ q → va_A (wl_X12_count ad cs mod_code mod_shoes mod_claims mod_taped mod_here mod_fault mod_suits mod_doneMany mod_undoneMany mod_open mod_laid mod_isBoth mod_wished mod_bestMany mod_bestRow mod_ringDigits mod_traces) s.heap.size q := fun q h => Or.inr h
  have hl := lv_entry ([.ref (ad 41), .int x1]) (n := 2) (Nat.le_of_ble_eq_true rfl)
  rw [lg_entry_eq]
  generalize (lg_sl ([.ref (ad 41), .int x1]) ++ List.replicate (2 - (lg_sl ([.ref (ad 41), .int x1])).length) Slot.unset).toArray = ls at hl ⊢
  exact L_X12_count_0 C0 hK hA   x1  h s.heap [] ls hP hD va_S.rf hl
theorem zh_cX12_keep_0 : zck [27, 184, 0, 167, 153, 0, 16, 28, 2, 159, 0, 13, 42, 28, 182, 0, 234, 154, 0, 5, 2, 172] (zdu 0 cX12_keep.data.toList) = true := by decide +kernel
theorem dX12_keep_0 : decode cX12_keep 0 = .ok (.iload_n 1, 1) := zo_27 zh_cX12_keep_0 0 rfl
theorem dX12_keep_1 : decode cX12_keep 1 = .ok (.invokestatic 167, 3) := zo_184 zh_cX12_keep_0 1 rfl
theorem dX12_keep_4 : decode cX12_keep 4 = .ok (.ifCond .eq 16, 3) := zo_p153 zh_cX12_keep_0 4 16 rfl rfl
theorem dX12_keep_7 : decode cX12_keep 7 = .ok (.iload_n 2, 1) := zo_28 zh_cX12_keep_0 7 rfl
theorem dX12_keep_8 : decode cX12_keep 8 = .ok (.iconst (-1), 1) := zo_2 zh_cX12_keep_0 8 rfl
theorem dX12_keep_9 : decode cX12_keep 9 = .ok (.if_icmp .eq 13, 3) := zo_p159 zh_cX12_keep_0 9 13 rfl rfl
theorem dX12_keep_12 : decode cX12_keep 12 = .ok (.aload_n 0, 1) := zo_42 zh_cX12_keep_0 12 rfl
theorem dX12_keep_13 : decode cX12_keep 13 = .ok (.iload_n 2, 1) := zo_28 zh_cX12_keep_0 13 rfl
theorem dX12_keep_14 : decode cX12_keep 14 = .ok (.invokevirtual 234, 3) := zo_182 zh_cX12_keep_0 14 rfl
theorem dX12_keep_17 : decode cX12_keep 17 = .ok (.ifCond .ne 5, 3) := zo_p154 zh_cX12_keep_0 17 5 rfl rfl
theorem zh_cX12_keep_1 : zck [2, 172, 42, 180, 0, 130, 27, 28, 79, 4, 172] (zdu 20 cX12_keep.data.toList) = true := by decide +kernel
theorem dX12_keep_20 : decode cX12_keep 20 = .ok (.iconst (-1), 1) := zo_2 zh_cX12_keep_1 0 rfl
theorem dX12_keep_21 : decode cX12_keep 21 = .ok (.ireturn, 1) := zo_172 zh_cX12_keep_1 1 rfl
theorem dX12_keep_22 : decode cX12_keep 22 = .ok (.aload_n 0, 1) := zo_42 zh_cX12_keep_1 2 rfl
theorem dX12_keep_23 : decode cX12_keep 23 = .ok (.getfield 130, 3) := zo_180 zh_cX12_keep_1 3 rfl
theorem dX12_keep_26 : decode cX12_keep 26 = .ok (.iload_n 1, 1) := zo_27 zh_cX12_keep_1 6 rfl
theorem dX12_keep_27 : decode cX12_keep 27 = .ok (.iload_n 2, 1) := zo_28 zh_cX12_keep_1 7 rfl
theorem dX12_keep_28 : decode cX12_keep 28 = .ok (.iastore, 1) := zo_79 zh_cX12_keep_1 8 rfl
theorem dX12_keep_29 : decode cX12_keep 29 = .ok (.iconst 1, 1) := zo_4 zh_cX12_keep_1 9 rfl
theorem dX12_keep_30 : decode cX12_keep 30 = .ok (.ireturn, 1) := zo_172 zh_cX12_keep_1 10 rfl
abbrev z_X12_keep : List Cond := .code yX12_keep cX12_keep 3 (some .int) :: zW
abbrev wl_X12_keep (ad : Nat → Nat) (cs : Nat → ClassId)  (mod_code : Int32) (mod_shoes : Int32) (mod_claims : Int32) (mod_taped : Int32) (mod_here : Int32) (mod_fault : Int32) (mod_suits : Int32) (mod_doneMany : Int32) (mod_undoneMany : Int32) (mod_open : Int32) (mod_laid : Int32) (mod_isBoth : Int32) (mod_wished : Int32) (mod_bestMany : Int32) (mod_bestRow : Int32) (mod_ringDigits : Int32) (mod_traces : Int32) (mod_holds : Nat → Int32) : va_W := [((ad 41), .inr (12, [.int mod_code, .int mod_shoes, .ref (ad 42), .ref (ad 43), .ref (ad 44), .ref (ad 45), .int mod_claims, .ref (ad 46), .ref (ad 47), .ref (ad 48), .ref (ad 49), .ref (ad 50), .int mod_taped, .int mod_here, .int mod_fault, .int mod_suits, .ref (ad 51), .ref (ad 52), .ref (ad 53), .ref (ad 54), .ref (ad 55), .ref (ad 56), .ref (ad 57), .ref (ad 58), .ref (ad 59), .ref (ad 60), .ref (ad 61), .int mod_doneMany, .int mod_undoneMany, .ref (ad 62), .ref (ad 63), .ref (ad 64), .ref (ad 65), .int mod_open, .int mod_laid, .ref (ad 66), .ref (ad 67), .ref (ad 68), .ref (ad 69), .ref (ad 70), .ref (ad 71), .ref (ad 72), .ref (ad 73), .ref (ad 74), .ref (ad 75), .int mod_isBoth, .int mod_wished, .ref (ad 76), .ref (ad 77), .int mod_bestMany, .int mod_bestRow, .ref (ad 78), .ref (ad 79), .int mod_ringDigits, .int mod_traces, .ref (ad 80), .ref (ad 81), .ref (ad 82), .ref (ad 83), .ref (ad 84)])), ((ad 81), .inl (cs 0, 6, .inl mod_holds))]
def Q_X12_keep (D : va_G) (cs : Nat → ClassId) (ad : Nat → Nat)  (mod_code : Int32) (mod_shoes : Int32) (mod_claims : Int32) (mod_taped : Int32) (mod_here : Int32) (mod_fault : Int32) (mod_suits : Int32) (mod_doneMany : Int32) (mod_undoneMany : Int32) (mod_open : Int32) (mod_laid : Int32) (mod_isBoth : Int32) (mod_wished : Int32) (mod_bestMany : Int32) (mod_bestRow : Int32) (mod_ringDigits : Int32) (mod_traces : Int32) (A : Nat → Prop) (R : Int32 × (Nat → Int32)) : Array Value → State → Outcome → State → Prop :=
  va_Qi (fun (r : Int32) (u : (Nat → Int32)) => (r, u) = R) (fun (u : (Nat → Int32)) (t : State) => va_P D classes (wl_X12_keep ad cs mod_code mod_shoes mod_claims mod_taped mod_here mod_fault mod_suits mod_doneMany mod_undoneMany mod_open mod_laid mod_isBoth mod_wished mod_bestMany mod_bestRow mod_ringDigits mod_traces u) t.heap ∧ va_D A (wl_X12_keep ad cs mod_code mod_shoes mod_claims mod_taped mod_here mod_fault mod_suits mod_doneMany mod_undoneMany mod_open mod_laid mod_isBoth mod_wished mod_bestMany mod_bestRow mod_ringDigits mod_traces u)) A
abbrev rm_X12_keep : Room := { frames := 2, cells := 0, slots := 0, locals := 43 }
def B_X12_keep_22    (mod_code : Int32) (mod_shoes : Int32) (mod_claims : Int32) (mod_taped : Int32) (mod_here : Int32) (mod_fault : Int32) (mod_suits : Int32) (mod_doneMany : Int32) (mod_undoneMany : Int32) (mod_open : Int32) (mod_laid : Int32) (mod_isBoth : Int32) (mod_wished : Int32) (mod_bestMany : Int32) (mod_bestRow : Int32) (mod_ringDigits : Int32) (mod_traces : Int32) (x1 : Int32) (x2 : Int32) (mod_holds : Nat → Int32) : Option (Int32 × (Nat → Int32)) :=
  (if (x1 < 0 ∨ 6 ≤ x1.toNatClampNeg) then none else (zk_let (upd mod_holds x1.toNatClampNeg x2) (fun f_11 => (some ((1 : Int32), f_11)))))
def B_X12_keep_0    (mod_code : Int32) (mod_shoes : Int32) (mod_claims : Int32) (mod_taped : Int32) (mod_here : Int32) (mod_fault : Int32) (mod_suits : Int32) (mod_doneMany : Int32) (mod_undoneMany : Int32) (mod_open : Int32) (mod_laid : Int32) (mod_isBoth : Int32) (mod_wished : Int32) (mod_bestMany : Int32) (mod_bestRow : Int32) (mod_ringDigits : Int32) (mod_traces : Int32) (x1 : Int32) (x2 : Int32) (mod_holds : Nat → Int32) : Option (Int32 × (Nat → Int32)) :=
  (zk_b2 (f_X12_isShelf x1) (fun r_1 u_2 => (if r_1 = 0 then (some ((-1 : Int32), mod_holds)) else (if x2 = (-1 : Int32) then (B_X12_keep_22 mod_code mod_shoes mod_claims mod_taped mod_here mod_fault mod_suits mod_doneMany mod_undoneMany mod_open mod_laid mod_isBoth mod_wished mod_bestMany mod_bestRow mod_ringDigits mod_traces x1 x2 mod_holds) else (zk_b2 (f_X12_isSuit x2 mod_code mod_shoes mod_claims mod_taped mod_here mod_fault mod_suits mod_doneMany mod_undoneMany mod_open mod_laid mod_isBoth mod_wished mod_bestMany mod_bestRow mod_ringDigits mod_traces) (fun r_6 u_7 => (if r_6 = 0 then (some ((-1 : Int32), mod_holds)) else (B_X12_keep_22 mod_code mod_shoes mod_claims mod_taped mod_here mod_fault mod_suits mod_doneMany mod_undoneMany mod_open mod_laid mod_isBoth mod_wished mod_bestMany mod_bestRow mod_ringDigits mod_traces x1 x2 mod_holds))))))))
def f_X12_keep   (x1 : Int32) (x2 : Int32) (mod_code : Int32) (mod_shoes : Int32) (mod_claims : Int32) (mod_taped : Int32) (mod_here : Int32) (mod_fault : Int32) (mod_suits : Int32) (mod_doneMany : Int32) (mod_undoneMany : Int32) (mod_open : Int32) (mod_laid : Int32) (mod_isBoth : Int32) (mod_wished : Int32) (mod_bestMany : Int32) (mod_bestRow : Int32) (mod_ringDigits : Int32) (mod_traces : Int32) (mod_holds : Nat → Int32) : Option (Int32 × (Nat → Int32)) := B_X12_keep_0   mod_code mod_shoes mod_claims mod_taped mod_here mod_fault mod_suits mod_doneMany mod_undoneMany mod_open mod_laid mod_isBoth mod_wished mod_bestMany mod_bestRow mod_ringDigits mod_traces x1 x2 mod_holds
set_option maxHeartbeats 4000000 in
set_option maxRecDepth 100000 in
theorem L_X12_keep_22 {p : Program} {l : Launch} {e : Env} {s : State} {m : MethodId} {args : Array Value} {below : List Frame} {meth : Method} {c : Code} {A : Nat → Prop} {D : va_G} {cs : Nat → ClassId} {ad : Nat → Nat} {mod_code : Int32} {mod_shoes : Int32} {mod_claims : Int32} {mod_taped : Int32} {mod_here : Int32} {mod_fault : Int32} {mod_suits : Int32} {mod_doneMany : Int32} {mod_undoneMany : Int32} {mod_open : Int32} {mod_laid : Int32} {mod_isBoth : Int32} {mod_wished : Int32} {mod_bestMany : Int32} {mod_bestRow : Int32} {mod_ringDigits : Int32} {mod_traces : Int32} {R : Int32 × (Nat → Int32)} (C0 : zC p s m args meth c cX12_keep 3 (some .int) RX12 zW) (hK : va_K D classes (zT cs) s) (hA : ∀ q : Nat, s.heap.size ≤ q → A q) (x1 : Int32) (x2 : Int32) (mod_holds : Nat → Int32) (h : B_X12_keep_22 mod_code mod_shoes mod_claims mod_taped mod_here mod_fault mod_suits mod_doneMany mod_undoneMany mod_open mod_laid mod_isBoth mod_wished mod_bestMany mod_bestRow mod_ringDigits mod_traces x1 x2 mod_holds = some R) (H : Heap) (locs : List Loc) (ls : Array Slot) (hP : va_P D classes (wl_X12_keep ad cs mod_code mod_shoes mod_claims mod_taped mod_here mod_fault mod_suits mod_doneMany mod_undoneMany mod_open mod_laid mod_isBoth mod_wished mod_bestMany mod_bestRow mod_ringDigits mod_traces mod_holds) H) (hD : va_D A (wl_X12_keep ad cs mod_code mod_shoes mod_claims mod_taped mod_here mod_fault mod_suits mod_doneMany mod_undoneMany mod_open mod_laid mod_isBoth mod_wished mod_bestMany mod_bestRow mod_ringDigits mod_traces mod_holds)) (hS : va_S A s.heap H locs) (hl : lv_has ls 3 [(0, .ref (ad 41)), (1, .int x1), (2, .int x2)]) : W p l e rm_X12_keep s m args below meth c H locs 0 0 (MQ below (Q_X12_keep D cs ad mod_code mod_shoes mod_claims mod_taped mod_here mod_fault mod_suits mod_doneMany mod_undoneMany mod_open mod_laid mod_isBoth mod_wished mod_bestMany mod_bestRow mod_ringDigits mod_traces A R) args s 0 0 A) (F0 m 22 ls []) := by
  obtain ⟨hx, hb, hr, hml, hown, ht, hlocks⟩ := id C0
  refine lv_aload_n hx hb dX12_keep_22 rfl (lv_at hl 0 rfl) ?_
  refine va_get (D := D) (ci := 12) (v := .ref (ad 81)) (C := RX12) (T := TX12) (N := 60) hx hb ht iX12 hown hK hP 0 rfl rfl 56 (by decide) (ht _ kw_1351) (fun _ h9 => h9) rfl dX12_keep_23 ?_
  refine lv_iload_n hx hb dX12_keep_26 rfl (lv_at hl 1 rfl) ?_
  refine lv_iload_n hx hb dX12_keep_27 rfl (lv_at hl 2 rfl) ?_
  obtain ⟨g_10, h⟩ := zk_gd h
  obtain ⟨f_11, ef_11, h⟩ := zk_lt h
  refine va_iast hx hb hK hP hD hS 1 0 rfl rfl g_10 dX12_keep_28 (fun H locs hP hD hS => ?_)
  have hP : va_P D classes (wl_X12_keep ad cs mod_code mod_shoes mod_claims mod_taped mod_here mod_fault mod_suits mod_doneMany mod_undoneMany mod_open mod_laid mod_isBoth mod_wished mod_bestMany mod_bestRow mod_ringDigits mod_traces f_11) H := by rw [ef_11]; exact hP
  have hD : va_D A (wl_X12_keep ad cs mod_code mod_shoes mod_claims mod_taped mod_here mod_fault mod_suits mod_doneMany mod_undoneMany mod_open mod_laid mod_isBoth mod_wished mod_bestMany mod_bestRow mod_ringDigits mod_traces f_11) := by rw [ef_11]; exact hD
  refine lv_iconst (v := (1 : Int32)) hx hb dX12_keep_29 (by decide) ?_
  exact W.iret (v := (1 : Int32)) hx hb hr (fun t ht2 hW => ⟨⟨(1 : Int32), f_11, rfl, Option.some.inj h, by rw [ht2]; exact hP, hD⟩, hS.F ht2⟩) hS.2.2 dX12_keep_30 hlocks
set_option maxHeartbeats 4000000 in
set_option maxRecDepth 100000 in
theorem L_X12_keep_0 {p : Program} {l : Launch} {e : Env} {s : State} {m : MethodId} {args : Array Value} {below : List Frame} {meth : Method} {c : Code} {A : Nat → Prop} {D : va_G} {cs : Nat → ClassId} {ad : Nat → Nat} {mod_code : Int32} {mod_shoes : Int32} {mod_claims : Int32} {mod_taped : Int32} {mod_here : Int32} {mod_fault : Int32} {mod_suits : Int32} {mod_doneMany : Int32} {mod_undoneMany : Int32} {mod_open : Int32} {mod_laid : Int32} {mod_isBoth : Int32} {mod_wished : Int32} {mod_bestMany : Int32} {mod_bestRow : Int32} {mod_ringDigits : Int32} {mod_traces : Int32} {R : Int32 × (Nat → Int32)} (C0 : zC p s m args meth c cX12_keep 3 (some .int) RX12 zW) (hK : va_K D classes (zT cs) s) (hA : ∀ q : Nat, s.heap.size ≤ q → A q) (x1 : Int32) (x2 : Int32) (mod_holds : Nat → Int32) (h : B_X12_keep_0 mod_code mod_shoes mod_claims mod_taped mod_here mod_fault mod_suits mod_doneMany mod_undoneMany mod_open mod_laid mod_isBoth mod_wished mod_bestMany mod_bestRow mod_ringDigits mod_traces x1 x2 mod_holds = some R) (H : Heap) (locs : List Loc) (ls : Array Slot) (hP : va_P D classes (wl_X12_keep ad cs mod_code mod_shoes mod_claims mod_taped mod_here mod_fault mod_suits mod_doneMany mod_undoneMany mod_open mod_laid mod_isBoth mod_wished mod_bestMany mod_bestRow mod_ringDigits mod_traces mod_holds) H) (hD : va_D A (wl_X12_keep ad cs mod_code mod_shoes mod_claims mod_taped mod_here mod_fault mod_suits mod_doneMany mod_undoneMany mod_open mod_laid mod_isBoth mod_wished mod_bestMany mod_bestRow mod_ringDigits mod_traces mod_holds)) (hS : va_S A s.heap H locs) (hl : lv_has ls 3 [(0, .ref (ad 41)), (1, .int x1), (2, .int x2)]) : W p l e rm_X12_keep s m args below meth c H locs 0 0 (MQ below (Q_X12_keep D cs ad mod_code mod_shoes mod_claims mod_taped mod_here mod_fault mod_suits mod_doneMany mod_undoneMany mod_open mod_laid mod_isBoth mod_wished mod_bestMany mod_bestRow mod_ringDigits mod_traces A R) args s 0 0 A) (F0 m 0 ls []) := by
  obtain ⟨hx, hb, hr, hml, hown, ht, hlocks⟩ := id C0
  refine lv_iload_n hx hb dX12_keep_0 rfl (lv_at hl 1 rfl) ?_
  obtain ⟨r_1, u_2, hc_3, h⟩ := zk_o2 h
  refine zz_si (post := (fun r u => (r, u) = (r_1, u_2))) (w1 := fun u => (wl_X12_isShelf ad cs )) (As := [.int x1]) (rest := []) (c_X12_isShelf l D cs ad  H.size x1 (r_1, u_2) hc_3) ⟨hx, hb, hml, hown, ht⟩ (va_cwS 1 ht g_X12_167 rfl rfl rfl hd_X12_isShelf ⟨Nat.le_of_ble_eq_true rfl, Nat.le_of_ble_eq_true rfl⟩) hP hD hS hK hA [] rfl rfl [] rfl (fun _ => rfl) rfl hl.1 (Nat.le_of_ble_eq_true rfl) dX12_keep_1 ⟨Nat.zero_le _, Nat.zero_le _⟩ (fun r u H locs hq hP hS => ?_)
  cases hq
  have hP : va_P D classes (wl_X12_keep ad cs mod_code mod_shoes mod_claims mod_taped mod_here mod_fault mod_suits mod_doneMany mod_undoneMany mod_open mod_laid mod_isBoth mod_wished mod_bestMany mod_bestRow mod_ringDigits mod_traces mod_holds) H := hP
  refine lv_if_eq (tgt := 20) hx hb dX12_keep_4 (by decide) (fun c_4 => ?_) (fun c_4 => ?_)
  · have h := zk_t c_4 h
    refine lv_iconst (v := (-1 : Int32)) hx hb dX12_keep_20 (by decide) ?_
    exact W.iret (v := (-1 : Int32)) hx hb hr (fun t ht2 hW => ⟨⟨(-1 : Int32), mod_holds, rfl, Option.some.inj h, by rw [ht2]; exact hP, hD⟩, hS.F ht2⟩) hS.2.2 dX12_keep_21 hlocks
  · have h := zk_f c_4 h
    refine lv_iload_n hx hb dX12_keep_7 rfl (lv_at hl 2 rfl) ?_
    refine lv_iconst (v := (-1 : Int32)) hx hb dX12_keep_8 (by decide) ?_
    refine lv_icmp_eq (tgt := 22) hx hb dX12_keep_9 (by decide) (fun c_5 => ?_) (fun c_5 => ?_)
    · have h := zk_t c_5 h
      exact L_X12_keep_22 C0 hK hA   x1 x2 mod_holds h H locs ls hP hD hS (lv_sub hl [0, 1, 2] rfl)
    · have h := zk_f c_5 h
      refine lv_aload_n hx hb dX12_keep_12 rfl (lv_at hl 0 rfl) ?_
      refine lv_iload_n hx hb dX12_keep_13 rfl (lv_at hl 2 rfl) ?_
      obtain ⟨r_6, u_7, hc_8, h⟩ := zk_o2 h
      refine zz_vi (post := (fun r u => (r, u) = (r_6, u_7))) (w1 := fun u => (wl_X12_isSuit ad cs mod_code mod_shoes mod_claims mod_taped mod_here mod_fault mod_suits mod_doneMany mod_undoneMany mod_open mod_laid mod_isBoth mod_wished mod_bestMany mod_bestRow mod_ringDigits mod_traces)) (As := [.int x2]) (rest := []) (c_X12_isSuit l D cs ad  H.size x2 mod_code mod_shoes mod_claims mod_taped mod_here mod_fault mod_suits mod_doneMany mod_undoneMany mod_open mod_laid mod_isBoth mod_wished mod_bestMany mod_bestRow mod_ringDigits mod_traces (r_6, u_7) hc_8) ⟨hx, hb, hml, hown, ht⟩ (cwV 1 ht g_X12_234 rfl rfl rfl ⟨rfl, hd_X12_isSuit⟩ ⟨Nat.le_of_ble_eq_true rfl, Nat.le_of_ble_eq_true rfl⟩) (va_recv hK hP (ci := 12) (q0 := 0) rfl rfl) hP hD hS hK hA [0] rfl rfl [(ad 41)] rfl (fun _ => rfl) rfl hl.1 (Nat.le_of_ble_eq_true rfl) dX12_keep_14 ⟨Nat.zero_le _, Nat.zero_le _⟩ (fun r u H locs hq hP hS => ?_)
      cases hq
      have hP : va_P D classes (wl_X12_keep ad cs mod_code mod_shoes mod_claims mod_taped mod_here mod_fault mod_suits mod_doneMany mod_undoneMany mod_open mod_laid mod_isBoth mod_wished mod_bestMany mod_bestRow mod_ringDigits mod_traces mod_holds) H := hP
      have hD : va_D A (wl_X12_keep ad cs mod_code mod_shoes mod_claims mod_taped mod_here mod_fault mod_suits mod_doneMany mod_undoneMany mod_open mod_laid mod_isBoth mod_wished mod_bestMany mod_bestRow mod_ringDigits mod_traces mod_holds) := zDk hD [(ad 41), (ad 81)] rfl rfl
      refine lv_if_ne (tgt := 22) hx hb dX12_keep_17 (by decide) (fun c_9 => ?_) (fun c_9 => ?_)
      · have h := zk_f c_9 h
        exact L_X12_keep_22 C0 hK hA   x1 x2 mod_holds h H locs ls hP hD hS (lv_sub hl [0, 1, 2] rfl)
      · have h := zk_t c_9 h
        refine lv_iconst (v := (-1 : Int32)) hx hb dX12_keep_20 (by decide) ?_
        exact W.iret (v := (-1 : Int32)) hx hb hr (fun t ht2 hW => ⟨⟨(-1 : Int32), mod_holds, rfl, Option.some.inj h, by rw [ht2]; exact hP, hD⟩, hS.F ht2⟩) hS.2.2 dX12_keep_21 hlocks
set_option maxHeartbeats 4000000 in
set_option maxRecDepth 100000 in
theorem c_X12_keep (l : Launch) (D : va_G) (cs : Nat → ClassId) (ad : Nat → Nat) (sz : Nat) (x1 : Int32) (x2 : Int32) (mod_code : Int32) (mod_shoes : Int32) (mod_claims : Int32) (mod_taped : Int32) (mod_here : Int32) (mod_fault : Int32) (mod_suits : Int32) (mod_doneMany : Int32) (mod_undoneMany : Int32) (mod_open : Int32) (mod_laid : Int32) (mod_isBoth : Int32) (mod_wished : Int32) (mod_bestMany : Int32) (mod_bestRow : Int32) (mod_ringDigits : Int32) (mod_traces : Int32) (mod_holds : Nat → Int32) (R : Int32 × (Nat → Int32)) (h : f_X12_keep   x1 x2 mod_code mod_shoes mod_claims mod_taped mod_here mod_fault mod_suits mod_doneMany mod_undoneMany mod_open mod_laid mod_isBoth mod_wished mod_bestMany mod_bestRow mod_ringDigits mod_traces mod_holds = some R) : Met l yX12_keep (z_X12_keep) rm_X12_keep (va_Pc [.ref (ad 41), .int x1, .int x2] (zPre D cs (wl_X12_keep ad cs mod_code mod_shoes mod_claims mod_taped mod_here mod_fault mod_suits mod_doneMany mod_undoneMany mod_open mod_laid mod_isBoth mod_wished mod_bestMany mod_bestRow mod_ringDigits mod_traces mod_holds) sz)) (Q_X12_keep D cs ad mod_code mod_shoes mod_claims mod_taped mod_here mod_fault mod_suits mod_doneMany mod_undoneMany mod_open mod_laid mod_isBoth mod_wished mod_bestMany mod_bestRow mod_ringDigits mod_traces (va_A (wl_X12_keep ad cs mod_code mod_shoes mod_claims mod_taped mod_here mod_fault mod_suits mod_doneMany mod_undoneMany mod_open mod_laid mod_isBoth mod_wished mod_bestMany mod_bestRow mod_ringDigits mod_traces mod_holds) sz) R) 0 0 (va_A (wl_X12_keep ad cs mod_code mod_shoes mod_claims mod_taped mod_here mod_fault mod_suits mod_doneMany mod_undoneMany mod_open mod_laid mod_isBoth mod_wished mod_bestMany mod_bestRow mod_ringDigits mod_traces mod_holds) sz) := by
  refine Met.ofW (cc := cX12_keep) (maxL := 3) (ret := (some .int)) (by decide) rfl ?_
  intro p e s m args below meth c s₁ B hml hv
  obtain ⟨rfl, hsz, hP, hK, hD0⟩ := hv
  subst hsz
  have hD := hD0.self (sz := s.heap.size)
  have C0 : zC p s m _ meth c cX12_keep 3 (some .int) RX12 zW := ⟨B.exec, B.bytes, B.returns, hml, findClass_of_methodNamed B.named, fun w hw => atoms_spec (ws := z_X12_keep) B.pre w (List.mem_cons_of_mem _ hw), B.notSynchronized⟩
  have hA : ∀ q : Nat, s.heap.size ≤ q → va_A (wl_X12_keep ad cs mod_code mod_shoes mod_claims mod_taped mod_here mod_fault mod_suits mod_doneMany mod_undoneMany mod_open mod_laid mod_isBoth mod_wished mod_bestMany mod_bestRow mod_ringDigits mod_traces mod_holds) s.heap.size q := fun q h => Or.inr h
  have hl := lv_entry ([.ref (ad 41), .int x1, .int x2]) (n := 3) (Nat.le_of_ble_eq_true rfl)
  rw [lg_entry_eq]
  generalize (lg_sl ([.ref (ad 41), .int x1, .int x2]) ++ List.replicate (3 - (lg_sl ([.ref (ad 41), .int x1, .int x2])).length) Slot.unset).toArray = ls at hl ⊢
  exact L_X12_keep_0 C0 hK hA   x1 x2 mod_holds h s.heap [] ls hP hD va_S.rf hl
theorem zh_cX12_row_0 : zck [27, 184, 0, 167, 153, 0, 18, 28, 3, 7, 184, 0, 147, 153, 0, 9, 29, 16, 60, 164, 0, 5] (zdu 0 cX12_row.data.toList) = true := by decide +kernel
theorem dX12_row_0 : decode cX12_row 0 = .ok (.iload_n 1, 1) := zo_27 zh_cX12_row_0 0 rfl
theorem dX12_row_1 : decode cX12_row 1 = .ok (.invokestatic 167, 3) := zo_184 zh_cX12_row_0 1 rfl
theorem dX12_row_4 : decode cX12_row 4 = .ok (.ifCond .eq 18, 3) := zo_p153 zh_cX12_row_0 4 18 rfl rfl
theorem dX12_row_7 : decode cX12_row 7 = .ok (.iload_n 2, 1) := zo_28 zh_cX12_row_0 7 rfl
theorem dX12_row_8 : decode cX12_row 8 = .ok (.iconst 0, 1) := zo_3 zh_cX12_row_0 8 rfl
theorem dX12_row_9 : decode cX12_row 9 = .ok (.iconst 4, 1) := zo_7 zh_cX12_row_0 9 rfl
theorem dX12_row_10 : decode cX12_row 10 = .ok (.invokestatic 147, 3) := zo_184 zh_cX12_row_0 10 rfl
theorem dX12_row_13 : decode cX12_row 13 = .ok (.ifCond .eq 9, 3) := zo_p153 zh_cX12_row_0 13 9 rfl rfl
theorem dX12_row_16 : decode cX12_row 16 = .ok (.iload_n 3, 1) := zo_29 zh_cX12_row_0 16 rfl
theorem dX12_row_17 : decode cX12_row 17 = .ok (.bipush 60, 2) := zo_p16 zh_cX12_row_0 17 60 rfl rfl
theorem dX12_row_19 : decode cX12_row 19 = .ok (.if_icmp .le 5, 3) := zo_p164 zh_cX12_row_0 19 5 rfl rfl
theorem zh_cX12_row_1 : zck [0, 5, 2, 172, 29, 156, 0, 6, 16, 242, 172, 42, 180, 0, 130, 27, 16, 254, 28, 100, 79, 42] (zdu 20 cX12_row.data.toList) = true := by decide +kernel
theorem dX12_row_22 : decode cX12_row 22 = .ok (.iconst (-1), 1) := zo_2 zh_cX12_row_1 2 rfl
theorem dX12_row_23 : decode cX12_row 23 = .ok (.ireturn, 1) := zo_172 zh_cX12_row_1 3 rfl
theorem dX12_row_24 : decode cX12_row 24 = .ok (.iload_n 3, 1) := zo_29 zh_cX12_row_1 4 rfl
theorem dX12_row_25 : decode cX12_row 25 = .ok (.ifCond .ge 6, 3) := zo_p156 zh_cX12_row_1 5 6 rfl rfl
theorem dX12_row_28 : decode cX12_row 28 = .ok (.bipush (-14), 2) := zo_n16 zh_cX12_row_1 8 13 rfl rfl
theorem dX12_row_30 : decode cX12_row 30 = .ok (.ireturn, 1) := zo_172 zh_cX12_row_1 10 rfl
theorem dX12_row_31 : decode cX12_row 31 = .ok (.aload_n 0, 1) := zo_42 zh_cX12_row_1 11 rfl
theorem dX12_row_32 : decode cX12_row 32 = .ok (.getfield 130, 3) := zo_180 zh_cX12_row_1 12 rfl
theorem dX12_row_35 : decode cX12_row 35 = .ok (.iload_n 1, 1) := zo_27 zh_cX12_row_1 15 rfl
theorem dX12_row_36 : decode cX12_row 36 = .ok (.bipush (-2), 2) := zo_n16 zh_cX12_row_1 16 1 rfl rfl
theorem dX12_row_38 : decode cX12_row 38 = .ok (.iload_n 2, 1) := zo_28 zh_cX12_row_1 18 rfl
theorem dX12_row_39 : decode cX12_row 39 = .ok (.isub, 1) := zo_100 zh_cX12_row_1 19 rfl
theorem zh_cX12_row_2 : zck [79, 42, 180, 0, 133, 27, 29, 79, 16, 60, 27, 104, 54, 4, 21, 4, 16, 60, 27, 104, 16, 60] (zdu 40 cX12_row.data.toList) = true := by decide +kernel
theorem dX12_row_40 : decode cX12_row 40 = .ok (.iastore, 1) := zo_79 zh_cX12_row_2 0 rfl
theorem dX12_row_41 : decode cX12_row 41 = .ok (.aload_n 0, 1) := zo_42 zh_cX12_row_2 1 rfl
theorem dX12_row_42 : decode cX12_row 42 = .ok (.getfield 133, 3) := zo_180 zh_cX12_row_2 2 rfl
theorem dX12_row_45 : decode cX12_row 45 = .ok (.iload_n 1, 1) := zo_27 zh_cX12_row_2 5 rfl
theorem dX12_row_46 : decode cX12_row 46 = .ok (.iload_n 3, 1) := zo_29 zh_cX12_row_2 6 rfl
theorem dX12_row_47 : decode cX12_row 47 = .ok (.iastore, 1) := zo_79 zh_cX12_row_2 7 rfl
theorem dX12_row_48 : decode cX12_row 48 = .ok (.bipush 60, 2) := zo_p16 zh_cX12_row_2 8 60 rfl rfl
theorem dX12_row_50 : decode cX12_row 50 = .ok (.iload_n 1, 1) := zo_27 zh_cX12_row_2 10 rfl
theorem dX12_row_51 : decode cX12_row 51 = .ok (.imul, 1) := zo_104 zh_cX12_row_2 11 rfl
theorem dX12_row_52 : decode cX12_row 52 = .ok (.istore 4, 2) := zo_54 zh_cX12_row_2 12 rfl
theorem dX12_row_54 : decode cX12_row 54 = .ok (.iload 4, 2) := zo_21 zh_cX12_row_2 14 rfl
theorem dX12_row_56 : decode cX12_row 56 = .ok (.bipush 60, 2) := zo_p16 zh_cX12_row_2 16 60 rfl rfl
theorem dX12_row_58 : decode cX12_row 58 = .ok (.iload_n 1, 1) := zo_27 zh_cX12_row_2 18 rfl
theorem dX12_row_59 : decode cX12_row 59 = .ok (.imul, 1) := zo_104 zh_cX12_row_2 19 rfl
theorem zh_cX12_row_3 : zck [16, 60, 96, 162, 0, 17, 42, 180, 0, 136, 21, 4, 9, 80, 132, 4, 1, 167, 255, 233, 4, 172] (zdu 60 cX12_row.data.toList) = true := by decide +kernel
theorem dX12_row_60 : decode cX12_row 60 = .ok (.bipush 60, 2) := zo_p16 zh_cX12_row_3 0 60 rfl rfl
theorem dX12_row_62 : decode cX12_row 62 = .ok (.iadd, 1) := zo_96 zh_cX12_row_3 2 rfl
theorem dX12_row_63 : decode cX12_row 63 = .ok (.if_icmp .ge 17, 3) := zo_p162 zh_cX12_row_3 3 17 rfl rfl
theorem dX12_row_66 : decode cX12_row 66 = .ok (.aload_n 0, 1) := zo_42 zh_cX12_row_3 6 rfl
theorem dX12_row_67 : decode cX12_row 67 = .ok (.getfield 136, 3) := zo_180 zh_cX12_row_3 7 rfl
theorem dX12_row_70 : decode cX12_row 70 = .ok (.iload 4, 2) := zo_21 zh_cX12_row_3 10 rfl
theorem dX12_row_72 : decode cX12_row 72 = .ok (.lconst 0, 1) := zo_9 zh_cX12_row_3 12 rfl
theorem zo_80 {c : ByteArray} {s : Nat} {K : List Nat} (h : zck K (zdu s c.data.toList) = true) (k : Nat) (hk : zt1 K k 80 = true) : decode c (s + k) = .ok (.lastore, 1) := zde ((zbd (zu1 (zh1 h hk))).trans rfl)
theorem dX12_row_73 : decode cX12_row 73 = .ok (.lastore, 1) := zo_80 zh_cX12_row_3 13 rfl
theorem dX12_row_74 : decode cX12_row 74 = .ok (.iinc 4 1, 3) := zo_p132 zh_cX12_row_3 14 1 rfl rfl
theorem dX12_row_77 : decode cX12_row 77 = .ok (.goto (-23), 3) := zo_n167 zh_cX12_row_3 17 22 rfl rfl
theorem zh_cX12_row_4 : zck [4, 172] (zdu 80 cX12_row.data.toList) = true := by decide +kernel
theorem dX12_row_80 : decode cX12_row 80 = .ok (.iconst 1, 1) := zo_4 zh_cX12_row_4 0 rfl
theorem dX12_row_81 : decode cX12_row 81 = .ok (.ireturn, 1) := zo_172 zh_cX12_row_4 1 rfl
abbrev z_X12_row : List Cond := .code yX12_row cX12_row 5 (some .int) :: zW
abbrev wl_X12_row (ad : Nat → Nat) (cs : Nat → ClassId)  (mod_code : Int32) (mod_shoes : Int32) (mod_claims : Int32) (mod_taped : Int32) (mod_here : Int32) (mod_fault : Int32) (mod_suits : Int32) (mod_doneMany : Int32) (mod_undoneMany : Int32) (mod_open : Int32) (mod_laid : Int32) (mod_isBoth : Int32) (mod_wished : Int32) (mod_bestMany : Int32) (mod_bestRow : Int32) (mod_ringDigits : Int32) (mod_traces : Int32) (mod_holds : Nat → Int32) (mod_size : Nat → Int32) (mod_elements : Nat → Int64) : va_W := [((ad 41), .inr (12, [.int mod_code, .int mod_shoes, .ref (ad 42), .ref (ad 43), .ref (ad 44), .ref (ad 45), .int mod_claims, .ref (ad 46), .ref (ad 47), .ref (ad 48), .ref (ad 49), .ref (ad 50), .int mod_taped, .int mod_here, .int mod_fault, .int mod_suits, .ref (ad 51), .ref (ad 52), .ref (ad 53), .ref (ad 54), .ref (ad 55), .ref (ad 56), .ref (ad 57), .ref (ad 58), .ref (ad 59), .ref (ad 60), .ref (ad 61), .int mod_doneMany, .int mod_undoneMany, .ref (ad 62), .ref (ad 63), .ref (ad 64), .ref (ad 65), .int mod_open, .int mod_laid, .ref (ad 66), .ref (ad 67), .ref (ad 68), .ref (ad 69), .ref (ad 70), .ref (ad 71), .ref (ad 72), .ref (ad 73), .ref (ad 74), .ref (ad 75), .int mod_isBoth, .int mod_wished, .ref (ad 76), .ref (ad 77), .int mod_bestMany, .int mod_bestRow, .ref (ad 78), .ref (ad 79), .int mod_ringDigits, .int mod_traces, .ref (ad 80), .ref (ad 81), .ref (ad 82), .ref (ad 83), .ref (ad 84)])), ((ad 81), .inl (cs 0, 6, .inl mod_holds)), ((ad 82), .inl (cs 0, 6, .inl mod_size)), ((ad 83), .inl (cs 1, 360, .inr (.inl mod_elements)))]
def Q_X12_row (D : va_G) (cs : Nat → ClassId) (ad : Nat → Nat)  (mod_code : Int32) (mod_shoes : Int32) (mod_claims : Int32) (mod_taped : Int32) (mod_here : Int32) (mod_fault : Int32) (mod_suits : Int32) (mod_doneMany : Int32) (mod_undoneMany : Int32) (mod_open : Int32) (mod_laid : Int32) (mod_isBoth : Int32) (mod_wished : Int32) (mod_bestMany : Int32) (mod_bestRow : Int32) (mod_ringDigits : Int32) (mod_traces : Int32) (A : Nat → Prop) (R : Int32 × (Nat → Int32) × (Nat → Int32) × (Nat → Int64)) : Array Value → State → Outcome → State → Prop :=
  va_Qi (fun (r : Int32) (u : (Nat → Int32) × (Nat → Int32) × (Nat → Int64)) => (r, u) = R) (fun (u : (Nat → Int32) × (Nat → Int32) × (Nat → Int64)) (t : State) => va_P D classes (wl_X12_row ad cs mod_code mod_shoes mod_claims mod_taped mod_here mod_fault mod_suits mod_doneMany mod_undoneMany mod_open mod_laid mod_isBoth mod_wished mod_bestMany mod_bestRow mod_ringDigits mod_traces u.1 u.2.1 u.2.2) t.heap ∧ va_D A (wl_X12_row ad cs mod_code mod_shoes mod_claims mod_taped mod_here mod_fault mod_suits mod_doneMany mod_undoneMany mod_open mod_laid mod_isBoth mod_wished mod_bestMany mod_bestRow mod_ringDigits mod_traces u.1 u.2.1 u.2.2)) A
abbrev rm_X12_row : Room := { frames := 2, cells := 0, slots := 0, locals := 42 }
def B_X12_row_54   (g54 : Int32 → Int32 → (Nat → Int32) → (Nat → Int32) → (Nat → Int64) → (Option (Int32 × (Nat → Int32) × (Nat → Int32) × (Nat → Int64)))) (mod_code : Int32) (mod_shoes : Int32) (mod_claims : Int32) (mod_taped : Int32) (mod_here : Int32) (mod_fault : Int32) (mod_suits : Int32) (mod_doneMany : Int32) (mod_undoneMany : Int32) (mod_open : Int32) (mod_laid : Int32) (mod_isBoth : Int32) (mod_wished : Int32) (mod_bestMany : Int32) (mod_bestRow : Int32) (mod_ringDigits : Int32) (mod_traces : Int32) (x1 : Int32) (x4 : Int32) (mod_holds : Nat → Int32) (mod_size : Nat → Int32) (mod_elements : Nat → Int64) : Option (Int32 × (Nat → Int32) × (Nat → Int32) × (Nat → Int64)) :=
  (if (((60 : Int32) * x1) + (60 : Int32)) ≤ x4 then (some ((1 : Int32), mod_holds, mod_size, mod_elements)) else (if (x4 < 0 ∨ 360 ≤ x4.toNatClampNeg) then none else (zk_let (vp_updL mod_elements x4.toNatClampNeg (0 : Int64)) (fun f_19 => (zk_let (x4 + (1 : Int32)) (fun v_20 => (g54 x1 v_20 mod_holds mod_size f_19)))))))
def B_X12_row_0   (g54 : Int32 → Int32 → (Nat → Int32) → (Nat → Int32) → (Nat → Int64) → (Option (Int32 × (Nat → Int32) × (Nat → Int32) × (Nat → Int64)))) (mod_code : Int32) (mod_shoes : Int32) (mod_claims : Int32) (mod_taped : Int32) (mod_here : Int32) (mod_fault : Int32) (mod_suits : Int32) (mod_doneMany : Int32) (mod_undoneMany : Int32) (mod_open : Int32) (mod_laid : Int32) (mod_isBoth : Int32) (mod_wished : Int32) (mod_bestMany : Int32) (mod_bestRow : Int32) (mod_ringDigits : Int32) (mod_traces : Int32) (x1 : Int32) (x2 : Int32) (x3 : Int32) (mod_holds : Nat → Int32) (mod_size : Nat → Int32) (mod_elements : Nat → Int64) : Option (Int32 × (Nat → Int32) × (Nat → Int32) × (Nat → Int64)) :=
  (zk_b2 (f_X12_isShelf x1) (fun r_1 u_2 => (if r_1 = 0 then (some ((-1 : Int32), mod_holds, mod_size, mod_elements)) else (zk_b2 (f_X12_in x2 (0 : Int32) (4 : Int32)) (fun r_5 u_6 => (if r_5 = 0 then (some ((-1 : Int32), mod_holds, mod_size, mod_elements)) else (if x3 ≤ (60 : Int32) then (if 0 ≤ x3 then (zk_let ((-2 : Int32) - x2) (fun v_11 => (if (x1 < 0 ∨ 6 ≤ x1.toNatClampNeg) then none else (zk_let (upd mod_holds x1.toNatClampNeg v_11) (fun f_13 => (if (x1 < 0 ∨ 6 ≤ x1.toNatClampNeg) then none else (zk_let (upd mod_size x1.toNatClampNeg x3) (fun f_15 => (zk_let ((60 : Int32) * x1) (fun v_16 => (g54 x1 v_16 f_13 f_15 mod_elements))))))))))) else (some ((-14 : Int32), mod_holds, mod_size, mod_elements))) else (some ((-1 : Int32), mod_holds, mod_size, mod_elements)))))))))
def G_X12_row   (mod_code : Int32) (mod_shoes : Int32) (mod_claims : Int32) (mod_taped : Int32) (mod_here : Int32) (mod_fault : Int32) (mod_suits : Int32) (mod_doneMany : Int32) (mod_undoneMany : Int32) (mod_open : Int32) (mod_laid : Int32) (mod_isBoth : Int32) (mod_wished : Int32) (mod_bestMany : Int32) (mod_bestRow : Int32) (mod_ringDigits : Int32) (mod_traces : Int32) (n : Nat) : (Int32 → Int32 → (Nat → Int32) → (Nat → Int32) → (Nat → Int64) → (Option (Int32 × (Nat → Int32) × (Nat → Int32) × (Nat → Int64)))) :=
  Nat.rec (motive := fun _ => (Int32 → Int32 → (Nat → Int32) → (Nat → Int32) → (Nat → Int64) → (Option (Int32 × (Nat → Int32) × (Nat → Int32) × (Nat → Int64))))) ((fun _ _ _ _ _ => none)) (fun _ ih => (B_X12_row_54   ih mod_code mod_shoes mod_claims mod_taped mod_here mod_fault mod_suits mod_doneMany mod_undoneMany mod_open mod_laid mod_isBoth mod_wished mod_bestMany mod_bestRow mod_ringDigits mod_traces)) n
def f_X12_row   (n : Nat) (x1 : Int32) (x2 : Int32) (x3 : Int32) (mod_code : Int32) (mod_shoes : Int32) (mod_claims : Int32) (mod_taped : Int32) (mod_here : Int32) (mod_fault : Int32) (mod_suits : Int32) (mod_doneMany : Int32) (mod_undoneMany : Int32) (mod_open : Int32) (mod_laid : Int32) (mod_isBoth : Int32) (mod_wished : Int32) (mod_bestMany : Int32) (mod_bestRow : Int32) (mod_ringDigits : Int32) (mod_traces : Int32) (mod_holds : Nat → Int32) (mod_size : Nat → Int32) (mod_elements : Nat → Int64) : Option (Int32 × (Nat → Int32) × (Nat → Int32) × (Nat → Int64)) := B_X12_row_0   ((G_X12_row   mod_code mod_shoes mod_claims mod_taped mod_here mod_fault mod_suits mod_doneMany mod_undoneMany mod_open mod_laid mod_isBoth mod_wished mod_bestMany mod_bestRow mod_ringDigits mod_traces n)) mod_code mod_shoes mod_claims mod_taped mod_here mod_fault mod_suits mod_doneMany mod_undoneMany mod_open mod_laid mod_isBoth mod_wished mod_bestMany mod_bestRow mod_ringDigits mod_traces x1 x2 x3 mod_holds mod_size mod_elements
set_option maxHeartbeats 4000000 in
set_option maxRecDepth 100000 in
theorem L_X12_row_54 {p : Program} {l : Launch} {e : Env} {s : State} {m : MethodId} {args : Array Value} {below : List Frame} {meth : Method} {c : Code} {A : Nat → Prop} {D : va_G} {cs : Nat → ClassId} {ad : Nat → Nat} {mod_code : Int32} {mod_shoes : Int32} {mod_claims : Int32} {mod_taped : Int32} {mod_here : Int32} {mod_fault : Int32} {mod_suits : Int32} {mod_doneMany : Int32} {mod_undoneMany : Int32} {mod_open : Int32} {mod_laid : Int32} {mod_isBoth : Int32} {mod_wished : Int32} {mod_bestMany : Int32} {mod_bestRow : Int32} {mod_ringDigits : Int32} {mod_traces : Int32} {R : Int32 × (Nat → Int32) × (Nat → Int32) × (Nat → Int64)} {g54 : Int32 → Int32 → (Nat → Int32) → (Nat → Int32) → (Nat → Int64) → (Option (Int32 × (Nat → Int32) × (Nat → Int32) × (Nat → Int64)))} (C0 : zC p s m args meth c cX12_row 5 (some .int) RX12 zW) (hK : va_K D classes (zT cs) s) (hA : ∀ q : Nat, s.heap.size ≤ q → A q) (ih54 : ∀ (x1 : Int32) (x4 : Int32) (mod_holds : Nat → Int32) (mod_size : Nat → Int32) (mod_elements : Nat → Int64) (h : g54 x1 x4 mod_holds mod_size mod_elements = some R) (H : Heap) (locs : List Loc) (ls : Array Slot) (hP : va_P D classes (wl_X12_row ad cs mod_code mod_shoes mod_claims mod_taped mod_here mod_fault mod_suits mod_doneMany mod_undoneMany mod_open mod_laid mod_isBoth mod_wished mod_bestMany mod_bestRow mod_ringDigits mod_traces mod_holds mod_size mod_elements) H) (hD : va_D A (wl_X12_row ad cs mod_code mod_shoes mod_claims mod_taped mod_here mod_fault mod_suits mod_doneMany mod_undoneMany mod_open mod_laid mod_isBoth mod_wished mod_bestMany mod_bestRow mod_ringDigits mod_traces mod_holds mod_size mod_elements)) (hS : va_S A s.heap H locs) (hl : lv_has ls 5 [(0, .ref (ad 41)), (1, .int x1), (4, .int x4)]), W p l e rm_X12_row s m args below meth c H locs 0 0 (MQ below (Q_X12_row D cs ad mod_code mod_shoes mod_claims mod_taped mod_here mod_fault mod_suits mod_doneMany mod_undoneMany mod_open mod_laid mod_isBoth mod_wished mod_bestMany mod_bestRow mod_ringDigits mod_traces A R) args s 0 0 A) (F0 m 54 ls [])) (x1 : Int32) (x4 : Int32) (mod_holds : Nat → Int32) (mod_size : Nat → Int32) (mod_elements : Nat → Int64) (h : B_X12_row_54 g54 mod_code mod_shoes mod_claims mod_taped mod_here mod_fault mod_suits mod_doneMany mod_undoneMany mod_open mod_laid mod_isBoth mod_wished mod_bestMany mod_bestRow mod_ringDigits mod_traces x1 x4 mod_holds mod_size mod_elements = some R) (H : Heap) (locs : List Loc) (ls : Array Slot) (hP : va_P D classes (wl_X12_row ad cs mod_code mod_shoes mod_claims mod_taped mod_here mod_fault mod_suits mod_doneMany mod_undoneMany mod_open mod_laid mod_isBoth mod_wished mod_bestMany mod_bestRow mod_ringDigits mod_traces mod_holds mod_size mod_elements) H) (hD : va_D A (wl_X12_row ad cs mod_code mod_shoes mod_claims mod_taped mod_here mod_fault mod_suits mod_doneMany mod_undoneMany mod_open mod_laid mod_isBoth mod_wished mod_bestMany mod_bestRow mod_ringDigits mod_traces mod_holds mod_size mod_elements)) (hS : va_S A s.heap H locs) (hl : lv_has ls 5 [(0, .ref (ad 41)), (1, .int x1), (4, .int x4)]) : W p l e rm_X12_row s m args below meth c H locs 0 0 (MQ below (Q_X12_row D cs ad mod_code mod_shoes mod_claims mod_taped mod_here mod_fault mod_suits mod_doneMany mod_undoneMany mod_open mod_laid mod_isBoth mod_wished mod_bestMany mod_bestRow mod_ringDigits mod_traces A R) args s 0 0 A) (F0 m 54 ls []) := by
  obtain ⟨hx, hb, hr, hml, hown, ht, hlocks⟩ := id C0
  refine lv_iload hx hb dX12_row_54 (lv_at hl 2 rfl) ?_
  refine lv_bipush (v := (60 : Int32)) hx hb dX12_row_56 (by decide) ?_
  refine lv_iload_n hx hb dX12_row_58 rfl (lv_at hl 1 rfl) ?_
  refine lv_imul hx hb dX12_row_59 ?_
  refine lv_bipush (v := (60 : Int32)) hx hb dX12_row_60 (by decide) ?_
  refine lv_iadd hx hb dX12_row_62 ?_
  refine lv_icmp_ge (tgt := 80) hx hb dX12_row_63 (by decide) (fun c_17 => ?_) (fun c_17 => ?_)
  · have h := zk_t c_17 h
    refine lv_iconst (v := (1 : Int32)) hx hb dX12_row_80 (by decide) ?_
    exact W.iret (v := (1 : Int32)) hx hb hr (fun t ht2 hW => ⟨⟨(1 : Int32), (mod_holds, mod_size, mod_elements), rfl, Option.some.inj h, by rw [ht2]; exact hP, hD⟩, hS.F ht2⟩) hS.2.2 dX12_row_81 hlocks
  · have h := zk_f c_17 h
    refine lv_aload_n hx hb dX12_row_66 rfl (lv_at hl 0 rfl) ?_
    refine va_get (D := D) (ci := 12) (v := .ref (ad 83)) (C := RX12) (T := TX12) (N := 60) hx hb ht iX12 hown hK hP 0 rfl rfl 58 (by decide) (ht _ kw_1353) (fun _ h9 => h9) rfl dX12_row_67 ?_
    refine lv_iload hx hb dX12_row_70 (lv_at hl 2 rfl) ?_
    refine lv_lconst (v := (0 : Int64)) hx hb dX12_row_72 (by decide) ?_
    obtain ⟨g_18, h⟩ := zk_gd h
    obtain ⟨f_19, ef_19, h⟩ := zk_lt h
    refine va_last hx hb hK hP hD hS 3 1 rfl rfl g_18 dX12_row_73 (fun H locs hP hD hS => ?_)
    have hP : va_P D classes (wl_X12_row ad cs mod_code mod_shoes mod_claims mod_taped mod_here mod_fault mod_suits mod_doneMany mod_undoneMany mod_open mod_laid mod_isBoth mod_wished mod_bestMany mod_bestRow mod_ringDigits mod_traces mod_holds mod_size f_19) H := by rw [ef_19]; exact hP
    have hD : va_D A (wl_X12_row ad cs mod_code mod_shoes mod_claims mod_taped mod_here mod_fault mod_suits mod_doneMany mod_undoneMany mod_open mod_laid mod_isBoth mod_wished mod_bestMany mod_bestRow mod_ringDigits mod_traces mod_holds mod_size f_19) := by rw [ef_19]; exact hD
    obtain ⟨v_20, ev_20, h⟩ := zk_lt h
    refine lv_iinc (v := v_20) (lv' := [(4, .int v_20), (0, .ref (ad 41)), (1, .int x1)]) hx hb dX12_row_74 hl (k := 2) rfl (by rw [ev_20]; rfl) (by decide) rfl (fun ls hl => ?_)
    refine lv_goto (tgt := 54) hx hb dX12_row_77 (by decide) ?_
    exact ih54 x1 v_20 mod_holds mod_size f_19 h H locs ls hP hD hS (lv_sub hl [1, 2, 0] rfl)
set_option maxHeartbeats 4000000 in
set_option maxRecDepth 100000 in
theorem L_X12_row_0 {p : Program} {l : Launch} {e : Env} {s : State} {m : MethodId} {args : Array Value} {below : List Frame} {meth : Method} {c : Code} {A : Nat → Prop} {D : va_G} {cs : Nat → ClassId} {ad : Nat → Nat} {mod_code : Int32} {mod_shoes : Int32} {mod_claims : Int32} {mod_taped : Int32} {mod_here : Int32} {mod_fault : Int32} {mod_suits : Int32} {mod_doneMany : Int32} {mod_undoneMany : Int32} {mod_open : Int32} {mod_laid : Int32} {mod_isBoth : Int32} {mod_wished : Int32} {mod_bestMany : Int32} {mod_bestRow : Int32} {mod_ringDigits : Int32} {mod_traces : Int32} {R : Int32 × (Nat → Int32) × (Nat → Int32) × (Nat → Int64)} {g54 : Int32 → Int32 → (Nat → Int32) → (Nat → Int32) → (Nat → Int64) → (Option (Int32 × (Nat → Int32) × (Nat → Int32) × (Nat → Int64)))} (C0 : zC p s m args meth c cX12_row 5 (some .int) RX12 zW) (hK : va_K D classes (zT cs) s) (hA : ∀ q : Nat, s.heap.size ≤ q → A q) (ih54 : ∀ (x1 : Int32) (x4 : Int32) (mod_holds : Nat → Int32) (mod_size : Nat → Int32) (mod_elements : Nat → Int64) (h : g54 x1 x4 mod_holds mod_size mod_elements = some R) (H : Heap) (locs : List Loc) (ls : Array Slot) (hP : va_P D classes (wl_X12_row ad cs mod_code mod_shoes mod_claims mod_taped mod_here mod_fault mod_suits mod_doneMany mod_undoneMany mod_open mod_laid mod_isBoth mod_wished mod_bestMany mod_bestRow mod_ringDigits mod_traces mod_holds mod_size mod_elements) H) (hD : va_D A (wl_X12_row ad cs mod_code mod_shoes mod_claims mod_taped mod_here mod_fault mod_suits mod_doneMany mod_undoneMany mod_open mod_laid mod_isBoth mod_wished mod_bestMany mod_bestRow mod_ringDigits mod_traces mod_holds mod_size mod_elements)) (hS : va_S A s.heap H locs) (hl : lv_has ls 5 [(0, .ref (ad 41)), (1, .int x1), (4, .int x4)]), W p l e rm_X12_row s m args below meth c H locs 0 0 (MQ below (Q_X12_row D cs ad mod_code mod_shoes mod_claims mod_taped mod_here mod_fault mod_suits mod_doneMany mod_undoneMany mod_open mod_laid mod_isBoth mod_wished mod_bestMany mod_bestRow mod_ringDigits mod_traces A R) args s 0 0 A) (F0 m 54 ls [])) (x1 : Int32) (x2 : Int32) (x3 : Int32) (mod_holds : Nat → Int32) (mod_size : Nat → Int32) (mod_elements : Nat → Int64) (h : B_X12_row_0 g54 mod_code mod_shoes mod_claims mod_taped mod_here mod_fault mod_suits mod_doneMany mod_undoneMany mod_open mod_laid mod_isBoth mod_wished mod_bestMany mod_bestRow mod_ringDigits mod_traces x1 x2 x3 mod_holds mod_size mod_elements = some R) (H : Heap) (locs : List Loc) (ls : Array Slot) (hP : va_P D classes (wl_X12_row ad cs mod_code mod_shoes mod_claims mod_taped mod_here mod_fault mod_suits mod_doneMany mod_undoneMany mod_open mod_laid mod_isBoth mod_wished mod_bestMany mod_bestRow mod_ringDigits mod_traces mod_holds mod_size mod_elements) H) (hD : va_D A (wl_X12_row ad cs mod_code mod_shoes mod_claims mod_taped mod_here mod_fault mod_suits mod_doneMany mod_undoneMany mod_open mod_laid mod_isBoth mod_wished mod_bestMany mod_bestRow mod_ringDigits mod_traces mod_holds mod_size mod_elements)) (hS : va_S A s.heap H locs) (hl : lv_has ls 5 [(0, .ref (ad 41)), (1, .int x1), (2, .int x2), (3, .int x3)]) : W p l e rm_X12_row s m args below meth c H locs 0 0 (MQ below (Q_X12_row D cs ad mod_code mod_shoes mod_claims mod_taped mod_here mod_fault mod_suits mod_doneMany mod_undoneMany mod_open mod_laid mod_isBoth mod_wished mod_bestMany mod_bestRow mod_ringDigits mod_traces A R) args s 0 0 A) (F0 m 0 ls []) := by
  obtain ⟨hx, hb, hr, hml, hown, ht, hlocks⟩ := id C0
  refine lv_iload_n hx hb dX12_row_0 rfl (lv_at hl 1 rfl) ?_
  obtain ⟨r_1, u_2, hc_3, h⟩ := zk_o2 h
  refine zz_si (post := (fun r u => (r, u) = (r_1, u_2))) (w1 := fun u => (wl_X12_isShelf ad cs )) (As := [.int x1]) (rest := []) (c_X12_isShelf l D cs ad  H.size x1 (r_1, u_2) hc_3) ⟨hx, hb, hml, hown, ht⟩ (va_cwS 1 ht g_X12_167 rfl rfl rfl hd_X12_isShelf ⟨Nat.le_of_ble_eq_true rfl, Nat.le_of_ble_eq_true rfl⟩) hP hD hS hK hA [] rfl rfl [] rfl (fun _ => rfl) rfl hl.1 (Nat.le_of_ble_eq_true rfl) dX12_row_1 ⟨Nat.zero_le _, Nat.zero_le _⟩ (fun r u H locs hq hP hS => ?_)
  cases hq
  have hP : va_P D classes (wl_X12_row ad cs mod_code mod_shoes mod_claims mod_taped mod_here mod_fault mod_suits mod_doneMany mod_undoneMany mod_open mod_laid mod_isBoth mod_wished mod_bestMany mod_bestRow mod_ringDigits mod_traces mod_holds mod_size mod_elements) H := hP
  refine lv_if_eq (tgt := 22) hx hb dX12_row_4 (by decide) (fun c_4 => ?_) (fun c_4 => ?_)
  · have h := zk_t c_4 h
    refine lv_iconst (v := (-1 : Int32)) hx hb dX12_row_22 (by decide) ?_
    exact W.iret (v := (-1 : Int32)) hx hb hr (fun t ht2 hW => ⟨⟨(-1 : Int32), (mod_holds, mod_size, mod_elements), rfl, Option.some.inj h, by rw [ht2]; exact hP, hD⟩, hS.F ht2⟩) hS.2.2 dX12_row_23 hlocks
  · have h := zk_f c_4 h
    refine lv_iload_n hx hb dX12_row_7 rfl (lv_at hl 2 rfl) ?_
    refine lv_iconst (v := (0 : Int32)) hx hb dX12_row_8 (by decide) ?_
    refine lv_iconst (v := (4 : Int32)) hx hb dX12_row_9 (by decide) ?_
    obtain ⟨r_5, u_6, hc_7, h⟩ := zk_o2 h
    refine zz_si (post := (fun r u => (r, u) = (r_5, u_6))) (w1 := fun u => (wl_X12_in ad cs )) (As := [.int x2, .int (0 : Int32), .int (4 : Int32)]) (rest := []) (c_X12_in l D cs ad  H.size x2 (0 : Int32) (4 : Int32) (r_5, u_6) hc_7) ⟨hx, hb, hml, hown, ht⟩ (va_cwS 3 ht g_X12_147 rfl rfl rfl hd_X12_in ⟨Nat.le_of_ble_eq_true rfl, Nat.le_of_ble_eq_true rfl⟩) hP hD hS hK hA [] rfl rfl [] rfl (fun _ => rfl) rfl hl.1 (Nat.le_of_ble_eq_true rfl) dX12_row_10 ⟨Nat.zero_le _, Nat.zero_le _⟩ (fun r u H locs hq hP hS => ?_)
    cases hq
    have hP : va_P D classes (wl_X12_row ad cs mod_code mod_shoes mod_claims mod_taped mod_here mod_fault mod_suits mod_doneMany mod_undoneMany mod_open mod_laid mod_isBoth mod_wished mod_bestMany mod_bestRow mod_ringDigits mod_traces mod_holds mod_size mod_elements) H := hP
    refine lv_if_eq (tgt := 22) hx hb dX12_row_13 (by decide) (fun c_8 => ?_) (fun c_8 => ?_)
    · have h := zk_t c_8 h
      refine lv_iconst (v := (-1 : Int32)) hx hb dX12_row_22 (by decide) ?_
      exact W.iret (v := (-1 : Int32)) hx hb hr (fun t ht2 hW => ⟨⟨(-1 : Int32), (mod_holds, mod_size, mod_elements), rfl, Option.some.inj h, by rw [ht2]; exact hP, hD⟩, hS.F ht2⟩) hS.2.2 dX12_row_23 hlocks
    · have h := zk_f c_8 h
      refine lv_iload_n hx hb dX12_row_16 rfl (lv_at hl 3 rfl) ?_
      refine lv_bipush (v := (60 : Int32)) hx hb dX12_row_17 (by decide) ?_
      refine lv_icmp_le (tgt := 24) hx hb dX12_row_19 (by decide) (fun c_9 => ?_) (fun c_9 => ?_)
      · have h := zk_t c_9 h
        refine lv_iload_n hx hb dX12_row_24 rfl (lv_at hl 3 rfl) ?_
        refine lv_if_ge (tgt := 31) hx hb dX12_row_25 (by decide) (fun c_10 => ?_) (fun c_10 => ?_)
        · have h := zk_t c_10 h
          refine lv_aload_n hx hb dX12_row_31 rfl (lv_at hl 0 rfl) ?_
          refine va_get (D := D) (ci := 12) (v := .ref (ad 81)) (C := RX12) (T := TX12) (N := 60) hx hb ht iX12 hown hK hP 0 rfl rfl 56 (by decide) (ht _ kw_1351) (fun _ h9 => h9) rfl dX12_row_32 ?_
          refine lv_iload_n hx hb dX12_row_35 rfl (lv_at hl 1 rfl) ?_
          refine lv_bipush (v := (-2 : Int32)) hx hb dX12_row_36 (by decide) ?_
          refine lv_iload_n hx hb dX12_row_38 rfl (lv_at hl 2 rfl) ?_
          refine lv_isub hx hb dX12_row_39 ?_
          obtain ⟨v_11, ev_11, h⟩ := zk_lt h
          refine W.eq (g2 := F0 m 40 ls [.int v_11, .int x1, .ref (ad 81)]) (by rw [ev_11]) ?_
          obtain ⟨g_12, h⟩ := zk_gd h
          obtain ⟨f_13, ef_13, h⟩ := zk_lt h
          refine va_iast hx hb hK hP hD hS 1 0 rfl rfl g_12 dX12_row_40 (fun H locs hP hD hS => ?_)
          have hP : va_P D classes (wl_X12_row ad cs mod_code mod_shoes mod_claims mod_taped mod_here mod_fault mod_suits mod_doneMany mod_undoneMany mod_open mod_laid mod_isBoth mod_wished mod_bestMany mod_bestRow mod_ringDigits mod_traces f_13 mod_size mod_elements) H := by rw [ef_13]; exact hP
          have hD : va_D A (wl_X12_row ad cs mod_code mod_shoes mod_claims mod_taped mod_here mod_fault mod_suits mod_doneMany mod_undoneMany mod_open mod_laid mod_isBoth mod_wished mod_bestMany mod_bestRow mod_ringDigits mod_traces f_13 mod_size mod_elements) := by rw [ef_13]; exact hD
          refine lv_aload_n hx hb dX12_row_41 rfl (lv_at hl 0 rfl) ?_
          refine va_get (D := D) (ci := 12) (v := .ref (ad 82)) (C := RX12) (T := TX12) (N := 60) hx hb ht iX12 hown hK hP 0 rfl rfl 57 (by decide) (ht _ kw_1352) (fun _ h9 => h9) rfl dX12_row_42 ?_
          refine lv_iload_n hx hb dX12_row_45 rfl (lv_at hl 1 rfl) ?_
          refine lv_iload_n hx hb dX12_row_46 rfl (lv_at hl 3 rfl) ?_
          obtain ⟨g_14, h⟩ := zk_gd h
          obtain ⟨f_15, ef_15, h⟩ := zk_lt h
          refine va_iast hx hb hK hP hD hS 2 0 rfl rfl g_14 dX12_row_47 (fun H locs hP hD hS => ?_)
          have hP : va_P D classes (wl_X12_row ad cs mod_code mod_shoes mod_claims mod_taped mod_here mod_fault mod_suits mod_doneMany mod_undoneMany mod_open mod_laid mod_isBoth mod_wished mod_bestMany mod_bestRow mod_ringDigits mod_traces f_13 f_15 mod_elements) H := by rw [ef_15]; exact hP
          have hD : va_D A (wl_X12_row ad cs mod_code mod_shoes mod_claims mod_taped mod_here mod_fault mod_suits mod_doneMany mod_undoneMany mod_open mod_laid mod_isBoth mod_wished mod_bestMany mod_bestRow mod_ringDigits mod_traces f_13 f_15 mod_elements) := by rw [ef_15]; exact hD
          refine lv_bipush (v := (60 : Int32)) hx hb dX12_row_48 (by decide) ?_
          refine lv_iload_n hx hb dX12_row_50 rfl (lv_at hl 1 rfl) ?_
          refine lv_imul hx hb dX12_row_51 ?_
          obtain ⟨v_16, ev_16, h⟩ := zk_lt h
          refine W.eq (g2 := F0 m 52 ls [.int v_16]) (by rw [ev_16]) ?_
          refine lv_istore (lv' := [(4, .int v_16), (0, .ref (ad 41)), (1, .int x1), (2, .int x2), (3, .int x3)]) hx hb dX12_row_52 hl (by decide) rfl (fun ls hl => ?_)
          exact ih54 x1 v_16 f_13 f_15 mod_elements h H locs ls hP hD hS (lv_sub hl [1, 2, 0] rfl)
        · have h := zk_f c_10 h
          refine lv_bipush (v := (-14 : Int32)) hx hb dX12_row_28 (by decide) ?_
          exact W.iret (v := (-14 : Int32)) hx hb hr (fun t ht2 hW => ⟨⟨(-14 : Int32), (mod_holds, mod_size, mod_elements), rfl, Option.some.inj h, by rw [ht2]; exact hP, hD⟩, hS.F ht2⟩) hS.2.2 dX12_row_30 hlocks
      · have h := zk_f c_9 h
        refine lv_iconst (v := (-1 : Int32)) hx hb dX12_row_22 (by decide) ?_
        exact W.iret (v := (-1 : Int32)) hx hb hr (fun t ht2 hW => ⟨⟨(-1 : Int32), (mod_holds, mod_size, mod_elements), rfl, Option.some.inj h, by rw [ht2]; exact hP, hD⟩, hS.F ht2⟩) hS.2.2 dX12_row_23 hlocks
theorem LG_X12_row {p : Program} {l : Launch} {e : Env} {s : State} {m : MethodId} {args : Array Value} {below : List Frame} {meth : Method} {c : Code} {A : Nat → Prop} {D : va_G} {cs : Nat → ClassId} {ad : Nat → Nat} {mod_code : Int32} {mod_shoes : Int32} {mod_claims : Int32} {mod_taped : Int32} {mod_here : Int32} {mod_fault : Int32} {mod_suits : Int32} {mod_doneMany : Int32} {mod_undoneMany : Int32} {mod_open : Int32} {mod_laid : Int32} {mod_isBoth : Int32} {mod_wished : Int32} {mod_bestMany : Int32} {mod_bestRow : Int32} {mod_ringDigits : Int32} {mod_traces : Int32} {R : Int32 × (Nat → Int32) × (Nat → Int32) × (Nat → Int64)} (C0 : zC p s m args meth c cX12_row 5 (some .int) RX12 zW) (hK : va_K D classes (zT cs) s) (hA : ∀ q : Nat, s.heap.size ≤ q → A q) : ∀ n : Nat, (∀ (x1 : Int32) (x4 : Int32) (mod_holds : Nat → Int32) (mod_size : Nat → Int32) (mod_elements : Nat → Int64) (h : (G_X12_row   mod_code mod_shoes mod_claims mod_taped mod_here mod_fault mod_suits mod_doneMany mod_undoneMany mod_open mod_laid mod_isBoth mod_wished mod_bestMany mod_bestRow mod_ringDigits mod_traces n) x1 x4 mod_holds mod_size mod_elements = some R) (H : Heap) (locs : List Loc) (ls : Array Slot) (hP : va_P D classes (wl_X12_row ad cs mod_code mod_shoes mod_claims mod_taped mod_here mod_fault mod_suits mod_doneMany mod_undoneMany mod_open mod_laid mod_isBoth mod_wished mod_bestMany mod_bestRow mod_ringDigits mod_traces mod_holds mod_size mod_elements) H) (hD : va_D A (wl_X12_row ad cs mod_code mod_shoes mod_claims mod_taped mod_here mod_fault mod_suits mod_doneMany mod_undoneMany mod_open mod_laid mod_isBoth mod_wished mod_bestMany mod_bestRow mod_ringDigits mod_traces mod_holds mod_size mod_elements)) (hS : va_S A s.heap H locs) (hl : lv_has ls 5 [(0, .ref (ad 41)), (1, .int x1), (4, .int x4)]), W p l e rm_X12_row s m args below meth c H locs 0 0 (MQ below (Q_X12_row D cs ad mod_code mod_shoes mod_claims mod_taped mod_here mod_fault mod_suits mod_doneMany mod_undoneMany mod_open mod_laid mod_isBoth mod_wished mod_bestMany mod_bestRow mod_ringDigits mod_traces A R) args s 0 0 A) (F0 m 54 ls [])) := by
  intro n
  induction n with
  | zero =>
    refine ?_ <;> (intros; rename_i h _ _ _ _ _ _ _; cases h)
  | succ n ih =>
    exact L_X12_row_54 C0 hK hA  ih
set_option maxHeartbeats 4000000 in
set_option maxRecDepth 100000 in
theorem c_X12_row (l : Launch) (D : va_G) (cs : Nat → ClassId) (ad : Nat → Nat) (sz : Nat) (n : Nat) (x1 : Int32) (x2 : Int32) (x3 : Int32) (mod_code : Int32) (mod_shoes : Int32) (mod_claims : Int32) (mod_taped : Int32) (mod_here : Int32) (mod_fault : Int32) (mod_suits : Int32) (mod_doneMany : Int32) (mod_undoneMany : Int32) (mod_open : Int32) (mod_laid : Int32) (mod_isBoth : Int32) (mod_wished : Int32) (mod_bestMany : Int32) (mod_bestRow : Int32) (mod_ringDigits : Int32) (mod_traces : Int32) (mod_holds : Nat → Int32) (mod_size : Nat → Int32) (mod_elements : Nat → Int64) (R : Int32 × (Nat → Int32) × (Nat → Int32) × (Nat → Int64)) (h : f_X12_row   n x1 x2 x3 mod_code mod_shoes mod_claims mod_taped mod_here mod_fault mod_suits mod_doneMany mod_undoneMany mod_open mod_laid mod_isBoth mod_wished mod_bestMany mod_bestRow mod_ringDigits mod_traces mod_holds mod_size mod_elements = some R) : Met l yX12_row (z_X12_row) rm_X12_row (va_Pc [.ref (ad 41), .int x1, .int x2, .int x3] (zPre D cs (wl_X12_row ad cs mod_code mod_shoes mod_claims mod_taped mod_here mod_fault mod_suits mod_doneMany mod_undoneMany mod_open mod_laid mod_isBoth mod_wished mod_bestMany mod_bestRow mod_ringDigits mod_traces mod_holds mod_size mod_elements) sz)) (Q_X12_row D cs ad mod_code mod_shoes mod_claims mod_taped mod_here mod_fault mod_suits mod_doneMany mod_undoneMany mod_open mod_laid mod_isBoth mod_wished mod_bestMany mod_bestRow mod_ringDigits mod_traces (va_A (wl_X12_row ad cs mod_code mod_shoes mod_claims mod_taped mod_here mod_fault mod_suits mod_doneMany mod_undoneMany mod_open mod_laid mod_isBoth mod_wished mod_bestMany mod_bestRow mod_ringDigits mod_traces mod_holds mod_size mod_elements) sz) R) 0 0 (va_A (wl_X12_row ad cs mod_code mod_shoes mod_claims mod_taped mod_here mod_fault mod_suits mod_doneMany mod_undoneMany mod_open mod_laid mod_isBoth mod_wished mod_bestMany mod_bestRow mod_ringDigits mod_traces mod_holds mod_size mod_elements) sz) := by
  refine Met.ofW (cc := cX12_row) (maxL := 5) (ret := (some .int)) (by decide) rfl ?_
  intro p e s m args below meth c s₁ B hml hv
  obtain ⟨rfl, hsz, hP, hK, hD0⟩ := hv
  subst hsz
  have hD := hD0.self (sz := s.heap.size)
  have C0 : zC p s m _ meth c cX12_row 5 (some .int) RX12 zW := ⟨B.exec, B.bytes, B.returns, hml, findClass_of_methodNamed B.named, fun w hw => atoms_spec (ws := z_X12_row) B.pre w (List.mem_cons_of_mem _ hw), B.notSynchronized⟩
  have hA : ∀ q : Nat, s.heap.size ≤ q → va_A (wl_X12_row ad cs mod_code mod_shoes mod_claims mod_taped mod_here mod_fault mod_suits mod_doneMany mod_undoneMany mod_open mod_laid mod_isBoth mod_wished mod_bestMany mod_bestRow mod_ringDigits mod_traces mod_holds mod_size mod_elements) s.heap.size q := fun q h => Or.inr h
  have hl := lv_entry ([.ref (ad 41), .int x1, .int x2, .int x3]) (n := 5) (Nat.le_of_ble_eq_true rfl)
  rw [lg_entry_eq]
  generalize (lg_sl ([.ref (ad 41), .int x1, .int x2, .int x3]) ++ List.replicate (5 - (lg_sl ([.ref (ad 41), .int x1, .int x2, .int x3])).length) Slot.unset).toArray = ls at hl ⊢
  exact L_X12_row_0 C0 hK hA  ((LG_X12_row C0 hK hA  n)) x1 x2 x3 mod_holds mod_size mod_elements h s.heap [] ls hP hD va_S.rf hl
theorem zh_cX12_whyNoPlace_0 : zck [27, 184, 0, 167, 154, 0, 5, 2, 172, 42, 180, 0, 130, 27, 46, 2, 160, 0, 6, 16, 245, 172] (zdu 0 cX12_whyNoPlace.data.toList) = true := by decide +kernel
theorem dX12_whyNoPlace_0 : decode cX12_whyNoPlace 0 = .ok (.iload_n 1, 1) := zo_27 zh_cX12_whyNoPlace_0 0 rfl
theorem dX12_whyNoPlace_1 : decode cX12_whyNoPlace 1 = .ok (.invokestatic 167, 3) := zo_184 zh_cX12_whyNoPlace_0 1 rfl
theorem dX12_whyNoPlace_4 : decode cX12_whyNoPlace 4 = .ok (.ifCond .ne 5, 3) := zo_p154 zh_cX12_whyNoPlace_0 4 5 rfl rfl
theorem dX12_whyNoPlace_7 : decode cX12_whyNoPlace 7 = .ok (.iconst (-1), 1) := zo_2 zh_cX12_whyNoPlace_0 7 rfl
theorem dX12_whyNoPlace_8 : decode cX12_whyNoPlace 8 = .ok (.ireturn, 1) := zo_172 zh_cX12_whyNoPlace_0 8 rfl
theorem dX12_whyNoPlace_9 : decode cX12_whyNoPlace 9 = .ok (.aload_n 0, 1) := zo_42 zh_cX12_whyNoPlace_0 9 rfl
theorem dX12_whyNoPlace_10 : decode cX12_whyNoPlace 10 = .ok (.getfield 130, 3) := zo_180 zh_cX12_whyNoPlace_0 10 rfl
theorem dX12_whyNoPlace_13 : decode cX12_whyNoPlace 13 = .ok (.iload_n 1, 1) := zo_27 zh_cX12_whyNoPlace_0 13 rfl
theorem dX12_whyNoPlace_14 : decode cX12_whyNoPlace 14 = .ok (.iaload, 1) := zo_46 zh_cX12_whyNoPlace_0 14 rfl
theorem dX12_whyNoPlace_15 : decode cX12_whyNoPlace 15 = .ok (.iconst (-1), 1) := zo_2 zh_cX12_whyNoPlace_0 15 rfl
theorem dX12_whyNoPlace_16 : decode cX12_whyNoPlace 16 = .ok (.if_icmp .ne 6, 3) := zo_p160 zh_cX12_whyNoPlace_0 16 6 rfl rfl
theorem dX12_whyNoPlace_19 : decode cX12_whyNoPlace 19 = .ok (.bipush (-11), 2) := zo_n16 zh_cX12_whyNoPlace_0 19 10 rfl rfl
theorem zh_cX12_whyNoPlace_1 : zck [245, 172, 42, 180, 0, 130, 27, 46, 155, 0, 6, 16, 244, 172, 28, 3, 42, 180, 0, 133, 27, 46] (zdu 20 cX12_whyNoPlace.data.toList) = true := by decide +kernel
theorem dX12_whyNoPlace_21 : decode cX12_whyNoPlace 21 = .ok (.ireturn, 1) := zo_172 zh_cX12_whyNoPlace_1 1 rfl
theorem dX12_whyNoPlace_22 : decode cX12_whyNoPlace 22 = .ok (.aload_n 0, 1) := zo_42 zh_cX12_whyNoPlace_1 2 rfl
theorem dX12_whyNoPlace_23 : decode cX12_whyNoPlace 23 = .ok (.getfield 130, 3) := zo_180 zh_cX12_whyNoPlace_1 3 rfl
theorem dX12_whyNoPlace_26 : decode cX12_whyNoPlace 26 = .ok (.iload_n 1, 1) := zo_27 zh_cX12_whyNoPlace_1 6 rfl
theorem dX12_whyNoPlace_27 : decode cX12_whyNoPlace 27 = .ok (.iaload, 1) := zo_46 zh_cX12_whyNoPlace_1 7 rfl
theorem dX12_whyNoPlace_28 : decode cX12_whyNoPlace 28 = .ok (.ifCond .lt 6, 3) := zo_p155 zh_cX12_whyNoPlace_1 8 6 rfl rfl
theorem dX12_whyNoPlace_31 : decode cX12_whyNoPlace 31 = .ok (.bipush (-12), 2) := zo_n16 zh_cX12_whyNoPlace_1 11 11 rfl rfl
theorem dX12_whyNoPlace_33 : decode cX12_whyNoPlace 33 = .ok (.ireturn, 1) := zo_172 zh_cX12_whyNoPlace_1 13 rfl
theorem dX12_whyNoPlace_34 : decode cX12_whyNoPlace 34 = .ok (.iload_n 2, 1) := zo_28 zh_cX12_whyNoPlace_1 14 rfl
theorem dX12_whyNoPlace_35 : decode cX12_whyNoPlace 35 = .ok (.iconst 0, 1) := zo_3 zh_cX12_whyNoPlace_1 15 rfl
theorem dX12_whyNoPlace_36 : decode cX12_whyNoPlace 36 = .ok (.aload_n 0, 1) := zo_42 zh_cX12_whyNoPlace_1 16 rfl
theorem dX12_whyNoPlace_37 : decode cX12_whyNoPlace 37 = .ok (.getfield 133, 3) := zo_180 zh_cX12_whyNoPlace_1 17 rfl
theorem zh_cX12_whyNoPlace_2 : zck [27, 46, 4, 100, 184, 0, 147, 153, 0, 7, 3, 167, 0, 5, 16, 243, 172] (zdu 40 cX12_whyNoPlace.data.toList) = true := by decide +kernel
theorem dX12_whyNoPlace_40 : decode cX12_whyNoPlace 40 = .ok (.iload_n 1, 1) := zo_27 zh_cX12_whyNoPlace_2 0 rfl
theorem dX12_whyNoPlace_41 : decode cX12_whyNoPlace 41 = .ok (.iaload, 1) := zo_46 zh_cX12_whyNoPlace_2 1 rfl
theorem dX12_whyNoPlace_42 : decode cX12_whyNoPlace 42 = .ok (.iconst 1, 1) := zo_4 zh_cX12_whyNoPlace_2 2 rfl
theorem dX12_whyNoPlace_43 : decode cX12_whyNoPlace 43 = .ok (.isub, 1) := zo_100 zh_cX12_whyNoPlace_2 3 rfl
theorem dX12_whyNoPlace_44 : decode cX12_whyNoPlace 44 = .ok (.invokestatic 147, 3) := zo_184 zh_cX12_whyNoPlace_2 4 rfl
theorem dX12_whyNoPlace_47 : decode cX12_whyNoPlace 47 = .ok (.ifCond .eq 7, 3) := zo_p153 zh_cX12_whyNoPlace_2 7 7 rfl rfl
theorem dX12_whyNoPlace_50 : decode cX12_whyNoPlace 50 = .ok (.iconst 0, 1) := zo_3 zh_cX12_whyNoPlace_2 10 rfl
theorem dX12_whyNoPlace_51 : decode cX12_whyNoPlace 51 = .ok (.goto 5, 3) := zo_p167 zh_cX12_whyNoPlace_2 11 5 rfl rfl
theorem dX12_whyNoPlace_54 : decode cX12_whyNoPlace 54 = .ok (.bipush (-13), 2) := zo_n16 zh_cX12_whyNoPlace_2 14 12 rfl rfl
theorem dX12_whyNoPlace_56 : decode cX12_whyNoPlace 56 = .ok (.ireturn, 1) := zo_172 zh_cX12_whyNoPlace_2 16 rfl
abbrev z_X12_whyNoPlace : List Cond := .code yX12_whyNoPlace cX12_whyNoPlace 3 (some .int) :: zW
abbrev wl_X12_whyNoPlace (ad : Nat → Nat) (cs : Nat → ClassId)  (mod_code : Int32) (mod_shoes : Int32) (mod_claims : Int32) (mod_taped : Int32) (mod_here : Int32) (mod_fault : Int32) (mod_suits : Int32) (mod_doneMany : Int32) (mod_undoneMany : Int32) (mod_open : Int32) (mod_laid : Int32) (mod_isBoth : Int32) (mod_wished : Int32) (mod_bestMany : Int32) (mod_bestRow : Int32) (mod_ringDigits : Int32) (mod_traces : Int32) (mod_holds : Nat → Int32) (mod_size : Nat → Int32) : va_W := [((ad 41), .inr (12, [.int mod_code, .int mod_shoes, .ref (ad 42), .ref (ad 43), .ref (ad 44), .ref (ad 45), .int mod_claims, .ref (ad 46), .ref (ad 47), .ref (ad 48), .ref (ad 49), .ref (ad 50), .int mod_taped, .int mod_here, .int mod_fault, .int mod_suits, .ref (ad 51), .ref (ad 52), .ref (ad 53), .ref (ad 54), .ref (ad 55), .ref (ad 56), .ref (ad 57), .ref (ad 58), .ref (ad 59), .ref (ad 60), .ref (ad 61), .int mod_doneMany, .int mod_undoneMany, .ref (ad 62), .ref (ad 63), .ref (ad 64), .ref (ad 65), .int mod_open, .int mod_laid, .ref (ad 66), .ref (ad 67), .ref (ad 68), .ref (ad 69), .ref (ad 70), .ref (ad 71), .ref (ad 72), .ref (ad 73), .ref (ad 74), .ref (ad 75), .int mod_isBoth, .int mod_wished, .ref (ad 76), .ref (ad 77), .int mod_bestMany, .int mod_bestRow, .ref (ad 78), .ref (ad 79), .int mod_ringDigits, .int mod_traces, .ref (ad 80), .ref (ad 81), .ref (ad 82), .ref (ad 83), .ref (ad 84)])), ((ad 81), .inl (cs 0, 6, .inl mod_holds)), ((ad 82), .inl (cs 0, 6, .inl mod_size))]
def Q_X12_whyNoPlace (D : va_G) (cs : Nat → ClassId) (ad : Nat → Nat)  (mod_code : Int32) (mod_shoes : Int32) (mod_claims : Int32) (mod_taped : Int32) (mod_here : Int32) (mod_fault : Int32) (mod_suits : Int32) (mod_doneMany : Int32) (mod_undoneMany : Int32) (mod_open : Int32) (mod_laid : Int32) (mod_isBoth : Int32) (mod_wished : Int32) (mod_bestMany : Int32) (mod_bestRow : Int32) (mod_ringDigits : Int32) (mod_traces : Int32) (mod_holds : Nat → Int32) (mod_size : Nat → Int32) (A : Nat → Prop) (R : Int32 × Unit) : Array Value → State → Outcome → State → Prop :=
  va_Qi (fun (r : Int32) (u : Unit) => (r, u) = R) (fun (u : Unit) (t : State) => va_P D classes (wl_X12_whyNoPlace ad cs mod_code mod_shoes mod_claims mod_taped mod_here mod_fault mod_suits mod_doneMany mod_undoneMany mod_open mod_laid mod_isBoth mod_wished mod_bestMany mod_bestRow mod_ringDigits mod_traces mod_holds mod_size) t.heap ∧ va_D A (wl_X12_whyNoPlace ad cs mod_code mod_shoes mod_claims mod_taped mod_here mod_fault mod_suits mod_doneMany mod_undoneMany mod_open mod_laid mod_isBoth mod_wished mod_bestMany mod_bestRow mod_ringDigits mod_traces mod_holds mod_size)) A
abbrev rm_X12_whyNoPlace : Room := { frames := 2, cells := 0, slots := 0, locals := 42 }
def B_X12_whyNoPlace_0    (mod_code : Int32) (mod_shoes : Int32) (mod_claims : Int32) (mod_taped : Int32) (mod_here : Int32) (mod_fault : Int32) (mod_suits : Int32) (mod_doneMany : Int32) (mod_undoneMany : Int32) (mod_open : Int32) (mod_laid : Int32) (mod_isBoth : Int32) (mod_wished : Int32) (mod_bestMany : Int32) (mod_bestRow : Int32) (mod_ringDigits : Int32) (mod_traces : Int32) (mod_holds : Nat → Int32) (mod_size : Nat → Int32) (x1 : Int32) (x2 : Int32) : Option (Int32 × Unit) :=
  (zk_b2 (f_X12_isShelf x1) (fun r_1 u_2 => (if r_1 = 0 then (some ((-1 : Int32), ())) else (if (x1 < 0 ∨ 6 ≤ x1.toNatClampNeg) then none else (if (mod_holds x1.toNatClampNeg) = (-1 : Int32) then (some ((-11 : Int32), ())) else (if (x1 < 0 ∨ 6 ≤ x1.toNatClampNeg) then none else (if (mod_holds x1.toNatClampNeg) < 0 then (if (x1 < 0 ∨ 6 ≤ x1.toNatClampNeg) then none else (zk_b2 (f_X12_in x2 (0 : Int32) ((mod_size x1.toNatClampNeg) - (1 : Int32))) (fun r_10 u_11 => (if r_10 = 0 then (some ((-13 : Int32), ())) else (some ((0 : Int32), ())))))) else (some ((-12 : Int32), ())))))))))
def f_X12_whyNoPlace   (x1 : Int32) (x2 : Int32) (mod_code : Int32) (mod_shoes : Int32) (mod_claims : Int32) (mod_taped : Int32) (mod_here : Int32) (mod_fault : Int32) (mod_suits : Int32) (mod_doneMany : Int32) (mod_undoneMany : Int32) (mod_open : Int32) (mod_laid : Int32) (mod_isBoth : Int32) (mod_wished : Int32) (mod_bestMany : Int32) (mod_bestRow : Int32) (mod_ringDigits : Int32) (mod_traces : Int32) (mod_holds : Nat → Int32) (mod_size : Nat → Int32) : Option (Int32 × Unit) := B_X12_whyNoPlace_0   mod_code mod_shoes mod_claims mod_taped mod_here mod_fault mod_suits mod_doneMany mod_undoneMany mod_open mod_laid mod_isBoth mod_wished mod_bestMany mod_bestRow mod_ringDigits mod_traces mod_holds mod_size x1 x2 
set_option maxHeartbeats 4000000 in
set_option maxRecDepth 100000 in
theorem L_X12_whyNoPlace_0 {p : Program} {l : Launch} {e : Env} {s : State} {m : MethodId} {args : Array Value} {below : List Frame} {meth : Method} {c : Code} {A : Nat → Prop} {D : va_G} {cs : Nat → ClassId} {ad : Nat → Nat} {mod_code : Int32} {mod_shoes : Int32} {mod_claims : Int32} {mod_taped : Int32} {mod_here : Int32} {mod_fault : Int32} {mod_suits : Int32} {mod_doneMany : Int32} {mod_undoneMany : Int32} {mod_open : Int32} {mod_laid : Int32} {mod_isBoth : Int32} {mod_wished : Int32} {mod_bestMany : Int32} {mod_bestRow : Int32} {mod_ringDigits : Int32} {mod_traces : Int32} {mod_holds : Nat → Int32} {mod_size : Nat → Int32} {R : Int32 × Unit} (C0 : zC p s m args meth c cX12_whyNoPlace 3 (some .int) RX12 zW) (hK : va_K D classes (zT cs) s) (hA : ∀ q : Nat, s.heap.size ≤ q → A q) (x1 : Int32) (x2 : Int32) (h : B_X12_whyNoPlace_0 mod_code mod_shoes mod_claims mod_taped mod_here mod_fault mod_suits mod_doneMany mod_undoneMany mod_open mod_laid mod_isBoth mod_wished mod_bestMany mod_bestRow mod_ringDigits mod_traces mod_holds mod_size x1 x2 = some R) (H : Heap) (locs : List Loc) (ls : Array Slot) (hP : va_P D classes (wl_X12_whyNoPlace ad cs mod_code mod_shoes mod_claims mod_taped mod_here mod_fault mod_suits mod_doneMany mod_undoneMany mod_open mod_laid mod_isBoth mod_wished mod_bestMany mod_bestRow mod_ringDigits mod_traces mod_holds mod_size) H) (hD : va_D A (wl_X12_whyNoPlace ad cs mod_code mod_shoes mod_claims mod_taped mod_here mod_fault mod_suits mod_doneMany mod_undoneMany mod_open mod_laid mod_isBoth mod_wished mod_bestMany mod_bestRow mod_ringDigits mod_traces mod_holds mod_size)) (hS : va_S A s.heap H locs) (hl : lv_has ls 3 [(0, .ref (ad 41)), (1, .int x1), (2, .int x2)]) : W p l e rm_X12_whyNoPlace s m args below meth c H locs 0 0 (MQ below (Q_X12_whyNoPlace D cs ad mod_code mod_shoes mod_claims mod_taped mod_here mod_fault mod_suits mod_doneMany mod_undoneMany mod_open mod_laid mod_isBoth mod_wished mod_bestMany mod_bestRow mod_ringDigits mod_traces mod_holds mod_size A R) args s 0 0 A) (F0 m 0 ls []) := by
  obtain ⟨hx, hb, hr, hml, hown, ht, hlocks⟩ := id C0
  refine lv_iload_n hx hb dX12_whyNoPlace_0 rfl (lv_at hl 1 rfl) ?_
  obtain ⟨r_1, u_2, hc_3, h⟩ := zk_o2 h
  refine zz_si (post := (fun r u => (r, u) = (r_1, u_2))) (w1 := fun u => (wl_X12_isShelf ad cs )) (As := [.int x1]) (rest := []) (c_X12_isShelf l D cs ad  H.size x1 (r_1, u_2) hc_3) ⟨hx, hb, hml, hown, ht⟩ (va_cwS 1 ht g_X12_167 rfl rfl rfl hd_X12_isShelf ⟨Nat.le_of_ble_eq_true rfl, Nat.le_of_ble_eq_true rfl⟩) hP hD hS hK hA [] rfl rfl [] rfl (fun _ => rfl) rfl hl.1 (Nat.le_of_ble_eq_true rfl) dX12_whyNoPlace_1 ⟨Nat.zero_le _, Nat.zero_le _⟩ (fun r u H locs hq hP hS => ?_)
  cases hq
  have hP : va_P D classes (wl_X12_whyNoPlace ad cs mod_code mod_shoes mod_claims mod_taped mod_here mod_fault mod_suits mod_doneMany mod_undoneMany mod_open mod_laid mod_isBoth mod_wished mod_bestMany mod_bestRow mod_ringDigits mod_traces mod_holds mod_size) H := hP
  refine lv_if_ne (tgt := 9) hx hb dX12_whyNoPlace_4 (by decide) (fun c_4 => ?_) (fun c_4 => ?_)
  · have h := zk_f c_4 h
    refine lv_aload_n hx hb dX12_whyNoPlace_9 rfl (lv_at hl 0 rfl) ?_
    refine va_get (D := D) (ci := 12) (v := .ref (ad 81)) (C := RX12) (T := TX12) (N := 60) hx hb ht iX12 hown hK hP 0 rfl rfl 56 (by decide) (ht _ kw_1351) (fun _ h9 => h9) rfl dX12_whyNoPlace_10 ?_
    refine lv_iload_n hx hb dX12_whyNoPlace_13 rfl (lv_at hl 1 rfl) ?_
    obtain ⟨g_5, h⟩ := zk_gd h
    refine va_iald hx hb hK hP 1 0 rfl rfl g_5 dX12_whyNoPlace_14 ?_
    refine lv_iconst (v := (-1 : Int32)) hx hb dX12_whyNoPlace_15 (by decide) ?_
    refine lv_icmp_ne (tgt := 22) hx hb dX12_whyNoPlace_16 (by decide) (fun c_6 => ?_) (fun c_6 => ?_)
    · have h := zk_f c_6 h
      refine lv_aload_n hx hb dX12_whyNoPlace_22 rfl (lv_at hl 0 rfl) ?_
      refine va_get (D := D) (ci := 12) (v := .ref (ad 81)) (C := RX12) (T := TX12) (N := 60) hx hb ht iX12 hown hK hP 0 rfl rfl 56 (by decide) (ht _ kw_1351) (fun _ h9 => h9) rfl dX12_whyNoPlace_23 ?_
      refine lv_iload_n hx hb dX12_whyNoPlace_26 rfl (lv_at hl 1 rfl) ?_
      obtain ⟨g_7, h⟩ := zk_gd h
      refine va_iald hx hb hK hP 1 0 rfl rfl g_7 dX12_whyNoPlace_27 ?_
      refine lv_if_lt (tgt := 34) hx hb dX12_whyNoPlace_28 (by decide) (fun c_8 => ?_) (fun c_8 => ?_)
      · have h := zk_t c_8 h
        refine lv_iload_n hx hb dX12_whyNoPlace_34 rfl (lv_at hl 2 rfl) ?_
        refine lv_iconst (v := (0 : Int32)) hx hb dX12_whyNoPlace_35 (by decide) ?_
        refine lv_aload_n hx hb dX12_whyNoPlace_36 rfl (lv_at hl 0 rfl) ?_
        refine va_get (D := D) (ci := 12) (v := .ref (ad 82)) (C := RX12) (T := TX12) (N := 60) hx hb ht iX12 hown hK hP 0 rfl rfl 57 (by decide) (ht _ kw_1352) (fun _ h9 => h9) rfl dX12_whyNoPlace_37 ?_
        refine lv_iload_n hx hb dX12_whyNoPlace_40 rfl (lv_at hl 1 rfl) ?_
        obtain ⟨g_9, h⟩ := zk_gd h
        refine va_iald hx hb hK hP 2 0 rfl rfl g_9 dX12_whyNoPlace_41 ?_
        refine lv_iconst (v := (1 : Int32)) hx hb dX12_whyNoPlace_42 (by decide) ?_
        refine lv_isub hx hb dX12_whyNoPlace_43 ?_
        obtain ⟨r_10, u_11, hc_12, h⟩ := zk_o2 h
        refine zz_si (post := (fun r u => (r, u) = (r_10, u_11))) (w1 := fun u => (wl_X12_in ad cs )) (As := [.int x2, .int (0 : Int32), .int ((mod_size x1.toNatClampNeg) - (1 : Int32))]) (rest := []) (c_X12_in l D cs ad  H.size x2 (0 : Int32) ((mod_size x1.toNatClampNeg) - (1 : Int32)) (r_10, u_11) hc_12) ⟨hx, hb, hml, hown, ht⟩ (va_cwS 3 ht g_X12_147 rfl rfl rfl hd_X12_in ⟨Nat.le_of_ble_eq_true rfl, Nat.le_of_ble_eq_true rfl⟩) hP hD hS hK hA [] rfl rfl [] rfl (fun _ => rfl) rfl hl.1 (Nat.le_of_ble_eq_true rfl) dX12_whyNoPlace_44 ⟨Nat.zero_le _, Nat.zero_le _⟩ (fun r u H locs hq hP hS => ?_)
        cases hq
        have hP : va_P D classes (wl_X12_whyNoPlace ad cs mod_code mod_shoes mod_claims mod_taped mod_here mod_fault mod_suits mod_doneMany mod_undoneMany mod_open mod_laid mod_isBoth mod_wished mod_bestMany mod_bestRow mod_ringDigits mod_traces mod_holds mod_size) H := hP
        refine lv_if_eq (tgt := 54) hx hb dX12_whyNoPlace_47 (by decide) (fun c_13 => ?_) (fun c_13 => ?_)
        · have h := zk_t c_13 h
          refine lv_bipush (v := (-13 : Int32)) hx hb dX12_whyNoPlace_54 (by decide) ?_
          exact W.iret (v := (-13 : Int32)) hx hb hr (fun t ht2 hW => ⟨⟨(-13 : Int32), (), rfl, Option.some.inj h, by rw [ht2]; exact hP, hD⟩, hS.F ht2⟩) hS.2.2 dX12_whyNoPlace_56 hlocks
        · have h := zk_f c_13 h
          refine lv_iconst (v := (0 : Int32)) hx hb dX12_whyNoPlace_50 (by decide) ?_
          refine lv_goto (tgt := 56) hx hb dX12_whyNoPlace_51 (by decide) ?_
          exact W.iret (v := (0 : Int32)) hx hb hr (fun t ht2 hW => ⟨⟨(0 : Int32), (), rfl, Option.some.inj h, by rw [ht2]; exact hP, hD⟩, hS.F ht2⟩) hS.2.2 dX12_whyNoPlace_56 hlocks
      · have h := zk_f c_8 h
        refine lv_bipush (v := (-12 : Int32)) hx hb dX12_whyNoPlace_31 (by decide) ?_
        exact W.iret (v := (-12 : Int32)) hx hb hr (fun t ht2 hW => ⟨⟨(-12 : Int32), (), rfl, Option.some.inj h, by rw [ht2]; exact hP, hD⟩, hS.F ht2⟩) hS.2.2 dX12_whyNoPlace_33 hlocks
    · have h := zk_t c_6 h
      refine lv_bipush (v := (-11 : Int32)) hx hb dX12_whyNoPlace_19 (by decide) ?_
      exact W.iret (v := (-11 : Int32)) hx hb hr (fun t ht2 hW => ⟨⟨(-11 : Int32), (), rfl, Option.some.inj h, by rw [ht2]; exact hP, hD⟩, hS.F ht2⟩) hS.2.2 dX12_whyNoPlace_21 hlocks
  · have h := zk_t c_4 h
    refine lv_iconst (v := (-1 : Int32)) hx hb dX12_whyNoPlace_7 (by decide) ?_
    exact W.iret (v := (-1 : Int32)) hx hb hr (fun t ht2 hW => ⟨⟨(-1 : Int32), (), rfl, Option.some.inj h, by rw [ht2]; exact hP, hD⟩, hS.F ht2⟩) hS.2.2 dX12_whyNoPlace_8 hlocks
set_option maxHeartbeats 4000000 in
set_option maxRecDepth 100000 in
theorem c_X12_whyNoPlace (l : Launch) (D : va_G) (cs : Nat → ClassId) (ad : Nat → Nat) (sz : Nat) (x1 : Int32) (x2 : Int32) (mod_code : Int32) (mod_shoes : Int32) (mod_claims : Int32) (mod_taped : Int32) (mod_here : Int32) (mod_fault : Int32) (mod_suits : Int32) (mod_doneMany : Int32) (mod_undoneMany : Int32) (mod_open : Int32) (mod_laid : Int32) (mod_isBoth : Int32) (mod_wished : Int32) (mod_bestMany : Int32) (mod_bestRow : Int32) (mod_ringDigits : Int32) (mod_traces : Int32) (mod_holds : Nat → Int32) (mod_size : Nat → Int32) (R : Int32 × Unit) (h : f_X12_whyNoPlace   x1 x2 mod_code mod_shoes mod_claims mod_taped mod_here mod_fault mod_suits mod_doneMany mod_undoneMany mod_open mod_laid mod_isBoth mod_wished mod_bestMany mod_bestRow mod_ringDigits mod_traces mod_holds mod_size = some R) : Met l yX12_whyNoPlace (z_X12_whyNoPlace) rm_X12_whyNoPlace (va_Pc [.ref (ad 41), .int x1, .int x2] (zPre D cs (wl_X12_whyNoPlace ad cs mod_code mod_shoes mod_claims mod_taped mod_here mod_fault mod_suits mod_doneMany mod_undoneMany mod_open mod_laid mod_isBoth mod_wished mod_bestMany mod_bestRow mod_ringDigits mod_traces mod_holds mod_size) sz)) (Q_X12_whyNoPlace D cs ad mod_code mod_shoes mod_claims mod_taped mod_here mod_fault mod_suits mod_doneMany mod_undoneMany mod_open mod_laid mod_isBoth mod_wished mod_bestMany mod_bestRow mod_ringDigits mod_traces mod_holds mod_size (va_A (wl_X12_whyNoPlace ad cs mod_code mod_shoes mod_claims mod_taped mod_here mod_fault mod_suits mod_doneMany mod_undoneMany mod_open mod_laid mod_isBoth mod_wished mod_bestMany mod_bestRow mod_ringDigits mod_traces mod_holds mod_size) sz) R) 0 0 (va_A (wl_X12_whyNoPlace ad cs mod_code mod_shoes mod_claims mod_taped mod_here mod_fault mod_suits mod_doneMany mod_undoneMany mod_open mod_laid mod_isBoth mod_wished mod_bestMany mod_bestRow mod_ringDigits mod_traces mod_holds mod_size) sz) := by
  refine Met.ofW (cc := cX12_whyNoPlace) (maxL := 3) (ret := (some .int)) (by decide) rfl ?_
  intro p e s m args below meth c s₁ B hml hv
  obtain ⟨rfl, hsz, hP, hK, hD0⟩ := hv
  subst hsz
  have hD := hD0.self (sz := s.heap.size)
  have C0 : zC p s m _ meth c cX12_whyNoPlace 3 (some .int) RX12 zW := ⟨B.exec, B.bytes, B.returns, hml, findClass_of_methodNamed B.named, fun w hw => atoms_spec (ws := z_X12_whyNoPlace) B.pre w (List.mem_cons_of_mem _ hw), B.notSynchronized⟩
  have hA : ∀ q : Nat, s.heap.size ≤ q → va_A (wl_X12_whyNoPlace ad cs mod_code mod_shoes mod_claims mod_taped mod_here mod_fault mod_suits mod_doneMany mod_undoneMany mod_open mod_laid mod_isBoth mod_wished mod_bestMany mod_bestRow mod_ringDigits mod_traces mod_holds mod_size) s.heap.size q := fun q h => Or.inr h
  have hl := lv_entry ([.ref (ad 41), .int x1, .int x2]) (n := 3) (Nat.le_of_ble_eq_true rfl)
  rw [lg_entry_eq]
  generalize (lg_sl ([.ref (ad 41), .int x1, .int x2]) ++ List.replicate (3 - (lg_sl ([.ref (ad 41), .int x1, .int x2])).length) Slot.unset).toArray = ls at hl ⊢
  exact L_X12_whyNoPlace_0 C0 hK hA   x1 x2  h s.heap [] ls hP hD va_S.rf hl
theorem kw_73 : Cond.selects RX12 yX12_whyNoPlace yX12_whyNoPlace ∈ zW := zwI (i := 73) (by decide +kernel) (by decide +kernel)
theorem kw_1885 : Cond.methodLink RX12 428 yX12_whyNoPlace ∈ zW := zwC (i := 131) zc_8 rfl rfl
theorem kw_1887 : Cond.instanceMethod yX12_whyNoPlace ∈ zW := zwC (i := 133) zc_8 rfl rfl
theorem kw_1888 : Cond.code yX12_whyNoPlace cX12_whyNoPlace 3 (some .int) ∈ zW := zwC (i := 134) zc_8 rfl rfl
theorem zh_cX12_put_0 : zck [42, 27, 28, 182, 1, 172, 54, 5, 21, 5, 156, 0, 6, 21, 5, 172, 16, 254, 42, 180, 0, 130] (zdu 0 cX12_put.data.toList) = true := by decide +kernel
theorem dX12_put_0 : decode cX12_put 0 = .ok (.aload_n 0, 1) := zo_42 zh_cX12_put_0 0 rfl
theorem dX12_put_1 : decode cX12_put 1 = .ok (.iload_n 1, 1) := zo_27 zh_cX12_put_0 1 rfl
theorem dX12_put_2 : decode cX12_put 2 = .ok (.iload_n 2, 1) := zo_28 zh_cX12_put_0 2 rfl
theorem dX12_put_3 : decode cX12_put 3 = .ok (.invokevirtual 428, 3) := zo_182 zh_cX12_put_0 3 rfl
theorem dX12_put_6 : decode cX12_put 6 = .ok (.istore 5, 2) := zo_54 zh_cX12_put_0 6 rfl
theorem dX12_put_8 : decode cX12_put 8 = .ok (.iload 5, 2) := zo_21 zh_cX12_put_0 8 rfl
theorem dX12_put_10 : decode cX12_put 10 = .ok (.ifCond .ge 6, 3) := zo_p156 zh_cX12_put_0 10 6 rfl rfl
theorem dX12_put_13 : decode cX12_put 13 = .ok (.iload 5, 2) := zo_21 zh_cX12_put_0 13 rfl
theorem dX12_put_15 : decode cX12_put 15 = .ok (.ireturn, 1) := zo_172 zh_cX12_put_0 15 rfl
theorem dX12_put_16 : decode cX12_put 16 = .ok (.bipush (-2), 2) := zo_n16 zh_cX12_put_0 16 1 rfl rfl
theorem dX12_put_18 : decode cX12_put 18 = .ok (.aload_n 0, 1) := zo_42 zh_cX12_put_0 18 rfl
theorem dX12_put_19 : decode cX12_put 19 = .ok (.getfield 130, 3) := zo_180 zh_cX12_put_0 19 rfl
theorem zh_cX12_put_1 : zck [0, 130, 27, 46, 100, 54, 6, 42, 180, 0, 136, 16, 60, 27, 104, 28, 96, 21, 6, 154, 0, 10] (zdu 20 cX12_put.data.toList) = true := by decide +kernel
theorem dX12_put_22 : decode cX12_put 22 = .ok (.iload_n 1, 1) := zo_27 zh_cX12_put_1 2 rfl
theorem dX12_put_23 : decode cX12_put 23 = .ok (.iaload, 1) := zo_46 zh_cX12_put_1 3 rfl
theorem dX12_put_24 : decode cX12_put 24 = .ok (.isub, 1) := zo_100 zh_cX12_put_1 4 rfl
theorem dX12_put_25 : decode cX12_put 25 = .ok (.istore 6, 2) := zo_54 zh_cX12_put_1 5 rfl
theorem dX12_put_27 : decode cX12_put 27 = .ok (.aload_n 0, 1) := zo_42 zh_cX12_put_1 7 rfl
theorem dX12_put_28 : decode cX12_put 28 = .ok (.getfield 136, 3) := zo_180 zh_cX12_put_1 8 rfl
theorem dX12_put_31 : decode cX12_put 31 = .ok (.bipush 60, 2) := zo_p16 zh_cX12_put_1 11 60 rfl rfl
theorem dX12_put_33 : decode cX12_put 33 = .ok (.iload_n 1, 1) := zo_27 zh_cX12_put_1 13 rfl
theorem dX12_put_34 : decode cX12_put 34 = .ok (.imul, 1) := zo_104 zh_cX12_put_1 14 rfl
theorem dX12_put_35 : decode cX12_put 35 = .ok (.iload_n 2, 1) := zo_28 zh_cX12_put_1 15 rfl
theorem dX12_put_36 : decode cX12_put 36 = .ok (.iadd, 1) := zo_96 zh_cX12_put_1 16 rfl
theorem dX12_put_37 : decode cX12_put 37 = .ok (.iload 6, 2) := zo_21 zh_cX12_put_1 17 rfl
theorem dX12_put_39 : decode cX12_put 39 = .ok (.ifCond .ne 10, 3) := zo_p154 zh_cX12_put_1 19 10 rfl rfl
theorem zh_cX12_put_2 : zck [0, 10, 33, 136, 145, 133, 167, 0, 49, 21, 6, 4, 160, 0, 10, 33, 136, 147, 133, 167, 0, 36] (zdu 40 cX12_put.data.toList) = true := by decide +kernel
theorem dX12_put_42 : decode cX12_put 42 = .ok (.lload_n 3, 1) := zo_33 zh_cX12_put_2 2 rfl
theorem dX12_put_43 : decode cX12_put 43 = .ok (.l2i, 1) := zo_136 zh_cX12_put_2 3 rfl
theorem dX12_put_44 : decode cX12_put 44 = .ok (.i2b, 1) := zo_145 zh_cX12_put_2 4 rfl
theorem dX12_put_45 : decode cX12_put 45 = .ok (.i2l, 1) := zo_133 zh_cX12_put_2 5 rfl
theorem dX12_put_46 : decode cX12_put 46 = .ok (.goto 49, 3) := zo_p167 zh_cX12_put_2 6 49 rfl rfl
theorem dX12_put_49 : decode cX12_put 49 = .ok (.iload 6, 2) := zo_21 zh_cX12_put_2 9 rfl
theorem dX12_put_51 : decode cX12_put 51 = .ok (.iconst 1, 1) := zo_4 zh_cX12_put_2 11 rfl
theorem dX12_put_52 : decode cX12_put 52 = .ok (.if_icmp .ne 10, 3) := zo_p160 zh_cX12_put_2 12 10 rfl rfl
theorem dX12_put_55 : decode cX12_put 55 = .ok (.lload_n 3, 1) := zo_33 zh_cX12_put_2 15 rfl
theorem dX12_put_56 : decode cX12_put 56 = .ok (.l2i, 1) := zo_136 zh_cX12_put_2 16 rfl
theorem dX12_put_57 : decode cX12_put 57 = .ok (.i2s, 1) := zo_147 zh_cX12_put_2 17 rfl
theorem dX12_put_58 : decode cX12_put 58 = .ok (.i2l, 1) := zo_133 zh_cX12_put_2 18 rfl
theorem dX12_put_59 : decode cX12_put 59 = .ok (.goto 36, 3) := zo_p167 zh_cX12_put_2 19 36 rfl rfl
theorem zh_cX12_put_3 : zck [0, 36, 21, 6, 5, 160, 0, 9, 33, 136, 133, 167, 0, 24, 21, 6, 6, 160, 0, 7, 33, 167] (zdu 60 cX12_put.data.toList) = true := by decide +kernel
theorem dX12_put_62 : decode cX12_put 62 = .ok (.iload 6, 2) := zo_21 zh_cX12_put_3 2 rfl
theorem dX12_put_64 : decode cX12_put 64 = .ok (.iconst 2, 1) := zo_5 zh_cX12_put_3 4 rfl
theorem dX12_put_65 : decode cX12_put 65 = .ok (.if_icmp .ne 9, 3) := zo_p160 zh_cX12_put_3 5 9 rfl rfl
theorem dX12_put_68 : decode cX12_put 68 = .ok (.lload_n 3, 1) := zo_33 zh_cX12_put_3 8 rfl
theorem dX12_put_69 : decode cX12_put 69 = .ok (.l2i, 1) := zo_136 zh_cX12_put_3 9 rfl
theorem dX12_put_70 : decode cX12_put 70 = .ok (.i2l, 1) := zo_133 zh_cX12_put_3 10 rfl
theorem dX12_put_71 : decode cX12_put 71 = .ok (.goto 24, 3) := zo_p167 zh_cX12_put_3 11 24 rfl rfl
theorem dX12_put_74 : decode cX12_put 74 = .ok (.iload 6, 2) := zo_21 zh_cX12_put_3 14 rfl
theorem dX12_put_76 : decode cX12_put 76 = .ok (.iconst 3, 1) := zo_6 zh_cX12_put_3 16 rfl
theorem dX12_put_77 : decode cX12_put 77 = .ok (.if_icmp .ne 7, 3) := zo_p160 zh_cX12_put_3 17 7 rfl rfl
theorem zh_cX12_put_4 : zck [33, 167, 0, 14, 33, 9, 148, 153, 0, 7, 10, 167, 0, 4, 9, 80, 4, 172] (zdu 80 cX12_put.data.toList) = true := by decide +kernel
theorem dX12_put_80 : decode cX12_put 80 = .ok (.lload_n 3, 1) := zo_33 zh_cX12_put_4 0 rfl
theorem dX12_put_81 : decode cX12_put 81 = .ok (.goto 14, 3) := zo_p167 zh_cX12_put_4 1 14 rfl rfl
theorem dX12_put_84 : decode cX12_put 84 = .ok (.lload_n 3, 1) := zo_33 zh_cX12_put_4 4 rfl
theorem dX12_put_85 : decode cX12_put 85 = .ok (.lconst 0, 1) := zo_9 zh_cX12_put_4 5 rfl
theorem dX12_put_86 : decode cX12_put 86 = .ok (.lcmp, 1) := zo_148 zh_cX12_put_4 6 rfl
theorem dX12_put_87 : decode cX12_put 87 = .ok (.ifCond .eq 7, 3) := zo_p153 zh_cX12_put_4 7 7 rfl rfl
theorem dX12_put_90 : decode cX12_put 90 = .ok (.lconst 1, 1) := zo_10 zh_cX12_put_4 10 rfl
theorem dX12_put_91 : decode cX12_put 91 = .ok (.goto 4, 3) := zo_p167 zh_cX12_put_4 11 4 rfl rfl
theorem dX12_put_94 : decode cX12_put 94 = .ok (.lconst 0, 1) := zo_9 zh_cX12_put_4 14 rfl
theorem dX12_put_95 : decode cX12_put 95 = .ok (.lastore, 1) := zo_80 zh_cX12_put_4 15 rfl
theorem dX12_put_96 : decode cX12_put 96 = .ok (.iconst 1, 1) := zo_4 zh_cX12_put_4 16 rfl
theorem dX12_put_97 : decode cX12_put 97 = .ok (.ireturn, 1) := zo_172 zh_cX12_put_4 17 rfl
abbrev z_X12_put : List Cond := .code yX12_put cX12_put 7 (some .int) :: zW
abbrev wl_X12_put (ad : Nat → Nat) (cs : Nat → ClassId)  (mod_code : Int32) (mod_shoes : Int32) (mod_claims : Int32) (mod_taped : Int32) (mod_here : Int32) (mod_fault : Int32) (mod_suits : Int32) (mod_doneMany : Int32) (mod_undoneMany : Int32) (mod_open : Int32) (mod_laid : Int32) (mod_isBoth : Int32) (mod_wished : Int32) (mod_bestMany : Int32) (mod_bestRow : Int32) (mod_ringDigits : Int32) (mod_traces : Int32) (mod_holds : Nat → Int32) (mod_size : Nat → Int32) (mod_elements : Nat → Int64) : va_W := [((ad 41), .inr (12, [.int mod_code, .int mod_shoes, .ref (ad 42), .ref (ad 43), .ref (ad 44), .ref (ad 45), .int mod_claims, .ref (ad 46), .ref (ad 47), .ref (ad 48), .ref (ad 49), .ref (ad 50), .int mod_taped, .int mod_here, .int mod_fault, .int mod_suits, .ref (ad 51), .ref (ad 52), .ref (ad 53), .ref (ad 54), .ref (ad 55), .ref (ad 56), .ref (ad 57), .ref (ad 58), .ref (ad 59), .ref (ad 60), .ref (ad 61), .int mod_doneMany, .int mod_undoneMany, .ref (ad 62), .ref (ad 63), .ref (ad 64), .ref (ad 65), .int mod_open, .int mod_laid, .ref (ad 66), .ref (ad 67), .ref (ad 68), .ref (ad 69), .ref (ad 70), .ref (ad 71), .ref (ad 72), .ref (ad 73), .ref (ad 74), .ref (ad 75), .int mod_isBoth, .int mod_wished, .ref (ad 76), .ref (ad 77), .int mod_bestMany, .int mod_bestRow, .ref (ad 78), .ref (ad 79), .int mod_ringDigits, .int mod_traces, .ref (ad 80), .ref (ad 81), .ref (ad 82), .ref (ad 83), .ref (ad 84)])), ((ad 81), .inl (cs 0, 6, .inl mod_holds)), ((ad 82), .inl (cs 0, 6, .inl mod_size)), ((ad 83), .inl (cs 1, 360, .inr (.inl mod_elements)))]
def Q_X12_put (D : va_G) (cs : Nat → ClassId) (ad : Nat → Nat)  (mod_code : Int32) (mod_shoes : Int32) (mod_claims : Int32) (mod_taped : Int32) (mod_here : Int32) (mod_fault : Int32) (mod_suits : Int32) (mod_doneMany : Int32) (mod_undoneMany : Int32) (mod_open : Int32) (mod_laid : Int32) (mod_isBoth : Int32) (mod_wished : Int32) (mod_bestMany : Int32) (mod_bestRow : Int32) (mod_ringDigits : Int32) (mod_traces : Int32) (mod_holds : Nat → Int32) (mod_size : Nat → Int32) (A : Nat → Prop) (R : Int32 × (Nat → Int64)) : Array Value → State → Outcome → State → Prop :=
  va_Qi (fun (r : Int32) (u : (Nat → Int64)) => (r, u) = R) (fun (u : (Nat → Int64)) (t : State) => va_P D classes (wl_X12_put ad cs mod_code mod_shoes mod_claims mod_taped mod_here mod_fault mod_suits mod_doneMany mod_undoneMany mod_open mod_laid mod_isBoth mod_wished mod_bestMany mod_bestRow mod_ringDigits mod_traces mod_holds mod_size u) t.heap ∧ va_D A (wl_X12_put ad cs mod_code mod_shoes mod_claims mod_taped mod_here mod_fault mod_suits mod_doneMany mod_undoneMany mod_open mod_laid mod_isBoth mod_wished mod_bestMany mod_bestRow mod_ringDigits mod_traces mod_holds mod_size u)) A
abbrev rm_X12_put : Room := { frames := 3, cells := 0, slots := 0, locals := 64 }
theorem g_X12_428 : GoodIn zW (wsV RX12 428 RX12 yX12_whyNoPlace z_X12_whyNoPlace) := zGV kw_1885 kw_1887 kw_73 kw_95 kw_1888
theorem hd_X12_whyNoPlace : yX12_whyNoPlace.cls ≠ "java/lang/invoke/MethodHandle" ∧ yX12_whyNoPlace.cls ≠ "java/lang/invoke/VarHandle" ∧ (parseMethodDescriptor yX12_whyNoPlace.desc).map (fun d => d.parameters.length) = some 2 := by decide +kernel
def B_X12_put_95    (mod_code : Int32) (mod_shoes : Int32) (mod_claims : Int32) (mod_taped : Int32) (mod_here : Int32) (mod_fault : Int32) (mod_suits : Int32) (mod_doneMany : Int32) (mod_undoneMany : Int32) (mod_open : Int32) (mod_laid : Int32) (mod_isBoth : Int32) (mod_wished : Int32) (mod_bestMany : Int32) (mod_bestRow : Int32) (mod_ringDigits : Int32) (mod_traces : Int32) (mod_holds : Nat → Int32) (mod_size : Nat → Int32) (s0 : Int64) (s1 : Int32) (mod_elements : Nat → Int64) : Option (Int32 × (Nat → Int64)) :=
  (if (s1 < 0 ∨ 360 ≤ s1.toNatClampNeg) then none else (zk_let (vp_updL mod_elements s1.toNatClampNeg s0) (fun f_13 => (some ((1 : Int32), f_13)))))
def B_X12_put_0    (mod_code : Int32) (mod_shoes : Int32) (mod_claims : Int32) (mod_taped : Int32) (mod_here : Int32) (mod_fault : Int32) (mod_suits : Int32) (mod_doneMany : Int32) (mod_undoneMany : Int32) (mod_open : Int32) (mod_laid : Int32) (mod_isBoth : Int32) (mod_wished : Int32) (mod_bestMany : Int32) (mod_bestRow : Int32) (mod_ringDigits : Int32) (mod_traces : Int32) (mod_holds : Nat → Int32) (mod_size : Nat → Int32) (x1 : Int32) (x2 : Int32) (x3 : Int64) (mod_elements : Nat → Int64) : Option (Int32 × (Nat → Int64)) :=
  (zk_b2 (f_X12_whyNoPlace x1 x2 mod_code mod_shoes mod_claims mod_taped mod_here mod_fault mod_suits mod_doneMany mod_undoneMany mod_open mod_laid mod_isBoth mod_wished mod_bestMany mod_bestRow mod_ringDigits mod_traces mod_holds mod_size) (fun r_1 u_2 => (if 0 ≤ r_1 then (if (x1 < 0 ∨ 6 ≤ x1.toNatClampNeg) then none else (zk_let ((-2 : Int32) - (mod_holds x1.toNatClampNeg)) (fun v_6 => (if v_6 = 0 then (B_X12_put_95 mod_code mod_shoes mod_claims mod_taped mod_here mod_fault mod_suits mod_doneMany mod_undoneMany mod_open mod_laid mod_isBoth mod_wished mod_bestMany mod_bestRow mod_ringDigits mod_traces mod_holds mod_size x3.toInt32.toInt8.toInt32.toInt64 (((60 : Int32) * x1) + x2) mod_elements) else (if v_6 = (1 : Int32) then (B_X12_put_95 mod_code mod_shoes mod_claims mod_taped mod_here mod_fault mod_suits mod_doneMany mod_undoneMany mod_open mod_laid mod_isBoth mod_wished mod_bestMany mod_bestRow mod_ringDigits mod_traces mod_holds mod_size x3.toInt32.toInt16.toInt32.toInt64 (((60 : Int32) * x1) + x2) mod_elements) else (if v_6 = (2 : Int32) then (B_X12_put_95 mod_code mod_shoes mod_claims mod_taped mod_here mod_fault mod_suits mod_doneMany mod_undoneMany mod_open mod_laid mod_isBoth mod_wished mod_bestMany mod_bestRow mod_ringDigits mod_traces mod_holds mod_size x3.toInt32.toInt64 (((60 : Int32) * x1) + x2) mod_elements) else (if v_6 = (3 : Int32) then (B_X12_put_95 mod_code mod_shoes mod_claims mod_taped mod_here mod_fault mod_suits mod_doneMany mod_undoneMany mod_open mod_laid mod_isBoth mod_wished mod_bestMany mod_bestRow mod_ringDigits mod_traces mod_holds mod_size x3 (((60 : Int32) * x1) + x2) mod_elements) else (if (lg_cmp x3 (0 : Int64)) = 0 then (B_X12_put_95 mod_code mod_shoes mod_claims mod_taped mod_here mod_fault mod_suits mod_doneMany mod_undoneMany mod_open mod_laid mod_isBoth mod_wished mod_bestMany mod_bestRow mod_ringDigits mod_traces mod_holds mod_size (0 : Int64) (((60 : Int32) * x1) + x2) mod_elements) else (B_X12_put_95 mod_code mod_shoes mod_claims mod_taped mod_here mod_fault mod_suits mod_doneMany mod_undoneMany mod_open mod_laid mod_isBoth mod_wished mod_bestMany mod_bestRow mod_ringDigits mod_traces mod_holds mod_size (1 : Int64) (((60 : Int32) * x1) + x2) mod_elements))))))))) else (some (r_1, mod_elements)))))
def f_X12_put   (x1 : Int32) (x2 : Int32) (x3 : Int64) (mod_code : Int32) (mod_shoes : Int32) (mod_claims : Int32) (mod_taped : Int32) (mod_here : Int32) (mod_fault : Int32) (mod_suits : Int32) (mod_doneMany : Int32) (mod_undoneMany : Int32) (mod_open : Int32) (mod_laid : Int32) (mod_isBoth : Int32) (mod_wished : Int32) (mod_bestMany : Int32) (mod_bestRow : Int32) (mod_ringDigits : Int32) (mod_traces : Int32) (mod_holds : Nat → Int32) (mod_size : Nat → Int32) (mod_elements : Nat → Int64) : Option (Int32 × (Nat → Int64)) := B_X12_put_0   mod_code mod_shoes mod_claims mod_taped mod_here mod_fault mod_suits mod_doneMany mod_undoneMany mod_open mod_laid mod_isBoth mod_wished mod_bestMany mod_bestRow mod_ringDigits mod_traces mod_holds mod_size x1 x2 x3 mod_elements
set_option maxHeartbeats 4000000 in
set_option maxRecDepth 100000 in
theorem L_X12_put_95 {p : Program} {l : Launch} {e : Env} {s : State} {m : MethodId} {args : Array Value} {below : List Frame} {meth : Method} {c : Code} {A : Nat → Prop} {D : va_G} {cs : Nat → ClassId} {ad : Nat → Nat} {mod_code : Int32} {mod_shoes : Int32} {mod_claims : Int32} {mod_taped : Int32} {mod_here : Int32} {mod_fault : Int32} {mod_suits : Int32} {mod_doneMany : Int32} {mod_undoneMany : Int32} {mod_open : Int32} {mod_laid : Int32} {mod_isBoth : Int32} {mod_wished : Int32} {mod_bestMany : Int32} {mod_bestRow : Int32} {mod_ringDigits : Int32} {mod_traces : Int32} {mod_holds : Nat → Int32} {mod_size : Nat → Int32} {R : Int32 × (Nat → Int64)} (C0 : zC p s m args meth c cX12_put 7 (some .int) RX12 zW) (hK : va_K D classes (zT cs) s) (hA : ∀ q : Nat, s.heap.size ≤ q → A q) (s0 : Int64) (s1 : Int32) (mod_elements : Nat → Int64) (h : B_X12_put_95 mod_code mod_shoes mod_claims mod_taped mod_here mod_fault mod_suits mod_doneMany mod_undoneMany mod_open mod_laid mod_isBoth mod_wished mod_bestMany mod_bestRow mod_ringDigits mod_traces mod_holds mod_size s0 s1 mod_elements = some R) (H : Heap) (locs : List Loc) (ls : Array Slot) (hP : va_P D classes (wl_X12_put ad cs mod_code mod_shoes mod_claims mod_taped mod_here mod_fault mod_suits mod_doneMany mod_undoneMany mod_open mod_laid mod_isBoth mod_wished mod_bestMany mod_bestRow mod_ringDigits mod_traces mod_holds mod_size mod_elements) H) (hD : va_D A (wl_X12_put ad cs mod_code mod_shoes mod_claims mod_taped mod_here mod_fault mod_suits mod_doneMany mod_undoneMany mod_open mod_laid mod_isBoth mod_wished mod_bestMany mod_bestRow mod_ringDigits mod_traces mod_holds mod_size mod_elements)) (hS : va_S A s.heap H locs) (hl : lv_has ls 7 []) : W p l e rm_X12_put s m args below meth c H locs 0 0 (MQ below (Q_X12_put D cs ad mod_code mod_shoes mod_claims mod_taped mod_here mod_fault mod_suits mod_doneMany mod_undoneMany mod_open mod_laid mod_isBoth mod_wished mod_bestMany mod_bestRow mod_ringDigits mod_traces mod_holds mod_size A R) args s 0 0 A) (F0 m 95 ls [.long s0, .int s1, .ref (ad 83)]) := by
  obtain ⟨hx, hb, hr, hml, hown, ht, hlocks⟩ := id C0
  obtain ⟨g_12, h⟩ := zk_gd h
  obtain ⟨f_13, ef_13, h⟩ := zk_lt h
  refine va_last hx hb hK hP hD hS 3 1 rfl rfl g_12 dX12_put_95 (fun H locs hP hD hS => ?_)
  have hP : va_P D classes (wl_X12_put ad cs mod_code mod_shoes mod_claims mod_taped mod_here mod_fault mod_suits mod_doneMany mod_undoneMany mod_open mod_laid mod_isBoth mod_wished mod_bestMany mod_bestRow mod_ringDigits mod_traces mod_holds mod_size f_13) H := by rw [ef_13]; exact hP
  have hD : va_D A (wl_X12_put ad cs mod_code mod_shoes mod_claims mod_taped mod_here mod_fault mod_suits mod_doneMany mod_undoneMany mod_open mod_laid mod_isBoth mod_wished mod_bestMany mod_bestRow mod_ringDigits mod_traces mod_holds mod_size f_13) := by rw [ef_13]; exact hD
  refine lv_iconst (v := (1 : Int32)) hx hb dX12_put_96 (by decide) ?_
  exact W.iret (v := (1 : Int32)) hx hb hr (fun t ht2 hW => ⟨⟨(1 : Int32), f_13, rfl, Option.some.inj h, by rw [ht2]; exact hP, hD⟩, hS.F ht2⟩) hS.2.2 dX12_put_97 hlocks
set_option maxHeartbeats 4000000 in
set_option maxRecDepth 100000 in
theorem L_X12_put_0 {p : Program} {l : Launch} {e : Env} {s : State} {m : MethodId} {args : Array Value} {below : List Frame} {meth : Method} {c : Code} {A : Nat → Prop} {D : va_G} {cs : Nat → ClassId} {ad : Nat → Nat} {mod_code : Int32} {mod_shoes : Int32} {mod_claims : Int32} {mod_taped : Int32} {mod_here : Int32} {mod_fault : Int32} {mod_suits : Int32} {mod_doneMany : Int32} {mod_undoneMany : Int32} {mod_open : Int32} {mod_laid : Int32} {mod_isBoth : Int32} {mod_wished : Int32} {mod_bestMany : Int32} {mod_bestRow : Int32} {mod_ringDigits : Int32} {mod_traces : Int32} {mod_holds : Nat → Int32} {mod_size : Nat → Int32} {R : Int32 × (Nat → Int64)} (C0 : zC p s m args meth c cX12_put 7 (some .int) RX12 zW) (hK : va_K D classes (zT cs) s) (hA : ∀ q : Nat, s.heap.size ≤ q → A q) (x1 : Int32) (x2 : Int32) (x3 : Int64) (mod_elements : Nat → Int64) (h : B_X12_put_0 mod_code mod_shoes mod_claims mod_taped mod_here mod_fault mod_suits mod_doneMany mod_undoneMany mod_open mod_laid mod_isBoth mod_wished mod_bestMany mod_bestRow mod_ringDigits mod_traces mod_holds mod_size x1 x2 x3 mod_elements = some R) (H : Heap) (locs : List Loc) (ls : Array Slot) (hP : va_P D classes (wl_X12_put ad cs mod_code mod_shoes mod_claims mod_taped mod_here mod_fault mod_suits mod_doneMany mod_undoneMany mod_open mod_laid mod_isBoth mod_wished mod_bestMany mod_bestRow mod_ringDigits mod_traces mod_holds mod_size mod_elements) H) (hD : va_D A (wl_X12_put ad cs mod_code mod_shoes mod_claims mod_taped mod_here mod_fault mod_suits mod_doneMany mod_undoneMany mod_open mod_laid mod_isBoth mod_wished mod_bestMany mod_bestRow mod_ringDigits mod_traces mod_holds mod_size mod_elements)) (hS : va_S A s.heap H locs) (hl : lv_has ls 7 [(0, .ref (ad 41)), (1, .int x1), (2, .int x2), (3, .long x3)]) : W p l e rm_X12_put s m args below meth c H locs 0 0 (MQ below (Q_X12_put D cs ad mod_code mod_shoes mod_claims mod_taped mod_here mod_fault mod_suits mod_doneMany mod_undoneMany mod_open mod_laid mod_isBoth mod_wished mod_bestMany mod_bestRow mod_ringDigits mod_traces mod_holds mod_size A R) args s 0 0 A) (F0 m 0 ls []) := by
  obtain ⟨hx, hb, hr, hml, hown, ht, hlocks⟩ := id C0
  refine lv_aload_n hx hb dX12_put_0 rfl (lv_at hl 0 rfl) ?_
  refine lv_iload_n hx hb dX12_put_1 rfl (lv_at hl 1 rfl) ?_
  refine lv_iload_n hx hb dX12_put_2 rfl (lv_at hl 2 rfl) ?_
  obtain ⟨r_1, u_2, hc_3, h⟩ := zk_o2 h
  refine zz_vi (post := (fun r u => (r, u) = (r_1, u_2))) (w1 := fun u => (wl_X12_whyNoPlace ad cs mod_code mod_shoes mod_claims mod_taped mod_here mod_fault mod_suits mod_doneMany mod_undoneMany mod_open mod_laid mod_isBoth mod_wished mod_bestMany mod_bestRow mod_ringDigits mod_traces mod_holds mod_size)) (As := [.int x1, .int x2]) (rest := []) (c_X12_whyNoPlace l D cs ad  H.size x1 x2 mod_code mod_shoes mod_claims mod_taped mod_here mod_fault mod_suits mod_doneMany mod_undoneMany mod_open mod_laid mod_isBoth mod_wished mod_bestMany mod_bestRow mod_ringDigits mod_traces mod_holds mod_size (r_1, u_2) hc_3) ⟨hx, hb, hml, hown, ht⟩ (cwV 2 ht g_X12_428 rfl rfl rfl ⟨rfl, hd_X12_whyNoPlace⟩ ⟨Nat.le_of_ble_eq_true rfl, Nat.le_of_ble_eq_true rfl⟩) (va_recv hK hP (ci := 12) (q0 := 0) rfl rfl) hP hD hS hK hA [0, 1, 2] rfl rfl [(ad 41), (ad 81), (ad 82)] rfl (fun _ => rfl) rfl hl.1 (Nat.le_of_ble_eq_true rfl) dX12_put_3 ⟨Nat.zero_le _, Nat.zero_le _⟩ (fun r u H locs hq hP hS => ?_)
  cases hq
  have hP : va_P D classes (wl_X12_put ad cs mod_code mod_shoes mod_claims mod_taped mod_here mod_fault mod_suits mod_doneMany mod_undoneMany mod_open mod_laid mod_isBoth mod_wished mod_bestMany mod_bestRow mod_ringDigits mod_traces mod_holds mod_size mod_elements) H := hP
  have hD : va_D A (wl_X12_put ad cs mod_code mod_shoes mod_claims mod_taped mod_here mod_fault mod_suits mod_doneMany mod_undoneMany mod_open mod_laid mod_isBoth mod_wished mod_bestMany mod_bestRow mod_ringDigits mod_traces mod_holds mod_size mod_elements) := zDk hD [(ad 41), (ad 81), (ad 82), (ad 83)] rfl rfl
  refine lv_istore (lv' := [(5, .int r_1), (0, .ref (ad 41)), (1, .int x1), (2, .int x2), (3, .long x3)]) hx hb dX12_put_6 hl (by decide) rfl (fun ls hl => ?_)
  refine lv_iload hx hb dX12_put_8 (lv_at hl 0 rfl) ?_
  refine lv_if_ge (tgt := 16) hx hb dX12_put_10 (by decide) (fun c_4 => ?_) (fun c_4 => ?_)
  · have h := zk_t c_4 h
    refine lv_bipush (v := (-2 : Int32)) hx hb dX12_put_16 (by decide) ?_
    refine lv_aload_n hx hb dX12_put_18 rfl (lv_at hl 1 rfl) ?_
    refine va_get (D := D) (ci := 12) (v := .ref (ad 81)) (C := RX12) (T := TX12) (N := 60) hx hb ht iX12 hown hK hP 0 rfl rfl 56 (by decide) (ht _ kw_1351) (fun _ h9 => h9) rfl dX12_put_19 ?_
    refine lv_iload_n hx hb dX12_put_22 rfl (lv_at hl 2 rfl) ?_
    obtain ⟨g_5, h⟩ := zk_gd h
    refine va_iald hx hb hK hP 1 0 rfl rfl g_5 dX12_put_23 ?_
    refine lv_isub hx hb dX12_put_24 ?_
    obtain ⟨v_6, ev_6, h⟩ := zk_lt h
    refine W.eq (g2 := F0 m 25 ls [.int v_6]) (by rw [ev_6]) ?_
    refine lv_istore (lv' := [(6, .int v_6), (5, .int r_1), (0, .ref (ad 41)), (1, .int x1), (2, .int x2), (3, .long x3)]) hx hb dX12_put_25 hl (by decide) rfl (fun ls hl => ?_)
    refine lv_aload_n hx hb dX12_put_27 rfl (lv_at hl 2 rfl) ?_
    refine va_get (D := D) (ci := 12) (v := .ref (ad 83)) (C := RX12) (T := TX12) (N := 60) hx hb ht iX12 hown hK hP 0 rfl rfl 58 (by decide) (ht _ kw_1353) (fun _ h9 => h9) rfl dX12_put_28 ?_
    refine lv_bipush (v := (60 : Int32)) hx hb dX12_put_31 (by decide) ?_
    refine lv_iload_n hx hb dX12_put_33 rfl (lv_at hl 3 rfl) ?_
    refine lv_imul hx hb dX12_put_34 ?_
    refine lv_iload_n hx hb dX12_put_35 rfl (lv_at hl 4 rfl) ?_
    refine lv_iadd hx hb dX12_put_36 ?_
    refine lv_iload hx hb dX12_put_37 (lv_at hl 0 rfl) ?_
    refine lv_if_ne (tgt := 49) hx hb dX12_put_39 (by decide) (fun c_7 => ?_) (fun c_7 => ?_)
    · have h := zk_f c_7 h
      refine lv_iload hx hb dX12_put_49 (lv_at hl 0 rfl) ?_
      refine lv_iconst (v := (1 : Int32)) hx hb dX12_put_51 (by decide) ?_
      refine lv_icmp_ne (tgt := 62) hx hb dX12_put_52 (by decide) (fun c_8 => ?_) (fun c_8 => ?_)
      · have h := zk_f c_8 h
        refine lv_iload hx hb dX12_put_62 (lv_at hl 0 rfl) ?_
        refine lv_iconst (v := (2 : Int32)) hx hb dX12_put_64 (by decide) ?_
        refine lv_icmp_ne (tgt := 74) hx hb dX12_put_65 (by decide) (fun c_9 => ?_) (fun c_9 => ?_)
        · have h := zk_f c_9 h
          refine lv_iload hx hb dX12_put_74 (lv_at hl 0 rfl) ?_
          refine lv_iconst (v := (3 : Int32)) hx hb dX12_put_76 (by decide) ?_
          refine lv_icmp_ne (tgt := 84) hx hb dX12_put_77 (by decide) (fun c_10 => ?_) (fun c_10 => ?_)
          · have h := zk_f c_10 h
            refine lv_lload_n hx hb dX12_put_84 rfl (lv_at hl 5 rfl) ?_
            refine lv_lconst (v := (0 : Int64)) hx hb dX12_put_85 (by decide) ?_
            refine W.lcmp hx hb dX12_put_86 ?_
            refine lv_if_eq (tgt := 94) hx hb dX12_put_87 (by decide) (fun c_11 => ?_) (fun c_11 => ?_)
            · have h := zk_t c_11 h
              refine lv_lconst (v := (0 : Int64)) hx hb dX12_put_94 (by decide) ?_
              exact L_X12_put_95 C0 hK hA   (0 : Int64) (((60 : Int32) * x1) + x2) mod_elements h H locs ls hP hD hS (lv_sub hl [] rfl)
            · have h := zk_f c_11 h
              refine lv_lconst (v := (1 : Int64)) hx hb dX12_put_90 (by decide) ?_
              refine lv_goto (tgt := 95) hx hb dX12_put_91 (by decide) ?_
              exact L_X12_put_95 C0 hK hA   (1 : Int64) (((60 : Int32) * x1) + x2) mod_elements h H locs ls hP hD hS (lv_sub hl [] rfl)
          · have h := zk_t c_10 h
            refine lv_lload_n hx hb dX12_put_80 rfl (lv_at hl 5 rfl) ?_
            refine lv_goto (tgt := 95) hx hb dX12_put_81 (by decide) ?_
            exact L_X12_put_95 C0 hK hA   x3 (((60 : Int32) * x1) + x2) mod_elements h H locs ls hP hD hS (lv_sub hl [] rfl)
        · have h := zk_t c_9 h
          refine lv_lload_n hx hb dX12_put_68 rfl (lv_at hl 5 rfl) ?_
          refine lv_l2i (v := x3.toInt32) hx hb dX12_put_69 rfl ?_
          refine lv_i2l (v := x3.toInt32.toInt64) hx hb dX12_put_70 rfl ?_
          refine lv_goto (tgt := 95) hx hb dX12_put_71 (by decide) ?_
          exact L_X12_put_95 C0 hK hA   x3.toInt32.toInt64 (((60 : Int32) * x1) + x2) mod_elements h H locs ls hP hD hS (lv_sub hl [] rfl)
      · have h := zk_t c_8 h
        refine lv_lload_n hx hb dX12_put_55 rfl (lv_at hl 5 rfl) ?_
        refine lv_l2i (v := x3.toInt32) hx hb dX12_put_56 rfl ?_
        refine lv_i2s (v := x3.toInt32.toInt16.toInt32) hx hb dX12_put_57 rfl ?_
        refine lv_i2l (v := x3.toInt32.toInt16.toInt32.toInt64) hx hb dX12_put_58 rfl ?_
        refine lv_goto (tgt := 95) hx hb dX12_put_59 (by decide) ?_
        exact L_X12_put_95 C0 hK hA   x3.toInt32.toInt16.toInt32.toInt64 (((60 : Int32) * x1) + x2) mod_elements h H locs ls hP hD hS (lv_sub hl [] rfl)
    · have h := zk_t c_7 h
      refine lv_lload_n hx hb dX12_put_42 rfl (lv_at hl 5 rfl) ?_
      refine lv_l2i (v := x3.toInt32) hx hb dX12_put_43 rfl ?_
      refine lv_i2b (v := x3.toInt32.toInt8.toInt32) hx hb dX12_put_44 rfl ?_
      refine lv_i2l (v := x3.toInt32.toInt8.toInt32.toInt64) hx hb dX12_put_45 rfl ?_
      refine lv_goto (tgt := 95) hx hb dX12_put_46 (by decide) ?_
      exact L_X12_put_95 C0 hK hA   x3.toInt32.toInt8.toInt32.toInt64 (((60 : Int32) * x1) + x2) mod_elements h H locs ls hP hD hS (lv_sub hl [] rfl)
  · have h := zk_f c_4 h
    refine lv_iload hx hb dX12_put_13 (lv_at hl 0 rfl) ?_
    exact W.iret (v := r_1) hx hb hr (fun t ht2 hW => ⟨⟨r_1, mod_elements, rfl, Option.some.inj h, by rw [ht2]; exact hP, hD⟩, hS.F ht2⟩) hS.2.2 dX12_put_15 hlocks
set_option maxHeartbeats 4000000 in
set_option maxRecDepth 100000 in
theorem c_X12_put (l : Launch) (D : va_G) (cs : Nat → ClassId) (ad : Nat → Nat) (sz : Nat) (x1 : Int32) (x2 : Int32) (x3 : Int64) (mod_code : Int32) (mod_shoes : Int32) (mod_claims : Int32) (mod_taped : Int32) (mod_here : Int32) (mod_fault : Int32) (mod_suits : Int32) (mod_doneMany : Int32) (mod_undoneMany : Int32) (mod_open : Int32) (mod_laid : Int32) (mod_isBoth : Int32) (mod_wished : Int32) (mod_bestMany : Int32) (mod_bestRow : Int32) (mod_ringDigits : Int32) (mod_traces : Int32) (mod_holds : Nat → Int32) (mod_size : Nat → Int32) (mod_elements : Nat → Int64) (R : Int32 × (Nat → Int64)) (h : f_X12_put   x1 x2 x3 mod_code mod_shoes mod_claims mod_taped mod_here mod_fault mod_suits mod_doneMany mod_undoneMany mod_open mod_laid mod_isBoth mod_wished mod_bestMany mod_bestRow mod_ringDigits mod_traces mod_holds mod_size mod_elements = some R) : Met l yX12_put (z_X12_put) rm_X12_put (va_Pc [.ref (ad 41), .int x1, .int x2, .long x3] (zPre D cs (wl_X12_put ad cs mod_code mod_shoes mod_claims mod_taped mod_here mod_fault mod_suits mod_doneMany mod_undoneMany mod_open mod_laid mod_isBoth mod_wished mod_bestMany mod_bestRow mod_ringDigits mod_traces mod_holds mod_size mod_elements) sz)) (Q_X12_put D cs ad mod_code mod_shoes mod_claims mod_taped mod_here mod_fault mod_suits mod_doneMany mod_undoneMany mod_open mod_laid mod_isBoth mod_wished mod_bestMany mod_bestRow mod_ringDigits mod_traces mod_holds mod_size (va_A (wl_X12_put ad cs mod_code mod_shoes mod_claims mod_taped mod_here mod_fault mod_suits mod_doneMany mod_undoneMany mod_open mod_laid mod_isBoth mod_wished mod_bestMany mod_bestRow mod_ringDigits mod_traces mod_holds mod_size mod_elements) sz) R) 0 0 (va_A (wl_X12_put ad cs mod_code mod_shoes mod_claims mod_taped mod_here mod_fault mod_suits mod_doneMany mod_undoneMany mod_open mod_laid mod_isBoth mod_wished mod_bestMany mod_bestRow mod_ringDigits mod_traces mod_holds mod_size mod_elements) sz) := by
  refine Met.ofW (cc := cX12_put) (maxL := 7) (ret := (some .int)) (by decide) rfl ?_
  intro p e s m args below meth c s₁ B hml hv
  obtain ⟨rfl, hsz, hP, hK, hD0⟩ := hv
  subst hsz
  have hD := hD0.self (sz := s.heap.size)
  have C0 : zC p s m _ meth c cX12_put 7 (some .int) RX12 zW := ⟨B.exec, B.bytes, B.returns, hml, findClass_of_methodNamed B.named, fun w hw => atoms_spec (ws := z_X12_put) B.pre w (List.mem_cons_of_mem _ hw), B.notSynchronized⟩
  have hA : ∀ q : Nat, s.heap.size ≤ q → va_A (wl_X12_put ad cs mod_code mod_shoes mod_claims mod_taped mod_here mod_fault mod_suits mod_doneMany mod_undoneMany mod_open mod_laid mod_isBoth mod_wished mod_bestMany mod_bestRow mod_ringDigits mod_traces mod_holds mod_size mod_elements) s.heap.size q := fun q h => Or.inr h
  have hl := lv_entry ([.ref (ad 41), .int x1, .int x2, .long x3]) (n := 7) (Nat.le_of_ble_eq_true rfl)
  rw [lg_entry_eq]
  generalize (lg_sl ([.ref (ad 41), .int x1, .int x2, .long x3]) ++ List.replicate (7 - (lg_sl ([.ref (ad 41), .int x1, .int x2, .long x3])).length) Slot.unset).toArray = ls at hl ⊢
  exact L_X12_put_0 C0 hK hA   x1 x2 x3 mod_elements h s.heap [] ls hP hD va_S.rf hl
