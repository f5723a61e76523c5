theorem kw_1332 : Cond.fieldLink RX12 89 "AlreadyJudgedModel" "lineMany" "[I" ∈ zW := zwC (i := 58) zc_6 rfl rfl
theorem kw_1333 : Cond.fieldLink RX12 92 "AlreadyJudgedModel" "testEnd" "[S" ∈ zW := zwC (i := 59) zc_6 rfl rfl
theorem kw_1334 : Cond.fieldLink RX12 96 "AlreadyJudgedModel" "lineEnd" "[S" ∈ zW := zwC (i := 60) zc_6 rfl rfl
theorem zh_cX12_line_0 : zck [17, 7, 160, 42, 180, 0, 89, 16, 32, 46, 96, 60, 42, 180, 0, 92, 27, 42, 180, 0, 255, 147] (zdu 0 cX12_line.data.toList) = true := by decide +kernel
theorem dX12_line_0 : decode cX12_line 0 = .ok (.sipush 1952, 3) := zo_p17 zh_cX12_line_0 0 1952 rfl rfl
theorem dX12_line_3 : decode cX12_line 3 = .ok (.aload_n 0, 1) := zo_42 zh_cX12_line_0 3 rfl
theorem dX12_line_4 : decode cX12_line 4 = .ok (.getfield 89, 3) := zo_180 zh_cX12_line_0 4 rfl
theorem dX12_line_7 : decode cX12_line 7 = .ok (.bipush 32, 2) := zo_p16 zh_cX12_line_0 7 32 rfl rfl
theorem dX12_line_9 : decode cX12_line 9 = .ok (.iaload, 1) := zo_46 zh_cX12_line_0 9 rfl
theorem dX12_line_10 : decode cX12_line 10 = .ok (.iadd, 1) := zo_96 zh_cX12_line_0 10 rfl
theorem dX12_line_11 : decode cX12_line 11 = .ok (.istore_n 1, 1) := zo_60 zh_cX12_line_0 11 rfl
theorem dX12_line_12 : decode cX12_line 12 = .ok (.aload_n 0, 1) := zo_42 zh_cX12_line_0 12 rfl
theorem dX12_line_13 : decode cX12_line 13 = .ok (.getfield 92, 3) := zo_180 zh_cX12_line_0 13 rfl
theorem dX12_line_16 : decode cX12_line 16 = .ok (.iload_n 1, 1) := zo_27 zh_cX12_line_0 16 rfl
theorem dX12_line_17 : decode cX12_line 17 = .ok (.aload_n 0, 1) := zo_42 zh_cX12_line_0 17 rfl
theorem dX12_line_18 : decode cX12_line 18 = .ok (.getfield 255, 3) := zo_180 zh_cX12_line_0 18 rfl
theorem zo_147 {c : ByteArray} {s : Nat} {K : List Nat} (h : zck K (zdu s c.data.toList) = true) (k : Nat) (hk : zt1 K k 147 = true) : decode c (s + k) = .ok (.i2s, 1) := zde ((zbd (zu1 (zh1 h hk))).trans rfl)
theorem zh_cX12_line_1 : zck [255, 147, 86, 42, 182, 1, 19, 42, 180, 0, 202, 156, 0, 37, 42, 182, 0, 194, 16, 63, 160, 0] (zdu 20 cX12_line.data.toList) = true := by decide +kernel
theorem dX12_line_21 : decode cX12_line 21 = .ok (.i2s, 1) := zo_147 zh_cX12_line_1 1 rfl
theorem zo_86 {c : ByteArray} {s : Nat} {K : List Nat} (h : zck K (zdu s c.data.toList) = true) (k : Nat) (hk : zt1 K k 86 = true) : decode c (s + k) = .ok (.sastore, 1) := zde ((zbd (zu1 (zh1 h hk))).trans rfl)
theorem dX12_line_22 : decode cX12_line 22 = .ok (.sastore, 1) := zo_86 zh_cX12_line_1 2 rfl
theorem dX12_line_23 : decode cX12_line 23 = .ok (.aload_n 0, 1) := zo_42 zh_cX12_line_1 3 rfl
theorem dX12_line_24 : decode cX12_line 24 = .ok (.invokevirtual 275, 3) := zo_182 zh_cX12_line_1 4 rfl
theorem dX12_line_27 : decode cX12_line 27 = .ok (.aload_n 0, 1) := zo_42 zh_cX12_line_1 7 rfl
theorem dX12_line_28 : decode cX12_line 28 = .ok (.getfield 202, 3) := zo_180 zh_cX12_line_1 8 rfl
theorem dX12_line_31 : decode cX12_line 31 = .ok (.ifCond .ge 37, 3) := zo_p156 zh_cX12_line_1 11 37 rfl rfl
theorem dX12_line_34 : decode cX12_line 34 = .ok (.aload_n 0, 1) := zo_42 zh_cX12_line_1 14 rfl
theorem dX12_line_35 : decode cX12_line 35 = .ok (.invokevirtual 194, 3) := zo_182 zh_cX12_line_1 15 rfl
theorem dX12_line_38 : decode cX12_line 38 = .ok (.bipush 63, 2) := zo_p16 zh_cX12_line_1 18 63 rfl rfl
theorem zh_cX12_line_2 : zck [160, 0, 28, 42, 89, 180, 0, 191, 4, 96, 181, 0, 191, 42, 180, 0, 92, 27, 42, 180, 0, 255] (zdu 40 cX12_line.data.toList) = true := by decide +kernel
theorem dX12_line_40 : decode cX12_line 40 = .ok (.if_icmp .ne 28, 3) := zo_p160 zh_cX12_line_2 0 28 rfl rfl
theorem dX12_line_43 : decode cX12_line 43 = .ok (.aload_n 0, 1) := zo_42 zh_cX12_line_2 3 rfl
theorem dX12_line_44 : decode cX12_line 44 = .ok (.dup, 1) := zo_89 zh_cX12_line_2 4 rfl
theorem dX12_line_45 : decode cX12_line 45 = .ok (.getfield 191, 3) := zo_180 zh_cX12_line_2 5 rfl
theorem dX12_line_48 : decode cX12_line 48 = .ok (.iconst 1, 1) := zo_4 zh_cX12_line_2 8 rfl
theorem dX12_line_49 : decode cX12_line 49 = .ok (.iadd, 1) := zo_96 zh_cX12_line_2 9 rfl
theorem dX12_line_50 : decode cX12_line 50 = .ok (.putfield 191, 3) := zo_181 zh_cX12_line_2 10 rfl
theorem dX12_line_53 : decode cX12_line 53 = .ok (.aload_n 0, 1) := zo_42 zh_cX12_line_2 13 rfl
theorem dX12_line_54 : decode cX12_line 54 = .ok (.getfield 92, 3) := zo_180 zh_cX12_line_2 14 rfl
theorem dX12_line_57 : decode cX12_line 57 = .ok (.iload_n 1, 1) := zo_27 zh_cX12_line_2 17 rfl
theorem dX12_line_58 : decode cX12_line 58 = .ok (.aload_n 0, 1) := zo_42 zh_cX12_line_2 18 rfl
theorem dX12_line_59 : decode cX12_line 59 = .ok (.getfield 255, 3) := zo_180 zh_cX12_line_2 19 rfl
theorem zh_cX12_line_3 : zck [0, 255, 147, 86, 42, 182, 1, 19, 42, 180, 0, 96, 27, 42, 180, 0, 255, 147, 86, 42, 180, 0] (zdu 60 cX12_line.data.toList) = true := by decide +kernel
theorem dX12_line_62 : decode cX12_line 62 = .ok (.i2s, 1) := zo_147 zh_cX12_line_3 2 rfl
theorem dX12_line_63 : decode cX12_line 63 = .ok (.sastore, 1) := zo_86 zh_cX12_line_3 3 rfl
theorem dX12_line_64 : decode cX12_line 64 = .ok (.aload_n 0, 1) := zo_42 zh_cX12_line_3 4 rfl
theorem dX12_line_65 : decode cX12_line 65 = .ok (.invokevirtual 275, 3) := zo_182 zh_cX12_line_3 5 rfl
theorem dX12_line_68 : decode cX12_line 68 = .ok (.aload_n 0, 1) := zo_42 zh_cX12_line_3 8 rfl
theorem dX12_line_69 : decode cX12_line 69 = .ok (.getfield 96, 3) := zo_180 zh_cX12_line_3 9 rfl
theorem dX12_line_72 : decode cX12_line 72 = .ok (.iload_n 1, 1) := zo_27 zh_cX12_line_3 12 rfl
theorem dX12_line_73 : decode cX12_line 73 = .ok (.aload_n 0, 1) := zo_42 zh_cX12_line_3 13 rfl
theorem dX12_line_74 : decode cX12_line 74 = .ok (.getfield 255, 3) := zo_180 zh_cX12_line_3 14 rfl
theorem dX12_line_77 : decode cX12_line 77 = .ok (.i2s, 1) := zo_147 zh_cX12_line_3 17 rfl
theorem dX12_line_78 : decode cX12_line 78 = .ok (.sastore, 1) := zo_86 zh_cX12_line_3 18 rfl
theorem dX12_line_79 : decode cX12_line 79 = .ok (.aload_n 0, 1) := zo_42 zh_cX12_line_3 19 rfl
theorem zh_cX12_line_4 : zck [180, 0, 89, 16, 32, 92, 46, 4, 96, 79, 177] (zdu 80 cX12_line.data.toList) = true := by decide +kernel
theorem dX12_line_80 : decode cX12_line 80 = .ok (.getfield 89, 3) := zo_180 zh_cX12_line_4 0 rfl
theorem dX12_line_83 : decode cX12_line 83 = .ok (.bipush 32, 2) := zo_p16 zh_cX12_line_4 3 32 rfl rfl
theorem dX12_line_85 : decode cX12_line 85 = .ok (.dup2, 1) := zo_92 zh_cX12_line_4 5 rfl
theorem dX12_line_86 : decode cX12_line 86 = .ok (.iaload, 1) := zo_46 zh_cX12_line_4 6 rfl
theorem dX12_line_87 : decode cX12_line 87 = .ok (.iconst 1, 1) := zo_4 zh_cX12_line_4 7 rfl
theorem dX12_line_88 : decode cX12_line 88 = .ok (.iadd, 1) := zo_96 zh_cX12_line_4 8 rfl
theorem dX12_line_89 : decode cX12_line 89 = .ok (.iastore, 1) := zo_79 zh_cX12_line_4 9 rfl
theorem dX12_line_90 : decode cX12_line 90 = .ok (.return_, 1) := zo_177 zh_cX12_line_4 10 rfl
abbrev z_X12_line : List Cond := .code yX12_line cX12_line 2 none :: zW
abbrev wl_X12_line (ad : Nat → Nat) (cs : Nat → ClassId)  (mod_code : Int32) (mod_shoes : Int32) (mod_claims : Int32) (mod_taped : Int32) (mod_here : Int32) (mod_fault : Int32) (mod_suits : Int32) (mod_doneMany : Int32) (mod_undoneMany : Int32) (mod_open : Int32) (mod_laid : Int32) (mod_isBoth : Int32) (mod_wished : Int32) (mod_bestMany : Int32) (mod_bestRow : Int32) (mod_ringDigits : Int32) (mod_traces : Int32) (mod_tape : Nat → Int32) (mod_act : Nat → Int32) (mod_with : Nat → Int32) (mod_lineMany : Nat → Int32) (mod_testEnd : Nat → Int32) (mod_lineEnd : Nat → Int32) : va_W := [((ad 41), .inr (12, [.int mod_code, .int mod_shoes, .ref (ad 42), .ref (ad 43), .ref (ad 44), .ref (ad 45), .int mod_claims, .ref (ad 46), .ref (ad 47), .ref (ad 48), .ref (ad 49), .ref (ad 50), .int mod_taped, .int mod_here, .int mod_fault, .int mod_suits, .ref (ad 51), .ref (ad 52), .ref (ad 53), .ref (ad 54), .ref (ad 55), .ref (ad 56), .ref (ad 57), .ref (ad 58), .ref (ad 59), .ref (ad 60), .ref (ad 61), .int mod_doneMany, .int mod_undoneMany, .ref (ad 62), .ref (ad 63), .ref (ad 64), .ref (ad 65), .int mod_open, .int mod_laid, .ref (ad 66), .ref (ad 67), .ref (ad 68), .ref (ad 69), .ref (ad 70), .ref (ad 71), .ref (ad 72), .ref (ad 73), .ref (ad 74), .ref (ad 75), .int mod_isBoth, .int mod_wished, .ref (ad 76), .ref (ad 77), .int mod_bestMany, .int mod_bestRow, .ref (ad 78), .ref (ad 79), .int mod_ringDigits, .int mod_traces, .ref (ad 80), .ref (ad 81), .ref (ad 82), .ref (ad 83), .ref (ad 84)])), ((ad 50), .inl (cs 2, 120, .inl mod_tape)), ((ad 66), .inl (cs 2, 4290, .inl mod_act)), ((ad 67), .inl (cs 0, 4290, .inl mod_with)), ((ad 68), .inl (cs 0, 33, .inl mod_lineMany)), ((ad 69), .inl (cs 3, 2013, .inl mod_testEnd)), ((ad 70), .inl (cs 3, 2013, .inl mod_lineEnd))]
def Q_X12_line (D : va_G) (cs : Nat → ClassId) (ad : Nat → Nat)  (mod_code : Int32) (mod_shoes : Int32) (mod_claims : Int32) (mod_taped : Int32) (mod_suits : Int32) (mod_doneMany : Int32) (mod_undoneMany : Int32) (mod_isBoth : Int32) (mod_wished : Int32) (mod_bestMany : Int32) (mod_bestRow : Int32) (mod_ringDigits : Int32) (mod_traces : Int32) (mod_tape : Nat → Int32) (A : Nat → Prop) (R : Int32 × Int32 × Int32 × Int32 × (Nat → Int32) × (Nat → Int32) × (Nat → Int32) × (Nat → Int32) × (Nat → Int32)) : Array Value → State → Outcome → State → Prop :=
  va_Qv (fun u : Int32 × Int32 × Int32 × Int32 × (Nat → Int32) × (Nat → Int32) × (Nat → Int32) × (Nat → Int32) × (Nat → Int32) => u = R) (fun (u : Int32 × Int32 × Int32 × Int32 × (Nat → Int32) × (Nat → Int32) × (Nat → Int32) × (Nat → Int32) × (Nat → Int32)) (t : State) => va_P D classes (wl_X12_line ad cs mod_code mod_shoes mod_claims mod_taped u.1 u.2.1 mod_suits mod_doneMany mod_undoneMany u.2.2.1 u.2.2.2.1 mod_isBoth mod_wished mod_bestMany mod_bestRow mod_ringDigits mod_traces mod_tape u.2.2.2.2.1 u.2.2.2.2.2.1 u.2.2.2.2.2.2.1 u.2.2.2.2.2.2.2.1 u.2.2.2.2.2.2.2.2) t.heap ∧ va_D A (wl_X12_line ad cs mod_code mod_shoes mod_claims mod_taped u.1 u.2.1 mod_suits mod_doneMany mod_undoneMany u.2.2.1 u.2.2.2.1 mod_isBoth mod_wished mod_bestMany mod_bestRow mod_ringDigits mod_traces mod_tape u.2.2.2.2.1 u.2.2.2.2.2.1 u.2.2.2.2.2.2.1 u.2.2.2.2.2.2.2.1 u.2.2.2.2.2.2.2.2)) A
abbrev rm_X12_line : Room := { frames := 121, cells := 0, slots := 0, locals := 2660 }
def B_X12_line_68    (mod_code : Int32) (mod_shoes : Int32) (mod_claims : Int32) (mod_taped : Int32) (mod_suits : Int32) (mod_doneMany : Int32) (mod_undoneMany : Int32) (mod_isBoth : Int32) (mod_wished : Int32) (mod_bestMany : Int32) (mod_bestRow : Int32) (mod_ringDigits : Int32) (mod_traces : Int32) (mod_tape : Nat → Int32) (x1 : Int32) (mod_here : Int32) (mod_fault : Int32) (mod_open : Int32) (mod_laid : Int32) (mod_act : Nat → Int32) (mod_with : Nat → Int32) (mod_lineMany : Nat → Int32) (mod_testEnd : Nat → Int32) (mod_lineEnd : Nat → Int32) : Option (Int32 × Int32 × Int32 × Int32 × (Nat → Int32) × (Nat → Int32) × (Nat → Int32) × (Nat → Int32) × (Nat → Int32)) :=
  (zk_let (mod_laid.toInt16.toInt32) (fun v_28 => (if (x1 < 0 ∨ 2013 ≤ x1.toNatClampNeg) then none else (zk_let (upd mod_lineEnd x1.toNatClampNeg (vp_nar .short v_28)) (fun f_30 => (zk_let ((mod_lineMany (32 : Int32).toNatClampNeg) + (1 : Int32)) (fun v_31 => (zk_let (upd mod_lineMany (32 : Int32).toNatClampNeg v_31) (fun f_32 => (some (mod_here, mod_fault, mod_open, mod_laid, mod_act, mod_with, f_32, mod_testEnd, f_30)))))))))))
def B_X12_line_0    (mod_code : Int32) (mod_shoes : Int32) (mod_claims : Int32) (mod_taped : Int32) (mod_suits : Int32) (mod_doneMany : Int32) (mod_undoneMany : Int32) (mod_isBoth : Int32) (mod_wished : Int32) (mod_bestMany : Int32) (mod_bestRow : Int32) (mod_ringDigits : Int32) (mod_traces : Int32) (mod_tape : Nat → Int32) (mod_here : Int32) (mod_fault : Int32) (mod_open : Int32) (mod_laid : Int32) (mod_act : Nat → Int32) (mod_with : Nat → Int32) (mod_lineMany : Nat → Int32) (mod_testEnd : Nat → Int32) (mod_lineEnd : Nat → Int32) : Option (Int32 × Int32 × Int32 × Int32 × (Nat → Int32) × (Nat → Int32) × (Nat → Int32) × (Nat → Int32) × (Nat → Int32)) :=
  (zk_let ((1952 : Int32) + (mod_lineMany (32 : Int32).toNatClampNeg)) (fun v_1 => (zk_let (mod_laid.toInt16.toInt32) (fun v_2 => (if (v_1 < 0 ∨ 2013 ≤ v_1.toNatClampNeg) then none else (zk_let (upd mod_testEnd v_1.toNatClampNeg (vp_nar .short v_2)) (fun f_4 => (zk_b6 ((grp_grp43 60).2.2.1 mod_code mod_shoes mod_claims mod_taped mod_here mod_fault mod_suits mod_doneMany mod_undoneMany mod_open mod_laid mod_isBoth mod_wished mod_bestMany mod_bestRow mod_ringDigits mod_traces mod_tape mod_act mod_with) (fun u_5 u_6 u_7 u_8 u_9 u_10 => (if 0 ≤ u_6 then (B_X12_line_68 mod_code mod_shoes mod_claims mod_taped mod_suits mod_doneMany mod_undoneMany mod_isBoth mod_wished mod_bestMany mod_bestRow mod_ringDigits mod_traces mod_tape v_1 u_5 u_6 u_7 u_8 u_9 u_10 mod_lineMany f_4 mod_lineEnd) else (zk_b2 (f_X12_look mod_code mod_shoes mod_claims mod_taped u_5 u_6 mod_suits mod_doneMany mod_undoneMany u_7 u_8 mod_isBoth mod_wished mod_bestMany mod_bestRow mod_ringDigits mod_traces mod_tape) (fun r_13 u_14 => (if r_13 = (63 : Int32) then (zk_let (u_5 + (1 : Int32)) (fun v_17 => (zk_let (u_8.toInt16.toInt32) (fun v_18 => (if (v_1 < 0 ∨ 2013 ≤ v_1.toNatClampNeg) then none else (zk_let (upd f_4 v_1.toNatClampNeg (vp_nar .short v_18)) (fun f_20 => (zk_b6 ((grp_grp43 60).2.2.1 mod_code mod_shoes mod_claims mod_taped v_17 u_6 mod_suits mod_doneMany mod_undoneMany u_7 u_8 mod_isBoth mod_wished mod_bestMany mod_bestRow mod_ringDigits mod_traces mod_tape u_9 u_10) (fun u_21 u_22 u_23 u_24 u_25 u_26 => (B_X12_line_68 mod_code mod_shoes mod_claims mod_taped mod_suits mod_doneMany mod_undoneMany mod_isBoth mod_wished mod_bestMany mod_bestRow mod_ringDigits mod_traces mod_tape v_1 u_21 u_22 u_23 u_24 u_25 u_26 mod_lineMany f_20 mod_lineEnd)))))))))) else (B_X12_line_68 mod_code mod_shoes mod_claims mod_taped mod_suits mod_doneMany mod_undoneMany mod_isBoth mod_wished mod_bestMany mod_bestRow mod_ringDigits mod_traces mod_tape v_1 u_5 u_6 u_7 u_8 u_9 u_10 mod_lineMany f_4 mod_lineEnd))))))))))))))
def f_X12_line    (mod_code : Int32) (mod_shoes : Int32) (mod_claims : Int32) (mod_taped : Int32) (mod_here : Int32) (mod_fault : Int32) (mod_suits : Int32) (mod_doneMany : Int32) (mod_undoneMany : Int32) (mod_open : Int32) (mod_laid : Int32) (mod_isBoth : Int32) (mod_wished : Int32) (mod_bestMany : Int32) (mod_bestRow : Int32) (mod_ringDigits : Int32) (mod_traces : Int32) (mod_tape : Nat → Int32) (mod_act : Nat → Int32) (mod_with : Nat → Int32) (mod_lineMany : Nat → Int32) (mod_testEnd : Nat → Int32) (mod_lineEnd : Nat → Int32) : Option (Int32 × Int32 × Int32 × Int32 × (Nat → Int32) × (Nat → Int32) × (Nat → Int32) × (Nat → Int32) × (Nat → Int32)) := B_X12_line_0   mod_code mod_shoes mod_claims mod_taped mod_suits mod_doneMany mod_undoneMany mod_isBoth mod_wished mod_bestMany mod_bestRow mod_ringDigits mod_traces mod_tape  mod_here mod_fault mod_open mod_laid mod_act mod_with mod_lineMany mod_testEnd mod_lineEnd
set_option maxHeartbeats 4000000 in
set_option maxRecDepth 100000 in
theorem L_X12_line_68 {p : Program} {l : Launch} {e : Env} {s : State} {m : MethodId} {args : Array Value} {below : List Frame} {meth : Method} {c : Code} {A : Nat → Prop} {D : va_G} {cs : Nat → ClassId} {ad : Nat → Nat} {mod_code : Int32} {mod_shoes : Int32} {mod_claims : Int32} {mod_taped : Int32} {mod_suits : Int32} {mod_doneMany : Int32} {mod_undoneMany : Int32} {mod_isBoth : Int32} {mod_wished : Int32} {mod_bestMany : Int32} {mod_bestRow : Int32} {mod_ringDigits : Int32} {mod_traces : Int32} {mod_tape : Nat → Int32} {R : Int32 × Int32 × Int32 × Int32 × (Nat → Int32) × (Nat → Int32) × (Nat → Int32) × (Nat → Int32) × (Nat → Int32)} (C0 : zC p s m args meth c cX12_line 2 none RX12 zW) (hK : va_K D classes (zT cs) s) (hA : ∀ q : Nat, s.heap.size ≤ q → A q) (x1 : Int32) (mod_here : Int32) (mod_fault : Int32) (mod_open : Int32) (mod_laid : Int32) (mod_act : Nat → Int32) (mod_with : Nat → Int32) (mod_lineMany : Nat → Int32) (mod_testEnd : Nat → Int32) (mod_lineEnd : Nat → Int32) (h : B_X12_line_68 mod_code mod_shoes mod_claims mod_taped mod_suits mod_doneMany mod_undoneMany mod_isBoth mod_wished mod_bestMany mod_bestRow mod_ringDigits mod_traces mod_tape x1 mod_here mod_fault mod_open mod_laid mod_act mod_with mod_lineMany mod_testEnd mod_lineEnd = some R) (H : Heap) (locs : List Loc) (ls : Array Slot) (hP : va_P D classes (wl_X12_line ad cs mod_code mod_shoes mod_claims mod_taped mod_here mod_fault mod_suits mod_doneMany mod_undoneMany mod_open mod_laid mod_isBoth mod_wished mod_bestMany mod_bestRow mod_ringDigits mod_traces mod_tape mod_act mod_with mod_lineMany mod_testEnd mod_lineEnd) H) (hD : va_D A (wl_X12_line ad cs mod_code mod_shoes mod_claims mod_taped mod_here mod_fault mod_suits mod_doneMany mod_undoneMany mod_open mod_laid mod_isBoth mod_wished mod_bestMany mod_bestRow mod_ringDigits mod_traces mod_tape mod_act mod_with mod_lineMany mod_testEnd mod_lineEnd)) (hS : va_S A s.heap H locs) (hl : lv_has ls 2 [(0, .ref (ad 41)), (1, .int x1)]) : W p l e rm_X12_line s m args below meth c H locs 0 0 (MQ below (Q_X12_line D cs ad mod_code mod_shoes mod_claims mod_taped mod_suits mod_doneMany mod_undoneMany mod_isBoth mod_wished mod_bestMany mod_bestRow mod_ringDigits mod_traces mod_tape A R) args s 0 0 A) (F0 m 68 ls []) := by
  obtain ⟨hx, hb, hr, hml, hown, ht, hlocks⟩ := id C0
  refine lv_aload_n hx hb dX12_line_68 rfl (lv_at hl 0 rfl) ?_
  refine va_get (D := D) (ci := 12) (v := .ref (ad 70)) (C := RX12) (T := TX12) (N := 60) hx hb ht iX12 hown hK hP 0 rfl rfl 39 (by decide) (ht _ kw_1334) (fun _ h9 => h9) rfl dX12_line_69 ?_
  refine lv_iload_n hx hb dX12_line_72 rfl (lv_at hl 1 rfl) ?_
  refine lv_aload_n hx hb dX12_line_73 rfl (lv_at hl 0 rfl) ?_
  refine va_get (D := D) (ci := 12) (v := .int mod_laid) (C := RX12) (T := TX12) (N := 60) hx hb ht iX12 hown hK hP 0 rfl rfl 34 (by decide) (ht _ kw_1329) (fun _ h9 => h9) rfl dX12_line_74 ?_
  refine lv_i2s (v := mod_laid.toInt16.toInt32) hx hb dX12_line_77 rfl ?_
  obtain ⟨v_28, ev_28, h⟩ := zk_lt h
  refine W.eq (g2 := F0 m 78 ls [.int v_28, .int x1, .ref (ad 70)]) (by rw [ev_28]) ?_
  obtain ⟨g_29, h⟩ := zk_gd h
  obtain ⟨f_30, ef_30, h⟩ := zk_lt h
  refine va_sast hx hb hK hP hD hS 6 3 rfl rfl g_29 dX12_line_78 (fun H locs hP hD hS => ?_)
  have hP : va_P D classes (wl_X12_line ad cs mod_code mod_shoes mod_claims mod_taped mod_here mod_fault mod_suits mod_doneMany mod_undoneMany mod_open mod_laid mod_isBoth mod_wished mod_bestMany mod_bestRow mod_ringDigits mod_traces mod_tape mod_act mod_with mod_lineMany mod_testEnd f_30) H := by rw [ef_30]; exact hP
  have hD : va_D A (wl_X12_line ad cs mod_code mod_shoes mod_claims mod_taped mod_here mod_fault mod_suits mod_doneMany mod_undoneMany mod_open mod_laid mod_isBoth mod_wished mod_bestMany mod_bestRow mod_ringDigits mod_traces mod_tape mod_act mod_with mod_lineMany mod_testEnd f_30) := by rw [ef_30]; exact hD
  refine lv_aload_n hx hb dX12_line_79 rfl (lv_at hl 0 rfl) ?_
  refine va_get (D := D) (ci := 12) (v := .ref (ad 68)) (C := RX12) (T := TX12) (N := 60) hx hb ht iX12 hown hK hP 0 rfl rfl 37 (by decide) (ht _ kw_1332) (fun _ h9 => h9) rfl dX12_line_80 ?_
  refine lv_bipush (v := (32 : Int32)) hx hb dX12_line_83 (by decide) ?_
  refine lv_dup2_11 hx hb dX12_line_85 rfl rfl ?_
  refine va_iald hx hb hK hP 4 0 rfl rfl (by unfold vp_in; decide) dX12_line_86 ?_
  refine lv_iconst (v := (1 : Int32)) hx hb dX12_line_87 (by decide) ?_
  refine lv_iadd hx hb dX12_line_88 ?_
  obtain ⟨v_31, ev_31, h⟩ := zk_lt h
  refine W.eq (g2 := F0 m 89 ls [.int v_31, .int (32 : Int32), .ref (ad 68)]) (by rw [ev_31]) ?_
  obtain ⟨f_32, ef_32, h⟩ := zk_lt h
  refine va_iast hx hb hK hP hD hS 4 0 rfl rfl (by unfold vp_in; decide) dX12_line_89 (fun H locs hP hD hS => ?_)
  have hP : va_P D classes (wl_X12_line ad cs mod_code mod_shoes mod_claims mod_taped mod_here mod_fault mod_suits mod_doneMany mod_undoneMany mod_open mod_laid mod_isBoth mod_wished mod_bestMany mod_bestRow mod_ringDigits mod_traces mod_tape mod_act mod_with f_32 mod_testEnd f_30) H := by rw [ef_32]; exact hP
  have hD : va_D A (wl_X12_line ad cs mod_code mod_shoes mod_claims mod_taped mod_here mod_fault mod_suits mod_doneMany mod_undoneMany mod_open mod_laid mod_isBoth mod_wished mod_bestMany mod_bestRow mod_ringDigits mod_traces mod_tape mod_act mod_with f_32 mod_testEnd f_30) := by rw [ef_32]; exact hD
  exact W.vret hx hb hr (fun t ht2 hW => ⟨⟨(mod_here, mod_fault, mod_open, mod_laid, mod_act, mod_with, f_32, mod_testEnd, f_30), rfl, Option.some.inj h, by rw [ht2]; exact hP, hD⟩, hS.F ht2⟩) hS.2.2 dX12_line_90 hlocks
set_option maxHeartbeats 4000000 in
set_option maxRecDepth 100000 in
theorem L_X12_line_0 {p : Program} {l : Launch} {e : Env} {s : State} {m : MethodId} {args : Array Value} {below : List Frame} {meth : Method} {c : Code} {A : Nat → Prop} {D : va_G} {cs : Nat → ClassId} {ad : Nat → Nat} {mod_code : Int32} {mod_shoes : Int32} {mod_claims : Int32} {mod_taped : Int32} {mod_suits : Int32} {mod_doneMany : Int32} {mod_undoneMany : Int32} {mod_isBoth : Int32} {mod_wished : Int32} {mod_bestMany : Int32} {mod_bestRow : Int32} {mod_ringDigits : Int32} {mod_traces : Int32} {mod_tape : Nat → Int32} {R : Int32 × Int32 × Int32 × Int32 × (Nat → Int32) × (Nat → Int32) × (Nat → Int32) × (Nat → Int32) × (Nat → Int32)} (C0 : zC p s m args meth c cX12_line 2 none RX12 zW) (hK : va_K D classes (zT cs) s) (hA : ∀ q : Nat, s.heap.size ≤ q → A q) (mod_here : Int32) (mod_fault : Int32) (mod_open : Int32) (mod_laid : Int32) (mod_act : Nat → Int32) (mod_with : Nat → Int32) (mod_lineMany : Nat → Int32) (mod_testEnd : Nat → Int32) (mod_lineEnd : Nat → Int32) (h : B_X12_line_0 mod_code mod_shoes mod_claims mod_taped mod_suits mod_doneMany mod_undoneMany mod_isBoth mod_wished mod_bestMany mod_bestRow mod_ringDigits mod_traces mod_tape mod_here mod_fault mod_open mod_laid mod_act mod_with mod_lineMany mod_testEnd mod_lineEnd = some R) (H : Heap) (locs : List Loc) (ls : Array Slot) (hP : va_P D classes (wl_X12_line ad cs mod_code mod_shoes mod_claims mod_taped mod_here mod_fault mod_suits mod_doneMany mod_undoneMany mod_open mod_laid mod_isBoth mod_wished mod_bestMany mod_bestRow mod_ringDigits mod_traces mod_tape mod_act mod_with mod_lineMany mod_testEnd mod_lineEnd) H) (hD : va_D A (wl_X12_line ad cs mod_code mod_shoes mod_claims mod_taped mod_here mod_fault mod_suits mod_doneMany mod_undoneMany mod_open mod_laid mod_isBoth mod_wished mod_bestMany mod_bestRow mod_ringDigits mod_traces mod_tape mod_act mod_with mod_lineMany mod_testEnd mod_lineEnd)) (hS : va_S A s.heap H locs) (hl : lv_has ls 2 [(0, .ref (ad 41))]) : W p l e rm_X12_line s m args below meth c H locs 0 0 (MQ below (Q_X12_line D cs ad mod_code mod_shoes mod_claims mod_taped mod_suits mod_doneMany mod_undoneMany mod_isBoth mod_wished mod_bestMany mod_bestRow mod_ringDigits mod_traces mod_tape A R) args s 0 0 A) (F0 m 0 ls []) := by
  obtain ⟨hx, hb, hr, hml, hown, ht, hlocks⟩ := id C0
  refine lv_sipush (v := (1952 : Int32)) hx hb dX12_line_0 (by decide) ?_
  refine lv_aload_n hx hb dX12_line_3 rfl (lv_at hl 0 rfl) ?_
  refine va_get (D := D) (ci := 12) (v := .ref (ad 68)) (C := RX12) (T := TX12) (N := 60) hx hb ht iX12 hown hK hP 0 rfl rfl 37 (by decide) (ht _ kw_1332) (fun _ h9 => h9) rfl dX12_line_4 ?_
  refine lv_bipush (v := (32 : Int32)) hx hb dX12_line_7 (by decide) ?_
  refine va_iald hx hb hK hP 4 0 rfl rfl (by unfold vp_in; decide) dX12_line_9 ?_
  refine lv_iadd hx hb dX12_line_10 ?_
  obtain ⟨v_1, ev_1, h⟩ := zk_lt h
  refine W.eq (g2 := F0 m 11 ls [.int v_1]) (by rw [ev_1]) ?_
  refine lv_istore_n (lv' := [(1, .int v_1), (0, .ref (ad 41))]) hx hb dX12_line_11 rfl hl (by decide) rfl (fun ls hl => ?_)
  refine lv_aload_n hx hb dX12_line_12 rfl (lv_at hl 1 rfl) ?_
  refine va_get (D := D) (ci := 12) (v := .ref (ad 69)) (C := RX12) (T := TX12) (N := 60) hx hb ht iX12 hown hK hP 0 rfl rfl 38 (by decide) (ht _ kw_1333) (fun _ h9 => h9) rfl dX12_line_13 ?_
  refine lv_iload_n hx hb dX12_line_16 rfl (lv_at hl 0 rfl) ?_
  refine lv_aload_n hx hb dX12_line_17 rfl (lv_at hl 1 rfl) ?_
  refine va_get (D := D) (ci := 12) (v := .int mod_laid) (C := RX12) (T := TX12) (N := 60) hx hb ht iX12 hown hK hP 0 rfl rfl 34 (by decide) (ht _ kw_1329) (fun _ h9 => h9) rfl dX12_line_18 ?_
  refine lv_i2s (v := mod_laid.toInt16.toInt32) hx hb dX12_line_21 rfl ?_
  obtain ⟨v_2, ev_2, h⟩ := zk_lt h
  refine W.eq (g2 := F0 m 22 ls [.int v_2, .int v_1, .ref (ad 69)]) (by rw [ev_2]) ?_
  obtain ⟨g_3, h⟩ := zk_gd h
  obtain ⟨f_4, ef_4, h⟩ := zk_lt h
  refine va_sast hx hb hK hP hD hS 5 3 rfl rfl g_3 dX12_line_22 (fun H locs hP hD hS => ?_)
  have hP : va_P D classes (wl_X12_line ad cs mod_code mod_shoes mod_claims mod_taped mod_here mod_fault mod_suits mod_doneMany mod_undoneMany mod_open mod_laid mod_isBoth mod_wished mod_bestMany mod_bestRow mod_ringDigits mod_traces mod_tape mod_act mod_with mod_lineMany f_4 mod_lineEnd) H := by rw [ef_4]; exact hP
  have hD : va_D A (wl_X12_line ad cs mod_code mod_shoes mod_claims mod_taped mod_here mod_fault mod_suits mod_doneMany mod_undoneMany mod_open mod_laid mod_isBoth mod_wished mod_bestMany mod_bestRow mod_ringDigits mod_traces mod_tape mod_act mod_with mod_lineMany f_4 mod_lineEnd) := by rw [ef_4]; exact hD
  refine lv_aload_n hx hb dX12_line_23 rfl (lv_at hl 1 rfl) ?_
  obtain ⟨u_5, u_6, u_7, u_8, u_9, u_10, hc_11, h⟩ := zk_o6 h
  refine zz_vv (post := (fun u => u = (u_5, u_6, u_7, u_8, u_9, u_10))) (w1 := fun u => (wl_X12_either ad cs mod_code mod_shoes mod_claims mod_taped u.1 u.2.1 mod_suits mod_doneMany mod_undoneMany u.2.2.1 u.2.2.2.1 mod_isBoth mod_wished mod_bestMany mod_bestRow mod_ringDigits mod_traces mod_tape u.2.2.2.2.1 u.2.2.2.2.2)) (As := []) (rest := []) (((cg_grp43 l 60).2.2.1) D cs ad  H.size mod_code mod_shoes mod_claims mod_taped mod_here mod_fault mod_suits mod_doneMany mod_undoneMany mod_open mod_laid mod_isBoth mod_wished mod_bestMany mod_bestRow mod_ringDigits mod_traces mod_tape mod_act mod_with (u_5, u_6, u_7, u_8, u_9, u_10) hc_11) ⟨hx, hb, hml, hown, ht⟩ (cwV 0 ht g_X12_275 rfl rfl rfl ⟨rfl, hd_X12_either⟩ ⟨Nat.le_of_ble_eq_true rfl, Nat.le_of_ble_eq_true rfl⟩) (va_recv hK hP (ci := 12) (q0 := 0) rfl rfl) hP hD hS hK hA [0, 1, 2, 3] rfl rfl [(ad 41), (ad 50), (ad 66), (ad 67)] rfl (fun _ => rfl) rfl hl.1 (Nat.le_of_ble_eq_true rfl) dX12_line_24 ⟨Nat.zero_le _, Nat.zero_le _⟩ (fun u H locs hq hP hS => ?_)
  cases hq
  have hP : va_P D classes (wl_X12_line ad cs mod_code mod_shoes mod_claims mod_taped u_5 u_6 mod_suits mod_doneMany mod_undoneMany u_7 u_8 mod_isBoth mod_wished mod_bestMany mod_bestRow mod_ringDigits mod_traces mod_tape u_9 u_10 mod_lineMany f_4 mod_lineEnd) H := hP
  have hD : va_D A (wl_X12_line ad cs mod_code mod_shoes mod_claims mod_taped u_5 u_6 mod_suits mod_doneMany mod_undoneMany u_7 u_8 mod_isBoth mod_wished mod_bestMany mod_bestRow mod_ringDigits mod_traces mod_tape u_9 u_10 mod_lineMany f_4 mod_lineEnd) := zDk hD [(ad 41), (ad 50), (ad 66), (ad 67), (ad 68), (ad 69), (ad 70)] rfl rfl
  refine lv_aload_n hx hb dX12_line_27 rfl (lv_at hl 1 rfl) ?_
  refine va_get (D := D) (ci := 12) (v := .int u_6) (C := RX12) (T := TX12) (N := 60) hx hb ht iX12 hown hK hP 0 rfl rfl 14 (by decide) (ht _ kw_1309) (fun _ h9 => h9) rfl dX12_line_28 ?_
  refine lv_if_ge (tgt := 68) hx hb dX12_line_31 (by decide) (fun c_12 => ?_) (fun c_12 => ?_)
  · have h := zk_t c_12 h
    exact L_X12_line_68 C0 hK hA   v_1 u_5 u_6 u_7 u_8 u_9 u_10 mod_lineMany f_4 mod_lineEnd h H locs ls hP hD hS (lv_sub hl [1, 0] rfl)
  · have h := zk_f c_12 h
    refine lv_aload_n hx hb dX12_line_34 rfl (lv_at hl 1 rfl) ?_
    obtain ⟨r_13, u_14, hc_15, h⟩ := zk_o2 h
    refine zz_vi (post := (fun r u => (r, u) = (r_13, u_14))) (w1 := fun u => (wl_X12_look ad cs mod_code mod_shoes mod_claims mod_taped u_5 u_6 mod_suits mod_doneMany mod_undoneMany u_7 u_8 mod_isBoth mod_wished mod_bestMany mod_bestRow mod_ringDigits mod_traces mod_tape)) (As := []) (rest := []) (c_X12_look l D cs ad  H.size mod_code mod_shoes mod_claims mod_taped u_5 u_6 mod_suits mod_doneMany mod_undoneMany u_7 u_8 mod_isBoth mod_wished mod_bestMany mod_bestRow mod_ringDigits mod_traces mod_tape (r_13, u_14) hc_15) ⟨hx, hb, hml, hown, ht⟩ (cwV 0 ht g_X12_194 rfl rfl rfl ⟨rfl, hd_X12_look⟩ ⟨Nat.le_of_ble_eq_true rfl, Nat.le_of_ble_eq_true rfl⟩) (va_recv hK hP (ci := 12) (q0 := 0) rfl rfl) hP hD hS hK hA [0, 1] rfl rfl [(ad 41), (ad 50)] rfl (fun _ => rfl) rfl hl.1 (Nat.le_of_ble_eq_true rfl) dX12_line_35 ⟨Nat.zero_le _, Nat.zero_le _⟩ (fun r u H locs hq hP hS => ?_)
    cases hq
    have hP : va_P D classes (wl_X12_line ad cs mod_code mod_shoes mod_claims mod_taped u_5 u_6 mod_suits mod_doneMany mod_undoneMany u_7 u_8 mod_isBoth mod_wished mod_bestMany mod_bestRow mod_ringDigits mod_traces mod_tape u_9 u_10 mod_lineMany f_4 mod_lineEnd) H := hP
    have hD : va_D A (wl_X12_line ad cs mod_code mod_shoes mod_claims mod_taped u_5 u_6 mod_suits mod_doneMany mod_undoneMany u_7 u_8 mod_isBoth mod_wished mod_bestMany mod_bestRow mod_ringDigits mod_traces mod_tape u_9 u_10 mod_lineMany f_4 mod_lineEnd) := zDk hD [(ad 41), (ad 50), (ad 66), (ad 67), (ad 68), (ad 69), (ad 70)] rfl rfl
    refine lv_bipush (v := (63 : Int32)) hx hb dX12_line_38 (by decide) ?_
    refine lv_icmp_ne (tgt := 68) hx hb dX12_line_40 (by decide) (fun c_16 => ?_) (fun c_16 => ?_)
    · have h := zk_f c_16 h
      exact L_X12_line_68 C0 hK hA   v_1 u_5 u_6 u_7 u_8 u_9 u_10 mod_lineMany f_4 mod_lineEnd h H locs ls hP hD hS (lv_sub hl [1, 0] rfl)
    · have h := zk_t c_16 h
      refine lv_aload_n hx hb dX12_line_43 rfl (lv_at hl 1 rfl) ?_
      refine lv_dup hx hb dX12_line_44 rfl ?_
      refine va_get (D := D) (ci := 12) (v := .int u_5) (C := RX12) (T := TX12) (N := 60) hx hb ht iX12 hown hK hP 0 rfl rfl 13 (by decide) (ht _ kw_1308) (fun _ h9 => h9) rfl dX12_line_45 ?_
      refine lv_iconst (v := (1 : Int32)) hx hb dX12_line_48 (by decide) ?_
      refine lv_iadd hx hb dX12_line_49 ?_
      obtain ⟨v_17, ev_17, h⟩ := zk_lt h
      refine W.eq (g2 := F0 m 50 ls [.int v_17, .ref (ad 41)]) (by rw [ev_17]) ?_
      refine va_put (D := D) (ci := 12) (v := .int v_17) (ty := .int) (C := RX12) (T := TX12) (N := 60) hx hb ht iX12 tyX12 tyX12_ok nmX12 hown hK hP hD hS 0 rfl rfl 13 (by decide) (ht _ kw_1308) (fun _ h9 => h9) rfl (by decide +kernel) rfl rfl (Nat.le_of_ble_eq_true rfl) dX12_line_50 (fun H locs hP hD hS => ?_)
      have hP : va_P D classes (wl_X12_line ad cs mod_code mod_shoes mod_claims mod_taped v_17 u_6 mod_suits mod_doneMany mod_undoneMany u_7 u_8 mod_isBoth mod_wished mod_bestMany mod_bestRow mod_ringDigits mod_traces mod_tape u_9 u_10 mod_lineMany f_4 mod_lineEnd) H := hP
      have hD : va_D A (wl_X12_line ad cs mod_code mod_shoes mod_claims mod_taped v_17 u_6 mod_suits mod_doneMany mod_undoneMany u_7 u_8 mod_isBoth mod_wished mod_bestMany mod_bestRow mod_ringDigits mod_traces mod_tape u_9 u_10 mod_lineMany f_4 mod_lineEnd) := hD
      refine lv_aload_n hx hb dX12_line_53 rfl (lv_at hl 1 rfl) ?_
      refine va_get (D := D) (ci := 12) (v := .ref (ad 69)) (C := RX12) (T := TX12) (N := 60) hx hb ht iX12 hown hK hP 0 rfl rfl 38 (by decide) (ht _ kw_1333) (fun _ h9 => h9) rfl dX12_line_54 ?_
      refine lv_iload_n hx hb dX12_line_57 rfl (lv_at hl 0 rfl) ?_
      refine lv_aload_n hx hb dX12_line_58 rfl (lv_at hl 1 rfl) ?_
      refine va_get (D := D) (ci := 12) (v := .int u_8) (C := RX12) (T := TX12) (N := 60) hx hb ht iX12 hown hK hP 0 rfl rfl 34 (by decide) (ht _ kw_1329) (fun _ h9 => h9) rfl dX12_line_59 ?_
      refine lv_i2s (v := u_8.toInt16.toInt32) hx hb dX12_line_62 rfl ?_
      obtain ⟨v_18, ev_18, h⟩ := zk_lt h
      refine W.eq (g2 := F0 m 63 ls [.int v_18, .int v_1, .ref (ad 69)]) (by rw [ev_18]) ?_
      obtain ⟨g_19, h⟩ := zk_gd h
      obtain ⟨f_20, ef_20, h⟩ := zk_lt h
      refine va_sast hx hb hK hP hD hS 5 3 rfl rfl g_19 dX12_line_63 (fun H locs hP hD hS => ?_)
      have hP : va_P D classes (wl_X12_line ad cs mod_code mod_shoes mod_claims mod_taped v_17 u_6 mod_suits mod_doneMany mod_undoneMany u_7 u_8 mod_isBoth mod_wished mod_bestMany mod_bestRow mod_ringDigits mod_traces mod_tape u_9 u_10 mod_lineMany f_20 mod_lineEnd) H := by rw [ef_20]; exact hP
      have hD : va_D A (wl_X12_line ad cs mod_code mod_shoes mod_claims mod_taped v_17 u_6 mod_suits mod_doneMany mod_undoneMany u_7 u_8 mod_isBoth mod_wished mod_bestMany mod_bestRow mod_ringDigits mod_traces mod_tape u_9 u_10 mod_lineMany f_20 mod_lineEnd) := by rw [ef_20]; exact hD
      refine lv_aload_n hx hb dX12_line_64 rfl (lv_at hl 1 rfl) ?_
      obtain ⟨u_21, u_22, u_23, u_24, u_25, u_26, hc_27, h⟩ := zk_o6 h
      refine zz_vv (post := (fun u => u = (u_21, u_22, u_23, u_24, u_25, u_26))) (w1 := fun u => (wl_X12_either ad cs mod_code mod_shoes mod_claims mod_taped u.1 u.2.1 mod_suits mod_doneMany mod_undoneMany u.2.2.1 u.2.2.2.1 mod_isBoth mod_wished mod_bestMany mod_bestRow mod_ringDigits mod_traces mod_tape u.2.2.2.2.1 u.2.2.2.2.2)) (As := []) (rest := []) (((cg_grp43 l 60).2.2.1) D cs ad  H.size mod_code mod_shoes mod_claims mod_taped v_17 u_6 mod_suits mod_doneMany mod_undoneMany u_7 u_8 mod_isBoth mod_wished mod_bestMany mod_bestRow mod_ringDigits mod_traces mod_tape u_9 u_10 (u_21, u_22, u_23, u_24, u_25, u_26) hc_27) ⟨hx, hb, hml, hown, ht⟩ (cwV 0 ht g_X12_275 rfl rfl rfl ⟨rfl, hd_X12_either⟩ ⟨Nat.le_of_ble_eq_true rfl, Nat.le_of_ble_eq_true rfl⟩) (va_recv hK hP (ci := 12) (q0 := 0) rfl rfl) hP hD hS hK hA [0, 1, 2, 3] rfl rfl [(ad 41), (ad 50), (ad 66), (ad 67)] rfl (fun _ => rfl) rfl hl.1 (Nat.le_of_ble_eq_true rfl) dX12_line_65 ⟨Nat.zero_le _, Nat.zero_le _⟩ (fun u H locs hq hP hS => ?_)
      cases hq
      have hP : va_P D classes (wl_X12_line ad cs mod_code mod_shoes mod_claims mod_taped u_21 u_22 mod_suits mod_doneMany mod_undoneMany u_23 u_24 mod_isBoth mod_wished mod_bestMany mod_bestRow mod_ringDigits mod_traces mod_tape u_25 u_26 mod_lineMany f_20 mod_lineEnd) H := hP
      have hD : va_D A (wl_X12_line ad cs mod_code mod_shoes mod_claims mod_taped u_21 u_22 mod_suits mod_doneMany mod_undoneMany u_23 u_24 mod_isBoth mod_wished mod_bestMany mod_bestRow mod_ringDigits mod_traces mod_tape u_25 u_26 mod_lineMany f_20 mod_lineEnd) := zDk hD [(ad 41), (ad 50), (ad 66), (ad 67), (ad 68), (ad 69), (ad 70)] rfl rfl
      exact L_X12_line_68 C0 hK hA   v_1 u_21 u_22 u_23 u_24 u_25 u_26 mod_lineMany f_20 mod_lineEnd h H locs ls hP hD hS (lv_sub hl [1, 0] rfl)
set_option maxHeartbeats 4000000 in
set_option maxRecDepth 100000 in
theorem c_X12_line (l : Launch) (D : va_G) (cs : Nat → ClassId) (ad : Nat → Nat) (sz : Nat)  (mod_code : Int32) (mod_shoes : Int32) (mod_claims : Int32) (mod_taped : Int32) (mod_here : Int32) (mod_fault : Int32) (mod_suits : Int32) (mod_doneMany : Int32) (mod_undoneMany : Int32) (mod_open : Int32) (mod_laid : Int32) (mod_isBoth : Int32) (mod_wished : Int32) (mod_bestMany : Int32) (mod_bestRow : Int32) (mod_ringDigits : Int32) (mod_traces : Int32) (mod_tape : Nat → Int32) (mod_act : Nat → Int32) (mod_with : Nat → Int32) (mod_lineMany : Nat → Int32) (mod_testEnd : Nat → Int32) (mod_lineEnd : Nat → Int32) (R : Int32 × Int32 × Int32 × Int32 × (Nat → Int32) × (Nat → Int32) × (Nat → Int32) × (Nat → Int32) × (Nat → Int32)) (h : f_X12_line    mod_code mod_shoes mod_claims mod_taped mod_here mod_fault mod_suits mod_doneMany mod_undoneMany mod_open mod_laid mod_isBoth mod_wished mod_bestMany mod_bestRow mod_ringDigits mod_traces mod_tape mod_act mod_with mod_lineMany mod_testEnd mod_lineEnd = some R) : Met l yX12_line (z_X12_line) rm_X12_line (va_Pc [.ref (ad 41)] (zPre D cs (wl_X12_line ad cs mod_code mod_shoes mod_claims mod_taped mod_here mod_fault mod_suits mod_doneMany mod_undoneMany mod_open mod_laid mod_isBoth mod_wished mod_bestMany mod_bestRow mod_ringDigits mod_traces mod_tape mod_act mod_with mod_lineMany mod_testEnd mod_lineEnd) sz)) (Q_X12_line D cs ad mod_code mod_shoes mod_claims mod_taped mod_suits mod_doneMany mod_undoneMany mod_isBoth mod_wished mod_bestMany mod_bestRow mod_ringDigits mod_traces mod_tape (va_A (wl_X12_line ad cs mod_code mod_shoes mod_claims mod_taped mod_here mod_fault mod_suits mod_doneMany mod_undoneMany mod_open mod_laid mod_isBoth mod_wished mod_bestMany mod_bestRow mod_ringDigits mod_traces mod_tape mod_act mod_with mod_lineMany mod_testEnd mod_lineEnd) sz) R) 0 0 (va_A (wl_X12_line ad cs mod_code mod_shoes mod_claims mod_taped mod_here mod_fault mod_suits mod_doneMany mod_undoneMany mod_open mod_laid mod_isBoth mod_wished mod_bestMany mod_bestRow mod_ringDigits mod_traces mod_tape mod_act mod_with mod_lineMany mod_testEnd mod_lineEnd) sz) := by
  refine Met.ofW (cc := cX12_line) (maxL := 2) (ret := none) (by decide) rfl ?_
  intro p e s m args below meth c s₁ B hml hv
  obtain ⟨rfl, hsz, hP, hK, hD0⟩ := hv
  subst hsz
  have hD := hD0.self (sz := s.heap.size)
  have C0 : zC p s m _ meth c cX12_line 2 none RX12 zW := ⟨B.exec, B.bytes, B.returns, hml, findClass_of_methodNamed B.named, fun w hw => atoms_spec (ws := z_X12_line) B.pre w (List.mem_cons_of_mem _ hw), B.notSynchronized⟩
  have hA : ∀ q : Nat, s.heap.size ≤ q → va_A (wl_X12_line ad cs mod_code mod_shoes mod_claims mod_taped mod_here mod_fault mod_suits mod_doneMany mod_undoneMany mod_open mod_laid mod_isBoth mod_wished mod_bestMany mod_bestRow mod_ringDigits mod_traces mod_tape mod_act mod_with mod_lineMany mod_testEnd mod_lineEnd) s.heap.size q := fun q h => Or.inr h
  have hl := lv_entry ([.ref (ad 41)]) (n := 2) (Nat.le_of_ble_eq_true rfl)
  rw [lg_entry_eq]
  generalize (lg_sl ([.ref (ad 41)]) ++ List.replicate (2 - (lg_sl ([.ref (ad 41)])).length) Slot.unset).toArray = ls at hl ⊢
  exact L_X12_line_0 C0 hK hA    mod_here mod_fault mod_open mod_laid mod_act mod_with mod_lineMany mod_testEnd mod_lineEnd h s.heap [] ls hP hD va_S.rf hl
theorem kw_33 : Cond.selects RX12 yX12_line yX12_line ∈ zW := zwI (i := 33) (by decide +kernel) (by decide +kernel)
theorem kw_1622 : Cond.methodLink RX12 293 yX12_line ∈ zW := zwC (i := 108) zc_7 rfl rfl
theorem kw_1624 : Cond.instanceMethod yX12_line ∈ zW := zwC (i := 110) zc_7 rfl rfl
theorem kw_1625 : Cond.code yX12_line cX12_line 2 none ∈ zW := zwC (i := 111) zc_7 rfl rfl
theorem zh_cX12_law_0 : zck [27, 155, 0, 21, 27, 16, 10, 108, 6, 163, 0, 13, 27, 16, 10, 112, 184, 0, 155, 154, 0, 5] (zdu 0 cX12_law.data.toList) = true := by decide +kernel
theorem dX12_law_0 : decode cX12_law 0 = .ok (.iload_n 1, 1) := zo_27 zh_cX12_law_0 0 rfl
theorem dX12_law_1 : decode cX12_law 1 = .ok (.ifCond .lt 21, 3) := zo_p155 zh_cX12_law_0 1 21 rfl rfl
theorem dX12_law_4 : decode cX12_law 4 = .ok (.iload_n 1, 1) := zo_27 zh_cX12_law_0 4 rfl
theorem dX12_law_5 : decode cX12_law 5 = .ok (.bipush 10, 2) := zo_p16 zh_cX12_law_0 5 10 rfl rfl
theorem dX12_law_7 : decode cX12_law 7 = .ok (.idiv, 1) := zo_108 zh_cX12_law_0 7 rfl
theorem dX12_law_8 : decode cX12_law 8 = .ok (.iconst 3, 1) := zo_6 zh_cX12_law_0 8 rfl
theorem dX12_law_9 : decode cX12_law 9 = .ok (.if_icmp .gt 13, 3) := zo_p163 zh_cX12_law_0 9 13 rfl rfl
theorem dX12_law_12 : decode cX12_law 12 = .ok (.iload_n 1, 1) := zo_27 zh_cX12_law_0 12 rfl
theorem dX12_law_13 : decode cX12_law 13 = .ok (.bipush 10, 2) := zo_p16 zh_cX12_law_0 13 10 rfl rfl
theorem dX12_law_15 : decode cX12_law 15 = .ok (.irem, 1) := zo_112 zh_cX12_law_0 15 rfl
theorem dX12_law_16 : decode cX12_law 16 = .ok (.invokestatic 155, 3) := zo_184 zh_cX12_law_0 16 rfl
theorem dX12_law_19 : decode cX12_law 19 = .ok (.ifCond .ne 5, 3) := zo_p154 zh_cX12_law_0 19 5 rfl rfl
theorem zh_cX12_law_1 : zck [0, 5, 2, 172, 42, 3, 181, 0, 191, 42, 2, 181, 0, 202, 42, 3, 181, 1, 2, 42, 3, 181] (zdu 20 cX12_law.data.toList) = true := by decide +kernel
theorem dX12_law_22 : decode cX12_law 22 = .ok (.iconst (-1), 1) := zo_2 zh_cX12_law_1 2 rfl
theorem dX12_law_23 : decode cX12_law 23 = .ok (.ireturn, 1) := zo_172 zh_cX12_law_1 3 rfl
theorem dX12_law_24 : decode cX12_law 24 = .ok (.aload_n 0, 1) := zo_42 zh_cX12_law_1 4 rfl
theorem dX12_law_25 : decode cX12_law 25 = .ok (.iconst 0, 1) := zo_3 zh_cX12_law_1 5 rfl
theorem dX12_law_26 : decode cX12_law 26 = .ok (.putfield 191, 3) := zo_181 zh_cX12_law_1 6 rfl
theorem dX12_law_29 : decode cX12_law 29 = .ok (.aload_n 0, 1) := zo_42 zh_cX12_law_1 9 rfl
theorem dX12_law_30 : decode cX12_law 30 = .ok (.iconst (-1), 1) := zo_2 zh_cX12_law_1 10 rfl
theorem dX12_law_31 : decode cX12_law 31 = .ok (.putfield 202, 3) := zo_181 zh_cX12_law_1 11 rfl
theorem dX12_law_34 : decode cX12_law 34 = .ok (.aload_n 0, 1) := zo_42 zh_cX12_law_1 14 rfl
theorem dX12_law_35 : decode cX12_law 35 = .ok (.iconst 0, 1) := zo_3 zh_cX12_law_1 15 rfl
theorem dX12_law_36 : decode cX12_law 36 = .ok (.putfield 258, 3) := zo_181 zh_cX12_law_1 16 rfl
theorem dX12_law_39 : decode cX12_law 39 = .ok (.aload_n 0, 1) := zo_42 zh_cX12_law_1 19 rfl
theorem zh_cX12_law_2 : zck [3, 181, 0, 255, 42, 180, 0, 89, 16, 32, 3, 79, 42, 182, 1, 37, 42, 180, 0, 202, 156, 0] (zdu 40 cX12_law.data.toList) = true := by decide +kernel
theorem dX12_law_40 : decode cX12_law 40 = .ok (.iconst 0, 1) := zo_3 zh_cX12_law_2 0 rfl
theorem dX12_law_41 : decode cX12_law 41 = .ok (.putfield 255, 3) := zo_181 zh_cX12_law_2 1 rfl
theorem dX12_law_44 : decode cX12_law 44 = .ok (.aload_n 0, 1) := zo_42 zh_cX12_law_2 4 rfl
theorem dX12_law_45 : decode cX12_law 45 = .ok (.getfield 89, 3) := zo_180 zh_cX12_law_2 5 rfl
theorem dX12_law_48 : decode cX12_law 48 = .ok (.bipush 32, 2) := zo_p16 zh_cX12_law_2 8 32 rfl rfl
theorem dX12_law_50 : decode cX12_law 50 = .ok (.iconst 0, 1) := zo_3 zh_cX12_law_2 10 rfl
theorem dX12_law_51 : decode cX12_law 51 = .ok (.iastore, 1) := zo_79 zh_cX12_law_2 11 rfl
theorem dX12_law_52 : decode cX12_law 52 = .ok (.aload_n 0, 1) := zo_42 zh_cX12_law_2 12 rfl
theorem dX12_law_53 : decode cX12_law 53 = .ok (.invokevirtual 293, 3) := zo_182 zh_cX12_law_2 13 rfl
theorem dX12_law_56 : decode cX12_law 56 = .ok (.aload_n 0, 1) := zo_42 zh_cX12_law_2 16 rfl
theorem dX12_law_57 : decode cX12_law 57 = .ok (.getfield 202, 3) := zo_180 zh_cX12_law_2 17 rfl
theorem zh_cX12_law_3 : zck [156, 0, 29, 42, 182, 0, 194, 16, 59, 160, 0, 20, 42, 89, 180, 0, 191, 4, 96, 181, 0, 191] (zdu 60 cX12_law.data.toList) = true := by decide +kernel
theorem dX12_law_60 : decode cX12_law 60 = .ok (.ifCond .ge 29, 3) := zo_p156 zh_cX12_law_3 0 29 rfl rfl
theorem dX12_law_63 : decode cX12_law 63 = .ok (.aload_n 0, 1) := zo_42 zh_cX12_law_3 3 rfl
theorem dX12_law_64 : decode cX12_law 64 = .ok (.invokevirtual 194, 3) := zo_182 zh_cX12_law_3 4 rfl
theorem dX12_law_67 : decode cX12_law 67 = .ok (.bipush 59, 2) := zo_p16 zh_cX12_law_3 7 59 rfl rfl
theorem dX12_law_69 : decode cX12_law 69 = .ok (.if_icmp .ne 20, 3) := zo_p160 zh_cX12_law_3 9 20 rfl rfl
theorem dX12_law_72 : decode cX12_law 72 = .ok (.aload_n 0, 1) := zo_42 zh_cX12_law_3 12 rfl
theorem dX12_law_73 : decode cX12_law 73 = .ok (.dup, 1) := zo_89 zh_cX12_law_3 13 rfl
theorem dX12_law_74 : decode cX12_law 74 = .ok (.getfield 191, 3) := zo_180 zh_cX12_law_3 14 rfl
theorem dX12_law_77 : decode cX12_law 77 = .ok (.iconst 1, 1) := zo_4 zh_cX12_law_3 17 rfl
theorem dX12_law_78 : decode cX12_law 78 = .ok (.iadd, 1) := zo_96 zh_cX12_law_3 18 rfl
theorem dX12_law_79 : decode cX12_law 79 = .ok (.putfield 191, 3) := zo_181 zh_cX12_law_3 19 rfl
theorem zh_cX12_law_4 : zck [0, 191, 42, 182, 1, 37, 167, 255, 226, 42, 180, 0, 202, 156, 0, 18, 42, 180, 0, 191, 42, 180] (zdu 80 cX12_law.data.toList) = true := by decide +kernel
theorem dX12_law_82 : decode cX12_law 82 = .ok (.aload_n 0, 1) := zo_42 zh_cX12_law_4 2 rfl
theorem dX12_law_83 : decode cX12_law 83 = .ok (.invokevirtual 293, 3) := zo_182 zh_cX12_law_4 3 rfl
theorem dX12_law_86 : decode cX12_law 86 = .ok (.goto (-30), 3) := zo_n167 zh_cX12_law_4 6 29 rfl rfl
theorem dX12_law_89 : decode cX12_law 89 = .ok (.aload_n 0, 1) := zo_42 zh_cX12_law_4 9 rfl
theorem dX12_law_90 : decode cX12_law 90 = .ok (.getfield 202, 3) := zo_180 zh_cX12_law_4 10 rfl
theorem dX12_law_93 : decode cX12_law 93 = .ok (.ifCond .ge 18, 3) := zo_p156 zh_cX12_law_4 13 18 rfl rfl
theorem dX12_law_96 : decode cX12_law 96 = .ok (.aload_n 0, 1) := zo_42 zh_cX12_law_4 16 rfl
theorem dX12_law_97 : decode cX12_law 97 = .ok (.getfield 191, 3) := zo_180 zh_cX12_law_4 17 rfl
theorem zh_cX12_law_5 : zck [42, 180, 0, 185, 162, 0, 7, 42, 182, 0, 205, 42, 3, 181, 0, 185, 42, 180, 0, 202, 155, 0] (zdu 100 cX12_law.data.toList) = true := by decide +kernel
theorem dX12_law_100 : decode cX12_law 100 = .ok (.aload_n 0, 1) := zo_42 zh_cX12_law_5 0 rfl
theorem dX12_law_101 : decode cX12_law 101 = .ok (.getfield 185, 3) := zo_180 zh_cX12_law_5 1 rfl
theorem dX12_law_104 : decode cX12_law 104 = .ok (.if_icmp .ge 7, 3) := zo_p162 zh_cX12_law_5 4 7 rfl rfl
theorem dX12_law_107 : decode cX12_law 107 = .ok (.aload_n 0, 1) := zo_42 zh_cX12_law_5 7 rfl
theorem dX12_law_108 : decode cX12_law 108 = .ok (.invokevirtual 205, 3) := zo_182 zh_cX12_law_5 8 rfl
theorem dX12_law_111 : decode cX12_law 111 = .ok (.aload_n 0, 1) := zo_42 zh_cX12_law_5 11 rfl
theorem dX12_law_112 : decode cX12_law 112 = .ok (.iconst 0, 1) := zo_3 zh_cX12_law_5 12 rfl
theorem dX12_law_113 : decode cX12_law 113 = .ok (.putfield 185, 3) := zo_181 zh_cX12_law_5 13 rfl
theorem dX12_law_116 : decode cX12_law 116 = .ok (.aload_n 0, 1) := zo_42 zh_cX12_law_5 16 rfl
theorem dX12_law_117 : decode cX12_law 117 = .ok (.getfield 202, 3) := zo_180 zh_cX12_law_5 17 rfl
theorem zh_cX12_law_6 : zck [155, 0, 11, 16, 156, 42, 180, 0, 202, 100, 172, 16, 8, 27, 16, 10, 108, 104, 27, 16, 10, 112] (zdu 120 cX12_law.data.toList) = true := by decide +kernel
theorem dX12_law_120 : decode cX12_law 120 = .ok (.ifCond .lt 11, 3) := zo_p155 zh_cX12_law_6 0 11 rfl rfl
theorem dX12_law_123 : decode cX12_law 123 = .ok (.bipush (-100), 2) := zo_n16 zh_cX12_law_6 3 99 rfl rfl
theorem dX12_law_125 : decode cX12_law 125 = .ok (.aload_n 0, 1) := zo_42 zh_cX12_law_6 5 rfl
theorem dX12_law_126 : decode cX12_law 126 = .ok (.getfield 202, 3) := zo_180 zh_cX12_law_6 6 rfl
theorem dX12_law_129 : decode cX12_law 129 = .ok (.isub, 1) := zo_100 zh_cX12_law_6 9 rfl
theorem dX12_law_130 : decode cX12_law 130 = .ok (.ireturn, 1) := zo_172 zh_cX12_law_6 10 rfl
theorem dX12_law_131 : decode cX12_law 131 = .ok (.bipush 8, 2) := zo_p16 zh_cX12_law_6 11 8 rfl rfl
theorem dX12_law_133 : decode cX12_law 133 = .ok (.iload_n 1, 1) := zo_27 zh_cX12_law_6 13 rfl
theorem dX12_law_134 : decode cX12_law 134 = .ok (.bipush 10, 2) := zo_p16 zh_cX12_law_6 14 10 rfl rfl
theorem dX12_law_136 : decode cX12_law 136 = .ok (.idiv, 1) := zo_108 zh_cX12_law_6 16 rfl
theorem dX12_law_137 : decode cX12_law 137 = .ok (.imul, 1) := zo_104 zh_cX12_law_6 17 rfl
theorem dX12_law_138 : decode cX12_law 138 = .ok (.iload_n 1, 1) := zo_27 zh_cX12_law_6 18 rfl
theorem dX12_law_139 : decode cX12_law 139 = .ok (.bipush 10, 2) := zo_p16 zh_cX12_law_6 19 10 rfl rfl
theorem zh_cX12_law_7 : zck [10, 112, 96, 61, 3, 62, 29, 42, 180, 0, 255, 162, 0, 53, 42, 180, 0, 83, 17, 0, 130, 28] (zdu 140 cX12_law.data.toList) = true := by decide +kernel
theorem dX12_law_141 : decode cX12_law 141 = .ok (.irem, 1) := zo_112 zh_cX12_law_7 1 rfl
theorem dX12_law_142 : decode cX12_law 142 = .ok (.iadd, 1) := zo_96 zh_cX12_law_7 2 rfl
theorem dX12_law_143 : decode cX12_law 143 = .ok (.istore_n 2, 1) := zo_61 zh_cX12_law_7 3 rfl
theorem dX12_law_144 : decode cX12_law 144 = .ok (.iconst 0, 1) := zo_3 zh_cX12_law_7 4 rfl
theorem dX12_law_145 : decode cX12_law 145 = .ok (.istore_n 3, 1) := zo_62 zh_cX12_law_7 5 rfl
theorem dX12_law_146 : decode cX12_law 146 = .ok (.iload_n 3, 1) := zo_29 zh_cX12_law_7 6 rfl
theorem dX12_law_147 : decode cX12_law 147 = .ok (.aload_n 0, 1) := zo_42 zh_cX12_law_7 7 rfl
theorem dX12_law_148 : decode cX12_law 148 = .ok (.getfield 255, 3) := zo_180 zh_cX12_law_7 8 rfl
theorem dX12_law_151 : decode cX12_law 151 = .ok (.if_icmp .ge 53, 3) := zo_p162 zh_cX12_law_7 11 53 rfl rfl
theorem dX12_law_154 : decode cX12_law 154 = .ok (.aload_n 0, 1) := zo_42 zh_cX12_law_7 14 rfl
theorem dX12_law_155 : decode cX12_law 155 = .ok (.getfield 83, 3) := zo_180 zh_cX12_law_7 15 rfl
theorem dX12_law_158 : decode cX12_law 158 = .ok (.sipush 130, 3) := zo_p17 zh_cX12_law_7 18 130 rfl rfl
theorem zh_cX12_law_8 : zck [130, 28, 104, 29, 96, 42, 180, 0, 83, 17, 16, 64, 29, 96, 51, 84, 42, 180, 0, 86, 17, 0] (zdu 160 cX12_law.data.toList) = true := by decide +kernel
theorem dX12_law_161 : decode cX12_law 161 = .ok (.iload_n 2, 1) := zo_28 zh_cX12_law_8 1 rfl
theorem dX12_law_162 : decode cX12_law 162 = .ok (.imul, 1) := zo_104 zh_cX12_law_8 2 rfl
theorem dX12_law_163 : decode cX12_law 163 = .ok (.iload_n 3, 1) := zo_29 zh_cX12_law_8 3 rfl
theorem dX12_law_164 : decode cX12_law 164 = .ok (.iadd, 1) := zo_96 zh_cX12_law_8 4 rfl
theorem dX12_law_165 : decode cX12_law 165 = .ok (.aload_n 0, 1) := zo_42 zh_cX12_law_8 5 rfl
theorem dX12_law_166 : decode cX12_law 166 = .ok (.getfield 83, 3) := zo_180 zh_cX12_law_8 6 rfl
theorem dX12_law_169 : decode cX12_law 169 = .ok (.sipush 4160, 3) := zo_p17 zh_cX12_law_8 9 4160 rfl rfl
theorem dX12_law_172 : decode cX12_law 172 = .ok (.iload_n 3, 1) := zo_29 zh_cX12_law_8 12 rfl
theorem dX12_law_173 : decode cX12_law 173 = .ok (.iadd, 1) := zo_96 zh_cX12_law_8 13 rfl
theorem dX12_law_174 : decode cX12_law 174 = .ok (.baload, 1) := zo_51 zh_cX12_law_8 14 rfl
theorem dX12_law_175 : decode cX12_law 175 = .ok (.bastore, 1) := zo_84 zh_cX12_law_8 15 rfl
theorem dX12_law_176 : decode cX12_law 176 = .ok (.aload_n 0, 1) := zo_42 zh_cX12_law_8 16 rfl
theorem dX12_law_177 : decode cX12_law 177 = .ok (.getfield 86, 3) := zo_180 zh_cX12_law_8 17 rfl
theorem zh_cX12_law_9 : zck [17, 0, 130, 28, 104, 29, 96, 42, 180, 0, 86, 17, 16, 64, 29, 96, 46, 79, 132, 3, 1, 167] (zdu 180 cX12_law.data.toList) = true := by decide +kernel
theorem dX12_law_180 : decode cX12_law 180 = .ok (.sipush 130, 3) := zo_p17 zh_cX12_law_9 0 130 rfl rfl
theorem dX12_law_183 : decode cX12_law 183 = .ok (.iload_n 2, 1) := zo_28 zh_cX12_law_9 3 rfl
theorem dX12_law_184 : decode cX12_law 184 = .ok (.imul, 1) := zo_104 zh_cX12_law_9 4 rfl
theorem dX12_law_185 : decode cX12_law 185 = .ok (.iload_n 3, 1) := zo_29 zh_cX12_law_9 5 rfl
theorem dX12_law_186 : decode cX12_law 186 = .ok (.iadd, 1) := zo_96 zh_cX12_law_9 6 rfl
theorem dX12_law_187 : decode cX12_law 187 = .ok (.aload_n 0, 1) := zo_42 zh_cX12_law_9 7 rfl
theorem dX12_law_188 : decode cX12_law 188 = .ok (.getfield 86, 3) := zo_180 zh_cX12_law_9 8 rfl
theorem dX12_law_191 : decode cX12_law 191 = .ok (.sipush 4160, 3) := zo_p17 zh_cX12_law_9 11 4160 rfl rfl
theorem dX12_law_194 : decode cX12_law 194 = .ok (.iload_n 3, 1) := zo_29 zh_cX12_law_9 14 rfl
theorem dX12_law_195 : decode cX12_law 195 = .ok (.iadd, 1) := zo_96 zh_cX12_law_9 15 rfl
theorem dX12_law_196 : decode cX12_law 196 = .ok (.iaload, 1) := zo_46 zh_cX12_law_9 16 rfl
theorem dX12_law_197 : decode cX12_law 197 = .ok (.iastore, 1) := zo_79 zh_cX12_law_9 17 rfl
theorem dX12_law_198 : decode cX12_law 198 = .ok (.iinc 3 1, 3) := zo_p132 zh_cX12_law_9 18 1 rfl rfl
theorem zh_cX12_law_10 : zck [1, 167, 255, 201, 42, 180, 0, 89, 28, 42, 180, 0, 89, 16, 32, 46, 79, 3, 62, 29, 42, 180] (zdu 200 cX12_law.data.toList) = true := by decide +kernel
theorem dX12_law_201 : decode cX12_law 201 = .ok (.goto (-55), 3) := zo_n167 zh_cX12_law_10 1 54 rfl rfl
theorem dX12_law_204 : decode cX12_law 204 = .ok (.aload_n 0, 1) := zo_42 zh_cX12_law_10 4 rfl
theorem dX12_law_205 : decode cX12_law 205 = .ok (.getfield 89, 3) := zo_180 zh_cX12_law_10 5 rfl
theorem dX12_law_208 : decode cX12_law 208 = .ok (.iload_n 2, 1) := zo_28 zh_cX12_law_10 8 rfl
theorem dX12_law_209 : decode cX12_law 209 = .ok (.aload_n 0, 1) := zo_42 zh_cX12_law_10 9 rfl
theorem dX12_law_210 : decode cX12_law 210 = .ok (.getfield 89, 3) := zo_180 zh_cX12_law_10 10 rfl
theorem dX12_law_213 : decode cX12_law 213 = .ok (.bipush 32, 2) := zo_p16 zh_cX12_law_10 13 32 rfl rfl
theorem dX12_law_215 : decode cX12_law 215 = .ok (.iaload, 1) := zo_46 zh_cX12_law_10 15 rfl
theorem dX12_law_216 : decode cX12_law 216 = .ok (.iastore, 1) := zo_79 zh_cX12_law_10 16 rfl
theorem dX12_law_217 : decode cX12_law 217 = .ok (.iconst 0, 1) := zo_3 zh_cX12_law_10 17 rfl
theorem dX12_law_218 : decode cX12_law 218 = .ok (.istore_n 3, 1) := zo_62 zh_cX12_law_10 18 rfl
theorem dX12_law_219 : decode cX12_law 219 = .ok (.iload_n 3, 1) := zo_29 zh_cX12_law_10 19 rfl
theorem zh_cX12_law_11 : zck [42, 180, 0, 89, 28, 46, 162, 0, 51, 42, 180, 0, 92, 16, 61, 28, 104, 29, 96, 42, 180, 0] (zdu 220 cX12_law.data.toList) = true := by decide +kernel
theorem dX12_law_220 : decode cX12_law 220 = .ok (.aload_n 0, 1) := zo_42 zh_cX12_law_11 0 rfl
theorem dX12_law_221 : decode cX12_law 221 = .ok (.getfield 89, 3) := zo_180 zh_cX12_law_11 1 rfl
theorem dX12_law_224 : decode cX12_law 224 = .ok (.iload_n 2, 1) := zo_28 zh_cX12_law_11 4 rfl
theorem dX12_law_225 : decode cX12_law 225 = .ok (.iaload, 1) := zo_46 zh_cX12_law_11 5 rfl
theorem dX12_law_226 : decode cX12_law 226 = .ok (.if_icmp .ge 51, 3) := zo_p162 zh_cX12_law_11 6 51 rfl rfl
theorem dX12_law_229 : decode cX12_law 229 = .ok (.aload_n 0, 1) := zo_42 zh_cX12_law_11 9 rfl
theorem dX12_law_230 : decode cX12_law 230 = .ok (.getfield 92, 3) := zo_180 zh_cX12_law_11 10 rfl
theorem dX12_law_233 : decode cX12_law 233 = .ok (.bipush 61, 2) := zo_p16 zh_cX12_law_11 13 61 rfl rfl
theorem dX12_law_235 : decode cX12_law 235 = .ok (.iload_n 2, 1) := zo_28 zh_cX12_law_11 15 rfl
theorem dX12_law_236 : decode cX12_law 236 = .ok (.imul, 1) := zo_104 zh_cX12_law_11 16 rfl
theorem dX12_law_237 : decode cX12_law 237 = .ok (.iload_n 3, 1) := zo_29 zh_cX12_law_11 17 rfl
theorem dX12_law_238 : decode cX12_law 238 = .ok (.iadd, 1) := zo_96 zh_cX12_law_11 18 rfl
theorem dX12_law_239 : decode cX12_law 239 = .ok (.aload_n 0, 1) := zo_42 zh_cX12_law_11 19 rfl
theorem zh_cX12_law_12 : zck [180, 0, 92, 17, 7, 160, 29, 96, 53, 86, 42, 180, 0, 96, 16, 61, 28, 104, 29, 96, 42, 180] (zdu 240 cX12_law.data.toList) = true := by decide +kernel
theorem dX12_law_240 : decode cX12_law 240 = .ok (.getfield 92, 3) := zo_180 zh_cX12_law_12 0 rfl
theorem dX12_law_243 : decode cX12_law 243 = .ok (.sipush 1952, 3) := zo_p17 zh_cX12_law_12 3 1952 rfl rfl
theorem dX12_law_246 : decode cX12_law 246 = .ok (.iload_n 3, 1) := zo_29 zh_cX12_law_12 6 rfl
theorem dX12_law_247 : decode cX12_law 247 = .ok (.iadd, 1) := zo_96 zh_cX12_law_12 7 rfl
theorem zo_53 {c : ByteArray} {s : Nat} {K : List Nat} (h : zck K (zdu s c.data.toList) = true) (k : Nat) (hk : zt1 K k 53 = true) : decode c (s + k) = .ok (.saload, 1) := zde ((zbd (zu1 (zh1 h hk))).trans rfl)
theorem dX12_law_248 : decode cX12_law 248 = .ok (.saload, 1) := zo_53 zh_cX12_law_12 8 rfl
theorem dX12_law_249 : decode cX12_law 249 = .ok (.sastore, 1) := zo_86 zh_cX12_law_12 9 rfl
theorem dX12_law_250 : decode cX12_law 250 = .ok (.aload_n 0, 1) := zo_42 zh_cX12_law_12 10 rfl
theorem dX12_law_251 : decode cX12_law 251 = .ok (.getfield 96, 3) := zo_180 zh_cX12_law_12 11 rfl
theorem dX12_law_254 : decode cX12_law 254 = .ok (.bipush 61, 2) := zo_p16 zh_cX12_law_12 14 61 rfl rfl
theorem dX12_law_256 : decode cX12_law 256 = .ok (.iload_n 2, 1) := zo_28 zh_cX12_law_12 16 rfl
theorem dX12_law_257 : decode cX12_law 257 = .ok (.imul, 1) := zo_104 zh_cX12_law_12 17 rfl
theorem dX12_law_258 : decode cX12_law 258 = .ok (.iload_n 3, 1) := zo_29 zh_cX12_law_12 18 rfl
theorem dX12_law_259 : decode cX12_law 259 = .ok (.iadd, 1) := zo_96 zh_cX12_law_12 19 rfl
theorem zh_cX12_law_13 : zck [42, 180, 0, 96, 17, 7, 160, 29, 96, 53, 86, 132, 3, 1, 167, 255, 201, 4, 172] (zdu 260 cX12_law.data.toList) = true := by decide +kernel
theorem dX12_law_260 : decode cX12_law 260 = .ok (.aload_n 0, 1) := zo_42 zh_cX12_law_13 0 rfl
theorem dX12_law_261 : decode cX12_law 261 = .ok (.getfield 96, 3) := zo_180 zh_cX12_law_13 1 rfl
theorem dX12_law_264 : decode cX12_law 264 = .ok (.sipush 1952, 3) := zo_p17 zh_cX12_law_13 4 1952 rfl rfl
theorem dX12_law_267 : decode cX12_law 267 = .ok (.iload_n 3, 1) := zo_29 zh_cX12_law_13 7 rfl
theorem dX12_law_268 : decode cX12_law 268 = .ok (.iadd, 1) := zo_96 zh_cX12_law_13 8 rfl
theorem dX12_law_269 : decode cX12_law 269 = .ok (.saload, 1) := zo_53 zh_cX12_law_13 9 rfl
theorem dX12_law_270 : decode cX12_law 270 = .ok (.sastore, 1) := zo_86 zh_cX12_law_13 10 rfl
theorem dX12_law_271 : decode cX12_law 271 = .ok (.iinc 3 1, 3) := zo_p132 zh_cX12_law_13 11 1 rfl rfl
theorem dX12_law_274 : decode cX12_law 274 = .ok (.goto (-55), 3) := zo_n167 zh_cX12_law_13 14 54 rfl rfl
theorem dX12_law_277 : decode cX12_law 277 = .ok (.iconst 1, 1) := zo_4 zh_cX12_law_13 17 rfl
theorem dX12_law_278 : decode cX12_law 278 = .ok (.ireturn, 1) := zo_172 zh_cX12_law_13 18 rfl
abbrev z_X12_law : List Cond := .code yX12_law cX12_law 4 (some .int) :: zW
abbrev wl_X12_law (ad : Nat → Nat) (cs : Nat → ClassId)  (mod_code : Int32) (mod_shoes : Int32) (mod_claims : Int32) (mod_taped : Int32) (mod_here : Int32) (mod_fault : Int32) (mod_suits : Int32) (mod_doneMany : Int32) (mod_undoneMany : Int32) (mod_open : Int32) (mod_laid : Int32) (mod_isBoth : Int32) (mod_wished : Int32) (mod_bestMany : Int32) (mod_bestRow : Int32) (mod_ringDigits : Int32) (mod_traces : Int32) (mod_tape : Nat → Int32) (mod_act : Nat → Int32) (mod_with : Nat → Int32) (mod_lineMany : Nat → Int32) (mod_testEnd : Nat → Int32) (mod_lineEnd : Nat → Int32) : va_W := [((ad 41), .inr (12, [.int mod_code, .int mod_shoes, .ref (ad 42), .ref (ad 43), .ref (ad 44), .ref (ad 45), .int mod_claims, .ref (ad 46), .ref (ad 47), .ref (ad 48), .ref (ad 49), .ref (ad 50), .int mod_taped, .int mod_here, .int mod_fault, .int mod_suits, .ref (ad 51), .ref (ad 52), .ref (ad 53), .ref (ad 54), .ref (ad 55), .ref (ad 56), .ref (ad 57), .ref (ad 58), .ref (ad 59), .ref (ad 60), .ref (ad 61), .int mod_doneMany, .int mod_undoneMany, .ref (ad 62), .ref (ad 63), .ref (ad 64), .ref (ad 65), .int mod_open, .int mod_laid, .ref (ad 66), .ref (ad 67), .ref (ad 68), .ref (ad 69), .ref (ad 70), .ref (ad 71), .ref (ad 72), .ref (ad 73), .ref (ad 74), .ref (ad 75), .int mod_isBoth, .int mod_wished, .ref (ad 76), .ref (ad 77), .int mod_bestMany, .int mod_bestRow, .ref (ad 78), .ref (ad 79), .int mod_ringDigits, .int mod_traces, .ref (ad 80), .ref (ad 81), .ref (ad 82), .ref (ad 83), .ref (ad 84)])), ((ad 50), .inl (cs 2, 120, .inl mod_tape)), ((ad 66), .inl (cs 2, 4290, .inl mod_act)), ((ad 67), .inl (cs 0, 4290, .inl mod_with)), ((ad 68), .inl (cs 0, 33, .inl mod_lineMany)), ((ad 69), .inl (cs 3, 2013, .inl mod_testEnd)), ((ad 70), .inl (cs 3, 2013, .inl mod_lineEnd))]
def Q_X12_law (D : va_G) (cs : Nat → ClassId) (ad : Nat → Nat)  (mod_code : Int32) (mod_shoes : Int32) (mod_claims : Int32) (mod_suits : Int32) (mod_doneMany : Int32) (mod_undoneMany : Int32) (mod_isBoth : Int32) (mod_wished : Int32) (mod_bestMany : Int32) (mod_bestRow : Int32) (mod_ringDigits : Int32) (mod_traces : Int32) (mod_tape : Nat → Int32) (A : Nat → Prop) (R : Int32 × Int32 × Int32 × Int32 × Int32 × Int32 × (Nat → Int32) × (Nat → Int32) × (Nat → Int32) × (Nat → Int32) × (Nat → Int32)) : Array Value → State → Outcome → State → Prop :=
  va_Qi (fun (r : Int32) (u : Int32 × Int32 × Int32 × Int32 × Int32 × (Nat → Int32) × (Nat → Int32) × (Nat → Int32) × (Nat → Int32) × (Nat → Int32)) => (r, u) = R) (fun (u : Int32 × Int32 × Int32 × Int32 × Int32 × (Nat → Int32) × (Nat → Int32) × (Nat → Int32) × (Nat → Int32) × (Nat → Int32)) (t : State) => va_P D classes (wl_X12_law ad cs mod_code mod_shoes mod_claims u.1 u.2.1 u.2.2.1 mod_suits mod_doneMany mod_undoneMany u.2.2.2.1 u.2.2.2.2.1 mod_isBoth mod_wished mod_bestMany mod_bestRow mod_ringDigits mod_traces mod_tape u.2.2.2.2.2.1 u.2.2.2.2.2.2.1 u.2.2.2.2.2.2.2.1 u.2.2.2.2.2.2.2.2.1 u.2.2.2.2.2.2.2.2.2) t.heap ∧ va_D A (wl_X12_law ad cs mod_code mod_shoes mod_claims u.1 u.2.1 u.2.2.1 mod_suits mod_doneMany mod_undoneMany u.2.2.2.1 u.2.2.2.2.1 mod_isBoth mod_wished mod_bestMany mod_bestRow mod_ringDigits mod_traces mod_tape u.2.2.2.2.2.1 u.2.2.2.2.2.2.1 u.2.2.2.2.2.2.2.1 u.2.2.2.2.2.2.2.2.1 u.2.2.2.2.2.2.2.2.2)) A
abbrev rm_X12_law : Room := { frames := 122, cells := 0, slots := 0, locals := 2681 }
theorem g_X12_293 : GoodIn zW (wsV RX12 293 RX12 yX12_line z_X12_line) := zGV kw_1622 kw_1624 kw_33 kw_95 kw_1625
theorem hd_X12_line : yX12_line.cls ≠ "java/lang/invoke/MethodHandle" ∧ yX12_line.cls ≠ "java/lang/invoke/VarHandle" ∧ (parseMethodDescriptor yX12_line.desc).map (fun d => d.parameters.length) = some 0 := by decide +kernel
def B_X12_law_219   (g56 : Int32 → Int32 → Int32 → Int32 → Int32 → Int32 → (Nat → Int32) → (Nat → Int32) → (Nat → Int32) → (Nat → Int32) → (Nat → Int32) → (Option (Int32 × Int32 × Int32 × Int32 × Int32 × Int32 × (Nat → Int32) × (Nat → Int32) × (Nat → Int32) × (Nat → Int32) × (Nat → Int32)))) (g146 : Int32 → Int32 → Int32 → Int32 → Int32 → Int32 → Int32 → (Nat → Int32) → (Nat → Int32) → (Nat → Int32) → (Nat → Int32) → (Nat → Int32) → (Option (Int32 × Int32 × Int32 × Int32 × Int32 × Int32 × (Nat → Int32) × (Nat → Int32) × (Nat → Int32) × (Nat → Int32) × (Nat → Int32)))) (g219 : Int32 → Int32 → Int32 → Int32 → Int32 → Int32 → Int32 → (Nat → Int32) → (Nat → Int32) → (Nat → Int32) → (Nat → Int32) → (Nat → Int32) → (Option (Int32 × Int32 × Int32 × Int32 × Int32 × Int32 × (Nat → Int32) × (Nat → Int32) × (Nat → Int32) × (Nat → Int32) × (Nat → Int32)))) (mod_code : Int32) (mod_shoes : Int32) (mod_claims : Int32) (mod_suits : Int32) (mod_doneMany : Int32) (mod_undoneMany : Int32) (mod_isBoth : Int32) (mod_wished : Int32) (mod_bestMany : Int32) (mod_bestRow : Int32) (mod_ringDigits : Int32) (mod_traces : Int32) (mod_tape : Nat → Int32) (x2 : Int32) (x3 : Int32) (mod_taped : Int32) (mod_here : Int32) (mod_fault : Int32) (mod_open : Int32) (mod_laid : Int32) (mod_act : Nat → Int32) (mod_with : Nat → Int32) (mod_lineMany : Nat → Int32) (mod_testEnd : Nat → Int32) (mod_lineEnd : Nat → Int32) : Option (Int32 × Int32 × Int32 × Int32 × Int32 × Int32 × (Nat → Int32) × (Nat → Int32) × (Nat → Int32) × (Nat → Int32) × (Nat → Int32)) :=
  (if (x2 < 0 ∨ 33 ≤ x2.toNatClampNeg) then none else (if (mod_lineMany x2.toNatClampNeg) ≤ x3 then (some ((1 : Int32), mod_taped, mod_here, mod_fault, mod_open, mod_laid, mod_act, mod_with, mod_lineMany, mod_testEnd, mod_lineEnd)) else (if (((1952 : Int32) + x3) < 0 ∨ 2013 ≤ ((1952 : Int32) + x3).toNatClampNeg) then none else (zk_let (mod_testEnd ((1952 : Int32) + x3).toNatClampNeg) (fun v_56 => (if ((((61 : Int32) * x2) + x3) < 0 ∨ 2013 ≤ (((61 : Int32) * x2) + x3).toNatClampNeg) then none else (zk_let (upd mod_testEnd (((61 : Int32) * x2) + x3).toNatClampNeg (vp_nar .short v_56)) (fun f_58 => (if (((1952 : Int32) + x3) < 0 ∨ 2013 ≤ ((1952 : Int32) + x3).toNatClampNeg) then none else (zk_let (mod_lineEnd ((1952 : Int32) + x3).toNatClampNeg) (fun v_60 => (if ((((61 : Int32) * x2) + x3) < 0 ∨ 2013 ≤ (((61 : Int32) * x2) + x3).toNatClampNeg) then none else (zk_let (upd mod_lineEnd (((61 : Int32) * x2) + x3).toNatClampNeg (vp_nar .short v_60)) (fun f_62 => (zk_let (x3 + (1 : Int32)) (fun v_63 => (g219 x2 v_63 mod_taped mod_here mod_fault mod_open mod_laid mod_act mod_with mod_lineMany f_58 f_62)))))))))))))))))
def B_X12_law_146   (g56 : Int32 → Int32 → Int32 → Int32 → Int32 → Int32 → (Nat → Int32) → (Nat → Int32) → (Nat → Int32) → (Nat → Int32) → (Nat → Int32) → (Option (Int32 × Int32 × Int32 × Int32 × Int32 × Int32 × (Nat → Int32) × (Nat → Int32) × (Nat → Int32) × (Nat → Int32) × (Nat → Int32)))) (g146 : Int32 → Int32 → Int32 → Int32 → Int32 → Int32 → Int32 → (Nat → Int32) → (Nat → Int32) → (Nat → Int32) → (Nat → Int32) → (Nat → Int32) → (Option (Int32 × Int32 × Int32 × Int32 × Int32 × Int32 × (Nat → Int32) × (Nat → Int32) × (Nat → Int32) × (Nat → Int32) × (Nat → Int32)))) (g219 : Int32 → Int32 → Int32 → Int32 → Int32 → Int32 → Int32 → (Nat → Int32) → (Nat → Int32) → (Nat → Int32) → (Nat → Int32) → (Nat → Int32) → (Option (Int32 × Int32 × Int32 × Int32 × Int32 × Int32 × (Nat → Int32) × (Nat → Int32) × (Nat → Int32) × (Nat → Int32) × (Nat → Int32)))) (mod_code : Int32) (mod_shoes : Int32) (mod_claims : Int32) (mod_suits : Int32) (mod_doneMany : Int32) (mod_undoneMany : Int32) (mod_isBoth : Int32) (mod_wished : Int32) (mod_bestMany : Int32) (mod_bestRow : Int32) (mod_ringDigits : Int32) (mod_traces : Int32) (mod_tape : Nat → Int32) (x2 : Int32) (x3 : Int32) (mod_taped : Int32) (mod_here : Int32) (mod_fault : Int32) (mod_open : Int32) (mod_laid : Int32) (mod_act : Nat → Int32) (mod_with : Nat → Int32) (mod_lineMany : Nat → Int32) (mod_testEnd : Nat → Int32) (mod_lineEnd : Nat → Int32) : Option (Int32 × Int32 × Int32 × Int32 × Int32 × Int32 × (Nat → Int32) × (Nat → Int32) × (Nat → Int32) × (Nat → Int32) × (Nat → Int32)) :=
  (if mod_laid ≤ x3 then (zk_let (mod_lineMany (32 : Int32).toNatClampNeg) (fun v_41 => (if (x2 < 0 ∨ 33 ≤ x2.toNatClampNeg) then none else (zk_let (upd mod_lineMany x2.toNatClampNeg v_41) (fun f_43 => (g219 x2 (0 : Int32) mod_taped mod_here mod_fault mod_open mod_laid mod_act mod_with f_43 mod_testEnd mod_lineEnd)))))) else (if (((4160 : Int32) + x3) < 0 ∨ 4290 ≤ ((4160 : Int32) + x3).toNatClampNeg) then none else (zk_let (mod_act ((4160 : Int32) + x3).toNatClampNeg) (fun v_45 => (if ((((130 : Int32) * x2) + x3) < 0 ∨ 4290 ≤ (((130 : Int32) * x2) + x3).toNatClampNeg) then none else (zk_let (upd mod_act (((130 : Int32) * x2) + x3).toNatClampNeg (vp_nar .byte v_45)) (fun f_47 => (if (((4160 : Int32) + x3) < 0 ∨ 4290 ≤ ((4160 : Int32) + x3).toNatClampNeg) then none else (zk_let (mod_with ((4160 : Int32) + x3).toNatClampNeg) (fun v_49 => (if ((((130 : Int32) * x2) + x3) < 0 ∨ 4290 ≤ (((130 : Int32) * x2) + x3).toNatClampNeg) then none else (zk_let (upd mod_with (((130 : Int32) * x2) + x3).toNatClampNeg v_49) (fun f_51 => (zk_let (x3 + (1 : Int32)) (fun v_52 => (g146 x2 v_52 mod_taped mod_here mod_fault mod_open mod_laid f_47 f_51 mod_lineMany mod_testEnd mod_lineEnd))))))))))))))))
def B_X12_law_111   (g56 : Int32 → Int32 → Int32 → Int32 → Int32 → Int32 → (Nat → Int32) → (Nat → Int32) → (Nat → Int32) → (Nat → Int32) → (Nat → Int32) → (Option (Int32 × Int32 × Int32 × Int32 × Int32 × Int32 × (Nat → Int32) × (Nat → Int32) × (Nat → Int32) × (Nat → Int32) × (Nat → Int32)))) (g146 : Int32 → Int32 → Int32 → Int32 → Int32 → Int32 → Int32 → (Nat → Int32) → (Nat → Int32) → (Nat → Int32) → (Nat → Int32) → (Nat → Int32) → (Option (Int32 × Int32 × Int32 × Int32 × Int32 × Int32 × (Nat → Int32) × (Nat → Int32) × (Nat → Int32) × (Nat → Int32) × (Nat → Int32)))) (g219 : Int32 → Int32 → Int32 → Int32 → Int32 → Int32 → Int32 → (Nat → Int32) → (Nat → Int32) → (Nat → Int32) → (Nat → Int32) → (Nat → Int32) → (Option (Int32 × Int32 × Int32 × Int32 × Int32 × Int32 × (Nat → Int32) × (Nat → Int32) × (Nat → Int32) × (Nat → Int32) × (Nat → Int32)))) (mod_code : Int32) (mod_shoes : Int32) (mod_claims : Int32) (mod_suits : Int32) (mod_doneMany : Int32) (mod_undoneMany : Int32) (mod_isBoth : Int32) (mod_wished : Int32) (mod_bestMany : Int32) (mod_bestRow : Int32) (mod_ringDigits : Int32) (mod_traces : Int32) (mod_tape : Nat → Int32) (x1 : Int32) (mod_taped : Int32) (mod_here : Int32) (mod_fault : Int32) (mod_open : Int32) (mod_laid : Int32) (mod_act : Nat → Int32) (mod_with : Nat → Int32) (mod_lineMany : Nat → Int32) (mod_testEnd : Nat → Int32) (mod_lineEnd : Nat → Int32) : Option (Int32 × Int32 × Int32 × Int32 × Int32 × Int32 × (Nat → Int32) × (Nat → Int32) × (Nat → Int32) × (Nat → Int32) × (Nat → Int32)) :=
  (if mod_fault < 0 then (zk_let (((8 : Int32) * (x1 / (10 : Int32))) + (x1 - x1 / (10 : Int32) * (10 : Int32))) (fun v_39 => (g146 v_39 (0 : Int32) (0 : Int32) mod_here mod_fault mod_open mod_laid mod_act mod_with mod_lineMany mod_testEnd mod_lineEnd))) else (some ((-100 : Int32) - mod_fault, (0 : Int32), mod_here, mod_fault, mod_open, mod_laid, mod_act, mod_with, mod_lineMany, mod_testEnd, mod_lineEnd)))
def B_X12_law_89   (g56 : Int32 → Int32 → Int32 → Int32 → Int32 → Int32 → (Nat → Int32) → (Nat → Int32) → (Nat → Int32) → (Nat → Int32) → (Nat → Int32) → (Option (Int32 × Int32 × Int32 × Int32 × Int32 × Int32 × (Nat → Int32) × (Nat → Int32) × (Nat → Int32) × (Nat → Int32) × (Nat → Int32)))) (g146 : Int32 → Int32 → Int32 → Int32 → Int32 → Int32 → Int32 → (Nat → Int32) → (Nat → Int32) → (Nat → Int32) → (Nat → Int32) → (Nat → Int32) → (Option (Int32 × Int32 × Int32 × Int32 × Int32 × Int32 × (Nat → Int32) × (Nat → Int32) × (Nat → Int32) × (Nat → Int32) × (Nat → Int32)))) (g219 : Int32 → Int32 → Int32 → Int32 → Int32 → Int32 → Int32 → (Nat → Int32) → (Nat → Int32) → (Nat → Int32) → (Nat → Int32) → (Nat → Int32) → (Option (Int32 × Int32 × Int32 × Int32 × Int32 × Int32 × (Nat → Int32) × (Nat → Int32) × (Nat → Int32) × (Nat → Int32) × (Nat → Int32)))) (mod_code : Int32) (mod_shoes : Int32) (mod_claims : Int32) (mod_suits : Int32) (mod_doneMany : Int32) (mod_undoneMany : Int32) (mod_isBoth : Int32) (mod_wished : Int32) (mod_bestMany : Int32) (mod_bestRow : Int32) (mod_ringDigits : Int32) (mod_traces : Int32) (mod_tape : Nat → Int32) (x1 : Int32) (mod_taped : Int32) (mod_here : Int32) (mod_fault : Int32) (mod_open : Int32) (mod_laid : Int32) (mod_act : Nat → Int32) (mod_with : Nat → Int32) (mod_lineMany : Nat → Int32) (mod_testEnd : Nat → Int32) (mod_lineEnd : Nat → Int32) : Option (Int32 × Int32 × Int32 × Int32 × Int32 × Int32 × (Nat → Int32) × (Nat → Int32) × (Nat → Int32) × (Nat → Int32) × (Nat → Int32)) :=
  (if 0 ≤ mod_fault then (B_X12_law_111 g56 g146 g219 mod_code mod_shoes mod_claims mod_suits mod_doneMany mod_undoneMany mod_isBoth mod_wished mod_bestMany mod_bestRow mod_ringDigits mod_traces mod_tape x1 mod_taped mod_here mod_fault mod_open mod_laid mod_act mod_with mod_lineMany mod_testEnd mod_lineEnd) else (if mod_taped ≤ mod_here then (B_X12_law_111 g56 g146 g219 mod_code mod_shoes mod_claims mod_suits mod_doneMany mod_undoneMany mod_isBoth mod_wished mod_bestMany mod_bestRow mod_ringDigits mod_traces mod_tape x1 mod_taped mod_here mod_fault mod_open mod_laid mod_act mod_with mod_lineMany mod_testEnd mod_lineEnd) else (zk_b1 (f_X12_wrong mod_code mod_shoes mod_claims mod_taped mod_here mod_fault mod_suits mod_doneMany mod_undoneMany mod_open mod_laid mod_isBoth mod_wished mod_bestMany mod_bestRow mod_ringDigits mod_traces) (fun u_36 => (B_X12_law_111 g56 g146 g219 mod_code mod_shoes mod_claims mod_suits mod_doneMany mod_undoneMany mod_isBoth mod_wished mod_bestMany mod_bestRow mod_ringDigits mod_traces mod_tape x1 mod_taped mod_here u_36 mod_open mod_laid mod_act mod_with mod_lineMany mod_testEnd mod_lineEnd)))))
def B_X12_law_56   (g56 : Int32 → Int32 → Int32 → Int32 → Int32 → Int32 → (Nat → Int32) → (Nat → Int32) → (Nat → Int32) → (Nat → Int32) → (Nat → Int32) → (Option (Int32 × Int32 × Int32 × Int32 × Int32 × Int32 × (Nat → Int32) × (Nat → Int32) × (Nat → Int32) × (Nat → Int32) × (Nat → Int32)))) (g146 : Int32 → Int32 → Int32 → Int32 → Int32 → Int32 → Int32 → (Nat → Int32) → (Nat → Int32) → (Nat → Int32) → (Nat → Int32) → (Nat → Int32) → (Option (Int32 × Int32 × Int32 × Int32 × Int32 × Int32 × (Nat → Int32) × (Nat → Int32) × (Nat → Int32) × (Nat → Int32) × (Nat → Int32)))) (g219 : Int32 → Int32 → Int32 → Int32 → Int32 → Int32 → Int32 → (Nat → Int32) → (Nat → Int32) → (Nat → Int32) → (Nat → Int32) → (Nat → Int32) → (Option (Int32 × Int32 × Int32 × Int32 × Int32 × Int32 × (Nat → Int32) × (Nat → Int32) × (Nat → Int32) × (Nat → Int32) × (Nat → Int32)))) (mod_code : Int32) (mod_shoes : Int32) (mod_claims : Int32) (mod_suits : Int32) (mod_doneMany : Int32) (mod_undoneMany : Int32) (mod_isBoth : Int32) (mod_wished : Int32) (mod_bestMany : Int32) (mod_bestRow : Int32) (mod_ringDigits : Int32) (mod_traces : Int32) (mod_tape : Nat → Int32) (x1 : Int32) (mod_taped : Int32) (mod_here : Int32) (mod_fault : Int32) (mod_open : Int32) (mod_laid : Int32) (mod_act : Nat → Int32) (mod_with : Nat → Int32) (mod_lineMany : Nat → Int32) (mod_testEnd : Nat → Int32) (mod_lineEnd : Nat → Int32) : Option (Int32 × Int32 × Int32 × Int32 × Int32 × Int32 × (Nat → Int32) × (Nat → Int32) × (Nat → Int32) × (Nat → Int32) × (Nat → Int32)) :=
  (if 0 ≤ mod_fault then (B_X12_law_89 g56 g146 g219 mod_code mod_shoes mod_claims mod_suits mod_doneMany mod_undoneMany mod_isBoth mod_wished mod_bestMany mod_bestRow mod_ringDigits mod_traces mod_tape x1 mod_taped mod_here mod_fault mod_open mod_laid mod_act mod_with mod_lineMany mod_testEnd mod_lineEnd) else (zk_b2 (f_X12_look mod_code mod_shoes mod_claims mod_taped mod_here mod_fault mod_suits mod_doneMany mod_undoneMany mod_open mod_laid mod_isBoth mod_wished mod_bestMany mod_bestRow mod_ringDigits mod_traces mod_tape) (fun r_19 u_20 => (if r_19 = (59 : Int32) then (zk_let (mod_here + (1 : Int32)) (fun v_23 => (zk_b9 (f_X12_line mod_code mod_shoes mod_claims mod_taped v_23 mod_fault mod_suits mod_doneMany mod_undoneMany mod_open mod_laid mod_isBoth mod_wished mod_bestMany mod_bestRow mod_ringDigits mod_traces mod_tape mod_act mod_with mod_lineMany mod_testEnd mod_lineEnd) (fun u_24 u_25 u_26 u_27 u_28 u_29 u_30 u_31 u_32 => (g56 x1 mod_taped u_24 u_25 u_26 u_27 u_28 u_29 u_30 u_31 u_32))))) else (B_X12_law_89 g56 g146 g219 mod_code mod_shoes mod_claims mod_suits mod_doneMany mod_undoneMany mod_isBoth mod_wished mod_bestMany mod_bestRow mod_ringDigits mod_traces mod_tape x1 mod_taped mod_here mod_fault mod_open mod_laid mod_act mod_with mod_lineMany mod_testEnd mod_lineEnd)))))
def B_X12_law_0   (g56 : Int32 → Int32 → Int32 → Int32 → Int32 → Int32 → (Nat → Int32) → (Nat → Int32) → (Nat → Int32) → (Nat → Int32) → (Nat → Int32) → (Option (Int32 × Int32 × Int32 × Int32 × Int32 × Int32 × (Nat → Int32) × (Nat → Int32) × (Nat → Int32) × (Nat → Int32) × (Nat → Int32)))) (g146 : Int32 → Int32 → Int32 → Int32 → Int32 → Int32 → Int32 → (Nat → Int32) → (Nat → Int32) → (Nat → Int32) → (Nat → Int32) → (Nat → Int32) → (Option (Int32 × Int32 × Int32 × Int32 × Int32 × Int32 × (Nat → Int32) × (Nat → Int32) × (Nat → Int32) × (Nat → Int32) × (Nat → Int32)))) (g219 : Int32 → Int32 → Int32 → Int32 → Int32 → Int32 → Int32 → (Nat → Int32) → (Nat → Int32) → (Nat → Int32) → (Nat → Int32) → (Nat → Int32) → (Option (Int32 × Int32 × Int32 × Int32 × Int32 × Int32 × (Nat → Int32) × (Nat → Int32) × (Nat → Int32) × (Nat → Int32) × (Nat → Int32)))) (mod_code : Int32) (mod_shoes : Int32) (mod_claims : Int32) (mod_suits : Int32) (mod_doneMany : Int32) (mod_undoneMany : Int32) (mod_isBoth : Int32) (mod_wished : Int32) (mod_bestMany : Int32) (mod_bestRow : Int32) (mod_ringDigits : Int32) (mod_traces : Int32) (mod_tape : Nat → Int32) (x1 : Int32) (mod_taped : Int32) (mod_here : Int32) (mod_fault : Int32) (mod_open : Int32) (mod_laid : Int32) (mod_act : Nat → Int32) (mod_with : Nat → Int32) (mod_lineMany : Nat → Int32) (mod_testEnd : Nat → Int32) (mod_lineEnd : Nat → Int32) : Option (Int32 × Int32 × Int32 × Int32 × Int32 × Int32 × (Nat → Int32) × (Nat → Int32) × (Nat → Int32) × (Nat → Int32) × (Nat → Int32)) :=
  (if x1 < 0 then (some ((-1 : Int32), mod_taped, mod_here, mod_fault, mod_open, mod_laid, mod_act, mod_with, mod_lineMany, mod_testEnd, mod_lineEnd)) else (if (3 : Int32) < (x1 / (10 : Int32)) then (some ((-1 : Int32), mod_taped, mod_here, mod_fault, mod_open, mod_laid, mod_act, mod_with, mod_lineMany, mod_testEnd, mod_lineEnd)) else (zk_b2 (f_X12_isLand (x1 - x1 / (10 : Int32) * (10 : Int32))) (fun r_3 u_4 => (if r_3 = 0 then (some ((-1 : Int32), mod_taped, mod_here, mod_fault, mod_open, mod_laid, mod_act, mod_with, mod_lineMany, mod_testEnd, mod_lineEnd)) else (zk_let (upd mod_lineMany (32 : Int32).toNatClampNeg (0 : Int32)) (fun f_7 => (zk_b9 (f_X12_line mod_code mod_shoes mod_claims mod_taped (0 : Int32) (-1 : Int32) mod_suits mod_doneMany mod_undoneMany (0 : Int32) (0 : Int32) mod_isBoth mod_wished mod_bestMany mod_bestRow mod_ringDigits mod_traces mod_tape mod_act mod_with f_7 mod_testEnd mod_lineEnd) (fun u_8 u_9 u_10 u_11 u_12 u_13 u_14 u_15 u_16 => (g56 x1 mod_taped u_8 u_9 u_10 u_11 u_12 u_13 u_14 u_15 u_16))))))))))
def G_X12_law   (mod_code : Int32) (mod_shoes : Int32) (mod_claims : Int32) (mod_suits : Int32) (mod_doneMany : Int32) (mod_undoneMany : Int32) (mod_isBoth : Int32) (mod_wished : Int32) (mod_bestMany : Int32) (mod_bestRow : Int32) (mod_ringDigits : Int32) (mod_traces : Int32) (mod_tape : Nat → Int32) (n : Nat) : (Int32 → Int32 → Int32 → Int32 → Int32 → Int32 → (Nat → Int32) → (Nat → Int32) → (Nat → Int32) → (Nat → Int32) → (Nat → Int32) → (Option (Int32 × Int32 × Int32 × Int32 × Int32 × Int32 × (Nat → Int32) × (Nat → Int32) × (Nat → Int32) × (Nat → Int32) × (Nat → Int32)))) × (Int32 → Int32 → Int32 → Int32 → Int32 → Int32 → Int32 → (Nat → Int32) → (Nat → Int32) → (Nat → Int32) → (Nat → Int32) → (Nat → Int32) → (Option (Int32 × Int32 × Int32 × Int32 × Int32 × Int32 × (Nat → Int32) × (Nat → Int32) × (Nat → Int32) × (Nat → Int32) × (Nat → Int32)))) × (Int32 → Int32 → Int32 → Int32 → Int32 → Int32 → Int32 → (Nat → Int32) → (Nat → Int32) → (Nat → Int32) → (Nat → Int32) → (Nat → Int32) → (Option (Int32 × Int32 × Int32 × Int32 × Int32 × Int32 × (Nat → Int32) × (Nat → Int32) × (Nat → Int32) × (Nat → Int32) × (Nat → Int32)))) :=
  Nat.rec (motive := fun _ => (Int32 → Int32 → Int32 → Int32 → Int32 → Int32 → (Nat → Int32) → (Nat → Int32) → (Nat → Int32) → (Nat → Int32) → (Nat → Int32) → (Option (Int32 × Int32 × Int32 × Int32 × Int32 × Int32 × (Nat → Int32) × (Nat → Int32) × (Nat → Int32) × (Nat → Int32) × (Nat → Int32)))) × (Int32 → Int32 → Int32 → Int32 → Int32 → Int32 → Int32 → (Nat → Int32) → (Nat → Int32) → (Nat → Int32) → (Nat → Int32) → (Nat → Int32) → (Option (Int32 × Int32 × Int32 × Int32 × Int32 × Int32 × (Nat → Int32) × (Nat → Int32) × (Nat → Int32) × (Nat → Int32) × (Nat → Int32)))) × (Int32 → Int32 → Int32 → Int32 → Int32 → Int32 → Int32 → (Nat → Int32) → (Nat → Int32) → (Nat → Int32) → (Nat → Int32) → (Nat → Int32) → (Option (Int32 × Int32 × Int32 × Int32 × Int32 × Int32 × (Nat → Int32) × (Nat → Int32) × (Nat → Int32) × (Nat → Int32) × (Nat → Int32))))) ((fun _ _ _ _ _ _ _ _ _ _ _ => none), (fun _ _ _ _ _ _ _ _ _ _ _ _ => none), (fun _ _ _ _ _ _ _ _ _ _ _ _ => none)) (fun _ ih => (B_X12_law_56   ih.1 ih.2.1 ih.2.2 mod_code mod_shoes mod_claims mod_suits mod_doneMany mod_undoneMany mod_isBoth mod_wished mod_bestMany mod_bestRow mod_ringDigits mod_traces mod_tape, B_X12_law_146   ih.1 ih.2.1 ih.2.2 mod_code mod_shoes mod_claims mod_suits mod_doneMany mod_undoneMany mod_isBoth mod_wished mod_bestMany mod_bestRow mod_ringDigits mod_traces mod_tape, B_X12_law_219   ih.1 ih.2.1 ih.2.2 mod_code mod_shoes mod_claims mod_suits mod_doneMany mod_undoneMany mod_isBoth mod_wished mod_bestMany mod_bestRow mod_ringDigits mod_traces mod_tape)) n
def f_X12_law   (n : Nat) (x1 : Int32) (mod_code : Int32) (mod_shoes : Int32) (mod_claims : Int32) (mod_taped : Int32) (mod_here : Int32) (mod_fault : Int32) (mod_suits : Int32) (mod_doneMany : Int32) (mod_undoneMany : Int32) (mod_open : Int32) (mod_laid : Int32) (mod_isBoth : Int32) (mod_wished : Int32) (mod_bestMany : Int32) (mod_bestRow : Int32) (mod_ringDigits : Int32) (mod_traces : Int32) (mod_tape : Nat → Int32) (mod_act : Nat → Int32) (mod_with : Nat → Int32) (mod_lineMany : Nat → Int32) (mod_testEnd : Nat → Int32) (mod_lineEnd : Nat → Int32) : Option (Int32 × Int32 × Int32 × Int32 × Int32 × Int32 × (Nat → Int32) × (Nat → Int32) × (Nat → Int32) × (Nat → Int32) × (Nat → Int32)) := B_X12_law_0   ((G_X12_law   mod_code mod_shoes mod_claims mod_suits mod_doneMany mod_undoneMany mod_isBoth mod_wished mod_bestMany mod_bestRow mod_ringDigits mod_traces mod_tape n).1) ((G_X12_law   mod_code mod_shoes mod_claims mod_suits mod_doneMany mod_undoneMany mod_isBoth mod_wished mod_bestMany mod_bestRow mod_ringDigits mod_traces mod_tape n).2.1) ((G_X12_law   mod_code mod_shoes mod_claims mod_suits mod_doneMany mod_undoneMany mod_isBoth mod_wished mod_bestMany mod_bestRow mod_ringDigits mod_traces mod_tape n).2.2) mod_code mod_shoes mod_claims mod_suits mod_doneMany mod_undoneMany mod_isBoth mod_wished mod_bestMany mod_bestRow mod_ringDigits mod_traces mod_tape x1 mod_taped mod_here mod_fault mod_open mod_laid mod_act mod_with mod_lineMany mod_testEnd mod_lineEnd
set_option maxHeartbeats 4000000 in
set_option maxRecDepth 100000 in
theorem L_X12_law_219 {p : Program} {l : Launch} {e : Env} {s : State} {m : MethodId} {args : Array Value} {below : List Frame} {meth : Method} {c : Code} {A : Nat → Prop} {D : va_G} {cs : Nat → ClassId} {ad : Nat → Nat} {mod_code : Int32} {mod_shoes : Int32} {mod_claims : Int32} {mod_suits : Int32} {mod_doneMany : Int32} {mod_undoneMany : Int32} {mod_isBoth : Int32} {mod_wished : Int32} {mod_bestMany : Int32} {mod_bestRow : Int32} {mod_ringDigits : Int32} {mod_traces : Int32} {mod_tape : Nat → Int32} {R : Int32 × Int32 × Int32 × Int32 × Int32 × Int32 × (Nat → Int32) × (Nat → Int32) × (Nat → Int32) × (Nat → Int32) × (Nat → Int32)} {g56 : Int32 → Int32 → Int32 → Int32 → Int32 → Int32 → (Nat → Int32) → (Nat → Int32) → (Nat → Int32) → (Nat → Int32) → (Nat → Int32) → (Option (Int32 × Int32 × Int32 × Int32 × Int32 × Int32 × (Nat → Int32) × (Nat → Int32) × (Nat → Int32) × (Nat → Int32) × (Nat → Int32)))} {g146 : Int32 → Int32 → Int32 → Int32 → Int32 → Int32 → Int32 → (Nat → Int32) → (Nat → Int32) → (Nat → Int32) → (Nat → Int32) → (Nat → Int32) → (Option (Int32 × Int32 × Int32 × Int32 × Int32 × Int32 × (Nat → Int32) × (Nat → Int32) × (Nat → Int32) × (Nat → Int32) × (Nat → Int32)))} {g219 : Int32 → Int32 → Int32 → Int32 → Int32 → Int32 → Int32 → (Nat → Int32) → (Nat → Int32) → (Nat → Int32) → (Nat → Int32) → (Nat → Int32) → (Option (Int32 × Int32 × Int32 × Int32 × Int32 × Int32 × (Nat → Int32) × (Nat → Int32) × (Nat → Int32) × (Nat → Int32) × (Nat → Int32)))} (C0 : zC p s m args meth c cX12_law 4 (some .int) RX12 zW) (hK : va_K D classes (zT cs) s) (hA : ∀ q : Nat, s.heap.size ≤ q → A q) (ih56 : ∀ (x1 : Int32) (mod_taped : Int32) (mod_here : Int32) (mod_fault : Int32) (mod_open : Int32) (mod_laid : Int32) (mod_act : Nat → Int32) (mod_with : Nat → Int32) (mod_lineMany : Nat → Int32) (mod_testEnd : Nat → Int32) (mod_lineEnd : Nat → Int32) (h : g56 x1 mod_taped mod_here mod_fault mod_open mod_laid mod_act mod_with mod_lineMany mod_testEnd mod_lineEnd = some R) (H : Heap) (locs : List Loc) (ls : Array Slot) (hP : va_P D classes (wl_X12_law ad cs mod_code mod_shoes mod_claims mod_taped mod_here mod_fault mod_suits mod_doneMany mod_undoneMany mod_open mod_laid mod_isBoth mod_wished mod_bestMany mod_bestRow mod_ringDigits mod_traces mod_tape mod_act mod_with mod_lineMany mod_testEnd mod_lineEnd) H) (hD : va_D A (wl_X12_law ad cs mod_code mod_shoes mod_claims mod_taped mod_here mod_fault mod_suits mod_doneMany mod_undoneMany mod_open mod_laid mod_isBoth mod_wished mod_bestMany mod_bestRow mod_ringDigits mod_traces mod_tape mod_act mod_with mod_lineMany mod_testEnd mod_lineEnd)) (hS : va_S A s.heap H locs) (hl : lv_has ls 4 [(0, .ref (ad 41)), (1, .int x1)]), W p l e rm_X12_law s m args below meth c H locs 0 0 (MQ below (Q_X12_law D cs ad mod_code mod_shoes mod_claims mod_suits mod_doneMany mod_undoneMany mod_isBoth mod_wished mod_bestMany mod_bestRow mod_ringDigits mod_traces mod_tape A R) args s 0 0 A) (F0 m 56 ls [])) (ih146 : ∀ (x2 : Int32) (x3 : Int32) (mod_taped : Int32) (mod_here : Int32) (mod_fault : Int32) (mod_open : Int32) (mod_laid : Int32) (mod_act : Nat → Int32) (mod_with : Nat → Int32) (mod_lineMany : Nat → Int32) (mod_testEnd : Nat → Int32) (mod_lineEnd : Nat → Int32) (h : g146 x2 x3 mod_taped mod_here mod_fault mod_open mod_laid mod_act mod_with mod_lineMany mod_testEnd mod_lineEnd = some R) (H : Heap) (locs : List Loc) (ls : Array Slot) (hP : va_P D classes (wl_X12_law ad cs mod_code mod_shoes mod_claims mod_taped mod_here mod_fault mod_suits mod_doneMany mod_undoneMany mod_open mod_laid mod_isBoth mod_wished mod_bestMany mod_bestRow mod_ringDigits mod_traces mod_tape mod_act mod_with mod_lineMany mod_testEnd mod_lineEnd) H) (hD : va_D A (wl_X12_law ad cs mod_code mod_shoes mod_claims mod_taped mod_here mod_fault mod_suits mod_doneMany mod_undoneMany mod_open mod_laid mod_isBoth mod_wished mod_bestMany mod_bestRow mod_ringDigits mod_traces mod_tape mod_act mod_with mod_lineMany mod_testEnd mod_lineEnd)) (hS : va_S A s.heap H locs) (hl : lv_has ls 4 [(0, .ref (ad 41)), (2, .int x2), (3, .int x3)]), W p l e rm_X12_law s m args below meth c H locs 0 0 (MQ below (Q_X12_law D cs ad mod_code mod_shoes mod_claims mod_suits mod_doneMany mod_undoneMany mod_isBoth mod_wished mod_bestMany mod_bestRow mod_ringDigits mod_traces mod_tape A R) args s 0 0 A) (F0 m 146 ls [])) (ih219 : ∀ (x2 : Int32) (x3 : Int32) (mod_taped : Int32) (mod_here : Int32) (mod_fault : Int32) (mod_open : Int32) (mod_laid : Int32) (mod_act : Nat → Int32) (mod_with : Nat → Int32) (mod_lineMany : Nat → Int32) (mod_testEnd : Nat → Int32) (mod_lineEnd : Nat → Int32) (h : g219 x2 x3 mod_taped mod_here mod_fault mod_open mod_laid mod_act mod_with mod_lineMany mod_testEnd mod_lineEnd = some R) (H : Heap) (locs : List Loc) (ls : Array Slot) (hP : va_P D classes (wl_X12_law ad cs mod_code mod_shoes mod_claims mod_taped mod_here mod_fault mod_suits mod_doneMany mod_undoneMany mod_open mod_laid mod_isBoth mod_wished mod_bestMany mod_bestRow mod_ringDigits mod_traces mod_tape mod_act mod_with mod_lineMany mod_testEnd mod_lineEnd) H) (hD : va_D A (wl_X12_law ad cs mod_code mod_shoes mod_claims mod_taped mod_here mod_fault mod_suits mod_doneMany mod_undoneMany mod_open mod_laid mod_isBoth mod_wished mod_bestMany mod_bestRow mod_ringDigits mod_traces mod_tape mod_act mod_with mod_lineMany mod_testEnd mod_lineEnd)) (hS : va_S A s.heap H locs) (hl : lv_has ls 4 [(0, .ref (ad 41)), (2, .int x2), (3, .int x3)]), W p l e rm_X12_law s m args below meth c H locs 0 0 (MQ below (Q_X12_law D cs ad mod_code mod_shoes mod_claims mod_suits mod_doneMany mod_undoneMany mod_isBoth mod_wished mod_bestMany mod_bestRow mod_ringDigits mod_traces mod_tape A R) args s 0 0 A) (F0 m 219 ls [])) (x2 : Int32) (x3 : Int32) (mod_taped : Int32) (mod_here : Int32) (mod_fault : Int32) (mod_open : Int32) (mod_laid : Int32) (mod_act : Nat → Int32) (mod_with : Nat → Int32) (mod_lineMany : Nat → Int32) (mod_testEnd : Nat → Int32) (mod_lineEnd : Nat → Int32) (h : B_X12_law_219 g56 g146 g219 mod_code mod_shoes mod_claims mod_suits mod_doneMany mod_undoneMany mod_isBoth mod_wished mod_bestMany mod_bestRow mod_ringDigits mod_traces mod_tape x2 x3 mod_taped mod_here mod_fault mod_open mod_laid mod_act mod_with mod_lineMany mod_testEnd mod_lineEnd = some R) (H : Heap) (locs : List Loc) (ls : Array Slot) (hP : va_P D classes (wl_X12_law ad cs mod_code mod_shoes mod_claims mod_taped mod_here mod_fault mod_suits mod_doneMany mod_undoneMany mod_open mod_laid mod_isBoth mod_wished mod_bestMany mod_bestRow mod_ringDigits mod_traces mod_tape mod_act mod_with mod_lineMany mod_testEnd mod_lineEnd) H) (hD : va_D A (wl_X12_law ad cs mod_code mod_shoes mod_claims mod_taped mod_here mod_fault mod_suits mod_doneMany mod_undoneMany mod_open mod_laid mod_isBoth mod_wished mod_bestMany mod_bestRow mod_ringDigits mod_traces mod_tape mod_act mod_with mod_lineMany mod_testEnd mod_lineEnd)) (hS : va_S A s.heap H locs) (hl : lv_has ls 4 [(0, .ref (ad 41)), (2, .int x2), (3, .int x3)]) : W p l e rm_X12_law s m args below meth c H locs 0 0 (MQ below (Q_X12_law D cs ad mod_code mod_shoes mod_claims mod_suits mod_doneMany mod_undoneMany mod_isBoth mod_wished mod_bestMany mod_bestRow mod_ringDigits mod_traces mod_tape A R) args s 0 0 A) (F0 m 219 ls []) := by
  obtain ⟨hx, hb, hr, hml, hown, ht, hlocks⟩ := id C0
  refine lv_iload_n hx hb dX12_law_219 rfl (lv_at hl 2 rfl) ?_
  refine lv_aload_n hx hb dX12_law_220 rfl (lv_at hl 0 rfl) ?_
  refine va_get (D := D) (ci := 12) (v := .ref (ad 68)) (C := RX12) (T := TX12) (N := 60) hx hb ht iX12 hown hK hP 0 rfl rfl 37 (by decide) (ht _ kw_1332) (fun _ h9 => h9) rfl dX12_law_221 ?_
  refine lv_iload_n hx hb dX12_law_224 rfl (lv_at hl 1 rfl) ?_
  obtain ⟨g_53, h⟩ := zk_gd h
  refine va_iald hx hb hK hP 4 0 rfl rfl g_53 dX12_law_225 ?_
  refine lv_icmp_ge (tgt := 277) hx hb dX12_law_226 (by decide) (fun c_54 => ?_) (fun c_54 => ?_)
  · have h := zk_t c_54 h
    refine lv_iconst (v := (1 : Int32)) hx hb dX12_law_277 (by decide) ?_
    exact W.iret (v := (1 : Int32)) hx hb hr (fun t ht2 hW => ⟨⟨(1 : Int32), (mod_taped, mod_here, mod_fault, mod_open, mod_laid, mod_act, mod_with, mod_lineMany, mod_testEnd, mod_lineEnd), rfl, Option.some.inj h, by rw [ht2]; exact hP, hD⟩, hS.F ht2⟩) hS.2.2 dX12_law_278 hlocks
  · have h := zk_f c_54 h
    refine lv_aload_n hx hb dX12_law_229 rfl (lv_at hl 0 rfl) ?_
    refine va_get (D := D) (ci := 12) (v := .ref (ad 69)) (C := RX12) (T := TX12) (N := 60) hx hb ht iX12 hown hK hP 0 rfl rfl 38 (by decide) (ht _ kw_1333) (fun _ h9 => h9) rfl dX12_law_230 ?_
    refine lv_bipush (v := (61 : Int32)) hx hb dX12_law_233 (by decide) ?_
    refine lv_iload_n hx hb dX12_law_235 rfl (lv_at hl 1 rfl) ?_
    refine lv_imul hx hb dX12_law_236 ?_
    refine lv_iload_n hx hb dX12_law_237 rfl (lv_at hl 2 rfl) ?_
    refine lv_iadd hx hb dX12_law_238 ?_
    refine lv_aload_n hx hb dX12_law_239 rfl (lv_at hl 0 rfl) ?_
    refine va_get (D := D) (ci := 12) (v := .ref (ad 69)) (C := RX12) (T := TX12) (N := 60) hx hb ht iX12 hown hK hP 0 rfl rfl 38 (by decide) (ht _ kw_1333) (fun _ h9 => h9) rfl dX12_law_240 ?_
    refine lv_sipush (v := (1952 : Int32)) hx hb dX12_law_243 (by decide) ?_
    refine lv_iload_n hx hb dX12_law_246 rfl (lv_at hl 2 rfl) ?_
    refine lv_iadd hx hb dX12_law_247 ?_
    obtain ⟨g_55, h⟩ := zk_gd h
    refine va_sald hx hb hK hP 5 3 rfl rfl g_55 dX12_law_248 ?_
    obtain ⟨v_56, ev_56, h⟩ := zk_lt h
    refine W.eq (g2 := F0 m 249 ls [.int v_56, .int (((61 : Int32) * x2) + x3), .ref (ad 69)]) (by rw [ev_56]) ?_
    obtain ⟨g_57, h⟩ := zk_gd h
    obtain ⟨f_58, ef_58, h⟩ := zk_lt h
    refine va_sast hx hb hK hP hD hS 5 3 rfl rfl g_57 dX12_law_249 (fun H locs hP hD hS => ?_)
    have hP : va_P D classes (wl_X12_law ad cs mod_code mod_shoes mod_claims mod_taped mod_here mod_fault mod_suits mod_doneMany mod_undoneMany mod_open mod_laid mod_isBoth mod_wished mod_bestMany mod_bestRow mod_ringDigits mod_traces mod_tape mod_act mod_with mod_lineMany f_58 mod_lineEnd) H := by rw [ef_58]; exact hP
    have hD : va_D A (wl_X12_law ad cs mod_code mod_shoes mod_claims mod_taped mod_here mod_fault mod_suits mod_doneMany mod_undoneMany mod_open mod_laid mod_isBoth mod_wished mod_bestMany mod_bestRow mod_ringDigits mod_traces mod_tape mod_act mod_with mod_lineMany f_58 mod_lineEnd) := by rw [ef_58]; exact hD
    refine lv_aload_n hx hb dX12_law_250 rfl (lv_at hl 0 rfl) ?_
    refine va_get (D := D) (ci := 12) (v := .ref (ad 70)) (C := RX12) (T := TX12) (N := 60) hx hb ht iX12 hown hK hP 0 rfl rfl 39 (by decide) (ht _ kw_1334) (fun _ h9 => h9) rfl dX12_law_251 ?_
    refine lv_bipush (v := (61 : Int32)) hx hb dX12_law_254 (by decide) ?_
    refine lv_iload_n hx hb dX12_law_256 rfl (lv_at hl 1 rfl) ?_
    refine lv_imul hx hb dX12_law_257 ?_
    refine lv_iload_n hx hb dX12_law_258 rfl (lv_at hl 2 rfl) ?_
    refine lv_iadd hx hb dX12_law_259 ?_
    refine lv_aload_n hx hb dX12_law_260 rfl (lv_at hl 0 rfl) ?_
    refine va_get (D := D) (ci := 12) (v := .ref (ad 70)) (C := RX12) (T := TX12) (N := 60) hx hb ht iX12 hown hK hP 0 rfl rfl 39 (by decide) (ht _ kw_1334) (fun _ h9 => h9) rfl dX12_law_261 ?_
    refine lv_sipush (v := (1952 : Int32)) hx hb dX12_law_264 (by decide) ?_
    refine lv_iload_n hx hb dX12_law_267 rfl (lv_at hl 2 rfl) ?_
    refine lv_iadd hx hb dX12_law_268 ?_
    obtain ⟨g_59, h⟩ := zk_gd h
    refine va_sald hx hb hK hP 6 3 rfl rfl g_59 dX12_law_269 ?_
    obtain ⟨v_60, ev_60, h⟩ := zk_lt h
    refine W.eq (g2 := F0 m 270 ls [.int v_60, .int (((61 : Int32) * x2) + x3), .ref (ad 70)]) (by rw [ev_60]) ?_
    obtain ⟨g_61, h⟩ := zk_gd h
    obtain ⟨f_62, ef_62, h⟩ := zk_lt h
    refine va_sast hx hb hK hP hD hS 6 3 rfl rfl g_61 dX12_law_270 (fun H locs hP hD hS => ?_)
    have hP : va_P D classes (wl_X12_law ad cs mod_code mod_shoes mod_claims mod_taped mod_here mod_fault mod_suits mod_doneMany mod_undoneMany mod_open mod_laid mod_isBoth mod_wished mod_bestMany mod_bestRow mod_ringDigits mod_traces mod_tape mod_act mod_with mod_lineMany f_58 f_62) H := by rw [ef_62]; exact hP
    have hD : va_D A (wl_X12_law ad cs mod_code mod_shoes mod_claims mod_taped mod_here mod_fault mod_suits mod_doneMany mod_undoneMany mod_open mod_laid mod_isBoth mod_wished mod_bestMany mod_bestRow mod_ringDigits mod_traces mod_tape mod_act mod_with mod_lineMany f_58 f_62) := by rw [ef_62]; exact hD
    obtain ⟨v_63, ev_63, h⟩ := zk_lt h
    refine lv_iinc (v := v_63) (lv' := [(3, .int v_63), (0, .ref (ad 41)), (2, .int x2)]) hx hb dX12_law_271 hl (k := 2) rfl (by rw [ev_63]; rfl) (by decide) rfl (fun ls hl => ?_)
    refine lv_goto (tgt := 219) hx hb dX12_law_274 (by decide) ?_
    exact ih219 x2 v_63 mod_taped mod_here mod_fault mod_open mod_laid mod_act mod_with mod_lineMany f_58 f_62 h H locs ls hP hD hS (lv_sub hl [1, 2, 0] rfl)
set_option maxHeartbeats 4000000 in
set_option maxRecDepth 100000 in
theorem L_X12_law_146 {p : Program} {l : Launch} {e : Env} {s : State} {m : MethodId} {args : Array Value} {below : List Frame} {meth : Method} {c : Code} {A : Nat → Prop} {D : va_G} {cs : Nat → ClassId} {ad : Nat → Nat} {mod_code : Int32} {mod_shoes : Int32} {mod_claims : Int32} {mod_suits : Int32} {mod_doneMany : Int32} {mod_undoneMany : Int32} {mod_isBoth : Int32} {mod_wished : Int32} {mod_bestMany : Int32} {mod_bestRow : Int32} {mod_ringDigits : Int32} {mod_traces : Int32} {mod_tape : Nat → Int32} {R : Int32 × Int32 × Int32 × Int32 × Int32 × Int32 × (Nat → Int32) × (Nat → Int32) × (Nat → Int32) × (Nat → Int32) × (Nat → Int32)} {g56 : Int32 → Int32 → Int32 → Int32 → Int32 → Int32 → (Nat → Int32) → (Nat → Int32) → (Nat → Int32) → (Nat → Int32) → (Nat → Int32) → (Option (Int32 × Int32 × Int32 × Int32 × Int32 × Int32 × (Nat → Int32) × (Nat → Int32) × (Nat → Int32) × (Nat → Int32) × (Nat → Int32)))} {g146 : Int32 → Int32 → Int32 → Int32 → Int32 → Int32 → Int32 → (Nat → Int32) → (Nat → Int32) → (Nat → Int32) → (Nat → Int32) → (Nat → Int32) → (Option (Int32 × Int32 × Int32 × Int32 × Int32 × Int32 × (Nat → Int32) × (Nat → Int32) × (Nat → Int32) × (Nat → Int32) × (Nat → Int32)))} {g219 : Int32 → Int32 → Int32 → Int32 → Int32 → Int32 → Int32 → (Nat → Int32) → (Nat → Int32) → (Nat → Int32) → (Nat → Int32) → (Nat → Int32) → (Option (Int32 × Int32 × Int32 × Int32 × Int32 × Int32 × (Nat → Int32) × (Nat → Int32) × (Nat → Int32) × (Nat → Int32) × (Nat → Int32)))} (C0 : zC p s m args meth c cX12_law 4 (some .int) RX12 zW) (hK : va_K D classes (zT cs) s) (hA : ∀ q : Nat, s.heap.size ≤ q → A q) (ih56 : ∀ (x1 : Int32) (mod_taped : Int32) (mod_here : Int32) (mod_fault : Int32) (mod_open : Int32) (mod_laid : Int32) (mod_act : Nat → Int32) (mod_with : Nat → Int32) (mod_lineMany : Nat → Int32) (mod_testEnd : Nat → Int32) (mod_lineEnd : Nat → Int32) (h : g56 x1 mod_taped mod_here mod_fault mod_open mod_laid mod_act mod_with mod_lineMany mod_testEnd mod_lineEnd = some R) (H : Heap) (locs : List Loc) (ls : Array Slot) (hP : va_P D classes (wl_X12_law ad cs mod_code mod_shoes mod_claims mod_taped mod_here mod_fault mod_suits mod_doneMany mod_undoneMany mod_open mod_laid mod_isBoth mod_wished mod_bestMany mod_bestRow mod_ringDigits mod_traces mod_tape mod_act mod_with mod_lineMany mod_testEnd mod_lineEnd) H) (hD : va_D A (wl_X12_law ad cs mod_code mod_shoes mod_claims mod_taped mod_here mod_fault mod_suits mod_doneMany mod_undoneMany mod_open mod_laid mod_isBoth mod_wished mod_bestMany mod_bestRow mod_ringDigits mod_traces mod_tape mod_act mod_with mod_lineMany mod_testEnd mod_lineEnd)) (hS : va_S A s.heap H locs) (hl : lv_has ls 4 [(0, .ref (ad 41)), (1, .int x1)]), W p l e rm_X12_law s m args below meth c H locs 0 0 (MQ below (Q_X12_law D cs ad mod_code mod_shoes mod_claims mod_suits mod_doneMany mod_undoneMany mod_isBoth mod_wished mod_bestMany mod_bestRow mod_ringDigits mod_traces mod_tape A R) args s 0 0 A) (F0 m 56 ls [])) (ih146 : ∀ (x2 : Int32) (x3 : Int32) (mod_taped : Int32) (mod_here : Int32) (mod_fault : Int32) (mod_open : Int32) (mod_laid : Int32) (mod_act : Nat → Int32) (mod_with : Nat → Int32) (mod_lineMany : Nat → Int32) (mod_testEnd : Nat → Int32) (mod_lineEnd : Nat → Int32) (h : g146 x2 x3 mod_taped mod_here mod_fault mod_open mod_laid mod_act mod_with mod_lineMany mod_testEnd mod_lineEnd = some R) (H : Heap) (locs : List Loc) (ls : Array Slot) (hP : va_P D classes (wl_X12_law ad cs mod_code mod_shoes mod_claims mod_taped mod_here mod_fault mod_suits mod_doneMany mod_undoneMany mod_open mod_laid mod_isBoth mod_wished mod_bestMany mod_bestRow mod_ringDigits mod_traces mod_tape mod_act mod_with mod_lineMany mod_testEnd mod_lineEnd) H) (hD : va_D A (wl_X12_law ad cs mod_code mod_shoes mod_claims mod_taped mod_here mod_fault mod_suits mod_doneMany mod_undoneMany mod_open mod_laid mod_isBoth mod_wished mod_bestMany mod_bestRow mod_ringDigits mod_traces mod_tape mod_act mod_with mod_lineMany mod_testEnd mod_lineEnd)) (hS : va_S A s.heap H locs) (hl : lv_has ls 4 [(0, .ref (ad 41)), (2, .int x2), (3, .int x3)]), W p l e rm_X12_law s m args below meth c H locs 0 0 (MQ below (Q_X12_law D cs ad mod_code mod_shoes mod_claims mod_suits mod_doneMany mod_undoneMany mod_isBoth mod_wished mod_bestMany mod_bestRow mod_ringDigits mod_traces mod_tape A R) args s 0 0 A) (F0 m 146 ls [])) (ih219 : ∀ (x2 : Int32) (x3 : Int32) (mod_taped : Int32) (mod_here : Int32) (mod_fault : Int32) (mod_open : Int32) (mod_laid : Int32) (mod_act : Nat → Int32) (mod_with : Nat → Int32) (mod_lineMany : Nat → Int32) (mod_testEnd : Nat → Int32) (mod_lineEnd : Nat → Int32) (h : g219 x2 x3 mod_taped mod_here mod_fault mod_open mod_laid mod_act mod_with mod_lineMany mod_testEnd mod_lineEnd = some R) (H : Heap) (locs : List Loc) (ls : Array Slot) (hP : va_P D classes (wl_X12_law ad cs mod_code mod_shoes mod_claims mod_taped mod_here mod_fault mod_suits mod_doneMany mod_undoneMany mod_open mod_laid mod_isBoth mod_wished mod_bestMany mod_bestRow mod_ringDigits mod_traces mod_tape mod_act mod_with mod_lineMany mod_testEnd mod_lineEnd) H) (hD : va_D A (wl_X12_law ad cs mod_code mod_shoes mod_claims mod_taped mod_here mod_fault mod_suits mod_doneMany mod_undoneMany mod_open mod_laid mod_isBoth mod_wished mod_bestMany mod_bestRow mod_ringDigits mod_traces mod_tape mod_act mod_with mod_lineMany mod_testEnd mod_lineEnd)) (hS : va_S A s.heap H locs) (hl : lv_has ls 4 [(0, .ref (ad 41)), (2, .int x2), (3, .int x3)]), W p l e rm_X12_law s m args below meth c H locs 0 0 (MQ below (Q_X12_law D cs ad mod_code mod_shoes mod_claims mod_suits mod_doneMany mod_undoneMany mod_isBoth mod_wished mod_bestMany mod_bestRow mod_ringDigits mod_traces mod_tape A R) args s 0 0 A) (F0 m 219 ls [])) (x2 : Int32) (x3 : Int32) (mod_taped : Int32) (mod_here : Int32) (mod_fault : Int32) (mod_open : Int32) (mod_laid : Int32) (mod_act : Nat → Int32) (mod_with : Nat → Int32) (mod_lineMany : Nat → Int32) (mod_testEnd : Nat → Int32) (mod_lineEnd : Nat → Int32) (h : B_X12_law_146 g56 g146 g219 mod_code mod_shoes mod_claims mod_suits mod_doneMany mod_undoneMany mod_isBoth mod_wished mod_bestMany mod_bestRow mod_ringDigits mod_traces mod_tape x2 x3 mod_taped mod_here mod_fault mod_open mod_laid mod_act mod_with mod_lineMany mod_testEnd mod_lineEnd = some R) (H : Heap) (locs : List Loc) (ls : Array Slot) (hP : va_P D classes (wl_X12_law ad cs mod_code mod_shoes mod_claims mod_taped mod_here mod_fault mod_suits mod_doneMany mod_undoneMany mod_open mod_laid mod_isBoth mod_wished mod_bestMany mod_bestRow mod_ringDigits mod_traces mod_tape mod_act mod_with mod_lineMany mod_testEnd mod_lineEnd) H) (hD : va_D A (wl_X12_law ad cs mod_code mod_shoes mod_claims mod_taped mod_here mod_fault mod_suits mod_doneMany mod_undoneMany mod_open mod_laid mod_isBoth mod_wished mod_bestMany mod_bestRow mod_ringDigits mod_traces mod_tape mod_act mod_with mod_lineMany mod_testEnd mod_lineEnd)) (hS : va_S A s.heap H locs) (hl : lv_has ls 4 [(0, .ref (ad 41)), (2, .int x2), (3, .int x3)]) : W p l e rm_X12_law s m args below meth c H locs 0 0 (MQ below (Q_X12_law D cs ad mod_code mod_shoes mod_claims mod_suits mod_doneMany mod_undoneMany mod_isBoth mod_wished mod_bestMany mod_bestRow mod_ringDigits mod_traces mod_tape A R) args s 0 0 A) (F0 m 146 ls []) := by
  obtain ⟨hx, hb, hr, hml, hown, ht, hlocks⟩ := id C0
  refine lv_iload_n hx hb dX12_law_146 rfl (lv_at hl 2 rfl) ?_
  refine lv_aload_n hx hb dX12_law_147 rfl (lv_at hl 0 rfl) ?_
  refine va_get (D := D) (ci := 12) (v := .int mod_laid) (C := RX12) (T := TX12) (N := 60) hx hb ht iX12 hown hK hP 0 rfl rfl 34 (by decide) (ht _ kw_1329) (fun _ h9 => h9) rfl dX12_law_148 ?_
  refine lv_icmp_ge (tgt := 204) hx hb dX12_law_151 (by decide) (fun c_40 => ?_) (fun c_40 => ?_)
  · have h := zk_t c_40 h
    refine lv_aload_n hx hb dX12_law_204 rfl (lv_at hl 0 rfl) ?_
    refine va_get (D := D) (ci := 12) (v := .ref (ad 68)) (C := RX12) (T := TX12) (N := 60) hx hb ht iX12 hown hK hP 0 rfl rfl 37 (by decide) (ht _ kw_1332) (fun _ h9 => h9) rfl dX12_law_205 ?_
    refine lv_iload_n hx hb dX12_law_208 rfl (lv_at hl 1 rfl) ?_
    refine lv_aload_n hx hb dX12_law_209 rfl (lv_at hl 0 rfl) ?_
    refine va_get (D := D) (ci := 12) (v := .ref (ad 68)) (C := RX12) (T := TX12) (N := 60) hx hb ht iX12 hown hK hP 0 rfl rfl 37 (by decide) (ht _ kw_1332) (fun _ h9 => h9) rfl dX12_law_210 ?_
    refine lv_bipush (v := (32 : Int32)) hx hb dX12_law_213 (by decide) ?_
    refine va_iald hx hb hK hP 4 0 rfl rfl (by unfold vp_in; decide) dX12_law_215 ?_
    obtain ⟨v_41, ev_41, h⟩ := zk_lt h
    refine W.eq (g2 := F0 m 216 ls [.int v_41, .int x2, .ref (ad 68)]) (by rw [ev_41]) ?_
    obtain ⟨g_42, h⟩ := zk_gd h
    obtain ⟨f_43, ef_43, h⟩ := zk_lt h
    refine va_iast hx hb hK hP hD hS 4 0 rfl rfl g_42 dX12_law_216 (fun H locs hP hD hS => ?_)
    have hP : va_P D classes (wl_X12_law ad cs mod_code mod_shoes mod_claims mod_taped mod_here mod_fault mod_suits mod_doneMany mod_undoneMany mod_open mod_laid mod_isBoth mod_wished mod_bestMany mod_bestRow mod_ringDigits mod_traces mod_tape mod_act mod_with f_43 mod_testEnd mod_lineEnd) H := by rw [ef_43]; exact hP
    have hD : va_D A (wl_X12_law ad cs mod_code mod_shoes mod_claims mod_taped mod_here mod_fault mod_suits mod_doneMany mod_undoneMany mod_open mod_laid mod_isBoth mod_wished mod_bestMany mod_bestRow mod_ringDigits mod_traces mod_tape mod_act mod_with f_43 mod_testEnd mod_lineEnd) := by rw [ef_43]; exact hD
    refine lv_iconst (v := (0 : Int32)) hx hb dX12_law_217 (by decide) ?_
    refine lv_istore_n (lv' := [(3, .int (0 : Int32)), (0, .ref (ad 41)), (2, .int x2)]) hx hb dX12_law_218 rfl hl (by decide) rfl (fun ls hl => ?_)
    exact ih219 x2 (0 : Int32) mod_taped mod_here mod_fault mod_open mod_laid mod_act mod_with f_43 mod_testEnd mod_lineEnd h H locs ls hP hD hS (lv_sub hl [1, 2, 0] rfl)
  · have h := zk_f c_40 h
    refine lv_aload_n hx hb dX12_law_154 rfl (lv_at hl 0 rfl) ?_
    refine va_get (D := D) (ci := 12) (v := .ref (ad 66)) (C := RX12) (T := TX12) (N := 60) hx hb ht iX12 hown hK hP 0 rfl rfl 35 (by decide) (ht _ kw_1330) (fun _ h9 => h9) rfl dX12_law_155 ?_
    refine lv_sipush (v := (130 : Int32)) hx hb dX12_law_158 (by decide) ?_
    refine lv_iload_n hx hb dX12_law_161 rfl (lv_at hl 1 rfl) ?_
    refine lv_imul hx hb dX12_law_162 ?_
    refine lv_iload_n hx hb dX12_law_163 rfl (lv_at hl 2 rfl) ?_
    refine lv_iadd hx hb dX12_law_164 ?_
    refine lv_aload_n hx hb dX12_law_165 rfl (lv_at hl 0 rfl) ?_
    refine va_get (D := D) (ci := 12) (v := .ref (ad 66)) (C := RX12) (T := TX12) (N := 60) hx hb ht iX12 hown hK hP 0 rfl rfl 35 (by decide) (ht _ kw_1330) (fun _ h9 => h9) rfl dX12_law_166 ?_
    refine lv_sipush (v := (4160 : Int32)) hx hb dX12_law_169 (by decide) ?_
    refine lv_iload_n hx hb dX12_law_172 rfl (lv_at hl 2 rfl) ?_
    refine lv_iadd hx hb dX12_law_173 ?_
    obtain ⟨g_44, h⟩ := zk_gd h
    refine va_bald hx hb hK hP 2 2 rfl rfl g_44 dX12_law_174 ?_
    obtain ⟨v_45, ev_45, h⟩ := zk_lt h
    refine W.eq (g2 := F0 m 175 ls [.int v_45, .int (((130 : Int32) * x2) + x3), .ref (ad 66)]) (by rw [ev_45]) ?_
    obtain ⟨g_46, h⟩ := zk_gd h
    obtain ⟨f_47, ef_47, h⟩ := zk_lt h
    refine va_bast hx hb hK hP hD hS 2 2 rfl rfl g_46 dX12_law_175 (fun H locs hP hD hS => ?_)
    have hP : va_P D classes (wl_X12_law ad cs mod_code mod_shoes mod_claims mod_taped mod_here mod_fault mod_suits mod_doneMany mod_undoneMany mod_open mod_laid mod_isBoth mod_wished mod_bestMany mod_bestRow mod_ringDigits mod_traces mod_tape f_47 mod_with mod_lineMany mod_testEnd mod_lineEnd) H := by rw [ef_47]; exact hP
    have hD : va_D A (wl_X12_law ad cs mod_code mod_shoes mod_claims mod_taped mod_here mod_fault mod_suits mod_doneMany mod_undoneMany mod_open mod_laid mod_isBoth mod_wished mod_bestMany mod_bestRow mod_ringDigits mod_traces mod_tape f_47 mod_with mod_lineMany mod_testEnd mod_lineEnd) := by rw [ef_47]; exact hD
    refine lv_aload_n hx hb dX12_law_176 rfl (lv_at hl 0 rfl) ?_
    refine va_get (D := D) (ci := 12) (v := .ref (ad 67)) (C := RX12) (T := TX12) (N := 60) hx hb ht iX12 hown hK hP 0 rfl rfl 36 (by decide) (ht _ kw_1331) (fun _ h9 => h9) rfl dX12_law_177 ?_
    refine lv_sipush (v := (130 : Int32)) hx hb dX12_law_180 (by decide) ?_
    refine lv_iload_n hx hb dX12_law_183 rfl (lv_at hl 1 rfl) ?_
    refine lv_imul hx hb dX12_law_184 ?_
    refine lv_iload_n hx hb dX12_law_185 rfl (lv_at hl 2 rfl) ?_
    refine lv_iadd hx hb dX12_law_186 ?_
    refine lv_aload_n hx hb dX12_law_187 rfl (lv_at hl 0 rfl) ?_
    refine va_get (D := D) (ci := 12) (v := .ref (ad 67)) (C := RX12) (T := TX12) (N := 60) hx hb ht iX12 hown hK hP 0 rfl rfl 36 (by decide) (ht _ kw_1331) (fun _ h9 => h9) rfl dX12_law_188 ?_
    refine lv_sipush (v := (4160 : Int32)) hx hb dX12_law_191 (by decide) ?_
    refine lv_iload_n hx hb dX12_law_194 rfl (lv_at hl 2 rfl) ?_
    refine lv_iadd hx hb dX12_law_195 ?_
    obtain ⟨g_48, h⟩ := zk_gd h
    refine va_iald hx hb hK hP 3 0 rfl rfl g_48 dX12_law_196 ?_
    obtain ⟨v_49, ev_49, h⟩ := zk_lt h
    refine W.eq (g2 := F0 m 197 ls [.int v_49, .int (((130 : Int32) * x2) + x3), .ref (ad 67)]) (by rw [ev_49]) ?_
    obtain ⟨g_50, h⟩ := zk_gd h
    obtain ⟨f_51, ef_51, h⟩ := zk_lt h
    refine va_iast hx hb hK hP hD hS 3 0 rfl rfl g_50 dX12_law_197 (fun H locs hP hD hS => ?_)
    have hP : va_P D classes (wl_X12_law ad cs mod_code mod_shoes mod_claims mod_taped mod_here mod_fault mod_suits mod_doneMany mod_undoneMany mod_open mod_laid mod_isBoth mod_wished mod_bestMany mod_bestRow mod_ringDigits mod_traces mod_tape f_47 f_51 mod_lineMany mod_testEnd mod_lineEnd) H := by rw [ef_51]; exact hP
    have hD : va_D A (wl_X12_law ad cs mod_code mod_shoes mod_claims mod_taped mod_here mod_fault mod_suits mod_doneMany mod_undoneMany mod_open mod_laid mod_isBoth mod_wished mod_bestMany mod_bestRow mod_ringDigits mod_traces mod_tape f_47 f_51 mod_lineMany mod_testEnd mod_lineEnd) := by rw [ef_51]; exact hD
    obtain ⟨v_52, ev_52, h⟩ := zk_lt h
    refine lv_iinc (v := v_52) (lv' := [(3, .int v_52), (0, .ref (ad 41)), (2, .int x2)]) hx hb dX12_law_198 hl (k := 2) rfl (by rw [ev_52]; rfl) (by decide) rfl (fun ls hl => ?_)
    refine lv_goto (tgt := 146) hx hb dX12_law_201 (by decide) ?_
    exact ih146 x2 v_52 mod_taped mod_here mod_fault mod_open mod_laid f_47 f_51 mod_lineMany mod_testEnd mod_lineEnd h H locs ls hP hD hS (lv_sub hl [1, 2, 0] rfl)
set_option maxHeartbeats 4000000 in
set_option maxRecDepth 100000 in
theorem L_X12_law_111 {p : Program} {l : Launch} {e : Env} {s : State} {m : MethodId} {args : Array Value} {below : List Frame} {meth : Method} {c : Code} {A : Nat → Prop} {D : va_G} {cs : Nat → ClassId} {ad : Nat → Nat} {mod_code : Int32} {mod_shoes : Int32} {mod_claims : Int32} {mod_suits : Int32} {mod_doneMany : Int32} {mod_undoneMany : Int32} {mod_isBoth : Int32} {mod_wished : Int32} {mod_bestMany : Int32} {mod_bestRow : Int32} {mod_ringDigits : Int32} {mod_traces : Int32} {mod_tape : Nat → Int32} {R : Int32 × Int32 × Int32 × Int32 × Int32 × Int32 × (Nat → Int32) × (Nat → Int32) × (Nat → Int32) × (Nat → Int32) × (Nat → Int32)} {g56 : Int32 → Int32 → Int32 → Int32 → Int32 → Int32 → (Nat → Int32) → (Nat → Int32) → (Nat → Int32) → (Nat → Int32) → (Nat → Int32) → (Option (Int32 × Int32 × Int32 × Int32 × Int32 × Int32 × (Nat → Int32) × (Nat → Int32) × (Nat → Int32) × (Nat → Int32) × (Nat → Int32)))} {g146 : Int32 → Int32 → Int32 → Int32 → Int32 → Int32 → Int32 → (Nat → Int32) → (Nat → Int32) → (Nat → Int32) → (Nat → Int32) → (Nat → Int32) → (Option (Int32 × Int32 × Int32 × Int32 × Int32 × Int32 × (Nat → Int32) × (Nat → Int32) × (Nat → Int32) × (Nat → Int32) × (Nat → Int32)))} {g219 : Int32 → Int32 → Int32 → Int32 → Int32 → Int32 → Int32 → (Nat → Int32) → (Nat → Int32) → (Nat → Int32) → (Nat → Int32) → (Nat → Int32) → (Option (Int32 × Int32 × Int32 × Int32 × Int32 × Int32 × (Nat → Int32) × (Nat → Int32) × (Nat → Int32) × (Nat → Int32) × (Nat → Int32)))} (C0 : zC p s m args meth c cX12_law 4 (some .int) RX12 zW) (hK : va_K D classes (zT cs) s) (hA : ∀ q : Nat, s.heap.size ≤ q → A q) (ih56 : ∀ (x1 : Int32) (mod_taped : Int32) (mod_here : Int32) (mod_fault : Int32) (mod_open : Int32) (mod_laid : Int32) (mod_act : Nat → Int32) (mod_with : Nat → Int32) (mod_lineMany : Nat → Int32) (mod_testEnd : Nat → Int32) (mod_lineEnd : Nat → Int32) (h : g56 x1 mod_taped mod_here mod_fault mod_open mod_laid mod_act mod_with mod_lineMany mod_testEnd mod_lineEnd = some R) (H : Heap) (locs : List Loc) (ls : Array Slot) (hP : va_P D classes (wl_X12_law ad cs mod_code mod_shoes mod_claims mod_taped mod_here mod_fault mod_suits mod_doneMany mod_undoneMany mod_open mod_laid mod_isBoth mod_wished mod_bestMany mod_bestRow mod_ringDigits mod_traces mod_tape mod_act mod_with mod_lineMany mod_testEnd mod_lineEnd) H) (hD : va_D A (wl_X12_law ad cs mod_code mod_shoes mod_claims mod_taped mod_here mod_fault mod_suits mod_doneMany mod_undoneMany mod_open mod_laid mod_isBoth mod_wished mod_bestMany mod_bestRow mod_ringDigits mod_traces mod_tape mod_act mod_with mod_lineMany mod_testEnd mod_lineEnd)) (hS : va_S A s.heap H locs) (hl : lv_has ls 4 [(0, .ref (ad 41)), (1, .int x1)]), W p l e rm_X12_law s m args below meth c H locs 0 0 (MQ below (Q_X12_law D cs ad mod_code mod_shoes mod_claims mod_suits mod_doneMany mod_undoneMany mod_isBoth mod_wished mod_bestMany mod_bestRow mod_ringDigits mod_traces mod_tape A R) args s 0 0 A) (F0 m 56 ls [])) (ih146 : ∀ (x2 : Int32) (x3 : Int32) (mod_taped : Int32) (mod_here : Int32) (mod_fault : Int32) (mod_open : Int32) (mod_laid : Int32) (mod_act : Nat → Int32) (mod_with : Nat → Int32) (mod_lineMany : Nat → Int32) (mod_testEnd : Nat → Int32) (mod_lineEnd : Nat → Int32) (h : g146 x2 x3 mod_taped mod_here mod_fault mod_open mod_laid mod_act mod_with mod_lineMany mod_testEnd mod_lineEnd = some R) (H : Heap) (locs : List Loc) (ls : Array Slot) (hP : va_P D classes (wl_X12_law ad cs mod_code mod_shoes mod_claims mod_taped mod_here mod_fault mod_suits mod_doneMany mod_undoneMany mod_open mod_laid mod_isBoth mod_wished mod_bestMany mod_bestRow mod_ringDigits mod_traces mod_tape mod_act mod_with mod_lineMany mod_testEnd mod_lineEnd) H) (hD : va_D A (wl_X12_law ad cs mod_code mod_shoes mod_claims mod_taped mod_here mod_fault mod_suits mod_doneMany mod_undoneMany mod_open mod_laid mod_isBoth mod_wished mod_bestMany mod_bestRow mod_ringDigits mod_traces mod_tape mod_act mod_with mod_lineMany mod_testEnd mod_lineEnd)) (hS : va_S A s.heap H locs) (hl : lv_has ls 4 [(0, .ref (ad 41)), (2, .int x2), (3, .int x3)]), W p l e rm_X12_law s m args below meth c H locs 0 0 (MQ below (Q_X12_law D cs ad mod_code mod_shoes mod_claims mod_suits mod_doneMany mod_undoneMany mod_isBoth mod_wished mod_bestMany mod_bestRow mod_ringDigits mod_traces mod_tape A R) args s 0 0 A) (F0 m 146 ls [])) (ih219 : ∀ (x2 : Int32) (x3 : Int32) (mod_taped : Int32) (mod_here : Int32) (mod_fault : Int32) (mod_open : Int32) (mod_laid : Int32) (mod_act : Nat → Int32) (mod_with : Nat → Int32) (mod_lineMany : Nat → Int32) (mod_testEnd : Nat → Int32) (mod_lineEnd : Nat → Int32) (h : g219 x2 x3 mod_taped mod_here mod_fault mod_open mod_laid mod_act mod_with mod_lineMany mod_testEnd mod_lineEnd = some R) (H : Heap) (locs : List Loc) (ls : Array Slot) (hP : va_P D classes (wl_X12_law ad cs mod_code mod_shoes mod_claims mod_taped mod_here mod_fault mod_suits mod_doneMany mod_undoneMany mod_open mod_laid mod_isBoth mod_wished mod_bestMany mod_bestRow mod_ringDigits mod_traces mod_tape mod_act mod_with mod_lineMany mod_testEnd mod_lineEnd) H) (hD : va_D A (wl_X12_law ad cs mod_code mod_shoes mod_claims mod_taped mod_here mod_fault mod_suits mod_doneMany mod_undoneMany mod_open mod_laid mod_isBoth mod_wished mod_bestMany mod_bestRow mod_ringDigits mod_traces mod_tape mod_act mod_with mod_lineMany mod_testEnd mod_lineEnd)) (hS : va_S A s.heap H locs) (hl : lv_has ls 4 [(0, .ref (ad 41)), (2, .int x2), (3, .int x3)]), W p l e rm_X12_law s m args below meth c H locs 0 0 (MQ below (Q_X12_law D cs ad mod_code mod_shoes mod_claims mod_suits mod_doneMany mod_undoneMany mod_isBoth mod_wished mod_bestMany mod_bestRow mod_ringDigits mod_traces mod_tape A R) args s 0 0 A) (F0 m 219 ls [])) (x1 : Int32) (mod_taped : Int32) (mod_here : Int32) (mod_fault : Int32) (mod_open : Int32) (mod_laid : Int32) (mod_act : Nat → Int32) (mod_with : Nat → Int32) (mod_lineMany : Nat → Int32) (mod_testEnd : Nat → Int32) (mod_lineEnd : Nat → Int32) (h : B_X12_law_111 g56 g146 g219 mod_code mod_shoes mod_claims mod_suits mod_doneMany mod_undoneMany mod_isBoth mod_wished mod_bestMany mod_bestRow mod_ringDigits mod_traces mod_tape x1 mod_taped mod_here mod_fault mod_open mod_laid mod_act mod_with mod_lineMany mod_testEnd mod_lineEnd = some R) (H : Heap) (locs : List Loc) (ls : Array Slot) (hP : va_P D classes (wl_X12_law ad cs mod_code mod_shoes mod_claims mod_taped mod_here mod_fault mod_suits mod_doneMany mod_undoneMany mod_open mod_laid mod_isBoth mod_wished mod_bestMany mod_bestRow mod_ringDigits mod_traces mod_tape mod_act mod_with mod_lineMany mod_testEnd mod_lineEnd) H) (hD : va_D A (wl_X12_law ad cs mod_code mod_shoes mod_claims mod_taped mod_here mod_fault mod_suits mod_doneMany mod_undoneMany mod_open mod_laid mod_isBoth mod_wished mod_bestMany mod_bestRow mod_ringDigits mod_traces mod_tape mod_act mod_with mod_lineMany mod_testEnd mod_lineEnd)) (hS : va_S A s.heap H locs) (hl : lv_has ls 4 [(0, .ref (ad 41)), (1, .int x1)]) : W p l e rm_X12_law s m args below meth c H locs 0 0 (MQ below (Q_X12_law D cs ad mod_code mod_shoes mod_claims mod_suits mod_doneMany mod_undoneMany mod_isBoth mod_wished mod_bestMany mod_bestRow mod_ringDigits mod_traces mod_tape A R) args s 0 0 A) (F0 m 111 ls []) := by
  obtain ⟨hx, hb, hr, hml, hown, ht, hlocks⟩ := id C0
  refine lv_aload_n hx hb dX12_law_111 rfl (lv_at hl 0 rfl) ?_
  refine lv_iconst (v := (0 : Int32)) hx hb dX12_law_112 (by decide) ?_
  refine va_put (D := D) (ci := 12) (v := .int (0 : Int32)) (ty := .int) (C := RX12) (T := TX12) (N := 60) hx hb ht iX12 tyX12 tyX12_ok nmX12 hown hK hP hD hS 0 rfl rfl 12 (by decide) (ht _ kw_1307) (fun _ h9 => h9) rfl (by decide +kernel) rfl rfl (Nat.le_of_ble_eq_true rfl) dX12_law_113 (fun H locs hP hD hS => ?_)
  have hP : va_P D classes (wl_X12_law ad cs mod_code mod_shoes mod_claims (0 : Int32) mod_here mod_fault mod_suits mod_doneMany mod_undoneMany mod_open mod_laid mod_isBoth mod_wished mod_bestMany mod_bestRow mod_ringDigits mod_traces mod_tape mod_act mod_with mod_lineMany mod_testEnd mod_lineEnd) H := hP
  have hD : va_D A (wl_X12_law ad cs mod_code mod_shoes mod_claims (0 : Int32) mod_here mod_fault mod_suits mod_doneMany mod_undoneMany mod_open mod_laid mod_isBoth mod_wished mod_bestMany mod_bestRow mod_ringDigits mod_traces mod_tape mod_act mod_with mod_lineMany mod_testEnd mod_lineEnd) := hD
  refine lv_aload_n hx hb dX12_law_116 rfl (lv_at hl 0 rfl) ?_
  refine va_get (D := D) (ci := 12) (v := .int mod_fault) (C := RX12) (T := TX12) (N := 60) hx hb ht iX12 hown hK hP 0 rfl rfl 14 (by decide) (ht _ kw_1309) (fun _ h9 => h9) rfl dX12_law_117 ?_
  refine lv_if_lt (tgt := 131) hx hb dX12_law_120 (by decide) (fun c_38 => ?_) (fun c_38 => ?_)
  · have h := zk_t c_38 h
    refine lv_bipush (v := (8 : Int32)) hx hb dX12_law_131 (by decide) ?_
    refine lv_iload_n hx hb dX12_law_133 rfl (lv_at hl 1 rfl) ?_
    refine lv_bipush (v := (10 : Int32)) hx hb dX12_law_134 (by decide) ?_
    refine lv_idiv hx hb dX12_law_136 (by decide) ?_
    refine lv_imul hx hb dX12_law_137 ?_
    refine lv_iload_n hx hb dX12_law_138 rfl (lv_at hl 1 rfl) ?_
    refine lv_bipush (v := (10 : Int32)) hx hb dX12_law_139 (by decide) ?_
    refine lv_irem hx hb dX12_law_141 (by decide) ?_
    refine lv_iadd hx hb dX12_law_142 ?_
    obtain ⟨v_39, ev_39, h⟩ := zk_lt h
    refine W.eq (g2 := F0 m 143 ls [.int v_39]) (by rw [ev_39]) ?_
    refine lv_istore_n (lv' := [(2, .int v_39), (0, .ref (ad 41)), (1, .int x1)]) hx hb dX12_law_143 rfl hl (by decide) rfl (fun ls hl => ?_)
    refine lv_iconst (v := (0 : Int32)) hx hb dX12_law_144 (by decide) ?_
    refine lv_istore_n (lv' := [(3, .int (0 : Int32)), (2, .int v_39), (0, .ref (ad 41)), (1, .int x1)]) hx hb dX12_law_145 rfl hl (by decide) rfl (fun ls hl => ?_)
    exact ih146 v_39 (0 : Int32) (0 : Int32) mod_here mod_fault mod_open mod_laid mod_act mod_with mod_lineMany mod_testEnd mod_lineEnd h H locs ls hP hD hS (lv_sub hl [2, 1, 0] rfl)
  · have h := zk_f c_38 h
    refine lv_bipush (v := (-100 : Int32)) hx hb dX12_law_123 (by decide) ?_
    refine lv_aload_n hx hb dX12_law_125 rfl (lv_at hl 0 rfl) ?_
    refine va_get (D := D) (ci := 12) (v := .int mod_fault) (C := RX12) (T := TX12) (N := 60) hx hb ht iX12 hown hK hP 0 rfl rfl 14 (by decide) (ht _ kw_1309) (fun _ h9 => h9) rfl dX12_law_126 ?_
    refine lv_isub hx hb dX12_law_129 ?_
    exact W.iret (v := (-100 : Int32) - mod_fault) hx hb hr (fun t ht2 hW => ⟨⟨(-100 : Int32) - mod_fault, ((0 : Int32), mod_here, mod_fault, mod_open, mod_laid, mod_act, mod_with, mod_lineMany, mod_testEnd, mod_lineEnd), rfl, Option.some.inj h, by rw [ht2]; exact hP, hD⟩, hS.F ht2⟩) hS.2.2 dX12_law_130 hlocks
set_option maxHeartbeats 4000000 in
set_option maxRecDepth 100000 in
theorem L_X12_law_89 {p : Program} {l : Launch} {e : Env} {s : State} {m : MethodId} {args : Array Value} {below : List Frame} {meth : Method} {c : Code} {A : Nat → Prop} {D : va_G} {cs : Nat → ClassId} {ad : Nat → Nat} {mod_code : Int32} {mod_shoes : Int32} {mod_claims : Int32} {mod_suits : Int32} {mod_doneMany : Int32} {mod_undoneMany : Int32} {mod_isBoth : Int32} {mod_wished : Int32} {mod_bestMany : Int32} {mod_bestRow : Int32} {mod_ringDigits : Int32} {mod_traces : Int32} {mod_tape : Nat → Int32} {R : Int32 × Int32 × Int32 × Int32 × Int32 × Int32 × (Nat → Int32) × (Nat → Int32) × (Nat → Int32) × (Nat → Int32) × (Nat → Int32)} {g56 : Int32 → Int32 → Int32 → Int32 → Int32 → Int32 → (Nat → Int32) → (Nat → Int32) → (Nat → Int32) → (Nat → Int32) → (Nat → Int32) → (Option (Int32 × Int32 × Int32 × Int32 × Int32 × Int32 × (Nat → Int32) × (Nat → Int32) × (Nat → Int32) × (Nat → Int32) × (Nat → Int32)))} {g146 : Int32 → Int32 → Int32 → Int32 → Int32 → Int32 → Int32 → (Nat → Int32) → (Nat → Int32) → (Nat → Int32) → (Nat → Int32) → (Nat → Int32) → (Option (Int32 × Int32 × Int32 × Int32 × Int32 × Int32 × (Nat → Int32) × (Nat → Int32) × (Nat → Int32) × (Nat → Int32) × (Nat → Int32)))} {g219 : Int32 → Int32 → Int32 → Int32 → Int32 → Int32 → Int32 → (Nat → Int32) → (Nat → Int32) → (Nat → Int32) → (Nat → Int32) → (Nat → Int32) → (Option (Int32 × Int32 × Int32 × Int32 × Int32 × Int32 × (Nat → Int32) × (Nat → Int32) × (Nat → Int32) × (Nat → Int32) × (Nat → Int32)))} (C0 : zC p s m args meth c cX12_law 4 (some .int) RX12 zW) (hK : va_K D classes (zT cs) s) (hA : ∀ q : Nat, s.heap.size ≤ q → A q) (ih56 : ∀ (x1 : Int32) (mod_taped : Int32) (mod_here : Int32) (mod_fault : Int32) (mod_open : Int32) (mod_laid : Int32) (mod_act : Nat → Int32) (mod_with : Nat → Int32) (mod_lineMany : Nat → Int32) (mod_testEnd : Nat → Int32) (mod_lineEnd : Nat → Int32) (h : g56 x1 mod_taped mod_here mod_fault mod_open mod_laid mod_act mod_with mod_lineMany mod_testEnd mod_lineEnd = some R) (H : Heap) (locs : List Loc) (ls : Array Slot) (hP : va_P D classes (wl_X12_law ad cs mod_code mod_shoes mod_claims mod_taped mod_here mod_fault mod_suits mod_doneMany mod_undoneMany mod_open mod_laid mod_isBoth mod_wished mod_bestMany mod_bestRow mod_ringDigits mod_traces mod_tape mod_act mod_with mod_lineMany mod_testEnd mod_lineEnd) H) (hD : va_D A (wl_X12_law ad cs mod_code mod_shoes mod_claims mod_taped mod_here mod_fault mod_suits mod_doneMany mod_undoneMany mod_open mod_laid mod_isBoth mod_wished mod_bestMany mod_bestRow mod_ringDigits mod_traces mod_tape mod_act mod_with mod_lineMany mod_testEnd mod_lineEnd)) (hS : va_S A s.heap H locs) (hl : lv_has ls 4 [(0, .ref (ad 41)), (1, .int x1)]), W p l e rm_X12_law s m args below meth c H locs 0 0 (MQ below (Q_X12_law D cs ad mod_code mod_shoes mod_claims mod_suits mod_doneMany mod_undoneMany mod_isBoth mod_wished mod_bestMany mod_bestRow mod_ringDigits mod_traces mod_tape A R) args s 0 0 A) (F0 m 56 ls [])) (ih146 : ∀ (x2 : Int32) (x3 : Int32) (mod_taped : Int32) (mod_here : Int32) (mod_fault : Int32) (mod_open : Int32) (mod_laid : Int32) (mod_act : Nat → Int32) (mod_with : Nat → Int32) (mod_lineMany : Nat → Int32) (mod_testEnd : Nat → Int32) (mod_lineEnd : Nat → Int32) (h : g146 x2 x3 mod_taped mod_here mod_fault mod_open mod_laid mod_act mod_with mod_lineMany mod_testEnd mod_lineEnd = some R) (H : Heap) (locs : List Loc) (ls : Array Slot) (hP : va_P D classes (wl_X12_law ad cs mod_code mod_shoes mod_claims mod_taped mod_here mod_fault mod_suits mod_doneMany mod_undoneMany mod_open mod_laid mod_isBoth mod_wished mod_bestMany mod_bestRow mod_ringDigits mod_traces mod_tape mod_act mod_with mod_lineMany mod_testEnd mod_lineEnd) H) (hD : va_D A (wl_X12_law ad cs mod_code mod_shoes mod_claims mod_taped mod_here mod_fault mod_suits mod_doneMany mod_undoneMany mod_open mod_laid mod_isBoth mod_wished mod_bestMany mod_bestRow mod_ringDigits mod_traces mod_tape mod_act mod_with mod_lineMany mod_testEnd mod_lineEnd)) (hS : va_S A s.heap H locs) (hl : lv_has ls 4 [(0, .ref (ad 41)), (2, .int x2), (3, .int x3)]), W p l e rm_X12_law s m args below meth c H locs 0 0 (MQ below (Q_X12_law D cs ad mod_code mod_shoes mod_claims mod_suits mod_doneMany mod_undoneMany mod_isBoth mod_wished mod_bestMany mod_bestRow mod_ringDigits mod_traces mod_tape A R) args s 0 0 A) (F0 m 146 ls [])) (ih219 : ∀ (x2 : Int32) (x3 : Int32) (mod_taped : Int32) (mod_here : Int32) (mod_fault : Int32) (mod_open : Int32) (mod_laid : Int32) (mod_act : Nat → Int32) (mod_with : Nat → Int32) (mod_lineMany : Nat → Int32) (mod_testEnd : Nat → Int32) (mod_lineEnd : Nat → Int32) (h : g219 x2 x3 mod_taped mod_here mod_fault mod_open mod_laid mod_act mod_with mod_lineMany mod_testEnd mod_lineEnd = some R) (H : Heap) (locs : List Loc) (ls : Array Slot) (hP : va_P D classes (wl_X12_law ad cs mod_code mod_shoes mod_claims mod_taped mod_here mod_fault mod_suits mod_doneMany mod_undoneMany mod_open mod_laid mod_isBoth mod_wished mod_bestMany mod_bestRow mod_ringDigits mod_traces mod_tape mod_act mod_with mod_lineMany mod_testEnd mod_lineEnd) H) (hD : va_D A (wl_X12_law ad cs mod_code mod_shoes mod_claims mod_taped mod_here mod_fault mod_suits mod_doneMany mod_undoneMany mod_open mod_laid mod_isBoth mod_wished mod_bestMany mod_bestRow mod_ringDigits mod_traces mod_tape mod_act mod_with mod_lineMany mod_testEnd mod_lineEnd)) (hS : va_S A s.heap H locs) (hl : lv_has ls 4 [(0, .ref (ad 41)), (2, .int x2), (3, .int x3)]), W p l e rm_X12_law s m args below meth c H locs 0 0 (MQ below (Q_X12_law D cs ad mod_code mod_shoes mod_claims mod_suits mod_doneMany mod_undoneMany mod_isBoth mod_wished mod_bestMany mod_bestRow mod_ringDigits mod_traces mod_tape A R) args s 0 0 A) (F0 m 219 ls [])) (x1 : Int32) (mod_taped : Int32) (mod_here : Int32) (mod_fault : Int32) (mod_open : Int32) (mod_laid : Int32) (mod_act : Nat → Int32) (mod_with : Nat → Int32) (mod_lineMany : Nat → Int32) (mod_testEnd : Nat → Int32) (mod_lineEnd : Nat → Int32) (h : B_X12_law_89 g56 g146 g219 mod_code mod_shoes mod_claims mod_suits mod_doneMany mod_undoneMany mod_isBoth mod_wished mod_bestMany mod_bestRow mod_ringDigits mod_traces mod_tape x1 mod_taped mod_here mod_fault mod_open mod_laid mod_act mod_with mod_lineMany mod_testEnd mod_lineEnd = some R) (H : Heap) (locs : List Loc) (ls : Array Slot) (hP : va_P D classes (wl_X12_law ad cs mod_code mod_shoes mod_claims mod_taped mod_here mod_fault mod_suits mod_doneMany mod_undoneMany mod_open mod_laid mod_isBoth mod_wished mod_bestMany mod_bestRow mod_ringDigits mod_traces mod_tape mod_act mod_with mod_lineMany mod_testEnd mod_lineEnd) H) (hD : va_D A (wl_X12_law ad cs mod_code mod_shoes mod_claims mod_taped mod_here mod_fault mod_suits mod_doneMany mod_undoneMany mod_open mod_laid mod_isBoth mod_wished mod_bestMany mod_bestRow mod_ringDigits mod_traces mod_tape mod_act mod_with mod_lineMany mod_testEnd mod_lineEnd)) (hS : va_S A s.heap H locs) (hl : lv_has ls 4 [(0, .ref (ad 41)), (1, .int x1)]) : W p l e rm_X12_law s m args below meth c H locs 0 0 (MQ below (Q_X12_law D cs ad mod_code mod_shoes mod_claims mod_suits mod_doneMany mod_undoneMany mod_isBoth mod_wished mod_bestMany mod_bestRow mod_ringDigits mod_traces mod_tape A R) args s 0 0 A) (F0 m 89 ls []) := by
  obtain ⟨hx, hb, hr, hml, hown, ht, hlocks⟩ := id C0
  refine lv_aload_n hx hb dX12_law_89 rfl (lv_at hl 0 rfl) ?_
  refine va_get (D := D) (ci := 12) (v := .int mod_fault) (C := RX12) (T := TX12) (N := 60) hx hb ht iX12 hown hK hP 0 rfl rfl 14 (by decide) (ht _ kw_1309) (fun _ h9 => h9) rfl dX12_law_90 ?_
  refine lv_if_ge (tgt := 111) hx hb dX12_law_93 (by decide) (fun c_34 => ?_) (fun c_34 => ?_)
  · have h := zk_t c_34 h
    exact L_X12_law_111 C0 hK hA  ih56 ih146 ih219 x1 mod_taped mod_here mod_fault mod_open mod_laid mod_act mod_with mod_lineMany mod_testEnd mod_lineEnd h H locs ls hP hD hS (lv_sub hl [0, 1] rfl)
  · have h := zk_f c_34 h
    refine lv_aload_n hx hb dX12_law_96 rfl (lv_at hl 0 rfl) ?_
    refine va_get (D := D) (ci := 12) (v := .int mod_here) (C := RX12) (T := TX12) (N := 60) hx hb ht iX12 hown hK hP 0 rfl rfl 13 (by decide) (ht _ kw_1308) (fun _ h9 => h9) rfl dX12_law_97 ?_
    refine lv_aload_n hx hb dX12_law_100 rfl (lv_at hl 0 rfl) ?_
    refine va_get (D := D) (ci := 12) (v := .int mod_taped) (C := RX12) (T := TX12) (N := 60) hx hb ht iX12 hown hK hP 0 rfl rfl 12 (by decide) (ht _ kw_1307) (fun _ h9 => h9) rfl dX12_law_101 ?_
    refine lv_icmp_ge (tgt := 111) hx hb dX12_law_104 (by decide) (fun c_35 => ?_) (fun c_35 => ?_)
    · have h := zk_t c_35 h
      exact L_X12_law_111 C0 hK hA  ih56 ih146 ih219 x1 mod_taped mod_here mod_fault mod_open mod_laid mod_act mod_with mod_lineMany mod_testEnd mod_lineEnd h H locs ls hP hD hS (lv_sub hl [0, 1] rfl)
    · have h := zk_f c_35 h
      refine lv_aload_n hx hb dX12_law_107 rfl (lv_at hl 0 rfl) ?_
      obtain ⟨u_36, hc_37, h⟩ := zk_o1 h
      refine zz_vv (post := (fun u => u = u_36)) (w1 := fun u => (wl_X12_wrong ad cs mod_code mod_shoes mod_claims mod_taped mod_here u mod_suits mod_doneMany mod_undoneMany mod_open mod_laid mod_isBoth mod_wished mod_bestMany mod_bestRow mod_ringDigits mod_traces)) (As := []) (rest := []) (c_X12_wrong l D cs ad  H.size mod_code mod_shoes mod_claims mod_taped mod_here mod_fault mod_suits mod_doneMany mod_undoneMany mod_open mod_laid mod_isBoth mod_wished mod_bestMany mod_bestRow mod_ringDigits mod_traces u_36 hc_37) ⟨hx, hb, hml, hown, ht⟩ (cwV 0 ht g_X12_205 rfl rfl rfl ⟨rfl, hd_X12_wrong⟩ ⟨Nat.le_of_ble_eq_true rfl, Nat.le_of_ble_eq_true rfl⟩) (va_recv hK hP (ci := 12) (q0 := 0) rfl rfl) hP hD hS hK hA [0] rfl rfl [(ad 41)] rfl (fun _ => rfl) rfl hl.1 (Nat.le_of_ble_eq_true rfl) dX12_law_108 ⟨Nat.zero_le _, Nat.zero_le _⟩ (fun u H locs hq hP hS => ?_)
      cases hq
      have hP : va_P D classes (wl_X12_law ad cs mod_code mod_shoes mod_claims mod_taped mod_here u_36 mod_suits mod_doneMany mod_undoneMany mod_open mod_laid mod_isBoth mod_wished mod_bestMany mod_bestRow mod_ringDigits mod_traces mod_tape mod_act mod_with mod_lineMany mod_testEnd mod_lineEnd) H := hP
      have hD : va_D A (wl_X12_law ad cs mod_code mod_shoes mod_claims mod_taped mod_here u_36 mod_suits mod_doneMany mod_undoneMany mod_open mod_laid mod_isBoth mod_wished mod_bestMany mod_bestRow mod_ringDigits mod_traces mod_tape mod_act mod_with mod_lineMany mod_testEnd mod_lineEnd) := zDk hD [(ad 41), (ad 50), (ad 66), (ad 67), (ad 68), (ad 69), (ad 70)] rfl rfl
      exact L_X12_law_111 C0 hK hA  ih56 ih146 ih219 x1 mod_taped mod_here u_36 mod_open mod_laid mod_act mod_with mod_lineMany mod_testEnd mod_lineEnd h H locs ls hP hD hS (lv_sub hl [0, 1] rfl)
set_option maxHeartbeats 4000000 in
set_option maxRecDepth 100000 in
theorem L_X12_law_56 {p : Program} {l : Launch} {e : Env} {s : State} {m : MethodId} {args : Array Value} {below : List Frame} {meth : Method} {c : Code} {A : Nat → Prop} {D : va_G} {cs : Nat → ClassId} {ad : Nat → Nat} {mod_code : Int32} {mod_shoes : Int32} {mod_claims : Int32} {mod_suits : Int32} {mod_doneMany : Int32} {mod_undoneMany : Int32} {mod_isBoth : Int32} {mod_wished : Int32} {mod_bestMany : Int32} {mod_bestRow : Int32} {mod_ringDigits : Int32} {mod_traces : Int32} {mod_tape : Nat → Int32} {R : Int32 × Int32 × Int32 × Int32 × Int32 × Int32 × (Nat → Int32) × (Nat → Int32) × (Nat → Int32) × (Nat → Int32) × (Nat → Int32)} {g56 : Int32 → Int32 → Int32 → Int32 → Int32 → Int32 → (Nat → Int32) → (Nat → Int32) → (Nat → Int32) → (Nat → Int32) → (Nat → Int32) → (Option (Int32 × Int32 × Int32 × Int32 × Int32 × Int32 × (Nat → Int32) × (Nat → Int32) × (Nat → Int32) × (Nat → Int32) × (Nat → Int32)))} {g146 : Int32 → Int32 → Int32 → Int32 → Int32 → Int32 → Int32 → (Nat → Int32) → (Nat → Int32) → (Nat → Int32) → (Nat → Int32) → (Nat → Int32) → (Option (Int32 × Int32 × Int32 × Int32 × Int32 × Int32 × (Nat → Int32) × (Nat → Int32) × (Nat → Int32) × (Nat → Int32) × (Nat → Int32)))} {g219 : Int32 → Int32 → Int32 → Int32 → Int32 → Int32 → Int32 → (Nat → Int32) → (Nat → Int32) → (Nat → Int32) → (Nat → Int32) → (Nat → Int32) → (Option (Int32 × Int32 × Int32 × Int32 × Int32 × Int32 × (Nat → Int32) × (Nat → Int32) × (Nat → Int32) × (Nat → Int32) × (Nat → Int32)))} (C0 : zC p s m args meth c cX12_law 4 (some .int) RX12 zW) (hK : va_K D classes (zT cs) s) (hA : ∀ q : Nat, s.heap.size ≤ q → A q) (ih56 : ∀ (x1 : Int32) (mod_taped : Int32) (mod_here : Int32) (mod_fault : Int32) (mod_open : Int32) (mod_laid : Int32) (mod_act : Nat → Int32) (mod_with : Nat → Int32) (mod_lineMany : Nat → Int32) (mod_testEnd : Nat → Int32) (mod_lineEnd : Nat → Int32) (h : g56 x1 mod_taped mod_here mod_fault mod_open mod_laid mod_act mod_with mod_lineMany mod_testEnd mod_lineEnd = some R) (H : Heap) (locs : List Loc) (ls : Array Slot) (hP : va_P D classes (wl_X12_law ad cs mod_code mod_shoes mod_claims mod_taped mod_here mod_fault mod_suits mod_doneMany mod_undoneMany mod_open mod_laid mod_isBoth mod_wished mod_bestMany mod_bestRow mod_ringDigits mod_traces mod_tape mod_act mod_with mod_lineMany mod_testEnd mod_lineEnd) H) (hD : va_D A (wl_X12_law ad cs mod_code mod_shoes mod_claims mod_taped mod_here mod_fault mod_suits mod_doneMany mod_undoneMany mod_open mod_laid mod_isBoth mod_wished mod_bestMany mod_bestRow mod_ringDigits mod_traces mod_tape mod_act mod_with mod_lineMany mod_testEnd mod_lineEnd)) (hS : va_S A s.heap H locs) (hl : lv_has ls 4 [(0, .ref (ad 41)), (1, .int x1)]), W p l e rm_X12_law s m args below meth c H locs 0 0 (MQ below (Q_X12_law D cs ad mod_code mod_shoes mod_claims mod_suits mod_doneMany mod_undoneMany mod_isBoth mod_wished mod_bestMany mod_bestRow mod_ringDigits mod_traces mod_tape A R) args s 0 0 A) (F0 m 56 ls [])) (ih146 : ∀ (x2 : Int32) (x3 : Int32) (mod_taped : Int32) (mod_here : Int32) (mod_fault : Int32) (mod_open : Int32) (mod_laid : Int32) (mod_act : Nat → Int32) (mod_with : Nat → Int32) (mod_lineMany : Nat → Int32) (mod_testEnd : Nat → Int32) (mod_lineEnd : Nat → Int32) (h : g146 x2 x3 mod_taped mod_here mod_fault mod_open mod_laid mod_act mod_with mod_lineMany mod_testEnd mod_lineEnd = some R) (H : Heap) (locs : List Loc) (ls : Array Slot) (hP : va_P D classes (wl_X12_law ad cs mod_code mod_shoes mod_claims mod_taped mod_here mod_fault mod_suits mod_doneMany mod_undoneMany mod_open mod_laid mod_isBoth mod_wished mod_bestMany mod_bestRow mod_ringDigits mod_traces mod_tape mod_act mod_with mod_lineMany mod_testEnd mod_lineEnd) H) (hD : va_D A (wl_X12_law ad cs mod_code mod_shoes mod_claims mod_taped mod_here mod_fault mod_suits mod_doneMany mod_undoneMany mod_open mod_laid mod_isBoth mod_wished mod_bestMany mod_bestRow mod_ringDigits mod_traces mod_tape mod_act mod_with mod_lineMany mod_testEnd mod_lineEnd)) (hS : va_S A s.heap H locs) (hl : lv_has ls 4 [(0, .ref (ad 41)), (2, .int x2), (3, .int x3)]), W p l e rm_X12_law s m args below meth c H locs 0 0 (MQ below (Q_X12_law D cs ad mod_code mod_shoes mod_claims mod_suits mod_doneMany mod_undoneMany mod_isBoth mod_wished mod_bestMany mod_bestRow mod_ringDigits mod_traces mod_tape A R) args s 0 0 A) (F0 m 146 ls [])) (ih219 : ∀ (x2 : Int32) (x3 : Int32) (mod_taped : Int32) (mod_here : Int32) (mod_fault : Int32) (mod_open : Int32) (mod_laid : Int32) (mod_act : Nat → Int32) (mod_with : Nat → Int32) (mod_lineMany : Nat → Int32) (mod_testEnd : Nat → Int32) (mod_lineEnd : Nat → Int32) (h : g219 x2 x3 mod_taped mod_here mod_fault mod_open mod_laid mod_act mod_with mod_lineMany mod_testEnd mod_lineEnd = some R) (H : Heap) (locs : List Loc) (ls : Array Slot) (hP : va_P D classes (wl_X12_law ad cs mod_code mod_shoes mod_claims mod_taped mod_here mod_fault mod_suits mod_doneMany mod_undoneMany mod_open mod_laid mod_isBoth mod_wished mod_bestMany mod_bestRow mod_ringDigits mod_traces mod_tape mod_act mod_with mod_lineMany mod_testEnd mod_lineEnd) H) (hD : va_D A (wl_X12_law ad cs mod_code mod_shoes mod_claims mod_taped mod_here mod_fault mod_suits mod_doneMany mod_undoneMany mod_open mod_laid mod_isBoth mod_wished mod_bestMany mod_bestRow mod_ringDigits mod_traces mod_tape mod_act mod_with mod_lineMany mod_testEnd mod_lineEnd)) (hS : va_S A s.heap H locs) (hl : lv_has ls 4 [(0, .ref (ad 41)), (2, .int x2), (3, .int x3)]), W p l e rm_X12_law s m args below meth c H locs 0 0 (MQ below (Q_X12_law D cs ad mod_code mod_shoes mod_claims mod_suits mod_doneMany mod_undoneMany mod_isBoth mod_wished mod_bestMany mod_bestRow mod_ringDigits mod_traces mod_tape A R) args s 0 0 A) (F0 m 219 ls [])) (x1 : Int32) (mod_taped : Int32) (mod_here : Int32) (mod_fault : Int32) (mod_open : Int32) (mod_laid : Int32) (mod_act : Nat → Int32) (mod_with : Nat → Int32) (mod_lineMany : Nat → Int32) (mod_testEnd : Nat → Int32) (mod_lineEnd : Nat → Int32) (h : B_X12_law_56 g56 g146 g219 mod_code mod_shoes mod_claims mod_suits mod_doneMany mod_undoneMany mod_isBoth mod_wished mod_bestMany mod_bestRow mod_ringDigits mod_traces mod_tape x1 mod_taped mod_here mod_fault mod_open mod_laid mod_act mod_with mod_lineMany mod_testEnd mod_lineEnd = some R) (H : Heap) (locs : List Loc) (ls : Array Slot) (hP : va_P D classes (wl_X12_law ad cs mod_code mod_shoes mod_claims mod_taped mod_here mod_fault mod_suits mod_doneMany mod_undoneMany mod_open mod_laid mod_isBoth mod_wished mod_bestMany mod_bestRow mod_ringDigits mod_traces mod_tape mod_act mod_with mod_lineMany mod_testEnd mod_lineEnd) H) (hD : va_D A (wl_X12_law ad cs mod_code mod_shoes mod_claims mod_taped mod_here mod_fault mod_suits mod_doneMany mod_undoneMany mod_open mod_laid mod_isBoth mod_wished mod_bestMany mod_bestRow mod_ringDigits mod_traces mod_tape mod_act mod_with mod_lineMany mod_testEnd mod_lineEnd)) (hS : va_S A s.heap H locs) (hl : lv_has ls 4 [(0, .ref (ad 41)), (1, .int x1)]) : W p l e rm_X12_law s m args below meth c H locs 0 0 (MQ below (Q_X12_law D cs ad mod_code mod_shoes mod_claims mod_suits mod_doneMany mod_undoneMany mod_isBoth mod_wished mod_bestMany mod_bestRow mod_ringDigits mod_traces mod_tape A R) args s 0 0 A) (F0 m 56 ls []) := by
  obtain ⟨hx, hb, hr, hml, hown, ht, hlocks⟩ := id C0
  refine lv_aload_n hx hb dX12_law_56 rfl (lv_at hl 0 rfl) ?_
  refine va_get (D := D) (ci := 12) (v := .int mod_fault) (C := RX12) (T := TX12) (N := 60) hx hb ht iX12 hown hK hP 0 rfl rfl 14 (by decide) (ht _ kw_1309) (fun _ h9 => h9) rfl dX12_law_57 ?_
  refine lv_if_ge (tgt := 89) hx hb dX12_law_60 (by decide) (fun c_18 => ?_) (fun c_18 => ?_)
  · have h := zk_t c_18 h
    exact L_X12_law_89 C0 hK hA  ih56 ih146 ih219 x1 mod_taped mod_here mod_fault mod_open mod_laid mod_act mod_with mod_lineMany mod_testEnd mod_lineEnd h H locs ls hP hD hS (lv_sub hl [0, 1] rfl)
  · have h := zk_f c_18 h
    refine lv_aload_n hx hb dX12_law_63 rfl (lv_at hl 0 rfl) ?_
    obtain ⟨r_19, u_20, hc_21, h⟩ := zk_o2 h
    refine zz_vi (post := (fun r u => (r, u) = (r_19, u_20))) (w1 := fun u => (wl_X12_look ad cs mod_code mod_shoes mod_claims mod_taped mod_here mod_fault mod_suits mod_doneMany mod_undoneMany mod_open mod_laid mod_isBoth mod_wished mod_bestMany mod_bestRow mod_ringDigits mod_traces mod_tape)) (As := []) (rest := []) (c_X12_look l D cs ad  H.size mod_code mod_shoes mod_claims mod_taped mod_here mod_fault mod_suits mod_doneMany mod_undoneMany mod_open mod_laid mod_isBoth mod_wished mod_bestMany mod_bestRow mod_ringDigits mod_traces mod_tape (r_19, u_20) hc_21) ⟨hx, hb, hml, hown, ht⟩ (cwV 0 ht g_X12_194 rfl rfl rfl ⟨rfl, hd_X12_look⟩ ⟨Nat.le_of_ble_eq_true rfl, Nat.le_of_ble_eq_true rfl⟩) (va_recv hK hP (ci := 12) (q0 := 0) rfl rfl) hP hD hS hK hA [0, 1] rfl rfl [(ad 41), (ad 50)] rfl (fun _ => rfl) rfl hl.1 (Nat.le_of_ble_eq_true rfl) dX12_law_64 ⟨Nat.zero_le _, Nat.zero_le _⟩ (fun r u H locs hq hP hS => ?_)
    cases hq
    have hP : va_P D classes (wl_X12_law ad cs mod_code mod_shoes mod_claims mod_taped mod_here mod_fault mod_suits mod_doneMany mod_undoneMany mod_open mod_laid mod_isBoth mod_wished mod_bestMany mod_bestRow mod_ringDigits mod_traces mod_tape mod_act mod_with mod_lineMany mod_testEnd mod_lineEnd) H := hP
    have hD : va_D A (wl_X12_law ad cs mod_code mod_shoes mod_claims mod_taped mod_here mod_fault mod_suits mod_doneMany mod_undoneMany mod_open mod_laid mod_isBoth mod_wished mod_bestMany mod_bestRow mod_ringDigits mod_traces mod_tape mod_act mod_with mod_lineMany mod_testEnd mod_lineEnd) := zDk hD [(ad 41), (ad 50), (ad 66), (ad 67), (ad 68), (ad 69), (ad 70)] rfl rfl
    refine lv_bipush (v := (59 : Int32)) hx hb dX12_law_67 (by decide) ?_
    refine lv_icmp_ne (tgt := 89) hx hb dX12_law_69 (by decide) (fun c_22 => ?_) (fun c_22 => ?_)
    · have h := zk_f c_22 h
      exact L_X12_law_89 C0 hK hA  ih56 ih146 ih219 x1 mod_taped mod_here mod_fault mod_open mod_laid mod_act mod_with mod_lineMany mod_testEnd mod_lineEnd h H locs ls hP hD hS (lv_sub hl [0, 1] rfl)
    · have h := zk_t c_22 h
      refine lv_aload_n hx hb dX12_law_72 rfl (lv_at hl 0 rfl) ?_
      refine lv_dup hx hb dX12_law_73 rfl ?_
      refine va_get (D := D) (ci := 12) (v := .int mod_here) (C := RX12) (T := TX12) (N := 60) hx hb ht iX12 hown hK hP 0 rfl rfl 13 (by decide) (ht _ kw_1308) (fun _ h9 => h9) rfl dX12_law_74 ?_
      refine lv_iconst (v := (1 : Int32)) hx hb dX12_law_77 (by decide) ?_
      refine lv_iadd hx hb dX12_law_78 ?_
      obtain ⟨v_23, ev_23, h⟩ := zk_lt h
      refine W.eq (g2 := F0 m 79 ls [.int v_23, .ref (ad 41)]) (by rw [ev_23]) ?_
      refine va_put (D := D) (ci := 12) (v := .int v_23) (ty := .int) (C := RX12) (T := TX12) (N := 60) hx hb ht iX12 tyX12 tyX12_ok nmX12 hown hK hP hD hS 0 rfl rfl 13 (by decide) (ht _ kw_1308) (fun _ h9 => h9) rfl (by decide +kernel) rfl rfl (Nat.le_of_ble_eq_true rfl) dX12_law_79 (fun H locs hP hD hS => ?_)
      have hP : va_P D classes (wl_X12_law ad cs mod_code mod_shoes mod_claims mod_taped v_23 mod_fault mod_suits mod_doneMany mod_undoneMany mod_open mod_laid mod_isBoth mod_wished mod_bestMany mod_bestRow mod_ringDigits mod_traces mod_tape mod_act mod_with mod_lineMany mod_testEnd mod_lineEnd) H := hP
      have hD : va_D A (wl_X12_law ad cs mod_code mod_shoes mod_claims mod_taped v_23 mod_fault mod_suits mod_doneMany mod_undoneMany mod_open mod_laid mod_isBoth mod_wished mod_bestMany mod_bestRow mod_ringDigits mod_traces mod_tape mod_act mod_with mod_lineMany mod_testEnd mod_lineEnd) := hD
      refine lv_aload_n hx hb dX12_law_82 rfl (lv_at hl 0 rfl) ?_
      obtain ⟨u_24, u_25, u_26, u_27, u_28, u_29, u_30, u_31, u_32, hc_33, h⟩ := zk_o9 h
      refine zz_vv (post := (fun u => u = (u_24, u_25, u_26, u_27, u_28, u_29, u_30, u_31, u_32))) (w1 := fun u => (wl_X12_line ad cs mod_code mod_shoes mod_claims mod_taped u.1 u.2.1 mod_suits mod_doneMany mod_undoneMany u.2.2.1 u.2.2.2.1 mod_isBoth mod_wished mod_bestMany mod_bestRow mod_ringDigits mod_traces mod_tape u.2.2.2.2.1 u.2.2.2.2.2.1 u.2.2.2.2.2.2.1 u.2.2.2.2.2.2.2.1 u.2.2.2.2.2.2.2.2)) (As := []) (rest := []) (c_X12_line l D cs ad  H.size mod_code mod_shoes mod_claims mod_taped v_23 mod_fault mod_suits mod_doneMany mod_undoneMany mod_open mod_laid mod_isBoth mod_wished mod_bestMany mod_bestRow mod_ringDigits mod_traces mod_tape mod_act mod_with mod_lineMany mod_testEnd mod_lineEnd (u_24, u_25, u_26, u_27, u_28, u_29, u_30, u_31, u_32) hc_33) ⟨hx, hb, hml, hown, ht⟩ (cwV 0 ht g_X12_293 rfl rfl rfl ⟨rfl, hd_X12_line⟩ ⟨Nat.le_of_ble_eq_true rfl, Nat.le_of_ble_eq_true rfl⟩) (va_recv hK hP (ci := 12) (q0 := 0) rfl rfl) hP hD hS hK hA [0, 1, 2, 3, 4, 5, 6] rfl rfl [(ad 41), (ad 50), (ad 66), (ad 67), (ad 68), (ad 69), (ad 70)] rfl (fun _ => rfl) rfl hl.1 (Nat.le_of_ble_eq_true rfl) dX12_law_83 ⟨Nat.zero_le _, Nat.zero_le _⟩ (fun u H locs hq hP hS => ?_)
      cases hq
      have hP : va_P D classes (wl_X12_law ad cs mod_code mod_shoes mod_claims mod_taped u_24 u_25 mod_suits mod_doneMany mod_undoneMany u_26 u_27 mod_isBoth mod_wished mod_bestMany mod_bestRow mod_ringDigits mod_traces mod_tape u_28 u_29 u_30 u_31 u_32) H := hP
      have hD : va_D A (wl_X12_law ad cs mod_code mod_shoes mod_claims mod_taped u_24 u_25 mod_suits mod_doneMany mod_undoneMany u_26 u_27 mod_isBoth mod_wished mod_bestMany mod_bestRow mod_ringDigits mod_traces mod_tape u_28 u_29 u_30 u_31 u_32) := zDk hD [(ad 41), (ad 50), (ad 66), (ad 67), (ad 68), (ad 69), (ad 70)] rfl rfl
      refine lv_goto (tgt := 56) hx hb dX12_law_86 (by decide) ?_
      exact ih56 x1 mod_taped u_24 u_25 u_26 u_27 u_28 u_29 u_30 u_31 u_32 h H locs ls hP hD hS (lv_sub hl [0, 1] rfl)
set_option maxHeartbeats 4000000 in
set_option maxRecDepth 100000 in
theorem L_X12_law_0 {p : Program} {l : Launch} {e : Env} {s : State} {m : MethodId} {args : Array Value} {below : List Frame} {meth : Method} {c : Code} {A : Nat → Prop} {D : va_G} {cs : Nat → ClassId} {ad : Nat → Nat} {mod_code : Int32} {mod_shoes : Int32} {mod_claims : Int32} {mod_suits : Int32} {mod_doneMany : Int32} {mod_undoneMany : Int32} {mod_isBoth : Int32} {mod_wished : Int32} {mod_bestMany : Int32} {mod_bestRow : Int32} {mod_ringDigits : Int32} {mod_traces : Int32} {mod_tape : Nat → Int32} {R : Int32 × Int32 × Int32 × Int32 × Int32 × Int32 × (Nat → Int32) × (Nat → Int32) × (Nat → Int32) × (Nat → Int32) × (Nat → Int32)} {g56 : Int32 → Int32 → Int32 → Int32 → Int32 → Int32 → (Nat → Int32) → (Nat → Int32) → (Nat → Int32) → (Nat → Int32) → (Nat → Int32) → (Option (Int32 × Int32 × Int32 × Int32 × Int32 × Int32 × (Nat → Int32) × (Nat → Int32) × (Nat → Int32) × (Nat → Int32) × (Nat → Int32)))} {g146 : Int32 → Int32 → Int32 → Int32 → Int32 → Int32 → Int32 → (Nat → Int32) → (Nat → Int32) → (Nat → Int32) → (Nat → Int32) → (Nat → Int32) → (Option (Int32 × Int32 × Int32 × Int32 × Int32 × Int32 × (Nat → Int32) × (Nat → Int32) × (Nat → Int32) × (Nat → Int32) × (Nat → Int32)))} {g219 : Int32 → Int32 → Int32 → Int32 → Int32 → Int32 → Int32 → (Nat → Int32) → (Nat → Int32) → (Nat → Int32) → (Nat → Int32) → (Nat → Int32) → (Option (Int32 × Int32 × Int32 × Int32 × Int32 × Int32 × (Nat → Int32) × (Nat → Int32) × (Nat → Int32) × (Nat → Int32) × (Nat → Int32)))} (C0 : zC p s m args meth c cX12_law 4 (some .int) RX12 zW) (hK : va_K D classes (zT cs) s) (hA : ∀ q : Nat, s.heap.size ≤ q → A q) (ih56 : ∀ (x1 : Int32) (mod_taped : Int32) (mod_here : Int32) (mod_fault : Int32) (mod_open : Int32) (mod_laid : Int32) (mod_act : Nat → Int32) (mod_with : Nat → Int32) (mod_lineMany : Nat → Int32) (mod_testEnd : Nat → Int32) (mod_lineEnd : Nat → Int32) (h : g56 x1 mod_taped mod_here mod_fault mod_open mod_laid mod_act mod_with mod_lineMany mod_testEnd mod_lineEnd = some R) (H : Heap) (locs : List Loc) (ls : Array Slot) (hP : va_P D classes (wl_X12_law ad cs mod_code mod_shoes mod_claims mod_taped mod_here mod_fault mod_suits mod_doneMany mod_undoneMany mod_open mod_laid mod_isBoth mod_wished mod_bestMany mod_bestRow mod_ringDigits mod_traces mod_tape mod_act mod_with mod_lineMany mod_testEnd mod_lineEnd) H) (hD : va_D A (wl_X12_law ad cs mod_code mod_shoes mod_claims mod_taped mod_here mod_fault mod_suits mod_doneMany mod_undoneMany mod_open mod_laid mod_isBoth mod_wished mod_bestMany mod_bestRow mod_ringDigits mod_traces mod_tape mod_act mod_with mod_lineMany mod_testEnd mod_lineEnd)) (hS : va_S A s.heap H locs) (hl : lv_has ls 4 [(0, .ref (ad 41)), (1, .int x1)]), W p l e rm_X12_law s m args below meth c H locs 0 0 (MQ below (Q_X12_law D cs ad mod_code mod_shoes mod_claims mod_suits mod_doneMany mod_undoneMany mod_isBoth mod_wished mod_bestMany mod_bestRow mod_ringDigits mod_traces mod_tape A R) args s 0 0 A) (F0 m 56 ls [])) (ih146 : ∀ (x2 : Int32) (x3 : Int32) (mod_taped : Int32) (mod_here : Int32) (mod_fault : Int32) (mod_open : Int32) (mod_laid : Int32) (mod_act : Nat → Int32) (mod_with : Nat → Int32) (mod_lineMany : Nat → Int32) (mod_testEnd : Nat → Int32) (mod_lineEnd : Nat → Int32) (h : g146 x2 x3 mod_taped mod_here mod_fault mod_open mod_laid mod_act mod_with mod_lineMany mod_testEnd mod_lineEnd = some R) (H : Heap) (locs : List Loc) (ls : Array Slot) (hP : va_P D classes (wl_X12_law ad cs mod_code mod_shoes mod_claims mod_taped mod_here mod_fault mod_suits mod_doneMany mod_undoneMany mod_open mod_laid mod_isBoth mod_wished mod_bestMany mod_bestRow mod_ringDigits mod_traces mod_tape mod_act mod_with mod_lineMany mod_testEnd mod_lineEnd) H) (hD : va_D A (wl_X12_law ad cs mod_code mod_shoes mod_claims mod_taped mod_here mod_fault mod_suits mod_doneMany mod_undoneMany mod_open mod_laid mod_isBoth mod_wished mod_bestMany mod_bestRow mod_ringDigits mod_traces mod_tape mod_act mod_with mod_lineMany mod_testEnd mod_lineEnd)) (hS : va_S A s.heap H locs) (hl : lv_has ls 4 [(0, .ref (ad 41)), (2, .int x2), (3, .int x3)]), W p l e rm_X12_law s m args below meth c H locs 0 0 (MQ below (Q_X12_law D cs ad mod_code mod_shoes mod_claims mod_suits mod_doneMany mod_undoneMany mod_isBoth mod_wished mod_bestMany mod_bestRow mod_ringDigits mod_traces mod_tape A R) args s 0 0 A) (F0 m 146 ls [])) (ih219 : ∀ (x2 : Int32) (x3 : Int32) (mod_taped : Int32) (mod_here : Int32) (mod_fault : Int32) (mod_open : Int32) (mod_laid : Int32) (mod_act : Nat → Int32) (mod_with : Nat → Int32) (mod_lineMany : Nat → Int32) (mod_testEnd : Nat → Int32) (mod_lineEnd : Nat → Int32) (h : g219 x2 x3 mod_taped mod_here mod_fault mod_open mod_laid mod_act mod_with mod_lineMany mod_testEnd mod_lineEnd = some R) (H : Heap) (locs : List Loc) (ls : Array Slot) (hP : va_P D classes (wl_X12_law ad cs mod_code mod_shoes mod_claims mod_taped mod_here mod_fault mod_suits mod_doneMany mod_undoneMany mod_open mod_laid mod_isBoth mod_wished mod_bestMany mod_bestRow mod_ringDigits mod_traces mod_tape mod_act mod_with mod_lineMany mod_testEnd mod_lineEnd) H) (hD : va_D A (wl_X12_law ad cs mod_code mod_shoes mod_claims mod_taped mod_here mod_fault mod_suits mod_doneMany mod_undoneMany mod_open mod_laid mod_isBoth mod_wished mod_bestMany mod_bestRow mod_ringDigits mod_traces mod_tape mod_act mod_with mod_lineMany mod_testEnd mod_lineEnd)) (hS : va_S A s.heap H locs) (hl : lv_has ls 4 [(0, .ref (ad 41)), (2, .int x2), (3, .int x3)]), W p l e rm_X12_law s m args below meth c H locs 0 0 (MQ below (Q_X12_law D cs ad mod_code mod_shoes mod_claims mod_suits mod_doneMany mod_undoneMany mod_isBoth mod_wished mod_bestMany mod_bestRow mod_ringDigits mod_traces mod_tape A R) args s 0 0 A) (F0 m 219 ls [])) (x1 : Int32) (mod_taped : Int32) (mod_here : Int32) (mod_fault : Int32) (mod_open : Int32) (mod_laid : Int32) (mod_act : Nat → Int32) (mod_with : Nat → Int32) (mod_lineMany : Nat → Int32) (mod_testEnd : Nat → Int32) (mod_lineEnd : Nat → Int32) (h : B_X12_law_0 g56 g146 g219 mod_code mod_shoes mod_claims mod_suits mod_doneMany mod_undoneMany mod_isBoth mod_wished mod_bestMany mod_bestRow mod_ringDigits mod_traces mod_tape x1 mod_taped mod_here mod_fault mod_open mod_laid mod_act mod_with mod_lineMany mod_testEnd mod_lineEnd = some R) (H : Heap) (locs : List Loc) (ls : Array Slot) (hP : va_P D classes (wl_X12_law ad cs mod_code mod_shoes mod_claims mod_taped mod_here mod_fault mod_suits mod_doneMany mod_undoneMany mod_open mod_laid mod_isBoth mod_wished mod_bestMany mod_bestRow mod_ringDigits mod_traces mod_tape mod_act mod_with mod_lineMany mod_testEnd mod_lineEnd) H) (hD : va_D A (wl_X12_law ad cs mod_code mod_shoes mod_claims mod_taped mod_here mod_fault mod_suits mod_doneMany mod_undoneMany mod_open mod_laid mod_isBoth mod_wished mod_bestMany mod_bestRow mod_ringDigits mod_traces mod_tape mod_act mod_with mod_lineMany mod_testEnd mod_lineEnd)) (hS : va_S A s.heap H locs) (hl : lv_has ls 4 [(0, .ref (ad 41)), (1, .int x1)]) : W p l e rm_X12_law s m args below meth c H locs 0 0 (MQ below (Q_X12_law D cs ad mod_code mod_shoes mod_claims mod_suits mod_doneMany mod_undoneMany mod_isBoth mod_wished mod_bestMany mod_bestRow mod_ringDigits mod_traces mod_tape A R) args s 0 0 A) (F0 m 0 ls []) := by
  obtain ⟨hx, hb, hr, hml, hown, ht, hlocks⟩ := id C0
  refine lv_iload_n hx hb dX12_law_0 rfl (lv_at hl 1 rfl) ?_
  refine lv_if_lt (tgt := 22) hx hb dX12_law_1 (by decide) (fun c_1 => ?_) (fun c_1 => ?_)
  · have h := zk_t c_1 h
    refine lv_iconst (v := (-1 : Int32)) hx hb dX12_law_22 (by decide) ?_
    exact W.iret (v := (-1 : Int32)) hx hb hr (fun t ht2 hW => ⟨⟨(-1 : Int32), (mod_taped, mod_here, mod_fault, mod_open, mod_laid, mod_act, mod_with, mod_lineMany, mod_testEnd, mod_lineEnd), rfl, Option.some.inj h, by rw [ht2]; exact hP, hD⟩, hS.F ht2⟩) hS.2.2 dX12_law_23 hlocks
  · have h := zk_f c_1 h
    refine lv_iload_n hx hb dX12_law_4 rfl (lv_at hl 1 rfl) ?_
    refine lv_bipush (v := (10 : Int32)) hx hb dX12_law_5 (by decide) ?_
    refine lv_idiv hx hb dX12_law_7 (by decide) ?_
    refine lv_iconst (v := (3 : Int32)) hx hb dX12_law_8 (by decide) ?_
    refine lv_icmp_gt (tgt := 22) hx hb dX12_law_9 (by decide) (fun c_2 => ?_) (fun c_2 => ?_)
    · have h := zk_t c_2 h
      refine lv_iconst (v := (-1 : Int32)) hx hb dX12_law_22 (by decide) ?_
      exact W.iret (v := (-1 : Int32)) hx hb hr (fun t ht2 hW => ⟨⟨(-1 : Int32), (mod_taped, mod_here, mod_fault, mod_open, mod_laid, mod_act, mod_with, mod_lineMany, mod_testEnd, mod_lineEnd), rfl, Option.some.inj h, by rw [ht2]; exact hP, hD⟩, hS.F ht2⟩) hS.2.2 dX12_law_23 hlocks
    · have h := zk_f c_2 h
      refine lv_iload_n hx hb dX12_law_12 rfl (lv_at hl 1 rfl) ?_
      refine lv_bipush (v := (10 : Int32)) hx hb dX12_law_13 (by decide) ?_
      refine lv_irem hx hb dX12_law_15 (by decide) ?_
      obtain ⟨r_3, u_4, hc_5, h⟩ := zk_o2 h
      refine zz_si (post := (fun r u => (r, u) = (r_3, u_4))) (w1 := fun u => (wl_X12_isLand ad cs )) (As := [.int (x1 - x1 / (10 : Int32) * (10 : Int32))]) (rest := []) (c_X12_isLand l D cs ad  H.size (x1 - x1 / (10 : Int32) * (10 : Int32)) (r_3, u_4) hc_5) ⟨hx, hb, hml, hown, ht⟩ (va_cwS 1 ht g_X12_155 rfl rfl rfl hd_X12_isLand ⟨Nat.le_of_ble_eq_true rfl, Nat.le_of_ble_eq_true rfl⟩) hP hD hS hK hA [] rfl rfl [] rfl (fun _ => rfl) rfl hl.1 (Nat.le_of_ble_eq_true rfl) dX12_law_16 ⟨Nat.zero_le _, Nat.zero_le _⟩ (fun r u H locs hq hP hS => ?_)
      cases hq
      have hP : va_P D classes (wl_X12_law ad cs mod_code mod_shoes mod_claims mod_taped mod_here mod_fault mod_suits mod_doneMany mod_undoneMany mod_open mod_laid mod_isBoth mod_wished mod_bestMany mod_bestRow mod_ringDigits mod_traces mod_tape mod_act mod_with mod_lineMany mod_testEnd mod_lineEnd) H := hP
      refine lv_if_ne (tgt := 24) hx hb dX12_law_19 (by decide) (fun c_6 => ?_) (fun c_6 => ?_)
      · have h := zk_f c_6 h
        refine lv_aload_n hx hb dX12_law_24 rfl (lv_at hl 0 rfl) ?_
        refine lv_iconst (v := (0 : Int32)) hx hb dX12_law_25 (by decide) ?_
        refine va_put (D := D) (ci := 12) (v := .int (0 : Int32)) (ty := .int) (C := RX12) (T := TX12) (N := 60) hx hb ht iX12 tyX12 tyX12_ok nmX12 hown hK hP hD hS 0 rfl rfl 13 (by decide) (ht _ kw_1308) (fun _ h9 => h9) rfl (by decide +kernel) rfl rfl (Nat.le_of_ble_eq_true rfl) dX12_law_26 (fun H locs hP hD hS => ?_)
        have hP : va_P D classes (wl_X12_law ad cs mod_code mod_shoes mod_claims mod_taped (0 : Int32) mod_fault mod_suits mod_doneMany mod_undoneMany mod_open mod_laid mod_isBoth mod_wished mod_bestMany mod_bestRow mod_ringDigits mod_traces mod_tape mod_act mod_with mod_lineMany mod_testEnd mod_lineEnd) H := hP
        have hD : va_D A (wl_X12_law ad cs mod_code mod_shoes mod_claims mod_taped (0 : Int32) mod_fault mod_suits mod_doneMany mod_undoneMany mod_open mod_laid mod_isBoth mod_wished mod_bestMany mod_bestRow mod_ringDigits mod_traces mod_tape mod_act mod_with mod_lineMany mod_testEnd mod_lineEnd) := hD
        refine lv_aload_n hx hb dX12_law_29 rfl (lv_at hl 0 rfl) ?_
        refine lv_iconst (v := (-1 : Int32)) hx hb dX12_law_30 (by decide) ?_
        refine va_put (D := D) (ci := 12) (v := .int (-1 : Int32)) (ty := .int) (C := RX12) (T := TX12) (N := 60) hx hb ht iX12 tyX12 tyX12_ok nmX12 hown hK hP hD hS 0 rfl rfl 14 (by decide) (ht _ kw_1309) (fun _ h9 => h9) rfl (by decide +kernel) rfl rfl (Nat.le_of_ble_eq_true rfl) dX12_law_31 (fun H locs hP hD hS => ?_)
        have hP : va_P D classes (wl_X12_law ad cs mod_code mod_shoes mod_claims mod_taped (0 : Int32) (-1 : Int32) mod_suits mod_doneMany mod_undoneMany mod_open mod_laid mod_isBoth mod_wished mod_bestMany mod_bestRow mod_ringDigits mod_traces mod_tape mod_act mod_with mod_lineMany mod_testEnd mod_lineEnd) H := hP
        have hD : va_D A (wl_X12_law ad cs mod_code mod_shoes mod_claims mod_taped (0 : Int32) (-1 : Int32) mod_suits mod_doneMany mod_undoneMany mod_open mod_laid mod_isBoth mod_wished mod_bestMany mod_bestRow mod_ringDigits mod_traces mod_tape mod_act mod_with mod_lineMany mod_testEnd mod_lineEnd) := hD
        refine lv_aload_n hx hb dX12_law_34 rfl (lv_at hl 0 rfl) ?_
        refine lv_iconst (v := (0 : Int32)) hx hb dX12_law_35 (by decide) ?_
        refine va_put (D := D) (ci := 12) (v := .int (0 : Int32)) (ty := .int) (C := RX12) (T := TX12) (N := 60) hx hb ht iX12 tyX12 tyX12_ok nmX12 hown hK hP hD hS 0 rfl rfl 33 (by decide) (ht _ kw_1328) (fun _ h9 => h9) rfl (by decide +kernel) rfl rfl (Nat.le_of_ble_eq_true rfl) dX12_law_36 (fun H locs hP hD hS => ?_)
        have hP : va_P D classes (wl_X12_law ad cs mod_code mod_shoes mod_claims mod_taped (0 : Int32) (-1 : Int32) mod_suits mod_doneMany mod_undoneMany (0 : Int32) mod_laid mod_isBoth mod_wished mod_bestMany mod_bestRow mod_ringDigits mod_traces mod_tape mod_act mod_with mod_lineMany mod_testEnd mod_lineEnd) H := hP
        have hD : va_D A (wl_X12_law ad cs mod_code mod_shoes mod_claims mod_taped (0 : Int32) (-1 : Int32) mod_suits mod_doneMany mod_undoneMany (0 : Int32) mod_laid mod_isBoth mod_wished mod_bestMany mod_bestRow mod_ringDigits mod_traces mod_tape mod_act mod_with mod_lineMany mod_testEnd mod_lineEnd) := hD
        refine lv_aload_n hx hb dX12_law_39 rfl (lv_at hl 0 rfl) ?_
        refine lv_iconst (v := (0 : Int32)) hx hb dX12_law_40 (by decide) ?_
        refine va_put (D := D) (ci := 12) (v := .int (0 : Int32)) (ty := .int) (C := RX12) (T := TX12) (N := 60) hx hb ht iX12 tyX12 tyX12_ok nmX12 hown hK hP hD hS 0 rfl rfl 34 (by decide) (ht _ kw_1329) (fun _ h9 => h9) rfl (by decide +kernel) rfl rfl (Nat.le_of_ble_eq_true rfl) dX12_law_41 (fun H locs hP hD hS => ?_)
        have hP : va_P D classes (wl_X12_law ad cs mod_code mod_shoes mod_claims mod_taped (0 : Int32) (-1 : Int32) mod_suits mod_doneMany mod_undoneMany (0 : Int32) (0 : Int32) mod_isBoth mod_wished mod_bestMany mod_bestRow mod_ringDigits mod_traces mod_tape mod_act mod_with mod_lineMany mod_testEnd mod_lineEnd) H := hP
        have hD : va_D A (wl_X12_law ad cs mod_code mod_shoes mod_claims mod_taped (0 : Int32) (-1 : Int32) mod_suits mod_doneMany mod_undoneMany (0 : Int32) (0 : Int32) mod_isBoth mod_wished mod_bestMany mod_bestRow mod_ringDigits mod_traces mod_tape mod_act mod_with mod_lineMany mod_testEnd mod_lineEnd) := hD
        refine lv_aload_n hx hb dX12_law_44 rfl (lv_at hl 0 rfl) ?_
        refine va_get (D := D) (ci := 12) (v := .ref (ad 68)) (C := RX12) (T := TX12) (N := 60) hx hb ht iX12 hown hK hP 0 rfl rfl 37 (by decide) (ht _ kw_1332) (fun _ h9 => h9) rfl dX12_law_45 ?_
        refine lv_bipush (v := (32 : Int32)) hx hb dX12_law_48 (by decide) ?_
        refine lv_iconst (v := (0 : Int32)) hx hb dX12_law_50 (by decide) ?_
        obtain ⟨f_7, ef_7, h⟩ := zk_lt h
        refine va_iast hx hb hK hP hD hS 4 0 rfl rfl (by unfold vp_in; decide) dX12_law_51 (fun H locs hP hD hS => ?_)
        have hP : va_P D classes (wl_X12_law ad cs mod_code mod_shoes mod_claims mod_taped (0 : Int32) (-1 : Int32) mod_suits mod_doneMany mod_undoneMany (0 : Int32) (0 : Int32) mod_isBoth mod_wished mod_bestMany mod_bestRow mod_ringDigits mod_traces mod_tape mod_act mod_with f_7 mod_testEnd mod_lineEnd) H := by rw [ef_7]; exact hP
        have hD : va_D A (wl_X12_law ad cs mod_code mod_shoes mod_claims mod_taped (0 : Int32) (-1 : Int32) mod_suits mod_doneMany mod_undoneMany (0 : Int32) (0 : Int32) mod_isBoth mod_wished mod_bestMany mod_bestRow mod_ringDigits mod_traces mod_tape mod_act mod_with f_7 mod_testEnd mod_lineEnd) := by rw [ef_7]; exact hD
        refine lv_aload_n hx hb dX12_law_52 rfl (lv_at hl 0 rfl) ?_
        obtain ⟨u_8, u_9, u_10, u_11, u_12, u_13, u_14, u_15, u_16, hc_17, h⟩ := zk_o9 h
        refine zz_vv (post := (fun u => u = (u_8, u_9, u_10, u_11, u_12, u_13, u_14, u_15, u_16))) (w1 := fun u => (wl_X12_line ad cs mod_code mod_shoes mod_claims mod_taped u.1 u.2.1 mod_suits mod_doneMany mod_undoneMany u.2.2.1 u.2.2.2.1 mod_isBoth mod_wished mod_bestMany mod_bestRow mod_ringDigits mod_traces mod_tape u.2.2.2.2.1 u.2.2.2.2.2.1 u.2.2.2.2.2.2.1 u.2.2.2.2.2.2.2.1 u.2.2.2.2.2.2.2.2)) (As := []) (rest := []) (c_X12_line l D cs ad  H.size mod_code mod_shoes mod_claims mod_taped (0 : Int32) (-1 : Int32) mod_suits mod_doneMany mod_undoneMany (0 : Int32) (0 : Int32) mod_isBoth mod_wished mod_bestMany mod_bestRow mod_ringDigits mod_traces mod_tape mod_act mod_with f_7 mod_testEnd mod_lineEnd (u_8, u_9, u_10, u_11, u_12, u_13, u_14, u_15, u_16) hc_17) ⟨hx, hb, hml, hown, ht⟩ (cwV 0 ht g_X12_293 rfl rfl rfl ⟨rfl, hd_X12_line⟩ ⟨Nat.le_of_ble_eq_true rfl, Nat.le_of_ble_eq_true rfl⟩) (va_recv hK hP (ci := 12) (q0 := 0) rfl rfl) hP hD hS hK hA [0, 1, 2, 3, 4, 5, 6] rfl rfl [(ad 41), (ad 50), (ad 66), (ad 67), (ad 68), (ad 69), (ad 70)] rfl (fun _ => rfl) rfl hl.1 (Nat.le_of_ble_eq_true rfl) dX12_law_53 ⟨Nat.zero_le _, Nat.zero_le _⟩ (fun u H locs hq hP hS => ?_)
        cases hq
        have hP : va_P D classes (wl_X12_law ad cs mod_code mod_shoes mod_claims mod_taped u_8 u_9 mod_suits mod_doneMany mod_undoneMany u_10 u_11 mod_isBoth mod_wished mod_bestMany mod_bestRow mod_ringDigits mod_traces mod_tape u_12 u_13 u_14 u_15 u_16) H := hP
        have hD : va_D A (wl_X12_law ad cs mod_code mod_shoes mod_claims mod_taped u_8 u_9 mod_suits mod_doneMany mod_undoneMany u_10 u_11 mod_isBoth mod_wished mod_bestMany mod_bestRow mod_ringDigits mod_traces mod_tape u_12 u_13 u_14 u_15 u_16) := zDk hD [(ad 41), (ad 50), (ad 66), (ad 67), (ad 68), (ad 69), (ad 70)] rfl rfl
        exact ih56 x1 mod_taped u_8 u_9 u_10 u_11 u_12 u_13 u_14 u_15 u_16 h H locs ls hP hD hS (lv_sub hl [0, 1] rfl)
      · have h := zk_t c_6 h
        refine lv_iconst (v := (-1 : Int32)) hx hb dX12_law_22 (by decide) ?_
        exact W.iret (v := (-1 : Int32)) hx hb hr (fun t ht2 hW => ⟨⟨(-1 : Int32), (mod_taped, mod_here, mod_fault, mod_open, mod_laid, mod_act, mod_with, mod_lineMany, mod_testEnd, mod_lineEnd), rfl, Option.some.inj h, by rw [ht2]; exact hP, hD⟩, hS.F ht2⟩) hS.2.2 dX12_law_23 hlocks
theorem LG_X12_law {p : Program} {l : Launch} {e : Env} {s : State} {m : MethodId} {args : Array Value} {below : List Frame} {meth : Method} {c : Code} {A : Nat → Prop} {D : va_G} {cs : Nat → ClassId} {ad : Nat → Nat} {mod_code : Int32} {mod_shoes : Int32} {mod_claims : Int32} {mod_suits : Int32} {mod_doneMany : Int32} {mod_undoneMany : Int32} {mod_isBoth : Int32} {mod_wished : Int32} {mod_bestMany : Int32} {mod_bestRow : Int32} {mod_ringDigits : Int32} {mod_traces : Int32} {mod_tape : Nat → Int32} {R : Int32 × Int32 × Int32 × Int32 × Int32 × Int32 × (Nat → Int32) × (Nat → Int32) × (Nat → Int32) × (Nat → Int32) × (Nat → Int32)} (C0 : zC p s m args meth c cX12_law 4 (some .int) RX12 zW) (hK : va_K D classes (zT cs) s) (hA : ∀ q : Nat, s.heap.size ≤ q → A q) : ∀ n : Nat, (∀ (x1 : Int32) (mod_taped : Int32) (mod_here : Int32) (mod_fault : Int32) (mod_open : Int32) (mod_laid : Int32) (mod_act : Nat → Int32) (mod_with : Nat → Int32) (mod_lineMany : Nat → Int32) (mod_testEnd : Nat → Int32) (mod_lineEnd : Nat → Int32) (h : (G_X12_law   mod_code mod_shoes mod_claims mod_suits mod_doneMany mod_undoneMany mod_isBoth mod_wished mod_bestMany mod_bestRow mod_ringDigits mod_traces mod_tape n).1 x1 mod_taped mod_here mod_fault mod_open mod_laid mod_act mod_with mod_lineMany mod_testEnd mod_lineEnd = some R) (H : Heap) (locs : List Loc) (ls : Array Slot) (hP : va_P D classes (wl_X12_law ad cs mod_code mod_shoes mod_claims mod_taped mod_here mod_fault mod_suits mod_doneMany mod_undoneMany mod_open mod_laid mod_isBoth mod_wished mod_bestMany mod_bestRow mod_ringDigits mod_traces mod_tape mod_act mod_with mod_lineMany mod_testEnd mod_lineEnd) H) (hD : va_D A (wl_X12_law ad cs mod_code mod_shoes mod_claims mod_taped mod_here mod_fault mod_suits mod_doneMany mod_undoneMany mod_open mod_laid mod_isBoth mod_wished mod_bestMany mod_bestRow mod_ringDigits mod_traces mod_tape mod_act mod_with mod_lineMany mod_testEnd mod_lineEnd)) (hS : va_S A s.heap H locs) (hl : lv_has ls 4 [(0, .ref (ad 41)), (1, .int x1)]), W p l e rm_X12_law s m args below meth c H locs 0 0 (MQ below (Q_X12_law D cs ad mod_code mod_shoes mod_claims mod_suits mod_doneMany mod_undoneMany mod_isBoth mod_wished mod_bestMany mod_bestRow mod_ringDigits mod_traces mod_tape A R) args s 0 0 A) (F0 m 56 ls [])) ∧ (∀ (x2 : Int32) (x3 : Int32) (mod_taped : Int32) (mod_here : Int32) (mod_fault : Int32) (mod_open : Int32) (mod_laid : Int32) (mod_act : Nat → Int32) (mod_with : Nat → Int32) (mod_lineMany : Nat → Int32) (mod_testEnd : Nat → Int32) (mod_lineEnd : Nat → Int32) (h : (G_X12_law   mod_code mod_shoes mod_claims mod_suits mod_doneMany mod_undoneMany mod_isBoth mod_wished mod_bestMany mod_bestRow mod_ringDigits mod_traces mod_tape n).2.1 x2 x3 mod_taped mod_here mod_fault mod_open mod_laid mod_act mod_with mod_lineMany mod_testEnd mod_lineEnd = some R) (H : Heap) (locs : List Loc) (ls : Array Slot) (hP : va_P D classes (wl_X12_law ad cs mod_code mod_shoes mod_claims mod_taped mod_here mod_fault mod_suits mod_doneMany mod_undoneMany mod_open mod_laid mod_isBoth mod_wished mod_bestMany mod_bestRow mod_ringDigits mod_traces mod_tape mod_act mod_with mod_lineMany mod_testEnd mod_lineEnd) H) (hD : va_D A (wl_X12_law ad cs mod_code mod_shoes mod_claims mod_taped mod_here mod_fault mod_suits mod_doneMany mod_undoneMany mod_open mod_laid mod_isBoth mod_wished mod_bestMany mod_bestRow mod_ringDigits mod_traces mod_tape mod_act mod_with mod_lineMany mod_testEnd mod_lineEnd)) (hS : va_S A s.heap H locs) (hl : lv_has ls 4 [(0, .ref (ad 41)), (2, .int x2), (3, .int x3)]), W p l e rm_X12_law s m args below meth c H locs 0 0 (MQ below (Q_X12_law D cs ad mod_code mod_shoes mod_claims mod_suits mod_doneMany mod_undoneMany mod_isBoth mod_wished mod_bestMany mod_bestRow mod_ringDigits mod_traces mod_tape A R) args s 0 0 A) (F0 m 146 ls [])) ∧ (∀ (x2 : Int32) (x3 : Int32) (mod_taped : Int32) (mod_here : Int32) (mod_fault : Int32) (mod_open : Int32) (mod_laid : Int32) (mod_act : Nat → Int32) (mod_with : Nat → Int32) (mod_lineMany : Nat → Int32) (mod_testEnd : Nat → Int32) (mod_lineEnd : Nat → Int32) (h : (G_X12_law   mod_code mod_shoes mod_claims mod_suits mod_doneMany mod_undoneMany mod_isBoth mod_wished mod_bestMany mod_bestRow mod_ringDigits mod_traces mod_tape n).2.2 x2 x3 mod_taped mod_here mod_fault mod_open mod_laid mod_act mod_with mod_lineMany mod_testEnd mod_lineEnd = some R) (H : Heap) (locs : List Loc) (ls : Array Slot) (hP : va_P D classes (wl_X12_law ad cs mod_code mod_shoes mod_claims mod_taped mod_here mod_fault mod_suits mod_doneMany mod_undoneMany mod_open mod_laid mod_isBoth mod_wished mod_bestMany mod_bestRow mod_ringDigits mod_traces mod_tape mod_act mod_with mod_lineMany mod_testEnd mod_lineEnd) H) (hD : va_D A (wl_X12_law ad cs mod_code mod_shoes mod_claims mod_taped mod_here mod_fault mod_suits mod_doneMany mod_undoneMany mod_open mod_laid mod_isBoth mod_wished mod_bestMany mod_bestRow mod_ringDigits mod_traces mod_tape mod_act mod_with mod_lineMany mod_testEnd mod_lineEnd)) (hS : va_S A s.heap H locs) (hl : lv_has ls 4 [(0, .ref (ad 41)), (2, .int x2), (3, .int x3)]), W p l e rm_X12_law s m args below meth c H locs 0 0 (MQ below (Q_X12_law D cs ad mod_code mod_shoes mod_claims mod_suits mod_doneMany mod_undoneMany mod_isBoth mod_wished mod_bestMany mod_bestRow mod_ringDigits mod_traces mod_tape A R) args s 0 0 A) (F0 m 219 ls [])) := by
  intro n
  induction n with
  | zero =>
    refine ⟨?_, ?_, ?_⟩ <;> (intros; rename_i h _ _ _ _ _ _ _; cases h)
  | succ n ih =>
    exact ⟨L_X12_law_56 C0 hK hA  ih.1 ih.2.1 ih.2.2, L_X12_law_146 C0 hK hA  ih.1 ih.2.1 ih.2.2, L_X12_law_219 C0 hK hA  ih.1 ih.2.1 ih.2.2⟩
set_option maxHeartbeats 4000000 in
set_option maxRecDepth 100000 in
theorem c_X12_law (l : Launch) (D : va_G) (cs : Nat → ClassId) (ad : Nat → Nat) (sz : Nat) (n : Nat) (x1 : Int32) (mod_code : Int32) (mod_shoes : Int32) (mod_claims : Int32) (mod_taped : Int32) (mod_here : Int32) (mod_fault : Int32) (mod_suits : Int32) (mod_doneMany : Int32) (mod_undoneMany : Int32) (mod_open : Int32) (mod_laid : Int32) (mod_isBoth : Int32) (mod_wished : Int32) (mod_bestMany : Int32) (mod_bestRow : Int32) (mod_ringDigits : Int32) (mod_traces : Int32) (mod_tape : Nat → Int32) (mod_act : Nat → Int32) (mod_with : Nat → Int32) (mod_lineMany : Nat → Int32) (mod_testEnd : Nat → Int32) (mod_lineEnd : Nat → Int32) (R : Int32 × Int32 × Int32 × Int32 × Int32 × Int32 × (Nat → Int32) × (Nat → Int32) × (Nat → Int32) × (Nat → Int32) × (Nat → Int32)) (h : f_X12_law   n x1 mod_code mod_shoes mod_claims mod_taped mod_here mod_fault mod_suits mod_doneMany mod_undoneMany mod_open mod_laid mod_isBoth mod_wished mod_bestMany mod_bestRow mod_ringDigits mod_traces mod_tape mod_act mod_with mod_lineMany mod_testEnd mod_lineEnd = some R) : Met l yX12_law (z_X12_law) rm_X12_law (va_Pc [.ref (ad 41), .int x1] (zPre D cs (wl_X12_law ad cs mod_code mod_shoes mod_claims mod_taped mod_here mod_fault mod_suits mod_doneMany mod_undoneMany mod_open mod_laid mod_isBoth mod_wished mod_bestMany mod_bestRow mod_ringDigits mod_traces mod_tape mod_act mod_with mod_lineMany mod_testEnd mod_lineEnd) sz)) (Q_X12_law D cs ad mod_code mod_shoes mod_claims mod_suits mod_doneMany mod_undoneMany mod_isBoth mod_wished mod_bestMany mod_bestRow mod_ringDigits mod_traces mod_tape (va_A (wl_X12_law ad cs mod_code mod_shoes mod_claims mod_taped mod_here mod_fault mod_suits mod_doneMany mod_undoneMany mod_open mod_laid mod_isBoth mod_wished mod_bestMany mod_bestRow mod_ringDigits mod_traces mod_tape mod_act mod_with mod_lineMany mod_testEnd mod_lineEnd) sz) R) 0 0 (va_A (wl_X12_law ad cs mod_code mod_shoes mod_claims mod_taped mod_here mod_fault mod_suits mod_doneMany mod_undoneMany mod_open mod_laid mod_isBoth mod_wished mod_bestMany mod_bestRow mod_ringDigits mod_traces mod_tape mod_act mod_with mod_lineMany mod_testEnd mod_lineEnd) sz) := by
  refine Met.ofW (cc := cX12_law) (maxL := 4) (ret := (some .int)) (by decide) rfl ?_
  intro p e s m args below meth c s₁ B hml hv
  obtain ⟨rfl, hsz, hP, hK, hD0⟩ := hv
  subst hsz
  have hD := hD0.self (sz := s.heap.size)
  have C0 : zC p s m _ meth c cX12_law 4 (some .int) RX12 zW := ⟨B.exec, B.bytes, B.returns, hml, findClass_of_methodNamed B.named, fun w hw => atoms_spec (ws := z_X12_law) B.pre w (List.mem_cons_of_mem _ hw), B.notSynchronized⟩
  have hA : ∀ q : Nat, s.heap.size ≤ q → va_A (wl_X12_law ad cs mod_code mod_shoes mod_claims mod_taped mod_here mod_fault mod_suits mod_doneMany mod_undoneMany mod_open mod_laid mod_isBoth mod_wished mod_bestMany mod_bestRow mod_ringDigits mod_traces mod_tape mod_act mod_with mod_lineMany mod_testEnd mod_lineEnd) s.heap.size q := fun q h => Or.inr h
  have hl := lv_entry ([.ref (ad 41), .int x1]) (n := 4) (Nat.le_of_ble_eq_true rfl)
  rw [lg_entry_eq]
  generalize (lg_sl ([.ref (ad 41), .int x1]) ++ List.replicate (4 - (lg_sl ([.ref (ad 41), .int x1])).length) Slot.unset).toArray = ls at hl ⊢
  exact L_X12_law_0 C0 hK hA  ((LG_X12_law C0 hK hA  n).1) ((LG_X12_law C0 hK hA  n).2.1) ((LG_X12_law C0 hK hA  n).2.2) x1 mod_taped mod_here mod_fault mod_open mod_laid mod_act mod_with mod_lineMany mod_testEnd mod_lineEnd h s.heap [] ls hP hD va_S.rf hl
theorem zh_cX12_twoOf_0 : zck [26, 170, 0, 0, 0, 0, 0, 217, 0, 0, 0, 37, 0, 0, 0, 62, 0, 0, 0, 153, 0, 0] (zdu 0 cX12_twoOf.data.toList) = true := by decide +kernel
theorem dX12_twoOf_0 : decode cX12_twoOf 0 = .ok (.iload_n 0, 1) := zo_26 zh_cX12_twoOf_0 0 rfl
theorem dX12_twoOf_1 : decode cX12_twoOf 1 = .ok (.tableswitch 217 37 62 #[153, 203, 217, 217, 217, 127, 119, 217, 123, 217, 131, 217, 217, 217, 217, 217, 217, 217, 217, 217, 217, 217, 217, 170, 181, 192], 119) := by decide +kernel
theorem zh_cX12_twoOf_6 : zck [27, 28, 96, 172, 27, 28, 100, 172, 27, 28, 104, 172, 28, 154, 0, 7, 3, 167, 0, 16, 28, 2] (zdu 120 cX12_twoOf.data.toList) = true := by decide +kernel
theorem dX12_twoOf_120 : decode cX12_twoOf 120 = .ok (.iload_n 1, 1) := zo_27 zh_cX12_twoOf_6 0 rfl
theorem dX12_twoOf_121 : decode cX12_twoOf 121 = .ok (.iload_n 2, 1) := zo_28 zh_cX12_twoOf_6 1 rfl
theorem dX12_twoOf_122 : decode cX12_twoOf 122 = .ok (.iadd, 1) := zo_96 zh_cX12_twoOf_6 2 rfl
theorem dX12_twoOf_123 : decode cX12_twoOf 123 = .ok (.ireturn, 1) := zo_172 zh_cX12_twoOf_6 3 rfl
theorem dX12_twoOf_124 : decode cX12_twoOf 124 = .ok (.iload_n 1, 1) := zo_27 zh_cX12_twoOf_6 4 rfl
theorem dX12_twoOf_125 : decode cX12_twoOf 125 = .ok (.iload_n 2, 1) := zo_28 zh_cX12_twoOf_6 5 rfl
theorem dX12_twoOf_126 : decode cX12_twoOf 126 = .ok (.isub, 1) := zo_100 zh_cX12_twoOf_6 6 rfl
theorem dX12_twoOf_127 : decode cX12_twoOf 127 = .ok (.ireturn, 1) := zo_172 zh_cX12_twoOf_6 7 rfl
theorem dX12_twoOf_128 : decode cX12_twoOf 128 = .ok (.iload_n 1, 1) := zo_27 zh_cX12_twoOf_6 8 rfl
theorem dX12_twoOf_129 : decode cX12_twoOf 129 = .ok (.iload_n 2, 1) := zo_28 zh_cX12_twoOf_6 9 rfl
theorem dX12_twoOf_130 : decode cX12_twoOf 130 = .ok (.imul, 1) := zo_104 zh_cX12_twoOf_6 10 rfl
theorem dX12_twoOf_131 : decode cX12_twoOf 131 = .ok (.ireturn, 1) := zo_172 zh_cX12_twoOf_6 11 rfl
theorem dX12_twoOf_132 : decode cX12_twoOf 132 = .ok (.iload_n 2, 1) := zo_28 zh_cX12_twoOf_6 12 rfl
theorem dX12_twoOf_133 : decode cX12_twoOf 133 = .ok (.ifCond .ne 7, 3) := zo_p154 zh_cX12_twoOf_6 13 7 rfl rfl
theorem dX12_twoOf_136 : decode cX12_twoOf 136 = .ok (.iconst 0, 1) := zo_3 zh_cX12_twoOf_6 16 rfl
theorem dX12_twoOf_137 : decode cX12_twoOf 137 = .ok (.goto 16, 3) := zo_p167 zh_cX12_twoOf_6 17 16 rfl rfl
theorem zh_cX12_twoOf_7 : zck [28, 2, 160, 0, 8, 27, 116, 167, 0, 6, 27, 28, 108, 172, 28, 153, 0, 8, 28, 2, 160, 0] (zdu 140 cX12_twoOf.data.toList) = true := by decide +kernel
theorem dX12_twoOf_140 : decode cX12_twoOf 140 = .ok (.iload_n 2, 1) := zo_28 zh_cX12_twoOf_7 0 rfl
theorem dX12_twoOf_141 : decode cX12_twoOf 141 = .ok (.iconst (-1), 1) := zo_2 zh_cX12_twoOf_7 1 rfl
theorem dX12_twoOf_142 : decode cX12_twoOf 142 = .ok (.if_icmp .ne 8, 3) := zo_p160 zh_cX12_twoOf_7 2 8 rfl rfl
theorem dX12_twoOf_145 : decode cX12_twoOf 145 = .ok (.iload_n 1, 1) := zo_27 zh_cX12_twoOf_7 5 rfl
theorem zo_116 {c : ByteArray} {s : Nat} {K : List Nat} (h : zck K (zdu s c.data.toList) = true) (k : Nat) (hk : zt1 K k 116 = true) : decode c (s + k) = .ok (.ineg, 1) := zde ((zbd (zu1 (zh1 h hk))).trans rfl)
theorem dX12_twoOf_146 : decode cX12_twoOf 146 = .ok (.ineg, 1) := zo_116 zh_cX12_twoOf_7 6 rfl
theorem dX12_twoOf_147 : decode cX12_twoOf 147 = .ok (.goto 6, 3) := zo_p167 zh_cX12_twoOf_7 7 6 rfl rfl
theorem dX12_twoOf_150 : decode cX12_twoOf 150 = .ok (.iload_n 1, 1) := zo_27 zh_cX12_twoOf_7 10 rfl
theorem dX12_twoOf_151 : decode cX12_twoOf 151 = .ok (.iload_n 2, 1) := zo_28 zh_cX12_twoOf_7 11 rfl
theorem dX12_twoOf_152 : decode cX12_twoOf 152 = .ok (.idiv, 1) := zo_108 zh_cX12_twoOf_7 12 rfl
theorem dX12_twoOf_153 : decode cX12_twoOf 153 = .ok (.ireturn, 1) := zo_172 zh_cX12_twoOf_7 13 rfl
theorem dX12_twoOf_154 : decode cX12_twoOf 154 = .ok (.iload_n 2, 1) := zo_28 zh_cX12_twoOf_7 14 rfl
theorem dX12_twoOf_155 : decode cX12_twoOf 155 = .ok (.ifCond .eq 8, 3) := zo_p153 zh_cX12_twoOf_7 15 8 rfl rfl
theorem dX12_twoOf_158 : decode cX12_twoOf 158 = .ok (.iload_n 2, 1) := zo_28 zh_cX12_twoOf_7 18 rfl
theorem dX12_twoOf_159 : decode cX12_twoOf 159 = .ok (.iconst (-1), 1) := zo_2 zh_cX12_twoOf_7 19 rfl
theorem zh_cX12_twoOf_8 : zck [160, 0, 7, 3, 167, 0, 6, 27, 28, 112, 172, 27, 28, 162, 0, 7, 4, 167, 0, 4, 3, 172] (zdu 160 cX12_twoOf.data.toList) = true := by decide +kernel
theorem dX12_twoOf_160 : decode cX12_twoOf 160 = .ok (.if_icmp .ne 7, 3) := zo_p160 zh_cX12_twoOf_8 0 7 rfl rfl
theorem dX12_twoOf_163 : decode cX12_twoOf 163 = .ok (.iconst 0, 1) := zo_3 zh_cX12_twoOf_8 3 rfl
theorem dX12_twoOf_164 : decode cX12_twoOf 164 = .ok (.goto 6, 3) := zo_p167 zh_cX12_twoOf_8 4 6 rfl rfl
theorem dX12_twoOf_167 : decode cX12_twoOf 167 = .ok (.iload_n 1, 1) := zo_27 zh_cX12_twoOf_8 7 rfl
theorem dX12_twoOf_168 : decode cX12_twoOf 168 = .ok (.iload_n 2, 1) := zo_28 zh_cX12_twoOf_8 8 rfl
theorem dX12_twoOf_169 : decode cX12_twoOf 169 = .ok (.irem, 1) := zo_112 zh_cX12_twoOf_8 9 rfl
theorem dX12_twoOf_170 : decode cX12_twoOf 170 = .ok (.ireturn, 1) := zo_172 zh_cX12_twoOf_8 10 rfl
theorem dX12_twoOf_171 : decode cX12_twoOf 171 = .ok (.iload_n 1, 1) := zo_27 zh_cX12_twoOf_8 11 rfl
theorem dX12_twoOf_172 : decode cX12_twoOf 172 = .ok (.iload_n 2, 1) := zo_28 zh_cX12_twoOf_8 12 rfl
theorem dX12_twoOf_173 : decode cX12_twoOf 173 = .ok (.if_icmp .ge 7, 3) := zo_p162 zh_cX12_twoOf_8 13 7 rfl rfl
theorem dX12_twoOf_176 : decode cX12_twoOf 176 = .ok (.iconst 1, 1) := zo_4 zh_cX12_twoOf_8 16 rfl
theorem dX12_twoOf_177 : decode cX12_twoOf 177 = .ok (.goto 4, 3) := zo_p167 zh_cX12_twoOf_8 17 4 rfl rfl
theorem zh_cX12_twoOf_9 : zck [3, 172, 27, 28, 160, 0, 7, 4, 167, 0, 4, 3, 172, 27, 28, 164, 0, 7, 4, 167, 0, 4] (zdu 180 cX12_twoOf.data.toList) = true := by decide +kernel
theorem dX12_twoOf_180 : decode cX12_twoOf 180 = .ok (.iconst 0, 1) := zo_3 zh_cX12_twoOf_9 0 rfl
theorem dX12_twoOf_181 : decode cX12_twoOf 181 = .ok (.ireturn, 1) := zo_172 zh_cX12_twoOf_9 1 rfl
theorem dX12_twoOf_182 : decode cX12_twoOf 182 = .ok (.iload_n 1, 1) := zo_27 zh_cX12_twoOf_9 2 rfl
theorem dX12_twoOf_183 : decode cX12_twoOf 183 = .ok (.iload_n 2, 1) := zo_28 zh_cX12_twoOf_9 3 rfl
theorem dX12_twoOf_184 : decode cX12_twoOf 184 = .ok (.if_icmp .ne 7, 3) := zo_p160 zh_cX12_twoOf_9 4 7 rfl rfl
theorem dX12_twoOf_187 : decode cX12_twoOf 187 = .ok (.iconst 1, 1) := zo_4 zh_cX12_twoOf_9 7 rfl
theorem dX12_twoOf_188 : decode cX12_twoOf 188 = .ok (.goto 4, 3) := zo_p167 zh_cX12_twoOf_9 8 4 rfl rfl
theorem dX12_twoOf_191 : decode cX12_twoOf 191 = .ok (.iconst 0, 1) := zo_3 zh_cX12_twoOf_9 11 rfl
theorem dX12_twoOf_192 : decode cX12_twoOf 192 = .ok (.ireturn, 1) := zo_172 zh_cX12_twoOf_9 12 rfl
theorem dX12_twoOf_193 : decode cX12_twoOf 193 = .ok (.iload_n 1, 1) := zo_27 zh_cX12_twoOf_9 13 rfl
theorem dX12_twoOf_194 : decode cX12_twoOf 194 = .ok (.iload_n 2, 1) := zo_28 zh_cX12_twoOf_9 14 rfl
theorem dX12_twoOf_195 : decode cX12_twoOf 195 = .ok (.if_icmp .le 7, 3) := zo_p164 zh_cX12_twoOf_9 15 7 rfl rfl
theorem dX12_twoOf_198 : decode cX12_twoOf 198 = .ok (.iconst 1, 1) := zo_4 zh_cX12_twoOf_9 18 rfl
theorem dX12_twoOf_199 : decode cX12_twoOf 199 = .ok (.goto 4, 3) := zo_p167 zh_cX12_twoOf_9 19 4 rfl rfl
theorem zh_cX12_twoOf_10 : zck [0, 4, 3, 172, 27, 153, 0, 11, 28, 153, 0, 7, 4, 167, 0, 4, 3, 172, 27, 154, 0, 7] (zdu 200 cX12_twoOf.data.toList) = true := by decide +kernel
theorem dX12_twoOf_202 : decode cX12_twoOf 202 = .ok (.iconst 0, 1) := zo_3 zh_cX12_twoOf_10 2 rfl
theorem dX12_twoOf_203 : decode cX12_twoOf 203 = .ok (.ireturn, 1) := zo_172 zh_cX12_twoOf_10 3 rfl
theorem dX12_twoOf_204 : decode cX12_twoOf 204 = .ok (.iload_n 1, 1) := zo_27 zh_cX12_twoOf_10 4 rfl
theorem dX12_twoOf_205 : decode cX12_twoOf 205 = .ok (.ifCond .eq 11, 3) := zo_p153 zh_cX12_twoOf_10 5 11 rfl rfl
theorem dX12_twoOf_208 : decode cX12_twoOf 208 = .ok (.iload_n 2, 1) := zo_28 zh_cX12_twoOf_10 8 rfl
theorem dX12_twoOf_209 : decode cX12_twoOf 209 = .ok (.ifCond .eq 7, 3) := zo_p153 zh_cX12_twoOf_10 9 7 rfl rfl
theorem dX12_twoOf_212 : decode cX12_twoOf 212 = .ok (.iconst 1, 1) := zo_4 zh_cX12_twoOf_10 12 rfl
theorem dX12_twoOf_213 : decode cX12_twoOf 213 = .ok (.goto 4, 3) := zo_p167 zh_cX12_twoOf_10 13 4 rfl rfl
theorem dX12_twoOf_216 : decode cX12_twoOf 216 = .ok (.iconst 0, 1) := zo_3 zh_cX12_twoOf_10 16 rfl
theorem dX12_twoOf_217 : decode cX12_twoOf 217 = .ok (.ireturn, 1) := zo_172 zh_cX12_twoOf_10 17 rfl
theorem dX12_twoOf_218 : decode cX12_twoOf 218 = .ok (.iload_n 1, 1) := zo_27 zh_cX12_twoOf_10 18 rfl
theorem dX12_twoOf_219 : decode cX12_twoOf 219 = .ok (.ifCond .ne 7, 3) := zo_p154 zh_cX12_twoOf_10 19 7 rfl rfl
theorem zh_cX12_twoOf_11 : zck [0, 7, 28, 153, 0, 7, 4, 167, 0, 4, 3, 172] (zdu 220 cX12_twoOf.data.toList) = true := by decide +kernel
theorem dX12_twoOf_222 : decode cX12_twoOf 222 = .ok (.iload_n 2, 1) := zo_28 zh_cX12_twoOf_11 2 rfl
theorem dX12_twoOf_223 : decode cX12_twoOf 223 = .ok (.ifCond .eq 7, 3) := zo_p153 zh_cX12_twoOf_11 3 7 rfl rfl
theorem dX12_twoOf_226 : decode cX12_twoOf 226 = .ok (.iconst 1, 1) := zo_4 zh_cX12_twoOf_11 6 rfl
theorem dX12_twoOf_227 : decode cX12_twoOf 227 = .ok (.goto 4, 3) := zo_p167 zh_cX12_twoOf_11 7 4 rfl rfl
theorem dX12_twoOf_230 : decode cX12_twoOf 230 = .ok (.iconst 0, 1) := zo_3 zh_cX12_twoOf_11 10 rfl
theorem dX12_twoOf_231 : decode cX12_twoOf 231 = .ok (.ireturn, 1) := zo_172 zh_cX12_twoOf_11 11 rfl
abbrev z_X12_twoOf : List Cond := .code yX12_twoOf cX12_twoOf 3 (some .int) :: zW
abbrev wl_X12_twoOf (ad : Nat → Nat) (cs : Nat → ClassId)   : va_W := []
def Q_X12_twoOf (D : va_G) (cs : Nat → ClassId) (ad : Nat → Nat)   (A : Nat → Prop) (R : Int32 × Unit) : Array Value → State → Outcome → State → Prop :=
  va_Qi (fun (r : Int32) (u : Unit) => (r, u) = R) (fun (u : Unit) (t : State) => va_P D classes (wl_X12_twoOf ad cs ) t.heap ∧ va_D A (wl_X12_twoOf ad cs )) A
abbrev rm_X12_twoOf : Room := { frames := 0, cells := 0, slots := 0, locals := 0 }
def B_X12_twoOf_226      : Option (Int32 × Unit) :=
  (some ((1 : Int32), ()))
def B_X12_twoOf_163      : Option (Int32 × Unit) :=
  (some ((0 : Int32), ()))
def B_X12_twoOf_0     (x0 : Int32) (x1 : Int32) (x2 : Int32) : Option (Int32 × Unit) :=
  (if x0 = (37 : Int32) then (if x2 = 0 then (B_X12_twoOf_163 ) else (if x2 = (-1 : Int32) then (B_X12_twoOf_163 ) else (if x2 = 0 then none else (some (x1 - x1 / x2 * x2, ()))))) else (if x0 = (38 : Int32) then (if x1 = 0 then (some ((0 : Int32), ())) else (if x2 = 0 then (some ((0 : Int32), ())) else (some ((1 : Int32), ())))) else (if x0 = (39 : Int32) then (if x1 = 0 then (if x2 = 0 then (some ((0 : Int32), ())) else (B_X12_twoOf_226 )) else (B_X12_twoOf_226 )) else (if x0 = (40 : Int32) then (if x1 = 0 then (if x2 = 0 then (some ((0 : Int32), ())) else (B_X12_twoOf_226 )) else (B_X12_twoOf_226 )) else (if x0 = (41 : Int32) then (if x1 = 0 then (if x2 = 0 then (some ((0 : Int32), ())) else (B_X12_twoOf_226 )) else (B_X12_twoOf_226 )) else (if x0 = (42 : Int32) then (some (x1 * x2, ())) else (if x0 = (43 : Int32) then (some (x1 + x2, ())) else (if x0 = (44 : Int32) then (if x1 = 0 then (if x2 = 0 then (some ((0 : Int32), ())) else (B_X12_twoOf_226 )) else (B_X12_twoOf_226 )) else (if x0 = (45 : Int32) then (some (x1 - x2, ())) else (if x0 = (46 : Int32) then (if x1 = 0 then (if x2 = 0 then (some ((0 : Int32), ())) else (B_X12_twoOf_226 )) else (B_X12_twoOf_226 )) else (if x0 = (47 : Int32) then (if x2 = 0 then (some ((0 : Int32), ())) else (if x2 = (-1 : Int32) then (some (-x1, ())) else (if x2 = 0 then none else (some (x1 / x2, ()))))) else (if x0 = (48 : Int32) then (if x1 = 0 then (if x2 = 0 then (some ((0 : Int32), ())) else (B_X12_twoOf_226 )) else (B_X12_twoOf_226 )) else (if x0 = (49 : Int32) then (if x1 = 0 then (if x2 = 0 then (some ((0 : Int32), ())) else (B_X12_twoOf_226 )) else (B_X12_twoOf_226 )) else (if x0 = (50 : Int32) then (if x1 = 0 then (if x2 = 0 then (some ((0 : Int32), ())) else (B_X12_twoOf_226 )) else (B_X12_twoOf_226 )) else (if x0 = (51 : Int32) then (if x1 = 0 then (if x2 = 0 then (some ((0 : Int32), ())) else (B_X12_twoOf_226 )) else (B_X12_twoOf_226 )) else (if x0 = (52 : Int32) then (if x1 = 0 then (if x2 = 0 then (some ((0 : Int32), ())) else (B_X12_twoOf_226 )) else (B_X12_twoOf_226 )) else (if x0 = (53 : Int32) then (if x1 = 0 then (if x2 = 0 then (some ((0 : Int32), ())) else (B_X12_twoOf_226 )) else (B_X12_twoOf_226 )) else (if x0 = (54 : Int32) then (if x1 = 0 then (if x2 = 0 then (some ((0 : Int32), ())) else (B_X12_twoOf_226 )) else (B_X12_twoOf_226 )) else (if x0 = (55 : Int32) then (if x1 = 0 then (if x2 = 0 then (some ((0 : Int32), ())) else (B_X12_twoOf_226 )) else (B_X12_twoOf_226 )) else (if x0 = (56 : Int32) then (if x1 = 0 then (if x2 = 0 then (some ((0 : Int32), ())) else (B_X12_twoOf_226 )) else (B_X12_twoOf_226 )) else (if x0 = (57 : Int32) then (if x1 = 0 then (if x2 = 0 then (some ((0 : Int32), ())) else (B_X12_twoOf_226 )) else (B_X12_twoOf_226 )) else (if x0 = (58 : Int32) then (if x1 = 0 then (if x2 = 0 then (some ((0 : Int32), ())) else (B_X12_twoOf_226 )) else (B_X12_twoOf_226 )) else (if x0 = (59 : Int32) then (if x1 = 0 then (if x2 = 0 then (some ((0 : Int32), ())) else (B_X12_twoOf_226 )) else (B_X12_twoOf_226 )) else (if x0 = (60 : Int32) then (if x2 ≤ x1 then (some ((0 : Int32), ())) else (some ((1 : Int32), ()))) else (if x0 = (61 : Int32) then (if x1 = x2 then (some ((1 : Int32), ())) else (some ((0 : Int32), ()))) else (if x0 = (62 : Int32) then (if x1 ≤ x2 then (some ((0 : Int32), ())) else (some ((1 : Int32), ()))) else (if x1 = 0 then (if x2 = 0 then (some ((0 : Int32), ())) else (B_X12_twoOf_226 )) else (B_X12_twoOf_226 ))))))))))))))))))))))))))))
def f_X12_twoOf   (x0 : Int32) (x1 : Int32) (x2 : Int32)  : Option (Int32 × Unit) := B_X12_twoOf_0    x0 x1 x2 
set_option maxHeartbeats 4000000 in
set_option maxRecDepth 100000 in
theorem L_X12_twoOf_226 {p : Program} {l : Launch} {e : Env} {s : State} {m : MethodId} {args : Array Value} {below : List Frame} {meth : Method} {c : Code} {A : Nat → Prop} {D : va_G} {cs : Nat → ClassId} {ad : Nat → Nat} {R : Int32 × Unit} (C0 : zC p s m args meth c cX12_twoOf 3 (some .int) RX12 zW) (hK : va_K D classes (zT cs) s) (hA : ∀ q : Nat, s.heap.size ≤ q → A q)  (h : B_X12_twoOf_226  = some R) (H : Heap) (locs : List Loc) (ls : Array Slot) (hP : va_P D classes (wl_X12_twoOf ad cs ) H) (hD : va_D A (wl_X12_twoOf ad cs )) (hS : va_S A s.heap H locs) (hl : lv_has ls 3 []) : W p l e rm_X12_twoOf s m args below meth c H locs 0 0 (MQ below (Q_X12_twoOf D cs ad  A R) args s 0 0 A) (F0 m 226 ls []) := by
  obtain ⟨hx, hb, hr, hml, hown, ht, hlocks⟩ := id C0
  refine lv_iconst (v := (1 : Int32)) hx hb dX12_twoOf_226 (by decide) ?_
  refine lv_goto (tgt := 231) hx hb dX12_twoOf_227 (by decide) ?_
  exact W.iret (v := (1 : Int32)) hx hb hr (fun t ht2 hW => ⟨⟨(1 : Int32), (), rfl, Option.some.inj h, by rw [ht2]; exact hP, hD⟩, hS.F ht2⟩) hS.2.2 dX12_twoOf_231 hlocks
set_option maxHeartbeats 4000000 in
set_option maxRecDepth 100000 in
theorem L_X12_twoOf_163 {p : Program} {l : Launch} {e : Env} {s : State} {m : MethodId} {args : Array Value} {below : List Frame} {meth : Method} {c : Code} {A : Nat → Prop} {D : va_G} {cs : Nat → ClassId} {ad : Nat → Nat} {R : Int32 × Unit} (C0 : zC p s m args meth c cX12_twoOf 3 (some .int) RX12 zW) (hK : va_K D classes (zT cs) s) (hA : ∀ q : Nat, s.heap.size ≤ q → A q)  (h : B_X12_twoOf_163  = some R) (H : Heap) (locs : List Loc) (ls : Array Slot) (hP : va_P D classes (wl_X12_twoOf ad cs ) H) (hD : va_D A (wl_X12_twoOf ad cs )) (hS : va_S A s.heap H locs) (hl : lv_has ls 3 []) : W p l e rm_X12_twoOf s m args below meth c H locs 0 0 (MQ below (Q_X12_twoOf D cs ad  A R) args s 0 0 A) (F0 m 163 ls []) := by
  obtain ⟨hx, hb, hr, hml, hown, ht, hlocks⟩ := id C0
  refine lv_iconst (v := (0 : Int32)) hx hb dX12_twoOf_163 (by decide) ?_
  refine lv_goto (tgt := 170) hx hb dX12_twoOf_164 (by decide) ?_
  exact W.iret (v := (0 : Int32)) hx hb hr (fun t ht2 hW => ⟨⟨(0 : Int32), (), rfl, Option.some.inj h, by rw [ht2]; exact hP, hD⟩, hS.F ht2⟩) hS.2.2 dX12_twoOf_170 hlocks
set_option maxHeartbeats 4000000 in
set_option maxRecDepth 100000 in
theorem L_X12_twoOf_0 {p : Program} {l : Launch} {e : Env} {s : State} {m : MethodId} {args : Array Value} {below : List Frame} {meth : Method} {c : Code} {A : Nat → Prop} {D : va_G} {cs : Nat → ClassId} {ad : Nat → Nat} {R : Int32 × Unit} (C0 : zC p s m args meth c cX12_twoOf 3 (some .int) RX12 zW) (hK : va_K D classes (zT cs) s) (hA : ∀ q : Nat, s.heap.size ≤ q → A q) (x0 : Int32) (x1 : Int32) (x2 : Int32) (h : B_X12_twoOf_0 x0 x1 x2 = some R) (H : Heap) (locs : List Loc) (ls : Array Slot) (hP : va_P D classes (wl_X12_twoOf ad cs ) H) (hD : va_D A (wl_X12_twoOf ad cs )) (hS : va_S A s.heap H locs) (hl : lv_has ls 3 [(0, .int x0), (1, .int x1), (2, .int x2)]) : W p l e rm_X12_twoOf s m args below meth c H locs 0 0 (MQ below (Q_X12_twoOf D cs ad  A R) args s 0 0 A) (F0 m 0 ls []) := by
  obtain ⟨hx, hb, hr, hml, hown, ht, hlocks⟩ := id C0
  refine lv_iload_n hx hb dX12_twoOf_0 rfl (lv_at hl 0 rfl) ?_
  by_cases c_48 : x0 = (37 : Int32)
  · have h := zk_t c_48 h
    refine lv_tableIn (tgt := 154) hx hb dX12_twoOf_1 (by rw [c_48]; decide) (by rw [c_48]; decide) (by rw [c_48]; rfl) (by decide) ?_
    refine lv_iload_n hx hb dX12_twoOf_154 rfl (lv_at hl 2 rfl) ?_
    refine lv_if_eq (tgt := 163) hx hb dX12_twoOf_155 (by decide) (fun c_1 => ?_) (fun c_1 => ?_)
    · have h := zk_t c_1 h
      exact L_X12_twoOf_163 C0 hK hA    h H locs ls hP hD hS (lv_sub hl [] rfl)
    · have h := zk_f c_1 h
      refine lv_iload_n hx hb dX12_twoOf_158 rfl (lv_at hl 2 rfl) ?_
      refine lv_iconst (v := (-1 : Int32)) hx hb dX12_twoOf_159 (by decide) ?_
      refine lv_icmp_ne (tgt := 167) hx hb dX12_twoOf_160 (by decide) (fun c_2 => ?_) (fun c_2 => ?_)
      · have h := zk_f c_2 h
        refine lv_iload_n hx hb dX12_twoOf_167 rfl (lv_at hl 1 rfl) ?_
        refine lv_iload_n hx hb dX12_twoOf_168 rfl (lv_at hl 2 rfl) ?_
        obtain ⟨g_3, h⟩ := zk_gd h
        refine lv_irem hx hb dX12_twoOf_169 g_3 ?_
        exact W.iret (v := x1 - x1 / x2 * x2) hx hb hr (fun t ht2 hW => ⟨⟨x1 - x1 / x2 * x2, (), rfl, Option.some.inj h, by rw [ht2]; exact hP, hD⟩, hS.F ht2⟩) hS.2.2 dX12_twoOf_170 hlocks
      · have h := zk_t c_2 h
        exact L_X12_twoOf_163 C0 hK hA    h H locs ls hP hD hS (lv_sub hl [] rfl)
  · have h := zk_f c_48 h
    by_cases c_49 : x0 = (38 : Int32)
    · have h := zk_t c_49 h
      refine lv_tableIn (tgt := 204) hx hb dX12_twoOf_1 (by rw [c_49]; decide) (by rw [c_49]; decide) (by rw [c_49]; rfl) (by decide) ?_
      refine lv_iload_n hx hb dX12_twoOf_204 rfl (lv_at hl 1 rfl) ?_
      refine lv_if_eq (tgt := 216) hx hb dX12_twoOf_205 (by decide) (fun c_4 => ?_) (fun c_4 => ?_)
      · have h := zk_t c_4 h
        refine lv_iconst (v := (0 : Int32)) hx hb dX12_twoOf_216 (by decide) ?_
        exact W.iret (v := (0 : Int32)) hx hb hr (fun t ht2 hW => ⟨⟨(0 : Int32), (), rfl, Option.some.inj h, by rw [ht2]; exact hP, hD⟩, hS.F ht2⟩) hS.2.2 dX12_twoOf_217 hlocks
      · have h := zk_f c_4 h
        refine lv_iload_n hx hb dX12_twoOf_208 rfl (lv_at hl 2 rfl) ?_
        refine lv_if_eq (tgt := 216) hx hb dX12_twoOf_209 (by decide) (fun c_5 => ?_) (fun c_5 => ?_)
        · have h := zk_t c_5 h
          refine lv_iconst (v := (0 : Int32)) hx hb dX12_twoOf_216 (by decide) ?_
          exact W.iret (v := (0 : Int32)) hx hb hr (fun t ht2 hW => ⟨⟨(0 : Int32), (), rfl, Option.some.inj h, by rw [ht2]; exact hP, hD⟩, hS.F ht2⟩) hS.2.2 dX12_twoOf_217 hlocks
        · have h := zk_f c_5 h
          refine lv_iconst (v := (1 : Int32)) hx hb dX12_twoOf_212 (by decide) ?_
          refine lv_goto (tgt := 217) hx hb dX12_twoOf_213 (by decide) ?_
          exact W.iret (v := (1 : Int32)) hx hb hr (fun t ht2 hW => ⟨⟨(1 : Int32), (), rfl, Option.some.inj h, by rw [ht2]; exact hP, hD⟩, hS.F ht2⟩) hS.2.2 dX12_twoOf_217 hlocks
    · have h := zk_f c_49 h
      by_cases c_50 : x0 = (39 : Int32)
      · have h := zk_t c_50 h
        refine lv_tableIn (tgt := 218) hx hb dX12_twoOf_1 (by rw [c_50]; decide) (by rw [c_50]; decide) (by rw [c_50]; rfl) (by decide) ?_
        refine lv_iload_n hx hb dX12_twoOf_218 rfl (lv_at hl 1 rfl) ?_
        refine lv_if_ne (tgt := 226) hx hb dX12_twoOf_219 (by decide) (fun c_6 => ?_) (fun c_6 => ?_)
        · have h := zk_f c_6 h
          exact L_X12_twoOf_226 C0 hK hA    h H locs ls hP hD hS (lv_sub hl [] rfl)
        · have h := zk_t c_6 h
          refine lv_iload_n hx hb dX12_twoOf_222 rfl (lv_at hl 2 rfl) ?_
          refine lv_if_eq (tgt := 230) hx hb dX12_twoOf_223 (by decide) (fun c_7 => ?_) (fun c_7 => ?_)
          · have h := zk_t c_7 h
            refine lv_iconst (v := (0 : Int32)) hx hb dX12_twoOf_230 (by decide) ?_
            exact W.iret (v := (0 : Int32)) hx hb hr (fun t ht2 hW => ⟨⟨(0 : Int32), (), rfl, Option.some.inj h, by rw [ht2]; exact hP, hD⟩, hS.F ht2⟩) hS.2.2 dX12_twoOf_231 hlocks
          · have h := zk_f c_7 h
            exact L_X12_twoOf_226 C0 hK hA    h H locs ls hP hD hS (lv_sub hl [] rfl)
      · have h := zk_f c_50 h
        by_cases c_51 : x0 = (40 : Int32)
        · have h := zk_t c_51 h
          refine lv_tableIn (tgt := 218) hx hb dX12_twoOf_1 (by rw [c_51]; decide) (by rw [c_51]; decide) (by rw [c_51]; rfl) (by decide) ?_
          refine lv_iload_n hx hb dX12_twoOf_218 rfl (lv_at hl 1 rfl) ?_
          refine lv_if_ne (tgt := 226) hx hb dX12_twoOf_219 (by decide) (fun c_8 => ?_) (fun c_8 => ?_)
          · have h := zk_f c_8 h
            exact L_X12_twoOf_226 C0 hK hA    h H locs ls hP hD hS (lv_sub hl [] rfl)
          · have h := zk_t c_8 h
            refine lv_iload_n hx hb dX12_twoOf_222 rfl (lv_at hl 2 rfl) ?_
            refine lv_if_eq (tgt := 230) hx hb dX12_twoOf_223 (by decide) (fun c_9 => ?_) (fun c_9 => ?_)
            · have h := zk_t c_9 h
              refine lv_iconst (v := (0 : Int32)) hx hb dX12_twoOf_230 (by decide) ?_
              exact W.iret (v := (0 : Int32)) hx hb hr (fun t ht2 hW => ⟨⟨(0 : Int32), (), rfl, Option.some.inj h, by rw [ht2]; exact hP, hD⟩, hS.F ht2⟩) hS.2.2 dX12_twoOf_231 hlocks
            · have h := zk_f c_9 h
              exact L_X12_twoOf_226 C0 hK hA    h H locs ls hP hD hS (lv_sub hl [] rfl)
        · have h := zk_f c_51 h
          by_cases c_52 : x0 = (41 : Int32)
          · have h := zk_t c_52 h
            refine lv_tableIn (tgt := 218) hx hb dX12_twoOf_1 (by rw [c_52]; decide) (by rw [c_52]; decide) (by rw [c_52]; rfl) (by decide) ?_
            refine lv_iload_n hx hb dX12_twoOf_218 rfl (lv_at hl 1 rfl) ?_
            refine lv_if_ne (tgt := 226) hx hb dX12_twoOf_219 (by decide) (fun c_10 => ?_) (fun c_10 => ?_)
            · have h := zk_f c_10 h
              exact L_X12_twoOf_226 C0 hK hA    h H locs ls hP hD hS (lv_sub hl [] rfl)
            · have h := zk_t c_10 h
              refine lv_iload_n hx hb dX12_twoOf_222 rfl (lv_at hl 2 rfl) ?_
              refine lv_if_eq (tgt := 230) hx hb dX12_twoOf_223 (by decide) (fun c_11 => ?_) (fun c_11 => ?_)
              · have h := zk_t c_11 h
                refine lv_iconst (v := (0 : Int32)) hx hb dX12_twoOf_230 (by decide) ?_
                exact W.iret (v := (0 : Int32)) hx hb hr (fun t ht2 hW => ⟨⟨(0 : Int32), (), rfl, Option.some.inj h, by rw [ht2]; exact hP, hD⟩, hS.F ht2⟩) hS.2.2 dX12_twoOf_231 hlocks
              · have h := zk_f c_11 h
                exact L_X12_twoOf_226 C0 hK hA    h H locs ls hP hD hS (lv_sub hl [] rfl)
          · have h := zk_f c_52 h
            by_cases c_53 : x0 = (42 : Int32)
            · have h := zk_t c_53 h
              refine lv_tableIn (tgt := 128) hx hb dX12_twoOf_1 (by rw [c_53]; decide) (by rw [c_53]; decide) (by rw [c_53]; rfl) (by decide) ?_
              refine lv_iload_n hx hb dX12_twoOf_128 rfl (lv_at hl 1 rfl) ?_
              refine lv_iload_n hx hb dX12_twoOf_129 rfl (lv_at hl 2 rfl) ?_
              refine lv_imul hx hb dX12_twoOf_130 ?_
              exact W.iret (v := x1 * x2) hx hb hr (fun t ht2 hW => ⟨⟨x1 * x2, (), rfl, Option.some.inj h, by rw [ht2]; exact hP, hD⟩, hS.F ht2⟩) hS.2.2 dX12_twoOf_131 hlocks
            · have h := zk_f c_53 h
              by_cases c_54 : x0 = (43 : Int32)
              · have h := zk_t c_54 h
                refine lv_tableIn (tgt := 120) hx hb dX12_twoOf_1 (by rw [c_54]; decide) (by rw [c_54]; decide) (by rw [c_54]; rfl) (by decide) ?_
                refine lv_iload_n hx hb dX12_twoOf_120 rfl (lv_at hl 1 rfl) ?_
                refine lv_iload_n hx hb dX12_twoOf_121 rfl (lv_at hl 2 rfl) ?_
                refine lv_iadd hx hb dX12_twoOf_122 ?_
                exact W.iret (v := x1 + x2) hx hb hr (fun t ht2 hW => ⟨⟨x1 + x2, (), rfl, Option.some.inj h, by rw [ht2]; exact hP, hD⟩, hS.F ht2⟩) hS.2.2 dX12_twoOf_123 hlocks
              · have h := zk_f c_54 h
                by_cases c_55 : x0 = (44 : Int32)
                · have h := zk_t c_55 h
                  refine lv_tableIn (tgt := 218) hx hb dX12_twoOf_1 (by rw [c_55]; decide) (by rw [c_55]; decide) (by rw [c_55]; rfl) (by decide) ?_
                  refine lv_iload_n hx hb dX12_twoOf_218 rfl (lv_at hl 1 rfl) ?_
                  refine lv_if_ne (tgt := 226) hx hb dX12_twoOf_219 (by decide) (fun c_12 => ?_) (fun c_12 => ?_)
                  · have h := zk_f c_12 h
                    exact L_X12_twoOf_226 C0 hK hA    h H locs ls hP hD hS (lv_sub hl [] rfl)
                  · have h := zk_t c_12 h
                    refine lv_iload_n hx hb dX12_twoOf_222 rfl (lv_at hl 2 rfl) ?_
                    refine lv_if_eq (tgt := 230) hx hb dX12_twoOf_223 (by decide) (fun c_13 => ?_) (fun c_13 => ?_)
                    · have h := zk_t c_13 h
                      refine lv_iconst (v := (0 : Int32)) hx hb dX12_twoOf_230 (by decide) ?_
                      exact W.iret (v := (0 : Int32)) hx hb hr (fun t ht2 hW => ⟨⟨(0 : Int32), (), rfl, Option.some.inj h, by rw [ht2]; exact hP, hD⟩, hS.F ht2⟩) hS.2.2 dX12_twoOf_231 hlocks
                    · have h := zk_f c_13 h
                      exact L_X12_twoOf_226 C0 hK hA    h H locs ls hP hD hS (lv_sub hl [] rfl)
                · have h := zk_f c_55 h
                  by_cases c_56 : x0 = (45 : Int32)
                  · have h := zk_t c_56 h
                    refine lv_tableIn (tgt := 124) hx hb dX12_twoOf_1 (by rw [c_56]; decide) (by rw [c_56]; decide) (by rw [c_56]; rfl) (by decide) ?_
                    refine lv_iload_n hx hb dX12_twoOf_124 rfl (lv_at hl 1 rfl) ?_
                    refine lv_iload_n hx hb dX12_twoOf_125 rfl (lv_at hl 2 rfl) ?_
                    refine lv_isub hx hb dX12_twoOf_126 ?_
                    exact W.iret (v := x1 - x2) hx hb hr (fun t ht2 hW => ⟨⟨x1 - x2, (), rfl, Option.some.inj h, by rw [ht2]; exact hP, hD⟩, hS.F ht2⟩) hS.2.2 dX12_twoOf_127 hlocks
                  · have h := zk_f c_56 h
                    by_cases c_57 : x0 = (46 : Int32)
                    · have h := zk_t c_57 h
                      refine lv_tableIn (tgt := 218) hx hb dX12_twoOf_1 (by rw [c_57]; decide) (by rw [c_57]; decide) (by rw [c_57]; rfl) (by decide) ?_
                      refine lv_iload_n hx hb dX12_twoOf_218 rfl (lv_at hl 1 rfl) ?_
                      refine lv_if_ne (tgt := 226) hx hb dX12_twoOf_219 (by decide) (fun c_14 => ?_) (fun c_14 => ?_)
                      · have h := zk_f c_14 h
                        exact L_X12_twoOf_226 C0 hK hA    h H locs ls hP hD hS (lv_sub hl [] rfl)
                      · have h := zk_t c_14 h
                        refine lv_iload_n hx hb dX12_twoOf_222 rfl (lv_at hl 2 rfl) ?_
                        refine lv_if_eq (tgt := 230) hx hb dX12_twoOf_223 (by decide) (fun c_15 => ?_) (fun c_15 => ?_)
                        · have h := zk_t c_15 h
                          refine lv_iconst (v := (0 : Int32)) hx hb dX12_twoOf_230 (by decide) ?_
                          exact W.iret (v := (0 : Int32)) hx hb hr (fun t ht2 hW => ⟨⟨(0 : Int32), (), rfl, Option.some.inj h, by rw [ht2]; exact hP, hD⟩, hS.F ht2⟩) hS.2.2 dX12_twoOf_231 hlocks
                        · have h := zk_f c_15 h
                          exact L_X12_twoOf_226 C0 hK hA    h H locs ls hP hD hS (lv_sub hl [] rfl)
                    · have h := zk_f c_57 h
                      by_cases c_58 : x0 = (47 : Int32)
                      · have h := zk_t c_58 h
                        refine lv_tableIn (tgt := 132) hx hb dX12_twoOf_1 (by rw [c_58]; decide) (by rw [c_58]; decide) (by rw [c_58]; rfl) (by decide) ?_
                        refine lv_iload_n hx hb dX12_twoOf_132 rfl (lv_at hl 2 rfl) ?_
                        refine lv_if_ne (tgt := 140) hx hb dX12_twoOf_133 (by decide) (fun c_16 => ?_) (fun c_16 => ?_)
                        · have h := zk_f c_16 h
                          refine lv_iload_n hx hb dX12_twoOf_140 rfl (lv_at hl 2 rfl) ?_
                          refine lv_iconst (v := (-1 : Int32)) hx hb dX12_twoOf_141 (by decide) ?_
                          refine lv_icmp_ne (tgt := 150) hx hb dX12_twoOf_142 (by decide) (fun c_17 => ?_) (fun c_17 => ?_)
                          · have h := zk_f c_17 h
                            refine lv_iload_n hx hb dX12_twoOf_150 rfl (lv_at hl 1 rfl) ?_
                            refine lv_iload_n hx hb dX12_twoOf_151 rfl (lv_at hl 2 rfl) ?_
                            obtain ⟨g_18, h⟩ := zk_gd h
                            refine lv_idiv hx hb dX12_twoOf_152 g_18 ?_
                            exact W.iret (v := x1 / x2) hx hb hr (fun t ht2 hW => ⟨⟨x1 / x2, (), rfl, Option.some.inj h, by rw [ht2]; exact hP, hD⟩, hS.F ht2⟩) hS.2.2 dX12_twoOf_153 hlocks
                          · have h := zk_t c_17 h
                            refine lv_iload_n hx hb dX12_twoOf_145 rfl (lv_at hl 1 rfl) ?_
                            refine lv_ineg hx hb dX12_twoOf_146 ?_
                            refine lv_goto (tgt := 153) hx hb dX12_twoOf_147 (by decide) ?_
                            exact W.iret (v := -x1) hx hb hr (fun t ht2 hW => ⟨⟨-x1, (), rfl, Option.some.inj h, by rw [ht2]; exact hP, hD⟩, hS.F ht2⟩) hS.2.2 dX12_twoOf_153 hlocks
                        · have h := zk_t c_16 h
                          refine lv_iconst (v := (0 : Int32)) hx hb dX12_twoOf_136 (by decide) ?_
                          refine lv_goto (tgt := 153) hx hb dX12_twoOf_137 (by decide) ?_
                          exact W.iret (v := (0 : Int32)) hx hb hr (fun t ht2 hW => ⟨⟨(0 : Int32), (), rfl, Option.some.inj h, by rw [ht2]; exact hP, hD⟩, hS.F ht2⟩) hS.2.2 dX12_twoOf_153 hlocks
                      · have h := zk_f c_58 h
                        by_cases c_59 : x0 = (48 : Int32)
                        · have h := zk_t c_59 h
                          refine lv_tableIn (tgt := 218) hx hb dX12_twoOf_1 (by rw [c_59]; decide) (by rw [c_59]; decide) (by rw [c_59]; rfl) (by decide) ?_
                          refine lv_iload_n hx hb dX12_twoOf_218 rfl (lv_at hl 1 rfl) ?_
                          refine lv_if_ne (tgt := 226) hx hb dX12_twoOf_219 (by decide) (fun c_19 => ?_) (fun c_19 => ?_)
                          · have h := zk_f c_19 h
                            exact L_X12_twoOf_226 C0 hK hA    h H locs ls hP hD hS (lv_sub hl [] rfl)
                          · have h := zk_t c_19 h
                            refine lv_iload_n hx hb dX12_twoOf_222 rfl (lv_at hl 2 rfl) ?_
                            refine lv_if_eq (tgt := 230) hx hb dX12_twoOf_223 (by decide) (fun c_20 => ?_) (fun c_20 => ?_)
                            · have h := zk_t c_20 h
                              refine lv_iconst (v := (0 : Int32)) hx hb dX12_twoOf_230 (by decide) ?_
                              exact W.iret (v := (0 : Int32)) hx hb hr (fun t ht2 hW => ⟨⟨(0 : Int32), (), rfl, Option.some.inj h, by rw [ht2]; exact hP, hD⟩, hS.F ht2⟩) hS.2.2 dX12_twoOf_231 hlocks
                            · have h := zk_f c_20 h
                              exact L_X12_twoOf_226 C0 hK hA    h H locs ls hP hD hS (lv_sub hl [] rfl)
                        · have h := zk_f c_59 h
                          by_cases c_60 : x0 = (49 : Int32)
                          · have h := zk_t c_60 h
                            refine lv_tableIn (tgt := 218) hx hb dX12_twoOf_1 (by rw [c_60]; decide) (by rw [c_60]; decide) (by rw [c_60]; rfl) (by decide) ?_
                            refine lv_iload_n hx hb dX12_twoOf_218 rfl (lv_at hl 1 rfl) ?_
                            refine lv_if_ne (tgt := 226) hx hb dX12_twoOf_219 (by decide) (fun c_21 => ?_) (fun c_21 => ?_)
                            · have h := zk_f c_21 h
                              exact L_X12_twoOf_226 C0 hK hA    h H locs ls hP hD hS (lv_sub hl [] rfl)
                            · have h := zk_t c_21 h
                              refine lv_iload_n hx hb dX12_twoOf_222 rfl (lv_at hl 2 rfl) ?_
                              refine lv_if_eq (tgt := 230) hx hb dX12_twoOf_223 (by decide) (fun c_22 => ?_) (fun c_22 => ?_)
                              · have h := zk_t c_22 h
                                refine lv_iconst (v := (0 : Int32)) hx hb dX12_twoOf_230 (by decide) ?_
                                exact W.iret (v := (0 : Int32)) hx hb hr (fun t ht2 hW => ⟨⟨(0 : Int32), (), rfl, Option.some.inj h, by rw [ht2]; exact hP, hD⟩, hS.F ht2⟩) hS.2.2 dX12_twoOf_231 hlocks
                              · have h := zk_f c_22 h
                                exact L_X12_twoOf_226 C0 hK hA    h H locs ls hP hD hS (lv_sub hl [] rfl)
                          · have h := zk_f c_60 h
                            by_cases c_61 : x0 = (50 : Int32)
                            · have h := zk_t c_61 h
                              refine lv_tableIn (tgt := 218) hx hb dX12_twoOf_1 (by rw [c_61]; decide) (by rw [c_61]; decide) (by rw [c_61]; rfl) (by decide) ?_
                              refine lv_iload_n hx hb dX12_twoOf_218 rfl (lv_at hl 1 rfl) ?_
                              refine lv_if_ne (tgt := 226) hx hb dX12_twoOf_219 (by decide) (fun c_23 => ?_) (fun c_23 => ?_)
                              · have h := zk_f c_23 h
                                exact L_X12_twoOf_226 C0 hK hA    h H locs ls hP hD hS (lv_sub hl [] rfl)
                              · have h := zk_t c_23 h
                                refine lv_iload_n hx hb dX12_twoOf_222 rfl (lv_at hl 2 rfl) ?_
                                refine lv_if_eq (tgt := 230) hx hb dX12_twoOf_223 (by decide) (fun c_24 => ?_) (fun c_24 => ?_)
                                · have h := zk_t c_24 h
                                  refine lv_iconst (v := (0 : Int32)) hx hb dX12_twoOf_230 (by decide) ?_
                                  exact W.iret (v := (0 : Int32)) hx hb hr (fun t ht2 hW => ⟨⟨(0 : Int32), (), rfl, Option.some.inj h, by rw [ht2]; exact hP, hD⟩, hS.F ht2⟩) hS.2.2 dX12_twoOf_231 hlocks
                                · have h := zk_f c_24 h
                                  exact L_X12_twoOf_226 C0 hK hA    h H locs ls hP hD hS (lv_sub hl [] rfl)
                            · have h := zk_f c_61 h
                              by_cases c_62 : x0 = (51 : Int32)
                              · have h := zk_t c_62 h
                                refine lv_tableIn (tgt := 218) hx hb dX12_twoOf_1 (by rw [c_62]; decide) (by rw [c_62]; decide) (by rw [c_62]; rfl) (by decide) ?_
                                refine lv_iload_n hx hb dX12_twoOf_218 rfl (lv_at hl 1 rfl) ?_
                                refine lv_if_ne (tgt := 226) hx hb dX12_twoOf_219 (by decide) (fun c_25 => ?_) (fun c_25 => ?_)
                                · have h := zk_f c_25 h
                                  exact L_X12_twoOf_226 C0 hK hA    h H locs ls hP hD hS (lv_sub hl [] rfl)
                                · have h := zk_t c_25 h
                                  refine lv_iload_n hx hb dX12_twoOf_222 rfl (lv_at hl 2 rfl) ?_
                                  refine lv_if_eq (tgt := 230) hx hb dX12_twoOf_223 (by decide) (fun c_26 => ?_) (fun c_26 => ?_)
                                  · have h := zk_t c_26 h
                                    refine lv_iconst (v := (0 : Int32)) hx hb dX12_twoOf_230 (by decide) ?_
                                    exact W.iret (v := (0 : Int32)) hx hb hr (fun t ht2 hW => ⟨⟨(0 : Int32), (), rfl, Option.some.inj h, by rw [ht2]; exact hP, hD⟩, hS.F ht2⟩) hS.2.2 dX12_twoOf_231 hlocks
                                  · have h := zk_f c_26 h
                                    exact L_X12_twoOf_226 C0 hK hA    h H locs ls hP hD hS (lv_sub hl [] rfl)
                              · have h := zk_f c_62 h
                                by_cases c_63 : x0 = (52 : Int32)
                                · have h := zk_t c_63 h
                                  refine lv_tableIn (tgt := 218) hx hb dX12_twoOf_1 (by rw [c_63]; decide) (by rw [c_63]; decide) (by rw [c_63]; rfl) (by decide) ?_
                                  refine lv_iload_n hx hb dX12_twoOf_218 rfl (lv_at hl 1 rfl) ?_
                                  refine lv_if_ne (tgt := 226) hx hb dX12_twoOf_219 (by decide) (fun c_27 => ?_) (fun c_27 => ?_)
                                  · have h := zk_f c_27 h
                                    exact L_X12_twoOf_226 C0 hK hA    h H locs ls hP hD hS (lv_sub hl [] rfl)
                                  · have h := zk_t c_27 h
                                    refine lv_iload_n hx hb dX12_twoOf_222 rfl (lv_at hl 2 rfl) ?_
                                    refine lv_if_eq (tgt := 230) hx hb dX12_twoOf_223 (by decide) (fun c_28 => ?_) (fun c_28 => ?_)
                                    · have h := zk_t c_28 h
                                      refine lv_iconst (v := (0 : Int32)) hx hb dX12_twoOf_230 (by decide) ?_
                                      exact W.iret (v := (0 : Int32)) hx hb hr (fun t ht2 hW => ⟨⟨(0 : Int32), (), rfl, Option.some.inj h, by rw [ht2]; exact hP, hD⟩, hS.F ht2⟩) hS.2.2 dX12_twoOf_231 hlocks
                                    · have h := zk_f c_28 h
                                      exact L_X12_twoOf_226 C0 hK hA    h H locs ls hP hD hS (lv_sub hl [] rfl)
                                · have h := zk_f c_63 h
                                  by_cases c_64 : x0 = (53 : Int32)
                                  · have h := zk_t c_64 h
                                    refine lv_tableIn (tgt := 218) hx hb dX12_twoOf_1 (by rw [c_64]; decide) (by rw [c_64]; decide) (by rw [c_64]; rfl) (by decide) ?_
                                    refine lv_iload_n hx hb dX12_twoOf_218 rfl (lv_at hl 1 rfl) ?_
                                    refine lv_if_ne (tgt := 226) hx hb dX12_twoOf_219 (by decide) (fun c_29 => ?_) (fun c_29 => ?_)
                                    · have h := zk_f c_29 h
                                      exact L_X12_twoOf_226 C0 hK hA    h H locs ls hP hD hS (lv_sub hl [] rfl)
                                    · have h := zk_t c_29 h
                                      refine lv_iload_n hx hb dX12_twoOf_222 rfl (lv_at hl 2 rfl) ?_
                                      refine lv_if_eq (tgt := 230) hx hb dX12_twoOf_223 (by decide) (fun c_30 => ?_) (fun c_30 => ?_)
                                      · have h := zk_t c_30 h
                                        refine lv_iconst (v := (0 : Int32)) hx hb dX12_twoOf_230 (by decide) ?_
                                        exact W.iret (v := (0 : Int32)) hx hb hr (fun t ht2 hW => ⟨⟨(0 : Int32), (), rfl, Option.some.inj h, by rw [ht2]; exact hP, hD⟩, hS.F ht2⟩) hS.2.2 dX12_twoOf_231 hlocks
                                      · have h := zk_f c_30 h
                                        exact L_X12_twoOf_226 C0 hK hA    h H locs ls hP hD hS (lv_sub hl [] rfl)
                                  · have h := zk_f c_64 h
                                    by_cases c_65 : x0 = (54 : Int32)
                                    · have h := zk_t c_65 h
                                      refine lv_tableIn (tgt := 218) hx hb dX12_twoOf_1 (by rw [c_65]; decide) (by rw [c_65]; decide) (by rw [c_65]; rfl) (by decide) ?_
                                      refine lv_iload_n hx hb dX12_twoOf_218 rfl (lv_at hl 1 rfl) ?_
                                      refine lv_if_ne (tgt := 226) hx hb dX12_twoOf_219 (by decide) (fun c_31 => ?_) (fun c_31 => ?_)
                                      · have h := zk_f c_31 h
                                        exact L_X12_twoOf_226 C0 hK hA    h H locs ls hP hD hS (lv_sub hl [] rfl)
                                      · have h := zk_t c_31 h
                                        refine lv_iload_n hx hb dX12_twoOf_222 rfl (lv_at hl 2 rfl) ?_
                                        refine lv_if_eq (tgt := 230) hx hb dX12_twoOf_223 (by decide) (fun c_32 => ?_) (fun c_32 => ?_)
                                        · have h := zk_t c_32 h
                                          refine lv_iconst (v := (0 : Int32)) hx hb dX12_twoOf_230 (by decide) ?_
                                          exact W.iret (v := (0 : Int32)) hx hb hr (fun t ht2 hW => ⟨⟨(0 : Int32), (), rfl, Option.some.inj h, by rw [ht2]; exact hP, hD⟩, hS.F ht2⟩) hS.2.2 dX12_twoOf_231 hlocks
                                        · have h := zk_f c_32 h
                                          exact L_X12_twoOf_226 C0 hK hA    h H locs ls hP hD hS (lv_sub hl [] rfl)
                                    · have h := zk_f c_65 h
                                      by_cases c_66 : x0 = (55 : Int32)
                                      · have h := zk_t c_66 h
                                        refine lv_tableIn (tgt := 218) hx hb dX12_twoOf_1 (by rw [c_66]; decide) (by rw [c_66]; decide) (by rw [c_66]; rfl) (by decide) ?_
                                        refine lv_iload_n hx hb dX12_twoOf_218 rfl (lv_at hl 1 rfl) ?_
                                        refine lv_if_ne (tgt := 226) hx hb dX12_twoOf_219 (by decide) (fun c_33 => ?_) (fun c_33 => ?_)
                                        · have h := zk_f c_33 h
                                          exact L_X12_twoOf_226 C0 hK hA    h H locs ls hP hD hS (lv_sub hl [] rfl)
                                        · have h := zk_t c_33 h
                                          refine lv_iload_n hx hb dX12_twoOf_222 rfl (lv_at hl 2 rfl) ?_
                                          refine lv_if_eq (tgt := 230) hx hb dX12_twoOf_223 (by decide) (fun c_34 => ?_) (fun c_34 => ?_)
                                          · have h := zk_t c_34 h
                                            refine lv_iconst (v := (0 : Int32)) hx hb dX12_twoOf_230 (by decide) ?_
                                            exact W.iret (v := (0 : Int32)) hx hb hr (fun t ht2 hW => ⟨⟨(0 : Int32), (), rfl, Option.some.inj h, by rw [ht2]; exact hP, hD⟩, hS.F ht2⟩) hS.2.2 dX12_twoOf_231 hlocks
                                          · have h := zk_f c_34 h
                                            exact L_X12_twoOf_226 C0 hK hA    h H locs ls hP hD hS (lv_sub hl [] rfl)
                                      · have h := zk_f c_66 h
                                        by_cases c_67 : x0 = (56 : Int32)
                                        · have h := zk_t c_67 h
                                          refine lv_tableIn (tgt := 218) hx hb dX12_twoOf_1 (by rw [c_67]; decide) (by rw [c_67]; decide) (by rw [c_67]; rfl) (by decide) ?_
                                          refine lv_iload_n hx hb dX12_twoOf_218 rfl (lv_at hl 1 rfl) ?_
                                          refine lv_if_ne (tgt := 226) hx hb dX12_twoOf_219 (by decide) (fun c_35 => ?_) (fun c_35 => ?_)
                                          · have h := zk_f c_35 h
                                            exact L_X12_twoOf_226 C0 hK hA    h H locs ls hP hD hS (lv_sub hl [] rfl)
                                          · have h := zk_t c_35 h
                                            refine lv_iload_n hx hb dX12_twoOf_222 rfl (lv_at hl 2 rfl) ?_
                                            refine lv_if_eq (tgt := 230) hx hb dX12_twoOf_223 (by decide) (fun c_36 => ?_) (fun c_36 => ?_)
                                            · have h := zk_t c_36 h
                                              refine lv_iconst (v := (0 : Int32)) hx hb dX12_twoOf_230 (by decide) ?_
                                              exact W.iret (v := (0 : Int32)) hx hb hr (fun t ht2 hW => ⟨⟨(0 : Int32), (), rfl, Option.some.inj h, by rw [ht2]; exact hP, hD⟩, hS.F ht2⟩) hS.2.2 dX12_twoOf_231 hlocks
                                            · have h := zk_f c_36 h
                                              exact L_X12_twoOf_226 C0 hK hA    h H locs ls hP hD hS (lv_sub hl [] rfl)
                                        · have h := zk_f c_67 h
                                          by_cases c_68 : x0 = (57 : Int32)
                                          · have h := zk_t c_68 h
                                            refine lv_tableIn (tgt := 218) hx hb dX12_twoOf_1 (by rw [c_68]; decide) (by rw [c_68]; decide) (by rw [c_68]; rfl) (by decide) ?_
                                            refine lv_iload_n hx hb dX12_twoOf_218 rfl (lv_at hl 1 rfl) ?_
                                            refine lv_if_ne (tgt := 226) hx hb dX12_twoOf_219 (by decide) (fun c_37 => ?_) (fun c_37 => ?_)
                                            · have h := zk_f c_37 h
                                              exact L_X12_twoOf_226 C0 hK hA    h H locs ls hP hD hS (lv_sub hl [] rfl)
                                            · have h := zk_t c_37 h
                                              refine lv_iload_n hx hb dX12_twoOf_222 rfl (lv_at hl 2 rfl) ?_
                                              refine lv_if_eq (tgt := 230) hx hb dX12_twoOf_223 (by decide) (fun c_38 => ?_) (fun c_38 => ?_)
                                              · have h := zk_t c_38 h
                                                refine lv_iconst (v := (0 : Int32)) hx hb dX12_twoOf_230 (by decide) ?_
                                                exact W.iret (v := (0 : Int32)) hx hb hr (fun t ht2 hW => ⟨⟨(0 : Int32), (), rfl, Option.some.inj h, by rw [ht2]; exact hP, hD⟩, hS.F ht2⟩) hS.2.2 dX12_twoOf_231 hlocks
                                              · have h := zk_f c_38 h
                                                exact L_X12_twoOf_226 C0 hK hA    h H locs ls hP hD hS (lv_sub hl [] rfl)
                                          · have h := zk_f c_68 h
                                            by_cases c_69 : x0 = (58 : Int32)
                                            · have h := zk_t c_69 h
                                              refine lv_tableIn (tgt := 218) hx hb dX12_twoOf_1 (by rw [c_69]; decide) (by rw [c_69]; decide) (by rw [c_69]; rfl) (by decide) ?_
                                              refine lv_iload_n hx hb dX12_twoOf_218 rfl (lv_at hl 1 rfl) ?_
                                              refine lv_if_ne (tgt := 226) hx hb dX12_twoOf_219 (by decide) (fun c_39 => ?_) (fun c_39 => ?_)
                                              · have h := zk_f c_39 h
                                                exact L_X12_twoOf_226 C0 hK hA    h H locs ls hP hD hS (lv_sub hl [] rfl)
                                              · have h := zk_t c_39 h
                                                refine lv_iload_n hx hb dX12_twoOf_222 rfl (lv_at hl 2 rfl) ?_
                                                refine lv_if_eq (tgt := 230) hx hb dX12_twoOf_223 (by decide) (fun c_40 => ?_) (fun c_40 => ?_)
                                                · have h := zk_t c_40 h
                                                  refine lv_iconst (v := (0 : Int32)) hx hb dX12_twoOf_230 (by decide) ?_
                                                  exact W.iret (v := (0 : Int32)) hx hb hr (fun t ht2 hW => ⟨⟨(0 : Int32), (), rfl, Option.some.inj h, by rw [ht2]; exact hP, hD⟩, hS.F ht2⟩) hS.2.2 dX12_twoOf_231 hlocks
                                                · have h := zk_f c_40 h
                                                  exact L_X12_twoOf_226 C0 hK hA    h H locs ls hP hD hS (lv_sub hl [] rfl)
                                            · have h := zk_f c_69 h
                                              by_cases c_70 : x0 = (59 : Int32)
                                              · have h := zk_t c_70 h
                                                refine lv_tableIn (tgt := 218) hx hb dX12_twoOf_1 (by rw [c_70]; decide) (by rw [c_70]; decide) (by rw [c_70]; rfl) (by decide) ?_
                                                refine lv_iload_n hx hb dX12_twoOf_218 rfl (lv_at hl 1 rfl) ?_
                                                refine lv_if_ne (tgt := 226) hx hb dX12_twoOf_219 (by decide) (fun c_41 => ?_) (fun c_41 => ?_)
                                                · have h := zk_f c_41 h
                                                  exact L_X12_twoOf_226 C0 hK hA    h H locs ls hP hD hS (lv_sub hl [] rfl)
                                                · have h := zk_t c_41 h
                                                  refine lv_iload_n hx hb dX12_twoOf_222 rfl (lv_at hl 2 rfl) ?_
                                                  refine lv_if_eq (tgt := 230) hx hb dX12_twoOf_223 (by decide) (fun c_42 => ?_) (fun c_42 => ?_)
                                                  · have h := zk_t c_42 h
                                                    refine lv_iconst (v := (0 : Int32)) hx hb dX12_twoOf_230 (by decide) ?_
                                                    exact W.iret (v := (0 : Int32)) hx hb hr (fun t ht2 hW => ⟨⟨(0 : Int32), (), rfl, Option.some.inj h, by rw [ht2]; exact hP, hD⟩, hS.F ht2⟩) hS.2.2 dX12_twoOf_231 hlocks
                                                  · have h := zk_f c_42 h
                                                    exact L_X12_twoOf_226 C0 hK hA    h H locs ls hP hD hS (lv_sub hl [] rfl)
                                              · have h := zk_f c_70 h
                                                by_cases c_71 : x0 = (60 : Int32)
                                                · have h := zk_t c_71 h
                                                  refine lv_tableIn (tgt := 171) hx hb dX12_twoOf_1 (by rw [c_71]; decide) (by rw [c_71]; decide) (by rw [c_71]; rfl) (by decide) ?_
                                                  refine lv_iload_n hx hb dX12_twoOf_171 rfl (lv_at hl 1 rfl) ?_
                                                  refine lv_iload_n hx hb dX12_twoOf_172 rfl (lv_at hl 2 rfl) ?_
                                                  refine lv_icmp_ge (tgt := 180) hx hb dX12_twoOf_173 (by decide) (fun c_43 => ?_) (fun c_43 => ?_)
                                                  · have h := zk_t c_43 h
                                                    refine lv_iconst (v := (0 : Int32)) hx hb dX12_twoOf_180 (by decide) ?_
                                                    exact W.iret (v := (0 : Int32)) hx hb hr (fun t ht2 hW => ⟨⟨(0 : Int32), (), rfl, Option.some.inj h, by rw [ht2]; exact hP, hD⟩, hS.F ht2⟩) hS.2.2 dX12_twoOf_181 hlocks
                                                  · have h := zk_f c_43 h
                                                    refine lv_iconst (v := (1 : Int32)) hx hb dX12_twoOf_176 (by decide) ?_
                                                    refine lv_goto (tgt := 181) hx hb dX12_twoOf_177 (by decide) ?_
                                                    exact W.iret (v := (1 : Int32)) hx hb hr (fun t ht2 hW => ⟨⟨(1 : Int32), (), rfl, Option.some.inj h, by rw [ht2]; exact hP, hD⟩, hS.F ht2⟩) hS.2.2 dX12_twoOf_181 hlocks
                                                · have h := zk_f c_71 h
                                                  by_cases c_72 : x0 = (61 : Int32)
                                                  · have h := zk_t c_72 h
                                                    refine lv_tableIn (tgt := 182) hx hb dX12_twoOf_1 (by rw [c_72]; decide) (by rw [c_72]; decide) (by rw [c_72]; rfl) (by decide) ?_
                                                    refine lv_iload_n hx hb dX12_twoOf_182 rfl (lv_at hl 1 rfl) ?_
                                                    refine lv_iload_n hx hb dX12_twoOf_183 rfl (lv_at hl 2 rfl) ?_
                                                    refine lv_icmp_ne (tgt := 191) hx hb dX12_twoOf_184 (by decide) (fun c_44 => ?_) (fun c_44 => ?_)
                                                    · have h := zk_f c_44 h
                                                      refine lv_iconst (v := (0 : Int32)) hx hb dX12_twoOf_191 (by decide) ?_
                                                      exact W.iret (v := (0 : Int32)) hx hb hr (fun t ht2 hW => ⟨⟨(0 : Int32), (), rfl, Option.some.inj h, by rw [ht2]; exact hP, hD⟩, hS.F ht2⟩) hS.2.2 dX12_twoOf_192 hlocks
                                                    · have h := zk_t c_44 h
                                                      refine lv_iconst (v := (1 : Int32)) hx hb dX12_twoOf_187 (by decide) ?_
                                                      refine lv_goto (tgt := 192) hx hb dX12_twoOf_188 (by decide) ?_
                                                      exact W.iret (v := (1 : Int32)) hx hb hr (fun t ht2 hW => ⟨⟨(1 : Int32), (), rfl, Option.some.inj h, by rw [ht2]; exact hP, hD⟩, hS.F ht2⟩) hS.2.2 dX12_twoOf_192 hlocks
                                                  · have h := zk_f c_72 h
                                                    by_cases c_73 : x0 = (62 : Int32)
                                                    · have h := zk_t c_73 h
                                                      refine lv_tableIn (tgt := 193) hx hb dX12_twoOf_1 (by rw [c_73]; decide) (by rw [c_73]; decide) (by rw [c_73]; rfl) (by decide) ?_
                                                      refine lv_iload_n hx hb dX12_twoOf_193 rfl (lv_at hl 1 rfl) ?_
                                                      refine lv_iload_n hx hb dX12_twoOf_194 rfl (lv_at hl 2 rfl) ?_
                                                      refine lv_icmp_le (tgt := 202) hx hb dX12_twoOf_195 (by decide) (fun c_45 => ?_) (fun c_45 => ?_)
                                                      · have h := zk_t c_45 h
                                                        refine lv_iconst (v := (0 : Int32)) hx hb dX12_twoOf_202 (by decide) ?_
                                                        exact W.iret (v := (0 : Int32)) hx hb hr (fun t ht2 hW => ⟨⟨(0 : Int32), (), rfl, Option.some.inj h, by rw [ht2]; exact hP, hD⟩, hS.F ht2⟩) hS.2.2 dX12_twoOf_203 hlocks
                                                      · have h := zk_f c_45 h
                                                        refine lv_iconst (v := (1 : Int32)) hx hb dX12_twoOf_198 (by decide) ?_
                                                        refine lv_goto (tgt := 203) hx hb dX12_twoOf_199 (by decide) ?_
                                                        exact W.iret (v := (1 : Int32)) hx hb hr (fun t ht2 hW => ⟨⟨(1 : Int32), (), rfl, Option.some.inj h, by rw [ht2]; exact hP, hD⟩, hS.F ht2⟩) hS.2.2 dX12_twoOf_203 hlocks
                                                    · have h := zk_f c_73 h
                                                      refine lv_tableOut (tgt := 218) hx hb dX12_twoOf_1 (zk_out (lo := 37) (hi := 62) [(37 : Int32), (38 : Int32), (39 : Int32), (40 : Int32), (41 : Int32), (42 : Int32), (43 : Int32), (44 : Int32), (45 : Int32), (46 : Int32), (47 : Int32), (48 : Int32), (49 : Int32), (50 : Int32), (51 : Int32), (52 : Int32), (53 : Int32), (54 : Int32), (55 : Int32), (56 : Int32), (57 : Int32), (58 : Int32), (59 : Int32), (60 : Int32), (61 : Int32), (62 : Int32)] (by decide +kernel) (List.forall_mem_cons.mpr ⟨c_48, List.forall_mem_cons.mpr ⟨c_49, List.forall_mem_cons.mpr ⟨c_50, List.forall_mem_cons.mpr ⟨c_51, List.forall_mem_cons.mpr ⟨c_52, List.forall_mem_cons.mpr ⟨c_53, List.forall_mem_cons.mpr ⟨c_54, List.forall_mem_cons.mpr ⟨c_55, List.forall_mem_cons.mpr ⟨c_56, List.forall_mem_cons.mpr ⟨c_57, List.forall_mem_cons.mpr ⟨c_58, List.forall_mem_cons.mpr ⟨c_59, List.forall_mem_cons.mpr ⟨c_60, List.forall_mem_cons.mpr ⟨c_61, List.forall_mem_cons.mpr ⟨c_62, List.forall_mem_cons.mpr ⟨c_63, List.forall_mem_cons.mpr ⟨c_64, List.forall_mem_cons.mpr ⟨c_65, List.forall_mem_cons.mpr ⟨c_66, List.forall_mem_cons.mpr ⟨c_67, List.forall_mem_cons.mpr ⟨c_68, List.forall_mem_cons.mpr ⟨c_69, List.forall_mem_cons.mpr ⟨c_70, List.forall_mem_cons.mpr ⟨c_71, List.forall_mem_cons.mpr ⟨c_72, List.forall_mem_cons.mpr ⟨c_73, fun _ h => absurd h List.not_mem_nil⟩⟩⟩⟩⟩⟩⟩⟩⟩⟩⟩⟩⟩⟩⟩⟩⟩⟩⟩⟩⟩⟩⟩⟩⟩⟩)) (by decide) ?_
                                                      refine lv_iload_n hx hb dX12_twoOf_218 rfl (lv_at hl 1 rfl) ?_
                                                      refine lv_if_ne (tgt := 226) hx hb dX12_twoOf_219 (by decide) (fun c_46 => ?_) (fun c_46 => ?_)
                                                      · have h := zk_f c_46 h
                                                        exact L_X12_twoOf_226 C0 hK hA    h H locs ls hP hD hS (lv_sub hl [] rfl)
                                                      · have h := zk_t c_46 h
                                                        refine lv_iload_n hx hb dX12_twoOf_222 rfl (lv_at hl 2 rfl) ?_
                                                        refine lv_if_eq (tgt := 230) hx hb dX12_twoOf_223 (by decide) (fun c_47 => ?_) (fun c_47 => ?_)
                                                        · have h := zk_t c_47 h
                                                          refine lv_iconst (v := (0 : Int32)) hx hb dX12_twoOf_230 (by decide) ?_
                                                          exact W.iret (v := (0 : Int32)) hx hb hr (fun t ht2 hW => ⟨⟨(0 : Int32), (), rfl, Option.some.inj h, by rw [ht2]; exact hP, hD⟩, hS.F ht2⟩) hS.2.2 dX12_twoOf_231 hlocks
                                                        · have h := zk_f c_47 h
                                                          exact L_X12_twoOf_226 C0 hK hA    h H locs ls hP hD hS (lv_sub hl [] rfl)
set_option maxHeartbeats 4000000 in
set_option maxRecDepth 100000 in
theorem c_X12_twoOf (l : Launch) (D : va_G) (cs : Nat → ClassId) (ad : Nat → Nat) (sz : Nat) (x0 : Int32) (x1 : Int32) (x2 : Int32)  (R : Int32 × Unit) (h : f_X12_twoOf   x0 x1 x2  = some R) : Met l yX12_twoOf (z_X12_twoOf) rm_X12_twoOf (va_Pc [.int x0, .int x1, .int x2] (zPre D cs (wl_X12_twoOf ad cs ) sz)) (Q_X12_twoOf D cs ad  (va_A (wl_X12_twoOf ad cs ) sz) R) 0 0 (va_A (wl_X12_twoOf ad cs ) sz) := by
  refine Met.ofW (cc := cX12_twoOf) (maxL := 3) (ret := (some .int)) (by decide) rfl ?_
  intro p e s m args below meth c s₁ B hml hv
  obtain ⟨rfl, hsz, hP, hK, hD0⟩ := hv
  subst hsz
  have hD := hD0.self (sz := s.heap.size)
  have C0 : zC p s m _ meth c cX12_twoOf 3 (some .int) RX12 zW := ⟨B.exec, B.bytes, B.returns, hml, findClass_of_methodNamed B.named, fun w hw => atoms_spec (ws := z_X12_twoOf) B.pre w (List.mem_cons_of_mem _ hw), B.notSynchronized⟩
  have hA : ∀ q : Nat, s.heap.size ≤ q → va_A (wl_X12_twoOf ad cs ) s.heap.size q := fun q h => Or.inr h
  have hl := lv_entry ([.int x0, .int x1, .int x2]) (n := 3) (Nat.le_of_ble_eq_true rfl)
  rw [lg_entry_eq]
  generalize (lg_sl ([.int x0, .int x1, .int x2]) ++ List.replicate (3 - (lg_sl ([.int x0, .int x1, .int x2])).length) Slot.unset).toArray = ls at hl ⊢
  exact L_X12_twoOf_0 C0 hK hA   x0 x1 x2  h s.heap [] ls hP hD va_S.rf hl
