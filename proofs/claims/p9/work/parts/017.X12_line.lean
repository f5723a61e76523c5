theorem kw_1332 : Cond.fieldLink RX12 89 "AlreadyJudgedModel" "lineMany" "[I" ∈ zW := zwC (i := 58) zc_6 rfl rfl
theorem kw_1333 : Cond.fieldLink RX12 92 "AlreadyJudgedModel" "testEnd" "[S" ∈ zW := zwC (i := 59) zc_6 rfl rfl
theorem kw_1334 : Cond.fieldLink RX12 96 "AlreadyJudgedModel" "lineEnd" "[S" ∈ zW := zwC (i := 60) zc_6 rfl rfl
theorem zh_cX12_line_0 : zck [17, 7, 160, 42, 180, 0, 89, 16, 32, 46, 96, 60, 42, 180, 0, 92, 27, 42, 180, 0, 255, 147] (zdu 0 cX12_line.data.toList) = true := by decide +kernel
theorem dX12_line_0 : decode cX12_line 0 = .ok (.sipush 1952, 3) := zo_p17 zh_cX12_line_0 0 1952 rfl rfl
theorem dX12_line_3 : decode cX12_line 3 = .ok (.aload_n 0, 1) := zo_42 zh_cX12_line_0 3 rfl
theorem dX12_line_4 : decode cX12_line 4 = .ok (.getfield 89, 3) := zo_180 zh_cX12_line_0 4 rfl
theorem dX12_line_7 : decode cX12_line 7 = .ok (.bipush 32, 2) := zo_p16 zh_cX12_line_0 7 32 rfl rfl
theorem dX12_line_9 : decode cX12_line 9 = .ok (.iaload, 1) := zo_46 zh_cX12_line_0 9 rfl
theorem dX12_line_10 : decode cX12_line 10 = .ok (.iadd, 1) := zo_96 zh_cX12_line_0 10 rfl
theorem dX12_line_11 : decode cX12_line 11 = .ok (.istore_n 1, 1) := zo_60 zh_cX12_line_0 11 rfl
theorem dX12_line_12 : decode cX12_line 12 = .ok (.aload_n 0, 1) := zo_42 zh_cX12_line_0 12 rfl
theorem dX12_line_13 : decode cX12_line 13 = .ok (.getfield 92, 3) := zo_180 zh_cX12_line_0 13 rfl
theorem dX12_line_16 : decode cX12_line 16 = .ok (.iload_n 1, 1) := zo_27 zh_cX12_line_0 16 rfl
theorem dX12_line_17 : decode cX12_line 17 = .ok (.aload_n 0, 1) := zo_42 zh_cX12_line_0 17 rfl
theorem dX12_line_18 : decode cX12_line 18 = .ok (.getfield 255, 3) := zo_180 zh_cX12_line_0 18 rfl
theorem zo_147 {c : ByteArray} {s : Nat} {K : List Nat} (h : zck K (zdu s c.data.toList) = true) (k : Nat) (hk : zt1 K k 147 = true) : decode c (s + k) = .ok (.i2s, 1) := zde ((zbd (zu1 (zh1 h hk))).trans rfl)
theorem zh_cX12_line_1 : zck [255, 147, 86, 42, 182, 1, 19, 42, 180, 0, 202, 156, 0, 37, 42, 182, 0, 194, 16, 63, 160, 0] (zdu 20 cX12_line.data.toList) = true := by decide +kernel
theorem dX12_line_21 : decode cX12_line 21 = .ok (.i2s, 1) := zo_147 zh_cX12_line_1 1 rfl
theorem zo_86 {c : ByteArray} {s : Nat} {K : List Nat} (h : zck K (zdu s c.data.toList) = true) (k : Nat) (hk : zt1 K k 86 = true) : decode c (s + k) = .ok (.sastore, 1) := zde ((zbd (zu1 (zh1 h hk))).trans rfl)
theorem dX12_line_22 : decode cX12_line 22 = .ok (.sastore, 1) := zo_86 zh_cX12_line_1 2 rfl
theorem dX12_line_23 : decode cX12_line 23 = .ok (.aload_n 0, 1) := zo_42 zh_cX12_line_1 3 rfl
theorem dX12_line_24 : decode cX12_line 24 = .ok (.invokevirtual 275, 3) := zo_182 zh_cX12_line_1 4 rfl
theorem dX12_line_27 : decode cX12_line 27 = .ok (.aload_n 0, 1) := zo_42 zh_cX12_line_1 7 rfl
theorem dX12_line_28 : decode cX12_line 28 = .ok (.getfield 202, 3) := zo_180 zh_cX12_line_1 8 rfl
theorem dX12_line_31 : decode cX12_line 31 = .ok (.ifCond .ge 37, 3) := zo_p156 zh_cX12_line_1 11 37 rfl rfl
theorem dX12_line_34 : decode cX12_line 34 = .ok (.aload_n 0, 1) := zo_42 zh_cX12_line_1 14 rfl
theorem dX12_line_35 : decode cX12_line 35 = .ok (.invokevirtual 194, 3) := zo_182 zh_cX12_line_1 15 rfl
theorem dX12_line_38 : decode cX12_line 38 = .ok (.bipush 63, 2) := zo_p16 zh_cX12_line_1 18 63 rfl rfl
theorem zh_cX12_line_2 : zck [160, 0, 28, 42, 89, 180, 0, 191, 4, 96, 181, 0, 191, 42, 180, 0, 92, 27, 42, 180, 0, 255] (zdu 40 cX12_line.data.toList) = true := by decide +kernel
theorem dX12_line_40 : decode cX12_line 40 = .ok (.if_icmp .ne 28, 3) := zo_p160 zh_cX12_line_2 0 28 rfl rfl
theorem dX12_line_43 : decode cX12_line 43 = .ok (.aload_n 0, 1) := zo_42 zh_cX12_line_2 3 rfl
theorem dX12_line_44 : decode cX12_line 44 = .ok (.dup, 1) := zo_89 zh_cX12_line_2 4 rfl
theorem dX12_line_45 : decode cX12_line 45 = .ok (.getfield 191, 3) := zo_180 zh_cX12_line_2 5 rfl
theorem dX12_line_48 : decode cX12_line 48 = .ok (.iconst 1, 1) := zo_4 zh_cX12_line_2 8 rfl
theorem dX12_line_49 : decode cX12_line 49 = .ok (.iadd, 1) := zo_96 zh_cX12_line_2 9 rfl
theorem dX12_line_50 : decode cX12_line 50 = .ok (.putfield 191, 3) := zo_181 zh_cX12_line_2 10 rfl
theorem dX12_line_53 : decode cX12_line 53 = .ok (.aload_n 0, 1) := zo_42 zh_cX12_line_2 13 rfl
theorem dX12_line_54 : decode cX12_line 54 = .ok (.getfield 92, 3) := zo_180 zh_cX12_line_2 14 rfl
theorem dX12_line_57 : decode cX12_line 57 = .ok (.iload_n 1, 1) := zo_27 zh_cX12_line_2 17 rfl
theorem dX12_line_58 : decode cX12_line 58 = .ok (.aload_n 0, 1) := zo_42 zh_cX12_line_2 18 rfl
theorem dX12_line_59 : decode cX12_line 59 = .ok (.getfield 255, 3) := zo_180 zh_cX12_line_2 19 rfl
theorem zh_cX12_line_3 : zck [0, 255, 147, 86, 42, 182, 1, 19, 42, 180, 0, 96, 27, 42, 180, 0, 255, 147, 86, 42, 180, 0] (zdu 60 cX12_line.data.toList) = true := by decide +kernel
theorem dX12_line_62 : decode cX12_line 62 = .ok (.i2s, 1) := zo_147 zh_cX12_line_3 2 rfl
theorem dX12_line_63 : decode cX12_line 63 = .ok (.sastore, 1) := zo_86 zh_cX12_line_3 3 rfl
theorem dX12_line_64 : decode cX12_line 64 = .ok (.aload_n 0, 1) := zo_42 zh_cX12_line_3 4 rfl
theorem dX12_line_65 : decode cX12_line 65 = .ok (.invokevirtual 275, 3) := zo_182 zh_cX12_line_3 5 rfl
theorem dX12_line_68 : decode cX12_line 68 = .ok (.aload_n 0, 1) := zo_42 zh_cX12_line_3 8 rfl
theorem dX12_line_69 : decode cX12_line 69 = .ok (.getfield 96, 3) := zo_180 zh_cX12_line_3 9 rfl
theorem dX12_line_72 : decode cX12_line 72 = .ok (.iload_n 1, 1) := zo_27 zh_cX12_line_3 12 rfl
theorem dX12_line_73 : decode cX12_line 73 = .ok (.aload_n 0, 1) := zo_42 zh_cX12_line_3 13 rfl
theorem dX12_line_74 : decode cX12_line 74 = .ok (.getfield 255, 3) := zo_180 zh_cX12_line_3 14 rfl
theorem dX12_line_77 : decode cX12_line 77 = .ok (.i2s, 1) := zo_147 zh_cX12_line_3 17 rfl
theorem dX12_line_78 : decode cX12_line 78 = .ok (.sastore, 1) := zo_86 zh_cX12_line_3 18 rfl
theorem dX12_line_79 : decode cX12_line 79 = .ok (.aload_n 0, 1) := zo_42 zh_cX12_line_3 19 rfl
theorem zh_cX12_line_4 : zck [180, 0, 89, 16, 32, 92, 46, 4, 96, 79, 177] (zdu 80 cX12_line.data.toList) = true := by decide +kernel
theorem dX12_line_80 : decode cX12_line 80 = .ok (.getfield 89, 3) := zo_180 zh_cX12_line_4 0 rfl
theorem dX12_line_83 : decode cX12_line 83 = .ok (.bipush 32, 2) := zo_p16 zh_cX12_line_4 3 32 rfl rfl
theorem dX12_line_85 : decode cX12_line 85 = .ok (.dup2, 1) := zo_92 zh_cX12_line_4 5 rfl
theorem dX12_line_86 : decode cX12_line 86 = .ok (.iaload, 1) := zo_46 zh_cX12_line_4 6 rfl
theorem dX12_line_87 : decode cX12_line 87 = .ok (.iconst 1, 1) := zo_4 zh_cX12_line_4 7 rfl
theorem dX12_line_88 : decode cX12_line 88 = .ok (.iadd, 1) := zo_96 zh_cX12_line_4 8 rfl
theorem dX12_line_89 : decode cX12_line 89 = .ok (.iastore, 1) := zo_79 zh_cX12_line_4 9 rfl
theorem dX12_line_90 : decode cX12_line 90 = .ok (.return_, 1) := zo_177 zh_cX12_line_4 10 rfl
abbrev z_X12_line : List Cond := .code yX12_line cX12_line 2 none :: zW
abbrev wl_X12_line (ad : Nat → Nat) (cs : Nat → ClassId)  (mod_code : Int32) (mod_shoes : Int32) (mod_claims : Int32) (mod_taped : Int32) (mod_here : Int32) (mod_fault : Int32) (mod_suits : Int32) (mod_doneMany : Int32) (mod_undoneMany : Int32) (mod_open : Int32) (mod_laid : Int32) (mod_isBoth : Int32) (mod_wished : Int32) (mod_bestMany : Int32) (mod_bestRow : Int32) (mod_ringDigits : Int32) (mod_traces : Int32) (mod_tape : Nat → Int32) (mod_act : Nat → Int32) (mod_with : Nat → Int32) (mod_lineMany : Nat → Int32) (mod_testEnd : Nat → Int32) (mod_lineEnd : Nat → Int32) : va_W := [((ad 41), .inr (12, [.int mod_code, .int mod_shoes, .ref (ad 42), .ref (ad 43), .ref (ad 44), .ref (ad 45), .int mod_claims, .ref (ad 46), .ref (ad 47), .ref (ad 48), .ref (ad 49), .ref (ad 50), .int mod_taped, .int mod_here, .int mod_fault, .int mod_suits, .ref (ad 51), .ref (ad 52), .ref (ad 53), .ref (ad 54), .ref (ad 55), .ref (ad 56), .ref (ad 57), .ref (ad 58), .ref (ad 59), .ref (ad 60), .ref (ad 61), .int mod_doneMany, .int mod_undoneMany, .ref (ad 62), .ref (ad 63), .ref (ad 64), .ref (ad 65), .int mod_open, .int mod_laid, .ref (ad 66), .ref (ad 67), .ref (ad 68), .ref (ad 69), .ref (ad 70), .ref (ad 71), .ref (ad 72), .ref (ad 73), .ref (ad 74), .ref (ad 75), .int mod_isBoth, .int mod_wished, .ref (ad 76), .ref (ad 77), .int mod_bestMany, .int mod_bestRow, .ref (ad 78), .ref (ad 79), .int mod_ringDigits, .int mod_traces, .ref (ad 80), .ref (ad 81), .ref (ad 82), .ref (ad 83), .ref (ad 84)])), ((ad 50), .inl (cs 2, 120, .inl mod_tape)), ((ad 66), .inl (cs 2, 4290, .inl mod_act)), ((ad 67), .inl (cs 0, 4290, .inl mod_with)), ((ad 68), .inl (cs 0, 33, .inl mod_lineMany)), ((ad 69), .inl (cs 3, 2013, .inl mod_testEnd)), ((ad 70), .inl (cs 3, 2013, .inl mod_lineEnd))]
def Q_X12_line (D : va_G) (cs : Nat → ClassId) (ad : Nat → Nat)  (mod_code : Int32) (mod_shoes : Int32) (mod_claims : Int32) (mod_taped : Int32) (mod_suits : Int32) (mod_doneMany : Int32) (mod_undoneMany : Int32) (mod_isBoth : Int32) (mod_wished : Int32) (mod_bestMany : Int32) (mod_bestRow : Int32) (mod_ringDigits : Int32) (mod_traces : Int32) (mod_tape : Nat → Int32) (A : Nat → Prop) (R : Int32 × Int32 × Int32 × Int32 × (Nat → Int32) × (Nat → Int32) × (Nat → Int32) × (Nat → Int32) × (Nat → Int32)) : Array Value → State → Outcome → State → Prop :=
  va_Qv (fun u : Int32 × Int32 × Int32 × Int32 × (Nat → Int32) × (Nat → Int32) × (Nat → Int32) × (Nat → Int32) × (Nat → Int32) => u = R) (fun (u : Int32 × Int32 × Int32 × Int32 × (Nat → Int32) × (Nat → Int32) × (Nat → Int32) × (Nat → Int32) × (Nat → Int32)) (t : State) => va_P D classes (wl_X12_line ad cs mod_code mod_shoes mod_claims mod_taped u.1 u.2.1 mod_suits mod_doneMany mod_undoneMany u.2.2.1 u.2.2.2.1 mod_isBoth mod_wished mod_bestMany mod_bestRow mod_ringDigits mod_traces mod_tape u.2.2.2.2.1 u.2.2.2.2.2.1 u.2.2.2.2.2.2.1 u.2.2.2.2.2.2.2.1 u.2.2.2.2.2.2.2.2) t.heap ∧ va_D A (wl_X12_line ad cs mod_code mod_shoes mod_claims mod_taped u.1 u.2.1 mod_suits mod_doneMany mod_undoneMany u.2.2.1 u.2.2.2.1 mod_isBoth mod_wished mod_bestMany mod_bestRow mod_ringDigits mod_traces mod_tape u.2.2.2.2.1 u.2.2.2.2.2.1 u.2.2.2.2.2.2.1 u.2.2.2.2.2.2.2.1 u.2.2.2.2.2.2.2.2)) A
abbrev rm_X12_line : Room := { frames := 121, cells := 0, slots := 0, locals := 2660 }
def B_X12_line_68    (mod_code : Int32) (mod_shoes : Int32) (mod_claims : Int32) (mod_taped : Int32) (mod_suits : Int32) (mod_doneMany : Int32) (mod_undoneMany : Int32) (mod_isBoth : Int32) (mod_wished : Int32) (mod_bestMany : Int32) (mod_bestRow : Int32) (mod_ringDigits : Int32) (mod_traces : Int32) (mod_tape : Nat → Int32) (x1 : Int32) (mod_here : Int32) (mod_fault : Int32) (mod_open : Int32) (mod_laid : Int32) (mod_act : Nat → Int32) (mod_with : Nat → Int32) (mod_lineMany : Nat → Int32) (mod_testEnd : Nat → Int32) (mod_lineEnd : Nat → Int32) : Option (Int32 × Int32 × Int32 × Int32 × (Nat → Int32) × (Nat → Int32) × (Nat → Int32) × (Nat → Int32) × (Nat → Int32)) :=
  (zk_let (mod_laid.toInt16.toInt32) (fun v_28 => (if (x1 < 0 ∨ 2013 ≤ x1.toNatClampNeg) then none else (zk_let (upd mod_lineEnd x1.toNatClampNeg (vp_nar .short v_28)) (fun f_30 => (zk_let ((mod_lineMany (32 : Int32).toNatClampNeg) + (1 : Int32)) (fun v_31 => (zk_let (upd mod_lineMany (32 : Int32).toNatClampNeg v_31) (fun f_32 => (some (mod_here, mod_fault, mod_open, mod_laid, mod_act, mod_with, f_32, mod_testEnd, f_30)))))))))))
def B_X12_line_0    (mod_code : Int32) (mod_shoes : Int32) (mod_claims : Int32) (mod_taped : Int32) (mod_suits : Int32) (mod_doneMany : Int32) (mod_undoneMany : Int32) (mod_isBoth : Int32) (mod_wished : Int32) (mod_bestMany : Int32) (mod_bestRow : Int32) (mod_ringDigits : Int32) (mod_traces : Int32) (mod_tape : Nat → Int32) (mod_here : Int32) (mod_fault : Int32) (mod_open : Int32) (mod_laid : Int32) (mod_act : Nat → Int32) (mod_with : Nat → Int32) (mod_lineMany : Nat → Int32) (mod_testEnd : Nat → Int32) (mod_lineEnd : Nat → Int32) : Option (Int32 × Int32 × Int32 × Int32 × (Nat → Int32) × (Nat → Int32) × (Nat → Int32) × (Nat → Int32) × (Nat → Int32)) :=
  (zk_let ((1952 : Int32) + (mod_lineMany (32 : Int32).toNatClampNeg)) (fun v_1 => (zk_let (mod_laid.toInt16.toInt32) (fun v_2 => (if (v_1 < 0 ∨ 2013 ≤ v_1.toNatClampNeg) then none else (zk_let (upd mod_testEnd v_1.toNatClampNeg (vp_nar .short v_2)) (fun f_4 => (zk_b6 ((grp_grp43 60).2.2.1 mod_code mod_shoes mod_claims mod_taped mod_here mod_fault mod_suits mod_doneMany mod_undoneMany mod_open mod_laid mod_isBoth mod_wished mod_bestMany mod_bestRow mod_ringDigits mod_traces mod_tape mod_act mod_with) (fun u_5 u_6 u_7 u_8 u_9 u_10 => (if 0 ≤ u_6 then (B_X12_line_68 mod_code mod_shoes mod_claims mod_taped mod_suits mod_doneMany mod_undoneMany mod_isBoth mod_wished mod_bestMany mod_bestRow mod_ringDigits mod_traces mod_tape v_1 u_5 u_6 u_7 u_8 u_9 u_10 mod_lineMany f_4 mod_lineEnd) else (zk_b2 (f_X12_look mod_code mod_shoes mod_claims mod_taped u_5 u_6 mod_suits mod_doneMany mod_undoneMany u_7 u_8 mod_isBoth mod_wished mod_bestMany mod_bestRow mod_ringDigits mod_traces mod_tape) (fun r_13 u_14 => (if r_13 = (63 : Int32) then (zk_let (u_5 + (1 : Int32)) (fun v_17 => (zk_let (u_8.toInt16.toInt32) (fun v_18 => (if (v_1 < 0 ∨ 2013 ≤ v_1.toNatClampNeg) then none else (zk_let (upd f_4 v_1.toNatClampNeg (vp_nar .short v_18)) (fun f_20 => (zk_b6 ((grp_grp43 60).2.2.1 mod_code mod_shoes mod_claims mod_taped v_17 u_6 mod_suits mod_doneMany mod_undoneMany u_7 u_8 mod_isBoth mod_wished mod_bestMany mod_bestRow mod_ringDigits mod_traces mod_tape u_9 u_10) (fun u_21 u_22 u_23 u_24 u_25 u_26 => (B_X12_line_68 mod_code mod_shoes mod_claims mod_taped mod_suits mod_doneMany mod_undoneMany mod_isBoth mod_wished mod_bestMany mod_bestRow mod_ringDigits mod_traces mod_tape v_1 u_21 u_22 u_23 u_24 u_25 u_26 mod_lineMany f_20 mod_lineEnd)))))))))) else (B_X12_line_68 mod_code mod_shoes mod_claims mod_taped mod_suits mod_doneMany mod_undoneMany mod_isBoth mod_wished mod_bestMany mod_bestRow mod_ringDigits mod_traces mod_tape v_1 u_5 u_6 u_7 u_8 u_9 u_10 mod_lineMany f_4 mod_lineEnd))))))))))))))
def f_X12_line    (mod_code : Int32) (mod_shoes : Int32) (mod_claims : Int32) (mod_taped : Int32) (mod_here : Int32) (mod_fault : Int32) (mod_suits : Int32) (mod_doneMany : Int32) (mod_undoneMany : Int32) (mod_open : Int32) (mod_laid : Int32) (mod_isBoth : Int32) (mod_wished : Int32) (mod_bestMany : Int32) (mod_bestRow : Int32) (mod_ringDigits : Int32) (mod_traces : Int32) (mod_tape : Nat → Int32) (mod_act : Nat → Int32) (mod_with : Nat → Int32) (mod_lineMany : Nat → Int32) (mod_testEnd : Nat → Int32) (mod_lineEnd : Nat → Int32) : Option (Int32 × Int32 × Int32 × Int32 × (Nat → Int32) × (Nat → Int32) × (Nat → Int32) × (Nat → Int32) × (Nat → Int32)) := B_X12_line_0   mod_code mod_shoes mod_claims mod_taped mod_suits mod_doneMany mod_undoneMany mod_isBoth mod_wished mod_bestMany mod_bestRow mod_ringDigits mod_traces mod_tape  mod_here mod_fault mod_open mod_laid mod_act mod_with mod_lineMany mod_testEnd mod_lineEnd
set_option maxHeartbeats 4000000 in
set_option maxRecDepth 100000 in
theorem L_X12_line_68 {p : Program} {l : Launch} {e : Env} {s : State} {m : MethodId} {args : Array Value} {below : List Frame} {meth : Method} {c : Code} {A : Nat → Prop} {D : va_G} {cs : Nat → ClassId} {ad : Nat → Nat} {mod_code : Int32} {mod_shoes : Int32} {mod_claims : Int32} {mod_taped : Int32} {mod_suits : Int32} {mod_doneMany : Int32} {mod_undoneMany : Int32} {mod_isBoth : Int32} {mod_wished : Int32} {mod_bestMany : Int32} {mod_bestRow : Int32} {mod_ringDigits : Int32} {mod_traces : Int32} {mod_tape : Nat → Int32} {R : Int32 × Int32 × Int32 × Int32 × (Nat → Int32) × (Nat → Int32) × (Nat → Int32) × (Nat → Int32) × (Nat → Int32)} (C0 : zC p s m args meth c cX12_line 2 none RX12 zW) (hK : va_K D classes (zT cs) s) (hA : ∀ q : Nat, s.heap.size ≤ q → A q) (x1 : Int32) (mod_here : Int32) (mod_fault : Int32) (mod_open : Int32) (mod_laid : Int32) (mod_act : Nat → Int32) (mod_with : Nat → Int32) (mod_lineMany : Nat → Int32) (mod_testEnd : Nat → Int32) (mod_lineEnd : Nat → Int32) (h : B_X12_line_68 mod_code mod_shoes mod_claims mod_taped mod_suits mod_doneMany mod_undoneMany mod_isBoth mod_wished mod_bestMany mod_bestRow mod_ringDigits mod_traces mod_tape x1 mod_here mod_fault mod_open mod_laid mod_act mod_with mod_lineMany mod_testEnd mod_lineEnd = some R) (H : Heap) (locs : List Loc) (ls : Array Slot) (hP : va_P D classes (wl_X12_line ad cs mod_code mod_shoes mod_claims mod_taped mod_here mod_fault mod_suits mod_doneMany mod_undoneMany mod_open mod_laid mod_isBoth mod_wished mod_bestMany mod_bestRow mod_ringDigits mod_traces mod_tape mod_act mod_with mod_lineMany mod_testEnd mod_lineEnd) H) (hD : va_D A (wl_X12_line ad cs mod_code mod_shoes mod_claims mod_taped mod_here mod_fault mod_suits mod_doneMany mod_undoneMany mod_open mod_laid mod_isBoth mod_wished mod_bestMany mod_bestRow mod_ringDigits mod_traces mod_tape mod_act mod_with mod_lineMany mod_testEnd mod_lineEnd)) (hS : va_S A s.heap H locs) (hl : lv_has ls 2 [(0, .ref (ad 41)), (1, .int x1)]) : W p l e rm_X12_line s m args below meth c H locs 0 0 (MQ below (Q_X12_line D cs ad mod_code mod_shoes mod_claims mod_taped mod_suits mod_doneMany mod_undoneMany mod_isBoth mod_wished mod_bestMany mod_bestRow mod_ringDigits mod_traces mod_tape A R) args s 0 0 A) (F0 m 68 ls []) := by
  obtain ⟨hx, hb, hr, hml, hown, ht, hlocks⟩ := id C0
  refine lv_aload_n hx hb dX12_line_68 rfl (lv_at hl 0 rfl) ?_
  refine va_get (D := D) (ci := 12) (v := .ref (ad 70)) (C := RX12) (T := TX12) (N := 60) hx hb ht iX12 hown hK hP 0 rfl rfl 39 (by decide) (ht _ kw_1334) (fun _ h9 => h9) rfl dX12_line_69 ?_
  refine lv_iload_n hx hb dX12_line_72 rfl (lv_at hl 1 rfl) ?_
  refine lv_aload_n hx hb dX12_line_73 rfl (lv_at hl 0 rfl) ?_
  refine va_get (D := D) (ci := 12) (v := .int mod_laid) (C := RX12) (T := TX12) (N := 60) hx hb ht iX12 hown hK hP 0 rfl rfl 34 (by decide) (ht _ kw_1329) (fun _ h9 => h9) rfl dX12_line_74 ?_
  refine lv_i2s (v := mod_laid.toInt16.toInt32) hx hb dX12_line_77 rfl ?_
  obtain ⟨v_28, ev_28, h⟩ := zk_lt h
  refine W.eq (g2 := F0 m 78 ls [.int v_28, .int x1, .ref (ad 70)]) (by rw [ev_28]) ?_
  obtain ⟨g_29, h⟩ := zk_gd h
  obtain ⟨f_30, ef_30, h⟩ := zk_lt h
  refine va_sast hx hb hK hP hD hS 6 3 rfl rfl g_29 dX12_line_78 (fun H locs hP hD hS => ?_)
  have hP : va_P D classes (wl_X12_line ad cs mod_code mod_shoes mod_claims mod_taped mod_here mod_fault mod_suits mod_doneMany mod_undoneMany mod_open mod_laid mod_isBoth mod_wished mod_bestMany mod_bestRow mod_ringDigits mod_traces mod_tape mod_act mod_with mod_lineMany mod_testEnd f_30) H := by rw [ef_30]; exact hP
  have hD : va_D A (wl_X12_line ad cs mod_code mod_shoes mod_claims mod_taped mod_here mod_fault mod_suits mod_doneMany mod_undoneMany mod_open mod_laid mod_isBoth mod_wished mod_bestMany mod_bestRow mod_ringDigits mod_traces mod_tape mod_act mod_with mod_lineMany mod_testEnd f_30) := by rw [ef_30]; exact hD
  refine lv_aload_n hx hb dX12_line_79 rfl (lv_at hl 0 rfl) ?_
  refine va_get (D := D) (ci := 12) (v := .ref (ad 68)) (C := RX12) (T := TX12) (N := 60) hx hb ht iX12 hown hK hP 0 rfl rfl 37 (by decide) (ht _ kw_1332) (fun _ h9 => h9) rfl dX12_line_80 ?_
  refine lv_bipush (v := (32 : Int32)) hx hb dX12_line_83 (by decide) ?_
  refine lv_dup2_11 hx hb dX12_line_85 rfl rfl ?_
  refine va_iald hx hb hK hP 4 0 rfl rfl (by unfold vp_in; decide) dX12_line_86 ?_
  refine lv_iconst (v := (1 : Int32)) hx hb dX12_line_87 (by decide) ?_
  refine lv_iadd hx hb dX12_line_88 ?_
  obtain ⟨v_31, ev_31, h⟩ := zk_lt h
  refine W.eq (g2 := F0 m 89 ls [.int v_31, .int (32 : Int32), .ref (ad 68)]) (by rw [ev_31]) ?_
  obtain ⟨f_32, ef_32, h⟩ := zk_lt h
  refine va_iast hx hb hK hP hD hS 4 0 rfl rfl (by unfold vp_in; decide) dX12_line_89 (fun H locs hP hD hS => ?_)
  have hP : va_P D classes (wl_X12_line ad cs mod_code mod_shoes mod_claims mod_taped mod_here mod_fault mod_suits mod_doneMany mod_undoneMany mod_open mod_laid mod_isBoth mod_wished mod_bestMany mod_bestRow mod_ringDigits mod_traces mod_tape mod_act mod_with f_32 mod_testEnd f_30) H := by rw [ef_32]; exact hP
  have hD : va_D A (wl_X12_line ad cs mod_code mod_shoes mod_claims mod_taped mod_here mod_fault mod_suits mod_doneMany mod_undoneMany mod_open mod_laid mod_isBoth mod_wished mod_bestMany mod_bestRow mod_ringDigits mod_traces mod_tape mod_act mod_with f_32 mod_testEnd f_30) := by rw [ef_32]; exact hD
  exact W.vret hx hb hr (fun t ht2 hW => ⟨⟨(mod_here, mod_fault, mod_open, mod_laid, mod_act, mod_with, f_32, mod_testEnd, f_30), rfl, Option.some.inj h, by rw [ht2]; exact hP, hD⟩, hS.F ht2⟩) hS.2.2 dX12_line_90 hlocks
set_option maxHeartbeats 4000000 in
set_option maxRecDepth 100000 in
theorem L_X12_line_0 {p : Program} {l : Launch} {e : Env} {s : State} {m : MethodId} {args : Array Value} {below : List Frame} {meth : Method} {c : Code} {A : Nat → Prop} {D : va_G} {cs : Nat → ClassId} {ad : Nat → Nat} {mod_code : Int32} {mod_shoes : Int32} {mod_claims : Int32} {mod_taped : Int32} {mod_suits : Int32} {mod_doneMany : Int32} {mod_undoneMany : Int32} {mod_isBoth : Int32} {mod_wished : Int32} {mod_bestMany : Int32} {mod_bestRow : Int32} {mod_ringDigits : Int32} {mod_traces : Int32} {mod_tape : Nat → Int32} {R : Int32 × Int32 × Int32 × Int32 × (Nat → Int32) × (Nat → Int32) × (Nat → Int32) × (Nat → Int32) × (Nat → Int32)} (C0 : zC p s m args meth c cX12_line 2 none RX12 zW) (hK : va_K D classes (zT cs) s) (hA : ∀ q : Nat, s.heap.size ≤ q → A q) (mod_here : Int32) (mod_fault : Int32) (mod_open : Int32) (mod_laid : Int32) (mod_act : Nat → Int32) (mod_with : Nat → Int32) (mod_lineMany : Nat → Int32) (mod_testEnd : Nat → Int32) (mod_lineEnd : Nat → Int32) (h : B_X12_line_0 mod_code mod_shoes mod_claims mod_taped mod_suits mod_doneMany mod_undoneMany mod_isBoth mod_wished mod_bestMany mod_bestRow mod_ringDigits mod_traces mod_tape mod_here mod_fault mod_open mod_laid mod_act mod_with mod_lineMany mod_testEnd mod_lineEnd = some R) (H : Heap) (locs : List Loc) (ls : Array Slot) (hP : va_P D classes (wl_X12_line ad cs mod_code mod_shoes mod_claims mod_taped mod_here mod_fault mod_suits mod_doneMany mod_undoneMany mod_open mod_laid mod_isBoth mod_wished mod_bestMany mod_bestRow mod_ringDigits mod_traces mod_tape mod_act mod_with mod_lineMany mod_testEnd mod_lineEnd) H) (hD : va_D A (wl_X12_line ad cs mod_code mod_shoes mod_claims mod_taped mod_here mod_fault mod_suits mod_doneMany mod_undoneMany mod_open mod_laid mod_isBoth mod_wished mod_bestMany mod_bestRow mod_ringDigits mod_traces mod_tape mod_act mod_with mod_lineMany mod_testEnd mod_lineEnd)) (hS : va_S A s.heap H locs) (hl : lv_has ls 2 [(0, .ref (ad 41))]) : W p l e rm_X12_line s m args below meth c H locs 0 0 (MQ below (Q_X12_line D cs ad mod_code mod_shoes mod_claims mod_taped mod_suits mod_doneMany mod_undoneMany mod_isBoth mod_wished mod_bestMany mod_bestRow mod_ringDigits mod_traces mod_tape A R) args s 0 0 A) (F0 m 0 ls []) := by
  obtain ⟨hx, hb, hr, hml, hown, ht, hlocks⟩ := id C0
  refine lv_sipush (v := (1952 : Int32)) hx hb dX12_line_0 (by decide) ?_
  refine lv_aload_n hx hb dX12_line_3 rfl (lv_at hl 0 rfl) ?_
  refine va_get (D := D) (ci := 12) (v := .ref (ad 68)) (C := RX12) (T := TX12) (N := 60) hx hb ht iX12 hown hK hP 0 rfl rfl 37 (by decide) (ht _ kw_1332) (fun _ h9 => h9) rfl dX12_line_4 ?_
  refine lv_bipush (v := (32 : Int32)) hx hb dX12_line_7 (by decide) ?_
  refine va_iald hx hb hK hP 4 0 rfl rfl (by unfold vp_in; decide) dX12_line_9 ?_
  refine lv_iadd hx hb dX12_line_10 ?_
  obtain ⟨v_1, ev_1, h⟩ := zk_lt h
  refine W.eq (g2 := F0 m 11 ls [.int v_1]) (by rw [ev_1]) ?_
  refine lv_istore_n (lv' := [(1, .int v_1), (0, .ref (ad 41))]) hx hb dX12_line_11 rfl hl (by decide) rfl (fun ls hl => ?_)
  refine lv_aload_n hx hb dX12_line_12 rfl (lv_at hl 1 rfl) ?_
  refine va_get (D := D) (ci := 12) (v := .ref (ad 69)) (C := RX12) (T := TX12) (N := 60) hx hb ht iX12 hown hK hP 0 rfl rfl 38 (by decide) (ht _ kw_1333) (fun _ h9 => h9) rfl dX12_line_13 ?_
  refine lv_iload_n hx hb dX12_line_16 rfl (lv_at hl 0 rfl) ?_
  refine lv_aload_n hx hb dX12_line_17 rfl (lv_at hl 1 rfl) ?_
  refine va_get (D := D) (ci := 12) (v := .int mod_laid) (C := RX12) (T := TX12) (N := 60) hx hb ht iX12 hown hK hP 0 rfl rfl 34 (by decide) (ht _ kw_1329) (fun _ h9 => h9) rfl dX12_line_18 ?_
  refine lv_i2s (v := mod_laid.toInt16.toInt32) hx hb dX12_line_21 rfl ?_
  obtain ⟨v_2, ev_2, h⟩ := zk_lt h
  refine W.eq (g2 := F0 m 22 ls [.int v_2, .int v_1, .ref (ad 69)]) (by rw [ev_2]) ?_
  obtain ⟨g_3, h⟩ := zk_gd h
  obtain ⟨f_4, ef_4, h⟩ := zk_lt h
  refine va_sast hx hb hK hP hD hS 5 3 rfl rfl g_3 dX12_line_22 (fun H locs hP hD hS => ?_)
  have hP : va_P D classes (wl_X12_line ad cs mod_code mod_shoes mod_claims mod_taped mod_here mod_fault mod_suits mod_doneMany mod_undoneMany mod_open mod_laid mod_isBoth mod_wished mod_bestMany mod_bestRow mod_ringDigits mod_traces mod_tape mod_act mod_with mod_lineMany f_4 mod_lineEnd) H := by rw [ef_4]; exact hP
  have hD : va_D A (wl_X12_line ad cs mod_code mod_shoes mod_claims mod_taped mod_here mod_fault mod_suits mod_doneMany mod_undoneMany mod_open mod_laid mod_isBoth mod_wished mod_bestMany mod_bestRow mod_ringDigits mod_traces mod_tape mod_act mod_with mod_lineMany f_4 mod_lineEnd) := by rw [ef_4]; exact hD
  refine lv_aload_n hx hb dX12_line_23 rfl (lv_at hl 1 rfl) ?_
  obtain ⟨u_5, u_6, u_7, u_8, u_9, u_10, hc_11, h⟩ := zk_o6 h
  refine zz_vv (post := (fun u => u = (u_5, u_6, u_7, u_8, u_9, u_10))) (w1 := fun u => (wl_X12_either ad cs mod_code mod_shoes mod_claims mod_taped u.1 u.2.1 mod_suits mod_doneMany mod_undoneMany u.2.2.1 u.2.2.2.1 mod_isBoth mod_wished mod_bestMany mod_bestRow mod_ringDigits mod_traces mod_tape u.2.2.2.2.1 u.2.2.2.2.2)) (As := []) (rest := []) (((cg_grp43 l 60).2.2.1) D cs ad  H.size mod_code mod_shoes mod_claims mod_taped mod_here mod_fault mod_suits mod_doneMany mod_undoneMany mod_open mod_laid mod_isBoth mod_wished mod_bestMany mod_bestRow mod_ringDigits mod_traces mod_tape mod_act mod_with (u_5, u_6, u_7, u_8, u_9, u_10) hc_11) ⟨hx, hb, hml, hown, ht⟩ (cwV 0 ht g_X12_275 rfl rfl rfl ⟨rfl, hd_X12_either⟩ ⟨Nat.le_of_ble_eq_true rfl, Nat.le_of_ble_eq_true rfl⟩) (va_recv hK hP (ci := 12) (q0 := 0) rfl rfl) hP hD hS hK hA [0, 1, 2, 3] rfl rfl [(ad 41), (ad 50), (ad 66), (ad 67)] rfl (fun _ => rfl) rfl hl.1 (Nat.le_of_ble_eq_true rfl) dX12_line_24 ⟨Nat.zero_le _, Nat.zero_le _⟩ (fun u H locs hq hP hS => ?_)
  cases hq
  have hP : va_P D classes (wl_X12_line ad cs mod_code mod_shoes mod_claims mod_taped u_5 u_6 mod_suits mod_doneMany mod_undoneMany u_7 u_8 mod_isBoth mod_wished mod_bestMany mod_bestRow mod_ringDigits mod_traces mod_tape u_9 u_10 mod_lineMany f_4 mod_lineEnd) H := hP
  have hD : va_D A (wl_X12_line ad cs mod_code mod_shoes mod_claims mod_taped u_5 u_6 mod_suits mod_doneMany mod_undoneMany u_7 u_8 mod_isBoth mod_wished mod_bestMany mod_bestRow mod_ringDigits mod_traces mod_tape u_9 u_10 mod_lineMany f_4 mod_lineEnd) := zDk hD [(ad 41), (ad 50), (ad 66), (ad 67), (ad 68), (ad 69), (ad 70)] rfl rfl
  refine lv_aload_n hx hb dX12_line_27 rfl (lv_at hl 1 rfl) ?_
  refine va_get (D := D) (ci := 12) (v := .int u_6) (C := RX12) (T := TX12) (N := 60) hx hb ht iX12 hown hK hP 0 rfl rfl 14 (by decide) (ht _ kw_1309) (fun _ h9 => h9) rfl dX12_line_28 ?_
  refine lv_if_ge (tgt := 68) hx hb dX12_line_31 (by decide) (fun c_12 => ?_) (fun c_12 => ?_)
  · have h := zk_t c_12 h
    exact L_X12_line_68 C0 hK hA   v_1 u_5 u_6 u_7 u_8 u_9 u_10 mod_lineMany f_4 mod_lineEnd h H locs ls hP hD hS (lv_sub hl [1, 0] rfl)
  · have h := zk_f c_12 h
    refine lv_aload_n hx hb dX12_line_34 rfl (lv_at hl 1 rfl) ?_
    obtain ⟨r_13, u_14, hc_15, h⟩ := zk_o2 h
    refine zz_vi (post := (fun r u => (r, u) = (r_13, u_14))) (w1 := fun u => (wl_X12_look ad cs mod_code mod_shoes mod_claims mod_taped u_5 u_6 mod_suits mod_doneMany mod_undoneMany u_7 u_8 mod_isBoth mod_wished mod_bestMany mod_bestRow mod_ringDigits mod_traces mod_tape)) (As := []) (rest := []) (c_X12_look l D cs ad  H.size mod_code mod_shoes mod_claims mod_taped u_5 u_6 mod_suits mod_doneMany mod_undoneMany u_7 u_8 mod_isBoth mod_wished mod_bestMany mod_bestRow mod_ringDigits mod_traces mod_tape (r_13, u_14) hc_15) ⟨hx, hb, hml, hown, ht⟩ (cwV 0 ht g_X12_194 rfl rfl rfl ⟨rfl, hd_X12_look⟩ ⟨Nat.le_of_ble_eq_true rfl, Nat.le_of_ble_eq_true rfl⟩) (va_recv hK hP (ci := 12) (q0 := 0) rfl rfl) hP hD hS hK hA [0, 1] rfl rfl [(ad 41), (ad 50)] rfl (fun _ => rfl) rfl hl.1 (Nat.le_of_ble_eq_true rfl) dX12_line_35 ⟨Nat.zero_le _, Nat.zero_le _⟩ (fun r u H locs hq hP hS => ?_)
    cases hq
    have hP : va_P D classes (wl_X12_line ad cs mod_code mod_shoes mod_claims mod_taped u_5 u_6 mod_suits mod_doneMany mod_undoneMany u_7 u_8 mod_isBoth mod_wished mod_bestMany mod_bestRow mod_ringDigits mod_traces mod_tape u_9 u_10 mod_lineMany f_4 mod_lineEnd) H := hP
    have hD : va_D A (wl_X12_line ad cs mod_code mod_shoes mod_claims mod_taped u_5 u_6 mod_suits mod_doneMany mod_undoneMany u_7 u_8 mod_isBoth mod_wished mod_bestMany mod_bestRow mod_ringDigits mod_traces mod_tape u_9 u_10 mod_lineMany f_4 mod_lineEnd) := zDk hD [(ad 41), (ad 50), (ad 66), (ad 67), (ad 68), (ad 69), (ad 70)] rfl rfl
    refine lv_bipush (v := (63 : Int32)) hx hb dX12_line_38 (by decide) ?_
    refine lv_icmp_ne (tgt := 68) hx hb dX12_line_40 (by decide) (fun c_16 => ?_) (fun c_16 => ?_)
    · have h := zk_f c_16 h
      exact L_X12_line_68 C0 hK hA   v_1 u_5 u_6 u_7 u_8 u_9 u_10 mod_lineMany f_4 mod_lineEnd h H locs ls hP hD hS (lv_sub hl [1, 0] rfl)
    · have h := zk_t c_16 h
      refine lv_aload_n hx hb dX12_line_43 rfl (lv_at hl 1 rfl) ?_
      refine lv_dup hx hb dX12_line_44 rfl ?_
      refine va_get (D := D) (ci := 12) (v := .int u_5) (C := RX12) (T := TX12) (N := 60) hx hb ht iX12 hown hK hP 0 rfl rfl 13 (by decide) (ht _ kw_1308) (fun _ h9 => h9) rfl dX12_line_45 ?_
      refine lv_iconst (v := (1 : Int32)) hx hb dX12_line_48 (by decide) ?_
      refine lv_iadd hx hb dX12_line_49 ?_
      obtain ⟨v_17, ev_17, h⟩ := zk_lt h
      refine W.eq (g2 := F0 m 50 ls [.int v_17, .ref (ad 41)]) (by rw [ev_17]) ?_
      refine va_put (D := D) (ci := 12) (v := .int v_17) (ty := .int) (C := RX12) (T := TX12) (N := 60) hx hb ht iX12 tyX12 tyX12_ok nmX12 hown hK hP hD hS 0 rfl rfl 13 (by decide) (ht _ kw_1308) (fun _ h9 => h9) rfl (by decide +kernel) rfl rfl (Nat.le_of_ble_eq_true rfl) dX12_line_50 (fun H locs hP hD hS => ?_)
      have hP : va_P D classes (wl_X12_line ad cs mod_code mod_shoes mod_claims mod_taped v_17 u_6 mod_suits mod_doneMany mod_undoneMany u_7 u_8 mod_isBoth mod_wished mod_bestMany mod_bestRow mod_ringDigits mod_traces mod_tape u_9 u_10 mod_lineMany f_4 mod_lineEnd) H := hP
      have hD : va_D A (wl_X12_line ad cs mod_code mod_shoes mod_claims mod_taped v_17 u_6 mod_suits mod_doneMany mod_undoneMany u_7 u_8 mod_isBoth mod_wished mod_bestMany mod_bestRow mod_ringDigits mod_traces mod_tape u_9 u_10 mod_lineMany f_4 mod_lineEnd) := hD
      refine lv_aload_n hx hb dX12_line_53 rfl (lv_at hl 1 rfl) ?_
      refine va_get (D := D) (ci := 12) (v := .ref (ad 69)) (C := RX12) (T := TX12) (N := 60) hx hb ht iX12 hown hK hP 0 rfl rfl 38 (by decide) (ht _ kw_1333) (fun _ h9 => h9) rfl dX12_line_54 ?_
      refine lv_iload_n hx hb dX12_line_57 rfl (lv_at hl 0 rfl) ?_
      refine lv_aload_n hx hb dX12_line_58 rfl (lv_at hl 1 rfl) ?_
      refine va_get (D := D) (ci := 12) (v := .int u_8) (C := RX12) (T := TX12) (N := 60) hx hb ht iX12 hown hK hP 0 rfl rfl 34 (by decide) (ht _ kw_1329) (fun _ h9 => h9) rfl dX12_line_59 ?_
      refine lv_i2s (v := u_8.toInt16.toInt32) hx hb dX12_line_62 rfl ?_
      obtain ⟨v_18, ev_18, h⟩ := zk_lt h
      refine W.eq (g2 := F0 m 63 ls [.int v_18, .int v_1, .ref (ad 69)]) (by rw [ev_18]) ?_
      obtain ⟨g_19, h⟩ := zk_gd h
      obtain ⟨f_20, ef_20, h⟩ := zk_lt h
      refine va_sast hx hb hK hP hD hS 5 3 rfl rfl g_19 dX12_line_63 (fun H locs hP hD hS => ?_)
      have hP : va_P D classes (wl_X12_line ad cs mod_code mod_shoes mod_claims mod_taped v_17 u_6 mod_suits mod_doneMany mod_undoneMany u_7 u_8 mod_isBoth mod_wished mod_bestMany mod_bestRow mod_ringDigits mod_traces mod_tape u_9 u_10 mod_lineMany f_20 mod_lineEnd) H := by rw [ef_20]; exact hP
      have hD : va_D A (wl_X12_line ad cs mod_code mod_shoes mod_claims mod_taped v_17 u_6 mod_suits mod_doneMany mod_undoneMany u_7 u_8 mod_isBoth mod_wished mod_bestMany mod_bestRow mod_ringDigits mod_traces mod_tape u_9 u_10 mod_lineMany f_20 mod_lineEnd) := by rw [ef_20]; exact hD
      refine lv_aload_n hx hb dX12_line_64 rfl (lv_at hl 1 rfl) ?_
      obtain ⟨u_21, u_22, u_23, u_24, u_25, u_26, hc_27, h⟩ := zk_o6 h
      refine zz_vv (post := (fun u => u = (u_21, u_22, u_23, u_24, u_25, u_26))) (w1 := fun u => (wl_X12_either ad cs mod_code mod_shoes mod_claims mod_taped u.1 u.2.1 mod_suits mod_doneMany mod_undoneMany u.2.2.1 u.2.2.2.1 mod_isBoth mod_wished mod_bestMany mod_bestRow mod_ringDigits mod_traces mod_tape u.2.2.2.2.1 u.2.2.2.2.2)) (As := []) (rest := []) (((cg_grp43 l 60).2.2.1) D cs ad  H.size mod_code mod_shoes mod_claims mod_taped v_17 u_6 mod_suits mod_doneMany mod_undoneMany u_7 u_8 mod_isBoth mod_wished mod_bestMany mod_bestRow mod_ringDigits mod_traces mod_tape u_9 u_10 (u_21, u_22, u_23, u_24, u_25, u_26) hc_27) ⟨hx, hb, hml, hown, ht⟩ (cwV 0 ht g_X12_275 rfl rfl rfl ⟨rfl, hd_X12_either⟩ ⟨Nat.le_of_ble_eq_true rfl, Nat.le_of_ble_eq_true rfl⟩) (va_recv hK hP (ci := 12) (q0 := 0) rfl rfl) hP hD hS hK hA [0, 1, 2, 3] rfl rfl [(ad 41), (ad 50), (ad 66), (ad 67)] rfl (fun _ => rfl) rfl hl.1 (Nat.le_of_ble_eq_true rfl) dX12_line_65 ⟨Nat.zero_le _, Nat.zero_le _⟩ (fun u H locs hq hP hS => ?_)
      cases hq
      have hP : va_P D classes (wl_X12_line ad cs mod_code mod_shoes mod_claims mod_taped u_21 u_22 mod_suits mod_doneMany mod_undoneMany u_23 u_24 mod_isBoth mod_wished mod_bestMany mod_bestRow mod_ringDigits mod_traces mod_tape u_25 u_26 mod_lineMany f_20 mod_lineEnd) H := hP
      have hD : va_D A (wl_X12_line ad cs mod_code mod_shoes mod_claims mod_taped u_21 u_22 mod_suits mod_doneMany mod_undoneMany u_23 u_24 mod_isBoth mod_wished mod_bestMany mod_bestRow mod_ringDigits mod_traces mod_tape u_25 u_26 mod_lineMany f_20 mod_lineEnd) := zDk hD [(ad 41), (ad 50), (ad 66), (ad 67), (ad 68), (ad 69), (ad 70)] rfl rfl
      exact L_X12_line_68 C0 hK hA   v_1 u_21 u_22 u_23 u_24 u_25 u_26 mod_lineMany f_20 mod_lineEnd h H locs ls hP hD hS (lv_sub hl [1, 0] rfl)
set_option maxHeartbeats 4000000 in
set_option maxRecDepth 100000 in
theorem c_X12_line (l : Launch) (D : va_G) (cs : Nat → ClassId) (ad : Nat → Nat) (sz : Nat)  (mod_code : Int32) (mod_shoes : Int32) (mod_claims : Int32) (mod_taped : Int32) (mod_here : Int32) (mod_fault : Int32) (mod_suits : Int32) (mod_doneMany : Int32) (mod_undoneMany : Int32) (mod_open : Int32) (mod_laid : Int32) (mod_isBoth : Int32) (mod_wished : Int32) (mod_bestMany : Int32) (mod_bestRow : Int32) (mod_ringDigits : Int32) (mod_traces : Int32) (mod_tape : Nat → Int32) (mod_act : Nat → Int32) (mod_with : Nat → Int32) (mod_lineMany : Nat → Int32) (mod_testEnd : Nat → Int32) (mod_lineEnd : Nat → Int32) (R : Int32 × Int32 × Int32 × Int32 × (Nat → Int32) × (Nat → Int32) × (Nat → Int32) × (Nat → Int32) × (Nat → Int32)) (h : f_X12_line    mod_code mod_shoes mod_claims mod_taped mod_here mod_fault mod_suits mod_doneMany mod_undoneMany mod_open mod_laid mod_isBoth mod_wished mod_bestMany mod_bestRow mod_ringDigits mod_traces mod_tape mod_act mod_with mod_lineMany mod_testEnd mod_lineEnd = some R) : Met l yX12_line (z_X12_line) rm_X12_line (va_Pc [.ref (ad 41)] (zPre D cs (wl_X12_line ad cs mod_code mod_shoes mod_claims mod_taped mod_here mod_fault mod_suits mod_doneMany mod_undoneMany mod_open mod_laid mod_isBoth mod_wished mod_bestMany mod_bestRow mod_ringDigits mod_traces mod_tape mod_act mod_with mod_lineMany mod_testEnd mod_lineEnd) sz)) (Q_X12_line D cs ad mod_code mod_shoes mod_claims mod_taped mod_suits mod_doneMany mod_undoneMany mod_isBoth mod_wished mod_bestMany mod_bestRow mod_ringDigits mod_traces mod_tape (va_A (wl_X12_line ad cs mod_code mod_shoes mod_claims mod_taped mod_here mod_fault mod_suits mod_doneMany mod_undoneMany mod_open mod_laid mod_isBoth mod_wished mod_bestMany mod_bestRow mod_ringDigits mod_traces mod_tape mod_act mod_with mod_lineMany mod_testEnd mod_lineEnd) sz) R) 0 0 (va_A (wl_X12_line ad cs mod_code mod_shoes mod_claims mod_taped mod_here mod_fault mod_suits mod_doneMany mod_undoneMany mod_open mod_laid mod_isBoth mod_wished mod_bestMany mod_bestRow mod_ringDigits mod_traces mod_tape mod_act mod_with mod_lineMany mod_testEnd mod_lineEnd) sz) := by
  refine Met.ofW (cc := cX12_line) (maxL := 2) (ret := none) (by decide) rfl ?_
  intro p e s m args below meth c s₁ B hml hv
  obtain ⟨rfl, hsz, hP, hK, hD0⟩ := hv
  subst hsz
  have hD := hD0.self (sz := s.heap.size)
  have C0 : zC p s m _ meth c cX12_line 2 none RX12 zW := ⟨B.exec, B.bytes, B.returns, hml, findClass_of_methodNamed B.named, fun w hw => atoms_spec (ws := z_X12_line) B.pre w (List.mem_cons_of_mem _ hw), B.notSynchronized⟩
  have hA : ∀ q : Nat, s.heap.size ≤ q → va_A (wl_X12_line ad cs mod_code mod_shoes mod_claims mod_taped mod_here mod_fault mod_suits mod_doneMany mod_undoneMany mod_open mod_laid mod_isBoth mod_wished mod_bestMany mod_bestRow mod_ringDigits mod_traces mod_tape mod_act mod_with mod_lineMany mod_testEnd mod_lineEnd) s.heap.size q := fun q h => Or.inr h
  have hl := lv_entry ([.ref (ad 41)]) (n := 2) (Nat.le_of_ble_eq_true rfl)
  rw [lg_entry_eq]
  generalize (lg_sl ([.ref (ad 41)]) ++ List.replicate (2 - (lg_sl ([.ref (ad 41)])).length) Slot.unset).toArray = ls at hl ⊢
  exact L_X12_line_0 C0 hK hA    mod_here mod_fault mod_open mod_laid mod_act mod_with mod_lineMany mod_testEnd mod_lineEnd h s.heap [] ls hP hD va_S.rf hl
theorem kw_33 : Cond.selects RX12 yX12_line yX12_line ∈ zW := zwI (i := 33) (by decide +kernel) (by decide +kernel)
theorem kw_1622 : Cond.methodLink RX12 293 yX12_line ∈ zW := zwC (i := 108) zc_7 rfl rfl
theorem kw_1624 : Cond.instanceMethod yX12_line ∈ zW := zwC (i := 110) zc_7 rfl rfl
theorem kw_1625 : Cond.code yX12_line cX12_line 2 none ∈ zW := zwC (i := 111) zc_7 rfl rfl
theorem zh_cX12_law_0 : zck [27, 155, 0, 21, 27, 16, 10, 108, 6, 163, 0, 13, 27, 16, 10, 112, 184, 0, 155, 154, 0, 5] (zdu 0 cX12_law.data.toList) = true := by decide +kernel
theorem dX12_law_0 : decode cX12_law 0 = .ok (.iload_n 1, 1) := zo_27 zh_cX12_law_0 0 rfl
theorem dX12_law_1 : decode cX12_law 1 = .ok (.ifCond .lt 21, 3) := zo_p155 zh_cX12_law_0 1 21 rfl rfl
theorem dX12_law_4 : decode cX12_law 4 = .ok (.iload_n 1, 1) := zo_27 zh_cX12_law_0 4 rfl
theorem dX12_law_5 : decode cX12_law 5 = .ok (.bipush 10, 2) := zo_p16 zh_cX12_law_0 5 10 rfl rfl
theorem dX12_law_7 : decode cX12_law 7 = .ok (.idiv, 1) := zo_108 zh_cX12_law_0 7 rfl
theorem dX12_law_8 : decode cX12_law 8 = .ok (.iconst 3, 1) := zo_6 zh_cX12_law_0 8 rfl
theorem dX12_law_9 : decode cX12_law 9 = .ok (.if_icmp .gt 13, 3) := zo_p163 zh_cX12_law_0 9 13 rfl rfl
theorem dX12_law_12 : decode cX12_law 12 = .ok (.iload_n 1, 1) := zo_27 zh_cX12_law_0 12 rfl
theorem dX12_law_13 : decode cX12_law 13 = .ok (.bipush 10, 2) := zo_p16 zh_cX12_law_0 13 10 rfl rfl
theorem dX12_law_15 : decode cX12_law 15 = .ok (.irem, 1) := zo_112 zh_cX12_law_0 15 rfl
theorem dX12_law_16 : decode cX12_law 16 = .ok (.invokestatic 155, 3) := zo_184 zh_cX12_law_0 16 rfl
theorem dX12_law_19 : decode cX12_law 19 = .ok (.ifCond .ne 5, 3) := zo_p154 zh_cX12_law_0 19 5 rfl rfl
theorem zh_cX12_law_1 : zck [0, 5, 2, 172, 42, 3, 181, 0, 191, 42, 2, 181, 0, 202, 42, 3, 181, 1, 2, 42, 3, 181] (zdu 20 cX12_law.data.toList) = true := by decide +kernel
theorem dX12_law_22 : decode cX12_law 22 = .ok (.iconst (-1), 1) := zo_2 zh_cX12_law_1 2 rfl
theorem dX12_law_23 : decode cX12_law 23 = .ok (.ireturn, 1) := zo_172 zh_cX12_law_1 3 rfl
theorem dX12_law_24 : decode cX12_law 24 = .ok (.aload_n 0, 1) := zo_42 zh_cX12_law_1 4 rfl
theorem dX12_law_25 : decode cX12_law 25 = .ok (.iconst 0, 1) := zo_3 zh_cX12_law_1 5 rfl
theorem dX12_law_26 : decode cX12_law 26 = .ok (.putfield 191, 3) := zo_181 zh_cX12_law_1 6 rfl
theorem dX12_law_29 : decode cX12_law 29 = .ok (.aload_n 0, 1) := zo_42 zh_cX12_law_1 9 rfl
theorem dX12_law_30 : decode cX12_law 30 = .ok (.iconst (-1), 1) := zo_2 zh_cX12_law_1 10 rfl
theorem dX12_law_31 : decode cX12_law 31 = .ok (.putfield 202, 3) := zo_181 zh_cX12_law_1 11 rfl
theorem dX12_law_34 : decode cX12_law 34 = .ok (.aload_n 0, 1) := zo_42 zh_cX12_law_1 14 rfl
theorem dX12_law_35 : decode cX12_law 35 = .ok (.iconst 0, 1) := zo_3 zh_cX12_law_1 15 rfl
theorem dX12_law_36 : decode cX12_law 36 = .ok (.putfield 258, 3) := zo_181 zh_cX12_law_1 16 rfl
theorem dX12_law_39 : decode cX12_law 39 = .ok (.aload_n 0, 1) := zo_42 zh_cX12_law_1 19 rfl
theorem zh_cX12_law_2 : zck [3, 181, 0, 255, 42, 180, 0, 89, 16, 32, 3, 79, 42, 182, 1, 37, 42, 180, 0, 202, 156, 0] (zdu 40 cX12_law.data.toList) = true := by decide +kernel
theorem dX12_law_40 : decode cX12_law 40 = .ok (.iconst 0, 1) := zo_3 zh_cX12_law_2 0 rfl
theorem dX12_law_41 : decode cX12_law 41 = .ok (.putfield 255, 3) := zo_181 zh_cX12_law_2 1 rfl
theorem dX12_law_44 : decode cX12_law 44 = .ok (.aload_n 0, 1) := zo_42 zh_cX12_law_2 4 rfl
theorem dX12_law_45 : decode cX12_law 45 = .ok (.getfield 89, 3) := zo_180 zh_cX12_law_2 5 rfl
theorem dX12_law_48 : decode cX12_law 48 = .ok (.bipush 32, 2) := zo_p16 zh_cX12_law_2 8 32 rfl rfl
theorem dX12_law_50 : decode cX12_law 50 = .ok (.iconst 0, 1) := zo_3 zh_cX12_law_2 10 rfl
theorem dX12_law_51 : decode cX12_law 51 = .ok (.iastore, 1) := zo_79 zh_cX12_law_2 11 rfl
theorem dX12_law_52 : decode cX12_law 52 = .ok (.aload_n 0, 1) := zo_42 zh_cX12_law_2 12 rfl
theorem dX12_law_53 : decode cX12_law 53 = .ok (.invokevirtual 293, 3) := zo_182 zh_cX12_law_2 13 rfl
theorem dX12_law_56 : decode cX12_law 56 = .ok (.aload_n 0, 1) := zo_42 zh_cX12_law_2 16 rfl
theorem dX12_law_57 : decode cX12_law 57 = .ok (.getfield 202, 3) := zo_180 zh_cX12_law_2 17 rfl
theorem zh_cX12_law_3 : zck [156, 0, 29, 42, 182, 0, 194, 16, 59, 160, 0, 20, 42, 89, 180, 0, 191, 4, 96, 181, 0, 191] (zdu 60 cX12_law.data.toList) = true := by decide +kernel
theorem dX12_law_60 : decode cX12_law 60 = .ok (.ifCond .ge 29, 3) := zo_p156 zh_cX12_law_3 0 29 rfl rfl
theorem dX12_law_63 : decode cX12_law 63 = .ok (.aload_n 0, 1) := zo_42 zh_cX12_law_3 3 rfl
theorem dX12_law_64 : decode cX12_law 64 = .ok (.invokevirtual 194, 3) := zo_182 zh_cX12_law_3 4 rfl
theorem dX12_law_67 : decode cX12_law 67 = .ok (.bipush 59, 2) := zo_p16 zh_cX12_law_3 7 59 rfl rfl
theorem dX12_law_69 : decode cX12_law 69 = .ok (.if_icmp .ne 20, 3) := zo_p160 zh_cX12_law_3 9 20 rfl rfl
theorem dX12_law_72 : decode cX12_law 72 = .ok (.aload_n 0, 1) := zo_42 zh_cX12_law_3 12 rfl
theorem dX12_law_73 : decode cX12_law 73 = .ok (.dup, 1) := zo_89 zh_cX12_law_3 13 rfl
theorem dX12_law_74 : decode cX12_law 74 = .ok (.getfield 191, 3) := zo_180 zh_cX12_law_3 14 rfl
theorem dX12_law_77 : decode cX12_law 77 = .ok (.iconst 1, 1) := zo_4 zh_cX12_law_3 17 rfl
theorem dX12_law_78 : decode cX12_law 78 = .ok (.iadd, 1) := zo_96 zh_cX12_law_3 18 rfl
theorem dX12_law_79 : decode cX12_law 79 = .ok (.putfield 191, 3) := zo_181 zh_cX12_law_3 19 rfl
theorem zh_cX12_law_4 : zck [0, 191, 42, 182, 1, 37, 167, 255, 226, 42, 180, 0, 202, 156, 0, 18, 42, 180, 0, 191, 42, 180] (zdu 80 cX12_law.data.toList) = true := by decide +kernel
theorem dX12_law_82 : decode cX12_law 82 = .ok (.aload_n 0, 1) := zo_42 zh_cX12_law_4 2 rfl
theorem dX12_law_83 : decode cX12_law 83 = .ok (.invokevirtual 293, 3) := zo_182 zh_cX12_law_4 3 rfl
theorem dX12_law_86 : decode cX12_law 86 = .ok (.goto (-30), 3) := zo_n167 zh_cX12_law_4 6 29 rfl rfl
theorem dX12_law_89 : decode cX12_law 89 = .ok (.aload_n 0, 1) := zo_42 zh_cX12_law_4 9 rfl
theorem dX12_law_90 : decode cX12_law 90 = .ok (.getfield 202, 3) := zo_180 zh_cX12_law_4 10 rfl
theorem dX12_law_93 : decode cX12_law 93 = .ok (.ifCond .ge 18, 3) := zo_p156 zh_cX12_law_4 13 18 rfl rfl
theorem dX12_law_96 : decode cX12_law 96 = .ok (.aload_n 0, 1) := zo_42 zh_cX12_law_4 16 rfl
theorem dX12_law_97 : decode cX12_law 97 = .ok (.getfield 191, 3) := zo_180 zh_cX12_law_4 17 rfl
theorem zh_cX12_law_5 : zck [42, 180, 0, 185, 162, 0, 7, 42, 182, 0, 205, 42, 3, 181, 0, 185, 42, 180, 0, 202, 155, 0] (zdu 100 cX12_law.data.toList) = true := by decide +kernel
theorem dX12_law_100 : decode cX12_law 100 = .ok (.aload_n 0, 1) := zo_42 zh_cX12_law_5 0 rfl
theorem dX12_law_101 : decode cX12_law 101 = .ok (.getfield 185, 3) := zo_180 zh_cX12_law_5 1 rfl
theorem dX12_law_104 : decode cX12_law 104 = .ok (.if_icmp .ge 7, 3) := zo_p162 zh_cX12_law_5 4 7 rfl rfl
theorem dX12_law_107 : decode cX12_law 107 = .ok (.aload_n 0, 1) := zo_42 zh_cX12_law_5 7 rfl
theorem dX12_law_108 : decode cX12_law 108 = .ok (.invokevirtual 205, 3) := zo_182 zh_cX12_law_5 8 rfl
theorem dX12_law_111 : decode cX12_law 111 = .ok (.aload_n 0, 1) := zo_42 zh_cX12_law_5 11 rfl
theorem dX12_law_112 : decode cX12_law 112 = .ok (.iconst 0, 1) := zo_3 zh_cX12_law_5 12 rfl
theorem dX12_law_113 : decode cX12_law 113 = .ok (.putfield 185, 3) := zo_181 zh_cX12_law_5 13 rfl
theorem dX12_law_116 : decode cX12_law 116 = .ok (.aload_n 0, 1) := zo_42 zh_cX12_law_5 16 rfl
theorem dX12_law_117 : decode cX12_law 117 = .ok (.getfield 202, 3) := zo_180 zh_cX12_law_5 17 rfl
theorem zh_cX12_law_6 : zck [155, 0, 11, 16, 156, 42, 180, 0, 202, 100, 172, 16, 8, 27, 16, 10, 108, 104, 27, 16, 10, 112] (zdu 120 cX12_law.data.toList) = true := by decide +kernel
theorem dX12_law_120 : decode cX12_law 120 = .ok (.ifCond .lt 11, 3) := zo_p155 zh_cX12_law_6 0 11 rfl rfl
theorem dX12_law_123 : decode cX12_law 123 = .ok (.bipush (-100), 2) := zo_n16 zh_cX12_law_6 3 99 rfl rfl
theorem dX12_law_125 : decode cX12_law 125 = .ok (.aload_n 0, 1) := zo_42 zh_cX12_law_6 5 rfl
theorem dX12_law_126 : decode cX12_law 126 = .ok (.getfield 202, 3) := zo_180 zh_cX12_law_6 6 rfl
theorem dX12_law_129 : decode cX12_law 129 = .ok (.isub, 1) := zo_100 zh_cX12_law_6 9 rfl
theorem dX12_law_130 : decode cX12_law 130 = .ok (.ireturn, 1) := zo_172 zh_cX12_law_6 10 rfl
theorem dX12_law_131 : decode cX12_law 131 = .ok (.bipush 8, 2) := zo_p16 zh_cX12_law_6 11 8 rfl rfl
theorem dX12_law_133 : decode cX12_law 133 = .ok (.iload_n 1, 1) := zo_27 zh_cX12_law_6 13 rfl
theorem dX12_law_134 : decode cX12_law 134 = .ok (.bipush 10, 2) := zo_p16 zh_cX12_law_6 14 10 rfl rfl
theorem dX12_law_136 : decode cX12_law 136 = .ok (.idiv, 1) := zo_108 zh_cX12_law_6 16 rfl
theorem dX12_law_137 : decode cX12_law 137 = .ok (.imul, 1) := zo_104 zh_cX12_law_6 17 rfl
theorem dX12_law_138 : decode cX12_law 138 = .ok (.iload_n 1, 1) := zo_27 zh_cX12_law_6 18 rfl
theorem dX12_law_139 : decode cX12_law 139 = .ok (.bipush 10, 2) := zo_p16 zh_cX12_law_6 19 10 rfl rfl
theorem zh_cX12_law_7 : zck [10, 112, 96, 61, 3, 62, 29, 42, 180, 0, 255, 162, 0, 53, 42, 180, 0, 83, 17, 0, 130, 28] (zdu 140 cX12_law.data.toList) = true := by decide +kernel
theorem dX12_law_141 : decode cX12_law 141 = .ok (.irem, 1) := zo_112 zh_cX12_law_7 1 rfl
theorem dX12_law_142 : decode cX12_law 142 = .ok (.iadd, 1) := zo_96 zh_cX12_law_7 2 rfl
theorem dX12_law_143 : decode cX12_law 143 = .ok (.istore_n 2, 1) := zo_61 zh_cX12_law_7 3 rfl
theorem dX12_law_144 : decode cX12_law 144 = .ok (.iconst 0, 1) := zo_3 zh_cX12_law_7 4 rfl
theorem dX12_law_145 : decode cX12_law 145 = .ok (.istore_n 3, 1) := zo_62 zh_cX12_law_7 5 rfl
theorem dX12_law_146 : decode cX12_law 146 = .ok (.iload_n 3, 1) := zo_29 zh_cX12_law_7 6 rfl
theorem dX12_law_147 : decode cX12_law 147 = .ok (.aload_n 0, 1) := zo_42 zh_cX12_law_7 7 rfl
theorem dX12_law_148 : decode cX12_law 148 = .ok (.getfield 255, 3) := zo_180 zh_cX12_law_7 8 rfl
theorem dX12_law_151 : decode cX12_law 151 = .ok (.if_icmp .ge 53, 3) := zo_p162 zh_cX12_law_7 11 53 rfl rfl
theorem dX12_law_154 : decode cX12_law 154 = .ok (.aload_n 0, 1) := zo_42 zh_cX12_law_7 14 rfl
theorem dX12_law_155 : decode cX12_law 155 = .ok (.getfield 83, 3) := zo_180 zh_cX12_law_7 15 rfl
theorem dX12_law_158 : decode cX12_law 158 = .ok (.sipush 130, 3) := zo_p17 zh_cX12_law_7 18 130 rfl rfl
theorem zh_cX12_law_8 : zck [130, 28, 104, 29, 96, 42, 180, 0, 83, 17, 16, 64, 29, 96, 51, 84, 42, 180, 0, 86, 17, 0] (zdu 160 cX12_law.data.toList) = true := by decide +kernel
theorem dX12_law_161 : decode cX12_law 161 = .ok (.iload_n 2, 1) := zo_28 zh_cX12_law_8 1 rfl
theorem dX12_law_162 : decode cX12_law 162 = .ok (.imul, 1) := zo_104 zh_cX12_law_8 2 rfl
theorem dX12_law_163 : decode cX12_law 163 = .ok (.iload_n 3, 1) := zo_29 zh_cX12_law_8 3 rfl
theorem dX12_law_164 : decode cX12_law 164 = .ok (.iadd, 1) := zo_96 zh_cX12_law_8 4 rfl
theorem dX12_law_165 : decode cX12_law 165 = .ok (.aload_n 0, 1) := zo_42 zh_cX12_law_8 5 rfl
theorem dX12_law_166 : decode cX12_law 166 = .ok (.getfield 83, 3) := zo_180 zh_cX12_law_8 6 rfl
theorem dX12_law_169 : decode cX12_law 169 = .ok (.sipush 4160, 3) := zo_p17 zh_cX12_law_8 9 4160 rfl rfl
theorem dX12_law_172 : decode cX12_law 172 = .ok (.iload_n 3, 1) := zo_29 zh_cX12_law_8 12 rfl
theorem dX12_law_173 : decode cX12_law 173 = .ok (.iadd, 1) := zo_96 zh_cX12_law_8 13 rfl
theorem dX12_law_174 : decode cX12_law 174 = .ok (.baload, 1) := zo_51 zh_cX12_law_8 14 rfl
theorem dX12_law_175 : decode cX12_law 175 = .ok (.bastore, 1) := zo_84 zh_cX12_law_8 15 rfl
theorem dX12_law_176 : decode cX12_law 176 = .ok (.aload_n 0, 1) := zo_42 zh_cX12_law_8 16 rfl
theorem dX12_law_177 : decode cX12_law 177 = .ok (.getfield 86, 3) := zo_180 zh_cX12_law_8 17 rfl
theorem zh_cX12_law_9 : zck [17, 0, 130, 28, 104, 29, 96, 42, 180, 0, 86, 17, 16, 64, 29, 96, 46, 79, 132, 3, 1, 167] (zdu 180 cX12_law.data.toList) = true := by decide +kernel
theorem dX12_law_180 : decode cX12_law 180 = .ok (.sipush 130, 3) := zo_p17 zh_cX12_law_9 0 130 rfl rfl
theorem dX12_law_183 : decode cX12_law 183 = .ok (.iload_n 2, 1) := zo_28 zh_cX12_law_9 3 rfl
theorem dX12_law_184 : decode cX12_law 184 = .ok (.imul, 1) := zo_104 zh_cX12_law_9 4 rfl
theorem dX12_law_185 : decode cX12_law 185 = .ok (.iload_n 3, 1) := zo_29 zh_cX12_law_9 5 rfl
theorem dX12_law_186 : decode cX12_law 186 = .ok (.iadd, 1) := zo_96 zh_cX12_law_9 6 rfl
theorem dX12_law_187 : decode cX12_law 187 = .ok (.aload_n 0, 1) := zo_42 zh_cX12_law_9 7 rfl
theorem dX12_law_188 : decode cX12_law 188 = .ok (.getfield 86, 3) := zo_180 zh_cX12_law_9 8 rfl
theorem dX12_law_191 : decode cX12_law 191 = .ok (.sipush 4160, 3) := zo_p17 zh_cX12_law_9 11 4160 rfl rfl
theorem dX12_law_194 : decode cX12_law 194 = .ok (.iload_n 3, 1) := zo_29 zh_cX12_law_9 14 rfl
theorem dX12_law_195 : decode cX12_law 195 = .ok (.iadd, 1) := zo_96 zh_cX12_law_9 15 rfl
theorem dX12_law_196 : decode cX12_law 196 = .ok (.iaload, 1) := zo_46 zh_cX12_law_9 16 rfl
theorem dX12_law_197 : decode cX12_law 197 = .ok (.iastore, 1) := zo_79 zh_cX12_law_9 17 rfl
theorem dX12_law_198 : decode cX12_law 198 = .ok (.iinc 3 1, 3) := zo_p132 zh_cX12_law_9 18 1 rfl rfl
theorem zh_cX12_law_10 : zck [1, 167, 255, 201, 42, 180, 0, 89, 28, 42, 180, 0, 89, 16, 32, 46, 79, 3, 62, 29, 42, 180] (zdu 200 cX12_law.data.toList) = true := by decide +kernel
theorem dX12_law_201 : decode cX12_law 201 = .ok (.goto (-55), 3) := zo_n167 zh_cX12_law_10 1 54 rfl rfl
theorem dX12_law_204 : decode cX12_law 204 = .ok (.aload_n 0, 1) := zo_42 zh_cX12_law_10 4 rfl
theorem dX12_law_205 : decode cX12_law 205 = .ok (.getfield 89, 3) := zo_180 zh_cX12_law_10 5 rfl
theorem dX12_law_208 : decode cX12_law 208 = .ok (.iload_n 2, 1) := zo_28 zh_cX12_law_10 8 rfl
theorem dX12_law_209 : decode cX12_law 209 = .ok (.aload_n 0, 1) := zo_42 zh_cX12_law_10 9 rfl
theorem dX12_law_210 : decode cX12_law 210 = .ok (.getfield 89, 3) := zo_180 zh_cX12_law_10 10 rfl
theorem dX12_law_213 : decode cX12_law 213 = .ok (.bipush 32, 2) := zo_p16 zh_cX12_law_10 13 32 rfl rfl
theorem dX12_law_215 : decode cX12_law 215 = .ok (.iaload, 1) := zo_46 zh_cX12_law_10 15 rfl
theorem dX12_law_216 : decode cX12_law 216 = .ok (.iastore, 1) := zo_79 zh_cX12_law_10 16 rfl
theorem dX12_law_217 : decode cX12_law 217 = .ok (.iconst 0, 1) := zo_3 zh_cX12_law_10 17 rfl
theorem dX12_law_218 : decode cX12_law 218 = .ok (.istore_n 3, 1) := zo_62 zh_cX12_law_10 18 rfl
theorem dX12_law_219 : decode cX12_law 219 = .ok (.iload_n 3, 1) := zo_29 zh_cX12_law_10 19 rfl
theorem zh_cX12_law_11 : zck [42, 180, 0, 89, 28, 46, 162, 0, 51, 42, 180, 0, 92, 16, 61, 28, 104, 29, 96, 42, 180, 0] (zdu 220 cX12_law.data.toList) = true := by decide +kernel
theorem dX12_law_220 : decode cX12_law 220 = .ok (.aload_n 0, 1) := zo_42 zh_cX12_law_11 0 rfl
theorem dX12_law_221 : decode cX12_law 221 = .ok (.getfield 89, 3) := zo_180 zh_cX12_law_11 1 rfl
theorem dX12_law_224 : decode cX12_law 224 = .ok (.iload_n 2, 1) := zo_28 zh_cX12_law_11 4 rfl
theorem dX12_law_225 : decode cX12_law 225 = .ok (.iaload, 1) := zo_46 zh_cX12_law_11 5 rfl
theorem dX12_law_226 : decode cX12_law 226 = .ok (.if_icmp .ge 51, 3) := zo_p162 zh_cX12_law_11 6 51 rfl rfl
theorem dX12_law_229 : decode cX12_law 229 = .ok (.aload_n 0, 1) := zo_42 zh_cX12_law_11 9 rfl
theorem dX12_law_230 : decode cX12_law 230 = .ok (.getfield 92, 3) := zo_180 zh_cX12_law_11 10 rfl
theorem dX12_law_233 : decode cX12_law 233 = .ok (.bipush 61, 2) := zo_p16 zh_cX12_law_11 13 61 rfl rfl
theorem dX12_law_235 : decode cX12_law 235 = .ok (.iload_n 2, 1) := zo_28 zh_cX12_law_11 15 rfl
theorem dX12_law_236 : decode cX12_law 236 = .ok (.imul, 1) := zo_104 zh_cX12_law_11 16 rfl
theorem dX12_law_237 : decode cX12_law 237 = .ok (.iload_n 3, 1) := zo_29 zh_cX12_law_11 17 rfl
theorem dX12_law_238 : decode cX12_law 238 = .ok (.iadd, 1) := zo_96 zh_cX12_law_11 18 rfl
theorem dX12_law_239 : decode cX12_law 239 = .ok (.aload_n 0, 1) := zo_42 zh_cX12_law_11 19 rfl
theorem zh_cX12_law_12 : zck [180, 0, 92, 17, 7, 160, 29, 96, 53, 86, 42, 180, 0, 96, 16, 61, 28, 104, 29, 96, 42, 180] (zdu 240 cX12_law.data.toList) = true := by decide +kernel
theorem dX12_law_240 : decode cX12_law 240 = .ok (.getfield 92, 3) := zo_180 zh_cX12_law_12 0 rfl
theorem dX12_law_243 : decode cX12_law 243 = .ok (.sipush 1952, 3) := zo_p17 zh_cX12_law_12 3 1952 rfl rfl
theorem dX12_law_246 : decode cX12_law 246 = .ok (.iload_n 3, 1) := zo_29 zh_cX12_law_12 6 rfl
theorem dX12_law_247 : decode cX12_law 247 = .ok (.iadd, 1) := zo_96 zh_cX12_law_12 7 rfl
theorem zo_53 {c : ByteArray} {s : Nat} {K : List Nat} (h : zck K (zdu s c.data.toList) = true) (k : Nat) (hk : zt1 K k 53 = true) : decode c (s + k) = .ok (.saload, 1) := zde ((zbd (zu1 (zh1 h hk))).trans rfl)
theorem dX12_law_248 : decode cX12_law 248 = .ok (.saload, 1) := zo_53 zh_cX12_law_12 8 rfl
theorem dX12_law_249 : decode cX12_law 249 = .ok (.sastore, 1) := zo_86 zh_cX12_law_12 9 rfl
theorem dX12_law_250 : decode cX12_law 250 = .ok (.aload_n 0, 1) := zo_42 zh_cX12_law_12 10 rfl
theorem dX12_law_251 : decode cX12_law 251 = .ok (.getfield 96, 3) := zo_180 zh_cX12_law_12 11 rfl
theorem dX12_law_254 : decode cX12_law 254 = .ok (.bipush 61, 2) := zo_p16 zh_cX12_law_12 14 61 rfl rfl
theorem dX12_law_256 : decode cX12_law 256 = .ok (.iload_n 2, 1) := zo_28 zh_cX12_law_12 16 rfl
theorem dX12_law_257 : decode cX12_law 257 = .ok (.imul, 1) := zo_104 zh_cX12_law_12 17 rfl
theorem dX12_law_258 : decode cX12_law 258 = .ok (.iload_n 3, 1) := zo_29 zh_cX12_law_12 18 rfl
theorem dX12_law_259 : decode cX12_law 259 = .ok (.iadd, 1) := zo_96 zh_cX12_law_12 19 rfl
theorem zh_cX12_law_13 : zck [42, 180, 0, 96, 17, 7, 160, 29, 96, 53, 86, 132, 3, 1, 167, 255, 201, 4, 172] (zdu 260 cX12_law.data.toList) = true := by decide +kernel
theorem dX12_law_260 : decode cX12_law 260 = .ok (.aload_n 0, 1) := zo_42 zh_cX12_law_13 0 rfl
theorem dX12_law_261 : decode cX12_law 261 = .ok (.getfield 96, 3) := zo_180 zh_cX12_law_13 1 rfl
theorem dX12_law_264 : decode cX12_law 264 = .ok (.sipush 1952, 3) := zo_p17 zh_cX12_law_13 4 1952 rfl rfl
theorem dX12_law_267 : decode cX12_law 267 = .ok (.iload_n 3, 1) := zo_29 zh_cX12_law_13 7 rfl
theorem dX12_law_268 : decode cX12_law 268 = .ok (.iadd, 1) := zo_96 zh_cX12_law_13 8 rfl
theorem dX12_law_269 : decode cX12_law 269 = .ok (.saload, 1) := zo_53 zh_cX12_law_13 9 rfl
theorem dX12_law_270 : decode cX12_law 270 = .ok (.sastore, 1) := zo_86 zh_cX12_law_13 10 rfl
theorem dX12_law_271 : decode cX12_law 271 = .ok (.iinc 3 1, 3) := zo_p132 zh_cX12_law_13 11 1 rfl rfl
theorem dX12_law_274 : decode cX12_law 274 = .ok (.goto (-55), 3) := zo_n167 zh_cX12_law_13 14 54 rfl rfl
theorem dX12_law_277 : decode cX12_law 277 = .ok (.iconst 1, 1) := zo_4 zh_cX12_law_13 17 rfl
theorem dX12_law_278 : decode cX12_law 278 = .ok (.ireturn, 1) := zo_172 zh_cX12_law_13 18 rfl
abbrev z_X12_law : List Cond := .code yX12_law cX12_law 4 (some .int) :: zW
abbrev wl_X12_law (ad : Nat → Nat) (cs : Nat → ClassId)  (mod_code : Int32) (mod_shoes : Int32) (mod_claims : Int32) (mod_taped : Int32) (mod_here : Int32) (mod_fault : Int32) (mod_suits : Int32) (mod_doneMany : Int32) (mod_undoneMany : Int32) (mod_open : Int32) (mod_laid : Int32) (mod_isBoth : Int32) (mod_wished : Int32) (mod_bestMany : Int32) (mod_bestRow : Int32) (mod_ringDigits : Int32) (mod_traces : Int32) (mod_tape : Nat → Int32) (mod_act : Nat → Int32) (mod_with : Nat → Int32) (mod_lineMany : Nat → Int32) (mod_testEnd : Nat → Int32) (mod_lineEnd : Nat → Int32) : va_W := [((ad 41), .inr (12, [.int mod_code, .int mod_shoes, .ref (ad 42), .ref (ad 43), .ref (ad 44), .ref (ad 45), .int mod_claims, .ref (ad 46), .ref (ad 47), .ref (ad 48), .ref (ad 49), .ref (ad 50), .int mod_taped, .int mod_here, .int mod_fault, .int mod_suits, .ref (ad 51), .ref (ad 52), .ref (ad 53), .ref (ad 54), .ref (ad 55), .ref (ad 56), .ref (ad 57), .ref (ad 58), .ref (ad 59), .ref (ad 60), .ref (ad 61), .int mod_doneMany, .int mod_undoneMany, .ref (ad 62), .ref (ad 63), .ref (ad 64), .ref (ad 65), .int mod_open, .int mod_laid, .ref (ad 66), .ref (ad 67), .ref (ad 68), .ref (ad 69), .ref (ad 70), .ref (ad 71), .ref (ad 72), .ref (ad 73), .ref (ad 74), .ref (ad 75), .int mod_isBoth, .int mod_wished, .ref (ad 76), .ref (ad 77), .int mod_bestMany, .int mod_bestRow, .ref (ad 78), .ref (ad 79), .int mod_ringDigits, .int mod_traces, .ref (ad 80), .ref (ad 81), .ref (ad 82), .ref (ad 83), .ref (ad 84)])), ((ad 50), .inl (cs 2, 120, .inl mod_tape)), ((ad 66), .inl (cs 2, 4290, .inl mod_act)), ((ad 67), .inl (cs 0, 4290, .inl mod_with)), ((ad 68), .inl (cs 0, 33, .inl mod_lineMany)), ((ad 69), .inl (cs 3, 2013, .inl mod_testEnd)), ((ad 70), .inl (cs 3, 2013, .inl mod_lineEnd))]
def Q_X12_law (D : va_G) (cs : Nat → ClassId) (ad : Nat → Nat)  (mod_code : Int32) (mod_shoes : Int32) (mod_claims : Int32) (mod_suits : Int32) (mod_doneMany : Int32) (mod_undoneMany : Int32) (mod_isBoth : Int32) (mod_wished : Int32) (mod_bestMany : Int32) (mod_bestRow : Int32) (mod_ringDigits : Int32) (mod_traces : Int32) (mod_tape : Nat → Int32) (A : Nat → Prop) (R : Int32 × Int32 × Int32 × Int32 × Int32 × Int32 × (Nat → Int32) × (Nat → Int32) × (Nat → Int32) × (Nat → Int32) × (Nat → Int32)) : Array Value → State → Outcome → State → Prop :=
  va_Qi (fun (r : Int32) (u : Int32 × Int32 × Int32 × Int32 × Int32 × (Nat → Int32) × (Nat → Int32) × (Nat → Int32) × (Nat → Int32) × (Nat → Int32)) => (r, u) = R) (fun (u : Int32 × Int32 × Int32 × Int32 × Int32 × (Nat → Int32) × (Nat → Int32) × (Nat → Int32) × (Nat → Int32) × (Nat → Int32)) (t : State) => va_P D classes (wl_X12_law ad cs mod_code mod_shoes mod_claims u.1 u.2.1 u.2.2.1 mod_suits mod_doneMany mod_undoneMany u.2.2.2.1 u.2.2.2.2.1 mod_isBoth mod_wished mod_bestMany mod_bestRow mod_ringDigits mod_traces mod_tape u.2.2.2.2.2.1 u.2.2.2.2.2.2.1 u.2.2.2.2.2.2.2.1 u.2.2.2.2.2.2.2.2.1 u.2.2.2.2.2.2.2.2.2) t.heap ∧ va_D A (wl_X12_law ad cs mod_code mod_shoes mod_claims u.1 u.2.1 u.2.2.1 mod_suits mod_doneMany mod_undoneMany u.2.2.2.1 u.2.2.2.2.1 mod_isBoth mod_wished mod_bestMany mod_bestRow mod_ringDigits mod_traces mod_tape u.2.2.2.2.2.1 u.2.2.2.2.2.2.1 u.2.2.2.2.2.2.2.1 u.2.2.2.2.2.2.2.2.1 u.2.2.2.2.2.2.2.2.2)) A
abbrev rm_X12_law : Room := { frames := 122, cells := 0, slots := 0, locals := 2681 }
theorem g_X12_293 : GoodIn zW (wsV RX12 293 RX12 yX12_line z_X12_line) := zGV kw_1622 kw_1624 kw_33 kw_95 kw_1625
theorem hd_X12_line : yX12_line.cls ≠ "java/lang/invoke/MethodHandle" ∧ yX12_line.cls ≠ "java/lang/invoke/VarHandle" ∧ (parseMethodDescriptor yX12_line.desc).map (fun d => d.parameters.length) = some 0 := by decide +kernel
def B_X12_law_219   (g56 : Int32 → Int32 → Int32 → Int32 → Int32 → Int32 → (Nat → Int32) → (Nat → Int32) → (Nat → Int32) → (Nat → Int32) → (Nat → Int32) → (Option (Int32 × Int32 × Int32 × Int32 × Int32 × Int32 × (Nat → Int32) × (Nat → Int32) × (Nat → Int32) × (Nat → Int32) × (Nat → Int32)))) (g146 : Int32 → Int32 → Int32 → Int32 → Int32 → Int32 → Int32 → (Nat → Int32) → (Nat → Int32) → (Nat → Int32) → (Nat → Int32) → (Nat → Int32) → (Option (Int32 × Int32 × Int32 × Int32 × Int32 × Int32 × (Nat → Int32) × (Nat → Int32) × (Nat → Int32) × (Nat → Int32) × (Nat → Int32)))) (g219 : Int32 → Int32 → Int32 → Int32 → Int32 → Int32 → Int32 → (Nat → Int32) → (Nat → Int32) → (Nat → Int32) → (Nat → Int32) → (Nat → Int32) → (Option (Int32 × Int32 × Int32 × Int32 × Int32 × Int32 × (Nat → Int32) × (Nat → Int32) × (Nat → Int32) × (Nat → Int32) × (Nat → Int32)))) (mod_code : Int32) (mod_shoes : Int32) (mod_claims : Int32) (mod_suits : Int32) (mod_doneMany : Int32) (mod_undoneMany : Int32) (mod_isBoth : Int32) (mod_wished : Int32) (mod_bestMany : Int32) (mod_bestRow : Int32) (mod_ringDigits : Int32) (mod_traces : Int32) (mod_tape : Nat → Int32) (x2 : Int32) (x3 : Int32) (mod_taped : Int32) (mod_here : Int32) (mod_fault : Int32) (mod_open : Int32) (mod_laid : Int32) (mod_act : Nat → Int32) (mod_with : Nat → Int32) (mod_lineMany : Nat → Int32) (mod_testEnd : Nat → Int32) (mod_lineEnd : Nat → Int32) : Option (Int32 × Int32 × Int32 × Int32 × Int32 × Int32 × (Nat → Int32) × (Nat → Int32) × (Nat → Int32) × (Nat → Int32) × (Nat → Int32)) :=
  (if (x2 < 0 ∨ 33 ≤ x2.toNatClampNeg) then none else (if (mod_lineMany x2.toNatClampNeg) ≤ x3 then (some ((1 : Int32), mod_taped, mod_here, mod_fault, mod_open, mod_laid, mod_act, mod_with, mod_lineMany, mod_testEnd, mod_lineEnd)) else (if (((1952 : Int32) + x3) < 0 ∨ 2013 ≤ ((1952 : Int32) + x3).toNatClampNeg) then none else (zk_let (mod_testEnd ((1952 : Int32) + x3).toNatClampNeg) (fun v_56 => (if ((((61 : Int32) * x2) + x3) < 0 ∨ 2013 ≤ (((61 : Int32) * x2) + x3).toNatClampNeg) then none else (zk_let (upd mod_testEnd (((61 : Int32) * x2) + x3).toNatClampNeg (vp_nar .short v_56)) (fun f_58 => (if (((1952 : Int32) + x3) < 0 ∨ 2013 ≤ ((1952 : Int32) + x3).toNatClampNeg) then none else (zk_let (mod_lineEnd ((1952 : Int32) + x3).toNatClampNeg) (fun v_60 => (if ((((61 : Int32) * x2) + x3) < 0 ∨ 2013 ≤ (((61 : Int32) * x2) + x3).toNatClampNeg) then none else (zk_let (upd mod_lineEnd (((61 : Int32) * x2) + x3).toNatClampNeg (vp_nar .short v_60)) (fun f_62 => (zk_let (x3 + (1 : Int32)) (fun v_63 => (g219 x2 v_63 mod_taped mod_here mod_fault mod_open mod_laid mod_act mod_with mod_lineMany f_58 f_62)))))))))))))))))
def B_X12_law_146   (g56 : Int32 → Int32 → Int32 → Int32 → Int32 → Int32 → (Nat → Int32) → (Nat → Int32) → (Nat → Int32) → (Nat → Int32) → (Nat → Int32) → (Option (Int32 × Int32 × Int32 × Int32 × Int32 × Int32 × (Nat → Int32) × (Nat → Int32) × (Nat → Int32) × (Nat → Int32) × (Nat → Int32)))) (g146 : Int32 → Int32 → Int32 → Int32 → Int32 → Int32 → Int32 → (Nat → Int32) → (Nat → Int32) → (Nat → Int32) → (Nat → Int32) → (Nat → Int32) → (Option (Int32 × Int32 × Int32 × Int32 × Int32 × Int32 × (Nat → Int32) × (Nat → Int32) × (Nat → Int32) × (Nat → Int32) × (Nat → Int32)))) (g219 : Int32 → Int32 → Int32 → Int32 → Int32 → Int32 → Int32 → (Nat → Int32) → (Nat → Int32) → (Nat → Int32) → (Nat → Int32) → (Nat → Int32) → (Option (Int32 × Int32 × Int32 × Int32 × Int32 × Int32 × (Nat → Int32) × (Nat → Int32) × (Nat → Int32) × (Nat → Int32) × (Nat → Int32)))) (mod_code : Int32) (mod_shoes : Int32) (mod_claims : Int32) (mod_suits : Int32) (mod_doneMany : Int32) (mod_undoneMany : Int32) (mod_isBoth : Int32) (mod_wished : Int32) (mod_bestMany : Int32) (mod_bestRow : Int32) (mod_ringDigits : Int32) (mod_traces : Int32) (mod_tape : Nat → Int32) (x2 : Int32) (x3 : Int32) (mod_taped : Int32) (mod_here : Int32) (mod_fault : Int32) (mod_open : Int32) (mod_laid : Int32) (mod_act : Nat → Int32) (mod_with : Nat → Int32) (mod_lineMany : Nat → Int32) (mod_testEnd : Nat → Int32) (mod_lineEnd : Nat → Int32) : Option (Int32 × Int32 × Int32 × Int32 × Int32 × Int32 × (Nat → Int32) × (Nat → Int32) × (Nat → Int32) × (Nat → Int32) × (Nat → Int32)) :=
  (if mod_laid ≤ x3 then (zk_let (mod_lineMany (32 : Int32).toNatClampNeg) (fun v_41 => (if (x2 < 0 ∨ 33 ≤ x2.toNatClampNeg) then none else (zk_let (upd mod_lineMany x2.toNatClampNeg v_41) (fun f_43 => (g219 x2 (0 : Int32) mod_taped mod_here mod_fault mod_open mod_laid mod_act mod_with f_43 mod_testEnd mod_lineEnd)))))) else (if (((4160 : Int32) + x3) < 0 ∨ 4290 ≤ ((4160 : Int32) + x3).toNatClampNeg) then none else (zk_let (mod_act ((4160 : Int32) + x3).toNatClampNeg) (fun v_45 => (if ((((130 : Int32) * x2) + x3) < 0 ∨ 4290 ≤ (((130 : Int32) * x2) + x3).toNatClampNeg) then none else (zk_let (upd mod_act (((130 : Int32) * x2) + x3).toNatClampNeg (vp_nar .byte v_45)) (fun f_47 => (if (((4160 : Int32) + x3) < 0 ∨ 4290 ≤ ((4160 : Int32) + x3).toNatClampNeg) then none else (zk_let (mod_with ((4160 : Int32) + x3).toNatClampNeg) (fun v_49 => (if ((((130 : Int32) * x2) + x3) < 0 ∨ 4290 ≤ (((130 : Int32) * x2) + x3).toNatClampNeg) then none else (zk_let (upd mod_with (((130 : Int32) * x2) + x3).toNatClampNeg v_49) (fun f_51 => (zk_let (x3 + (1 : Int32)) (fun v_52 => (g146 x2 v_52 mod_taped mod_here mod_fault mod_open mod_laid f_47 f_51 mod_lineMany mod_testEnd mod_lineEnd))))))))))))))))
def B_X12_law_111   (g56 : Int32 → Int32 → Int32 → Int32 → Int32 → Int32 → (Nat → Int32) → (Nat → Int32) → (Nat → Int32) → (Nat → Int32) → (Nat → Int32) → (Option (Int32 × Int32 × Int32 × Int32 × Int32 × Int32 × (Nat → Int32) × (Nat → Int32) × (Nat → Int32) × (Nat → Int32) × (Nat → Int32)))) (g146 : Int32 → Int32 → Int32 → Int32 → Int32 → Int32 → Int32 → (Nat → Int32) → (Nat → Int32) → (Nat → Int32) → (Nat → Int32) → (Nat → Int32) → (Option (Int32 × Int32 × Int32 × Int32 × Int32 × Int32 × (Nat → Int32) × (Nat → Int32) × (Nat → Int32) × (Nat → Int32) × (Nat → Int32)))) (g219 : Int32 → Int32 → Int32 → Int32 → Int32 → Int32 → Int32 → (Nat → Int32) → (Nat → Int32) → (Nat → Int32) → (Nat → Int32) → (Nat → Int32) → (Option (Int32 × Int32 × Int32 × Int32 × Int32 × Int32 × (Nat → Int32) × (Nat → Int32) × (Nat → Int32) × (Nat → Int32) × (Nat → Int32)))) (mod_code : Int32) (mod_shoes : Int32) (mod_claims : Int32) (mod_suits : Int32) (mod_doneMany : Int32) (mod_undoneMany : Int32) (mod_isBoth : Int32) (mod_wished : Int32) (mod_bestMany : Int32) (mod_bestRow : Int32) (mod_ringDigits : Int32) (mod_traces : Int32) (mod_tape : Nat → Int32) (x1 : Int32) (mod_taped : Int32) (mod_here : Int32) (mod_fault : Int32) (mod_open : Int32) (mod_laid : Int32) (mod_act : Nat → Int32) (mod_with : Nat → Int32) (mod_lineMany : Nat → Int32) (mod_testEnd : Nat → Int32) (mod_lineEnd : Nat → Int32) : Option (Int32 × Int32 × Int32 × Int32 × Int32 × Int32 × (Nat → Int32) × (Nat → Int32) × (Nat → Int32) × (Nat → Int32) × (Nat → Int32)) :=
  (if mod_fault < 0 then (zk_let (((8 : Int32) * (x1 / (10 : Int32))) + (x1 - x1 / (10 : Int32) * (10 : Int32))) (fun v_39 => (g146 v_39 (0 : Int32) (0 : Int32) mod_here mod_fault mod_open mod_laid mod_act mod_with mod_lineMany mod_testEnd mod_lineEnd))) else (some ((-100 : Int32) - mod_fault, (0 : Int32), mod_here, mod_fault, mod_open, mod_laid, mod_act, mod_with, mod_lineMany, mod_testEnd, mod_lineEnd)))
def B_X12_law_89   (g56 : Int32 → Int32 → Int32 → Int32 → Int32 → Int32 → (Nat → Int32) → (Nat → Int32) → (Nat → Int32) → (Nat → Int32) → (Nat → Int32) → (Option (Int32 × Int32 × Int32 × Int32 × Int32 × Int32 × (Nat → Int32) × (Nat → Int32) × (Nat → Int32) × (Nat → Int32) × (Nat → Int32)))) (g146 : Int32 → Int32 → Int32 → Int32 → Int32 → Int32 → Int32 → (Nat → Int32) → (Nat → Int32) → (Nat → Int32) → (Nat → Int32) → (Nat → Int32) → (Option (Int32 × Int32 × Int32 × Int32 × Int32 × Int32 × (Nat → Int32) × (Nat → Int32) × (Nat → Int32) × (Nat → Int32) × (Nat → Int32)))) (g219 : Int32 → Int32 → Int32 → Int32 → Int32 → Int32 → Int32 → (Nat → Int32) → (Nat → Int32) → (Nat → Int32) → (Nat → Int32) → (Nat → Int32) → (Option (Int32 × Int32 × Int32 × Int32 × Int32 × Int32 × (Nat → Int32) × (Nat → Int32) × (Nat → Int32) × (Nat → Int32) × (Nat → Int32)))) (mod_code : Int32) (mod_shoes : Int32) (mod_claims : Int32) (mod_suits : Int32) (mod_doneMany : Int32) (mod_undoneMany : Int32) (mod_isBoth : Int32) (mod_wished : Int32) (mod_bestMany : Int32) (mod_bestRow : Int32) (mod_ringDigits : Int32) (mod_traces : Int32) (mod_tape : Nat → Int32) (x1 : Int32) (mod_taped : Int32) (mod_here : Int32) (mod_fault : Int32) (mod_open : Int32) (mod_laid : Int32) (mod_act : Nat → Int32) (mod_with : Nat → Int32) (mod_lineMany : Nat → Int32) (mod_testEnd : Nat → Int32) (mod_lineEnd : Nat → Int32) : Option (Int32 × Int32 × Int32 × Int32 × Int32 × Int32 × (Nat → Int32) × (Nat → Int32) × (Nat → Int32) × (Nat → Int32) × (Nat → Int32)) :=
  (if 0 ≤ mod_fault then (B_X12_law_111 g56 g146 g219 mod_code mod_shoes mod_claims mod_suits mod_doneMany mod_undoneMany mod_isBoth mod_wished mod_bestMany mod_bestRow mod_ringDigits mod_traces mod_tape x1 mod_taped mod_here mod_fault mod_open mod_laid mod_act mod_with mod_lineMany mod_testEnd mod_lineEnd) else (if mod_taped ≤ mod_here then (B_X12_law_111 g56 g146 g219 mod_code mod_shoes mod_claims mod_suits mod_doneMany mod_undoneMany mod_isBoth mod_wished mod_bestMany mod_bestRow mod_ringDigits mod_traces mod_tape x1 mod_taped mod_here mod_fault mod_open mod_laid mod_act mod_with mod_lineMany mod_testEnd mod_lineEnd) else (zk_b1 (f_X12_wrong mod_code mod_shoes mod_claims mod_taped mod_here mod_fault mod_suits mod_doneMany mod_undoneMany mod_open mod_laid mod_isBoth mod_wished mod_bestMany mod_bestRow mod_ringDigits mod_traces) (fun u_36 => (B_X12_law_111 g56 g146 g219 mod_code mod_shoes mod_claims mod_suits mod_doneMany mod_undoneMany mod_isBoth mod_wished mod_bestMany mod_bestRow mod_ringDigits mod_traces mod_tape x1 mod_taped mod_here u_36 mod_open mod_laid mod_act mod_with mod_lineMany mod_testEnd mod_lineEnd)))))
def B_X12_law_56   (g56 : Int32 → Int32 → Int32 → Int32 → Int32 → Int32 → (Nat → Int32) → (Nat → Int32) → (Nat → Int32) → (Nat → Int32) → (Nat → Int32) → (Option (Int32 × Int32 × Int32 × Int32 × Int32 × Int32 × (Nat → Int32) × (Nat → Int32) × (Nat → Int32) × (Nat → Int32) × (Nat → Int32)))) (g146 : Int32 → Int32 → Int32 → Int32 → Int32 → Int32 → Int32 → (Nat → Int32) → (Nat → Int32) → (Nat → Int32) → (Nat → Int32) → (Nat → Int32) → (Option (Int32 × Int32 × Int32 × Int32 × Int32 × Int32 × (Nat → Int32) × (Nat → Int32) × (Nat → Int32) × (Nat → Int32) × (Nat → Int32)))) (g219 : Int32 → Int32 → Int32 → Int32 → Int32 → Int32 → Int32 → (Nat → Int32) → (Nat → Int32) → (Nat → Int32) → (Nat → Int32) → (Nat → Int32) → (Option (Int32 × Int32 × Int32 × Int32 × Int32 × Int32 × (Nat → Int32) × (Nat → Int32) × (Nat → Int32) × (Nat → Int32) × (Nat → Int32)))) (mod_code : Int32) (mod_shoes : Int32) (mod_claims : Int32) (mod_suits : Int32) (mod_doneMany : Int32) (mod_undoneMany : Int32) (mod_isBoth : Int32) (mod_wished : Int32) (mod_bestMany : Int32) (mod_bestRow : Int32) (mod_ringDigits : Int32) (mod_traces : Int32) (mod_tape : Nat → Int32) (x1 : Int32) (mod_taped : Int32) (mod_here : Int32) (mod_fault : Int32) (mod_open : Int32) (mod_laid : Int32) (mod_act : Nat → Int32) (mod_with : Nat → Int32) (mod_lineMany : Nat → Int32) (mod_testEnd : Nat → Int32) (mod_lineEnd : Nat → Int32) : Option (Int32 × Int32 × Int32 × Int32 × Int32 × Int32 × (Nat → Int32) × (Nat → Int32) × (Nat → Int32) × (Nat → Int32) × (Nat → Int32)) :=
  (if 0 ≤ mod_fault then (B_X12_law_89 g56 g146 g219 mod_code mod_shoes mod_claims mod_suits mod_doneMany mod_undoneMany mod_isBoth mod_wished mod_bestMany mod_bestRow mod_ringDigits mod_traces mod_tape x1 mod_taped mod_here mod_fault mod_open mod_laid mod_act mod_with mod_lineMany mod_testEnd mod_lineEnd) else (zk_b2 (f_X12_look mod_code mod_shoes mod_claims mod_taped mod_here mod_fault mod_suits mod_doneMany mod_undoneMany mod_open mod_laid mod_isBoth mod_wished mod_bestMany mod_bestRow mod_ringDigits mod_traces mod_tape) (fun r_19 u_20 => (if r_19 = (59 : Int32) then (zk_let (mod_here + (1 : Int32)) (fun v_23 => (zk_b9 (f_X12_line mod_code mod_shoes mod_claims mod_taped v_23 mod_fault mod_suits mod_doneMany mod_undoneMany mod_open mod_laid mod_isBoth mod_wished mod_bestMany mod_bestRow mod_ringDigits mod_traces mod_tape mod_act mod_with mod_lineMany mod_testEnd mod_lineEnd) (fun u_24 u_25 u_26 u_27 u_28 u_29 u_30 u_31 u_32 => (g56 x1 mod_taped u_24 u_25 u_26 u_27 u_28 u_29 u_30 u_31 u_32))))) else (B_X12_law_89 g56 g146 g219 mod_code mod_shoes mod_claims mod_suits mod_doneMany mod_undoneMany mod_isBoth mod_wished mod_bestMany mod_bestRow mod_ringDigits mod_traces mod_tape x1 mod_taped mod_here mod_fault mod_open mod_laid mod_act mod_with mod_lineMany mod_testEnd mod_lineEnd)))))
def B_X12_law_0   (g56 : Int32 → Int32 → Int32 → Int32 → Int32 → Int32 → (Nat → Int32) → (Nat → Int32) → (Nat → Int32) → (Nat → Int32) → (Nat → Int32) → (Option (Int32 × Int32 × Int32 × Int32 × Int32 × Int32 × (Nat → Int32) × (Nat → Int32) × (Nat → Int32) × (Nat → Int32) × (Nat → Int32)))) (g146 : Int32 → Int32 → Int32 → Int32 → Int32 → Int32 → Int32 → (Nat → Int32) → (Nat → Int32) → (Nat → Int32) → (Nat → Int32) → (Nat → Int32) → (Option (Int32 × Int32 × Int32 × Int32 × Int32 × Int32 × (Nat → Int32) × (Nat → Int32) × (Nat → Int32) × (Nat → Int32) × (Nat → Int32)))) (g219 : Int32 → Int32 → Int32 → Int32 → Int32 → Int32 → Int32 → (Nat → Int32) → (Nat → Int32) → (Nat → Int32) → (Nat → Int32) → (Nat → Int32) → (Option (Int32 × Int32 × Int32 × Int32 × Int32 × Int32 × (Nat → Int32) × (Nat → Int32) × (Nat → Int32) × (Nat → Int32) × (Nat → Int32)))) (mod_code : Int32) (mod_shoes : Int32) (mod_claims : Int32) (mod_suits : Int32) (mod_doneMany : Int32) (mod_undoneMany : Int32) (mod_isBoth : Int32) (mod_wished : Int32) (mod_bestMany : Int32) (mod_bestRow : Int32) (mod_ringDigits : Int32) (mod_traces : Int32) (mod_tape : Nat → Int32) (x1 : Int32) (mod_taped : Int32) (mod_here : Int32) (mod_fault : Int32) (mod_open : Int32) (mod_laid : Int32) (mod_act : Nat → Int32) (mod_with : Nat → Int32) (mod_lineMany : Nat → Int32) (mod_testEnd : Nat → Int32) (mod_lineEnd : Nat → Int32) : Option (Int32 × Int32 × Int32 × Int32 × Int32 × Int32 × (Nat → Int32) × (Nat → Int32) × (Nat → Int32) × (Nat → Int32) × (Nat → Int32)) :=
  (if x1 < 0 then (some ((-1 : Int32), mod_taped, mod_here, mod_fault, mod_open, mod_laid, mod_act, mod_with, mod_lineMany, mod_testEnd, mod_lineEnd)) else (if (3 : Int32) < (x1 / (10 : Int32)) then (some ((-1 : Int32), mod_taped, mod_here, mod_fault, mod_open, mod_laid, mod_act, mod_with, mod_lineMany, mod_testEnd, mod_lineEnd)) else (zk_b2 (f_X12_isLand (x1 - x1 / (10 : Int32) * (10 : Int32))) (fun r_3 u_4 => (if r_3 = 0 then (some ((-1 : Int32), mod_taped, mod_here, mod_fault, mod_open, mod_laid, mod_act, mod_with, mod_lineMany, mod_testEnd, mod_lineEnd)) else (zk_let (upd mod_lineMany (32 : Int32).toNatClampNeg (0 : Int32)) (fun f_7 => (zk_b9 (f_X12_line mod_code mod_shoes mod_claims mod_taped (0 : Int32) (-1 : Int32) mod_suits mod_doneMany mod_undoneMany (0 : Int32) (0 : Int32) mod_isBoth mod_wished mod_bestMany mod_bestRow mod_ringDigits mod_traces mod_tape mod_act mod_with f_7 mod_testEnd mod_lineEnd) (fun u_8 u_9 u_10 u_11 u_12 u_13 u_14 u_15 u_16 => (g56 x1 mod_taped u_8 u_9 u_10 u_11 u_12 u_13 u_14 u_15 u_16))))))))))
def G_X12_law   (mod_code : Int32) (mod_shoes : Int32) (mod_claims : Int32) (mod_suits : Int32) (mod_doneMany : Int32) (mod_undoneMany : Int32) (mod_isBoth : Int32) (mod_wished : Int32) (mod_bestMany : Int32) (mod_bestRow : Int32) (mod_ringDigits : Int32) (mod_traces : Int32) (mod_tape : Nat → Int32) (n : Nat) : (Int32 → Int32 → Int32 → Int32 → Int32 → Int32 → (Nat → Int32) → (Nat → Int32) → (Nat → Int32) → (Nat → Int32) → (Nat → Int32) → (Option (Int32 × Int32 × Int32 × Int32 × Int32 × Int32 × (Nat → Int32) × (Nat → Int32) × (Nat → Int32) × (Nat → Int32) × (Nat → Int32)))) × (Int32 → Int32 → Int32 → Int32 → Int32 → Int32 → Int32 → (Nat → Int32) → (Nat → Int32) → (Nat → Int32) → (Nat → Int32) → (Nat → Int32) → (Option (Int32 × Int32 × Int32 × Int32 × Int32 × Int32 × (Nat → Int32) × (Nat → Int32) × (Nat → Int32) × (Nat → Int32) × (Nat → Int32)))) × (Int32 → Int32 → Int32 → Int32 → Int32 → Int32 → Int32 → (Nat → Int32) → (Nat → Int32) → (Nat → Int32) → (Nat → Int32) → (Nat → Int32) → (Option (Int32 × Int32 × Int32 × Int32 × Int32 × Int32 × (Nat → Int32) × (Nat → Int32) × (Nat → Int32) × (Nat → Int32) × (Nat → Int32)))) :=
  Nat.rec (motive := fun _ => (Int32 → Int32 → Int32 → Int32 → Int32 → Int32 → (Nat → Int32) → (Nat → Int32) → (Nat → Int32) → (Nat → Int32) → (Nat → Int32) → (Option (Int32 × Int32 × Int32 × Int32 × Int32 × Int32 × (Nat → Int32) × (Nat → Int32) × (Nat → Int32) × (Nat → Int32) × (Nat → Int32)))) × (Int32 → Int32 → Int32 → Int32 → Int32 → Int32 → Int32 → (Nat → Int32) → (Nat → Int32) → (Nat → Int32) → (Nat → Int32) → (Nat → Int32) → (Option (Int32 × Int32 × Int32 × Int32 × Int32 × Int32 × (Nat → Int32) × (Nat → Int32) × (Nat → Int32) × (Nat → Int32) × (Nat → Int32)))) × (Int32 → Int32 → Int32 → Int32 → Int32 → Int32 → Int32 → (Nat → Int32) → (Nat → Int32) → (Nat → Int32) → (Nat → Int32) → (Nat → Int32) → (Option (Int32 × Int32 × Int32 × Int32 × Int32 × Int32 × (Nat → Int32) × (Nat → Int32) × (Nat → Int32) × (Nat → Int32) × (Nat → Int32))))) ((fun _ _ _ _ _ _ _ _ _ _ _ => none), (fun _ _ _ _ _ _ _ _ _ _ _ _ => none), (fun _ _ _ _ _ _ _ _ _ _ _ _ => none)) (fun _ ih => (B_X12_law_56   ih.1 ih.2.1 ih.2.2 mod_code mod_shoes mod_claims mod_suits mod_doneMany mod_undoneMany mod_isBoth mod_wished mod_bestMany mod_bestRow mod_ringDigits mod_traces mod_tape, B_X12_law_146   ih.1 ih.2.1 ih.2.2 mod_code mod_shoes mod_claims mod_suits mod_doneMany mod_undoneMany mod_isBoth mod_wished mod_bestMany mod_bestRow mod_ringDigits mod_traces mod_tape, B_X12_law_219   ih.1 ih.2.1 ih.2.2 mod_code mod_shoes mod_claims mod_suits mod_doneMany mod_undoneMany mod_isBoth mod_wished mod_bestMany mod_bestRow mod_ringDigits mod_traces mod_tape)) n
def f_X12_law   (n : Nat) (x1 : Int32) (mod_code : Int32) (mod_shoes : Int32) (mod_claims : Int32) (mod_taped : Int32) (mod_here : Int32) (mod_fault : Int32) (mod_suits : Int32) (mod_doneMany : Int32) (mod_undoneMany : Int32) (mod_open : Int32) (mod_laid : Int32) (mod_isBoth : Int32) (mod_wished : Int32) (mod_bestMany : Int32) (mod_bestRow : Int32) (mod_ringDigits : Int32) (mod_traces : Int32) (mod_tape : Nat → Int32) (mod_act : Nat → Int32) (mod_with : Nat → Int32) (mod_lineMany : Nat → Int32) (mod_testEnd : Nat → Int32) (mod_lineEnd : Nat → Int32) : Option (Int32 × Int32 × Int32 × Int32 × Int32 × Int32 × (Nat → Int32) × (Nat → Int32) × (Nat → Int32) × (Nat → Int32) × (Nat → Int32)) := B_X12_law_0   ((G_X12_law   mod_code mod_shoes mod_claims mod_suits mod_doneMany mod_undoneMany mod_isBoth mod_wished mod_bestMany mod_bestRow mod_ringDigits mod_traces mod_tape n).1) ((G_X12_law   mod_code mod_shoes mod_claims mod_suits mod_doneMany mod_undoneMany mod_isBoth mod_wished mod_bestMany mod_bestRow mod_ringDigits mod_traces mod_tape n).2.1) ((G_X12_law   mod_code mod_shoes mod_claims mod_suits mod_doneMany mod_undoneMany mod_isBoth mod_wished mod_bestMany mod_bestRow mod_ringDigits mod_traces mod_tape n).2.2) mod_code mod_shoes mod_claims mod_suits mod_doneMany mod_undoneMany mod_isBoth mod_wished mod_bestMany mod_bestRow mod_ringDigits mod_traces mod_tape x1 mod_taped mod_here mod_fault mod_open mod_laid mod_act mod_with mod_lineMany mod_testEnd mod_lineEnd
set_option maxHeartbeats 4000000 in
set_option maxRecDepth 100000 in
theorem L_X12_law_219 {p : Program} {l : Launch} {e : Env} {s : State} {m : MethodId} {args : Array Value} {below : List Frame} {meth : Method} {c : Code} {A : Nat → Prop} {D : va_G} {cs : Nat → ClassId} {ad : Nat → Nat} {mod_code : Int32} {mod_shoes : Int32} {mod_claims : Int32} {mod_suits : Int32} {mod_doneMany : Int32} {mod_undoneMany : Int32} {mod_isBoth : Int32} {mod_wished : Int32} {mod_bestMany : Int32} {mod_bestRow : Int32} {mod_ringDigits : Int32} {mod_traces : Int32} {mod_tape : Nat → Int32} {R : Int32 × Int32 × Int32 × Int32 × Int32 × Int32 × (Nat → Int32) × (Nat → Int32) × (Nat → Int32) × (Nat → Int32) × (Nat → Int32)} {g56 : Int32 → Int32 → Int32 → Int32 → Int32 → Int32 → (Nat → Int32) → (Nat → Int32) → (Nat → Int32) → (Nat → Int32) → (Nat → Int32) → (Option (Int32 × Int32 × Int32 × Int32 × Int32 × Int32 × (Nat → Int32) × (Nat → Int32) × (Nat → Int32) × (Nat → Int32) × (Nat → Int32)))} {g146 : Int32 → Int32 → Int32 → Int32 → Int32 → Int32 → Int32 → (Nat → Int32) → (Nat → Int32) → (Nat → Int32) → (Nat → Int32) → (Nat → Int32) → (Option (Int32 × Int32 × Int32 × Int32 × Int32 × Int32 × (Nat → Int32) × (Nat → Int32) × (Nat → Int32) × (Nat → Int32) × (Nat → Int32)))} {g219 : Int32 → Int32 → Int32 → Int32 → Int32 → Int32 → Int32 → (Nat → Int32) → (Nat → Int32) → (Nat → Int32) → (Nat → Int32) → (Nat → Int32) → (Option (Int32 × Int32 × Int32 × Int32 × Int32 × Int32 × (Nat → Int32) × (Nat → Int32) × (Nat → Int32) × (Nat → Int32) × (Nat → Int32)))} (C0 : zC p s m args meth c cX12_law 4 (some .int) RX12 zW) (hK : va_K D classes (zT cs) s) (hA : ∀ q : Nat, s.heap.size ≤ q → A q) (ih56 : ∀ (x1 : Int32) (mod_taped : Int32) (mod_here : Int32) (mod_fault : Int32) (mod_open : Int32) (mod_laid : Int32) (mod_act : Nat → Int32) (mod_with : Nat → Int32) (mod_lineMany : Nat → Int32) (mod_testEnd : Nat → Int32) (mod_lineEnd : Nat → Int32) (h : g56 x1 mod_taped mod_here mod_fault mod_open mod_laid mod_act mod_with mod_lineMany mod_testEnd mod_lineEnd = some R) (H : Heap) (locs : List Loc) (ls : Array Slot) (hP : va_P D classes (wl_X12_law ad cs mod_code mod_shoes mod_claims mod_taped mod_here mod_fault mod_suits mod_doneMany mod_undoneMany mod_open mod_laid mod_isBoth mod_wished mod_bestMany mod_bestRow mod_ringDigits mod_traces mod_tape mod_act mod_with mod_lineMany mod_testEnd mod_lineEnd) H) (hD : va_D A (wl_X12_law ad cs mod_code mod_shoes mod_claims mod_taped mod_here mod_fault mod_suits mod_doneMany mod_undoneMany mod_open mod_laid mod_isBoth mod_wished mod_bestMany mod_bestRow mod_ringDigits mod_traces mod_tape mod_act mod_with mod_lineMany mod_testEnd mod_lineEnd)) (hS : va_S A s.heap H locs) (hl : lv_has ls 4 [(0, .ref (ad 41)), (1, .int x1)]), W p l e rm_X12_law s m args below meth c H locs 0 0 (MQ below (Q_X12_law D cs ad mod_code mod_shoes mod_claims mod_suits mod_doneMany mod_undoneMany mod_isBoth mod_wished mod_bestMany mod_bestRow mod_ringDigits mod_traces mod_tape A R) args s 0 0 A) (F0 m 56 ls [])) (ih146 : ∀ (x2 : Int32) (x3 : Int32) (mod_taped : Int32) (mod_here : Int32) (mod_fault : Int32) (mod_open : Int32) (mod_laid : Int32) (mod_act : Nat → Int32) (mod_with : Nat → Int32) (mod_lineMany : Nat → Int32) (mod_testEnd : Nat → Int32) (mod_lineEnd : Nat → Int32) (h : g146 x2 x3 mod_taped mod_here mod_fault mod_open mod_laid mod_act mod_with mod_lineMany mod_testEnd mod_lineEnd = some R) (H : Heap) (locs : List Loc) (ls : Array Slot) (hP : va_P D classes (wl_X12_law ad cs mod_code mod_shoes mod_claims mod_taped mod_here mod_fault mod_suits mod_doneMany mod_undoneMany mod_open mod_laid mod_isBoth mod_wished mod_bestMany mod_bestRow mod_ringDigits mod_traces mod_tape mod_act mod_with mod_lineMany mod_testEnd mod_lineEnd) H) (hD : va_D A (wl_X12_law ad cs mod_code mod_shoes mod_claims mod_taped mod_here mod_fault mod_suits mod_doneMany mod_undoneMany mod_open mod_laid mod_isBoth mod_wished mod_bestMany mod_bestRow mod_ringDigits mod_traces mod_tape mod_act mod_with mod_lineMany mod_testEnd mod_lineEnd)) (hS : va_S A s.heap H locs) (hl : lv_has ls 4 [(0, .ref (ad 41)), (2, .int x2), (3, .int x3)]), W p l e rm_X12_law s m args below meth c H locs 0 0 (MQ below (Q_X12_law D cs ad mod_code mod_shoes mod_claims mod_suits mod_doneMany mod_undoneMany mod_isBoth mod_wished mod_bestMany mod_bestRow mod_ringDigits mod_traces mod_tape A R) args s 0 0 A) (F0 m 146 ls [])) (ih219 : ∀ (x2 : Int32) (x3 : Int32) (mod_taped : Int32) (mod_here : Int32) (mod_fault : Int32) (mod_open : Int32) (mod_laid : Int32) (mod_act : Nat → Int32) (mod_with : Nat → Int32) (mod_lineMany : Nat → Int32) (mod_testEnd : Nat → Int32) (mod_lineEnd : Nat → Int32) (h : g219 x2 x3 mod_taped mod_here mod_fault mod_open mod_laid mod_act mod_with mod_lineMany mod_testEnd mod_lineEnd = some R) (H : Heap) (locs : List Loc) (ls : Array Slot) (hP : va_P D classes (wl_X12_law ad cs mod_code mod_shoes mod_claims mod_taped mod_here mod_fault mod_suits mod_doneMany mod_undoneMany mod_open mod_laid mod_isBoth mod_wished mod_bestMany mod_bestRow mod_ringDigits mod_traces mod_tape mod_act mod_with mod_lineMany mod_testEnd mod_lineEnd) H) (hD : va_D A (wl_X12_law ad cs mod_code mod_shoes mod_claims mod_taped mod_here mod_fault mod_suits mod_doneMany mod_undoneMany mod_open mod_laid mod_isBoth mod_wished mod_bestMany mod_bestRow mod_ringDigits mod_traces mod_tape mod_act mod_with mod_lineMany mod_testEnd mod_lineEnd)) (hS : va_S A s.heap H locs) (hl : lv_has ls 4 [(0, .ref (ad 41)), (2, .int x2), (3, .int x3)]), W p l e rm_X12_law s m args below meth c H locs 0 0 (MQ below (Q_X12_law D cs ad mod_code mod_shoes mod_claims mod_suits mod_doneMany mod_undoneMany mod_isBoth mod_wished mod_bestMany mod_bestRow mod_ringDigits mod_traces mod_tape A R) args s 0 0 A) (F0 m 219 ls [])) (x2 : Int32) (x3 : Int32) (mod_taped : Int32) (mod_here : Int32) (mod_fault : Int32) (mod_open : Int32) (mod_laid : Int32) (mod_act : Nat → Int32) (mod_with : Nat → Int32) (mod_lineMany : Nat → Int32) (mod_testEnd : Nat → Int32) (mod_lineEnd : Nat → Int32) (h : B_X12_law_219 g56 g146 g219 mod_code mod_shoes mod_claims mod_suits mod_doneMany mod_undoneMany mod_isBoth mod_wished mod_bestMany mod_bestRow mod_ringDigits mod_traces mod_tape x2 x3 mod_taped mod_here mod_fault mod_open mod_laid mod_act mod_with mod_lineMany mod_testEnd mod_lineEnd = some R) (H : Heap) (locs : List Loc) (ls : Array Slot) (hP : va_P D classes (wl_X12_law ad cs mod_code mod_shoes mod_claims mod_taped mod_here mod_fault mod_suits mod_doneMany mod_undoneMany mod_open mod_laid mod_isBoth mod_wished mod_bestMany mod_bestRow mod_ringDigits mod_traces mod_tape mod_act mod_with mod_lineMany mod_testEnd mod_lineEnd) H) (hD : va_D A (wl_X12_law ad cs mod_code mod_shoes mod_claims mod_taped mod_here mod_fault mod_suits mod_doneMany mod_undoneMany mod_open mod_laid mod_isBoth mod_wished mod_bestMany mod_bestRow mod_ringDigits mod_traces mod_tape mod_act mod_with mod_lineMany mod_testEnd mod_lineEnd)) (hS : va_S A s.heap H locs) (hl : lv_has ls 4 [(0, .ref (ad 41)), (2, .int x2), (3, .int x3)]) : W p l e rm_X12_law s m args below meth c H locs 0 0 (MQ below (Q_X12_law D cs ad mod_code mod_shoes mod_claims mod_suits mod_doneMany mod_undoneMany mod_isBoth mod_wished mod_bestMany mod_bestRow mod_ringDigits mod_traces mod_tape A R) args s 0 0 A) (F0 m 219 ls []) := by
  obtain ⟨hx, hb, hr, hml, hown, ht, hlocks⟩ := id C0
  refine lv_iload_n hx hb dX12_law_219 rfl (lv_at hl 2 rfl) ?_
  refine lv_aload_n hx hb dX12_law_220 rfl (lv_at hl 0 rfl) ?_
  refine va_get (D := D) (ci := 12) (v := .ref (ad 68)) (C := RX12) (T := TX12) (N := 60) hx hb ht iX12 hown hK hP 0 rfl rfl 37 (by decide) (ht _ kw_1332) (fun _ h9 => h9) rfl dX12_law_221 ?_
  refine lv_iload_n hx hb dX12_law_224 rfl (lv_at hl 1 rfl) ?_
  obtain ⟨g_53, h⟩ := zk_gd h
  refine va_iald hx hb hK hP 4 0 rfl rfl g_53 dX12_law_225 ?_
  refine lv_icmp_ge (tgt := 277) hx hb dX12_law_226 (by decide) (fun c_54 => ?_) (fun c_54 => ?_)
  · have h := zk_t c_54 h
    refine lv_iconst (v := (1 : Int32)) hx hb dX12_law_277 (by decide) ?_
    exact W.iret (v := (1 : Int32)) hx hb hr (fun t ht2 hW => ⟨⟨(1 : Int32), (mod_taped, mod_here, mod_fault, mod_open, mod_laid, mod_act, mod_with, mod_lineMany, mod_testEnd, mod_lineEnd), rfl, Option.some.inj h, by rw [ht2]; exact hP, hD⟩, hS.F ht2⟩) hS.2.2 dX12_law_278 hlocks
  · have h := zk_f c_54 h
    refine lv_aload_n hx hb dX12_law_229 rfl (lv_at hl 0 rfl) ?_
    refine va_get (D := D) (ci := 12) (v := .ref (ad 69)) (C := RX12) (T := TX12) (N := 60) hx hb ht iX12 hown hK hP 0 rfl rfl 38 (by decide) (ht _ kw_1333) (fun _ h9 => h9) rfl dX12_law_230 ?_
    refine lv_bipush (v := (61 : Int32)) hx hb dX12_law_233 (by decide) ?_
    refine lv_iload_n hx hb dX12_law_235 rfl (lv_at hl 1 rfl) ?_
    refine lv_imul hx hb dX12_law_236 ?_
    refine lv_iload_n hx hb dX12_law_237 rfl (lv_at hl 2 rfl) ?_
    refine lv_iadd hx hb dX12_law_238 ?_
    refine lv_aload_n hx hb dX12_law_239 rfl (lv_at hl 0 rfl) ?_
    refine va_get (D := D) (ci := 12) (v := .ref (ad 69)) (C := RX12) (T := TX12) (N := 60) hx hb ht iX12 hown hK hP 0 rfl rfl 38 (by decide) (ht _ kw_1333) (fun _ h9 => h9) rfl dX12_law_240 ?_
    refine lv_sipush (v := (1952 : Int32)) hx hb dX12_law_243 (by decide) ?_
    refine lv_iload_n hx hb dX12_law_246 rfl (lv_at hl 2 rfl) ?_
    refine lv_iadd hx hb dX12_law_247 ?_
    obtain ⟨g_55, h⟩ := zk_gd h
    refine va_sald hx hb hK hP 5 3 rfl rfl g_55 dX12_law_248 ?_
    obtain ⟨v_56, ev_56, h⟩ := zk_lt h
    refine W.eq (g2 := F0 m 249 ls [.int v_56, .int (((61 : Int32) * x2) + x3), .ref (ad 69)]) (by rw [ev_56]) ?_
    obtain ⟨g_57, h⟩ := zk_gd h
    obtain ⟨f_58, ef_58, h⟩ := zk_lt h
    refine va_sast hx hb hK hP hD hS 5 3 rfl rfl g_57 dX12_law_249 (fun H locs hP hD hS => ?_)
    have hP : va_P D classes (wl_X12_law ad cs mod_code mod_shoes mod_claims mod_taped mod_here mod_fault mod_suits mod_doneMany mod_undoneMany mod_open mod_laid mod_isBoth mod_wished mod_bestMany mod_bestRow mod_ringDigits mod_traces mod_tape mod_act mod_with mod_lineMany f_58 mod_lineEnd) H := by rw [ef_58]; exact hP
    have hD : va_D A (wl_X12_law ad cs mod_code mod_shoes mod_claims mod_taped mod_here mod_fault mod_suits mod_doneMany mod_undoneMany mod_open mod_laid mod_isBoth mod_wished mod_bestMany mod_bestRow mod_ringDigits mod_traces mod_tape mod_act mod_with mod_lineMany f_58 mod_lineEnd) := by rw [ef_58]; exact hD
    refine lv_aload_n hx hb dX12_law_250 rfl (lv_at hl 0 rfl) ?_
    refine va_get (D := D) (ci := 12) (v := .ref (ad 70)) (C := RX12) (T := TX12) (N := 60) hx hb ht iX12 hown hK hP 0 rfl rfl 39 (by decide) (ht _ kw_1334) (fun _ h9 => h9) rfl dX12_law_251 ?_
    refine lv_bipush (v := (61 : Int32)) hx hb dX12_law_254 (by decide) ?_
    refine lv_iload_n hx hb dX12_law_256 rfl (lv_at hl 1 rfl) ?_
    refine lv_imul hx hb dX12_law_257 ?_
    refine lv_iload_n hx hb dX12_law_258 rfl (lv_at hl 2 rfl) ?_
    refine lv_iadd hx hb dX12_law_259 ?_
    refine lv_aload_n hx hb dX12_law_260 rfl (lv_at hl 0 rfl) ?_
    refine va_get (D := D) (ci := 12) (v := .ref (ad 70)) (C := RX12) (T := TX12) (N := 60) hx hb ht iX12 hown hK hP 0 rfl rfl 39 (by decide) (ht _ kw_1334) (fun _ h9 => h9) rfl dX12_law_261 ?_
    refine lv_sipush (v := (1952 : Int32)) hx hb dX12_law_264 (by decide) ?_
    refine lv_iload_n hx hb dX12_law_267 rfl (lv_at hl 2 rfl) ?_
    refine lv_iadd hx hb dX12_law_268 ?_
    obtain ⟨g_59, h⟩ := zk_gd h
    refine va_sald hx hb hK hP 6 3 rfl rfl g_59 dX12_law_269 ?_
    obtain ⟨v_60, ev_60, h⟩ := zk_lt h
    refine W.eq (g2 := F0 m 270 ls [.int v_60, .int (((61 : Int32) * x2) + x3), .ref (ad 70)]) (by rw [ev_60]) ?_
    obtain ⟨g_61, h⟩ := zk_gd h
    obtain ⟨f_62, ef_62, h⟩ := zk_lt h
    refine va_sast hx hb hK hP hD hS 6 3 rfl rfl g_61 dX12_law_270 (fun H locs hP hD hS => ?_)
    have hP : va_P D classes (wl_X12_law ad cs mod_code mod_shoes mod_claims mod_taped mod_here mod_fault mod_suits mod_doneMany mod_undoneMany mod_open mod_laid mod_isBoth mod_wished mod_bestMany mod_bestRow mod_ringDigits mod_traces mod_tape mod_act mod_with mod_lineMany f_58 f_62) H := by rw [ef_62]; exact hP
    have hD : va_D A (wl_X12_law ad cs mod_code mod_shoes mod_claims mod_taped mod_here mod_fault mod_suits mod_doneMany mod_undoneMany mod_open mod_laid mod_isBoth mod_wished mod_bestMany mod_bestRow mod_ringDigits mod_traces mod_tape mod_act mod_with mod_lineMany f_58 f_62) := by rw [ef_62]; exact hD
    obtain ⟨v_63, ev_63, h⟩ := zk_lt h
    refine lv_iinc (v := v_63) (lv' := [(3, .int v_63), (0, .ref (ad 41)), (2, .int x2)]) hx hb dX12_law_271 hl (k := 2) rfl (by rw [ev_63]; rfl) (by decide) rfl (fun ls hl => ?_)
    refine lv_goto (tgt := 219) hx hb dX12_law_274 (by decide) ?_
    exact ih219 x2 v_63 mod_taped mod_here mod_fault mod_open mod_laid mod_act mod_with mod_lineMany f_58 f_62 h H locs ls hP hD hS (lv_sub hl [1, 2, 0] rfl)
set_option maxHeartbeats 4000000 in
set_option maxRecDepth 100000 in
theorem L_X12_law_146 {p : Program} {l : Launch} {e : Env} {s : State} {m : MethodId} {args : Array Value} {below : List Frame} {meth : Method} {c : Code} {A : Nat → Prop} {D : va_G} {cs : Nat → ClassId} {ad : Nat → Nat} {mod_code : Int32} {mod_shoes : Int32} {mod_claims : Int32} {mod_suits : Int32} {mod_doneMany : Int32} {mod_undoneMany : Int32} {mod_isBoth : Int32} {mod_wished : Int32} {mod_bestMany : Int32} {mod_bestRow : Int32} {mod_ringDigits : Int32} {mod_traces : Int32} {mod_tape : Nat → Int32} {R : Int32 × Int32 × Int32 × Int32 × Int32 × Int32 × (Nat → Int32) × (Nat → Int32) × (Nat → Int32) × (Nat → Int32) × (Nat → Int32)} {g56 : Int32 → Int32 → Int32 → Int32 → Int32 → Int32 → (Nat → Int32) → (Nat → Int32) → (Nat → Int32) → (Nat → Int32) → (Nat → Int32) → (Option (Int32 × Int32 × Int32 × Int32 × Int32 × Int32 × (Nat → Int32) × (Nat → Int32) × (Nat → Int32) × (Nat → Int32) × (Nat → Int32)))} {g146 : Int32 → Int32 → Int32 → Int32 → Int32 → Int32 → Int32 → (Nat → Int32) → (Nat → Int32) → (Nat → Int32) → (Nat → Int32) → (Nat → Int32) → (Option (Int32 × Int32 × Int32 × Int32 × Int32 × Int32 × (Nat → Int32) × (Nat → Int32) × (Nat → Int32) × (Nat → Int32) × (Nat → Int32)))} {g219 : Int32 → Int32 → Int32 → Int32 → Int32 → Int32 → Int32 → (Nat → Int32) → (Nat → Int32) → (Nat → Int32) → (Nat → Int32) → (Nat → Int32) → (Option (Int32 × Int32 × Int32 × Int32 × Int32 × Int32 × (Nat → Int32) × (Nat → Int32) × (Nat → Int32) × (Nat → Int32) × (Nat → Int32)))} (C0 : zC p s m args meth c cX12_law 4 (some .int) RX12 zW) (hK : va_K D classes (zT cs) s) (hA : ∀ q : Nat, s.heap.size ≤ q → A q) (ih56 : ∀ (x1 : Int32) (mod_taped : Int32) (mod_here : Int32) (mod_fault : Int32) (mod_open : Int32) (mod_laid : Int32) (mod_act : Nat → Int32) (mod_with : Nat → Int32) (mod_lineMany : Nat → Int32) (mod_testEnd : Nat → Int32) (mod_lineEnd : Nat → Int32) (h : g56 x1 mod_taped mod_here mod_fault mod_open mod_laid mod_act mod_with mod_lineMany mod_testEnd mod_lineEnd = some R) (H : Heap) (locs : List Loc) (ls : Array Slot) (hP : va_P D classes (wl_X12_law ad cs mod_code mod_shoes mod_claims mod_taped mod_here mod_fault mod_suits mod_doneMany mod_undoneMany mod_open mod_laid mod_isBoth mod_wished mod_bestMany mod_bestRow mod_ringDigits mod_traces mod_tape mod_act mod_with mod_lineMany mod_testEnd mod_lineEnd) H) (hD : va_D A (wl_X12_law ad cs mod_code mod_shoes mod_claims mod_taped mod_here mod_fault mod_suits mod_doneMany mod_undoneMany mod_open mod_laid mod_isBoth mod_wished mod_bestMany mod_bestRow mod_ringDigits mod_traces mod_tape mod_act mod_with mod_lineMany mod_testEnd mod_lineEnd)) (hS : va_S A s.heap H locs) (hl : lv_has ls 4 [(0, .ref (ad 41)), (1, .int x1)]), W p l e rm_X12_law s m args below meth c H locs 0 0 (MQ below (Q_X12_law D cs ad mod_code mod_shoes mod_claims mod_suits mod_doneMany mod_undoneMany mod_isBoth mod_wished mod_bestMany mod_bestRow mod_ringDigits mod_traces mod_tape A R) args s 0 0 A) (F0 m 56 ls [])) (ih146 : ∀ (x2 : Int32) (x3 : Int32) (mod_taped : Int32) (mod_here : Int32) (mod_fault : Int32) (mod_open : Int32) (mod_laid : Int32) (mod_act : Nat → Int32) (mod_with : Nat → Int32) (mod_lineMany : Nat → Int32) (mod_testEnd : Nat → Int32) (mod_lineEnd : Nat → Int32) (h : g146 x2 x3 mod_taped mod_here mod_fault mod_open mod_laid mod_act mod_with mod_lineMany mod_testEnd mod_lineEnd = some R) (H : Heap) (locs : List Loc) (ls : Array Slot) (hP : va_P D classes (wl_X12_law ad cs mod_code mod_shoes mod_claims mod_taped mod_here mod_fault mod_suits mod_doneMany mod_undoneMany mod_open mod_laid mod_isBoth mod_wished mod_bestMany mod_bestRow mod_ringDigits mod_traces mod_tape mod_act mod_with mod_lineMany mod_testEnd mod_lineEnd) H) (hD : va_D A (wl_X12_law ad cs mod_code mod_shoes mod_claims mod_taped mod_here mod_fault mod_suits mod_doneMany mod_undoneMany mod_open mod_laid mod_isBoth mod_wished mod_bestMany mod_bestRow mod_ringDigits mod_traces mod_tape mod_act mod_with mod_lineMany mod_testEnd mod_lineEnd)) (hS : va_S A s.heap H locs) (hl : lv_has ls 4 [(0, .ref (ad 41)), (2, .int x2), (3, .int x3)]), W p l e rm_X12_law s m args below meth c H locs 0 0 (MQ below (Q_X12_law D cs ad mod_code mod_shoes mod_claims mod_suits mod_doneMany mod_undoneMany mod_isBoth mod_wished mod_bestMany mod_bestRow mod_ringDigits mod_traces mod_tape A R) args s 0 0 A) (F0 m 146 ls [])) (ih219 : ∀ (x2 : Int32) (x3 : Int32) (mod_taped : Int32) (mod_here : Int32) (mod_fault : Int32) (mod_open : Int32) (mod_laid : Int32) (mod_act : Nat → Int32) (mod_with : Nat → Int32) (mod_lineMany : Nat → Int32) (mod_testEnd : Nat → Int32) (mod_lineEnd : Nat → Int32) (h : g219 x2 x3 mod_taped mod_here mod_fault mod_open mod_laid mod_act mod_with mod_lineMany mod_testEnd mod_lineEnd = some R) (H : Heap) (locs : List Loc) (ls : Array Slot) (hP : va_P D classes (wl_X12_law ad cs mod_code mod_shoes mod_claims mod_taped mod_here mod_fault mod_suits mod_doneMany mod_undoneMany mod_open mod_laid mod_isBoth mod_wished mod_bestMany mod_bestRow mod_ringDigits mod_traces mod_tape mod_act mod_with mod_lineMany mod_testEnd mod_lineEnd) H) (hD : va_D A (wl_X12_law ad cs mod_code mod_shoes mod_claims mod_taped mod_here mod_fault mod_suits mod_doneMany mod_undoneMany mod_open mod_laid mod_isBoth mod_wished mod_bestMany mod_bestRow mod_ringDigits mod_traces mod_tape mod_act mod_with mod_lineMany mod_testEnd mod_lineEnd)) (hS : va_S A s.heap H locs) (hl : lv_has ls 4 [(0, .ref (ad 41)), (2, .int x2), (3, .int x3)]), W p l e rm_X12_law s m args below meth c H locs 0 0 (MQ below (Q_X12_law D cs ad mod_code mod_shoes mod_claims mod_suits mod_doneMany mod_undoneMany mod_isBoth mod_wished mod_bestMany mod_bestRow mod_ringDigits mod_traces mod_tape A R) args s 0 0 A) (F0 m 219 ls [])) (x2 : Int32) (x3 : Int32) (mod_taped : Int32) (mod_here : Int32) (mod_fault : Int32) (mod_open : Int32) (mod_laid : Int32) (mod_act : Nat → Int32) (mod_with : Nat → Int32) (mod_lineMany : Nat → Int32) (mod_testEnd : Nat → Int32) (mod_lineEnd : Nat → Int32) (h : B_X12_law_146 g56 g146 g219 mod_code mod_shoes mod_claims mod_suits mod_doneMany mod_undoneMany mod_isBoth mod_wished mod_bestMany mod_bestRow mod_ringDigits mod_traces mod_tape x2 x3 mod_taped mod_here mod_fault mod_open mod_laid mod_act mod_with mod_lineMany mod_testEnd mod_lineEnd = some R) (H : Heap) (locs : List Loc) (ls : Array Slot) (hP : va_P D classes (wl_X12_law ad cs mod_code mod_shoes mod_claims mod_taped mod_here mod_fault mod_suits mod_doneMany mod_undoneMany mod_open mod_laid mod_isBoth mod_wished mod_bestMany mod_bestRow mod_ringDigits mod_traces mod_tape mod_act mod_with mod_lineMany mod_testEnd mod_lineEnd) H) (hD : va_D A (wl_X12_law ad cs mod_code mod_shoes mod_claims mod_taped mod_here mod_fault mod_suits mod_doneMany mod_undoneMany mod_open mod_laid mod_isBoth mod_wished mod_bestMany mod_bestRow mod_ringDigits mod_traces mod_tape mod_act mod_with mod_lineMany mod_testEnd mod_lineEnd)) (hS : va_S A s.heap H locs) (hl : lv_has ls 4 [(0, .ref (ad 41)), (2, .int x2), (3, .int x3)]) : W p l e rm_X12_law s m args below meth c H locs 0 0 (MQ below (Q_X12_law D cs ad mod_code mod_shoes mod_claims mod_suits mod_doneMany mod_undoneMany mod_isBoth mod_wished mod_bestMany mod_bestRow mod_ringDigits mod_traces mod_tape A R) args s 0 0 A) (F0 m 146 ls []) := by
  obtain ⟨hx, hb, hr, hml, hown, ht, hlocks⟩ := id C0
  refine lv_iload_n hx hb dX12_law_146 rfl (lv_at hl 2 rfl) ?_
  refine lv_aload_n hx hb dX12_law_147 rfl (lv_at hl 0 rfl) ?_
  refine va_get (D := D) (ci := 12) (v := .int mod_laid) (C := RX12) (T := TX12) (N := 60) hx hb ht iX12 hown hK hP 0 rfl rfl 34 (by decide) (ht _ kw_1329) (fun _ h9 => h9) rfl dX12_law_148 ?_
  refine lv_icmp_ge (tgt := 204) hx hb dX12_law_151 (by decide) (fun c_40 => ?_) (fun c_40 => ?_)
  · have h := zk_t c_40 h
    refine lv_aload_n hx hb dX12_law_204 rfl (lv_at hl 0 rfl) ?_
    refine va_get (D := D) (ci := 12) (v := .ref (ad 68)) (C := RX12) (T := TX12) (N := 60) hx hb ht iX12 hown hK hP 0 rfl rfl 37 (by decide) (ht _ kw_1332) (fun _ h9 => h9) rfl dX12_law_205 ?_
    refine lv_iload_n hx hb dX12_law_208 rfl (lv_at hl 1 rfl) ?_
    refine lv_aload_n hx hb dX12_law_209 rfl (lv_at hl 0 rfl) ?_
    refine va_get (D := D) (ci := 12) (v := .ref (ad 68)) (C := RX12) (T := TX12) (N := 60) hx hb ht iX12 hown hK hP 0 rfl rfl 37 (by decide) (ht _ kw_1332) (fun _ h9 => h9) rfl dX12_law_210 ?_
    refine lv_bipush (v := (32 : Int32)) hx hb dX12_law_213 (by decide) ?_
    refine va_iald hx hb hK hP 4 0 rfl rfl (by unfold vp_in; decide) dX12_law_215 ?_
    obtain ⟨v_41, ev_41, h⟩ := zk_lt h
    refine W.eq (g2 := F0 m 216 ls [.int v_41, .int x2, .ref (ad 68)]) (by rw [ev_41]) ?_
    obtain ⟨g_42, h⟩ := zk_gd h
    obtain ⟨f_43, ef_43, h⟩ := zk_lt h
    refine va_iast hx hb hK hP hD hS 4 0 rfl rfl g_42 dX12_law_216 (fun H locs hP hD hS => ?_)
    have hP : va_P D classes (wl_X12_law ad cs mod_code mod_shoes mod_claims mod_taped mod_here mod_fault mod_suits mod_doneMany mod_undoneMany mod_open mod_laid mod_isBoth mod_wished mod_bestMany mod_bestRow mod_ringDigits mod_traces mod_tape mod_act mod_with f_43 mod_testEnd mod_lineEnd) H := by rw [ef_43]; exact hP
    have hD : va_D A (wl_X12_law ad cs mod_code mod_shoes mod_claims mod_taped mod_here mod_fault mod_suits mod_doneMany mod_undoneMany mod_open mod_laid mod_isBoth mod_wished mod_bestMany mod_bestRow mod_ringDigits mod_traces mod_tape mod_act mod_with f_43 mod_testEnd mod_lineEnd) := by rw [ef_43]; exact hD
    refine lv_iconst (v := (0 : Int32)) hx hb dX12_law_217 (by decide) ?_
    refine lv_istore_n (lv' := [(3, .int (0 : Int32)), (0, .ref (ad 41)), (2, .int x2)]) hx hb dX12_law_218 rfl hl (by decide) rfl (fun ls hl => ?_)
    exact ih219 x2 (0 : Int32) mod_taped mod_here mod_fault mod_open mod_laid mod_act mod_with f_43 mod_testEnd mod_lineEnd h H locs ls hP hD hS (lv_sub hl [1, 2, 0] rfl)
  · have h := zk_f c_40 h
    refine lv_aload_n hx hb dX12_law_154 rfl (lv_at hl 0 rfl) ?_
    refine va_get (D := D) (ci := 12) (v := .ref (ad 66)) (C := RX12) (T := TX12) (N := 60) hx hb ht iX12 hown hK hP 0 rfl rfl 35 (by decide) (ht _ kw_1330) (fun _ h9 => h9) rfl dX12_law_155 ?_
    refine lv_sipush (v := (130 : Int32)) hx hb dX12_law_158 (by decide) ?_
    refine lv_iload_n hx hb dX12_law_161 rfl (lv_at hl 1 rfl) ?_
    refine lv_imul hx hb dX12_law_162 ?_
    refine lv_iload_n hx hb dX12_law_163 rfl (lv_at hl 2 rfl) ?_
    refine lv_iadd hx hb dX12_law_164 ?_
    refine lv_aload_n hx hb dX12_law_165 rfl (lv_at hl 0 rfl) ?_
    refine va_get (D := D) (ci := 12) (v := .ref (ad 66)) (C := RX12) (T := TX12) (N := 60) hx hb ht iX12 hown hK hP 0 rfl rfl 35 (by decide) (ht _ kw_1330) (fun _ h9 => h9) rfl dX12_law_166 ?_
    refine lv_sipush (v := (4160 : Int32)) hx hb dX12_law_169 (by decide) ?_
    refine lv_iload_n hx hb dX12_law_172 rfl (lv_at hl 2 rfl) ?_
    refine lv_iadd hx hb dX12_law_173 ?_
    obtain ⟨g_44, h⟩ := zk_gd h
    refine va_bald hx hb hK hP 2 2 rfl rfl g_44 dX12_law_174 ?_
    obtain ⟨v_45, ev_45, h⟩ := zk_lt h
    refine W.eq (g2 := F0 m 175 ls [.int v_45, .int (((130 : Int32) * x2) + x3), .ref (ad 66)]) (by rw [ev_45]) ?_
    obtain ⟨g_46, h⟩ := zk_gd h
    obtain ⟨f_47, ef_47, h⟩ := zk_lt h
    refine va_bast hx hb hK hP hD hS 2 2 rfl rfl g_46 dX12_law_175 (fun H locs hP hD hS => ?_)
    have hP : va_P D classes (wl_X12_law ad cs mod_code mod_shoes mod_claims mod_taped mod_here mod_fault mod_suits mod_doneMany mod_undoneMany mod_open mod_laid mod_isBoth mod_wished mod_bestMany mod_bestRow mod_ringDigits mod_traces mod_tape f_47 mod_with mod_lineMany mod_testEnd mod_lineEnd) H := by rw [ef_47]; exact hP
    have hD : va_D A (wl_X12_law ad cs mod_code mod_shoes mod_claims mod_taped mod_here mod_fault mod_suits mod_doneMany mod_undoneMany mod_open mod_laid mod_isBoth mod_wished mod_bestMany mod_bestRow mod_ringDigits mod_traces mod_tape f_47 mod_with mod_lineMany mod_testEnd mod_lineEnd) := by rw [ef_47]; exact hD
    refine lv_aload_n hx hb dX12_law_176 rfl (lv_at hl 0 rfl) ?_
    refine va_get (D := D) (ci := 12) (v := .ref (ad 67)) (C := RX12) (T := TX12) (N := 60) hx hb ht iX12 hown hK hP 0 rfl rfl 36 (by decide) (ht _ kw_1331) (fun _ h9 => h9) rfl dX12_law_177 ?_
    refine lv_sipush (v := (130 : Int32)) hx hb dX12_law_180 (by decide) ?_
    refine lv_iload_n hx hb dX12_law_183 rfl (lv_at hl 1 rfl) ?_
    refine lv_imul hx hb dX12_law_184 ?_
    refine lv_iload_n hx hb dX12_law_185 rfl (lv_at hl 2 rfl) ?_
    refine lv_iadd hx hb dX12_law_186 ?_
    refine lv_aload_n hx hb dX12_law_187 rfl (lv_at hl 0 rfl) ?_
    refine va_get (D := D) (ci := 12) (v := .ref (ad 67)) (C := RX12) (T := TX12) (N := 60) hx hb ht iX12 hown hK hP 0 rfl rfl 36 (by decide) (ht _ kw_1331) (fun _ h9 => h9) rfl dX12_law_188 ?_
    refine lv_sipush (v := (4160 : Int32)) hx hb dX12_law_191 (by decide) ?_
    refine lv_iload_n hx hb dX12_law_194 rfl (lv_at hl 2 rfl) ?_
    refine lv_iadd hx hb dX12_law_195 ?_
    obtain ⟨g_48, h⟩ := zk_gd h
    refine va_iald hx hb hK hP 3 0 rfl rfl g_48 dX12_law_196 ?_
    obtain ⟨v_49, ev_49, h⟩ := zk_lt h
    refine W.eq (g2 := F0 m 197 ls [.int v_49, .int (((130 : Int32) * x2) + x3), .ref (ad 67)]) (by rw [ev_49]) ?_
    obtain ⟨g_50, h⟩ := zk_gd h
    obtain ⟨f_51, ef_51, h⟩ := zk_lt h
    refine va_iast hx hb hK hP hD hS 3 0 rfl rfl g_50 dX12_law_197 (fun H locs hP hD hS => ?_)
    have hP : va_P D classes (wl_X12_law ad cs mod_code mod_shoes mod_claims mod_taped mod_here mod_fault mod_suits mod_doneMany mod_undoneMany mod_open mod_laid mod_isBoth mod_wished mod_bestMany mod_bestRow mod_ringDigits mod_traces mod_tape f_47 f_51 mod_lineMany mod_testEnd mod_lineEnd) H := by rw [ef_51]; exact hP
    have hD : va_D A (wl_X12_law ad cs mod_code mod_shoes mod_claims mod_taped mod_here mod_fault mod_suits mod_doneMany mod_undoneMany mod_open mod_laid mod_isBoth mod_wished mod_bestMany mod_bestRow mod_ringDigits mod_traces mod_tape f_47 f_51 mod_lineMany mod_testEnd mod_lineEnd) := by rw [ef_51]; exact hD
    obtain ⟨v_52, ev_52, h⟩ := zk_lt h
    refine lv_iinc (v := v_52) (lv' := [(3, .int v_52), (0, .ref (ad 41)), (2, .int x2)]) hx hb dX12_law_198 hl (k := 2) rfl (by rw [ev_52]; rfl) (by decide) rfl (fun ls hl => ?_)
    refine lv_goto (tgt := 146) hx hb dX12_law_201 (by decide) ?_
    exact ih146 x2 v_52 mod_taped mod_here mod_fault mod_open mod_laid f_47 f_51 mod_lineMany mod_testEnd mod_lineEnd h H locs ls hP hD hS (lv_sub hl [1, 2, 0] rfl)
set_option maxHeartbeats 4000000 in
set_option maxRecDepth 100000 in
theorem L_X12_law_111 {p : Program} {l : Launch} {e : Env} {s : State} {m : MethodId} {args : Array Value} {below : List Frame} {meth : Method} {c : Code} {A : Nat → Prop} {D : va_G} {cs : Nat → ClassId} {ad : Nat → Nat} {mod_code : Int32} {mod_shoes : Int32} {mod_claims : Int32} {mod_suits : Int32} {mod_doneMany : Int32} {mod_undoneMany : Int32} {mod_isBoth : Int32} {mod_wished : Int32} {mod_bestMany : Int32} {mod_bestRow : Int32} {mod_ringDigits : Int32} {mod_traces : Int32} {mod_tape : Nat → Int32} {R : Int32 × Int32 × Int32 × Int32 × Int32 × Int32 × (Nat → Int32) × (Nat → Int32) × (Nat → Int32) × (Nat → Int32) × (Nat → Int32)} {g56 : Int32 → Int32 → Int32 → Int32 → Int32 → Int32 → (Nat → Int32) → (Nat → Int32) → (Nat → Int32) → (Nat → Int32) → (Nat → Int32) → (Option (Int32 × Int32 × Int32 × Int32 × Int32 × Int32 × (Nat → Int32) × (Nat → Int32) × (Nat → Int32) × (Nat → Int32) × (Nat → Int32)))} {g146 : Int32 → Int32 → Int32 → Int32 → Int32 → Int32 → Int32 → (Nat → Int32) → (Nat → Int32) → (Nat → Int32) → (Nat → Int32) → (Nat → Int32) → (Option (Int32 × Int32 × Int32 × Int32 × Int32 × Int32 × (Nat → Int32) × (Nat → Int32) × (Nat → Int32) × (Nat → Int32) × (Nat → Int32)))} {g219 : Int32 → Int32 → Int32 → Int32 → Int32 → Int32 → Int32 → (Nat → Int32) → (Nat → Int32) → (Nat → Int32) → (Nat → Int32) → (Nat → Int32) → (Option (Int32 × Int32 × Int32 × Int32 × Int32 × Int32 × (Nat → Int32) × (Nat → Int32) × (Nat → Int32) × (Nat → Int32) × (Nat → Int32)))} (C0 : zC p s m args meth c cX12_law 4 (some .int) RX12 zW) (hK : va_K D classes (zT cs) s) (hA : ∀ q : Nat, s.heap.size ≤ q → A q) (ih56 : ∀ (x1 : Int32) (mod_taped : Int32) (mod_here : Int32) (mod_fault : Int32) (mod_open : Int32) (mod_laid : Int32) (mod_act : Nat → Int32) (mod_with : Nat → Int32) (mod_lineMany : Nat → Int32) (mod_testEnd : Nat → Int32) (mod_lineEnd : Nat → Int32) (h : g56 x1 mod_taped mod_here mod_fault mod_open mod_laid mod_act mod_with mod_lineMany mod_testEnd mod_lineEnd = some R) (H : Heap) (locs : List Loc) (ls : Array Slot) (hP : va_P D classes (wl_X12_law ad cs mod_code mod_shoes mod_claims mod_taped mod_here mod_fault mod_suits mod_doneMany mod_undoneMany mod_open mod_laid mod_isBoth mod_wished mod_bestMany mod_bestRow mod_ringDigits mod_traces mod_tape mod_act mod_with mod_lineMany mod_testEnd mod_lineEnd) H) (hD : va_D A (wl_X12_law ad cs mod_code mod_shoes mod_claims mod_taped mod_here mod_fault mod_suits mod_doneMany mod_undoneMany mod_open mod_laid mod_isBoth mod_wished mod_bestMany mod_bestRow mod_ringDigits mod_traces mod_tape mod_act mod_with mod_lineMany mod_testEnd mod_lineEnd)) (hS : va_S A s.heap H locs) (hl : lv_has ls 4 [(0, .ref (ad 41)), (1, .int x1)]), W p l e rm_X12_law s m args below meth c H locs 0 0 (MQ below (Q_X12_law D cs ad mod_code mod_shoes mod_claims mod_suits mod_doneMany mod_undoneMany mod_isBoth mod_wished mod_bestMany mod_bestRow mod_ringDigits mod_traces mod_tape A R) args s 0 0 A) (F0 m 56 ls [])) (ih146 : ∀ (x2 : Int32) (x3 : Int32) (mod_taped : Int32) (mod_here : Int32) (mod_fault : Int32) (mod_open : Int32) (mod_laid : Int32) (mod_act : Nat → Int32) (mod_with : Nat → Int32) (mod_lineMany : Nat → Int32) (mod_testEnd : Nat → Int32) (mod_lineEnd : Nat → Int32) (h : g146 x2 x3 mod_taped mod_here mod_fault mod_open mod_laid mod_act mod_with mod_lineMany mod_testEnd mod_lineEnd = some R) (H : Heap) (locs : List Loc) (ls : Array Slot) (hP : va_P D classes (wl_X12_law ad cs mod_code mod_shoes mod_claims mod_taped mod_here mod_fault mod_suits mod_doneMany mod_undoneMany mod_open mod_laid mod_isBoth mod_wished mod_bestMany mod_bestRow mod_ringDigits mod_traces mod_tape mod_act mod_with mod_lineMany mod_testEnd mod_lineEnd) H) (hD : va_D A (wl_X12_law ad cs mod_code mod_shoes mod_claims mod_taped mod_here mod_fault mod_suits mod_doneMany mod_undoneMany mod_open mod_laid mod_isBoth mod_wished mod_bestMany mod_bestRow mod_ringDigits mod_traces mod_tape mod_act mod_with mod_lineMany mod_testEnd mod_lineEnd)) (hS : va_S A s.heap H locs) (hl : lv_has ls 4 [(0, .ref (ad 41)), (2, .int x2), (3, .int x3)]), W p l e rm_X12_law s m args below meth c H locs 0 0 (MQ below (Q_X12_law D cs ad mod_code mod_shoes mod_claims mod_suits mod_doneMany mod_undoneMany mod_isBoth mod_wished mod_bestMany mod_bestRow mod_ringDigits mod_traces mod_tape A R) args s 0 0 A) (F0 m 146 ls [])) (ih219 : ∀ (x2 : Int32) (x3 : Int32) (mod_taped : Int32) (mod_here : Int32) (mod_fault : Int32) (mod_open : Int32) (mod_laid : Int32) (mod_act : Nat → Int32) (mod_with : Nat → Int32) (mod_lineMany : Nat → Int32) (mod_testEnd : Nat → Int32) (mod_lineEnd : Nat → Int32) (h : g219 x2 x3 mod_taped mod_here mod_fault mod_open mod_laid mod_act mod_with mod_lineMany mod_testEnd mod_lineEnd = some R) (H : Heap) (locs : List Loc) (ls : Array Slot) (hP : va_P D classes (wl_X12_law ad cs mod_code mod_shoes mod_claims mod_taped mod_here mod_fault mod_suits mod_doneMany mod_undoneMany mod_open mod_laid mod_isBoth mod_wished mod_bestMany mod_bestRow mod_ringDigits mod_traces mod_tape mod_act mod_with mod_lineMany mod_testEnd mod_lineEnd) H) (hD : va_D A (wl_X12_law ad cs mod_code mod_shoes mod_claims mod_taped mod_here mod_fault mod_suits mod_doneMany mod_undoneMany mod_open mod_laid mod_isBoth mod_wished mod_bestMany mod_bestRow mod_ringDigits mod_traces mod_tape mod_act mod_with mod_lineMany mod_testEnd mod_lineEnd)) (hS : va_S A s.heap H locs) (hl : lv_has ls 4 [(0, .ref (ad 41)), (2, .int x2), (3, .int x3)]), W p l e rm_X12_law s m args below meth c H locs 0 0 (MQ below (Q_X12_law D cs ad mod_code mod_shoes mod_claims mod_suits mod_doneMany mod_undoneMany mod_isBoth mod_wished mod_bestMany mod_bestRow mod_ringDigits mod_traces mod_tape A R) args s 0 0 A) (F0 m 219 ls [])) (x1 : Int32) (mod_taped : Int32) (mod_here : Int32) (mod_fault : Int32) (mod_open : Int32) (mod_laid : Int32) (mod_act : Nat → Int32) (mod_with : Nat → Int32) (mod_lineMany : Nat → Int32) (mod_testEnd : Nat → Int32) (mod_lineEnd : Nat → Int32) (h : B_X12_law_111 g56 g146 g219 mod_code mod_shoes mod_claims mod_suits mod_doneMany mod_undoneMany mod_isBoth mod_wished mod_bestMany mod_bestRow mod_ringDigits mod_traces mod_tape x1 mod_taped mod_here mod_fault mod_open mod_laid mod_act mod_with mod_lineMany mod_testEnd mod_lineEnd = some R) (H : Heap) (locs : List Loc) (ls : Array Slot) (hP : va_P D classes (wl_X12_law ad cs mod_code mod_shoes mod_claims mod_taped mod_here mod_fault mod_suits mod_doneMany mod_undoneMany mod_open mod_laid mod_isBoth mod_wished mod_bestMany mod_bestRow mod_ringDigits mod_traces mod_tape mod_act mod_with mod_lineMany mod_testEnd mod_lineEnd) H) (hD : va_D A (wl_X12_law ad cs mod_code mod_shoes mod_claims mod_taped mod_here mod_fault mod_suits mod_doneMany mod_undoneMany mod_open mod_laid mod_isBoth mod_wished mod_bestMany mod_bestRow mod_ringDigits mod_traces mod_tape mod_act mod_with mod_lineMany mod_testEnd mod_lineEnd)) (hS : va_S A s.heap H locs) (hl : lv_has ls 4 [(0, .ref (ad 41)), (1, .int x1)]) : W p l e rm_X12_law s m args below meth c H locs 0 0 (MQ below (Q_X12_law D cs ad mod_code mod_shoes mod_claims mod_suits mod_doneMany mod_undoneMany mod_isBoth mod_wished mod_bestMany mod_bestRow mod_ringDigits mod_traces mod_tape A R) args s 0 0 A) (F0 m 111 ls []) := by
  obtain ⟨hx, hb, hr, hml, hown, ht, hlocks⟩ := id C0
  refine lv_aload_n hx hb dX12_law_111 rfl (lv_at hl 0 rfl) ?_
  refine lv_iconst (v := (0 : Int32)) hx hb dX12_law_112 (by decide) ?_
  refine va_put (D := D) (ci := 12) (v := .int (0 : Int32)) (ty := .int) (C := RX12) (T := TX12) (N := 60) hx hb ht iX12 tyX12 tyX12_ok nmX12 hown hK hP hD hS 0 rfl rfl 12 (by decide) (ht _ kw_1307) (fun _ h9 => h9) rfl (by decide +kernel) rfl rfl (Nat.le_of_ble_eq_true rfl) dX12_law_113 (fun H locs hP hD hS => ?_)
  have hP : va_P D classes (wl_X12_law ad cs mod_code mod_shoes mod_claims (0 : Int32) mod_here mod_fault mod_suits mod_doneMany mod_undoneMany mod_open mod_laid mod_isBoth mod_wished mod_bestMany mod_bestRow mod_ringDigits mod_traces mod_tape mod_act mod_with mod_lineMany mod_testEnd mod_lineEnd) H := hP
  have hD : va_D A (wl_X12_law ad cs mod_code mod_shoes mod_claims (0 : Int32) mod_here mod_fault mod_suits mod_doneMany mod_undoneMany mod_open mod_laid mod_isBoth mod_wished mod_bestMany mod_bestRow mod_ringDigits mod_traces mod_tape mod_act mod_with mod_lineMany mod_testEnd mod_lineEnd) := hD
  refine lv_aload_n hx hb dX12_law_116 rfl (lv_at hl 0 rfl) ?_
  refine va_get (D := D) (ci := 12) (v := .int mod_fault) (C := RX12) (T := TX12) (N := 60) hx hb ht iX12 hown hK hP 0 rfl rfl 14 (by decide) (ht _ kw_1309) (fun _ h9 => h9) rfl dX12_law_117 ?_
  refine lv_if_lt (tgt := 131) hx hb dX12_law_120 (by decide) (fun c_38 => ?_) (fun c_38 => ?_)
  · have h := zk_t c_38 h
    refine lv_bipush (v := (8 : Int32)) hx hb dX12_law_131 (by decide) ?_
    refine lv_iload_n hx hb dX12_law_133 rfl (lv_at hl 1 rfl) ?_
    refine lv_bipush (v := (10 : Int32)) hx hb dX12_law_134 (by decide) ?_
    refine lv_idiv hx hb dX12_law_136 (by decide) ?_
    refine lv_imul hx hb dX12_law_137 ?_
    refine lv_iload_n hx hb dX12_law_138 rfl (lv_at hl 1 rfl) ?_
    refine lv_bipush (v := (10 : Int32)) hx hb dX12_law_139 (by decide) ?_
    refine lv_irem hx hb dX12_law_141 (by decide) ?_
    refine lv_iadd hx hb dX12_law_142 ?_
    obtain ⟨v_39, ev_39, h⟩ := zk_lt h
    refine W.eq (g2 := F0 m 143 ls [.int v_39]) (by rw [ev_39]) ?_
    refine lv_istore_n (lv' := [(2, .int v_39), (0, .ref (ad 41)), (1, .int x1)]) hx hb dX12_law_143 rfl hl (by decide) rfl (fun ls hl => ?_)
    refine lv_iconst (v := (0 : Int32)) hx hb dX12_law_144 (by decide) ?_
    refine lv_istore_n (lv' := [(3, .int (0 : Int32)), (2, .int v_39), (0, .ref (ad 41)), (1, .int x1)]) hx hb dX12_law_145 rfl hl (by decide) rfl (fun ls hl => ?_)
    exact ih146 v_39 (0 : Int32) (0 : Int32) mod_here mod_fault mod_open mod_laid mod_act mod_with mod_lineMany mod_testEnd mod_lineEnd h H locs ls hP hD hS (lv_sub hl [2, 1, 0] rfl)
  · have h := zk_f c_38 h
    refine lv_bipush (v := (-100 : Int32)) hx hb dX12_law_123 (by decide) ?_
    refine lv_aload_n hx hb dX12_law_125 rfl (lv_at hl 0 rfl) ?_
    refine va_get (D := D) (ci := 12) (v := .int mod_fault) (C := RX12) (T := TX12) (N := 60) hx hb ht iX12 hown hK hP 0 rfl rfl 14 (by decide) (ht _ kw_1309) (fun _ h9 => h9) rfl dX12_law_126 ?_
    refine lv_isub hx hb dX12_law_129 ?_
    exact W.iret (v := (-100 : Int32) - mod_fault) hx hb hr (fun t ht2 hW => ⟨⟨(-100 : Int32) - mod_fault, ((0 : Int32), mod_here, mod_fault, mod_open, mod_laid, mod_act, mod_with, mod_lineMany, mod_testEnd, mod_lineEnd), rfl, Option.some.inj h, by rw [ht2]; exact hP, hD⟩, hS.F ht2⟩) hS.2.2 dX12_law_130 hlocks
set_option maxHeartbeats 4000000 in
set_option maxRecDepth 100000 in
theorem L_X12_law_89 {p : Program} {l : Launch} {e : Env} {s : State} {m : MethodId} {args : Array Value} {below : List Frame} {meth : Method} {c : Code} {A : Nat → Prop} {D : va_G} {cs : Nat → ClassId} {ad : Nat → Nat} {mod_code : Int32} {mod_shoes : Int32} {mod_claims : Int32} {mod_suits : Int32} {mod_doneMany : Int32} {mod_undoneMany : Int32} {mod_isBoth : Int32} {mod_wished : Int32} {mod_bestMany : Int32} {mod_bestRow : Int32} {mod_ringDigits : Int32} {mod_traces : Int32} {mod_tape : Nat → Int32} {R : Int32 × Int32 × Int32 × Int32 × Int32 × Int32 × (Nat → Int32) × (Nat → Int32) × (Nat → Int32) × (Nat → Int32) × (Nat → Int32)} {g56 : Int32 → Int32 → Int32 → Int32 → Int32 → Int32 → (Nat → Int32) → (Nat → Int32) → (Nat → Int32) → (Nat → Int32) → (Nat → Int32) → (Option (Int32 × Int32 × Int32 × Int32 × Int32 × Int32 × (Nat → Int32) × (Nat → Int32) × (Nat → Int32) × (Nat → Int32) × (Nat → Int32)))} {g146 : Int32 → Int32 → Int32 → Int32 → Int32 → Int32 → Int32 → (Nat → Int32) → (Nat → Int32) → (Nat → Int32) → (Nat → Int32) → (Nat → Int32) → (Option (Int32 × Int32 × Int32 × Int32 × Int32 × Int32 × (Nat → Int32) × (Nat → Int32) × (Nat → Int32) × (Nat → Int32) × (Nat → Int32)))} {g219 : Int32 → Int32 → Int32 → Int32 → Int32 → Int32 → Int32 → (Nat → Int32) → (Nat → Int32) → (Nat → Int32) → (Nat → Int32) → (Nat → Int32) → (Option (Int32 × Int32 × Int32 × Int32 × Int32 × Int32 × (Nat → Int32) × (Nat → Int32) × (Nat → Int32) × (Nat → Int32) × (Nat → Int32)))} (C0 : zC p s m args meth c cX12_law 4 (some .int) RX12 zW) (hK : va_K D classes (zT cs) s) (hA : ∀ q : Nat, s.heap.size ≤ q → A q) (ih56 : ∀ (x1 : Int32) (mod_taped : Int32) (mod_here : Int32) (mod_fault : Int32) (mod_open : Int32) (mod_laid : Int32) (mod_act : Nat → Int32) (mod_with : Nat → Int32) (mod_lineMany : Nat → Int32) (mod_testEnd : Nat → Int32) (mod_lineEnd : Nat → Int32) (h : g56 x1 mod_taped mod_here mod_fault mod_open mod_laid mod_act mod_with mod_lineMany mod_testEnd mod_lineEnd = some R) (H : Heap) (locs : List Loc) (ls : Array Slot) (hP : va_P D classes (wl_X12_law ad cs mod_code mod_shoes mod_claims mod_taped mod_here mod_fault mod_suits mod_doneMany mod_undoneMany mod_open mod_laid mod_isBoth mod_wished mod_bestMany mod_bestRow mod_ringDigits mod_traces mod_tape mod_act mod_with mod_lineMany mod_testEnd mod_lineEnd) H) (hD : va_D A (wl_X12_law ad cs mod_code mod_shoes mod_claims mod_taped mod_here mod_fault mod_suits mod_doneMany mod_undoneMany mod_open mod_laid mod_isBoth mod_wished mod_bestMany mod_bestRow mod_ringDigits mod_traces mod_tape mod_act mod_with mod_lineMany mod_testEnd mod_lineEnd)) (hS : va_S A s.heap H locs) (hl : lv_has ls 4 [(0, .ref (ad 41)), (1, .int x1)]), W p l e rm_X12_law s m args below meth c H locs 0 0 (MQ below (Q_X12_law D cs ad mod_code mod_shoes mod_claims mod_suits mod_doneMany mod_undoneMany mod_isBoth mod_wished mod_bestMany mod_bestRow mod_ringDigits mod_traces mod_tape A R) args s 0 0 A) (F0 m 56 ls [])) (ih146 : ∀ (x2 : Int32) (x3 : Int32) (mod_taped : Int32) (mod_here : Int32) (mod_fault : Int32) (mod_open : Int32) (mod_laid : Int32) (mod_act : Nat → Int32) (mod_with : Nat → Int32) (mod_lineMany : Nat → Int32) (mod_testEnd : Nat → Int32) (mod_lineEnd : Nat → Int32) (h : g146 x2 x3 mod_taped mod_here mod_fault mod_open mod_laid mod_act mod_with mod_lineMany mod_testEnd mod_lineEnd = some R) (H : Heap) (locs : List Loc) (ls : Array Slot) (hP : va_P D classes (wl_X12_law ad cs mod_code mod_shoes mod_claims mod_taped mod_here mod_fault mod_suits mod_doneMany mod_undoneMany mod_open mod_laid mod_isBoth mod_wished mod_bestMany mod_bestRow mod_ringDigits mod_traces mod_tape mod_act mod_with mod_lineMany mod_testEnd mod_lineEnd) H) (hD : va_D A (wl_X12_law ad cs mod_code mod_shoes mod_claims mod_taped mod_here mod_fault mod_suits mod_doneMany mod_undoneMany mod_open mod_laid mod_isBoth mod_wished mod_bestMany mod_bestRow mod_ringDigits mod_traces mod_tape mod_act mod_with mod_lineMany mod_testEnd mod_lineEnd)) (hS : va_S A s.heap H locs) (hl : lv_has ls 4 [(0, .ref (ad 41)), (2, .int x2), (3, .int x3)]), W p l e rm_X12_law s m args below meth c H locs 0 0 (MQ below (Q_X12_law D cs ad mod_code mod_shoes mod_claims mod_suits mod_doneMany mod_undoneMany mod_isBoth mod_wished mod_bestMany mod_bestRow mod_ringDigits mod_traces mod_tape A R) args s 0 0 A) (F0 m 146 ls [])) (ih219 : ∀ (x2 : Int32) (x3 : Int32) (mod_taped : Int32) (mod_here : Int32) (mod_fault : Int32) (mod_open : Int32) (mod_laid : Int32) (mod_act : Nat → Int32) (mod_with : Nat → Int32) (mod_lineMany : Nat → Int32) (mod_testEnd : Nat → Int32) (mod_lineEnd : Nat → Int32) (h : g219 x2 x3 mod_taped mod_here mod_fault mod_open mod_laid mod_act mod_with mod_lineMany mod_testEnd mod_lineEnd = some R) (H : Heap) (locs : List Loc) (ls : Array Slot) (hP : va_P D classes (wl_X12_law ad cs mod_code mod_shoes mod_claims mod_taped mod_here mod_fault mod_suits mod_doneMany mod_undoneMany mod_open mod_laid mod_isBoth mod_wished mod_bestMany mod_bestRow mod_ringDigits mod_traces mod_tape mod_act mod_with mod_lineMany mod_testEnd mod_lineEnd) H) (hD : va_D A (wl_X12_law ad cs mod_code mod_shoes mod_claims mod_taped mod_here mod_fault mod_suits mod_doneMany mod_undoneMany mod_open mod_laid mod_isBoth mod_wished mod_bestMany mod_bestRow mod_ringDigits mod_traces mod_tape mod_act mod_with mod_lineMany mod_testEnd mod_lineEnd)) (hS : va_S A s.heap H locs) (hl : lv_has ls 4 [(0, .ref (ad 41)), (2, .int x2), (3, .int x3)]), W p l e rm_X12_law s m args below meth c H locs 0 0 (MQ below (Q_X12_law D cs ad mod_code mod_shoes mod_claims mod_suits mod_doneMany mod_undoneMany mod_isBoth mod_wished mod_bestMany mod_bestRow mod_ringDigits mod_traces mod_tape A R) args s 0 0 A) (F0 m 219 ls [])) (x1 : Int32) (mod_taped : Int32) (mod_here : Int32) (mod_fault : Int32) (mod_open : Int32) (mod_laid : Int32) (mod_act : Nat → Int32) (mod_with : Nat → Int32) (mod_lineMany : Nat → Int32) (mod_testEnd : Nat → Int32) (mod_lineEnd : Nat → Int32) (h : B_X12_law_89 g56 g146 g219 mod_code mod_shoes mod_claims mod_suits mod_doneMany mod_undoneMany mod_isBoth mod_wished mod_bestMany mod_bestRow mod_ringDigits mod_traces mod_tape x1 mod_taped mod_here mod_fault mod_open mod_laid mod_act mod_with mod_lineMany mod_testEnd mod_lineEnd = some R) (H : Heap) (locs : List Loc) (ls : Array Slot) (hP : va_P D classes (wl_X12_law ad cs mod_code mod_shoes mod_claims mod_taped mod_here mod_fault mod_suits mod_doneMany mod_undoneMany mod_open mod_laid mod_isBoth mod_wished mod_bestMany mod_bestRow mod_ringDigits mod_traces mod_tape mod_act mod_with mod_lineMany mod_testEnd mod_lineEnd) H) (hD : va_D A (wl_X12_law ad cs mod_code mod_shoes mod_claims mod_taped mod_here mod_fault mod_suits mod_doneMany mod_undoneMany mod_open mod_laid mod_isBoth mod_wished mod_bestMany mod_bestRow mod_ringDigits mod_traces mod_tape mod_act mod_with mod_lineMany mod_testEnd mod_lineEnd)) (hS : va_S A s.heap H locs) (hl : lv_has ls 4 [(0, .ref (ad 41)), (1, .int x1)]) : W p l e rm_X12_law s m args below meth c H locs 0 0 (MQ below (Q_X12_law D cs ad mod_code mod_shoes mod_claims mod_suits mod_doneMany mod_undoneMany mod_isBoth mod_wished mod_bestMany mod_bestRow mod_ringDigits mod_traces mod_tape A R) args s 0 0 A) (F0 m 89 ls []) := by
  obtain ⟨hx, hb, hr, hml, hown, ht, hlocks⟩ := id C0
  refine lv_aload_n hx hb dX12_law_89 rfl (lv_at hl 0 rfl) ?_
  refine va_get (D := D) (ci := 12) (v := .int mod_fault) (C := RX12) (T := TX12) (N := 60) hx hb ht iX12 hown hK hP 0 rfl rfl 14 (by decide) (ht _ kw_1309) (fun _ h9 => h9) rfl dX12_law_90 ?_
  refine lv_if_ge (tgt := 111) hx hb dX12_law_93 (by decide) (fun c_34 => ?_) (fun c_34 => ?_)
  · have h := zk_t c_34 h
    exact L_X12_law_111 C0 hK hA  ih56 ih146 ih219 x1 mod_taped mod_here mod_fault mod_open mod_laid mod_act mod_with mod_lineMany mod_testEnd mod_lineEnd h H locs ls hP hD hS (lv_sub hl [0, 1] rfl)
  · have h := zk_f c_34 h
    refine lv_aload_n hx hb dX12_law_96 rfl (lv_at hl 0 rfl) ?_
    refine va_get (D := D) (ci := 12) (v := .int mod_here) (C := RX12) (T := TX12) (N := 60) hx hb ht iX12 hown hK hP 0 rfl rfl 13 (by decide) (ht _ kw_1308) (fun _ h9 => h9) rfl dX12_law_97 ?_
    refine lv_aload_n hx hb dX12_law_100 rfl (lv_at hl 0 rfl) ?_
    refine va_get (D := D) (ci := 12) (v := .int mod_taped) (C := RX12) (T := TX12) (N := 60) hx hb ht iX12 hown hK hP 0 rfl rfl 12 (by decide) (ht _ kw_1307) (fun _ h9 => h9) rfl dX12_law_101 ?_
    refine lv_icmp_ge (tgt := 111) hx hb dX12_law_104 (by decide) (fun c_35 => ?_) (fun c_35 => ?_)
    · have h := zk_t c_35 h
      exact L_X12_law_111 C0 hK hA  ih56 ih146 ih219 x1 mod_taped mod_here mod_fault mod_open mod_laid mod_act mod_with mod_lineMany mod_testEnd mod_lineEnd h H locs ls hP hD hS (lv_sub hl [0, 1] rfl)
    · have h := zk_f c_35 h
      refine lv_aload_n hx hb dX12_law_107 rfl (lv_at hl 0 rfl) ?_
      obtain ⟨u_36, hc_37, h⟩ := zk_o1 h
      refine zz_vv (post := (fun u => u = u_36)) (w1 := fun u => (wl_X12_wrong ad cs mod_code mod_shoes mod_claims mod_taped mod_here u mod_suits mod_doneMany mod_undoneMany mod_open mod_laid mod_isBoth mod_wished mod_bestMany mod_bestRow mod_ringDigits mod_traces)) (As := []) (rest := []) (c_X12_wrong l D cs ad  H.size mod_code mod_shoes mod_claims mod_taped mod_here mod_fault mod_suits mod_doneMany mod_undoneMany mod_open mod_laid mod_isBoth mod_wished mod_bestMany mod_bestRow mod_ringDigits mod_traces u_36 hc_37) ⟨hx, hb, hml, hown, ht⟩ (cwV 0 ht g_X12_205 rfl rfl rfl ⟨rfl, hd_X12_wrong⟩ ⟨Nat.le_of_ble_eq_true rfl, Nat.le_of_ble_eq_true rfl⟩) (va_recv hK hP (ci := 12) (q0 := 0) rfl rfl) hP hD hS hK hA [0] rfl rfl [(ad 41)] rfl (fun _ => rfl) rfl hl.1 (Nat.le_of_ble_eq_true rfl) dX12_law_108 ⟨Nat.zero_le _, Nat.zero_le _⟩ (fun u H locs hq hP hS => ?_)
      cases hq
      have hP : va_P D classes (wl_X12_law ad cs mod_code mod_shoes mod_claims mod_taped mod_here u_36 mod_suits mod_doneMany mod_undoneMany mod_open mod_laid mod_isBoth mod_wished mod_bestMany mod_bestRow mod_ringDigits mod_traces mod_tape mod_act mod_with mod_lineMany mod_testEnd mod_lineEnd) H := hP
      have hD : va_D A (wl_X12_law ad cs mod_code mod_shoes mod_claims mod_taped mod_here u_36 mod_suits mod_doneMany mod_undoneMany mod_open mod_laid mod_isBoth mod_wished mod_bestMany mod_bestRow mod_ringDigits mod_traces mod_tape mod_act mod_with mod_lineMany mod_testEnd mod_lineEnd) := zDk hD [(ad 41), (ad 50), (ad 66), (ad 67), (ad 68), (ad 69), (ad 70)] rfl rfl
      exact L_X12_law_111 C0 hK hA  ih56 ih146 ih219 x1 mod_taped mod_here u_36 mod_open mod_laid mod_act mod_with mod_lineMany mod_testEnd mod_lineEnd h H locs ls hP hD hS (lv_sub hl [0, 1] rfl)
set_option maxHeartbeats 4000000 in
set_option maxRecDepth 100000 in
theorem L_X12_law_56 {p : Program} {l : Launch} {e : Env} {s : State} {m : MethodId} {args : Array Value} {below : List Frame} {meth : Method} {c : Code} {A : Nat → Prop} {D : va_G} {cs : Nat → ClassId} {ad : Nat → Nat} {mod_code : Int32} {mod_shoes : Int32} {mod_claims : Int32} {mod_suits : Int32} {mod_doneMany : Int32} {mod_undoneMany : Int32} {mod_isBoth : Int32} {mod_wished : Int32} {mod_bestMany : Int32} {mod_bestRow : Int32} {mod_ringDigits : Int32} {mod_traces : Int32} {mod_tape : Nat → Int32} {R : Int32 × Int32 × Int32 × Int32 × Int32 × Int32 × (Nat → Int32) × (Nat → Int32) × (Nat → Int32) × (Nat → Int32) × (Nat → Int32)} {g56 : Int32 → Int32 → Int32 → Int32 → Int32 → Int32 → (Nat → Int32) → (Nat → Int32) → (Nat → Int32) → (Nat → Int32) → (Nat → Int32) → (Option (Int32 × Int32 × Int32 × Int32 × Int32 × Int32 × (Nat → Int32) × (Nat → Int32) × (Nat → Int32) × (Nat → Int32) × (Nat → Int32)))} {g146 : Int32 → Int32 → Int32 → Int32 → Int32 → Int32 → Int32 → (Nat → Int32) → (Nat → Int32) → (Nat → Int32) → (Nat → Int32) → (Nat → Int32) → (Option (Int32 × Int32 × Int32 × Int32 × Int32 × Int32 × (Nat → Int32) × (Nat → Int32) × (Nat → Int32) × (Nat → Int32) × (Nat → Int32)))} {g219 : Int32 → Int32 → Int32 → Int32 → Int32 → Int32 → Int32 → (Nat → Int32) → (Nat → Int32) → (Nat → Int32) → (Nat → Int32) → (Nat → Int32) → (Option (Int32 × Int32 × Int32 × Int32 × Int32 × Int32 × (Nat → Int32) × (Nat → Int32) × (Nat → Int32) × (Nat → Int32) × (Nat → Int32)))} (C0 : zC p s m args meth c cX12_law 4 (some .int) RX12 zW) (hK : va_K D classes (zT cs) s) (hA : ∀ q : Nat, s.heap.size ≤ q → A q) (ih56 : ∀ (x1 : Int32) (mod_taped : Int32) (mod_here : Int32) (mod_fault : Int32) (mod_open : Int32) (mod_laid : Int32) (mod_act : Nat → Int32) (mod_with : Nat → Int32) (mod_lineMany : Nat → Int32) (mod_testEnd : Nat → Int32) (mod_lineEnd : Nat → Int32) (h : g56 x1 mod_taped mod_here mod_fault mod_open mod_laid mod_act mod_with mod_lineMany mod_testEnd mod_lineEnd = some R) (H : Heap) (locs : List Loc) (ls : Array Slot) (hP : va_P D classes (wl_X12_law ad cs mod_code mod_shoes mod_claims mod_taped mod_here mod_fault mod_suits mod_doneMany mod_undoneMany mod_open mod_laid mod_isBoth mod_wished mod_bestMany mod_bestRow mod_ringDigits mod_traces mod_tape mod_act mod_with mod_lineMany mod_testEnd mod_lineEnd) H) (hD : va_D A (wl_X12_law ad cs mod_code mod_shoes mod_claims mod_taped mod_here mod_fault mod_suits mod_doneMany mod_undoneMany mod_open mod_laid mod_isBoth mod_wished mod_bestMany mod_bestRow mod_ringDigits mod_traces mod_tape mod_act mod_with mod_lineMany mod_testEnd mod_lineEnd)) (hS : va_S A s.heap H locs) (hl : lv_has ls 4 [(0, .ref (ad 41)), (1, .int x1)]), W p l e rm_X12_law s m args below meth c H locs 0 0 (MQ below (Q_X12_law D cs ad mod_code mod_shoes mod_claims mod_suits mod_doneMany mod_undoneMany mod_isBoth mod_wished mod_bestMany mod_bestRow mod_ringDigits mod_traces mod_tape A R) args s 0 0 A) (F0 m 56 ls [])) (ih146 : ∀ (x2 : Int32) (x3 : Int32) (mod_taped : Int32) (mod_here : Int32) (mod_fault : Int32) (mod_open : Int32) (mod_laid : Int32) (mod_act : Nat → Int32) (mod_with : Nat → Int32) (mod_lineMany : Nat → Int32) (mod_testEnd : Nat → Int32) (mod_lineEnd : Nat → Int32) (h : g146 x2 x3 mod_taped mod_here mod_fault mod_open mod_laid mod_act mod_with mod_lineMany mod_testEnd mod_lineEnd = some R) (H : Heap) (locs : List Loc) (ls : Array Slot) (hP : va_P D classes (wl_X12_law ad cs mod_code mod_shoes mod_claims mod_taped mod_here mod_fault mod_suits mod_doneMany mod_undoneMany mod_open mod_laid mod_isBoth mod_wished mod_bestMany mod_bestRow mod_ringDigits mod_traces mod_tape mod_act mod_with mod_lineMany mod_testEnd mod_lineEnd) H) (hD : va_D A (wl_X12_law ad cs mod_code mod_shoes mod_claims mod_taped mod_here mod_fault mod_suits mod_doneMany mod_undoneMany mod_open mod_laid mod_isBoth mod_wished mod_bestMany mod_bestRow mod_ringDigits mod_traces mod_tape mod_act mod_with mod_lineMany mod_testEnd mod_lineEnd)) (hS : va_S A s.heap H locs) (hl : lv_has ls 4 [(0, .ref (ad 41)), (2, .int x2), (3, .int x3)]), W p l e rm_X12_law s m args below meth c H locs 0 0 (MQ below (Q_X12_law D cs ad mod_code mod_shoes mod_claims mod_suits mod_doneMany mod_undoneMany mod_isBoth mod_wished mod_bestMany mod_bestRow mod_ringDigits mod_traces mod_tape A R) args s 0 0 A) (F0 m 146 ls [])) (ih219 : ∀ (x2 : Int32) (x3 : Int32) (mod_taped : Int32) (mod_here : Int32) (mod_fault : Int32) (mod_open : Int32) (mod_laid : Int32) (mod_act : Nat → Int32) (mod_with : Nat → Int32) (mod_lineMany : Nat → Int32) (mod_testEnd : Nat → Int32) (mod_lineEnd : Nat → Int32) (h : g219 x2 x3 mod_taped mod_here mod_fault mod_open mod_laid mod_act mod_with mod_lineMany mod_testEnd mod_lineEnd = some R) (H : Heap) (locs : List Loc) (ls : Array Slot) (hP : va_P D classes (wl_X12_law ad cs mod_code mod_shoes mod_claims mod_taped mod_here mod_fault mod_suits mod_doneMany mod_undoneMany mod_open mod_laid mod_isBoth mod_wished mod_bestMany mod_bestRow mod_ringDigits mod_traces mod_tape mod_act mod_with mod_lineMany mod_testEnd mod_lineEnd) H) (hD : va_D A (wl_X12_law ad cs mod_code mod_shoes mod_claims mod_taped mod_here mod_fault mod_suits mod_doneMany mod_undoneMany mod_open mod_laid mod_isBoth mod_wished mod_bestMany mod_bestRow mod_ringDigits mod_traces mod_tape mod_act mod_with mod_lineMany mod_testEnd mod_lineEnd)) (hS : va_S A s.heap H locs) (hl : lv_has ls 4 [(0, .ref (ad 41)), (2, .int x2), (3, .int x3)]), W p l e rm_X12_law s m args below meth c H locs 0 0 (MQ below (Q_X12_law D cs ad mod_code mod_shoes mod_claims mod_suits mod_doneMany mod_undoneMany mod_isBoth mod_wished mod_bestMany mod_bestRow mod_ringDigits mod_traces mod_tape A R) args s 0 0 A) (F0 m 219 ls [])) (x1 : Int32) (mod_taped : Int32) (mod_here : Int32) (mod_fault : Int32) (mod_open : Int32) (mod_laid : Int32) (mod_act : Nat → Int32) (mod_with : Nat → Int32) (mod_lineMany : Nat → Int32) (mod_testEnd : Nat → Int32) (mod_lineEnd : Nat → Int32) (h : B_X12_law_56 g56 g146 g219 mod_code mod_shoes mod_claims mod_suits mod_doneMany mod_undoneMany mod_isBoth mod_wished mod_bestMany mod_bestRow mod_ringDigits mod_traces mod_tape x1 mod_taped mod_here mod_fault mod_open mod_laid mod_act mod_with mod_lineMany mod_testEnd mod_lineEnd = some R) (H : Heap) (locs : List Loc) (ls : Array Slot) (hP : va_P D classes (wl_X12_law ad cs mod_code mod_shoes mod_claims mod_taped mod_here mod_fault mod_suits mod_doneMany mod_undoneMany mod_open mod_laid mod_isBoth mod_wished mod_bestMany mod_bestRow mod_ringDigits mod_traces mod_tape mod_act mod_with mod_lineMany mod_testEnd mod_lineEnd) H) (hD : va_D A (wl_X12_law ad cs mod_code mod_shoes mod_claims mod_taped mod_here mod_fault mod_suits mod_doneMany mod_undoneMany mod_open mod_laid mod_isBoth mod_wished mod_bestMany mod_bestRow mod_ringDigits mod_traces mod_tape mod_act mod_with mod_lineMany mod_testEnd mod_lineEnd)) (hS : va_S A s.heap H locs) (hl : lv_has ls 4 [(0, .ref (ad 41)), (1, .int x1)]) : W p l e rm_X12_law s m args below meth c H locs 0 0 (MQ below (Q_X12_law D cs ad mod_code mod_shoes mod_claims mod_suits mod_doneMany mod_undoneMany mod_isBoth mod_wished mod_bestMany mod_bestRow mod_ringDigits mod_traces mod_tape A R) args s 0 0 A) (F0 m 56 ls []) := by
  obtain ⟨hx, hb, hr, hml, hown, ht, hlocks⟩ := id C0
  refine lv_aload_n hx hb dX12_law_56 rfl (lv_at hl 0 rfl) ?_
  refine va_get (D := D) (ci := 12) (v := .int mod_fault) (C := RX12) (T := TX12) (N := 60) hx hb ht iX12 hown hK hP 0 rfl rfl 14 (by decide) (ht _ kw_1309) (fun _ h9 => h9) rfl dX12_law_57 ?_
  refine lv_if_ge (tgt := 89) hx hb dX12_law_60 (by decide) (fun c_18 => ?_) (fun c_18 => ?_)
  · have h := zk_t c_18 h
    exact L_X12_law_89 C0 hK hA  ih56 ih146 ih219 x1 mod_taped mod_here mod_fault mod_open mod_laid mod_act mod_with mod_lineMany mod_testEnd mod_lineEnd h H locs ls hP hD hS (lv_sub hl [0, 1] rfl)
  · have h := zk_f c_18 h
    refine lv_aload_n hx hb dX12_law_63 rfl (lv_at hl 0 rfl) ?_
    obtain ⟨r_19, u_20, hc_21, h⟩ := zk_o2 h
    refine zz_vi (post := (fun r u => (r, u) = (r_19, u_20))) (w1 := fun u => (wl_X12_look ad cs mod_code mod_shoes mod_claims mod_taped mod_here mod_fault mod_suits mod_doneMany mod_undoneMany mod_open mod_laid mod_isBoth mod_wished mod_bestMany mod_bestRow mod_ringDigits mod_traces mod_tape)) (As := []) (rest := []) (c_X12_look l D cs ad  H.size mod_code mod_shoes mod_claims mod_taped mod_here mod_fault mod_suits mod_doneMany mod_undoneMany mod_open mod_laid mod_isBoth mod_wished mod_bestMany mod_bestRow mod_ringDigits mod_traces mod_tape (r_19, u_20) hc_21) ⟨hx, hb, hml, hown, ht⟩ (cwV 0 ht g_X12_194 rfl rfl rfl ⟨rfl, hd_X12_look⟩ ⟨Nat.le_of_ble_eq_true rfl, Nat.le_of_ble_eq_true rfl⟩) (va_recv hK hP (ci := 12) (q0 := 0) rfl rfl) hP hD hS hK hA [0, 1] rfl rfl [(ad 41), (ad 50)] rfl (fun _ => rfl) rfl hl.1 (Nat.le_of_ble_eq_true rfl) dX12_law_64 ⟨Nat.zero_le _, Nat.zero_le _⟩ (fun r u H locs hq hP hS => ?_)
    cases hq
    have hP : va_P D classes (wl_X12_law ad cs mod_code mod_shoes mod_claims mod_taped mod_here mod_fault mod_suits mod_doneMany mod_undoneMany mod_open mod_laid mod_isBoth mod_wished mod_bestMany mod_bestRow mod_ringDigits mod_traces mod_tape mod_act mod_with mod_lineMany mod_testEnd mod_lineEnd) H := hP
    have hD : va_D A (wl_X12_law ad cs mod_code mod_shoes mod_claims mod_taped mod_here mod_fault mod_suits mod_doneMany mod_undoneMany mod_open mod_laid mod_isBoth mod_wished mod_bestMany mod_bestRow mod_ringDigits mod_traces mod_tape mod_act mod_with mod_lineMany mod_testEnd mod_lineEnd) := zDk hD [(ad 41), (ad 50), (ad 66), (ad 67), (ad 68), (ad 69), (ad 70)] rfl rfl
    refine lv_bipush (v := (59 : Int32)) hx hb dX12_law_67 (by decide) ?_
    refine lv_icmp_ne (tgt := 89) hx hb dX12_law_69 (by decide) (fun c_22 => ?_) (fun c_22 => ?_)
    · have h := zk_f c_22 h
      exact L_X12_law_89 C0 hK hA  ih56 ih146 ih219 x1 mod_taped mod_here mod_fault mod_open mod_laid mod_act mod_with mod_lineMany mod_testEnd mod_lineEnd h H locs ls hP hD hS (lv_sub hl [0, 1] rfl)
    · have h := zk_t c_22 h
      refine lv_aload_n hx hb dX12_law_72 rfl (lv_at hl 0 rfl) ?_
      refine lv_dup hx hb dX12_law_73 rfl ?_
      refine va_get (D := D) (ci := 12) (v := .int mod_here) (C := RX12) (T := TX12) (N := 60) hx hb ht iX12 hown hK hP 0 rfl rfl 13 (by decide) (ht _ kw_1308) (fun _ h9 => h9) rfl dX12_law_74 ?_
      refine lv_iconst (v := (1 : Int32)) hx hb dX12_law_77 (by decide) ?_
      refine lv_iadd hx hb dX12_law_78 ?_
      obtain ⟨v_23, ev_23, h⟩ := zk_lt h
      refine W.eq (g2 := F0 m 79 ls [.int v_23, .ref (ad 41)]) (by rw [ev_23]) ?_
      refine va_put (D := D) (ci := 12) (v := .int v_23) (ty := .int) (C := RX12) (T := TX12) (N := 60) hx hb ht iX12 tyX12 tyX12_ok nmX12 hown hK hP hD hS 0 rfl rfl 13 (by decide) (ht _ kw_1308) (fun _ h9 => h9) rfl (by decide +kernel) rfl rfl (Nat.le_of_ble_eq_true rfl) dX12_law_79 (fun H locs hP hD hS => ?_)
      have hP : va_P D classes (wl_X12_law ad cs mod_code mod_shoes mod_claims mod_taped v_23 mod_fault mod_suits mod_doneMany mod_undoneMany mod_open mod_laid mod_isBoth mod_wished mod_bestMany mod_bestRow mod_ringDigits mod_traces mod_tape mod_act mod_with mod_lineMany mod_testEnd mod_lineEnd) H := hP
      have hD : va_D A (wl_X12_law ad cs mod_code mod_shoes mod_claims mod_taped v_23 mod_fault mod_suits mod_doneMany mod_undoneMany mod_open mod_laid mod_isBoth mod_wished mod_bestMany mod_bestRow mod_ringDigits mod_traces mod_tape mod_act mod_with mod_lineMany mod_testEnd mod_lineEnd) := hD
      refine lv_aload_n hx hb dX12_law_82 rfl (lv_at hl 0 rfl) ?_
      obtain ⟨u_24, u_25, u_26, u_27, u_28, u_29, u_30, u_31, u_32, hc_33, h⟩ := zk_o9 h
      refine zz_vv (post := (fun u => u = (u_24, u_25, u_26, u_27, u_28, u_29, u_30, u_31, u_32))) (w1 := fun u => (wl_X12_line ad cs mod_code mod_shoes mod_claims mod_taped u.1 u.2.1 mod_suits mod_doneMany mod_undoneMany u.2.2.1 u.2.2.2.1 mod_isBoth mod_wished mod_bestMany mod_bestRow mod_ringDigits mod_traces mod_tape u.2.2.2.2.1 u.2.2.2.2.2.1 u.2.2.2.2.2.2.1 u.2.2.2.2.2.2.2.1 u.2.2.2.2.2.2.2.2)) (As := []) (rest := []) (c_X12_line l D cs ad  H.size mod_code mod_shoes mod_claims mod_taped v_23 mod_fault mod_suits mod_doneMany mod_undoneMany mod_open mod_laid mod_isBoth mod_wished mod_bestMany mod_bestRow mod_ringDigits mod_traces mod_tape mod_act mod_with mod_lineMany mod_testEnd mod_lineEnd (u_24, u_25, u_26, u_27, u_28, u_29, u_30, u_31, u_32) hc_33) ⟨hx, hb, hml, hown, ht⟩ (cwV 0 ht g_X12_293 rfl rfl rfl ⟨rfl, hd_X12_line⟩ ⟨Nat.le_of_ble_eq_true rfl, Nat.le_of_ble_eq_true rfl⟩) (va_recv hK hP (ci := 12) (q0 := 0) rfl rfl) hP hD hS hK hA [0, 1, 2, 3, 4, 5, 6] rfl rfl [(ad 41), (ad 50), (ad 66), (ad 67), (ad 68), (ad 69), (ad 70)] rfl (fun _ => rfl) rfl hl.1 (Nat.le_of_ble_eq_true rfl) dX12_law_83 ⟨Nat.zero_le _, Nat.zero_le _⟩ (fun u H locs hq hP hS => ?_)
      cases hq
      have hP : va_P D classes (wl_X12_law ad cs mod_code mod_shoes mod_claims mod_taped u_24 u_25 mod_suits mod_doneMany mod_undoneMany u_26 u_27 mod_isBoth mod_wished mod_bestMany mod_bestRow mod_ringDigits mod_traces mod_tape u_28 u_29 u_30 u_31 u_32) H := hP
      have hD : va_D A (wl_X12_law ad cs mod_code mod_shoes mod_claims mod_taped u_24 u_25 mod_suits mod_doneMany mod_undoneMany u_26 u_27 mod_isBoth mod_wished mod_bestMany mod_bestRow mod_ringDigits mod_traces mod_tape u_28 u_29 u_30 u_31 u_32) := zDk hD [(ad 41), (ad 50), (ad 66), (ad 67), (ad 68), (ad 69), (ad 70)] rfl rfl
      refine lv_goto (tgt := 56) hx hb dX12_law_86 (by decide) ?_
      exact ih56 x1 mod_taped u_24 u_25 u_26 u_27 u_28 u_29 u_30 u_31 u_32 h H locs ls hP hD hS (lv_sub hl [0, 1] rfl)
set_option maxHeartbeats 4000000 in
set_option maxRecDepth 100000 in
theorem L_X12_law_0 {p : Program} {l : Launch} {e : Env} {s : State} {m : MethodId} {args : Array Value} {below : List Frame} {meth : Method} {c : Code} {A : Nat → Prop} {D : va_G} {cs : Nat → ClassId} {ad : Nat → Nat} {mod_code : Int32} {mod_shoes : Int32} {mod_claims : Int32} {mod_suits : Int32} {mod_doneMany : Int32} {mod_undoneMany : Int32} {mod_isBoth : Int32} {mod_wished : Int32} {mod_bestMany : Int32} {mod_bestRow : Int32} {mod_ringDigits : Int32} {mod_traces : Int32} {mod_tape : Nat → Int32} {R : Int32 × Int32 × Int32 × Int32 × Int32 × Int32 × (Nat → Int32) × (Nat → Int32) × (Nat → Int32) × (Nat → Int32) × (Nat → Int32)} {g56 : Int32 → Int32 → Int32 → Int32 → Int32 → Int32 → (Nat → Int32) → (Nat → Int32) → (Nat → Int32) → (Nat → Int32) → (Nat → Int32) → (Option (Int32 × Int32 × Int32 × Int32 × Int32 × Int32 × (Nat → Int32) × (Nat → Int32) × (Nat → Int32) × (Nat → Int32) × (Nat → Int32)))} {g146 : Int32 → Int32 → Int32 → Int32 → Int32 → Int32 → Int32 → (Nat → Int32) → (Nat → Int32) → (Nat → Int32) → (Nat → Int32) → (Nat → Int32) → (Option (Int32 × Int32 × Int32 × Int32 × Int32 × Int32 × (Nat → Int32) × (Nat → Int32) × (Nat → Int32) × (Nat → Int32) × (Nat → Int32)))} {g219 : Int32 → Int32 → Int32 → Int32 → Int32 → Int32 → Int32 → (Nat → Int32) → (Nat → Int32) → (Nat → Int32) → (Nat → Int32) → (Nat → Int32) → (Option (Int32 × Int32 × Int32 × Int32 × Int32 × Int32 × (Nat → Int32) × (Nat → Int32) × (Nat → Int32) × (Nat → Int32) × (Nat → Int32)))} (C0 : zC p s m args meth c cX12_law 4 (some .int) RX12 zW) (hK : va_K D classes (zT cs) s) (hA : ∀ q : Nat, s.heap.size ≤ q → A q) (ih56 : ∀ (x1 : Int32) (mod_taped : Int32) (mod_here : Int32) (mod_fault : Int32) (mod_open : Int32) (mod_laid : Int32) (mod_act : Nat → Int32) (mod_with : Nat → Int32) (mod_lineMany : Nat → Int32) (mod_testEnd : Nat → Int32) (mod_lineEnd : Nat → Int32) (h : g56 x1 mod_taped mod_here mod_fault mod_open mod_laid mod_act mod_with mod_lineMany mod_testEnd mod_lineEnd = some R) (H : Heap) (locs : List Loc) (ls : Array Slot) (hP : va_P D classes (wl_X12_law ad cs mod_code mod_shoes mod_claims mod_taped mod_here mod_fault mod_suits mod_doneMany mod_undoneMany mod_open mod_laid mod_isBoth mod_wished mod_bestMany mod_bestRow mod_ringDigits mod_traces mod_tape mod_act mod_with mod_lineMany mod_testEnd mod_lineEnd) H) (hD : va_D A (wl_X12_law ad cs mod_code mod_shoes mod_claims mod_taped mod_here mod_fault mod_suits mod_doneMany mod_undoneMany mod_open mod_laid mod_isBoth mod_wished mod_bestMany mod_bestRow mod_ringDigits mod_traces mod_tape mod_act mod_with mod_lineMany mod_testEnd mod_lineEnd)) (hS : va_S A s.heap H locs) (hl : lv_has ls 4 [(0, .ref (ad 41)), (1, .int x1)]), W p l e rm_X12_law s m args below meth c H locs 0 0 (MQ below (Q_X12_law D cs ad mod_code mod_shoes mod_claims mod_suits mod_doneMany mod_undoneMany mod_isBoth mod_wished mod_bestMany mod_bestRow mod_ringDigits mod_traces mod_tape A R) args s 0 0 A) (F0 m 56 ls [])) (ih146 : ∀ (x2 : Int32) (x3 : Int32) (mod_taped : Int32) (mod_here : Int32) (mod_fault : Int32) (mod_open : Int32) (mod_laid : Int32) (mod_act : Nat → Int32) (mod_with : Nat → Int32) (mod_lineMany : Nat → Int32) (mod_testEnd : Nat → Int32) (mod_lineEnd : Nat → Int32) (h : g146 x2 x3 mod_taped mod_here mod_fault mod_open mod_laid mod_act mod_with mod_lineMany mod_testEnd mod_lineEnd = some R) (H : Heap) (locs : List Loc) (ls : Array Slot) (hP : va_P D classes (wl_X12_law ad cs mod_code mod_shoes mod_claims mod_taped mod_here mod_fault mod_suits mod_doneMany mod_undoneMany mod_open mod_laid mod_isBoth mod_wished mod_bestMany mod_bestRow mod_ringDigits mod_traces mod_tape mod_act mod_with mod_lineMany mod_testEnd mod_lineEnd) H) (hD : va_D A (wl_X12_law ad cs mod_code mod_shoes mod_claims mod_taped mod_here mod_fault mod_suits mod_doneMany mod_undoneMany mod_open mod_laid mod_isBoth mod_wished mod_bestMany mod_bestRow mod_ringDigits mod_traces mod_tape mod_act mod_with mod_lineMany mod_testEnd mod_lineEnd)) (hS : va_S A s.heap H locs) (hl : lv_has ls 4 [(0, .ref (ad 41)), (2, .int x2), (3, .int x3)]), W p l e rm_X12_law s m args below meth c H locs 0 0 (MQ below (Q_X12_law D cs ad mod_code mod_shoes mod_claims mod_suits mod_doneMany mod_undoneMany mod_isBoth mod_wished mod_bestMany mod_bestRow mod_ringDigits mod_traces mod_tape A R) args s 0 0 A) (F0 m 146 ls [])) (ih219 : ∀ (x2 : Int32) (x3 : Int32) (mod_taped : Int32) (mod_here : Int32) (mod_fault : Int32) (mod_open : Int32) (mod_laid : Int32) (mod_act : Nat → Int32) (mod_with : Nat → Int32) (mod_lineMany : Nat → Int32) (mod_testEnd : Nat → Int32) (mod_lineEnd : Nat → Int32) (h : g219 x2 x3 mod_taped mod_here mod_fault mod_open mod_laid mod_act mod_with mod_lineMany mod_testEnd mod_lineEnd = some R) (H : Heap) (locs : List Loc) (ls : Array Slot) (hP : va_P D classes (wl_X12_law ad cs mod_code mod_shoes mod_claims mod_taped mod_here mod_fault mod_suits mod_doneMany mod_undoneMany mod_open mod_laid mod_isBoth mod_wished mod_bestMany mod_bestRow mod_ringDigits mod_traces mod_tape mod_act mod_with mod_lineMany mod_testEnd mod_lineEnd) H) (hD : va_D A (wl_X12_law ad cs mod_code mod_shoes mod_claims mod_taped mod_here mod_fault mod_suits mod_doneMany mod_undoneMany mod_open mod_laid mod_isBoth mod_wished mod_bestMany mod_bestRow mod_ringDigits mod_traces mod_tape mod_act mod_with mod_lineMany mod_testEnd mod_lineEnd)) (hS : va_S A s.heap H locs) (hl : lv_has ls 4 [(0, .ref (ad 41)), (2, .int x2), (3, .int x3)]), W p l e rm_X12_law s m args below meth c H locs 0 0 (MQ below (Q_X12_law D cs ad mod_code mod_shoes mod_claims mod_suits mod_doneMany mod_undoneMany mod_isBoth mod_wished mod_bestMany mod_bestRow mod_ringDigits mod_traces mod_tape A R) args s 0 0 A) (F0 m 219 ls [])) (x1 : Int32) (mod_taped : Int32) (mod_here : Int32) (mod_fault : Int32) (mod_open : Int32) (mod_laid : Int32) (mod_act : Nat → Int32) (mod_with : Nat → Int32) (mod_lineMany : Nat → Int32) (mod_testEnd : Nat → Int32) (mod_lineEnd : Nat → Int32) (h : B_X12_law_0 g56 g146 g219 mod_code mod_shoes mod_claims mod_suits mod_doneMany mod_undoneMany mod_isBoth mod_wished mod_bestMany mod_bestRow mod_ringDigits mod_traces mod_tape x1 mod_taped mod_here mod_fault mod_open mod_laid mod_act mod_with mod_lineMany mod_testEnd mod_lineEnd = some R) (H : Heap) (locs : List Loc) (ls : Array Slot) (hP : va_P D classes (wl_X12_law ad cs mod_code mod_shoes mod_claims mod_taped mod_here mod_fault mod_suits mod_doneMany mod_undoneMany mod_open mod_laid mod_isBoth mod_wished mod_bestMany mod_bestRow mod_ringDigits mod_traces mod_tape mod_act mod_with mod_lineMany mod_testEnd mod_lineEnd) H) (hD : va_D A (wl_X12_law ad cs mod_code mod_shoes mod_claims mod_taped mod_here mod_fault mod_suits mod_doneMany mod_undoneMany mod_open mod_laid mod_isBoth mod_wished mod_bestMany mod_bestRow mod_ringDigits mod_traces mod_tape mod_act mod_with mod_lineMany mod_testEnd mod_lineEnd)) (hS : va_S A s.heap H locs) (hl : lv_has ls 4 [(0, .ref (ad 41)), (1, .int x1)]) : W p l e rm_X12_law s m args below meth c H locs 0 0 (MQ below (Q_X12_law D cs ad mod_code mod_shoes mod_claims mod_suits mod_doneMany mod_undoneMany mod_isBoth mod_wished mod_bestMany mod_bestRow mod_ringDigits mod_traces mod_tape A R) args s 0 0 A) (F0 m 0 ls []) := by
  obtain ⟨hx, hb, hr, hml, hown, ht, hlocks⟩ := id C0
  refine lv_iload_n hx hb dX12_law_0 rfl (lv_at hl 1 rfl) ?_
  refine lv_if_lt (tgt := 22) hx hb dX12_law_1 (by decide) (fun c_1 => ?_) (fun c_1 => ?_)
  · have h := zk_t c_1 h
    refine lv_iconst (v := (-1 : Int32)) hx hb dX12_law_22 (by decide) ?_
    exact W.iret (v := (-1 : Int32)) hx hb hr (fun t ht2 hW => ⟨⟨(-1 : Int32), (mod_taped, mod_here, mod_fault, mod_open, mod_laid, mod_act, mod_with, mod_lineMany, mod_testEnd, mod_lineEnd), rfl, Option.some.inj h, by rw [ht2]; exact hP, hD⟩, hS.F ht2⟩) hS.2.2 dX12_law_23 hlocks
  · have h := zk_f c_1 h
    refine lv_iload_n hx hb dX12_law_4 rfl (lv_at hl 1 rfl) ?_
    refine lv_bipush (v := (10 : Int32)) hx hb dX12_law_5 (by decide) ?_
    refine lv_idiv hx hb dX12_law_7 (by decide) ?_
    refine lv_iconst (v := (3 : Int32)) hx hb dX12_law_8 (by decide) ?_
    refine lv_icmp_gt (tgt := 22) hx hb dX12_law_9 (by decide) (fun c_2 => ?_) (fun c_2 => ?_)
    · have h := zk_t c_2 h
      refine lv_iconst (v := (-1 : Int32)) hx hb dX12_law_22 (by decide) ?_
      exact W.iret (v := (-1 : Int32)) hx hb hr (fun t ht2 hW => ⟨⟨(-1 : Int32), (mod_taped, mod_here, mod_fault, mod_open, mod_laid, mod_act, mod_with, mod_lineMany, mod_testEnd, mod_lineEnd), rfl, Option.some.inj h, by rw [ht2]; exact hP, hD⟩, hS.F ht2⟩) hS.2.2 dX12_law_23 hlocks
    · have h := zk_f c_2 h
      refine lv_iload_n hx hb dX12_law_12 rfl (lv_at hl 1 rfl) ?_
      refine lv_bipush (v := (10 : Int32)) hx hb dX12_law_13 (by decide) ?_
      refine lv_irem hx hb dX12_law_15 (by decide) ?_
      obtain ⟨r_3, u_4, hc_5, h⟩ := zk_o2 h
      refine zz_si (post := (fun r u => (r, u) = (r_3, u_4))) (w1 := fun u => (wl_X12_isLand ad cs )) (As := [.int (x1 - x1 / (10 : Int32) * (10 : Int32))]) (rest := []) (c_X12_isLand l D cs ad  H.size (x1 - x1 / (10 : Int32) * (10 : Int32)) (r_3, u_4) hc_5) ⟨hx, hb, hml, hown, ht⟩ (va_cwS 1 ht g_X12_155 rfl rfl rfl hd_X12_isLand ⟨Nat.le_of_ble_eq_true rfl, Nat.le_of_ble_eq_true rfl⟩) hP hD hS hK hA [] rfl rfl [] rfl (fun _ => rfl) rfl hl.1 (Nat.le_of_ble_eq_true rfl) dX12_law_16 ⟨Nat.zero_le _, Nat.zero_le _⟩ (fun r u H locs hq hP hS => ?_)
      cases hq
      have hP : va_P D classes (wl_X12_law ad cs mod_code mod_shoes mod_claims mod_taped mod_here mod_fault mod_suits mod_doneMany mod_undoneMany mod_open mod_laid mod_isBoth mod_wished mod_bestMany mod_bestRow mod_ringDigits mod_traces mod_tape mod_act mod_with mod_lineMany mod_testEnd mod_lineEnd) H := hP
      refine lv_if_ne (tgt := 24) hx hb dX12_law_19 (by decide) (fun c_6 => ?_) (fun c_6 => ?_)
      · have h := zk_f c_6 h
        refine lv_aload_n hx hb dX12_law_24 rfl (lv_at hl 0 rfl) ?_
        refine lv_iconst (v := (0 : Int32)) hx hb dX12_law_25 (by decide) ?_
        refine va_put (D := D) (ci := 12) (v := .int (0 : Int32)) (ty := .int) (C := RX12) (T := TX12) (N := 60) hx hb ht iX12 tyX12 tyX12_ok nmX12 hown hK hP hD hS 0 rfl rfl 13 (by decide) (ht _ kw_1308) (fun _ h9 => h9) rfl (by decide +kernel) rfl rfl (Nat.le_of_ble_eq_true rfl) dX12_law_26 (fun H locs hP hD hS => ?_)
        have hP : va_P D classes (wl_X12_law ad cs mod_code mod_shoes mod_claims mod_taped (0 : Int32) mod_fault mod_suits mod_doneMany mod_undoneMany mod_open mod_laid mod_isBoth mod_wished mod_bestMany mod_bestRow mod_ringDigits mod_traces mod_tape mod_act mod_with mod_lineMany mod_testEnd mod_lineEnd) H := hP
        have hD : va_D A (wl_X12_law ad cs mod_code mod_shoes mod_claims mod_taped (0 : Int32) mod_fault mod_suits mod_doneMany mod_undoneMany mod_open mod_laid mod_isBoth mod_wished mod_bestMany mod_bestRow mod_ringDigits mod_traces mod_tape mod_act mod_with mod_lineMany mod_testEnd mod_lineEnd) := hD
        refine lv_aload_n hx hb dX12_law_29 rfl (lv_at hl 0 rfl) ?_
        refine lv_iconst (v := (-1 : Int32)) hx hb dX12_law_30 (by decide) ?_
        refine va_put (D := D) (ci := 12) (v := .int (-1 : Int32)) (ty := .int) (C := RX12) (T := TX12) (N := 60) hx hb ht iX12 tyX12 tyX12_ok nmX12 hown hK hP hD hS 0 rfl rfl 14 (by decide) (ht _ kw_1309) (fun _ h9 => h9) rfl (by decide +kernel) rfl rfl (Nat.le_of_ble_eq_true rfl) dX12_law_31 (fun H locs hP hD hS => ?_)
        have hP : va_P D classes (wl_X12_law ad cs mod_code mod_shoes mod_claims mod_taped (0 : Int32) (-1 : Int32) mod_suits mod_doneMany mod_undoneMany mod_open mod_laid mod_isBoth mod_wished mod_bestMany mod_bestRow mod_ringDigits mod_traces mod_tape mod_act mod_with mod_lineMany mod_testEnd mod_lineEnd) H := hP
        have hD : va_D A (wl_X12_law ad cs mod_code mod_shoes mod_claims mod_taped (0 : Int32) (-1 : Int32) mod_suits mod_doneMany mod_undoneMany mod_open mod_laid mod_isBoth mod_wished mod_bestMany mod_bestRow mod_ringDigits mod_traces mod_tape mod_act mod_with mod_lineMany mod_testEnd mod_lineEnd) := hD
        refine lv_aload_n hx hb dX12_law_34 rfl (lv_at hl 0 rfl) ?_
        refine lv_iconst (v := (0 : Int32)) hx hb dX12_law_35 (by decide) ?_
        refine va_put (D := D) (ci := 12) (v := .int (0 : Int32)) (ty := .int) (C := RX12) (T := TX12) (N := 60) hx hb ht iX12 tyX12 tyX12_ok nmX12 hown hK hP hD hS 0 rfl rfl 33 (by decide) (ht _ kw_1328) (fun _ h9 => h9) rfl (by decide +kernel) rfl rfl (Nat.le_of_ble_eq_true rfl) dX12_law_36 (fun H locs hP hD hS => ?_)
        have hP : va_P D classes (wl_X12_law ad cs mod_code mod_shoes mod_claims mod_taped (0 : Int32) (-1 : Int32) mod_suits mod_doneMany mod_undoneMany (0 : Int32) mod_laid mod_isBoth mod_wished mod_bestMany mod_bestRow mod_ringDigits mod_traces mod_tape mod_act mod_with mod_lineMany mod_testEnd mod_lineEnd) H := hP
        have hD : va_D A (wl_X12_law ad cs mod_code mod_shoes mod_claims mod_taped (0 : Int32) (-1 : Int32) mod_suits mod_doneMany mod_undoneMany (0 : Int32) mod_laid mod_isBoth mod_wished mod_bestMany mod_bestRow mod_ringDigits mod_traces mod_tape mod_act mod_with mod_lineMany mod_testEnd mod_lineEnd) := hD
        refine lv_aload_n hx hb dX12_law_39 rfl (lv_at hl 0 rfl) ?_
        refine lv_iconst (v := (0 : Int32)) hx hb dX12_law_40 (by decide) ?_
        refine va_put (D := D) (ci := 12) (v := .int (0 : Int32)) (ty := .int) (C := RX12) (T := TX12) (N := 60) hx hb ht iX12 tyX12 tyX12_ok nmX12 hown hK hP hD hS 0 rfl rfl 34 (by decide) (ht _ kw_1329) (fun _ h9 => h9) rfl (by decide +kernel) rfl rfl (Nat.le_of_ble_eq_true rfl) dX12_law_41 (fun H locs hP hD hS => ?_)
        have hP : va_P D classes (wl_X12_law ad cs mod_code mod_shoes mod_claims mod_taped (0 : Int32) (-1 : Int32) mod_suits mod_doneMany mod_undoneMany (0 : Int32) (0 : Int32) mod_isBoth mod_wished mod_bestMany mod_bestRow mod_ringDigits mod_traces mod_tape mod_act mod_with mod_lineMany mod_testEnd mod_lineEnd) H := hP
        have hD : va_D A (wl_X12_law ad cs mod_code mod_shoes mod_claims mod_taped (0 : Int32) (-1 : Int32) mod_suits mod_doneMany mod_undoneMany (0 : Int32) (0 : Int32) mod_isBoth mod_wished mod_bestMany mod_bestRow mod_ringDigits mod_traces mod_tape mod_act mod_with mod_lineMany mod_testEnd mod_lineEnd) := hD
        refine lv_aload_n hx hb dX12_law_44 rfl (lv_at hl 0 rfl) ?_
        refine va_get (D := D) (ci := 12) (v := .ref (ad 68)) (C := RX12) (T := TX12) (N := 60) hx hb ht iX12 hown hK hP 0 rfl rfl 37 (by decide) (ht _ kw_1332) (fun _ h9 => h9) rfl dX12_law_45 ?_
        refine lv_bipush (v := (32 : Int32)) hx hb dX12_law_48 (by decide) ?_
        refine lv_iconst (v := (0 : Int32)) hx hb dX12_law_50 (by decide) ?_
        obtain ⟨f_7, ef_7, h⟩ := zk_lt h
        refine va_iast hx hb hK hP hD hS 4 0 rfl rfl (by unfold vp_in; decide) dX12_law_51 (fun H locs hP hD hS => ?_)
        have hP : va_P D classes (wl_X12_law ad cs mod_code mod_shoes mod_claims mod_taped (0 : Int32) (-1 : Int32) mod_suits mod_doneMany mod_undoneMany (0 : Int32) (0 : Int32) mod_isBoth mod_wished mod_bestMany mod_bestRow mod_ringDigits mod_traces mod_tape mod_act mod_with f_7 mod_testEnd mod_lineEnd) H := by rw [ef_7]; exact hP
        have hD : va_D A (wl_X12_law ad cs mod_code mod_shoes mod_claims mod_taped (0 : Int32) (-1 : Int32) mod_suits mod_doneMany mod_undoneMany (0 : Int32) (0 : Int32) mod_isBoth mod_wished mod_bestMany mod_bestRow mod_ringDigits mod_traces mod_tape mod_act mod_with f_7 mod_testEnd mod_lineEnd) := by rw [ef_7]; exact hD
        refine lv_aload_n hx hb dX12_law_52 rfl (lv_at hl 0 rfl) ?_
        obtain ⟨u_8, u_9, u_10, u_11, u_12, u_13, u_14, u_15, u_16, hc_17, h⟩ := zk_o9 h
        refine zz_vv (post := (fun u => u = (u_8, u_9, u_10, u_11, u_12, u_13, u_14, u_15, u_16))) (w1 := fun u => (wl_X12_line ad cs mod_code mod_shoes mod_claims mod_taped u.1 u.2.1 mod_suits mod_doneMany mod_undoneMany u.2.2.1 u.2.2.2.1 mod_isBoth mod_wished mod_bestMany mod_bestRow mod_ringDigits mod_traces mod_tape u.2.2.2.2.1 u.2.2.2.2.2.1 u.2.2.2.2.2.2.1 u.2.2.2.2.2.2.2.1 u.2.2.2.2.2.2.2.2)) (As := []) (rest := []) (c_X12_line l D cs ad  H.size mod_code mod_shoes mod_claims mod_taped (0 : Int32) (-1 : Int32) mod_suits mod_doneMany mod_undoneMany (0 : Int32) (0 : Int32) mod_isBoth mod_wished mod_bestMany mod_bestRow mod_ringDigits mod_traces mod_tape mod_act mod_with f_7 mod_testEnd mod_lineEnd (u_8, u_9, u_10, u_11, u_12, u_13, u_14, u_15, u_16) hc_17) ⟨hx, hb, hml, hown, ht⟩ (cwV 0 ht g_X12_293 rfl rfl rfl ⟨rfl, hd_X12_line⟩ ⟨Nat.le_of_ble_eq_true rfl, Nat.le_of_ble_eq_true rfl⟩) (va_recv hK hP (ci := 12) (q0 := 0) rfl rfl) hP hD hS hK hA [0, 1, 2, 3, 4, 5, 6] rfl rfl [(ad 41), (ad 50), (ad 66), (ad 67), (ad 68), (ad 69), (ad 70)] rfl (fun _ => rfl) rfl hl.1 (Nat.le_of_ble_eq_true rfl) dX12_law_53 ⟨Nat.zero_le _, Nat.zero_le _⟩ (fun u H locs hq hP hS => ?_)
        cases hq
        have hP : va_P D classes (wl_X12_law ad cs mod_code mod_shoes mod_claims mod_taped u_8 u_9 mod_suits mod_doneMany mod_undoneMany u_10 u_11 mod_isBoth mod_wished mod_bestMany mod_bestRow mod_ringDigits mod_traces mod_tape u_12 u_13 u_14 u_15 u_16) H := hP
        have hD : va_D A (wl_X12_law ad cs mod_code mod_shoes mod_claims mod_taped u_8 u_9 mod_suits mod_doneMany mod_undoneMany u_10 u_11 mod_isBoth mod_wished mod_bestMany mod_bestRow mod_ringDigits mod_traces mod_tape u_12 u_13 u_14 u_15 u_16) := zDk hD [(ad 41), (ad 50), (ad 66), (ad 67), (ad 68), (ad 69), (ad 70)] rfl rfl
        exact ih56 x1 mod_taped u_8 u_9 u_10 u_11 u_12 u_13 u_14 u_15 u_16 h H locs ls hP hD hS (lv_sub hl [0, 1] rfl)
      · have h := zk_t c_6 h
        refine lv_iconst (v := (-1 : Int32)) hx hb dX12_law_22 (by decide) ?_
        exact W.iret (v := (-1 : Int32)) hx hb hr (fun t ht2 hW => ⟨⟨(-1 : Int32), (mod_taped, mod_here, mod_fault, mod_open, mod_laid, mod_act, mod_with, mod_lineMany, mod_testEnd, mod_lineEnd), rfl, Option.some.inj h, by rw [ht2]; exact hP, hD⟩, hS.F ht2⟩) hS.2.2 dX12_law_23 hlocks
theorem LG_X12_law {p : Program} {l : Launch} {e : Env} {s : State} {m : MethodId} {args : Array Value} {below : List Frame} {meth : Method} {c : Code} {A : Nat → Prop} {D : va_G} {cs : Nat → ClassId} {ad : Nat → Nat} {mod_code : Int32} {mod_shoes : Int32} {mod_claims : Int32} {mod_suits : Int32} {mod_doneMany : Int32} {mod_undoneMany : Int32} {mod_isBoth : Int32} {mod_wished : Int32} {mod_bestMany : Int32} {mod_bestRow : Int32} {mod_ringDigits : Int32} {mod_traces : Int32} {mod_tape : Nat → Int32} {R : Int32 × Int32 × Int32 × Int32 × Int32 × Int32 × (Nat → Int32) × (Nat → Int32) × (Nat → Int32) × (Nat → Int32) × (Nat → Int32)} (C0 : zC p s m args meth c cX12_law 4 (some .int) RX12 zW) (hK : va_K D classes (zT cs) s) (hA : ∀ q : Nat, s.heap.size ≤ q → A q) : ∀ n : Nat, (∀ (x1 : Int32) (mod_taped : Int32) (mod_here : Int32) (mod_fault : Int32) (mod_open : Int32) (mod_laid : Int32) (mod_act : Nat → Int32) (mod_with : Nat → Int32) (mod_lineMany : Nat → Int32) (mod_testEnd : Nat → Int32) (mod_lineEnd : Nat → Int32) (h : (G_X12_law   mod_code mod_shoes mod_claims mod_suits mod_doneMany mod_undoneMany mod_isBoth mod_wished mod_bestMany mod_bestRow mod_ringDigits mod_traces mod_tape n).1 x1 mod_taped mod_here mod_fault mod_open mod_laid mod_act mod_with mod_lineMany mod_testEnd mod_lineEnd = some R) (H : Heap) (locs : List Loc) (ls : Array Slot) (hP : va_P D classes (wl_X12_law ad cs mod_code mod_shoes mod_claims mod_taped mod_here mod_fault mod_suits mod_doneMany mod_undoneMany mod_open mod_laid mod_isBoth mod_wished mod_bestMany mod_bestRow mod_ringDigits mod_traces mod_tape mod_act mod_with mod_lineMany mod_testEnd mod_lineEnd) H) (hD : va_D A (wl_X12_law ad cs mod_code mod_shoes mod_claims mod_taped mod_here mod_fault mod_suits mod_doneMany mod_undoneMany mod_open mod_laid mod_isBoth mod_wished mod_bestMany mod_bestRow mod_ringDigits mod_traces mod_tape mod_act mod_with mod_lineMany mod_testEnd mod_lineEnd)) (hS : va_S A s.heap H locs) (hl : lv_has ls 4 [(0, .ref (ad 41)), (1, .int x1)]), W p l e rm_X12_law s m args below meth c H locs 0 0 (MQ below (Q_X12_law D cs ad mod_code mod_shoes mod_claims mod_suits mod_doneMany mod_undoneMany mod_isBoth mod_wished mod_bestMany mod_bestRow mod_ringDigits mod_traces mod_tape A R) args s 0 0 A) (F0 m 56 ls [])) ∧ (∀ (x2 : Int32) (x3 : Int32) (mod_taped : Int32) (mod_here : Int32) (mod_fault : Int32) (mod_open : Int32) (mod_laid : Int32) (mod_act : Nat → Int32) (mod_with : Nat → Int32) (mod_lineMany : Nat → Int32) (mod_testEnd : Nat → Int32) (mod_lineEnd : Nat → Int32) (h : (G_X12_law   mod_code mod_shoes mod_claims mod_suits mod_doneMany mod_undoneMany mod_isBoth mod_wished mod_bestMany mod_bestRow mod_ringDigits mod_traces mod_tape n).2.1 x2 x3 mod_taped mod_here mod_fault mod_open mod_laid mod_act mod_with mod_lineMany mod_testEnd mod_lineEnd = some R) (H : Heap) (locs : List Loc) (ls : Array Slot) (hP : va_P D classes (wl_X12_law ad cs mod_code mod_shoes mod_claims mod_taped mod_here mod_fault mod_suits mod_doneMany mod_undoneMany mod_open mod_laid mod_isBoth mod_wished mod_bestMany mod_bestRow mod_ringDigits mod_traces mod_tape mod_act mod_with mod_lineMany mod_testEnd mod_lineEnd) H) (hD : va_D A (wl_X12_law ad cs mod_code mod_shoes mod_claims mod_taped mod_here mod_fault mod_suits mod_doneMany mod_undoneMany mod_open mod_laid mod_isBoth mod_wished mod_bestMany mod_bestRow mod_ringDigits mod_traces mod_tape mod_act mod_with mod_lineMany mod_testEnd mod_lineEnd)) (hS : va_S A s.heap H locs) (hl : lv_has ls 4 [(0, .ref (ad 41)), (2, .int x2), (3, .int x3)]), W p l e rm_X12_law s m args below meth c H locs 0 0 (MQ below (Q_X12_law D cs ad mod_code mod_shoes mod_claims mod_suits mod_doneMany mod_undoneMany mod_isBoth mod_wished mod_bestMany mod_bestRow mod_ringDigits mod_traces mod_tape A R) args s 0 0 A) (F0 m 146 ls [])) ∧ (∀ (x2 : Int32) (x3 : Int32) (mod_taped : Int32) (mod_here : Int32) (mod_fault : Int32) (mod_open : Int32) (mod_laid : Int32) (mod_act : Nat → Int32) (mod_with : Nat → Int32) (mod_lineMany : Nat → Int32) (mod_testEnd : Nat → Int32) (mod_lineEnd : Nat → Int32) (h : (G_X12_law   mod_code mod_shoes mod_claims mod_suits mod_doneMany mod_undoneMany mod_isBoth mod_wished mod_bestMany mod_bestRow mod_ringDigits mod_traces mod_tape n).2.2 x2 x3 mod_taped mod_here mod_fault mod_open mod_laid mod_act mod_with mod_lineMany mod_testEnd mod_lineEnd = some R) (H : Heap) (locs : List Loc) (ls : Array Slot) (hP : va_P D classes (wl_X12_law ad cs mod_code mod_shoes mod_claims mod_taped mod_here mod_fault mod_suits mod_doneMany mod_undoneMany mod_open mod_laid mod_isBoth mod_wished mod_bestMany mod_bestRow mod_ringDigits mod_traces mod_tape mod_act mod_with mod_lineMany mod_testEnd mod_lineEnd) H) (hD : va_D A (wl_X12_law ad cs mod_code mod_shoes mod_claims mod_taped mod_here mod_fault mod_suits mod_doneMany mod_undoneMany mod_open mod_laid mod_isBoth mod_wished mod_bestMany mod_bestRow mod_ringDigits mod_traces mod_tape mod_act mod_with mod_lineMany mod_testEnd mod_lineEnd)) (hS : va_S A s.heap H locs) (hl : lv_has ls 4 [(0, .ref (ad 41)), (2, .int x2), (3, .int x3)]), W p l e rm_X12_law s m args below meth c H locs 0 0 (MQ below (Q_X12_law D cs ad mod_code mod_shoes mod_claims mod_suits mod_doneMany mod_undoneMany mod_isBoth mod_wished mod_bestMany mod_bestRow mod_ringDigits mod_traces mod_tape A R) args s 0 0 A) (F0 m 219 ls [])) := by
  intro n
  induction n with
  | zero =>
    refine ⟨?_, ?_, ?_⟩ <;> (intros; rename_i h _ _ _ _ _ _ _; cases h)
  | succ n ih =>
    exact ⟨L_X12_law_56 C0 hK hA  ih.1 ih.2.1 ih.2.2, L_X12_law_146 C0 hK hA  ih.1 ih.2.1 ih.2.2, L_X12_law_219 C0 hK hA  ih.1 ih.2.1 ih.2.2⟩
set_option maxHeartbeats 4000000 in
set_option maxRecDepth 100000 in
theorem c_X12_law (l : Launch) (D : va_G) (cs : Nat → ClassId) (ad : Nat → Nat) (sz : Nat) (n : Nat) (x1 : Int32) (mod_code : Int32) (mod_shoes : Int32) (mod_claims : Int32) (mod_taped : Int32) (mod_here : Int32) (mod_fault : Int32) (mod_suits : Int32) (mod_doneMany : Int32) (mod_undoneMany : Int32) (mod_open : Int32) (mod_laid : Int32) (mod_isBoth : Int32) (mod_wished : Int32) (mod_bestMany : Int32) (mod_bestRow : Int32) (mod_ringDigits : Int32) (mod_traces : Int32) (mod_tape : Nat → Int32) (mod_act : Nat → Int32) (mod_with : Nat → Int32) (mod_lineMany : Nat → Int32) (mod_testEnd : Nat → Int32) (mod_lineEnd : Nat → Int32) (R : Int32 × Int32 × Int32 × Int32 × Int32 × Int32 × (Nat → Int32) × (Nat → Int32) × (Nat → Int32) × (Nat → Int32) × (Nat → Int32)) (h : f_X12_law   n x1 mod_code mod_shoes mod_claims mod_taped mod_here mod_fault mod_suits mod_doneMany mod_undoneMany mod_open mod_laid mod_isBoth mod_wished mod_bestMany mod_bestRow mod_ringDigits mod_traces mod_tape mod_act mod_with mod_lineMany mod_testEnd mod_lineEnd = some R) : Met l yX12_law (z_X12_law) rm_X12_law (va_Pc [.ref (ad 41), .int x1] (zPre D cs (wl_X12_law ad cs mod_code mod_shoes mod_claims mod_taped mod_here mod_fault mod_suits mod_doneMany mod_undoneMany mod_open mod_laid mod_isBoth mod_wished mod_bestMany mod_bestRow mod_ringDigits mod_traces mod_tape mod_act mod_with mod_lineMany mod_testEnd mod_lineEnd) sz)) (Q_X12_law D cs ad mod_code mod_shoes mod_claims mod_suits mod_doneMany mod_undoneMany mod_isBoth mod_wished mod_bestMany mod_bestRow mod_ringDigits mod_traces mod_tape (va_A (wl_X12_law ad cs mod_code mod_shoes mod_claims mod_taped mod_here mod_fault mod_suits mod_doneMany mod_undoneMany mod_open mod_laid mod_isBoth mod_wished mod_bestMany mod_bestRow mod_ringDigits mod_traces mod_tape mod_act mod_with mod_lineMany mod_testEnd mod_lineEnd) sz) R) 0 0 (va_A (wl_X12_law ad cs mod_code mod_shoes mod_claims mod_taped mod_here mod_fault mod_suits mod_doneMany mod_undoneMany mod_open mod_laid mod_isBoth mod_wished mod_bestMany mod_bestRow mod_ringDigits mod_traces mod_tape mod_act mod_with mod_lineMany mod_testEnd mod_lineEnd) sz) := by
  refine Met.ofW (cc := cX12_law) (maxL := 4) (ret := (some .int)) (by decide) rfl ?_
  intro p e s m args below meth c s₁ B hml hv
  obtain ⟨rfl, hsz, hP, hK, hD0⟩ := hv
  subst hsz
  have hD := hD0.self (sz := s.heap.size)
  have C0 : zC p s m _ meth c cX12_law 4 (some .int) RX12 zW := ⟨B.exec, B.bytes, B.returns, hml, findClass_of_methodNamed B.named, fun w hw => atoms_spec (ws := z_X12_law) B.pre w (List.mem_cons_of_mem _ hw), B.notSynchronized⟩
  have hA : ∀ q : Nat, s.heap.size ≤ q → va_A (wl_X12_law ad cs mod_code mod_shoes mod_claims mod_taped mod_here mod_fault mod_suits mod_doneMany mod_undoneMany mod_open mod_laid mod_isBoth mod_wished mod_bestMany mod_bestRow mod_ringDigits mod_traces mod_tape mod_act mod_with mod_lineMany mod_testEnd mod_lineEnd) s.heap.size q := fun q h => Or.inr h
  have hl := lv_entry ([.ref (ad 41), .int x1]) (n := 4) (Nat.le_of_ble_eq_true rfl)
  rw [lg_entry_eq]
  generalize (lg_sl ([.ref (ad 41), .int x1]) ++ List.replicate (4 - (lg_sl ([.ref (ad 41), .int x1])).length) Slot.unset).toArray = ls at hl ⊢
  exact L_X12_law_0 C0 hK hA  ((LG_X12_law C0 hK hA  n).1) ((LG_X12_law C0 hK hA  n).2.1) ((LG_X12_law C0 hK hA  n).2.2) x1 mod_taped mod_here mod_fault mod_open mod_laid mod_act mod_with mod_lineMany mod_testEnd mod_lineEnd h s.heap [] ls hP hD va_S.rf hl
theorem zh_cX12_twoOf_0 : zck [26, 170, 0, 0, 0, 0, 0, 217, 0, 0, 0, 37, 0, 0, 0, 62, 0, 0, 0, 153, 0, 0] (zdu 0 cX12_twoOf.data.toList) = true := by decide +kernel
theorem dX12_twoOf_0 : decode cX12_twoOf 0 = .ok (.iload_n 0, 1) := zo_26 zh_cX12_twoOf_0 0 rfl
theorem dX12_twoOf_1 : decode cX12_twoOf 1 = .ok (.tableswitch 217 37 62 #[153, 203, 217, 217, 217, 127, 119, 217, 123, 217, 131, 217, 217, 217, 217, 217, 217, 217, 217, 217, 217, 217, 217, 170, 181, 192], 119) := by decide +kernel
theorem zh_cX12_twoOf_6 : zck [27, 28, 96, 172, 27, 28, 100, 172, 27, 28, 104, 172, 28, 154, 0, 7, 3, 167, 0, 16, 28, 2] (zdu 120 cX12_twoOf.data.toList) = true := by decide +kernel
theorem dX12_twoOf_120 : decode cX12_twoOf 120 = .ok (.iload_n 1, 1) := zo_27 zh_cX12_twoOf_6 0 rfl
theorem dX12_twoOf_121 : decode cX12_twoOf 121 = .ok (.iload_n 2, 1) := zo_28 zh_cX12_twoOf_6 1 rfl
theorem dX12_twoOf_122 : decode cX12_twoOf 122 = .ok (.iadd, 1) := zo_96 zh_cX12_twoOf_6 2 rfl
theorem dX12_twoOf_123 : decode cX12_twoOf 123 = .ok (.ireturn, 1) := zo_172 zh_cX12_twoOf_6 3 rfl
theorem dX12_twoOf_124 : decode cX12_twoOf 124 = .ok (.iload_n 1, 1) := zo_27 zh_cX12_twoOf_6 4 rfl
theorem dX12_twoOf_125 : decode cX12_twoOf 125 = .ok (.iload_n 2, 1) := zo_28 zh_cX12_twoOf_6 5 rfl
theorem dX12_twoOf_126 : decode cX12_twoOf 126 = .ok (.isub, 1) := zo_100 zh_cX12_twoOf_6 6 rfl
theorem dX12_twoOf_127 : decode cX12_twoOf 127 = .ok (.ireturn, 1) := zo_172 zh_cX12_twoOf_6 7 rfl
theorem dX12_twoOf_128 : decode cX12_twoOf 128 = .ok (.iload_n 1, 1) := zo_27 zh_cX12_twoOf_6 8 rfl
theorem dX12_twoOf_129 : decode cX12_twoOf 129 = .ok (.iload_n 2, 1) := zo_28 zh_cX12_twoOf_6 9 rfl
theorem dX12_twoOf_130 : decode cX12_twoOf 130 = .ok (.imul, 1) := zo_104 zh_cX12_twoOf_6 10 rfl
theorem dX12_twoOf_131 : decode cX12_twoOf 131 = .ok (.ireturn, 1) := zo_172 zh_cX12_twoOf_6 11 rfl
theorem dX12_twoOf_132 : decode cX12_twoOf 132 = .ok (.iload_n 2, 1) := zo_28 zh_cX12_twoOf_6 12 rfl
theorem dX12_twoOf_133 : decode cX12_twoOf 133 = .ok (.ifCond .ne 7, 3) := zo_p154 zh_cX12_twoOf_6 13 7 rfl rfl
theorem dX12_twoOf_136 : decode cX12_twoOf 136 = .ok (.iconst 0, 1) := zo_3 zh_cX12_twoOf_6 16 rfl
theorem dX12_twoOf_137 : decode cX12_twoOf 137 = .ok (.goto 16, 3) := zo_p167 zh_cX12_twoOf_6 17 16 rfl rfl
theorem zh_cX12_twoOf_7 : zck [28, 2, 160, 0, 8, 27, 116, 167, 0, 6, 27, 28, 108, 172, 28, 153, 0, 8, 28, 2, 160, 0] (zdu 140 cX12_twoOf.data.toList) = true := by decide +kernel
theorem dX12_twoOf_140 : decode cX12_twoOf 140 = .ok (.iload_n 2, 1) := zo_28 zh_cX12_twoOf_7 0 rfl
theorem dX12_twoOf_141 : decode cX12_twoOf 141 = .ok (.iconst (-1), 1) := zo_2 zh_cX12_twoOf_7 1 rfl
theorem dX12_twoOf_142 : decode cX12_twoOf 142 = .ok (.if_icmp .ne 8, 3) := zo_p160 zh_cX12_twoOf_7 2 8 rfl rfl
theorem dX12_twoOf_145 : decode cX12_twoOf 145 = .ok (.iload_n 1, 1) := zo_27 zh_cX12_twoOf_7 5 rfl
theorem zo_116 {c : ByteArray} {s : Nat} {K : List Nat} (h : zck K (zdu s c.data.toList) = true) (k : Nat) (hk : zt1 K k 116 = true) : decode c (s + k) = .ok (.ineg, 1) := zde ((zbd (zu1 (zh1 h hk))).trans rfl)
theorem dX12_twoOf_146 : decode cX12_twoOf 146 = .ok (.ineg, 1) := zo_116 zh_cX12_twoOf_7 6 rfl
theorem dX12_twoOf_147 : decode cX12_twoOf 147 = .ok (.goto 6, 3) := zo_p167 zh_cX12_twoOf_7 7 6 rfl rfl
theorem dX12_twoOf_150 : decode cX12_twoOf 150 = .ok (.iload_n 1, 1) := zo_27 zh_cX12_twoOf_7 10 rfl
theorem dX12_twoOf_151 : decode cX12_twoOf 151 = .ok (.iload_n 2, 1) := zo_28 zh_cX12_twoOf_7 11 rfl
theorem dX12_twoOf_152 : decode cX12_twoOf 152 = .ok (.idiv, 1) := zo_108 zh_cX12_twoOf_7 12 rfl
theorem dX12_twoOf_153 : decode cX12_twoOf 153 = .ok (.ireturn, 1) := zo_172 zh_cX12_twoOf_7 13 rfl
theorem dX12_twoOf_154 : decode cX12_twoOf 154 = .ok (.iload_n 2, 1) := zo_28 zh_cX12_twoOf_7 14 rfl
theorem dX12_twoOf_155 : decode cX12_twoOf 155 = .ok (.ifCond .eq 8, 3) := zo_p153 zh_cX12_twoOf_7 15 8 rfl rfl
theorem dX12_twoOf_158 : decode cX12_twoOf 158 = .ok (.iload_n 2, 1) := zo_28 zh_cX12_twoOf_7 18 rfl
theorem dX12_twoOf_159 : decode cX12_twoOf 159 = .ok (.iconst (-1), 1) := zo_2 zh_cX12_twoOf_7 19 rfl
theorem zh_cX12_twoOf_8 : zck [160, 0, 7, 3, 167, 0, 6, 27, 28, 112, 172, 27, 28, 162, 0, 7, 4, 167, 0, 4, 3, 172] (zdu 160 cX12_twoOf.data.toList) = true := by decide +kernel
theorem dX12_twoOf_160 : decode cX12_twoOf 160 = .ok (.if_icmp .ne 7, 3) := zo_p160 zh_cX12_twoOf_8 0 7 rfl rfl
theorem dX12_twoOf_163 : decode cX12_twoOf 163 = .ok (.iconst 0, 1) := zo_3 zh_cX12_twoOf_8 3 rfl
theorem dX12_twoOf_164 : decode cX12_twoOf 164 = .ok (.goto 6, 3) := zo_p167 zh_cX12_twoOf_8 4 6 rfl rfl
theorem dX12_twoOf_167 : decode cX12_twoOf 167 = .ok (.iload_n 1, 1) := zo_27 zh_cX12_twoOf_8 7 rfl
theorem dX12_twoOf_168 : decode cX12_twoOf 168 = .ok (.iload_n 2, 1) := zo_28 zh_cX12_twoOf_8 8 rfl
theorem dX12_twoOf_169 : decode cX12_twoOf 169 = .ok (.irem, 1) := zo_112 zh_cX12_twoOf_8 9 rfl
theorem dX12_twoOf_170 : decode cX12_twoOf 170 = .ok (.ireturn, 1) := zo_172 zh_cX12_twoOf_8 10 rfl
theorem dX12_twoOf_171 : decode cX12_twoOf 171 = .ok (.iload_n 1, 1) := zo_27 zh_cX12_twoOf_8 11 rfl
theorem dX12_twoOf_172 : decode cX12_twoOf 172 = .ok (.iload_n 2, 1) := zo_28 zh_cX12_twoOf_8 12 rfl
theorem dX12_twoOf_173 : decode cX12_twoOf 173 = .ok (.if_icmp .ge 7, 3) := zo_p162 zh_cX12_twoOf_8 13 7 rfl rfl
theorem dX12_twoOf_176 : decode cX12_twoOf 176 = .ok (.iconst 1, 1) := zo_4 zh_cX12_twoOf_8 16 rfl
theorem dX12_twoOf_177 : decode cX12_twoOf 177 = .ok (.goto 4, 3) := zo_p167 zh_cX12_twoOf_8 17 4 rfl rfl
theorem zh_cX12_twoOf_9 : zck [3, 172, 27, 28, 160, 0, 7, 4, 167, 0, 4, 3, 172, 27, 28, 164, 0, 7, 4, 167, 0, 4] (zdu 180 cX12_twoOf.data.toList) = true := by decide +kernel
theorem dX12_twoOf_180 : decode cX12_twoOf 180 = .ok (.iconst 0, 1) := zo_3 zh_cX12_twoOf_9 0 rfl
theorem dX12_twoOf_181 : decode cX12_twoOf 181 = .ok (.ireturn, 1) := zo_172 zh_cX12_twoOf_9 1 rfl
theorem dX12_twoOf_182 : decode cX12_twoOf 182 = .ok (.iload_n 1, 1) := zo_27 zh_cX12_twoOf_9 2 rfl
theorem dX12_twoOf_183 : decode cX12_twoOf 183 = .ok (.iload_n 2, 1) := zo_28 zh_cX12_twoOf_9 3 rfl
theorem dX12_twoOf_184 : decode cX12_twoOf 184 = .ok (.if_icmp .ne 7, 3) := zo_p160 zh_cX12_twoOf_9 4 7 rfl rfl
theorem dX12_twoOf_187 : decode cX12_twoOf 187 = .ok (.iconst 1, 1) := zo_4 zh_cX12_twoOf_9 7 rfl
theorem dX12_twoOf_188 : decode cX12_twoOf 188 = .ok (.goto 4, 3) := zo_p167 zh_cX12_twoOf_9 8 4 rfl rfl
theorem dX12_twoOf_191 : decode cX12_twoOf 191 = .ok (.iconst 0, 1) := zo_3 zh_cX12_twoOf_9 11 rfl
theorem dX12_twoOf_192 : decode cX12_twoOf 192 = .ok (.ireturn, 1) := zo_172 zh_cX12_twoOf_9 12 rfl
theorem dX12_twoOf_193 : decode cX12_twoOf 193 = .ok (.iload_n 1, 1) := zo_27 zh_cX12_twoOf_9 13 rfl
theorem dX12_twoOf_194 : decode cX12_twoOf 194 = .ok (.iload_n 2, 1) := zo_28 zh_cX12_twoOf_9 14 rfl
theorem dX12_twoOf_195 : decode cX12_twoOf 195 = .ok (.if_icmp .le 7, 3) := zo_p164 zh_cX12_twoOf_9 15 7 rfl rfl
theorem dX12_twoOf_198 : decode cX12_twoOf 198 = .ok (.iconst 1, 1) := zo_4 zh_cX12_twoOf_9 18 rfl
theorem dX12_twoOf_199 : decode cX12_twoOf 199 = .ok (.goto 4, 3) := zo_p167 zh_cX12_twoOf_9 19 4 rfl rfl
theorem zh_cX12_twoOf_10 : zck [0, 4, 3, 172, 27, 153, 0, 11, 28, 153, 0, 7, 4, 167, 0, 4, 3, 172, 27, 154, 0, 7] (zdu 200 cX12_twoOf.data.toList) = true := by decide +kernel
theorem dX12_twoOf_202 : decode cX12_twoOf 202 = .ok (.iconst 0, 1) := zo_3 zh_cX12_twoOf_10 2 rfl
theorem dX12_twoOf_203 : decode cX12_twoOf 203 = .ok (.ireturn, 1) := zo_172 zh_cX12_twoOf_10 3 rfl
theorem dX12_twoOf_204 : decode cX12_twoOf 204 = .ok (.iload_n 1, 1) := zo_27 zh_cX12_twoOf_10 4 rfl
theorem dX12_twoOf_205 : decode cX12_twoOf 205 = .ok (.ifCond .eq 11, 3) := zo_p153 zh_cX12_twoOf_10 5 11 rfl rfl
theorem dX12_twoOf_208 : decode cX12_twoOf 208 = .ok (.iload_n 2, 1) := zo_28 zh_cX12_twoOf_10 8 rfl
theorem dX12_twoOf_209 : decode cX12_twoOf 209 = .ok (.ifCond .eq 7, 3) := zo_p153 zh_cX12_twoOf_10 9 7 rfl rfl
theorem dX12_twoOf_212 : decode cX12_twoOf 212 = .ok (.iconst 1, 1) := zo_4 zh_cX12_twoOf_10 12 rfl
theorem dX12_twoOf_213 : decode cX12_twoOf 213 = .ok (.goto 4, 3) := zo_p167 zh_cX12_twoOf_10 13 4 rfl rfl
theorem dX12_twoOf_216 : decode cX12_twoOf 216 = .ok (.iconst 0, 1) := zo_3 zh_cX12_twoOf_10 16 rfl
theorem dX12_twoOf_217 : decode cX12_twoOf 217 = .ok (.ireturn, 1) := zo_172 zh_cX12_twoOf_10 17 rfl
theorem dX12_twoOf_218 : decode cX12_twoOf 218 = .ok (.iload_n 1, 1) := zo_27 zh_cX12_twoOf_10 18 rfl
theorem dX12_twoOf_219 : decode cX12_twoOf 219 = .ok (.ifCond .ne 7, 3) := zo_p154 zh_cX12_twoOf_10 19 7 rfl rfl
theorem zh_cX12_twoOf_11 : zck [0, 7, 28, 153, 0, 7, 4, 167, 0, 4, 3, 172] (zdu 220 cX12_twoOf.data.toList) = true := by decide +kernel
theorem dX12_twoOf_222 : decode cX12_twoOf 222 = .ok (.iload_n 2, 1) := zo_28 zh_cX12_twoOf_11 2 rfl
theorem dX12_twoOf_223 : decode cX12_twoOf 223 = .ok (.ifCond .eq 7, 3) := zo_p153 zh_cX12_twoOf_11 3 7 rfl rfl
theorem dX12_twoOf_226 : decode cX12_twoOf 226 = .ok (.iconst 1, 1) := zo_4 zh_cX12_twoOf_11 6 rfl
theorem dX12_twoOf_227 : decode cX12_twoOf 227 = .ok (.goto 4, 3) := zo_p167 zh_cX12_twoOf_11 7 4 rfl rfl
theorem dX12_twoOf_230 : decode cX12_twoOf 230 = .ok (.iconst 0, 1) := zo_3 zh_cX12_twoOf_11 10 rfl
theorem dX12_twoOf_231 : decode cX12_twoOf 231 = .ok (.ireturn, 1) := zo_172 zh_cX12_twoOf_11 11 rfl
abbrev z_X12_twoOf : List Cond := .code yX12_twoOf cX12_twoOf 3 (some .int) :: zW
abbrev wl_X12_twoOf (ad : Nat → Nat) (cs : Nat → ClassId)   : va_W := []
def Q_X12_twoOf (D : va_G) (cs : Nat → ClassId) (ad : Nat → Nat)   (A : Nat → Prop) (R : Int32 × Unit) : Array Value → State → Outcome → State → Prop :=
  va_Qi (fun (r : Int32) (u : Unit) => (r, u) = R) (fun (u : Unit) (t : State) => va_P D classes (wl_X12_twoOf ad cs ) t.heap ∧ va_D A (wl_X12_twoOf ad cs )) A
abbrev rm_X12_twoOf : Room := { frames := 0, cells := 0, slots := 0, locals := 0 }
def B_X12_twoOf_226      : Option (Int32 × Unit) :=
  (some ((1 : Int32), ()))
def B_X12_twoOf_163      : Option (Int32 × Unit) :=
  (some ((0 : Int32), ()))
def B_X12_twoOf_0     (x0 : Int32) (x1 : Int32) (x2 : Int32) : Option (Int32 × Unit) :=
  (if x0 = (37 : Int32) then (if x2 = 0 then (B_X12_twoOf_163 ) else (if x2 = (-1 : Int32) then (B_X12_twoOf_163 ) else (if x2 = 0 then none else (some (x1 - x1 / x2 * x2, ()))))) else (if x0 = (38 : Int32) then (if x1 = 0 then (some ((0 : Int32), ())) else (if x2 = 0 then (some ((0 : Int32), ())) else (some ((1 : Int32), ())))) else (if x0 = (39 : Int32) then (if x1 = 0 then (if x2 = 0 then (some ((0 : Int32), ())) else (B_X12_twoOf_226 )) else (B_X12_twoOf_226 )) else (if x0 = (40 : Int32) then (if x1 = 0 then (if x2 = 0 then (some ((0 : Int32), ())) else (B_X12_twoOf_226 )) else (B_X12_twoOf_226 )) else (if x0 = (41 : Int32) then (if x1 = 0 then (if x2 = 0 then (some ((0 : Int32), ())) else (B_X12_twoOf_226 )) else (B_X12_twoOf_226 )) else (if x0 = (42 : Int32) then (some (x1 * x2, ())) else (if x0 = (43 : Int32) then (some (x1 + x2, ())) else (if x0 = (44 : Int32) then (if x1 = 0 then (if x2 = 0 then (some ((0 : Int32), ())) else (B_X12_twoOf_226 )) else (B_X12_twoOf_226 )) else (if x0 = (45 : Int32) then (some (x1 - x2, ())) else (if x0 = (46 : Int32) then (if x1 = 0 then (if x2 = 0 then (some ((0 : Int32), ())) else (B_X12_twoOf_226 )) else (B_X12_twoOf_226 )) else (if x0 = (47 : Int32) then (if x2 = 0 then (some ((0 : Int32), ())) else (if x2 = (-1 : Int32) then (some (-x1, ())) else (if x2 = 0 then none else (some (x1 / x2, ()))))) else (if x0 = (48 : Int32) then (if x1 = 0 then (if x2 = 0 then (some ((0 : Int32), ())) else (B_X12_twoOf_226 )) else (B_X12_twoOf_226 )) else (if x0 = (49 : Int32) then (if x1 = 0 then (if x2 = 0 then (some ((0 : Int32), ())) else (B_X12_twoOf_226 )) else (B_X12_twoOf_226 )) else (if x0 = (50 : Int32) then (if x1 = 0 then (if x2 = 0 then (some ((0 : Int32), ())) else (B_X12_twoOf_226 )) else (B_X12_twoOf_226 )) else (if x0 = (51 : Int32) then (if x1 = 0 then (if x2 = 0 then (some ((0 : Int32), ())) else (B_X12_twoOf_226 )) else (B_X12_twoOf_226 )) else (if x0 = (52 : Int32) then (if x1 = 0 then (if x2 = 0 then (some ((0 : Int32), ())) else (B_X12_twoOf_226 )) else (B_X12_twoOf_226 )) else (if x0 = (53 : Int32) then (if x1 = 0 then (if x2 = 0 then (some ((0 : Int32), ())) else (B_X12_twoOf_226 )) else (B_X12_twoOf_226 )) else (if x0 = (54 : Int32) then (if x1 = 0 then (if x2 = 0 then (some ((0 : Int32), ())) else (B_X12_twoOf_226 )) else (B_X12_twoOf_226 )) else (if x0 = (55 : Int32) then (if x1 = 0 then (if x2 = 0 then (some ((0 : Int32), ())) else (B_X12_twoOf_226 )) else (B_X12_twoOf_226 )) else (if x0 = (56 : Int32) then (if x1 = 0 then (if x2 = 0 then (some ((0 : Int32), ())) else (B_X12_twoOf_226 )) else (B_X12_twoOf_226 )) else (if x0 = (57 : Int32) then (if x1 = 0 then (if x2 = 0 then (some ((0 : Int32), ())) else (B_X12_twoOf_226 )) else (B_X12_twoOf_226 )) else (if x0 = (58 : Int32) then (if x1 = 0 then (if x2 = 0 then (some ((0 : Int32), ())) else (B_X12_twoOf_226 )) else (B_X12_twoOf_226 )) else (if x0 = (59 : Int32) then (if x1 = 0 then (if x2 = 0 then (some ((0 : Int32), ())) else (B_X12_twoOf_226 )) else (B_X12_twoOf_226 )) else (if x0 = (60 : Int32) then (if x2 ≤ x1 then (some ((0 : Int32), ())) else (some ((1 : Int32), ()))) else (if x0 = (61 : Int32) then (if x1 = x2 then (some ((1 : Int32), ())) else (some ((0 : Int32), ()))) else (if x0 = (62 : Int32) then (if x1 ≤ x2 then (some ((0 : Int32), ())) else (some ((1 : Int32), ()))) else (if x1 = 0 then (if x2 = 0 then (some ((0 : Int32), ())) else (B_X12_twoOf_226 )) else (B_X12_twoOf_226 ))))))))))))))))))))))))))))
def f_X12_twoOf   (x0 : Int32) (x1 : Int32) (x2 : Int32)  : Option (Int32 × Unit) := B_X12_twoOf_0    x0 x1 x2 
set_option maxHeartbeats 4000000 in
set_option maxRecDepth 100000 in
theorem L_X12_twoOf_226 {p : Program} {l : Launch} {e : Env} {s : State} {m : MethodId} {args : Array Value} {below : List Frame} {meth : Method} {c : Code} {A : Nat → Prop} {D : va_G} {cs : Nat → ClassId} {ad : Nat → Nat} {R : Int32 × Unit} (C0 : zC p s m args meth c cX12_twoOf 3 (some .int) RX12 zW) (hK : va_K D classes (zT cs) s) (hA : ∀ q : Nat, s.heap.size ≤ q → A q)  (h : B_X12_twoOf_226  = some R) (H : Heap) (locs : List Loc) (ls : Array Slot) (hP : va_P D classes (wl_X12_twoOf ad cs ) H) (hD : va_D A (wl_X12_twoOf ad cs )) (hS : va_S A s.heap H locs) (hl : lv_has ls 3 []) : W p l e rm_X12_twoOf s m args below meth c H locs 0 0 (MQ below (Q_X12_twoOf D cs ad  A R) args s 0 0 A) (F0 m 226 ls []) := by
  obtain ⟨hx, hb, hr, hml, hown, ht, hlocks⟩ := id C0
  refine lv_iconst (v := (1 : Int32)) hx hb dX12_twoOf_226 (by decide) ?_
  refine lv_goto (tgt := 231) hx hb dX12_twoOf_227 (by decide) ?_
  exact W.iret (v := (1 : Int32)) hx hb hr (fun t ht2 hW => ⟨⟨(1 : Int32), (), rfl, Option.some.inj h, by rw [ht2]; exact hP, hD⟩, hS.F ht2⟩) hS.2.2 dX12_twoOf_231 hlocks
set_option maxHeartbeats 4000000 in
set_option maxRecDepth 100000 in
theorem L_X12_twoOf_163 {p : Program} {l : Launch} {e : Env} {s : State} {m : MethodId} {args : Array Value} {below : List Frame} {meth : Method} {c : Code} {A : Nat → Prop} {D : va_G} {cs : Nat → ClassId} {ad : Nat → Nat} {R : Int32 × Unit} (C0 : zC p s m args meth c cX12_twoOf 3 (some .int) RX12 zW) (hK : va_K D classes (zT cs) s) (hA : ∀ q : Nat, s.heap.size ≤ q → A q)  (h : B_X12_twoOf_163  = some R) (H : Heap) (locs : List Loc) (ls : Array Slot) (hP : va_P D classes (wl_X12_twoOf ad cs ) H) (hD : va_D A (wl_X12_twoOf ad cs )) (hS : va_S A s.heap H locs) (hl : lv_has ls 3 []) : W p l e rm_X12_twoOf s m args below meth c H locs 0 0 (MQ below (Q_X12_twoOf D cs ad  A R) args s 0 0 A) (F0 m 163 ls []) := by
  obtain ⟨hx, hb, hr, hml, hown, ht, hlocks⟩ := id C0
  refine lv_iconst (v := (0 : Int32)) hx hb dX12_twoOf_163 (by decide) ?_
  refine lv_goto (tgt := 170) hx hb dX12_twoOf_164 (by decide) ?_
  exact W.iret (v := (0 : Int32)) hx hb hr (fun t ht2 hW => ⟨⟨(0 : Int32), (), rfl, Option.some.inj h, by rw [ht2]; exact hP, hD⟩, hS.F ht2⟩) hS.2.2 dX12_twoOf_170 hlocks
set_option maxHeartbeats 4000000 in
set_option maxRecDepth 100000 in
theorem L_X12_twoOf_0 {p : Program} {l : Launch} {e : Env} {s : State} {m : MethodId} {args : Array Value} {below : List Frame} {meth : Method} {c : Code} {A : Nat → Prop} {D : va_G} {cs : Nat → ClassId} {ad : Nat → Nat} {R : Int32 × Unit} (C0 : zC p s m args meth c cX12_twoOf 3 (some .int) RX12 zW) (hK : va_K D classes (zT cs) s) (hA : ∀ q : Nat, s.heap.size ≤ q → A q) (x0 : Int32) (x1 : Int32) (x2 : Int32) (h : B_X12_twoOf_0 x0 x1 x2 = some R) (H : Heap) (locs : List Loc) (ls : Array Slot) (hP : va_P D classes (wl_X12_twoOf ad cs ) H) (hD : va_D A (wl_X12_twoOf ad cs )) (hS : va_S A s.heap H locs) (hl : lv_has ls 3 [(0, .int x0), (1, .int x1), (2, .int x2)]) : W p l e rm_X12_twoOf s m args below meth c H locs 0 0 (MQ below (Q_X12_twoOf D cs ad  A R) args s 0 0 A) (F0 m 0 ls []) := by
  obtain ⟨hx, hb, hr, hml, hown, ht, hlocks⟩ := id C0
  refine lv_iload_n hx hb dX12_twoOf_0 rfl (lv_at hl 0 rfl) ?_
  by_cases c_48 : x0 = (37 : Int32)
  · have h := zk_t c_48 h
    refine lv_tableIn (tgt := 154) hx hb dX12_twoOf_1 (by rw [c_48]; decide) (by rw [c_48]; decide) (by rw [c_48]; rfl) (by decide) ?_
    refine lv_iload_n hx hb dX12_twoOf_154 rfl (lv_at hl 2 rfl) ?_
    refine lv_if_eq (tgt := 163) hx hb dX12_twoOf_155 (by decide) (fun c_1 => ?_) (fun c_1 => ?_)
    · have h := zk_t c_1 h
      exact L_X12_twoOf_163 C0 hK hA    h H locs ls hP hD hS (lv_sub hl [] rfl)
    · have h := zk_f c_1 h
      refine lv_iload_n hx hb dX12_twoOf_158 rfl (lv_at hl 2 rfl) ?_
      refine lv_iconst (v := (-1 : Int32)) hx hb dX12_twoOf_159 (by decide) ?_
      refine lv_icmp_ne (tgt := 167) hx hb dX12_twoOf_160 (by decide) (fun c_2 => ?_) (fun c_2 => ?_)
      · have h := zk_f c_2 h
        refine lv_iload_n hx hb dX12_twoOf_167 rfl (lv_at hl 1 rfl) ?_
        refine lv_iload_n hx hb dX12_twoOf_168 rfl (lv_at hl 2 rfl) ?_
        obtain ⟨g_3, h⟩ := zk_gd h
        refine lv_irem hx hb dX12_twoOf_169 g_3 ?_
        exact W.iret (v := x1 - x1 / x2 * x2) hx hb hr (fun t ht2 hW => ⟨⟨x1 - x1 / x2 * x2, (), rfl, Option.some.inj h, by rw [ht2]; exact hP, hD⟩, hS.F ht2⟩) hS.2.2 dX12_twoOf_170 hlocks
      · have h := zk_t c_2 h
        exact L_X12_twoOf_163 C0 hK hA    h H locs ls hP hD hS (lv_sub hl [] rfl)
  · have h := zk_f c_48 h
    by_cases c_49 : x0 = (38 : Int32)
    · have h := zk_t c_49 h
      refine lv_tableIn (tgt := 204) hx hb dX12_twoOf_1 (by rw [c_49]; decide) (by rw [c_49]; decide) (by rw [c_49]; rfl) (by decide) ?_
      refine lv_iload_n hx hb dX12_twoOf_204 rfl (lv_at hl 1 rfl) ?_
      refine lv_if_eq (tgt := 216) hx hb dX12_twoOf_205 (by decide) (fun c_4 => ?_) (fun c_4 => ?_)
      · have h := zk_t c_4 h
        refine lv_iconst (v := (0 : Int32)) hx hb dX12_twoOf_216 (by decide) ?_
        exact W.iret (v := (0 : Int32)) hx hb hr (fun t ht2 hW => ⟨⟨(0 : Int32), (), rfl, Option.some.inj h, by rw [ht2]; exact hP, hD⟩, hS.F ht2⟩) hS.2.2 dX12_twoOf_217 hlocks
      · have h := zk_f c_4 h
        refine lv_iload_n hx hb dX12_twoOf_208 rfl (lv_at hl 2 rfl) ?_
        refine lv_if_eq (tgt := 216) hx hb dX12_twoOf_209 (by decide) (fun c_5 => ?_) (fun c_5 => ?_)
        · have h := zk_t c_5 h
          refine lv_iconst (v := (0 : Int32)) hx hb dX12_twoOf_216 (by decide) ?_
          exact W.iret (v := (0 : Int32)) hx hb hr (fun t ht2 hW => ⟨⟨(0 : Int32), (), rfl, Option.some.inj h, by rw [ht2]; exact hP, hD⟩, hS.F ht2⟩) hS.2.2 dX12_twoOf_217 hlocks
        · have h := zk_f c_5 h
          refine lv_iconst (v := (1 : Int32)) hx hb dX12_twoOf_212 (by decide) ?_
          refine lv_goto (tgt := 217) hx hb dX12_twoOf_213 (by decide) ?_
          exact W.iret (v := (1 : Int32)) hx hb hr (fun t ht2 hW => ⟨⟨(1 : Int32), (), rfl, Option.some.inj h, by rw [ht2]; exact hP, hD⟩, hS.F ht2⟩) hS.2.2 dX12_twoOf_217 hlocks
    · have h := zk_f c_49 h
      by_cases c_50 : x0 = (39 : Int32)
      · have h := zk_t c_50 h
        refine lv_tableIn (tgt := 218) hx hb dX12_twoOf_1 (by rw [c_50]; decide) (by rw [c_50]; decide) (by rw [c_50]; rfl) (by decide) ?_
        refine lv_iload_n hx hb dX12_twoOf_218 rfl (lv_at hl 1 rfl) ?_
        refine lv_if_ne (tgt := 226) hx hb dX12_twoOf_219 (by decide) (fun c_6 => ?_) (fun c_6 => ?_)
        · have h := zk_f c_6 h
          exact L_X12_twoOf_226 C0 hK hA    h H locs ls hP hD hS (lv_sub hl [] rfl)
        · have h := zk_t c_6 h
          refine lv_iload_n hx hb dX12_twoOf_222 rfl (lv_at hl 2 rfl) ?_
          refine lv_if_eq (tgt := 230) hx hb dX12_twoOf_223 (by decide) (fun c_7 => ?_) (fun c_7 => ?_)
          · have h := zk_t c_7 h
            refine lv_iconst (v := (0 : Int32)) hx hb dX12_twoOf_230 (by decide) ?_
            exact W.iret (v := (0 : Int32)) hx hb hr (fun t ht2 hW => ⟨⟨(0 : Int32), (), rfl, Option.some.inj h, by rw [ht2]; exact hP, hD⟩, hS.F ht2⟩) hS.2.2 dX12_twoOf_231 hlocks
          · have h := zk_f c_7 h
            exact L_X12_twoOf_226 C0 hK hA    h H locs ls hP hD hS (lv_sub hl [] rfl)
      · have h := zk_f c_50 h
        by_cases c_51 : x0 = (40 : Int32)
        · have h := zk_t c_51 h
          refine lv_tableIn (tgt := 218) hx hb dX12_twoOf_1 (by rw [c_51]; decide) (by rw [c_51]; decide) (by rw [c_51]; rfl) (by decide) ?_
          refine lv_iload_n hx hb dX12_twoOf_218 rfl (lv_at hl 1 rfl) ?_
          refine lv_if_ne (tgt := 226) hx hb dX12_twoOf_219 (by decide) (fun c_8 => ?_) (fun c_8 => ?_)
          · have h := zk_f c_8 h
            exact L_X12_twoOf_226 C0 hK hA    h H locs ls hP hD hS (lv_sub hl [] rfl)
          · have h := zk_t c_8 h
            refine lv_iload_n hx hb dX12_twoOf_222 rfl (lv_at hl 2 rfl) ?_
            refine lv_if_eq (tgt := 230) hx hb dX12_twoOf_223 (by decide) (fun c_9 => ?_) (fun c_9 => ?_)
            · have h := zk_t c_9 h
              refine lv_iconst (v := (0 : Int32)) hx hb dX12_twoOf_230 (by decide) ?_
              exact W.iret (v := (0 : Int32)) hx hb hr (fun t ht2 hW => ⟨⟨(0 : Int32), (), rfl, Option.some.inj h, by rw [ht2]; exact hP, hD⟩, hS.F ht2⟩) hS.2.2 dX12_twoOf_231 hlocks
            · have h := zk_f c_9 h
              exact L_X12_twoOf_226 C0 hK hA    h H locs ls hP hD hS (lv_sub hl [] rfl)
        · have h := zk_f c_51 h
          by_cases c_52 : x0 = (41 : Int32)
          · have h := zk_t c_52 h
            refine lv_tableIn (tgt := 218) hx hb dX12_twoOf_1 (by rw [c_52]; decide) (by rw [c_52]; decide) (by rw [c_52]; rfl) (by decide) ?_
            refine lv_iload_n hx hb dX12_twoOf_218 rfl (lv_at hl 1 rfl) ?_
            refine lv_if_ne (tgt := 226) hx hb dX12_twoOf_219 (by decide) (fun c_10 => ?_) (fun c_10 => ?_)
            · have h := zk_f c_10 h
              exact L_X12_twoOf_226 C0 hK hA    h H locs ls hP hD hS (lv_sub hl [] rfl)
            · have h := zk_t c_10 h
              refine lv_iload_n hx hb dX12_twoOf_222 rfl (lv_at hl 2 rfl) ?_
              refine lv_if_eq (tgt := 230) hx hb dX12_twoOf_223 (by decide) (fun c_11 => ?_) (fun c_11 => ?_)
              · have h := zk_t c_11 h
                refine lv_iconst (v := (0 : Int32)) hx hb dX12_twoOf_230 (by decide) ?_
                exact W.iret (v := (0 : Int32)) hx hb hr (fun t ht2 hW => ⟨⟨(0 : Int32), (), rfl, Option.some.inj h, by rw [ht2]; exact hP, hD⟩, hS.F ht2⟩) hS.2.2 dX12_twoOf_231 hlocks
              · have h := zk_f c_11 h
                exact L_X12_twoOf_226 C0 hK hA    h H locs ls hP hD hS (lv_sub hl [] rfl)
          · have h := zk_f c_52 h
            by_cases c_53 : x0 = (42 : Int32)
            · have h := zk_t c_53 h
              refine lv_tableIn (tgt := 128) hx hb dX12_twoOf_1 (by rw [c_53]; decide) (by rw [c_53]; decide) (by rw [c_53]; rfl) (by decide) ?_
              refine lv_iload_n hx hb dX12_twoOf_128 rfl (lv_at hl 1 rfl) ?_
              refine lv_iload_n hx hb dX12_twoOf_129 rfl (lv_at hl 2 rfl) ?_
              refine lv_imul hx hb dX12_twoOf_130 ?_
              exact W.iret (v := x1 * x2) hx hb hr (fun t ht2 hW => ⟨⟨x1 * x2, (), rfl, Option.some.inj h, by rw [ht2]; exact hP, hD⟩, hS.F ht2⟩) hS.2.2 dX12_twoOf_131 hlocks
            · have h := zk_f c_53 h
              by_cases c_54 : x0 = (43 : Int32)
              · have h := zk_t c_54 h
                refine lv_tableIn (tgt := 120) hx hb dX12_twoOf_1 (by rw [c_54]; decide) (by rw [c_54]; decide) (by rw [c_54]; rfl) (by decide) ?_
                refine lv_iload_n hx hb dX12_twoOf_120 rfl (lv_at hl 1 rfl) ?_
                refine lv_iload_n hx hb dX12_twoOf_121 rfl (lv_at hl 2 rfl) ?_
                refine lv_iadd hx hb dX12_twoOf_122 ?_
                exact W.iret (v := x1 + x2) hx hb hr (fun t ht2 hW => ⟨⟨x1 + x2, (), rfl, Option.some.inj h, by rw [ht2]; exact hP, hD⟩, hS.F ht2⟩) hS.2.2 dX12_twoOf_123 hlocks
              · have h := zk_f c_54 h
                by_cases c_55 : x0 = (44 : Int32)
                · have h := zk_t c_55 h
                  refine lv_tableIn (tgt := 218) hx hb dX12_twoOf_1 (by rw [c_55]; decide) (by rw [c_55]; decide) (by rw [c_55]; rfl) (by decide) ?_
                  refine lv_iload_n hx hb dX12_twoOf_218 rfl (lv_at hl 1 rfl) ?_
                  refine lv_if_ne (tgt := 226) hx hb dX12_twoOf_219 (by decide) (fun c_12 => ?_) (fun c_12 => ?_)
                  · have h := zk_f c_12 h
                    exact L_X12_twoOf_226 C0 hK hA    h H locs ls hP hD hS (lv_sub hl [] rfl)
                  · have h := zk_t c_12 h
                    refine lv_iload_n hx hb dX12_twoOf_222 rfl (lv_at hl 2 rfl) ?_
                    refine lv_if_eq (tgt := 230) hx hb dX12_twoOf_223 (by decide) (fun c_13 => ?_) (fun c_13 => ?_)
                    · have h := zk_t c_13 h
                      refine lv_iconst (v := (0 : Int32)) hx hb dX12_twoOf_230 (by decide) ?_
                      exact W.iret (v := (0 : Int32)) hx hb hr (fun t ht2 hW => ⟨⟨(0 : Int32), (), rfl, Option.some.inj h, by rw [ht2]; exact hP, hD⟩, hS.F ht2⟩) hS.2.2 dX12_twoOf_231 hlocks
                    · have h := zk_f c_13 h
                      exact L_X12_twoOf_226 C0 hK hA    h H locs ls hP hD hS (lv_sub hl [] rfl)
                · have h := zk_f c_55 h
                  by_cases c_56 : x0 = (45 : Int32)
                  · have h := zk_t c_56 h
                    refine lv_tableIn (tgt := 124) hx hb dX12_twoOf_1 (by rw [c_56]; decide) (by rw [c_56]; decide) (by rw [c_56]; rfl) (by decide) ?_
                    refine lv_iload_n hx hb dX12_twoOf_124 rfl (lv_at hl 1 rfl) ?_
                    refine lv_iload_n hx hb dX12_twoOf_125 rfl (lv_at hl 2 rfl) ?_
                    refine lv_isub hx hb dX12_twoOf_126 ?_
                    exact W.iret (v := x1 - x2) hx hb hr (fun t ht2 hW => ⟨⟨x1 - x2, (), rfl, Option.some.inj h, by rw [ht2]; exact hP, hD⟩, hS.F ht2⟩) hS.2.2 dX12_twoOf_127 hlocks
                  · have h := zk_f c_56 h
                    by_cases c_57 : x0 = (46 : Int32)
                    · have h := zk_t c_57 h
                      refine lv_tableIn (tgt := 218) hx hb dX12_twoOf_1 (by rw [c_57]; decide) (by rw [c_57]; decide) (by rw [c_57]; rfl) (by decide) ?_
                      refine lv_iload_n hx hb dX12_twoOf_218 rfl (lv_at hl 1 rfl) ?_
                      refine lv_if_ne (tgt := 226) hx hb dX12_twoOf_219 (by decide) (fun c_14 => ?_) (fun c_14 => ?_)
                      · have h := zk_f c_14 h
                        exact L_X12_twoOf_226 C0 hK hA    h H locs ls hP hD hS (lv_sub hl [] rfl)
                      · have h := zk_t c_14 h
                        refine lv_iload_n hx hb dX12_twoOf_222 rfl (lv_at hl 2 rfl) ?_
                        refine lv_if_eq (tgt := 230) hx hb dX12_twoOf_223 (by decide) (fun c_15 => ?_) (fun c_15 => ?_)
                        · have h := zk_t c_15 h
                          refine lv_iconst (v := (0 : Int32)) hx hb dX12_twoOf_230 (by decide) ?_
                          exact W.iret (v := (0 : Int32)) hx hb hr (fun t ht2 hW => ⟨⟨(0 : Int32), (), rfl, Option.some.inj h, by rw [ht2]; exact hP, hD⟩, hS.F ht2⟩) hS.2.2 dX12_twoOf_231 hlocks
                        · have h := zk_f c_15 h
                          exact L_X12_twoOf_226 C0 hK hA    h H locs ls hP hD hS (lv_sub hl [] rfl)
                    · have h := zk_f c_57 h
                      by_cases c_58 : x0 = (47 : Int32)
                      · have h := zk_t c_58 h
                        refine lv_tableIn (tgt := 132) hx hb dX12_twoOf_1 (by rw [c_58]; decide) (by rw [c_58]; decide) (by rw [c_58]; rfl) (by decide) ?_
                        refine lv_iload_n hx hb dX12_twoOf_132 rfl (lv_at hl 2 rfl) ?_
                        refine lv_if_ne (tgt := 140) hx hb dX12_twoOf_133 (by decide) (fun c_16 => ?_) (fun c_16 => ?_)
                        · have h := zk_f c_16 h
                          refine lv_iload_n hx hb dX12_twoOf_140 rfl (lv_at hl 2 rfl) ?_
                          refine lv_iconst (v := (-1 : Int32)) hx hb dX12_twoOf_141 (by decide) ?_
                          refine lv_icmp_ne (tgt := 150) hx hb dX12_twoOf_142 (by decide) (fun c_17 => ?_) (fun c_17 => ?_)
                          · have h := zk_f c_17 h
                            refine lv_iload_n hx hb dX12_twoOf_150 rfl (lv_at hl 1 rfl) ?_
                            refine lv_iload_n hx hb dX12_twoOf_151 rfl (lv_at hl 2 rfl) ?_
                            obtain ⟨g_18, h⟩ := zk_gd h
                            refine lv_idiv hx hb dX12_twoOf_152 g_18 ?_
                            exact W.iret (v := x1 / x2) hx hb hr (fun t ht2 hW => ⟨⟨x1 / x2, (), rfl, Option.some.inj h, by rw [ht2]; exact hP, hD⟩, hS.F ht2⟩) hS.2.2 dX12_twoOf_153 hlocks
                          · have h := zk_t c_17 h
                            refine lv_iload_n hx hb dX12_twoOf_145 rfl (lv_at hl 1 rfl) ?_
                            refine lv_ineg hx hb dX12_twoOf_146 ?_
                            refine lv_goto (tgt := 153) hx hb dX12_twoOf_147 (by decide) ?_
                            exact W.iret (v := -x1) hx hb hr (fun t ht2 hW => ⟨⟨-x1, (), rfl, Option.some.inj h, by rw [ht2]; exact hP, hD⟩, hS.F ht2⟩) hS.2.2 dX12_twoOf_153 hlocks
                        · have h := zk_t c_16 h
                          refine lv_iconst (v := (0 : Int32)) hx hb dX12_twoOf_136 (by decide) ?_
                          refine lv_goto (tgt := 153) hx hb dX12_twoOf_137 (by decide) ?_
                          exact W.iret (v := (0 : Int32)) hx hb hr (fun t ht2 hW => ⟨⟨(0 : Int32), (), rfl, Option.some.inj h, by rw [ht2]; exact hP, hD⟩, hS.F ht2⟩) hS.2.2 dX12_twoOf_153 hlocks
                      · have h := zk_f c_58 h
                        by_cases c_59 : x0 = (48 : Int32)
                        · have h := zk_t c_59 h
                          refine lv_tableIn (tgt := 218) hx hb dX12_twoOf_1 (by rw [c_59]; decide) (by rw [c_59]; decide) (by rw [c_59]; rfl) (by decide) ?_
                          refine lv_iload_n hx hb dX12_twoOf_218 rfl (lv_at hl 1 rfl) ?_
                          refine lv_if_ne (tgt := 226) hx hb dX12_twoOf_219 (by decide) (fun c_19 => ?_) (fun c_19 => ?_)
                          · have h := zk_f c_19 h
                            exact L_X12_twoOf_226 C0 hK hA    h H locs ls hP hD hS (lv_sub hl [] rfl)
                          · have h := zk_t c_19 h
                            refine lv_iload_n hx hb dX12_twoOf_222 rfl (lv_at hl 2 rfl) ?_
                            refine lv_if_eq (tgt := 230) hx hb dX12_twoOf_223 (by decide) (fun c_20 => ?_) (fun c_20 => ?_)
                            · have h := zk_t c_20 h
                              refine lv_iconst (v := (0 : Int32)) hx hb dX12_twoOf_230 (by decide) ?_
                              exact W.iret (v := (0 : Int32)) hx hb hr (fun t ht2 hW => ⟨⟨(0 : Int32), (), rfl, Option.some.inj h, by rw [ht2]; exact hP, hD⟩, hS.F ht2⟩) hS.2.2 dX12_twoOf_231 hlocks
                            · have h := zk_f c_20 h
                              exact L_X12_twoOf_226 C0 hK hA    h H locs ls hP hD hS (lv_sub hl [] rfl)
                        · have h := zk_f c_59 h
                          by_cases c_60 : x0 = (49 : Int32)
                          · have h := zk_t c_60 h
                            refine lv_tableIn (tgt := 218) hx hb dX12_twoOf_1 (by rw [c_60]; decide) (by rw [c_60]; decide) (by rw [c_60]; rfl) (by decide) ?_
                            refine lv_iload_n hx hb dX12_twoOf_218 rfl (lv_at hl 1 rfl) ?_
                            refine lv_if_ne (tgt := 226) hx hb dX12_twoOf_219 (by decide) (fun c_21 => ?_) (fun c_21 => ?_)
                            · have h := zk_f c_21 h
                              exact L_X12_twoOf_226 C0 hK hA    h H locs ls hP hD hS (lv_sub hl [] rfl)
                            · have h := zk_t c_21 h
                              refine lv_iload_n hx hb dX12_twoOf_222 rfl (lv_at hl 2 rfl) ?_
                              refine lv_if_eq (tgt := 230) hx hb dX12_twoOf_223 (by decide) (fun c_22 => ?_) (fun c_22 => ?_)
                              · have h := zk_t c_22 h
                                refine lv_iconst (v := (0 : Int32)) hx hb dX12_twoOf_230 (by decide) ?_
                                exact W.iret (v := (0 : Int32)) hx hb hr (fun t ht2 hW => ⟨⟨(0 : Int32), (), rfl, Option.some.inj h, by rw [ht2]; exact hP, hD⟩, hS.F ht2⟩) hS.2.2 dX12_twoOf_231 hlocks
                              · have h := zk_f c_22 h
                                exact L_X12_twoOf_226 C0 hK hA    h H locs ls hP hD hS (lv_sub hl [] rfl)
                          · have h := zk_f c_60 h
                            by_cases c_61 : x0 = (50 : Int32)
                            · have h := zk_t c_61 h
                              refine lv_tableIn (tgt := 218) hx hb dX12_twoOf_1 (by rw [c_61]; decide) (by rw [c_61]; decide) (by rw [c_61]; rfl) (by decide) ?_
                              refine lv_iload_n hx hb dX12_twoOf_218 rfl (lv_at hl 1 rfl) ?_
                              refine lv_if_ne (tgt := 226) hx hb dX12_twoOf_219 (by decide) (fun c_23 => ?_) (fun c_23 => ?_)
                              · have h := zk_f c_23 h
                                exact L_X12_twoOf_226 C0 hK hA    h H locs ls hP hD hS (lv_sub hl [] rfl)
                              · have h := zk_t c_23 h
                                refine lv_iload_n hx hb dX12_twoOf_222 rfl (lv_at hl 2 rfl) ?_
                                refine lv_if_eq (tgt := 230) hx hb dX12_twoOf_223 (by decide) (fun c_24 => ?_) (fun c_24 => ?_)
                                · have h := zk_t c_24 h
                                  refine lv_iconst (v := (0 : Int32)) hx hb dX12_twoOf_230 (by decide) ?_
                                  exact W.iret (v := (0 : Int32)) hx hb hr (fun t ht2 hW => ⟨⟨(0 : Int32), (), rfl, Option.some.inj h, by rw [ht2]; exact hP, hD⟩, hS.F ht2⟩) hS.2.2 dX12_twoOf_231 hlocks
                                · have h := zk_f c_24 h
                                  exact L_X12_twoOf_226 C0 hK hA    h H locs ls hP hD hS (lv_sub hl [] rfl)
                            · have h := zk_f c_61 h
                              by_cases c_62 : x0 = (51 : Int32)
                              · have h := zk_t c_62 h
                                refine lv_tableIn (tgt := 218) hx hb dX12_twoOf_1 (by rw [c_62]; decide) (by rw [c_62]; decide) (by rw [c_62]; rfl) (by decide) ?_
                                refine lv_iload_n hx hb dX12_twoOf_218 rfl (lv_at hl 1 rfl) ?_
                                refine lv_if_ne (tgt := 226) hx hb dX12_twoOf_219 (by decide) (fun c_25 => ?_) (fun c_25 => ?_)
                                · have h := zk_f c_25 h
                                  exact L_X12_twoOf_226 C0 hK hA    h H locs ls hP hD hS (lv_sub hl [] rfl)
                                · have h := zk_t c_25 h
                                  refine lv_iload_n hx hb dX12_twoOf_222 rfl (lv_at hl 2 rfl) ?_
                                  refine lv_if_eq (tgt := 230) hx hb dX12_twoOf_223 (by decide) (fun c_26 => ?_) (fun c_26 => ?_)
                                  · have h := zk_t c_26 h
                                    refine lv_iconst (v := (0 : Int32)) hx hb dX12_twoOf_230 (by decide) ?_
                                    exact W.iret (v := (0 : Int32)) hx hb hr (fun t ht2 hW => ⟨⟨(0 : Int32), (), rfl, Option.some.inj h, by rw [ht2]; exact hP, hD⟩, hS.F ht2⟩) hS.2.2 dX12_twoOf_231 hlocks
                                  · have h := zk_f c_26 h
                                    exact L_X12_twoOf_226 C0 hK hA    h H locs ls hP hD hS (lv_sub hl [] rfl)
                              · have h := zk_f c_62 h
                                by_cases c_63 : x0 = (52 : Int32)
                                · have h := zk_t c_63 h
                                  refine lv_tableIn (tgt := 218) hx hb dX12_twoOf_1 (by rw [c_63]; decide) (by rw [c_63]; decide) (by rw [c_63]; rfl) (by decide) ?_
                                  refine lv_iload_n hx hb dX12_twoOf_218 rfl (lv_at hl 1 rfl) ?_
                                  refine lv_if_ne (tgt := 226) hx hb dX12_twoOf_219 (by decide) (fun c_27 => ?_) (fun c_27 => ?_)
                                  · have h := zk_f c_27 h
                                    exact L_X12_twoOf_226 C0 hK hA    h H locs ls hP hD hS (lv_sub hl [] rfl)
                                  · have h := zk_t c_27 h
                                    refine lv_iload_n hx hb dX12_twoOf_222 rfl (lv_at hl 2 rfl) ?_
                                    refine lv_if_eq (tgt := 230) hx hb dX12_twoOf_223 (by decide) (fun c_28 => ?_) (fun c_28 => ?_)
                                    · have h := zk_t c_28 h
                                      refine lv_iconst (v := (0 : Int32)) hx hb dX12_twoOf_230 (by decide) ?_
                                      exact W.iret (v := (0 : Int32)) hx hb hr (fun t ht2 hW => ⟨⟨(0 : Int32), (), rfl, Option.some.inj h, by rw [ht2]; exact hP, hD⟩, hS.F ht2⟩) hS.2.2 dX12_twoOf_231 hlocks
                                    · have h := zk_f c_28 h
                                      exact L_X12_twoOf_226 C0 hK hA    h H locs ls hP hD hS (lv_sub hl [] rfl)
                                · have h := zk_f c_63 h
                                  by_cases c_64 : x0 = (53 : Int32)
                                  · have h := zk_t c_64 h
                                    refine lv_tableIn (tgt := 218) hx hb dX12_twoOf_1 (by rw [c_64]; decide) (by rw [c_64]; decide) (by rw [c_64]; rfl) (by decide) ?_
                                    refine lv_iload_n hx hb dX12_twoOf_218 rfl (lv_at hl 1 rfl) ?_
                                    refine lv_if_ne (tgt := 226) hx hb dX12_twoOf_219 (by decide) (fun c_29 => ?_) (fun c_29 => ?_)
                                    · have h := zk_f c_29 h
                                      exact L_X12_twoOf_226 C0 hK hA    h H locs ls hP hD hS (lv_sub hl [] rfl)
                                    · have h := zk_t c_29 h
                                      refine lv_iload_n hx hb dX12_twoOf_222 rfl (lv_at hl 2 rfl) ?_
                                      refine lv_if_eq (tgt := 230) hx hb dX12_twoOf_223 (by decide) (fun c_30 => ?_) (fun c_30 => ?_)
                                      · have h := zk_t c_30 h
                                        refine lv_iconst (v := (0 : Int32)) hx hb dX12_twoOf_230 (by decide) ?_
                                        exact W.iret (v := (0 : Int32)) hx hb hr (fun t ht2 hW => ⟨⟨(0 : Int32), (), rfl, Option.some.inj h, by rw [ht2]; exact hP, hD⟩, hS.F ht2⟩) hS.2.2 dX12_twoOf_231 hlocks
                                      · have h := zk_f c_30 h
                                        exact L_X12_twoOf_226 C0 hK hA    h H locs ls hP hD hS (lv_sub hl [] rfl)
                                  · have h := zk_f c_64 h
                                    by_cases c_65 : x0 = (54 : Int32)
                                    · have h := zk_t c_65 h
                                      refine lv_tableIn (tgt := 218) hx hb dX12_twoOf_1 (by rw [c_65]; decide) (by rw [c_65]; decide) (by rw [c_65]; rfl) (by decide) ?_
                                      refine lv_iload_n hx hb dX12_twoOf_218 rfl (lv_at hl 1 rfl) ?_
                                      refine lv_if_ne (tgt := 226) hx hb dX12_twoOf_219 (by decide) (fun c_31 => ?_) (fun c_31 => ?_)
                                      · have h := zk_f c_31 h
                                        exact L_X12_twoOf_226 C0 hK hA    h H locs ls hP hD hS (lv_sub hl [] rfl)
                                      · have h := zk_t c_31 h
                                        refine lv_iload_n hx hb dX12_twoOf_222 rfl (lv_at hl 2 rfl) ?_
                                        refine lv_if_eq (tgt := 230) hx hb dX12_twoOf_223 (by decide) (fun c_32 => ?_) (fun c_32 => ?_)
                                        · have h := zk_t c_32 h
                                          refine lv_iconst (v := (0 : Int32)) hx hb dX12_twoOf_230 (by decide) ?_
                                          exact W.iret (v := (0 : Int32)) hx hb hr (fun t ht2 hW => ⟨⟨(0 : Int32), (), rfl, Option.some.inj h, by rw [ht2]; exact hP, hD⟩, hS.F ht2⟩) hS.2.2 dX12_twoOf_231 hlocks
                                        · have h := zk_f c_32 h
                                          exact L_X12_twoOf_226 C0 hK hA    h H locs ls hP hD hS (lv_sub hl [] rfl)
                                    · have h := zk_f c_65 h
                                      by_cases c_66 : x0 = (55 : Int32)
                                      · have h := zk_t c_66 h
                                        refine lv_tableIn (tgt := 218) hx hb dX12_twoOf_1 (by rw [c_66]; decide) (by rw [c_66]; decide) (by rw [c_66]; rfl) (by decide) ?_
                                        refine lv_iload_n hx hb dX12_twoOf_218 rfl (lv_at hl 1 rfl) ?_
                                        refine lv_if_ne (tgt := 226) hx hb dX12_twoOf_219 (by decide) (fun c_33 => ?_) (fun c_33 => ?_)
                                        · have h := zk_f c_33 h
                                          exact L_X12_twoOf_226 C0 hK hA    h H locs ls hP hD hS (lv_sub hl [] rfl)
                                        · have h := zk_t c_33 h
                                          refine lv_iload_n hx hb dX12_twoOf_222 rfl (lv_at hl 2 rfl) ?_
                                          refine lv_if_eq (tgt := 230) hx hb dX12_twoOf_223 (by decide) (fun c_34 => ?_) (fun c_34 => ?_)
                                          · have h := zk_t c_34 h
                                            refine lv_iconst (v := (0 : Int32)) hx hb dX12_twoOf_230 (by decide) ?_
                                            exact W.iret (v := (0 : Int32)) hx hb hr (fun t ht2 hW => ⟨⟨(0 : Int32), (), rfl, Option.some.inj h, by rw [ht2]; exact hP, hD⟩, hS.F ht2⟩) hS.2.2 dX12_twoOf_231 hlocks
                                          · have h := zk_f c_34 h
                                            exact L_X12_twoOf_226 C0 hK hA    h H locs ls hP hD hS (lv_sub hl [] rfl)
                                      · have h := zk_f c_66 h
                                        by_cases c_67 : x0 = (56 : Int32)
                                        · have h := zk_t c_67 h
                                          refine lv_tableIn (tgt := 218) hx hb dX12_twoOf_1 (by rw [c_67]; decide) (by rw [c_67]; decide) (by rw [c_67]; rfl) (by decide) ?_
                                          refine lv_iload_n hx hb dX12_twoOf_218 rfl (lv_at hl 1 rfl) ?_
                                          refine lv_if_ne (tgt := 226) hx hb dX12_twoOf_219 (by decide) (fun c_35 => ?_) (fun c_35 => ?_)
                                          · have h := zk_f c_35 h
                                            exact L_X12_twoOf_226 C0 hK hA    h H locs ls hP hD hS (lv_sub hl [] rfl)
                                          · have h := zk_t c_35 h
                                            refine lv_iload_n hx hb dX12_twoOf_222 rfl (lv_at hl 2 rfl) ?_
                                            refine lv_if_eq (tgt := 230) hx hb dX12_twoOf_223 (by decide) (fun c_36 => ?_) (fun c_36 => ?_)
                                            · have h := zk_t c_36 h
                                              refine lv_iconst (v := (0 : Int32)) hx hb dX12_twoOf_230 (by decide) ?_
                                              exact W.iret (v := (0 : Int32)) hx hb hr (fun t ht2 hW => ⟨⟨(0 : Int32), (), rfl, Option.some.inj h, by rw [ht2]; exact hP, hD⟩, hS.F ht2⟩) hS.2.2 dX12_twoOf_231 hlocks
                                            · have h := zk_f c_36 h
                                              exact L_X12_twoOf_226 C0 hK hA    h H locs ls hP hD hS (lv_sub hl [] rfl)
                                        · have h := zk_f c_67 h
                                          by_cases c_68 : x0 = (57 : Int32)
                                          · have h := zk_t c_68 h
                                            refine lv_tableIn (tgt := 218) hx hb dX12_twoOf_1 (by rw [c_68]; decide) (by rw [c_68]; decide) (by rw [c_68]; rfl) (by decide) ?_
                                            refine lv_iload_n hx hb dX12_twoOf_218 rfl (lv_at hl 1 rfl) ?_
                                            refine lv_if_ne (tgt := 226) hx hb dX12_twoOf_219 (by decide) (fun c_37 => ?_) (fun c_37 => ?_)
                                            · have h := zk_f c_37 h
                                              exact L_X12_twoOf_226 C0 hK hA    h H locs ls hP hD hS (lv_sub hl [] rfl)
                                            · have h := zk_t c_37 h
                                              refine lv_iload_n hx hb dX12_twoOf_222 rfl (lv_at hl 2 rfl) ?_
                                              refine lv_if_eq (tgt := 230) hx hb dX12_twoOf_223 (by decide) (fun c_38 => ?_) (fun c_38 => ?_)
                                              · have h := zk_t c_38 h
                                                refine lv_iconst (v := (0 : Int32)) hx hb dX12_twoOf_230 (by decide) ?_
                                                exact W.iret (v := (0 : Int32)) hx hb hr (fun t ht2 hW => ⟨⟨(0 : Int32), (), rfl, Option.some.inj h, by rw [ht2]; exact hP, hD⟩, hS.F ht2⟩) hS.2.2 dX12_twoOf_231 hlocks
                                              · have h := zk_f c_38 h
                                                exact L_X12_twoOf_226 C0 hK hA    h H locs ls hP hD hS (lv_sub hl [] rfl)
                                          · have h := zk_f c_68 h
                                            by_cases c_69 : x0 = (58 : Int32)
                                            · have h := zk_t c_69 h
                                              refine lv_tableIn (tgt := 218) hx hb dX12_twoOf_1 (by rw [c_69]; decide) (by rw [c_69]; decide) (by rw [c_69]; rfl) (by decide) ?_
                                              refine lv_iload_n hx hb dX12_twoOf_218 rfl (lv_at hl 1 rfl) ?_
                                              refine lv_if_ne (tgt := 226) hx hb dX12_twoOf_219 (by decide) (fun c_39 => ?_) (fun c_39 => ?_)
                                              · have h := zk_f c_39 h
                                                exact L_X12_twoOf_226 C0 hK hA    h H locs ls hP hD hS (lv_sub hl [] rfl)
                                              · have h := zk_t c_39 h
                                                refine lv_iload_n hx hb dX12_twoOf_222 rfl (lv_at hl 2 rfl) ?_
                                                refine lv_if_eq (tgt := 230) hx hb dX12_twoOf_223 (by decide) (fun c_40 => ?_) (fun c_40 => ?_)
                                                · have h := zk_t c_40 h
                                                  refine lv_iconst (v := (0 : Int32)) hx hb dX12_twoOf_230 (by decide) ?_
                                                  exact W.iret (v := (0 : Int32)) hx hb hr (fun t ht2 hW => ⟨⟨(0 : Int32), (), rfl, Option.some.inj h, by rw [ht2]; exact hP, hD⟩, hS.F ht2⟩) hS.2.2 dX12_twoOf_231 hlocks
                                                · have h := zk_f c_40 h
                                                  exact L_X12_twoOf_226 C0 hK hA    h H locs ls hP hD hS (lv_sub hl [] rfl)
                                            · have h := zk_f c_69 h
                                              by_cases c_70 : x0 = (59 : Int32)
                                              · have h := zk_t c_70 h
                                                refine lv_tableIn (tgt := 218) hx hb dX12_twoOf_1 (by rw [c_70]; decide) (by rw [c_70]; decide) (by rw [c_70]; rfl) (by decide) ?_
                                                refine lv_iload_n hx hb dX12_twoOf_218 rfl (lv_at hl 1 rfl) ?_
                                                refine lv_if_ne (tgt := 226) hx hb dX12_twoOf_219 (by decide) (fun c_41 => ?_) (fun c_41 => ?_)
                                                · have h := zk_f c_41 h
                                                  exact L_X12_twoOf_226 C0 hK hA    h H locs ls hP hD hS (lv_sub hl [] rfl)
                                                · have h := zk_t c_41 h
                                                  refine lv_iload_n hx hb dX12_twoOf_222 rfl (lv_at hl 2 rfl) ?_
                                                  refine lv_if_eq (tgt := 230) hx hb dX12_twoOf_223 (by decide) (fun c_42 => ?_) (fun c_42 => ?_)
                                                  · have h := zk_t c_42 h
                                                    refine lv_iconst (v := (0 : Int32)) hx hb dX12_twoOf_230 (by decide) ?_
                                                    exact W.iret (v := (0 : Int32)) hx hb hr (fun t ht2 hW => ⟨⟨(0 : Int32), (), rfl, Option.some.inj h, by rw [ht2]; exact hP, hD⟩, hS.F ht2⟩) hS.2.2 dX12_twoOf_231 hlocks
                                                  · have h := zk_f c_42 h
                                                    exact L_X12_twoOf_226 C0 hK hA    h H locs ls hP hD hS (lv_sub hl [] rfl)
                                              · have h := zk_f c_70 h
                                                by_cases c_71 : x0 = (60 : Int32)
                                                · have h := zk_t c_71 h
                                                  refine lv_tableIn (tgt := 171) hx hb dX12_twoOf_1 (by rw [c_71]; decide) (by rw [c_71]; decide) (by rw [c_71]; rfl) (by decide) ?_
                                                  refine lv_iload_n hx hb dX12_twoOf_171 rfl (lv_at hl 1 rfl) ?_
                                                  refine lv_iload_n hx hb dX12_twoOf_172 rfl (lv_at hl 2 rfl) ?_
                                                  refine lv_icmp_ge (tgt := 180) hx hb dX12_twoOf_173 (by decide) (fun c_43 => ?_) (fun c_43 => ?_)
                                                  · have h := zk_t c_43 h
                                                    refine lv_iconst (v := (0 : Int32)) hx hb dX12_twoOf_180 (by decide) ?_
                                                    exact W.iret (v := (0 : Int32)) hx hb hr (fun t ht2 hW => ⟨⟨(0 : Int32), (), rfl, Option.some.inj h, by rw [ht2]; exact hP, hD⟩, hS.F ht2⟩) hS.2.2 dX12_twoOf_181 hlocks
                                                  · have h := zk_f c_43 h
                                                    refine lv_iconst (v := (1 : Int32)) hx hb dX12_twoOf_176 (by decide) ?_
                                                    refine lv_goto (tgt := 181) hx hb dX12_twoOf_177 (by decide) ?_
                                                    exact W.iret (v := (1 : Int32)) hx hb hr (fun t ht2 hW => ⟨⟨(1 : Int32), (), rfl, Option.some.inj h, by rw [ht2]; exact hP, hD⟩, hS.F ht2⟩) hS.2.2 dX12_twoOf_181 hlocks
                                                · have h := zk_f c_71 h
                                                  by_cases c_72 : x0 = (61 : Int32)
                                                  · have h := zk_t c_72 h
                                                    refine lv_tableIn (tgt := 182) hx hb dX12_twoOf_1 (by rw [c_72]; decide) (by rw [c_72]; decide) (by rw [c_72]; rfl) (by decide) ?_
                                                    refine lv_iload_n hx hb dX12_twoOf_182 rfl (lv_at hl 1 rfl) ?_
                                                    refine lv_iload_n hx hb dX12_twoOf_183 rfl (lv_at hl 2 rfl) ?_
                                                    refine lv_icmp_ne (tgt := 191) hx hb dX12_twoOf_184 (by decide) (fun c_44 => ?_) (fun c_44 => ?_)
                                                    · have h := zk_f c_44 h
                                                      refine lv_iconst (v := (0 : Int32)) hx hb dX12_twoOf_191 (by decide) ?_
                                                      exact W.iret (v := (0 : Int32)) hx hb hr (fun t ht2 hW => ⟨⟨(0 : Int32), (), rfl, Option.some.inj h, by rw [ht2]; exact hP, hD⟩, hS.F ht2⟩) hS.2.2 dX12_twoOf_192 hlocks
                                                    · have h := zk_t c_44 h
                                                      refine lv_iconst (v := (1 : Int32)) hx hb dX12_twoOf_187 (by decide) ?_
                                                      refine lv_goto (tgt := 192) hx hb dX12_twoOf_188 (by decide) ?_
                                                      exact W.iret (v := (1 : Int32)) hx hb hr (fun t ht2 hW => ⟨⟨(1 : Int32), (), rfl, Option.some.inj h, by rw [ht2]; exact hP, hD⟩, hS.F ht2⟩) hS.2.2 dX12_twoOf_192 hlocks
                                                  · have h := zk_f c_72 h
                                                    by_cases c_73 : x0 = (62 : Int32)
                                                    · have h := zk_t c_73 h
                                                      refine lv_tableIn (tgt := 193) hx hb dX12_twoOf_1 (by rw [c_73]; decide) (by rw [c_73]; decide) (by rw [c_73]; rfl) (by decide) ?_
                                                      refine lv_iload_n hx hb dX12_twoOf_193 rfl (lv_at hl 1 rfl) ?_
                                                      refine lv_iload_n hx hb dX12_twoOf_194 rfl (lv_at hl 2 rfl) ?_
                                                      refine lv_icmp_le (tgt := 202) hx hb dX12_twoOf_195 (by decide) (fun c_45 => ?_) (fun c_45 => ?_)
                                                      · have h := zk_t c_45 h
                                                        refine lv_iconst (v := (0 : Int32)) hx hb dX12_twoOf_202 (by decide) ?_
                                                        exact W.iret (v := (0 : Int32)) hx hb hr (fun t ht2 hW => ⟨⟨(0 : Int32), (), rfl, Option.some.inj h, by rw [ht2]; exact hP, hD⟩, hS.F ht2⟩) hS.2.2 dX12_twoOf_203 hlocks
                                                      · have h := zk_f c_45 h
                                                        refine lv_iconst (v := (1 : Int32)) hx hb dX12_twoOf_198 (by decide) ?_
                                                        refine lv_goto (tgt := 203) hx hb dX12_twoOf_199 (by decide) ?_
                                                        exact W.iret (v := (1 : Int32)) hx hb hr (fun t ht2 hW => ⟨⟨(1 : Int32), (), rfl, Option.some.inj h, by rw [ht2]; exact hP, hD⟩, hS.F ht2⟩) hS.2.2 dX12_twoOf_203 hlocks
                                                    · have h := zk_f c_73 h
                                                      refine lv_tableOut (tgt := 218) hx hb dX12_twoOf_1 (zk_out (lo := 37) (hi := 62) [(37 : Int32), (38 : Int32), (39 : Int32), (40 : Int32), (41 : Int32), (42 : Int32), (43 : Int32), (44 : Int32), (45 : Int32), (46 : Int32), (47 : Int32), (48 : Int32), (49 : Int32), (50 : Int32), (51 : Int32), (52 : Int32), (53 : Int32), (54 : Int32), (55 : Int32), (56 : Int32), (57 : Int32), (58 : Int32), (59 : Int32), (60 : Int32), (61 : Int32), (62 : Int32)] (by decide +kernel) (List.forall_mem_cons.mpr ⟨c_48, List.forall_mem_cons.mpr ⟨c_49, List.forall_mem_cons.mpr ⟨c_50, List.forall_mem_cons.mpr ⟨c_51, List.forall_mem_cons.mpr ⟨c_52, List.forall_mem_cons.mpr ⟨c_53, List.forall_mem_cons.mpr ⟨c_54, List.forall_mem_cons.mpr ⟨c_55, List.forall_mem_cons.mpr ⟨c_56, List.forall_mem_cons.mpr ⟨c_57, List.forall_mem_cons.mpr ⟨c_58, List.forall_mem_cons.mpr ⟨c_59, List.forall_mem_cons.mpr ⟨c_60, List.forall_mem_cons.mpr ⟨c_61, List.forall_mem_cons.mpr ⟨c_62, List.forall_mem_cons.mpr ⟨c_63, List.forall_mem_cons.mpr ⟨c_64, List.forall_mem_cons.mpr ⟨c_65, List.forall_mem_cons.mpr ⟨c_66, List.forall_mem_cons.mpr ⟨c_67, List.forall_mem_cons.mpr ⟨c_68, List.forall_mem_cons.mpr ⟨c_69, List.forall_mem_cons.mpr ⟨c_70, List.forall_mem_cons.mpr ⟨c_71, List.forall_mem_cons.mpr ⟨c_72, List.forall_mem_cons.mpr ⟨c_73, fun _ h => absurd h List.not_mem_nil⟩⟩⟩⟩⟩⟩⟩⟩⟩⟩⟩⟩⟩⟩⟩⟩⟩⟩⟩⟩⟩⟩⟩⟩⟩⟩)) (by decide) ?_
                                                      refine lv_iload_n hx hb dX12_twoOf_218 rfl (lv_at hl 1 rfl) ?_
                                                      refine lv_if_ne (tgt := 226) hx hb dX12_twoOf_219 (by decide) (fun c_46 => ?_) (fun c_46 => ?_)
                                                      · have h := zk_f c_46 h
                                                        exact L_X12_twoOf_226 C0 hK hA    h H locs ls hP hD hS (lv_sub hl [] rfl)
                                                      · have h := zk_t c_46 h
                                                        refine lv_iload_n hx hb dX12_twoOf_222 rfl (lv_at hl 2 rfl) ?_
                                                        refine lv_if_eq (tgt := 230) hx hb dX12_twoOf_223 (by decide) (fun c_47 => ?_) (fun c_47 => ?_)
                                                        · have h := zk_t c_47 h
                                                          refine lv_iconst (v := (0 : Int32)) hx hb dX12_twoOf_230 (by decide) ?_
                                                          exact W.iret (v := (0 : Int32)) hx hb hr (fun t ht2 hW => ⟨⟨(0 : Int32), (), rfl, Option.some.inj h, by rw [ht2]; exact hP, hD⟩, hS.F ht2⟩) hS.2.2 dX12_twoOf_231 hlocks
                                                        · have h := zk_f c_47 h
                                                          exact L_X12_twoOf_226 C0 hK hA    h H locs ls hP hD hS (lv_sub hl [] rfl)
set_option maxHeartbeats 4000000 in
set_option maxRecDepth 100000 in
theorem c_X12_twoOf (l : Launch) (D : va_G) (cs : Nat → ClassId) (ad : Nat → Nat) (sz : Nat) (x0 : Int32) (x1 : Int32) (x2 : Int32)  (R : Int32 × Unit) (h : f_X12_twoOf   x0 x1 x2  = some R) : Met l yX12_twoOf (z_X12_twoOf) rm_X12_twoOf (va_Pc [.int x0, .int x1, .int x2] (zPre D cs (wl_X12_twoOf ad cs ) sz)) (Q_X12_twoOf D cs ad  (va_A (wl_X12_twoOf ad cs ) sz) R) 0 0 (va_A (wl_X12_twoOf ad cs ) sz) := by
  refine Met.ofW (cc := cX12_twoOf) (maxL := 3) (ret := (some .int)) (by decide) rfl ?_
  intro p e s m args below meth c s₁ B hml hv
  obtain ⟨rfl, hsz, hP, hK, hD0⟩ := hv
  subst hsz
  have hD := hD0.self (sz := s.heap.size)
  have C0 : zC p s m _ meth c cX12_twoOf 3 (some .int) RX12 zW := ⟨B.exec, B.bytes, B.returns, hml, findClass_of_methodNamed B.named, fun w hw => atoms_spec (ws := z_X12_twoOf) B.pre w (List.mem_cons_of_mem _ hw), B.notSynchronized⟩
  have hA : ∀ q : Nat, s.heap.size ≤ q → va_A (wl_X12_twoOf ad cs ) s.heap.size q := fun q h => Or.inr h
  have hl := lv_entry ([.int x0, .int x1, .int x2]) (n := 3) (Nat.le_of_ble_eq_true rfl)
  rw [lg_entry_eq]
  generalize (lg_sl ([.int x0, .int x1, .int x2]) ++ List.replicate (3 - (lg_sl ([.int x0, .int x1, .int x2])).length) Slot.unset).toArray = ls at hl ⊢
  exact L_X12_twoOf_0 C0 hK hA   x0 x1 x2  h s.heap [] ls hP hD va_S.rf hl
theorem kw_1335 : Cond.fieldLink RX12 99 "AlreadyJudgedModel" "facts" "[I" ∈ zW := zwC (i := 61) zc_6 rfl rfl
theorem kw_1336 : Cond.fieldLink RX12 102 "AlreadyJudgedModel" "pile" "[I" ∈ zW := zwC (i := 62) zc_6 rfl rfl
theorem kw_1689 : Cond.methodLink RX12 296 yX12_twoOf ∈ zW := zwC (i := 175) zc_7 rfl rfl
theorem kw_1690 : Cond.static yX12_twoOf ∈ zW := zwC (i := 176) zc_7 rfl rfl
theorem kw_1691 : Cond.code yX12_twoOf cX12_twoOf 3 (some .int) ∈ zW := zwC (i := 177) zc_7 rfl rfl
theorem zh_cX12_worked_0 : zck [3, 54, 4, 17, 0, 130, 27, 104, 28, 96, 54, 5, 21, 5, 17, 0, 130, 27, 104, 29, 96, 162] (zdu 0 cX12_worked.data.toList) = true := by decide +kernel
theorem dX12_worked_0 : decode cX12_worked 0 = .ok (.iconst 0, 1) := zo_3 zh_cX12_worked_0 0 rfl
theorem dX12_worked_1 : decode cX12_worked 1 = .ok (.istore 4, 2) := zo_54 zh_cX12_worked_0 1 rfl
theorem dX12_worked_3 : decode cX12_worked 3 = .ok (.sipush 130, 3) := zo_p17 zh_cX12_worked_0 3 130 rfl rfl
theorem dX12_worked_6 : decode cX12_worked 6 = .ok (.iload_n 1, 1) := zo_27 zh_cX12_worked_0 6 rfl
theorem dX12_worked_7 : decode cX12_worked 7 = .ok (.imul, 1) := zo_104 zh_cX12_worked_0 7 rfl
theorem dX12_worked_8 : decode cX12_worked 8 = .ok (.iload_n 2, 1) := zo_28 zh_cX12_worked_0 8 rfl
theorem dX12_worked_9 : decode cX12_worked 9 = .ok (.iadd, 1) := zo_96 zh_cX12_worked_0 9 rfl
theorem dX12_worked_10 : decode cX12_worked 10 = .ok (.istore 5, 2) := zo_54 zh_cX12_worked_0 10 rfl
theorem dX12_worked_12 : decode cX12_worked 12 = .ok (.iload 5, 2) := zo_21 zh_cX12_worked_0 12 rfl
theorem dX12_worked_14 : decode cX12_worked 14 = .ok (.sipush 130, 3) := zo_p17 zh_cX12_worked_0 14 130 rfl rfl
theorem dX12_worked_17 : decode cX12_worked 17 = .ok (.iload_n 1, 1) := zo_27 zh_cX12_worked_0 17 rfl
theorem dX12_worked_18 : decode cX12_worked 18 = .ok (.imul, 1) := zo_104 zh_cX12_worked_0 18 rfl
theorem dX12_worked_19 : decode cX12_worked 19 = .ok (.iload_n 3, 1) := zo_29 zh_cX12_worked_0 19 rfl
theorem zh_cX12_worked_1 : zck [96, 162, 0, 167, 42, 180, 0, 83, 21, 5, 51, 54, 6, 21, 6, 4, 159, 0, 9, 21, 6, 5] (zdu 20 cX12_worked.data.toList) = true := by decide +kernel
theorem dX12_worked_20 : decode cX12_worked 20 = .ok (.iadd, 1) := zo_96 zh_cX12_worked_1 0 rfl
theorem dX12_worked_21 : decode cX12_worked 21 = .ok (.if_icmp .ge 167, 3) := zo_p162 zh_cX12_worked_1 1 167 rfl rfl
theorem dX12_worked_24 : decode cX12_worked 24 = .ok (.aload_n 0, 1) := zo_42 zh_cX12_worked_1 4 rfl
theorem dX12_worked_25 : decode cX12_worked 25 = .ok (.getfield 83, 3) := zo_180 zh_cX12_worked_1 5 rfl
theorem dX12_worked_28 : decode cX12_worked 28 = .ok (.iload 5, 2) := zo_21 zh_cX12_worked_1 8 rfl
theorem dX12_worked_30 : decode cX12_worked 30 = .ok (.baload, 1) := zo_51 zh_cX12_worked_1 10 rfl
theorem dX12_worked_31 : decode cX12_worked 31 = .ok (.istore 6, 2) := zo_54 zh_cX12_worked_1 11 rfl
theorem dX12_worked_33 : decode cX12_worked 33 = .ok (.iload 6, 2) := zo_21 zh_cX12_worked_1 13 rfl
theorem dX12_worked_35 : decode cX12_worked 35 = .ok (.iconst 1, 1) := zo_4 zh_cX12_worked_1 15 rfl
theorem dX12_worked_36 : decode cX12_worked 36 = .ok (.if_icmp .eq 9, 3) := zo_p159 zh_cX12_worked_1 16 9 rfl rfl
theorem dX12_worked_39 : decode cX12_worked 39 = .ok (.iload 6, 2) := zo_21 zh_cX12_worked_1 19 rfl
theorem zh_cX12_worked_2 : zck [6, 5, 160, 0, 44, 42, 180, 0, 102, 21, 4, 21, 6, 4, 160, 0, 13, 42, 180, 0, 86, 21] (zdu 40 cX12_worked.data.toList) = true := by decide +kernel
theorem dX12_worked_41 : decode cX12_worked 41 = .ok (.iconst 2, 1) := zo_5 zh_cX12_worked_2 1 rfl
theorem dX12_worked_42 : decode cX12_worked 42 = .ok (.if_icmp .ne 44, 3) := zo_p160 zh_cX12_worked_2 2 44 rfl rfl
theorem dX12_worked_45 : decode cX12_worked 45 = .ok (.aload_n 0, 1) := zo_42 zh_cX12_worked_2 5 rfl
theorem dX12_worked_46 : decode cX12_worked 46 = .ok (.getfield 102, 3) := zo_180 zh_cX12_worked_2 6 rfl
theorem dX12_worked_49 : decode cX12_worked 49 = .ok (.iload 4, 2) := zo_21 zh_cX12_worked_2 9 rfl
theorem dX12_worked_51 : decode cX12_worked 51 = .ok (.iload 6, 2) := zo_21 zh_cX12_worked_2 11 rfl
theorem dX12_worked_53 : decode cX12_worked 53 = .ok (.iconst 1, 1) := zo_4 zh_cX12_worked_2 13 rfl
theorem dX12_worked_54 : decode cX12_worked 54 = .ok (.if_icmp .ne 13, 3) := zo_p160 zh_cX12_worked_2 14 13 rfl rfl
theorem dX12_worked_57 : decode cX12_worked 57 = .ok (.aload_n 0, 1) := zo_42 zh_cX12_worked_2 17 rfl
theorem dX12_worked_58 : decode cX12_worked 58 = .ok (.getfield 86, 3) := zo_180 zh_cX12_worked_2 18 rfl
theorem zh_cX12_worked_3 : zck [86, 21, 5, 46, 167, 0, 15, 42, 180, 0, 99, 42, 180, 0, 86, 21, 5, 46, 46, 79, 132, 4] (zdu 60 cX12_worked.data.toList) = true := by decide +kernel
theorem dX12_worked_61 : decode cX12_worked 61 = .ok (.iload 5, 2) := zo_21 zh_cX12_worked_3 1 rfl
theorem dX12_worked_63 : decode cX12_worked 63 = .ok (.iaload, 1) := zo_46 zh_cX12_worked_3 3 rfl
theorem dX12_worked_64 : decode cX12_worked 64 = .ok (.goto 15, 3) := zo_p167 zh_cX12_worked_3 4 15 rfl rfl
theorem dX12_worked_67 : decode cX12_worked 67 = .ok (.aload_n 0, 1) := zo_42 zh_cX12_worked_3 7 rfl
theorem dX12_worked_68 : decode cX12_worked 68 = .ok (.getfield 99, 3) := zo_180 zh_cX12_worked_3 8 rfl
theorem dX12_worked_71 : decode cX12_worked 71 = .ok (.aload_n 0, 1) := zo_42 zh_cX12_worked_3 11 rfl
theorem dX12_worked_72 : decode cX12_worked 72 = .ok (.getfield 86, 3) := zo_180 zh_cX12_worked_3 12 rfl
theorem dX12_worked_75 : decode cX12_worked 75 = .ok (.iload 5, 2) := zo_21 zh_cX12_worked_3 15 rfl
theorem dX12_worked_77 : decode cX12_worked 77 = .ok (.iaload, 1) := zo_46 zh_cX12_worked_3 17 rfl
theorem dX12_worked_78 : decode cX12_worked 78 = .ok (.iaload, 1) := zo_46 zh_cX12_worked_3 18 rfl
theorem dX12_worked_79 : decode cX12_worked 79 = .ok (.iastore, 1) := zo_79 zh_cX12_worked_3 19 rfl
theorem zh_cX12_worked_4 : zck [132, 4, 1, 167, 0, 99, 21, 6, 6, 160, 0, 32, 42, 180, 0, 102, 21, 4, 4, 100, 42, 180] (zdu 80 cX12_worked.data.toList) = true := by decide +kernel
theorem dX12_worked_80 : decode cX12_worked 80 = .ok (.iinc 4 1, 3) := zo_p132 zh_cX12_worked_4 0 1 rfl rfl
theorem dX12_worked_83 : decode cX12_worked 83 = .ok (.goto 99, 3) := zo_p167 zh_cX12_worked_4 3 99 rfl rfl
theorem dX12_worked_86 : decode cX12_worked 86 = .ok (.iload 6, 2) := zo_21 zh_cX12_worked_4 6 rfl
theorem dX12_worked_88 : decode cX12_worked 88 = .ok (.iconst 3, 1) := zo_6 zh_cX12_worked_4 8 rfl
theorem dX12_worked_89 : decode cX12_worked 89 = .ok (.if_icmp .ne 32, 3) := zo_p160 zh_cX12_worked_4 9 32 rfl rfl
theorem dX12_worked_92 : decode cX12_worked 92 = .ok (.aload_n 0, 1) := zo_42 zh_cX12_worked_4 12 rfl
theorem dX12_worked_93 : decode cX12_worked 93 = .ok (.getfield 102, 3) := zo_180 zh_cX12_worked_4 13 rfl
theorem dX12_worked_96 : decode cX12_worked 96 = .ok (.iload 4, 2) := zo_21 zh_cX12_worked_4 16 rfl
theorem dX12_worked_98 : decode cX12_worked 98 = .ok (.iconst 1, 1) := zo_4 zh_cX12_worked_4 18 rfl
theorem dX12_worked_99 : decode cX12_worked 99 = .ok (.isub, 1) := zo_100 zh_cX12_worked_4 19 rfl
theorem zh_cX12_worked_5 : zck [42, 180, 0, 102, 21, 4, 4, 100, 46, 154, 0, 7, 4, 167, 0, 4, 3, 79, 167, 0, 64, 21] (zdu 100 cX12_worked.data.toList) = true := by decide +kernel
theorem dX12_worked_100 : decode cX12_worked 100 = .ok (.aload_n 0, 1) := zo_42 zh_cX12_worked_5 0 rfl
theorem dX12_worked_101 : decode cX12_worked 101 = .ok (.getfield 102, 3) := zo_180 zh_cX12_worked_5 1 rfl
theorem dX12_worked_104 : decode cX12_worked 104 = .ok (.iload 4, 2) := zo_21 zh_cX12_worked_5 4 rfl
theorem dX12_worked_106 : decode cX12_worked 106 = .ok (.iconst 1, 1) := zo_4 zh_cX12_worked_5 6 rfl
theorem dX12_worked_107 : decode cX12_worked 107 = .ok (.isub, 1) := zo_100 zh_cX12_worked_5 7 rfl
theorem dX12_worked_108 : decode cX12_worked 108 = .ok (.iaload, 1) := zo_46 zh_cX12_worked_5 8 rfl
theorem dX12_worked_109 : decode cX12_worked 109 = .ok (.ifCond .ne 7, 3) := zo_p154 zh_cX12_worked_5 9 7 rfl rfl
theorem dX12_worked_112 : decode cX12_worked 112 = .ok (.iconst 1, 1) := zo_4 zh_cX12_worked_5 12 rfl
theorem dX12_worked_113 : decode cX12_worked 113 = .ok (.goto 4, 3) := zo_p167 zh_cX12_worked_5 13 4 rfl rfl
theorem dX12_worked_116 : decode cX12_worked 116 = .ok (.iconst 0, 1) := zo_3 zh_cX12_worked_5 16 rfl
theorem dX12_worked_117 : decode cX12_worked 117 = .ok (.iastore, 1) := zo_79 zh_cX12_worked_5 17 rfl
theorem dX12_worked_118 : decode cX12_worked 118 = .ok (.goto 64, 3) := zo_p167 zh_cX12_worked_5 18 64 rfl rfl
theorem zh_cX12_worked_6 : zck [64, 21, 6, 7, 160, 0, 25, 42, 180, 0, 102, 21, 4, 4, 100, 42, 180, 0, 102, 21, 4, 4] (zdu 120 cX12_worked.data.toList) = true := by decide +kernel
theorem dX12_worked_121 : decode cX12_worked 121 = .ok (.iload 6, 2) := zo_21 zh_cX12_worked_6 1 rfl
theorem dX12_worked_123 : decode cX12_worked 123 = .ok (.iconst 4, 1) := zo_7 zh_cX12_worked_6 3 rfl
theorem dX12_worked_124 : decode cX12_worked 124 = .ok (.if_icmp .ne 25, 3) := zo_p160 zh_cX12_worked_6 4 25 rfl rfl
theorem dX12_worked_127 : decode cX12_worked 127 = .ok (.aload_n 0, 1) := zo_42 zh_cX12_worked_6 7 rfl
theorem dX12_worked_128 : decode cX12_worked 128 = .ok (.getfield 102, 3) := zo_180 zh_cX12_worked_6 8 rfl
theorem dX12_worked_131 : decode cX12_worked 131 = .ok (.iload 4, 2) := zo_21 zh_cX12_worked_6 11 rfl
theorem dX12_worked_133 : decode cX12_worked 133 = .ok (.iconst 1, 1) := zo_4 zh_cX12_worked_6 13 rfl
theorem dX12_worked_134 : decode cX12_worked 134 = .ok (.isub, 1) := zo_100 zh_cX12_worked_6 14 rfl
theorem dX12_worked_135 : decode cX12_worked 135 = .ok (.aload_n 0, 1) := zo_42 zh_cX12_worked_6 15 rfl
theorem dX12_worked_136 : decode cX12_worked 136 = .ok (.getfield 102, 3) := zo_180 zh_cX12_worked_6 16 rfl
theorem dX12_worked_139 : decode cX12_worked 139 = .ok (.iload 4, 2) := zo_21 zh_cX12_worked_6 19 rfl
theorem zh_cX12_worked_7 : zck [4, 4, 100, 46, 116, 79, 167, 0, 36, 132, 4, 255, 42, 180, 0, 102, 21, 4, 4, 100, 21, 6] (zdu 140 cX12_worked.data.toList) = true := by decide +kernel
theorem dX12_worked_141 : decode cX12_worked 141 = .ok (.iconst 1, 1) := zo_4 zh_cX12_worked_7 1 rfl
theorem dX12_worked_142 : decode cX12_worked 142 = .ok (.isub, 1) := zo_100 zh_cX12_worked_7 2 rfl
theorem dX12_worked_143 : decode cX12_worked 143 = .ok (.iaload, 1) := zo_46 zh_cX12_worked_7 3 rfl
theorem dX12_worked_144 : decode cX12_worked 144 = .ok (.ineg, 1) := zo_116 zh_cX12_worked_7 4 rfl
theorem dX12_worked_145 : decode cX12_worked 145 = .ok (.iastore, 1) := zo_79 zh_cX12_worked_7 5 rfl
theorem dX12_worked_146 : decode cX12_worked 146 = .ok (.goto 36, 3) := zo_p167 zh_cX12_worked_7 6 36 rfl rfl
theorem zo_n132 {c : ByteArray} {s : Nat} {K : List Nat} (h : zck K (zdu s c.data.toList) = true) (k : Nat) {v : Nat} (m : Nat) (hk : zt4 K k 132 v (Nat.sub 255 m) = true) (hv : Nat.ble m 127 = true) : decode c (s + k) = .ok (.iinc v (Int.negSucc m), 3) := by
  rw [← zsn8 hv rfl]
  exact zde ((zbd (zu1 (zh4 h hk).1)).trans ((zbd (zh4 h hk).2.1).trans ((zbd (zdmp (zh4 h hk).2.2)).trans rfl)))
theorem dX12_worked_149 : decode cX12_worked 149 = .ok (.iinc 4 (-1), 3) := zo_n132 zh_cX12_worked_7 9 0 rfl rfl
theorem dX12_worked_152 : decode cX12_worked 152 = .ok (.aload_n 0, 1) := zo_42 zh_cX12_worked_7 12 rfl
theorem dX12_worked_153 : decode cX12_worked 153 = .ok (.getfield 102, 3) := zo_180 zh_cX12_worked_7 13 rfl
theorem dX12_worked_156 : decode cX12_worked 156 = .ok (.iload 4, 2) := zo_21 zh_cX12_worked_7 16 rfl
theorem dX12_worked_158 : decode cX12_worked 158 = .ok (.iconst 1, 1) := zo_4 zh_cX12_worked_7 18 rfl
theorem dX12_worked_159 : decode cX12_worked 159 = .ok (.isub, 1) := zo_100 zh_cX12_worked_7 19 rfl
theorem zh_cX12_worked_8 : zck [21, 6, 42, 180, 0, 102, 21, 4, 4, 100, 46, 42, 180, 0, 102, 21, 4, 46, 184, 1, 40, 79] (zdu 160 cX12_worked.data.toList) = true := by decide +kernel
theorem dX12_worked_160 : decode cX12_worked 160 = .ok (.iload 6, 2) := zo_21 zh_cX12_worked_8 0 rfl
theorem dX12_worked_162 : decode cX12_worked 162 = .ok (.aload_n 0, 1) := zo_42 zh_cX12_worked_8 2 rfl
theorem dX12_worked_163 : decode cX12_worked 163 = .ok (.getfield 102, 3) := zo_180 zh_cX12_worked_8 3 rfl
theorem dX12_worked_166 : decode cX12_worked 166 = .ok (.iload 4, 2) := zo_21 zh_cX12_worked_8 6 rfl
theorem dX12_worked_168 : decode cX12_worked 168 = .ok (.iconst 1, 1) := zo_4 zh_cX12_worked_8 8 rfl
theorem dX12_worked_169 : decode cX12_worked 169 = .ok (.isub, 1) := zo_100 zh_cX12_worked_8 9 rfl
theorem dX12_worked_170 : decode cX12_worked 170 = .ok (.iaload, 1) := zo_46 zh_cX12_worked_8 10 rfl
theorem dX12_worked_171 : decode cX12_worked 171 = .ok (.aload_n 0, 1) := zo_42 zh_cX12_worked_8 11 rfl
theorem dX12_worked_172 : decode cX12_worked 172 = .ok (.getfield 102, 3) := zo_180 zh_cX12_worked_8 12 rfl
theorem dX12_worked_175 : decode cX12_worked 175 = .ok (.iload 4, 2) := zo_21 zh_cX12_worked_8 15 rfl
theorem dX12_worked_177 : decode cX12_worked 177 = .ok (.iaload, 1) := zo_46 zh_cX12_worked_8 17 rfl
theorem dX12_worked_178 : decode cX12_worked 178 = .ok (.invokestatic 296, 3) := zo_184 zh_cX12_worked_8 18 rfl
theorem zh_cX12_worked_9 : zck [40, 79, 132, 5, 1, 167, 255, 83, 42, 180, 0, 102, 3, 46, 172] (zdu 180 cX12_worked.data.toList) = true := by decide +kernel
theorem dX12_worked_181 : decode cX12_worked 181 = .ok (.iastore, 1) := zo_79 zh_cX12_worked_9 1 rfl
theorem dX12_worked_182 : decode cX12_worked 182 = .ok (.iinc 5 1, 3) := zo_p132 zh_cX12_worked_9 2 1 rfl rfl
theorem dX12_worked_185 : decode cX12_worked 185 = .ok (.goto (-173), 3) := zo_n167 zh_cX12_worked_9 5 172 rfl rfl
theorem dX12_worked_188 : decode cX12_worked 188 = .ok (.aload_n 0, 1) := zo_42 zh_cX12_worked_9 8 rfl
theorem dX12_worked_189 : decode cX12_worked 189 = .ok (.getfield 102, 3) := zo_180 zh_cX12_worked_9 9 rfl
theorem dX12_worked_192 : decode cX12_worked 192 = .ok (.iconst 0, 1) := zo_3 zh_cX12_worked_9 12 rfl
theorem dX12_worked_193 : decode cX12_worked 193 = .ok (.iaload, 1) := zo_46 zh_cX12_worked_9 13 rfl
theorem dX12_worked_194 : decode cX12_worked 194 = .ok (.ireturn, 1) := zo_172 zh_cX12_worked_9 14 rfl
abbrev z_X12_worked : List Cond := .code yX12_worked cX12_worked 7 (some .int) :: zW
abbrev wl_X12_worked (ad : Nat → Nat) (cs : Nat → ClassId)  (mod_code : Int32) (mod_shoes : Int32) (mod_claims : Int32) (mod_taped : Int32) (mod_here : Int32) (mod_fault : Int32) (mod_suits : Int32) (mod_doneMany : Int32) (mod_undoneMany : Int32) (mod_open : Int32) (mod_laid : Int32) (mod_isBoth : Int32) (mod_wished : Int32) (mod_bestMany : Int32) (mod_bestRow : Int32) (mod_ringDigits : Int32) (mod_traces : Int32) (mod_act : Nat → Int32) (mod_with : Nat → Int32) (mod_facts : Nat → Int32) (mod_pile : Nat → Int32) : va_W := [((ad 41), .inr (12, [.int mod_code, .int mod_shoes, .ref (ad 42), .ref (ad 43), .ref (ad 44), .ref (ad 45), .int mod_claims, .ref (ad 46), .ref (ad 47), .ref (ad 48), .ref (ad 49), .ref (ad 50), .int mod_taped, .int mod_here, .int mod_fault, .int mod_suits, .ref (ad 51), .ref (ad 52), .ref (ad 53), .ref (ad 54), .ref (ad 55), .ref (ad 56), .ref (ad 57), .ref (ad 58), .ref (ad 59), .ref (ad 60), .ref (ad 61), .int mod_doneMany, .int mod_undoneMany, .ref (ad 62), .ref (ad 63), .ref (ad 64), .ref (ad 65), .int mod_open, .int mod_laid, .ref (ad 66), .ref (ad 67), .ref (ad 68), .ref (ad 69), .ref (ad 70), .ref (ad 71), .ref (ad 72), .ref (ad 73), .ref (ad 74), .ref (ad 75), .int mod_isBoth, .int mod_wished, .ref (ad 76), .ref (ad 77), .int mod_bestMany, .int mod_bestRow, .ref (ad 78), .ref (ad 79), .int mod_ringDigits, .int mod_traces, .ref (ad 80), .ref (ad 81), .ref (ad 82), .ref (ad 83), .ref (ad 84)])), ((ad 66), .inl (cs 2, 4290, .inl mod_act)), ((ad 67), .inl (cs 0, 4290, .inl mod_with)), ((ad 71), .inl (cs 0, 11, .inl mod_facts)), ((ad 72), .inl (cs 0, 130, .inl mod_pile))]
def Q_X12_worked (D : va_G) (cs : Nat → ClassId) (ad : Nat → Nat)  (mod_code : Int32) (mod_shoes : Int32) (mod_claims : Int32) (mod_taped : Int32) (mod_here : Int32) (mod_fault : Int32) (mod_suits : Int32) (mod_doneMany : Int32) (mod_undoneMany : Int32) (mod_open : Int32) (mod_laid : Int32) (mod_isBoth : Int32) (mod_wished : Int32) (mod_bestMany : Int32) (mod_bestRow : Int32) (mod_ringDigits : Int32) (mod_traces : Int32) (mod_act : Nat → Int32) (mod_with : Nat → Int32) (mod_facts : Nat → Int32) (A : Nat → Prop) (R : Int32 × (Nat → Int32)) : Array Value → State → Outcome → State → Prop :=
  va_Qi (fun (r : Int32) (u : (Nat → Int32)) => (r, u) = R) (fun (u : (Nat → Int32)) (t : State) => va_P D classes (wl_X12_worked ad cs mod_code mod_shoes mod_claims mod_taped mod_here mod_fault mod_suits mod_doneMany mod_undoneMany mod_open mod_laid mod_isBoth mod_wished mod_bestMany mod_bestRow mod_ringDigits mod_traces mod_act mod_with mod_facts u) t.heap ∧ va_D A (wl_X12_worked ad cs mod_code mod_shoes mod_claims mod_taped mod_here mod_fault mod_suits mod_doneMany mod_undoneMany mod_open mod_laid mod_isBoth mod_wished mod_bestMany mod_bestRow mod_ringDigits mod_traces mod_act mod_with mod_facts u)) A
abbrev rm_X12_worked : Room := { frames := 1, cells := 0, slots := 0, locals := 22 }
theorem g_X12_296 : GoodIn zW (va_wsS RX12 296 yX12_twoOf z_X12_twoOf) := zGS kw_1689 kw_1690 kw_95 kw_1691
theorem hd_X12_twoOf : yX12_twoOf.cls ≠ "java/lang/invoke/MethodHandle" ∧ yX12_twoOf.cls ≠ "java/lang/invoke/VarHandle" ∧ (parseMethodDescriptor yX12_twoOf.desc).map (fun d => d.parameters.length) = some 3 := by decide +kernel
def B_X12_worked_182   (g12 : Int32 → Int32 → Int32 → Int32 → (Nat → Int32) → (Option (Int32 × (Nat → Int32)))) (mod_code : Int32) (mod_shoes : Int32) (mod_claims : Int32) (mod_taped : Int32) (mod_here : Int32) (mod_fault : Int32) (mod_suits : Int32) (mod_doneMany : Int32) (mod_undoneMany : Int32) (mod_open : Int32) (mod_laid : Int32) (mod_isBoth : Int32) (mod_wished : Int32) (mod_bestMany : Int32) (mod_bestRow : Int32) (mod_ringDigits : Int32) (mod_traces : Int32) (mod_act : Nat → Int32) (mod_with : Nat → Int32) (mod_facts : Nat → Int32) (x1 : Int32) (x3 : Int32) (x4 : Int32) (x5 : Int32) (mod_pile : Nat → Int32) : Option (Int32 × (Nat → Int32)) :=
  (zk_let (x5 + (1 : Int32)) (fun v_32 => (g12 x1 x3 x4 v_32 mod_pile)))
def B_X12_worked_117   (g12 : Int32 → Int32 → Int32 → Int32 → (Nat → Int32) → (Option (Int32 × (Nat → Int32)))) (mod_code : Int32) (mod_shoes : Int32) (mod_claims : Int32) (mod_taped : Int32) (mod_here : Int32) (mod_fault : Int32) (mod_suits : Int32) (mod_doneMany : Int32) (mod_undoneMany : Int32) (mod_open : Int32) (mod_laid : Int32) (mod_isBoth : Int32) (mod_wished : Int32) (mod_bestMany : Int32) (mod_bestRow : Int32) (mod_ringDigits : Int32) (mod_traces : Int32) (mod_act : Nat → Int32) (mod_with : Nat → Int32) (mod_facts : Nat → Int32) (x1 : Int32) (x3 : Int32) (x4 : Int32) (x5 : Int32) (s0 : Int32) (s1 : Int32) (mod_pile : Nat → Int32) : Option (Int32 × (Nat → Int32)) :=
  (if (s1 < 0 ∨ 130 ≤ s1.toNatClampNeg) then none else (zk_let (upd mod_pile s1.toNatClampNeg s0) (fun f_31 => (B_X12_worked_182 g12 mod_code mod_shoes mod_claims mod_taped mod_here mod_fault mod_suits mod_doneMany mod_undoneMany mod_open mod_laid mod_isBoth mod_wished mod_bestMany mod_bestRow mod_ringDigits mod_traces mod_act mod_with mod_facts x1 x3 x4 x5 f_31))))
def B_X12_worked_79   (g12 : Int32 → Int32 → Int32 → Int32 → (Nat → Int32) → (Option (Int32 × (Nat → Int32)))) (mod_code : Int32) (mod_shoes : Int32) (mod_claims : Int32) (mod_taped : Int32) (mod_here : Int32) (mod_fault : Int32) (mod_suits : Int32) (mod_doneMany : Int32) (mod_undoneMany : Int32) (mod_open : Int32) (mod_laid : Int32) (mod_isBoth : Int32) (mod_wished : Int32) (mod_bestMany : Int32) (mod_bestRow : Int32) (mod_ringDigits : Int32) (mod_traces : Int32) (mod_act : Nat → Int32) (mod_with : Nat → Int32) (mod_facts : Nat → Int32) (x1 : Int32) (x3 : Int32) (x4 : Int32) (x5 : Int32) (s0 : Int32) (s1 : Int32) (mod_pile : Nat → Int32) : Option (Int32 × (Nat → Int32)) :=
  (if (s1 < 0 ∨ 130 ≤ s1.toNatClampNeg) then none else (zk_let (upd mod_pile s1.toNatClampNeg s0) (fun f_28 => (zk_let (x4 + (1 : Int32)) (fun v_29 => (B_X12_worked_182 g12 mod_code mod_shoes mod_claims mod_taped mod_here mod_fault mod_suits mod_doneMany mod_undoneMany mod_open mod_laid mod_isBoth mod_wished mod_bestMany mod_bestRow mod_ringDigits mod_traces mod_act mod_with mod_facts x1 x3 v_29 x5 f_28))))))
def B_X12_worked_45   (g12 : Int32 → Int32 → Int32 → Int32 → (Nat → Int32) → (Option (Int32 × (Nat → Int32)))) (mod_code : Int32) (mod_shoes : Int32) (mod_claims : Int32) (mod_taped : Int32) (mod_here : Int32) (mod_fault : Int32) (mod_suits : Int32) (mod_doneMany : Int32) (mod_undoneMany : Int32) (mod_open : Int32) (mod_laid : Int32) (mod_isBoth : Int32) (mod_wished : Int32) (mod_bestMany : Int32) (mod_bestRow : Int32) (mod_ringDigits : Int32) (mod_traces : Int32) (mod_act : Nat → Int32) (mod_with : Nat → Int32) (mod_facts : Nat → Int32) (x1 : Int32) (x3 : Int32) (x4 : Int32) (x5 : Int32) (x6 : Int32) (mod_pile : Nat → Int32) : Option (Int32 × (Nat → Int32)) :=
  (if x6 = (1 : Int32) then (if (x5 < 0 ∨ 4290 ≤ x5.toNatClampNeg) then none else (B_X12_worked_79 g12 mod_code mod_shoes mod_claims mod_taped mod_here mod_fault mod_suits mod_doneMany mod_undoneMany mod_open mod_laid mod_isBoth mod_wished mod_bestMany mod_bestRow mod_ringDigits mod_traces mod_act mod_with mod_facts x1 x3 x4 x5 (mod_with x5.toNatClampNeg) x4 mod_pile)) else (if (x5 < 0 ∨ 4290 ≤ x5.toNatClampNeg) then none else (if ((mod_with x5.toNatClampNeg) < 0 ∨ 11 ≤ (mod_with x5.toNatClampNeg).toNatClampNeg) then none else (B_X12_worked_79 g12 mod_code mod_shoes mod_claims mod_taped mod_here mod_fault mod_suits mod_doneMany mod_undoneMany mod_open mod_laid mod_isBoth mod_wished mod_bestMany mod_bestRow mod_ringDigits mod_traces mod_act mod_with mod_facts x1 x3 x4 x5 (mod_facts (mod_with x5.toNatClampNeg).toNatClampNeg) x4 mod_pile))))
def B_X12_worked_12   (g12 : Int32 → Int32 → Int32 → Int32 → (Nat → Int32) → (Option (Int32 × (Nat → Int32)))) (mod_code : Int32) (mod_shoes : Int32) (mod_claims : Int32) (mod_taped : Int32) (mod_here : Int32) (mod_fault : Int32) (mod_suits : Int32) (mod_doneMany : Int32) (mod_undoneMany : Int32) (mod_open : Int32) (mod_laid : Int32) (mod_isBoth : Int32) (mod_wished : Int32) (mod_bestMany : Int32) (mod_bestRow : Int32) (mod_ringDigits : Int32) (mod_traces : Int32) (mod_act : Nat → Int32) (mod_with : Nat → Int32) (mod_facts : Nat → Int32) (x1 : Int32) (x3 : Int32) (x4 : Int32) (x5 : Int32) (mod_pile : Nat → Int32) : Option (Int32 × (Nat → Int32)) :=
  (if (((130 : Int32) * x1) + x3) ≤ x5 then (some (mod_pile (0 : Int32).toNatClampNeg, mod_pile)) else (if (x5 < 0 ∨ 4290 ≤ x5.toNatClampNeg) then none else (zk_let (mod_act x5.toNatClampNeg) (fun v_4 => (if v_4 = (1 : Int32) then (B_X12_worked_45 g12 mod_code mod_shoes mod_claims mod_taped mod_here mod_fault mod_suits mod_doneMany mod_undoneMany mod_open mod_laid mod_isBoth mod_wished mod_bestMany mod_bestRow mod_ringDigits mod_traces mod_act mod_with mod_facts x1 x3 x4 x5 v_4 mod_pile) else (if v_4 = (2 : Int32) then (B_X12_worked_45 g12 mod_code mod_shoes mod_claims mod_taped mod_here mod_fault mod_suits mod_doneMany mod_undoneMany mod_open mod_laid mod_isBoth mod_wished mod_bestMany mod_bestRow mod_ringDigits mod_traces mod_act mod_with mod_facts x1 x3 x4 x5 v_4 mod_pile) else (if v_4 = (3 : Int32) then (if ((x4 - (1 : Int32)) < 0 ∨ 130 ≤ (x4 - (1 : Int32)).toNatClampNeg) then none else (if (mod_pile (x4 - (1 : Int32)).toNatClampNeg) = 0 then (B_X12_worked_117 g12 mod_code mod_shoes mod_claims mod_taped mod_here mod_fault mod_suits mod_doneMany mod_undoneMany mod_open mod_laid mod_isBoth mod_wished mod_bestMany mod_bestRow mod_ringDigits mod_traces mod_act mod_with mod_facts x1 x3 x4 x5 (1 : Int32) (x4 - (1 : Int32)) mod_pile) else (B_X12_worked_117 g12 mod_code mod_shoes mod_claims mod_taped mod_here mod_fault mod_suits mod_doneMany mod_undoneMany mod_open mod_laid mod_isBoth mod_wished mod_bestMany mod_bestRow mod_ringDigits mod_traces mod_act mod_with mod_facts x1 x3 x4 x5 (0 : Int32) (x4 - (1 : Int32)) mod_pile))) else (if v_4 = (4 : Int32) then (if ((x4 - (1 : Int32)) < 0 ∨ 130 ≤ (x4 - (1 : Int32)).toNatClampNeg) then none else (zk_let (-(mod_pile (x4 - (1 : Int32)).toNatClampNeg)) (fun v_18 => (if ((x4 - (1 : Int32)) < 0 ∨ 130 ≤ (x4 - (1 : Int32)).toNatClampNeg) then none else (zk_let (upd mod_pile (x4 - (1 : Int32)).toNatClampNeg v_18) (fun f_20 => (B_X12_worked_182 g12 mod_code mod_shoes mod_claims mod_taped mod_here mod_fault mod_suits mod_doneMany mod_undoneMany mod_open mod_laid mod_isBoth mod_wished mod_bestMany mod_bestRow mod_ringDigits mod_traces mod_act mod_with mod_facts x1 x3 x4 x5 f_20))))))) else (zk_let (x4 + (-1 : Int32)) (fun v_9 => (if ((v_9 - (1 : Int32)) < 0 ∨ 130 ≤ (v_9 - (1 : Int32)).toNatClampNeg) then none else (if (v_9 < 0 ∨ 130 ≤ v_9.toNatClampNeg) then none else (zk_b2 (f_X12_twoOf v_4 (mod_pile (v_9 - (1 : Int32)).toNatClampNeg) (mod_pile v_9.toNatClampNeg)) (fun r_12 u_13 => (if ((v_9 - (1 : Int32)) < 0 ∨ 130 ≤ (v_9 - (1 : Int32)).toNatClampNeg) then none else (zk_let (upd mod_pile (v_9 - (1 : Int32)).toNatClampNeg r_12) (fun f_16 => (B_X12_worked_182 g12 mod_code mod_shoes mod_claims mod_taped mod_here mod_fault mod_suits mod_doneMany mod_undoneMany mod_open mod_laid mod_isBoth mod_wished mod_bestMany mod_bestRow mod_ringDigits mod_traces mod_act mod_with mod_facts x1 x3 v_9 x5 f_16))))))))))))))))))
def B_X12_worked_0   (g12 : Int32 → Int32 → Int32 → Int32 → (Nat → Int32) → (Option (Int32 × (Nat → Int32)))) (mod_code : Int32) (mod_shoes : Int32) (mod_claims : Int32) (mod_taped : Int32) (mod_here : Int32) (mod_fault : Int32) (mod_suits : Int32) (mod_doneMany : Int32) (mod_undoneMany : Int32) (mod_open : Int32) (mod_laid : Int32) (mod_isBoth : Int32) (mod_wished : Int32) (mod_bestMany : Int32) (mod_bestRow : Int32) (mod_ringDigits : Int32) (mod_traces : Int32) (mod_act : Nat → Int32) (mod_with : Nat → Int32) (mod_facts : Nat → Int32) (x1 : Int32) (x2 : Int32) (x3 : Int32) (mod_pile : Nat → Int32) : Option (Int32 × (Nat → Int32)) :=
  (zk_let (((130 : Int32) * x1) + x2) (fun v_1 => (g12 x1 x3 (0 : Int32) v_1 mod_pile)))
def G_X12_worked   (mod_code : Int32) (mod_shoes : Int32) (mod_claims : Int32) (mod_taped : Int32) (mod_here : Int32) (mod_fault : Int32) (mod_suits : Int32) (mod_doneMany : Int32) (mod_undoneMany : Int32) (mod_open : Int32) (mod_laid : Int32) (mod_isBoth : Int32) (mod_wished : Int32) (mod_bestMany : Int32) (mod_bestRow : Int32) (mod_ringDigits : Int32) (mod_traces : Int32) (mod_act : Nat → Int32) (mod_with : Nat → Int32) (mod_facts : Nat → Int32) (n : Nat) : (Int32 → Int32 → Int32 → Int32 → (Nat → Int32) → (Option (Int32 × (Nat → Int32)))) :=
  Nat.rec (motive := fun _ => (Int32 → Int32 → Int32 → Int32 → (Nat → Int32) → (Option (Int32 × (Nat → Int32))))) ((fun _ _ _ _ _ => none)) (fun _ ih => (B_X12_worked_12   ih mod_code mod_shoes mod_claims mod_taped mod_here mod_fault mod_suits mod_doneMany mod_undoneMany mod_open mod_laid mod_isBoth mod_wished mod_bestMany mod_bestRow mod_ringDigits mod_traces mod_act mod_with mod_facts)) n
def f_X12_worked   (n : Nat) (x1 : Int32) (x2 : Int32) (x3 : Int32) (mod_code : Int32) (mod_shoes : Int32) (mod_claims : Int32) (mod_taped : Int32) (mod_here : Int32) (mod_fault : Int32) (mod_suits : Int32) (mod_doneMany : Int32) (mod_undoneMany : Int32) (mod_open : Int32) (mod_laid : Int32) (mod_isBoth : Int32) (mod_wished : Int32) (mod_bestMany : Int32) (mod_bestRow : Int32) (mod_ringDigits : Int32) (mod_traces : Int32) (mod_act : Nat → Int32) (mod_with : Nat → Int32) (mod_facts : Nat → Int32) (mod_pile : Nat → Int32) : Option (Int32 × (Nat → Int32)) := B_X12_worked_0   ((G_X12_worked   mod_code mod_shoes mod_claims mod_taped mod_here mod_fault mod_suits mod_doneMany mod_undoneMany mod_open mod_laid mod_isBoth mod_wished mod_bestMany mod_bestRow mod_ringDigits mod_traces mod_act mod_with mod_facts n)) mod_code mod_shoes mod_claims mod_taped mod_here mod_fault mod_suits mod_doneMany mod_undoneMany mod_open mod_laid mod_isBoth mod_wished mod_bestMany mod_bestRow mod_ringDigits mod_traces mod_act mod_with mod_facts x1 x2 x3 mod_pile
set_option maxHeartbeats 4000000 in
set_option maxRecDepth 100000 in
theorem L_X12_worked_182 {p : Program} {l : Launch} {e : Env} {s : State} {m : MethodId} {args : Array Value} {below : List Frame} {meth : Method} {c : Code} {A : Nat → Prop} {D : va_G} {cs : Nat → ClassId} {ad : Nat → Nat} {mod_code : Int32} {mod_shoes : Int32} {mod_claims : Int32} {mod_taped : Int32} {mod_here : Int32} {mod_fault : Int32} {mod_suits : Int32} {mod_doneMany : Int32} {mod_undoneMany : Int32} {mod_open : Int32} {mod_laid : Int32} {mod_isBoth : Int32} {mod_wished : Int32} {mod_bestMany : Int32} {mod_bestRow : Int32} {mod_ringDigits : Int32} {mod_traces : Int32} {mod_act : Nat → Int32} {mod_with : Nat → Int32} {mod_facts : Nat → Int32} {R : Int32 × (Nat → Int32)} {g12 : Int32 → Int32 → Int32 → Int32 → (Nat → Int32) → (Option (Int32 × (Nat → Int32)))} (C0 : zC p s m args meth c cX12_worked 7 (some .int) RX12 zW) (hK : va_K D classes (zT cs) s) (hA : ∀ q : Nat, s.heap.size ≤ q → A q) (ih12 : ∀ (x1 : Int32) (x3 : Int32) (x4 : Int32) (x5 : Int32) (mod_pile : Nat → Int32) (h : g12 x1 x3 x4 x5 mod_pile = some R) (H : Heap) (locs : List Loc) (ls : Array Slot) (hP : va_P D classes (wl_X12_worked ad cs mod_code mod_shoes mod_claims mod_taped mod_here mod_fault mod_suits mod_doneMany mod_undoneMany mod_open mod_laid mod_isBoth mod_wished mod_bestMany mod_bestRow mod_ringDigits mod_traces mod_act mod_with mod_facts mod_pile) H) (hD : va_D A (wl_X12_worked ad cs mod_code mod_shoes mod_claims mod_taped mod_here mod_fault mod_suits mod_doneMany mod_undoneMany mod_open mod_laid mod_isBoth mod_wished mod_bestMany mod_bestRow mod_ringDigits mod_traces mod_act mod_with mod_facts mod_pile)) (hS : va_S A s.heap H locs) (hl : lv_has ls 7 [(0, .ref (ad 41)), (1, .int x1), (3, .int x3), (4, .int x4), (5, .int x5)]), W p l e rm_X12_worked s m args below meth c H locs 0 0 (MQ below (Q_X12_worked D cs ad mod_code mod_shoes mod_claims mod_taped mod_here mod_fault mod_suits mod_doneMany mod_undoneMany mod_open mod_laid mod_isBoth mod_wished mod_bestMany mod_bestRow mod_ringDigits mod_traces mod_act mod_with mod_facts A R) args s 0 0 A) (F0 m 12 ls [])) (x1 : Int32) (x3 : Int32) (x4 : Int32) (x5 : Int32) (mod_pile : Nat → Int32) (h : B_X12_worked_182 g12 mod_code mod_shoes mod_claims mod_taped mod_here mod_fault mod_suits mod_doneMany mod_undoneMany mod_open mod_laid mod_isBoth mod_wished mod_bestMany mod_bestRow mod_ringDigits mod_traces mod_act mod_with mod_facts x1 x3 x4 x5 mod_pile = some R) (H : Heap) (locs : List Loc) (ls : Array Slot) (hP : va_P D classes (wl_X12_worked ad cs mod_code mod_shoes mod_claims mod_taped mod_here mod_fault mod_suits mod_doneMany mod_undoneMany mod_open mod_laid mod_isBoth mod_wished mod_bestMany mod_bestRow mod_ringDigits mod_traces mod_act mod_with mod_facts mod_pile) H) (hD : va_D A (wl_X12_worked ad cs mod_code mod_shoes mod_claims mod_taped mod_here mod_fault mod_suits mod_doneMany mod_undoneMany mod_open mod_laid mod_isBoth mod_wished mod_bestMany mod_bestRow mod_ringDigits mod_traces mod_act mod_with mod_facts mod_pile)) (hS : va_S A s.heap H locs) (hl : lv_has ls 7 [(0, .ref (ad 41)), (1, .int x1), (3, .int x3), (4, .int x4), (5, .int x5)]) : W p l e rm_X12_worked s m args below meth c H locs 0 0 (MQ below (Q_X12_worked D cs ad mod_code mod_shoes mod_claims mod_taped mod_here mod_fault mod_suits mod_doneMany mod_undoneMany mod_open mod_laid mod_isBoth mod_wished mod_bestMany mod_bestRow mod_ringDigits mod_traces mod_act mod_with mod_facts A R) args s 0 0 A) (F0 m 182 ls []) := by
  obtain ⟨hx, hb, hr, hml, hown, ht, hlocks⟩ := id C0
  obtain ⟨v_32, ev_32, h⟩ := zk_lt h
  refine lv_iinc (v := v_32) (lv' := [(5, .int v_32), (0, .ref (ad 41)), (1, .int x1), (3, .int x3), (4, .int x4)]) hx hb dX12_worked_182 hl (k := 4) rfl (by rw [ev_32]; rfl) (by decide) rfl (fun ls hl => ?_)
  refine lv_goto (tgt := 12) hx hb dX12_worked_185 (by decide) ?_
  exact ih12 x1 x3 x4 v_32 mod_pile h H locs ls hP hD hS (lv_sub hl [1, 2, 3, 4, 0] rfl)
set_option maxHeartbeats 4000000 in
set_option maxRecDepth 100000 in
theorem L_X12_worked_117 {p : Program} {l : Launch} {e : Env} {s : State} {m : MethodId} {args : Array Value} {below : List Frame} {meth : Method} {c : Code} {A : Nat → Prop} {D : va_G} {cs : Nat → ClassId} {ad : Nat → Nat} {mod_code : Int32} {mod_shoes : Int32} {mod_claims : Int32} {mod_taped : Int32} {mod_here : Int32} {mod_fault : Int32} {mod_suits : Int32} {mod_doneMany : Int32} {mod_undoneMany : Int32} {mod_open : Int32} {mod_laid : Int32} {mod_isBoth : Int32} {mod_wished : Int32} {mod_bestMany : Int32} {mod_bestRow : Int32} {mod_ringDigits : Int32} {mod_traces : Int32} {mod_act : Nat → Int32} {mod_with : Nat → Int32} {mod_facts : Nat → Int32} {R : Int32 × (Nat → Int32)} {g12 : Int32 → Int32 → Int32 → Int32 → (Nat → Int32) → (Option (Int32 × (Nat → Int32)))} (C0 : zC p s m args meth c cX12_worked 7 (some .int) RX12 zW) (hK : va_K D classes (zT cs) s) (hA : ∀ q : Nat, s.heap.size ≤ q → A q) (ih12 : ∀ (x1 : Int32) (x3 : Int32) (x4 : Int32) (x5 : Int32) (mod_pile : Nat → Int32) (h : g12 x1 x3 x4 x5 mod_pile = some R) (H : Heap) (locs : List Loc) (ls : Array Slot) (hP : va_P D classes (wl_X12_worked ad cs mod_code mod_shoes mod_claims mod_taped mod_here mod_fault mod_suits mod_doneMany mod_undoneMany mod_open mod_laid mod_isBoth mod_wished mod_bestMany mod_bestRow mod_ringDigits mod_traces mod_act mod_with mod_facts mod_pile) H) (hD : va_D A (wl_X12_worked ad cs mod_code mod_shoes mod_claims mod_taped mod_here mod_fault mod_suits mod_doneMany mod_undoneMany mod_open mod_laid mod_isBoth mod_wished mod_bestMany mod_bestRow mod_ringDigits mod_traces mod_act mod_with mod_facts mod_pile)) (hS : va_S A s.heap H locs) (hl : lv_has ls 7 [(0, .ref (ad 41)), (1, .int x1), (3, .int x3), (4, .int x4), (5, .int x5)]), W p l e rm_X12_worked s m args below meth c H locs 0 0 (MQ below (Q_X12_worked D cs ad mod_code mod_shoes mod_claims mod_taped mod_here mod_fault mod_suits mod_doneMany mod_undoneMany mod_open mod_laid mod_isBoth mod_wished mod_bestMany mod_bestRow mod_ringDigits mod_traces mod_act mod_with mod_facts A R) args s 0 0 A) (F0 m 12 ls [])) (x1 : Int32) (x3 : Int32) (x4 : Int32) (x5 : Int32) (s0 : Int32) (s1 : Int32) (mod_pile : Nat → Int32) (h : B_X12_worked_117 g12 mod_code mod_shoes mod_claims mod_taped mod_here mod_fault mod_suits mod_doneMany mod_undoneMany mod_open mod_laid mod_isBoth mod_wished mod_bestMany mod_bestRow mod_ringDigits mod_traces mod_act mod_with mod_facts x1 x3 x4 x5 s0 s1 mod_pile = some R) (H : Heap) (locs : List Loc) (ls : Array Slot) (hP : va_P D classes (wl_X12_worked ad cs mod_code mod_shoes mod_claims mod_taped mod_here mod_fault mod_suits mod_doneMany mod_undoneMany mod_open mod_laid mod_isBoth mod_wished mod_bestMany mod_bestRow mod_ringDigits mod_traces mod_act mod_with mod_facts mod_pile) H) (hD : va_D A (wl_X12_worked ad cs mod_code mod_shoes mod_claims mod_taped mod_here mod_fault mod_suits mod_doneMany mod_undoneMany mod_open mod_laid mod_isBoth mod_wished mod_bestMany mod_bestRow mod_ringDigits mod_traces mod_act mod_with mod_facts mod_pile)) (hS : va_S A s.heap H locs) (hl : lv_has ls 7 [(0, .ref (ad 41)), (1, .int x1), (3, .int x3), (4, .int x4), (5, .int x5)]) : W p l e rm_X12_worked s m args below meth c H locs 0 0 (MQ below (Q_X12_worked D cs ad mod_code mod_shoes mod_claims mod_taped mod_here mod_fault mod_suits mod_doneMany mod_undoneMany mod_open mod_laid mod_isBoth mod_wished mod_bestMany mod_bestRow mod_ringDigits mod_traces mod_act mod_with mod_facts A R) args s 0 0 A) (F0 m 117 ls [.int s0, .int s1, .ref (ad 72)]) := by
  obtain ⟨hx, hb, hr, hml, hown, ht, hlocks⟩ := id C0
  obtain ⟨g_30, h⟩ := zk_gd h
  obtain ⟨f_31, ef_31, h⟩ := zk_lt h
  refine va_iast hx hb hK hP hD hS 4 0 rfl rfl g_30 dX12_worked_117 (fun H locs hP hD hS => ?_)
  have hP : va_P D classes (wl_X12_worked ad cs mod_code mod_shoes mod_claims mod_taped mod_here mod_fault mod_suits mod_doneMany mod_undoneMany mod_open mod_laid mod_isBoth mod_wished mod_bestMany mod_bestRow mod_ringDigits mod_traces mod_act mod_with mod_facts f_31) H := by rw [ef_31]; exact hP
  have hD : va_D A (wl_X12_worked ad cs mod_code mod_shoes mod_claims mod_taped mod_here mod_fault mod_suits mod_doneMany mod_undoneMany mod_open mod_laid mod_isBoth mod_wished mod_bestMany mod_bestRow mod_ringDigits mod_traces mod_act mod_with mod_facts f_31) := by rw [ef_31]; exact hD
  refine lv_goto (tgt := 182) hx hb dX12_worked_118 (by decide) ?_
  exact L_X12_worked_182 C0 hK hA  ih12 x1 x3 x4 x5 f_31 h H locs ls hP hD hS (lv_sub hl [0, 1, 2, 3, 4] rfl)
set_option maxHeartbeats 4000000 in
set_option maxRecDepth 100000 in
theorem L_X12_worked_79 {p : Program} {l : Launch} {e : Env} {s : State} {m : MethodId} {args : Array Value} {below : List Frame} {meth : Method} {c : Code} {A : Nat → Prop} {D : va_G} {cs : Nat → ClassId} {ad : Nat → Nat} {mod_code : Int32} {mod_shoes : Int32} {mod_claims : Int32} {mod_taped : Int32} {mod_here : Int32} {mod_fault : Int32} {mod_suits : Int32} {mod_doneMany : Int32} {mod_undoneMany : Int32} {mod_open : Int32} {mod_laid : Int32} {mod_isBoth : Int32} {mod_wished : Int32} {mod_bestMany : Int32} {mod_bestRow : Int32} {mod_ringDigits : Int32} {mod_traces : Int32} {mod_act : Nat → Int32} {mod_with : Nat → Int32} {mod_facts : Nat → Int32} {R : Int32 × (Nat → Int32)} {g12 : Int32 → Int32 → Int32 → Int32 → (Nat → Int32) → (Option (Int32 × (Nat → Int32)))} (C0 : zC p s m args meth c cX12_worked 7 (some .int) RX12 zW) (hK : va_K D classes (zT cs) s) (hA : ∀ q : Nat, s.heap.size ≤ q → A q) (ih12 : ∀ (x1 : Int32) (x3 : Int32) (x4 : Int32) (x5 : Int32) (mod_pile : Nat → Int32) (h : g12 x1 x3 x4 x5 mod_pile = some R) (H : Heap) (locs : List Loc) (ls : Array Slot) (hP : va_P D classes (wl_X12_worked ad cs mod_code mod_shoes mod_claims mod_taped mod_here mod_fault mod_suits mod_doneMany mod_undoneMany mod_open mod_laid mod_isBoth mod_wished mod_bestMany mod_bestRow mod_ringDigits mod_traces mod_act mod_with mod_facts mod_pile) H) (hD : va_D A (wl_X12_worked ad cs mod_code mod_shoes mod_claims mod_taped mod_here mod_fault mod_suits mod_doneMany mod_undoneMany mod_open mod_laid mod_isBoth mod_wished mod_bestMany mod_bestRow mod_ringDigits mod_traces mod_act mod_with mod_facts mod_pile)) (hS : va_S A s.heap H locs) (hl : lv_has ls 7 [(0, .ref (ad 41)), (1, .int x1), (3, .int x3), (4, .int x4), (5, .int x5)]), W p l e rm_X12_worked s m args below meth c H locs 0 0 (MQ below (Q_X12_worked D cs ad mod_code mod_shoes mod_claims mod_taped mod_here mod_fault mod_suits mod_doneMany mod_undoneMany mod_open mod_laid mod_isBoth mod_wished mod_bestMany mod_bestRow mod_ringDigits mod_traces mod_act mod_with mod_facts A R) args s 0 0 A) (F0 m 12 ls [])) (x1 : Int32) (x3 : Int32) (x4 : Int32) (x5 : Int32) (s0 : Int32) (s1 : Int32) (mod_pile : Nat → Int32) (h : B_X12_worked_79 g12 mod_code mod_shoes mod_claims mod_taped mod_here mod_fault mod_suits mod_doneMany mod_undoneMany mod_open mod_laid mod_isBoth mod_wished mod_bestMany mod_bestRow mod_ringDigits mod_traces mod_act mod_with mod_facts x1 x3 x4 x5 s0 s1 mod_pile = some R) (H : Heap) (locs : List Loc) (ls : Array Slot) (hP : va_P D classes (wl_X12_worked ad cs mod_code mod_shoes mod_claims mod_taped mod_here mod_fault mod_suits mod_doneMany mod_undoneMany mod_open mod_laid mod_isBoth mod_wished mod_bestMany mod_bestRow mod_ringDigits mod_traces mod_act mod_with mod_facts mod_pile) H) (hD : va_D A (wl_X12_worked ad cs mod_code mod_shoes mod_claims mod_taped mod_here mod_fault mod_suits mod_doneMany mod_undoneMany mod_open mod_laid mod_isBoth mod_wished mod_bestMany mod_bestRow mod_ringDigits mod_traces mod_act mod_with mod_facts mod_pile)) (hS : va_S A s.heap H locs) (hl : lv_has ls 7 [(0, .ref (ad 41)), (1, .int x1), (3, .int x3), (4, .int x4), (5, .int x5)]) : W p l e rm_X12_worked s m args below meth c H locs 0 0 (MQ below (Q_X12_worked D cs ad mod_code mod_shoes mod_claims mod_taped mod_here mod_fault mod_suits mod_doneMany mod_undoneMany mod_open mod_laid mod_isBoth mod_wished mod_bestMany mod_bestRow mod_ringDigits mod_traces mod_act mod_with mod_facts A R) args s 0 0 A) (F0 m 79 ls [.int s0, .int s1, .ref (ad 72)]) := by
  obtain ⟨hx, hb, hr, hml, hown, ht, hlocks⟩ := id C0
  obtain ⟨g_27, h⟩ := zk_gd h
  obtain ⟨f_28, ef_28, h⟩ := zk_lt h
  refine va_iast hx hb hK hP hD hS 4 0 rfl rfl g_27 dX12_worked_79 (fun H locs hP hD hS => ?_)
  have hP : va_P D classes (wl_X12_worked ad cs mod_code mod_shoes mod_claims mod_taped mod_here mod_fault mod_suits mod_doneMany mod_undoneMany mod_open mod_laid mod_isBoth mod_wished mod_bestMany mod_bestRow mod_ringDigits mod_traces mod_act mod_with mod_facts f_28) H := by rw [ef_28]; exact hP
  have hD : va_D A (wl_X12_worked ad cs mod_code mod_shoes mod_claims mod_taped mod_here mod_fault mod_suits mod_doneMany mod_undoneMany mod_open mod_laid mod_isBoth mod_wished mod_bestMany mod_bestRow mod_ringDigits mod_traces mod_act mod_with mod_facts f_28) := by rw [ef_28]; exact hD
  obtain ⟨v_29, ev_29, h⟩ := zk_lt h
  refine lv_iinc (v := v_29) (lv' := [(4, .int v_29), (0, .ref (ad 41)), (1, .int x1), (3, .int x3), (5, .int x5)]) hx hb dX12_worked_80 hl (k := 3) rfl (by rw [ev_29]; rfl) (by decide) rfl (fun ls hl => ?_)
  refine lv_goto (tgt := 182) hx hb dX12_worked_83 (by decide) ?_
  exact L_X12_worked_182 C0 hK hA  ih12 x1 x3 v_29 x5 f_28 h H locs ls hP hD hS (lv_sub hl [1, 2, 3, 0, 4] rfl)
set_option maxHeartbeats 4000000 in
set_option maxRecDepth 100000 in
theorem L_X12_worked_45 {p : Program} {l : Launch} {e : Env} {s : State} {m : MethodId} {args : Array Value} {below : List Frame} {meth : Method} {c : Code} {A : Nat → Prop} {D : va_G} {cs : Nat → ClassId} {ad : Nat → Nat} {mod_code : Int32} {mod_shoes : Int32} {mod_claims : Int32} {mod_taped : Int32} {mod_here : Int32} {mod_fault : Int32} {mod_suits : Int32} {mod_doneMany : Int32} {mod_undoneMany : Int32} {mod_open : Int32} {mod_laid : Int32} {mod_isBoth : Int32} {mod_wished : Int32} {mod_bestMany : Int32} {mod_bestRow : Int32} {mod_ringDigits : Int32} {mod_traces : Int32} {mod_act : Nat → Int32} {mod_with : Nat → Int32} {mod_facts : Nat → Int32} {R : Int32 × (Nat → Int32)} {g12 : Int32 → Int32 → Int32 → Int32 → (Nat → Int32) → (Option (Int32 × (Nat → Int32)))} (C0 : zC p s m args meth c cX12_worked 7 (some .int) RX12 zW) (hK : va_K D classes (zT cs) s) (hA : ∀ q : Nat, s.heap.size ≤ q → A q) (ih12 : ∀ (x1 : Int32) (x3 : Int32) (x4 : Int32) (x5 : Int32) (mod_pile : Nat → Int32) (h : g12 x1 x3 x4 x5 mod_pile = some R) (H : Heap) (locs : List Loc) (ls : Array Slot) (hP : va_P D classes (wl_X12_worked ad cs mod_code mod_shoes mod_claims mod_taped mod_here mod_fault mod_suits mod_doneMany mod_undoneMany mod_open mod_laid mod_isBoth mod_wished mod_bestMany mod_bestRow mod_ringDigits mod_traces mod_act mod_with mod_facts mod_pile) H) (hD : va_D A (wl_X12_worked ad cs mod_code mod_shoes mod_claims mod_taped mod_here mod_fault mod_suits mod_doneMany mod_undoneMany mod_open mod_laid mod_isBoth mod_wished mod_bestMany mod_bestRow mod_ringDigits mod_traces mod_act mod_with mod_facts mod_pile)) (hS : va_S A s.heap H locs) (hl : lv_has ls 7 [(0, .ref (ad 41)), (1, .int x1), (3, .int x3), (4, .int x4), (5, .int x5)]), W p l e rm_X12_worked s m args below meth c H locs 0 0 (MQ below (Q_X12_worked D cs ad mod_code mod_shoes mod_claims mod_taped mod_here mod_fault mod_suits mod_doneMany mod_undoneMany mod_open mod_laid mod_isBoth mod_wished mod_bestMany mod_bestRow mod_ringDigits mod_traces mod_act mod_with mod_facts A R) args s 0 0 A) (F0 m 12 ls [])) (x1 : Int32) (x3 : Int32) (x4 : Int32) (x5 : Int32) (x6 : Int32) (mod_pile : Nat → Int32) (h : B_X12_worked_45 g12 mod_code mod_shoes mod_claims mod_taped mod_here mod_fault mod_suits mod_doneMany mod_undoneMany mod_open mod_laid mod_isBoth mod_wished mod_bestMany mod_bestRow mod_ringDigits mod_traces mod_act mod_with mod_facts x1 x3 x4 x5 x6 mod_pile = some R) (H : Heap) (locs : List Loc) (ls : Array Slot) (hP : va_P D classes (wl_X12_worked ad cs mod_code mod_shoes mod_claims mod_taped mod_here mod_fault mod_suits mod_doneMany mod_undoneMany mod_open mod_laid mod_isBoth mod_wished mod_bestMany mod_bestRow mod_ringDigits mod_traces mod_act mod_with mod_facts mod_pile) H) (hD : va_D A (wl_X12_worked ad cs mod_code mod_shoes mod_claims mod_taped mod_here mod_fault mod_suits mod_doneMany mod_undoneMany mod_open mod_laid mod_isBoth mod_wished mod_bestMany mod_bestRow mod_ringDigits mod_traces mod_act mod_with mod_facts mod_pile)) (hS : va_S A s.heap H locs) (hl : lv_has ls 7 [(0, .ref (ad 41)), (1, .int x1), (3, .int x3), (4, .int x4), (5, .int x5), (6, .int x6)]) : W p l e rm_X12_worked s m args below meth c H locs 0 0 (MQ below (Q_X12_worked D cs ad mod_code mod_shoes mod_claims mod_taped mod_here mod_fault mod_suits mod_doneMany mod_undoneMany mod_open mod_laid mod_isBoth mod_wished mod_bestMany mod_bestRow mod_ringDigits mod_traces mod_act mod_with mod_facts A R) args s 0 0 A) (F0 m 45 ls []) := by
  obtain ⟨hx, hb, hr, hml, hown, ht, hlocks⟩ := id C0
  refine lv_aload_n hx hb dX12_worked_45 rfl (lv_at hl 0 rfl) ?_
  refine va_get (D := D) (ci := 12) (v := .ref (ad 72)) (C := RX12) (T := TX12) (N := 60) hx hb ht iX12 hown hK hP 0 rfl rfl 41 (by decide) (ht _ kw_1336) (fun _ h9 => h9) rfl dX12_worked_46 ?_
  refine lv_iload hx hb dX12_worked_49 (lv_at hl 3 rfl) ?_
  refine lv_iload hx hb dX12_worked_51 (lv_at hl 5 rfl) ?_
  refine lv_iconst (v := (1 : Int32)) hx hb dX12_worked_53 (by decide) ?_
  refine lv_icmp_ne (tgt := 67) hx hb dX12_worked_54 (by decide) (fun c_23 => ?_) (fun c_23 => ?_)
  · have h := zk_f c_23 h
    refine lv_aload_n hx hb dX12_worked_67 rfl (lv_at hl 0 rfl) ?_
    refine va_get (D := D) (ci := 12) (v := .ref (ad 71)) (C := RX12) (T := TX12) (N := 60) hx hb ht iX12 hown hK hP 0 rfl rfl 40 (by decide) (ht _ kw_1335) (fun _ h9 => h9) rfl dX12_worked_68 ?_
    refine lv_aload_n hx hb dX12_worked_71 rfl (lv_at hl 0 rfl) ?_
    refine va_get (D := D) (ci := 12) (v := .ref (ad 67)) (C := RX12) (T := TX12) (N := 60) hx hb ht iX12 hown hK hP 0 rfl rfl 36 (by decide) (ht _ kw_1331) (fun _ h9 => h9) rfl dX12_worked_72 ?_
    refine lv_iload hx hb dX12_worked_75 (lv_at hl 4 rfl) ?_
    obtain ⟨g_24, h⟩ := zk_gd h
    refine va_iald hx hb hK hP 2 0 rfl rfl g_24 dX12_worked_77 ?_
    obtain ⟨g_25, h⟩ := zk_gd h
    refine va_iald hx hb hK hP 3 0 rfl rfl g_25 dX12_worked_78 ?_
    exact L_X12_worked_79 C0 hK hA  ih12 x1 x3 x4 x5 (mod_facts (mod_with x5.toNatClampNeg).toNatClampNeg) x4 mod_pile h H locs ls hP hD hS (lv_sub hl [0, 1, 2, 3, 4] rfl)
  · have h := zk_t c_23 h
    refine lv_aload_n hx hb dX12_worked_57 rfl (lv_at hl 0 rfl) ?_
    refine va_get (D := D) (ci := 12) (v := .ref (ad 67)) (C := RX12) (T := TX12) (N := 60) hx hb ht iX12 hown hK hP 0 rfl rfl 36 (by decide) (ht _ kw_1331) (fun _ h9 => h9) rfl dX12_worked_58 ?_
    refine lv_iload hx hb dX12_worked_61 (lv_at hl 4 rfl) ?_
    obtain ⟨g_26, h⟩ := zk_gd h
    refine va_iald hx hb hK hP 2 0 rfl rfl g_26 dX12_worked_63 ?_
    refine lv_goto (tgt := 79) hx hb dX12_worked_64 (by decide) ?_
    exact L_X12_worked_79 C0 hK hA  ih12 x1 x3 x4 x5 (mod_with x5.toNatClampNeg) x4 mod_pile h H locs ls hP hD hS (lv_sub hl [0, 1, 2, 3, 4] rfl)
set_option maxHeartbeats 4000000 in
set_option maxRecDepth 100000 in
theorem L_X12_worked_12 {p : Program} {l : Launch} {e : Env} {s : State} {m : MethodId} {args : Array Value} {below : List Frame} {meth : Method} {c : Code} {A : Nat → Prop} {D : va_G} {cs : Nat → ClassId} {ad : Nat → Nat} {mod_code : Int32} {mod_shoes : Int32} {mod_claims : Int32} {mod_taped : Int32} {mod_here : Int32} {mod_fault : Int32} {mod_suits : Int32} {mod_doneMany : Int32} {mod_undoneMany : Int32} {mod_open : Int32} {mod_laid : Int32} {mod_isBoth : Int32} {mod_wished : Int32} {mod_bestMany : Int32} {mod_bestRow : Int32} {mod_ringDigits : Int32} {mod_traces : Int32} {mod_act : Nat → Int32} {mod_with : Nat → Int32} {mod_facts : Nat → Int32} {R : Int32 × (Nat → Int32)} {g12 : Int32 → Int32 → Int32 → Int32 → (Nat → Int32) → (Option (Int32 × (Nat → Int32)))} (C0 : zC p s m args meth c cX12_worked 7 (some .int) RX12 zW) (hK : va_K D classes (zT cs) s) (hA : ∀ q : Nat, s.heap.size ≤ q → A q) (ih12 : ∀ (x1 : Int32) (x3 : Int32) (x4 : Int32) (x5 : Int32) (mod_pile : Nat → Int32) (h : g12 x1 x3 x4 x5 mod_pile = some R) (H : Heap) (locs : List Loc) (ls : Array Slot) (hP : va_P D classes (wl_X12_worked ad cs mod_code mod_shoes mod_claims mod_taped mod_here mod_fault mod_suits mod_doneMany mod_undoneMany mod_open mod_laid mod_isBoth mod_wished mod_bestMany mod_bestRow mod_ringDigits mod_traces mod_act mod_with mod_facts mod_pile) H) (hD : va_D A (wl_X12_worked ad cs mod_code mod_shoes mod_claims mod_taped mod_here mod_fault mod_suits mod_doneMany mod_undoneMany mod_open mod_laid mod_isBoth mod_wished mod_bestMany mod_bestRow mod_ringDigits mod_traces mod_act mod_with mod_facts mod_pile)) (hS : va_S A s.heap H locs) (hl : lv_has ls 7 [(0, .ref (ad 41)), (1, .int x1), (3, .int x3), (4, .int x4), (5, .int x5)]), W p l e rm_X12_worked s m args below meth c H locs 0 0 (MQ below (Q_X12_worked D cs ad mod_code mod_shoes mod_claims mod_taped mod_here mod_fault mod_suits mod_doneMany mod_undoneMany mod_open mod_laid mod_isBoth mod_wished mod_bestMany mod_bestRow mod_ringDigits mod_traces mod_act mod_with mod_facts A R) args s 0 0 A) (F0 m 12 ls [])) (x1 : Int32) (x3 : Int32) (x4 : Int32) (x5 : Int32) (mod_pile : Nat → Int32) (h : B_X12_worked_12 g12 mod_code mod_shoes mod_claims mod_taped mod_here mod_fault mod_suits mod_doneMany mod_undoneMany mod_open mod_laid mod_isBoth mod_wished mod_bestMany mod_bestRow mod_ringDigits mod_traces mod_act mod_with mod_facts x1 x3 x4 x5 mod_pile = some R) (H : Heap) (locs : List Loc) (ls : Array Slot) (hP : va_P D classes (wl_X12_worked ad cs mod_code mod_shoes mod_claims mod_taped mod_here mod_fault mod_suits mod_doneMany mod_undoneMany mod_open mod_laid mod_isBoth mod_wished mod_bestMany mod_bestRow mod_ringDigits mod_traces mod_act mod_with mod_facts mod_pile) H) (hD : va_D A (wl_X12_worked ad cs mod_code mod_shoes mod_claims mod_taped mod_here mod_fault mod_suits mod_doneMany mod_undoneMany mod_open mod_laid mod_isBoth mod_wished mod_bestMany mod_bestRow mod_ringDigits mod_traces mod_act mod_with mod_facts mod_pile)) (hS : va_S A s.heap H locs) (hl : lv_has ls 7 [(0, .ref (ad 41)), (1, .int x1), (3, .int x3), (4, .int x4), (5, .int x5)]) : W p l e rm_X12_worked s m args below meth c H locs 0 0 (MQ below (Q_X12_worked D cs ad mod_code mod_shoes mod_claims mod_taped mod_here mod_fault mod_suits mod_doneMany mod_undoneMany mod_open mod_laid mod_isBoth mod_wished mod_bestMany mod_bestRow mod_ringDigits mod_traces mod_act mod_with mod_facts A R) args s 0 0 A) (F0 m 12 ls []) := by
  obtain ⟨hx, hb, hr, hml, hown, ht, hlocks⟩ := id C0
  refine lv_iload hx hb dX12_worked_12 (lv_at hl 4 rfl) ?_
  refine lv_sipush (v := (130 : Int32)) hx hb dX12_worked_14 (by decide) ?_
  refine lv_iload_n hx hb dX12_worked_17 rfl (lv_at hl 1 rfl) ?_
  refine lv_imul hx hb dX12_worked_18 ?_
  refine lv_iload_n hx hb dX12_worked_19 rfl (lv_at hl 2 rfl) ?_
  refine lv_iadd hx hb dX12_worked_20 ?_
  refine lv_icmp_ge (tgt := 188) hx hb dX12_worked_21 (by decide) (fun c_2 => ?_) (fun c_2 => ?_)
  · have h := zk_t c_2 h
    refine lv_aload_n hx hb dX12_worked_188 rfl (lv_at hl 0 rfl) ?_
    refine va_get (D := D) (ci := 12) (v := .ref (ad 72)) (C := RX12) (T := TX12) (N := 60) hx hb ht iX12 hown hK hP 0 rfl rfl 41 (by decide) (ht _ kw_1336) (fun _ h9 => h9) rfl dX12_worked_189 ?_
    refine lv_iconst (v := (0 : Int32)) hx hb dX12_worked_192 (by decide) ?_
    refine va_iald hx hb hK hP 4 0 rfl rfl (by unfold vp_in; decide) dX12_worked_193 ?_
    exact W.iret (v := mod_pile (0 : Int32).toNatClampNeg) hx hb hr (fun t ht2 hW => ⟨⟨mod_pile (0 : Int32).toNatClampNeg, mod_pile, rfl, Option.some.inj h, by rw [ht2]; exact hP, hD⟩, hS.F ht2⟩) hS.2.2 dX12_worked_194 hlocks
  · have h := zk_f c_2 h
    refine lv_aload_n hx hb dX12_worked_24 rfl (lv_at hl 0 rfl) ?_
    refine va_get (D := D) (ci := 12) (v := .ref (ad 66)) (C := RX12) (T := TX12) (N := 60) hx hb ht iX12 hown hK hP 0 rfl rfl 35 (by decide) (ht _ kw_1330) (fun _ h9 => h9) rfl dX12_worked_25 ?_
    refine lv_iload hx hb dX12_worked_28 (lv_at hl 4 rfl) ?_
    obtain ⟨g_3, h⟩ := zk_gd h
    refine va_bald hx hb hK hP 1 2 rfl rfl g_3 dX12_worked_30 ?_
    obtain ⟨v_4, ev_4, h⟩ := zk_lt h
    refine W.eq (g2 := F0 m 31 ls [.int v_4]) (by rw [ev_4]) ?_
    refine lv_istore (lv' := [(6, .int v_4), (0, .ref (ad 41)), (1, .int x1), (3, .int x3), (4, .int x4), (5, .int x5)]) hx hb dX12_worked_31 hl (by decide) rfl (fun ls hl => ?_)
    refine lv_iload hx hb dX12_worked_33 (lv_at hl 0 rfl) ?_
    refine lv_iconst (v := (1 : Int32)) hx hb dX12_worked_35 (by decide) ?_
    refine lv_icmp_eq (tgt := 45) hx hb dX12_worked_36 (by decide) (fun c_5 => ?_) (fun c_5 => ?_)
    · have h := zk_t c_5 h
      exact L_X12_worked_45 C0 hK hA  ih12 x1 x3 x4 x5 v_4 mod_pile h H locs ls hP hD hS (lv_sub hl [1, 2, 3, 4, 5, 0] rfl)
    · have h := zk_f c_5 h
      refine lv_iload hx hb dX12_worked_39 (lv_at hl 0 rfl) ?_
      refine lv_iconst (v := (2 : Int32)) hx hb dX12_worked_41 (by decide) ?_
      refine lv_icmp_ne (tgt := 86) hx hb dX12_worked_42 (by decide) (fun c_6 => ?_) (fun c_6 => ?_)
      · have h := zk_f c_6 h
        refine lv_iload hx hb dX12_worked_86 (lv_at hl 0 rfl) ?_
        refine lv_iconst (v := (3 : Int32)) hx hb dX12_worked_88 (by decide) ?_
        refine lv_icmp_ne (tgt := 121) hx hb dX12_worked_89 (by decide) (fun c_7 => ?_) (fun c_7 => ?_)
        · have h := zk_f c_7 h
          refine lv_iload hx hb dX12_worked_121 (lv_at hl 0 rfl) ?_
          refine lv_iconst (v := (4 : Int32)) hx hb dX12_worked_123 (by decide) ?_
          refine lv_icmp_ne (tgt := 149) hx hb dX12_worked_124 (by decide) (fun c_8 => ?_) (fun c_8 => ?_)
          · have h := zk_f c_8 h
            obtain ⟨v_9, ev_9, h⟩ := zk_lt h
            refine lv_iinc (v := v_9) (lv' := [(4, .int v_9), (6, .int v_4), (0, .ref (ad 41)), (1, .int x1), (3, .int x3), (5, .int x5)]) hx hb dX12_worked_149 hl (k := 4) rfl (by rw [ev_9]; rfl) (by decide) rfl (fun ls hl => ?_)
            refine lv_aload_n hx hb dX12_worked_152 rfl (lv_at hl 2 rfl) ?_
            refine va_get (D := D) (ci := 12) (v := .ref (ad 72)) (C := RX12) (T := TX12) (N := 60) hx hb ht iX12 hown hK hP 0 rfl rfl 41 (by decide) (ht _ kw_1336) (fun _ h9 => h9) rfl dX12_worked_153 ?_
            refine lv_iload hx hb dX12_worked_156 (lv_at hl 0 rfl) ?_
            refine lv_iconst (v := (1 : Int32)) hx hb dX12_worked_158 (by decide) ?_
            refine lv_isub hx hb dX12_worked_159 ?_
            refine lv_iload hx hb dX12_worked_160 (lv_at hl 1 rfl) ?_
            refine lv_aload_n hx hb dX12_worked_162 rfl (lv_at hl 2 rfl) ?_
            refine va_get (D := D) (ci := 12) (v := .ref (ad 72)) (C := RX12) (T := TX12) (N := 60) hx hb ht iX12 hown hK hP 0 rfl rfl 41 (by decide) (ht _ kw_1336) (fun _ h9 => h9) rfl dX12_worked_163 ?_
            refine lv_iload hx hb dX12_worked_166 (lv_at hl 0 rfl) ?_
            refine lv_iconst (v := (1 : Int32)) hx hb dX12_worked_168 (by decide) ?_
            refine lv_isub hx hb dX12_worked_169 ?_
            obtain ⟨g_10, h⟩ := zk_gd h
            refine va_iald hx hb hK hP 4 0 rfl rfl g_10 dX12_worked_170 ?_
            refine lv_aload_n hx hb dX12_worked_171 rfl (lv_at hl 2 rfl) ?_
            refine va_get (D := D) (ci := 12) (v := .ref (ad 72)) (C := RX12) (T := TX12) (N := 60) hx hb ht iX12 hown hK hP 0 rfl rfl 41 (by decide) (ht _ kw_1336) (fun _ h9 => h9) rfl dX12_worked_172 ?_
            refine lv_iload hx hb dX12_worked_175 (lv_at hl 0 rfl) ?_
            obtain ⟨g_11, h⟩ := zk_gd h
            refine va_iald hx hb hK hP 4 0 rfl rfl g_11 dX12_worked_177 ?_
            obtain ⟨r_12, u_13, hc_14, h⟩ := zk_o2 h
            refine zz_si (post := (fun r u => (r, u) = (r_12, u_13))) (w1 := fun u => (wl_X12_twoOf ad cs )) (As := [.int v_4, .int (mod_pile (v_9 - (1 : Int32)).toNatClampNeg), .int (mod_pile v_9.toNatClampNeg)]) (rest := [.int (v_9 - (1 : Int32)), .ref (ad 72)]) (c_X12_twoOf l D cs ad  H.size v_4 (mod_pile (v_9 - (1 : Int32)).toNatClampNeg) (mod_pile v_9.toNatClampNeg) (r_12, u_13) hc_14) ⟨hx, hb, hml, hown, ht⟩ (va_cwS 3 ht g_X12_296 rfl rfl rfl hd_X12_twoOf ⟨Nat.le_of_ble_eq_true rfl, Nat.le_of_ble_eq_true rfl⟩) hP hD hS hK hA [] rfl rfl [] rfl (fun _ => rfl) rfl hl.1 (Nat.le_of_ble_eq_true rfl) dX12_worked_178 ⟨Nat.zero_le _, Nat.zero_le _⟩ (fun r u H locs hq hP hS => ?_)
            cases hq
            have hP : va_P D classes (wl_X12_worked ad cs mod_code mod_shoes mod_claims mod_taped mod_here mod_fault mod_suits mod_doneMany mod_undoneMany mod_open mod_laid mod_isBoth mod_wished mod_bestMany mod_bestRow mod_ringDigits mod_traces mod_act mod_with mod_facts mod_pile) H := hP
            obtain ⟨g_15, h⟩ := zk_gd h
            obtain ⟨f_16, ef_16, h⟩ := zk_lt h
            refine va_iast hx hb hK hP hD hS 4 0 rfl rfl g_15 dX12_worked_181 (fun H locs hP hD hS => ?_)
            have hP : va_P D classes (wl_X12_worked ad cs mod_code mod_shoes mod_claims mod_taped mod_here mod_fault mod_suits mod_doneMany mod_undoneMany mod_open mod_laid mod_isBoth mod_wished mod_bestMany mod_bestRow mod_ringDigits mod_traces mod_act mod_with mod_facts f_16) H := by rw [ef_16]; exact hP
            have hD : va_D A (wl_X12_worked ad cs mod_code mod_shoes mod_claims mod_taped mod_here mod_fault mod_suits mod_doneMany mod_undoneMany mod_open mod_laid mod_isBoth mod_wished mod_bestMany mod_bestRow mod_ringDigits mod_traces mod_act mod_with mod_facts f_16) := by rw [ef_16]; exact hD
            exact L_X12_worked_182 C0 hK hA  ih12 x1 x3 v_9 x5 f_16 h H locs ls hP hD hS (lv_sub hl [2, 3, 4, 0, 5] rfl)
          · have h := zk_t c_8 h
            refine lv_aload_n hx hb dX12_worked_127 rfl (lv_at hl 1 rfl) ?_
            refine va_get (D := D) (ci := 12) (v := .ref (ad 72)) (C := RX12) (T := TX12) (N := 60) hx hb ht iX12 hown hK hP 0 rfl rfl 41 (by decide) (ht _ kw_1336) (fun _ h9 => h9) rfl dX12_worked_128 ?_
            refine lv_iload hx hb dX12_worked_131 (lv_at hl 4 rfl) ?_
            refine lv_iconst (v := (1 : Int32)) hx hb dX12_worked_133 (by decide) ?_
            refine lv_isub hx hb dX12_worked_134 ?_
            refine lv_aload_n hx hb dX12_worked_135 rfl (lv_at hl 1 rfl) ?_
            refine va_get (D := D) (ci := 12) (v := .ref (ad 72)) (C := RX12) (T := TX12) (N := 60) hx hb ht iX12 hown hK hP 0 rfl rfl 41 (by decide) (ht _ kw_1336) (fun _ h9 => h9) rfl dX12_worked_136 ?_
            refine lv_iload hx hb dX12_worked_139 (lv_at hl 4 rfl) ?_
            refine lv_iconst (v := (1 : Int32)) hx hb dX12_worked_141 (by decide) ?_
            refine lv_isub hx hb dX12_worked_142 ?_
            obtain ⟨g_17, h⟩ := zk_gd h
            refine va_iald hx hb hK hP 4 0 rfl rfl g_17 dX12_worked_143 ?_
            refine lv_ineg hx hb dX12_worked_144 ?_
            obtain ⟨v_18, ev_18, h⟩ := zk_lt h
            refine W.eq (g2 := F0 m 145 ls [.int v_18, .int (x4 - (1 : Int32)), .ref (ad 72)]) (by rw [ev_18]) ?_
            obtain ⟨g_19, h⟩ := zk_gd h
            obtain ⟨f_20, ef_20, h⟩ := zk_lt h
            refine va_iast hx hb hK hP hD hS 4 0 rfl rfl g_19 dX12_worked_145 (fun H locs hP hD hS => ?_)
            have hP : va_P D classes (wl_X12_worked ad cs mod_code mod_shoes mod_claims mod_taped mod_here mod_fault mod_suits mod_doneMany mod_undoneMany mod_open mod_laid mod_isBoth mod_wished mod_bestMany mod_bestRow mod_ringDigits mod_traces mod_act mod_with mod_facts f_20) H := by rw [ef_20]; exact hP
            have hD : va_D A (wl_X12_worked ad cs mod_code mod_shoes mod_claims mod_taped mod_here mod_fault mod_suits mod_doneMany mod_undoneMany mod_open mod_laid mod_isBoth mod_wished mod_bestMany mod_bestRow mod_ringDigits mod_traces mod_act mod_with mod_facts f_20) := by rw [ef_20]; exact hD
            refine lv_goto (tgt := 182) hx hb dX12_worked_146 (by decide) ?_
            exact L_X12_worked_182 C0 hK hA  ih12 x1 x3 x4 x5 f_20 h H locs ls hP hD hS (lv_sub hl [1, 2, 3, 4, 5] rfl)
        · have h := zk_t c_7 h
          refine lv_aload_n hx hb dX12_worked_92 rfl (lv_at hl 1 rfl) ?_
          refine va_get (D := D) (ci := 12) (v := .ref (ad 72)) (C := RX12) (T := TX12) (N := 60) hx hb ht iX12 hown hK hP 0 rfl rfl 41 (by decide) (ht _ kw_1336) (fun _ h9 => h9) rfl dX12_worked_93 ?_
          refine lv_iload hx hb dX12_worked_96 (lv_at hl 4 rfl) ?_
          refine lv_iconst (v := (1 : Int32)) hx hb dX12_worked_98 (by decide) ?_
          refine lv_isub hx hb dX12_worked_99 ?_
          refine lv_aload_n hx hb dX12_worked_100 rfl (lv_at hl 1 rfl) ?_
          refine va_get (D := D) (ci := 12) (v := .ref (ad 72)) (C := RX12) (T := TX12) (N := 60) hx hb ht iX12 hown hK hP 0 rfl rfl 41 (by decide) (ht _ kw_1336) (fun _ h9 => h9) rfl dX12_worked_101 ?_
          refine lv_iload hx hb dX12_worked_104 (lv_at hl 4 rfl) ?_
          refine lv_iconst (v := (1 : Int32)) hx hb dX12_worked_106 (by decide) ?_
          refine lv_isub hx hb dX12_worked_107 ?_
          obtain ⟨g_21, h⟩ := zk_gd h
          refine va_iald hx hb hK hP 4 0 rfl rfl g_21 dX12_worked_108 ?_
          refine lv_if_ne (tgt := 116) hx hb dX12_worked_109 (by decide) (fun c_22 => ?_) (fun c_22 => ?_)
          · have h := zk_f c_22 h
            refine lv_iconst (v := (0 : Int32)) hx hb dX12_worked_116 (by decide) ?_
            exact L_X12_worked_117 C0 hK hA  ih12 x1 x3 x4 x5 (0 : Int32) (x4 - (1 : Int32)) mod_pile h H locs ls hP hD hS (lv_sub hl [1, 2, 3, 4, 5] rfl)
          · have h := zk_t c_22 h
            refine lv_iconst (v := (1 : Int32)) hx hb dX12_worked_112 (by decide) ?_
            refine lv_goto (tgt := 117) hx hb dX12_worked_113 (by decide) ?_
            exact L_X12_worked_117 C0 hK hA  ih12 x1 x3 x4 x5 (1 : Int32) (x4 - (1 : Int32)) mod_pile h H locs ls hP hD hS (lv_sub hl [1, 2, 3, 4, 5] rfl)
      · have h := zk_t c_6 h
        exact L_X12_worked_45 C0 hK hA  ih12 x1 x3 x4 x5 v_4 mod_pile h H locs ls hP hD hS (lv_sub hl [1, 2, 3, 4, 5, 0] rfl)
set_option maxHeartbeats 4000000 in
set_option maxRecDepth 100000 in
theorem L_X12_worked_0 {p : Program} {l : Launch} {e : Env} {s : State} {m : MethodId} {args : Array Value} {below : List Frame} {meth : Method} {c : Code} {A : Nat → Prop} {D : va_G} {cs : Nat → ClassId} {ad : Nat → Nat} {mod_code : Int32} {mod_shoes : Int32} {mod_claims : Int32} {mod_taped : Int32} {mod_here : Int32} {mod_fault : Int32} {mod_suits : Int32} {mod_doneMany : Int32} {mod_undoneMany : Int32} {mod_open : Int32} {mod_laid : Int32} {mod_isBoth : Int32} {mod_wished : Int32} {mod_bestMany : Int32} {mod_bestRow : Int32} {mod_ringDigits : Int32} {mod_traces : Int32} {mod_act : Nat → Int32} {mod_with : Nat → Int32} {mod_facts : Nat → Int32} {R : Int32 × (Nat → Int32)} {g12 : Int32 → Int32 → Int32 → Int32 → (Nat → Int32) → (Option (Int32 × (Nat → Int32)))} (C0 : zC p s m args meth c cX12_worked 7 (some .int) RX12 zW) (hK : va_K D classes (zT cs) s) (hA : ∀ q : Nat, s.heap.size ≤ q → A q) (ih12 : ∀ (x1 : Int32) (x3 : Int32) (x4 : Int32) (x5 : Int32) (mod_pile : Nat → Int32) (h : g12 x1 x3 x4 x5 mod_pile = some R) (H : Heap) (locs : List Loc) (ls : Array Slot) (hP : va_P D classes (wl_X12_worked ad cs mod_code mod_shoes mod_claims mod_taped mod_here mod_fault mod_suits mod_doneMany mod_undoneMany mod_open mod_laid mod_isBoth mod_wished mod_bestMany mod_bestRow mod_ringDigits mod_traces mod_act mod_with mod_facts mod_pile) H) (hD : va_D A (wl_X12_worked ad cs mod_code mod_shoes mod_claims mod_taped mod_here mod_fault mod_suits mod_doneMany mod_undoneMany mod_open mod_laid mod_isBoth mod_wished mod_bestMany mod_bestRow mod_ringDigits mod_traces mod_act mod_with mod_facts mod_pile)) (hS : va_S A s.heap H locs) (hl : lv_has ls 7 [(0, .ref (ad 41)), (1, .int x1), (3, .int x3), (4, .int x4), (5, .int x5)]), W p l e rm_X12_worked s m args below meth c H locs 0 0 (MQ below (Q_X12_worked D cs ad mod_code mod_shoes mod_claims mod_taped mod_here mod_fault mod_suits mod_doneMany mod_undoneMany mod_open mod_laid mod_isBoth mod_wished mod_bestMany mod_bestRow mod_ringDigits mod_traces mod_act mod_with mod_facts A R) args s 0 0 A) (F0 m 12 ls [])) (x1 : Int32) (x2 : Int32) (x3 : Int32) (mod_pile : Nat → Int32) (h : B_X12_worked_0 g12 mod_code mod_shoes mod_claims mod_taped mod_here mod_fault mod_suits mod_doneMany mod_undoneMany mod_open mod_laid mod_isBoth mod_wished mod_bestMany mod_bestRow mod_ringDigits mod_traces mod_act mod_with mod_facts x1 x2 x3 mod_pile = some R) (H : Heap) (locs : List Loc) (ls : Array Slot) (hP : va_P D classes (wl_X12_worked ad cs mod_code mod_shoes mod_claims mod_taped mod_here mod_fault mod_suits mod_doneMany mod_undoneMany mod_open mod_laid mod_isBoth mod_wished mod_bestMany mod_bestRow mod_ringDigits mod_traces mod_act mod_with mod_facts mod_pile) H) (hD : va_D A (wl_X12_worked ad cs mod_code mod_shoes mod_claims mod_taped mod_here mod_fault mod_suits mod_doneMany mod_undoneMany mod_open mod_laid mod_isBoth mod_wished mod_bestMany mod_bestRow mod_ringDigits mod_traces mod_act mod_with mod_facts mod_pile)) (hS : va_S A s.heap H locs) (hl : lv_has ls 7 [(0, .ref (ad 41)), (1, .int x1), (2, .int x2), (3, .int x3)]) : W p l e rm_X12_worked s m args below meth c H locs 0 0 (MQ below (Q_X12_worked D cs ad mod_code mod_shoes mod_claims mod_taped mod_here mod_fault mod_suits mod_doneMany mod_undoneMany mod_open mod_laid mod_isBoth mod_wished mod_bestMany mod_bestRow mod_ringDigits mod_traces mod_act mod_with mod_facts A R) args s 0 0 A) (F0 m 0 ls []) := by
  obtain ⟨hx, hb, hr, hml, hown, ht, hlocks⟩ := id C0
  refine lv_iconst (v := (0 : Int32)) hx hb dX12_worked_0 (by decide) ?_
  refine lv_istore (lv' := [(4, .int (0 : Int32)), (0, .ref (ad 41)), (1, .int x1), (2, .int x2), (3, .int x3)]) hx hb dX12_worked_1 hl (by decide) rfl (fun ls hl => ?_)
  refine lv_sipush (v := (130 : Int32)) hx hb dX12_worked_3 (by decide) ?_
  refine lv_iload_n hx hb dX12_worked_6 rfl (lv_at hl 2 rfl) ?_
  refine lv_imul hx hb dX12_worked_7 ?_
  refine lv_iload_n hx hb dX12_worked_8 rfl (lv_at hl 3 rfl) ?_
  refine lv_iadd hx hb dX12_worked_9 ?_
  obtain ⟨v_1, ev_1, h⟩ := zk_lt h
  refine W.eq (g2 := F0 m 10 ls [.int v_1]) (by rw [ev_1]) ?_
  refine lv_istore (lv' := [(5, .int v_1), (4, .int (0 : Int32)), (0, .ref (ad 41)), (1, .int x1), (2, .int x2), (3, .int x3)]) hx hb dX12_worked_10 hl (by decide) rfl (fun ls hl => ?_)
  exact ih12 x1 x3 (0 : Int32) v_1 mod_pile h H locs ls hP hD hS (lv_sub hl [2, 3, 5, 1, 0] rfl)
theorem LG_X12_worked {p : Program} {l : Launch} {e : Env} {s : State} {m : MethodId} {args : Array Value} {below : List Frame} {meth : Method} {c : Code} {A : Nat → Prop} {D : va_G} {cs : Nat → ClassId} {ad : Nat → Nat} {mod_code : Int32} {mod_shoes : Int32} {mod_claims : Int32} {mod_taped : Int32} {mod_here : Int32} {mod_fault : Int32} {mod_suits : Int32} {mod_doneMany : Int32} {mod_undoneMany : Int32} {mod_open : Int32} {mod_laid : Int32} {mod_isBoth : Int32} {mod_wished : Int32} {mod_bestMany : Int32} {mod_bestRow : Int32} {mod_ringDigits : Int32} {mod_traces : Int32} {mod_act : Nat → Int32} {mod_with : Nat → Int32} {mod_facts : Nat → Int32} {R : Int32 × (Nat → Int32)} (C0 : zC p s m args meth c cX12_worked 7 (some .int) RX12 zW) (hK : va_K D classes (zT cs) s) (hA : ∀ q : Nat, s.heap.size ≤ q → A q) : ∀ n : Nat, (∀ (x1 : Int32) (x3 : Int32) (x4 : Int32) (x5 : Int32) (mod_pile : Nat → Int32) (h : (G_X12_worked   mod_code mod_shoes mod_claims mod_taped mod_here mod_fault mod_suits mod_doneMany mod_undoneMany mod_open mod_laid mod_isBoth mod_wished mod_bestMany mod_bestRow mod_ringDigits mod_traces mod_act mod_with mod_facts n) x1 x3 x4 x5 mod_pile = some R) (H : Heap) (locs : List Loc) (ls : Array Slot) (hP : va_P D classes (wl_X12_worked ad cs mod_code mod_shoes mod_claims mod_taped mod_here mod_fault mod_suits mod_doneMany mod_undoneMany mod_open mod_laid mod_isBoth mod_wished mod_bestMany mod_bestRow mod_ringDigits mod_traces mod_act mod_with mod_facts mod_pile) H) (hD : va_D A (wl_X12_worked ad cs mod_code mod_shoes mod_claims mod_taped mod_here mod_fault mod_suits mod_doneMany mod_undoneMany mod_open mod_laid mod_isBoth mod_wished mod_bestMany mod_bestRow mod_ringDigits mod_traces mod_act mod_with mod_facts mod_pile)) (hS : va_S A s.heap H locs) (hl : lv_has ls 7 [(0, .ref (ad 41)), (1, .int x1), (3, .int x3), (4, .int x4), (5, .int x5)]), W p l e rm_X12_worked s m args below meth c H locs 0 0 (MQ below (Q_X12_worked D cs ad mod_code mod_shoes mod_claims mod_taped mod_here mod_fault mod_suits mod_doneMany mod_undoneMany mod_open mod_laid mod_isBoth mod_wished mod_bestMany mod_bestRow mod_ringDigits mod_traces mod_act mod_with mod_facts A R) args s 0 0 A) (F0 m 12 ls [])) := by
  intro n
  induction n with
  | zero =>
    refine ?_ <;> (intros; rename_i h _ _ _ _ _ _ _; cases h)
  | succ n ih =>
    exact L_X12_worked_12 C0 hK hA  ih
set_option maxHeartbeats 4000000 in
set_option maxRecDepth 100000 in
theorem c_X12_worked (l : Launch) (D : va_G) (cs : Nat → ClassId) (ad : Nat → Nat) (sz : Nat) (n : Nat) (x1 : Int32) (x2 : Int32) (x3 : Int32) (mod_code : Int32) (mod_shoes : Int32) (mod_claims : Int32) (mod_taped : Int32) (mod_here : Int32) (mod_fault : Int32) (mod_suits : Int32) (mod_doneMany : Int32) (mod_undoneMany : Int32) (mod_open : Int32) (mod_laid : Int32) (mod_isBoth : Int32) (mod_wished : Int32) (mod_bestMany : Int32) (mod_bestRow : Int32) (mod_ringDigits : Int32) (mod_traces : Int32) (mod_act : Nat → Int32) (mod_with : Nat → Int32) (mod_facts : Nat → Int32) (mod_pile : Nat → Int32) (R : Int32 × (Nat → Int32)) (h : f_X12_worked   n x1 x2 x3 mod_code mod_shoes mod_claims mod_taped mod_here mod_fault mod_suits mod_doneMany mod_undoneMany mod_open mod_laid mod_isBoth mod_wished mod_bestMany mod_bestRow mod_ringDigits mod_traces mod_act mod_with mod_facts mod_pile = some R) : Met l yX12_worked (z_X12_worked) rm_X12_worked (va_Pc [.ref (ad 41), .int x1, .int x2, .int x3] (zPre D cs (wl_X12_worked ad cs mod_code mod_shoes mod_claims mod_taped mod_here mod_fault mod_suits mod_doneMany mod_undoneMany mod_open mod_laid mod_isBoth mod_wished mod_bestMany mod_bestRow mod_ringDigits mod_traces mod_act mod_with mod_facts mod_pile) sz)) (Q_X12_worked D cs ad mod_code mod_shoes mod_claims mod_taped mod_here mod_fault mod_suits mod_doneMany mod_undoneMany mod_open mod_laid mod_isBoth mod_wished mod_bestMany mod_bestRow mod_ringDigits mod_traces mod_act mod_with mod_facts (va_A (wl_X12_worked ad cs mod_code mod_shoes mod_claims mod_taped mod_here mod_fault mod_suits mod_doneMany mod_undoneMany mod_open mod_laid mod_isBoth mod_wished mod_bestMany mod_bestRow mod_ringDigits mod_traces mod_act mod_with mod_facts mod_pile) sz) R) 0 0 (va_A (wl_X12_worked ad cs mod_code mod_shoes mod_claims mod_taped mod_here mod_fault mod_suits mod_doneMany mod_undoneMany mod_open mod_laid mod_isBoth mod_wished mod_bestMany mod_bestRow mod_ringDigits mod_traces mod_act mod_with mod_facts mod_pile) sz) := by
  refine Met.ofW (cc := cX12_worked) (maxL := 7) (ret := (some .int)) (by decide) rfl ?_
  intro p e s m args below meth c s₁ B hml hv
  obtain ⟨rfl, hsz, hP, hK, hD0⟩ := hv
  subst hsz
  have hD := hD0.self (sz := s.heap.size)
  have C0 : zC p s m _ meth c cX12_worked 7 (some .int) RX12 zW := ⟨B.exec, B.bytes, B.returns, hml, findClass_of_methodNamed B.named, fun w hw => atoms_spec (ws := z_X12_worked) B.pre w (List.mem_cons_of_mem _ hw), B.notSynchronized⟩
  have hA : ∀ q : Nat, s.heap.size ≤ q → va_A (wl_X12_worked ad cs mod_code mod_shoes mod_claims mod_taped mod_here mod_fault mod_suits mod_doneMany mod_undoneMany mod_open mod_laid mod_isBoth mod_wished mod_bestMany mod_bestRow mod_ringDigits mod_traces mod_act mod_with mod_facts mod_pile) s.heap.size q := fun q h => Or.inr h
  have hl := lv_entry ([.ref (ad 41), .int x1, .int x2, .int x3]) (n := 7) (Nat.le_of_ble_eq_true rfl)
  rw [lg_entry_eq]
  generalize (lg_sl ([.ref (ad 41), .int x1, .int x2, .int x3]) ++ List.replicate (7 - (lg_sl ([.ref (ad 41), .int x1, .int x2, .int x3])).length) Slot.unset).toArray = ls at hl ⊢
  exact L_X12_worked_0 C0 hK hA  ((LG_X12_worked C0 hK hA  n)) x1 x2 x3 mod_pile h s.heap [] ls hP hD va_S.rf hl
theorem kw_47 : Cond.selects RX12 yX12_worked yX12_worked ∈ zW := zwI (i := 47) (by decide +kernel) (by decide +kernel)
theorem kw_1685 : Cond.methodLink RX12 299 yX12_worked ∈ zW := zwC (i := 171) zc_7 rfl rfl
theorem kw_1687 : Cond.instanceMethod yX12_worked ∈ zW := zwC (i := 173) zc_7 rfl rfl
theorem kw_1688 : Cond.code yX12_worked cX12_worked 7 (some .int) ∈ zW := zwC (i := 174) zc_7 rfl rfl
theorem zh_cX12_gives_0 : zck [3, 61, 16, 61, 27, 104, 62, 29, 16, 61, 27, 104, 42, 180, 0, 89, 27, 46, 96, 162, 0, 59] (zdu 0 cX12_gives.data.toList) = true := by decide +kernel
theorem dX12_gives_0 : decode cX12_gives 0 = .ok (.iconst 0, 1) := zo_3 zh_cX12_gives_0 0 rfl
theorem dX12_gives_1 : decode cX12_gives 1 = .ok (.istore_n 2, 1) := zo_61 zh_cX12_gives_0 1 rfl
theorem dX12_gives_2 : decode cX12_gives 2 = .ok (.bipush 61, 2) := zo_p16 zh_cX12_gives_0 2 61 rfl rfl
theorem dX12_gives_4 : decode cX12_gives 4 = .ok (.iload_n 1, 1) := zo_27 zh_cX12_gives_0 4 rfl
theorem dX12_gives_5 : decode cX12_gives 5 = .ok (.imul, 1) := zo_104 zh_cX12_gives_0 5 rfl
theorem dX12_gives_6 : decode cX12_gives 6 = .ok (.istore_n 3, 1) := zo_62 zh_cX12_gives_0 6 rfl
theorem dX12_gives_7 : decode cX12_gives 7 = .ok (.iload_n 3, 1) := zo_29 zh_cX12_gives_0 7 rfl
theorem dX12_gives_8 : decode cX12_gives 8 = .ok (.bipush 61, 2) := zo_p16 zh_cX12_gives_0 8 61 rfl rfl
theorem dX12_gives_10 : decode cX12_gives 10 = .ok (.iload_n 1, 1) := zo_27 zh_cX12_gives_0 10 rfl
theorem dX12_gives_11 : decode cX12_gives 11 = .ok (.imul, 1) := zo_104 zh_cX12_gives_0 11 rfl
theorem dX12_gives_12 : decode cX12_gives 12 = .ok (.aload_n 0, 1) := zo_42 zh_cX12_gives_0 12 rfl
theorem dX12_gives_13 : decode cX12_gives 13 = .ok (.getfield 89, 3) := zo_180 zh_cX12_gives_0 13 rfl
theorem dX12_gives_16 : decode cX12_gives 16 = .ok (.iload_n 1, 1) := zo_27 zh_cX12_gives_0 16 rfl
theorem dX12_gives_17 : decode cX12_gives 17 = .ok (.iaload, 1) := zo_46 zh_cX12_gives_0 17 rfl
theorem dX12_gives_18 : decode cX12_gives 18 = .ok (.iadd, 1) := zo_96 zh_cX12_gives_0 18 rfl
theorem dX12_gives_19 : decode cX12_gives 19 = .ok (.if_icmp .ge 59, 3) := zo_p162 zh_cX12_gives_0 19 59 rfl rfl
theorem zh_cX12_gives_1 : zck [0, 59, 42, 180, 0, 92, 29, 53, 28, 159, 0, 18, 42, 27, 28, 42, 180, 0, 92, 29, 53, 182] (zdu 20 cX12_gives.data.toList) = true := by decide +kernel
theorem dX12_gives_22 : decode cX12_gives 22 = .ok (.aload_n 0, 1) := zo_42 zh_cX12_gives_1 2 rfl
theorem dX12_gives_23 : decode cX12_gives 23 = .ok (.getfield 92, 3) := zo_180 zh_cX12_gives_1 3 rfl
theorem dX12_gives_26 : decode cX12_gives 26 = .ok (.iload_n 3, 1) := zo_29 zh_cX12_gives_1 6 rfl
theorem dX12_gives_27 : decode cX12_gives 27 = .ok (.saload, 1) := zo_53 zh_cX12_gives_1 7 rfl
theorem dX12_gives_28 : decode cX12_gives 28 = .ok (.iload_n 2, 1) := zo_28 zh_cX12_gives_1 8 rfl
theorem dX12_gives_29 : decode cX12_gives 29 = .ok (.if_icmp .eq 18, 3) := zo_p159 zh_cX12_gives_1 9 18 rfl rfl
theorem dX12_gives_32 : decode cX12_gives 32 = .ok (.aload_n 0, 1) := zo_42 zh_cX12_gives_1 12 rfl
theorem dX12_gives_33 : decode cX12_gives 33 = .ok (.iload_n 1, 1) := zo_27 zh_cX12_gives_1 13 rfl
theorem dX12_gives_34 : decode cX12_gives 34 = .ok (.iload_n 2, 1) := zo_28 zh_cX12_gives_1 14 rfl
theorem dX12_gives_35 : decode cX12_gives 35 = .ok (.aload_n 0, 1) := zo_42 zh_cX12_gives_1 15 rfl
theorem dX12_gives_36 : decode cX12_gives 36 = .ok (.getfield 92, 3) := zo_180 zh_cX12_gives_1 16 rfl
theorem dX12_gives_39 : decode cX12_gives 39 = .ok (.iload_n 3, 1) := zo_29 zh_cX12_gives_1 19 rfl
theorem zh_cX12_gives_2 : zck [53, 182, 1, 43, 153, 0, 21, 42, 27, 42, 180, 0, 92, 29, 53, 42, 180, 0, 96, 29, 53, 182] (zdu 40 cX12_gives.data.toList) = true := by decide +kernel
theorem dX12_gives_40 : decode cX12_gives 40 = .ok (.saload, 1) := zo_53 zh_cX12_gives_2 0 rfl
theorem dX12_gives_41 : decode cX12_gives 41 = .ok (.invokevirtual 299, 3) := zo_182 zh_cX12_gives_2 1 rfl
theorem dX12_gives_44 : decode cX12_gives 44 = .ok (.ifCond .eq 21, 3) := zo_p153 zh_cX12_gives_2 4 21 rfl rfl
theorem dX12_gives_47 : decode cX12_gives 47 = .ok (.aload_n 0, 1) := zo_42 zh_cX12_gives_2 7 rfl
theorem dX12_gives_48 : decode cX12_gives 48 = .ok (.iload_n 1, 1) := zo_27 zh_cX12_gives_2 8 rfl
theorem dX12_gives_49 : decode cX12_gives 49 = .ok (.aload_n 0, 1) := zo_42 zh_cX12_gives_2 9 rfl
theorem dX12_gives_50 : decode cX12_gives 50 = .ok (.getfield 92, 3) := zo_180 zh_cX12_gives_2 10 rfl
theorem dX12_gives_53 : decode cX12_gives 53 = .ok (.iload_n 3, 1) := zo_29 zh_cX12_gives_2 13 rfl
theorem dX12_gives_54 : decode cX12_gives 54 = .ok (.saload, 1) := zo_53 zh_cX12_gives_2 14 rfl
theorem dX12_gives_55 : decode cX12_gives 55 = .ok (.aload_n 0, 1) := zo_42 zh_cX12_gives_2 15 rfl
theorem dX12_gives_56 : decode cX12_gives 56 = .ok (.getfield 96, 3) := zo_180 zh_cX12_gives_2 16 rfl
theorem dX12_gives_59 : decode cX12_gives 59 = .ok (.iload_n 3, 1) := zo_29 zh_cX12_gives_2 19 rfl
theorem zh_cX12_gives_3 : zck [53, 182, 1, 43, 172, 42, 180, 0, 96, 29, 53, 61, 132, 3, 1, 167, 255, 188, 3, 172] (zdu 60 cX12_gives.data.toList) = true := by decide +kernel
theorem dX12_gives_60 : decode cX12_gives 60 = .ok (.saload, 1) := zo_53 zh_cX12_gives_3 0 rfl
theorem dX12_gives_61 : decode cX12_gives 61 = .ok (.invokevirtual 299, 3) := zo_182 zh_cX12_gives_3 1 rfl
theorem dX12_gives_64 : decode cX12_gives 64 = .ok (.ireturn, 1) := zo_172 zh_cX12_gives_3 4 rfl
theorem dX12_gives_65 : decode cX12_gives 65 = .ok (.aload_n 0, 1) := zo_42 zh_cX12_gives_3 5 rfl
theorem dX12_gives_66 : decode cX12_gives 66 = .ok (.getfield 96, 3) := zo_180 zh_cX12_gives_3 6 rfl
theorem dX12_gives_69 : decode cX12_gives 69 = .ok (.iload_n 3, 1) := zo_29 zh_cX12_gives_3 9 rfl
theorem dX12_gives_70 : decode cX12_gives 70 = .ok (.saload, 1) := zo_53 zh_cX12_gives_3 10 rfl
theorem dX12_gives_71 : decode cX12_gives 71 = .ok (.istore_n 2, 1) := zo_61 zh_cX12_gives_3 11 rfl
theorem dX12_gives_72 : decode cX12_gives 72 = .ok (.iinc 3 1, 3) := zo_p132 zh_cX12_gives_3 12 1 rfl rfl
theorem dX12_gives_75 : decode cX12_gives 75 = .ok (.goto (-68), 3) := zo_n167 zh_cX12_gives_3 15 67 rfl rfl
theorem dX12_gives_78 : decode cX12_gives 78 = .ok (.iconst 0, 1) := zo_3 zh_cX12_gives_3 18 rfl
theorem dX12_gives_79 : decode cX12_gives 79 = .ok (.ireturn, 1) := zo_172 zh_cX12_gives_3 19 rfl
abbrev z_X12_gives : List Cond := .code yX12_gives cX12_gives 4 (some .int) :: zW
abbrev wl_X12_gives (ad : Nat → Nat) (cs : Nat → ClassId)  (mod_code : Int32) (mod_shoes : Int32) (mod_claims : Int32) (mod_taped : Int32) (mod_here : Int32) (mod_fault : Int32) (mod_suits : Int32) (mod_doneMany : Int32) (mod_undoneMany : Int32) (mod_open : Int32) (mod_laid : Int32) (mod_isBoth : Int32) (mod_wished : Int32) (mod_bestMany : Int32) (mod_bestRow : Int32) (mod_ringDigits : Int32) (mod_traces : Int32) (mod_act : Nat → Int32) (mod_with : Nat → Int32) (mod_lineMany : Nat → Int32) (mod_testEnd : Nat → Int32) (mod_lineEnd : Nat → Int32) (mod_facts : Nat → Int32) (mod_pile : Nat → Int32) : va_W := [((ad 41), .inr (12, [.int mod_code, .int mod_shoes, .ref (ad 42), .ref (ad 43), .ref (ad 44), .ref (ad 45), .int mod_claims, .ref (ad 46), .ref (ad 47), .ref (ad 48), .ref (ad 49), .ref (ad 50), .int mod_taped, .int mod_here, .int mod_fault, .int mod_suits, .ref (ad 51), .ref (ad 52), .ref (ad 53), .ref (ad 54), .ref (ad 55), .ref (ad 56), .ref (ad 57), .ref (ad 58), .ref (ad 59), .ref (ad 60), .ref (ad 61), .int mod_doneMany, .int mod_undoneMany, .ref (ad 62), .ref (ad 63), .ref (ad 64), .ref (ad 65), .int mod_open, .int mod_laid, .ref (ad 66), .ref (ad 67), .ref (ad 68), .ref (ad 69), .ref (ad 70), .ref (ad 71), .ref (ad 72), .ref (ad 73), .ref (ad 74), .ref (ad 75), .int mod_isBoth, .int mod_wished, .ref (ad 76), .ref (ad 77), .int mod_bestMany, .int mod_bestRow, .ref (ad 78), .ref (ad 79), .int mod_ringDigits, .int mod_traces, .ref (ad 80), .ref (ad 81), .ref (ad 82), .ref (ad 83), .ref (ad 84)])), ((ad 66), .inl (cs 2, 4290, .inl mod_act)), ((ad 67), .inl (cs 0, 4290, .inl mod_with)), ((ad 68), .inl (cs 0, 33, .inl mod_lineMany)), ((ad 69), .inl (cs 3, 2013, .inl mod_testEnd)), ((ad 70), .inl (cs 3, 2013, .inl mod_lineEnd)), ((ad 71), .inl (cs 0, 11, .inl mod_facts)), ((ad 72), .inl (cs 0, 130, .inl mod_pile))]
def Q_X12_gives (D : va_G) (cs : Nat → ClassId) (ad : Nat → Nat)  (mod_code : Int32) (mod_shoes : Int32) (mod_claims : Int32) (mod_taped : Int32) (mod_here : Int32) (mod_fault : Int32) (mod_suits : Int32) (mod_doneMany : Int32) (mod_undoneMany : Int32) (mod_open : Int32) (mod_laid : Int32) (mod_isBoth : Int32) (mod_wished : Int32) (mod_bestMany : Int32) (mod_bestRow : Int32) (mod_ringDigits : Int32) (mod_traces : Int32) (mod_act : Nat → Int32) (mod_with : Nat → Int32) (mod_lineMany : Nat → Int32) (mod_testEnd : Nat → Int32) (mod_lineEnd : Nat → Int32) (mod_facts : Nat → Int32) (A : Nat → Prop) (R : Int32 × (Nat → Int32)) : Array Value → State → Outcome → State → Prop :=
  va_Qi (fun (r : Int32) (u : (Nat → Int32)) => (r, u) = R) (fun (u : (Nat → Int32)) (t : State) => va_P D classes (wl_X12_gives ad cs mod_code mod_shoes mod_claims mod_taped mod_here mod_fault mod_suits mod_doneMany mod_undoneMany mod_open mod_laid mod_isBoth mod_wished mod_bestMany mod_bestRow mod_ringDigits mod_traces mod_act mod_with mod_lineMany mod_testEnd mod_lineEnd mod_facts u) t.heap ∧ va_D A (wl_X12_gives ad cs mod_code mod_shoes mod_claims mod_taped mod_here mod_fault mod_suits mod_doneMany mod_undoneMany mod_open mod_laid mod_isBoth mod_wished mod_bestMany mod_bestRow mod_ringDigits mod_traces mod_act mod_with mod_lineMany mod_testEnd mod_lineEnd mod_facts u)) A
abbrev rm_X12_gives : Room := { frames := 2, cells := 0, slots := 0, locals := 48 }
theorem g_X12_299 : GoodIn zW (wsV RX12 299 RX12 yX12_worked z_X12_worked) := zGV kw_1685 kw_1687 kw_47 kw_95 kw_1688
theorem hd_X12_worked : yX12_worked.cls ≠ "java/lang/invoke/MethodHandle" ∧ yX12_worked.cls ≠ "java/lang/invoke/VarHandle" ∧ (parseMethodDescriptor yX12_worked.desc).map (fun d => d.parameters.length) = some 3 := by decide +kernel
def B_X12_gives_47   (g7 : Int32 → Int32 → Int32 → (Nat → Int32) → (Option (Int32 × (Nat → Int32)))) (mod_code : Int32) (mod_shoes : Int32) (mod_claims : Int32) (mod_taped : Int32) (mod_here : Int32) (mod_fault : Int32) (mod_suits : Int32) (mod_doneMany : Int32) (mod_undoneMany : Int32) (mod_open : Int32) (mod_laid : Int32) (mod_isBoth : Int32) (mod_wished : Int32) (mod_bestMany : Int32) (mod_bestRow : Int32) (mod_ringDigits : Int32) (mod_traces : Int32) (mod_act : Nat → Int32) (mod_with : Nat → Int32) (mod_lineMany : Nat → Int32) (mod_testEnd : Nat → Int32) (mod_lineEnd : Nat → Int32) (mod_facts : Nat → Int32) (x1 : Int32) (x3 : Int32) (mod_pile : Nat → Int32) : Option (Int32 × (Nat → Int32)) :=
  (if (x3 < 0 ∨ 2013 ≤ x3.toNatClampNeg) then none else (if (x3 < 0 ∨ 2013 ≤ x3.toNatClampNeg) then none else (zk_b2 (f_X12_worked 100000 x1 (mod_testEnd x3.toNatClampNeg) (mod_lineEnd x3.toNatClampNeg) mod_code mod_shoes mod_claims mod_taped mod_here mod_fault mod_suits mod_doneMany mod_undoneMany mod_open mod_laid mod_isBoth mod_wished mod_bestMany mod_bestRow mod_ringDigits mod_traces mod_act mod_with mod_facts mod_pile) (fun r_16 u_17 => (some (r_16, u_17))))))
def B_X12_gives_7   (g7 : Int32 → Int32 → Int32 → (Nat → Int32) → (Option (Int32 × (Nat → Int32)))) (mod_code : Int32) (mod_shoes : Int32) (mod_claims : Int32) (mod_taped : Int32) (mod_here : Int32) (mod_fault : Int32) (mod_suits : Int32) (mod_doneMany : Int32) (mod_undoneMany : Int32) (mod_open : Int32) (mod_laid : Int32) (mod_isBoth : Int32) (mod_wished : Int32) (mod_bestMany : Int32) (mod_bestRow : Int32) (mod_ringDigits : Int32) (mod_traces : Int32) (mod_act : Nat → Int32) (mod_with : Nat → Int32) (mod_lineMany : Nat → Int32) (mod_testEnd : Nat → Int32) (mod_lineEnd : Nat → Int32) (mod_facts : Nat → Int32) (x1 : Int32) (x2 : Int32) (x3 : Int32) (mod_pile : Nat → Int32) : Option (Int32 × (Nat → Int32)) :=
  (if (x1 < 0 ∨ 33 ≤ x1.toNatClampNeg) then none else (if (((61 : Int32) * x1) + (mod_lineMany x1.toNatClampNeg)) ≤ x3 then (some ((0 : Int32), mod_pile)) else (if (x3 < 0 ∨ 2013 ≤ x3.toNatClampNeg) then none else (if (mod_testEnd x3.toNatClampNeg) = x2 then (B_X12_gives_47 g7 mod_code mod_shoes mod_claims mod_taped mod_here mod_fault mod_suits mod_doneMany mod_undoneMany mod_open mod_laid mod_isBoth mod_wished mod_bestMany mod_bestRow mod_ringDigits mod_traces mod_act mod_with mod_lineMany mod_testEnd mod_lineEnd mod_facts x1 x3 mod_pile) else (if (x3 < 0 ∨ 2013 ≤ x3.toNatClampNeg) then none else (zk_b2 (f_X12_worked 100000 x1 x2 (mod_testEnd x3.toNatClampNeg) mod_code mod_shoes mod_claims mod_taped mod_here mod_fault mod_suits mod_doneMany mod_undoneMany mod_open mod_laid mod_isBoth mod_wished mod_bestMany mod_bestRow mod_ringDigits mod_traces mod_act mod_with mod_facts mod_pile) (fun r_7 u_8 => (if r_7 = 0 then (if (x3 < 0 ∨ 2013 ≤ x3.toNatClampNeg) then none else (zk_let (mod_lineEnd x3.toNatClampNeg) (fun v_12 => (zk_let (x3 + (1 : Int32)) (fun v_13 => (g7 x1 v_12 v_13 u_8)))))) else (B_X12_gives_47 g7 mod_code mod_shoes mod_claims mod_taped mod_here mod_fault mod_suits mod_doneMany mod_undoneMany mod_open mod_laid mod_isBoth mod_wished mod_bestMany mod_bestRow mod_ringDigits mod_traces mod_act mod_with mod_lineMany mod_testEnd mod_lineEnd mod_facts x1 x3 u_8)))))))))
def B_X12_gives_0   (g7 : Int32 → Int32 → Int32 → (Nat → Int32) → (Option (Int32 × (Nat → Int32)))) (mod_code : Int32) (mod_shoes : Int32) (mod_claims : Int32) (mod_taped : Int32) (mod_here : Int32) (mod_fault : Int32) (mod_suits : Int32) (mod_doneMany : Int32) (mod_undoneMany : Int32) (mod_open : Int32) (mod_laid : Int32) (mod_isBoth : Int32) (mod_wished : Int32) (mod_bestMany : Int32) (mod_bestRow : Int32) (mod_ringDigits : Int32) (mod_traces : Int32) (mod_act : Nat → Int32) (mod_with : Nat → Int32) (mod_lineMany : Nat → Int32) (mod_testEnd : Nat → Int32) (mod_lineEnd : Nat → Int32) (mod_facts : Nat → Int32) (x1 : Int32) (mod_pile : Nat → Int32) : Option (Int32 × (Nat → Int32)) :=
  (zk_let ((61 : Int32) * x1) (fun v_1 => (g7 x1 (0 : Int32) v_1 mod_pile)))
def G_X12_gives   (mod_code : Int32) (mod_shoes : Int32) (mod_claims : Int32) (mod_taped : Int32) (mod_here : Int32) (mod_fault : Int32) (mod_suits : Int32) (mod_doneMany : Int32) (mod_undoneMany : Int32) (mod_open : Int32) (mod_laid : Int32) (mod_isBoth : Int32) (mod_wished : Int32) (mod_bestMany : Int32) (mod_bestRow : Int32) (mod_ringDigits : Int32) (mod_traces : Int32) (mod_act : Nat → Int32) (mod_with : Nat → Int32) (mod_lineMany : Nat → Int32) (mod_testEnd : Nat → Int32) (mod_lineEnd : Nat → Int32) (mod_facts : Nat → Int32) (n : Nat) : (Int32 → Int32 → Int32 → (Nat → Int32) → (Option (Int32 × (Nat → Int32)))) :=
  Nat.rec (motive := fun _ => (Int32 → Int32 → Int32 → (Nat → Int32) → (Option (Int32 × (Nat → Int32))))) ((fun _ _ _ _ => none)) (fun _ ih => (B_X12_gives_7   ih mod_code mod_shoes mod_claims mod_taped mod_here mod_fault mod_suits mod_doneMany mod_undoneMany mod_open mod_laid mod_isBoth mod_wished mod_bestMany mod_bestRow mod_ringDigits mod_traces mod_act mod_with mod_lineMany mod_testEnd mod_lineEnd mod_facts)) n
def f_X12_gives   (n : Nat) (x1 : Int32) (mod_code : Int32) (mod_shoes : Int32) (mod_claims : Int32) (mod_taped : Int32) (mod_here : Int32) (mod_fault : Int32) (mod_suits : Int32) (mod_doneMany : Int32) (mod_undoneMany : Int32) (mod_open : Int32) (mod_laid : Int32) (mod_isBoth : Int32) (mod_wished : Int32) (mod_bestMany : Int32) (mod_bestRow : Int32) (mod_ringDigits : Int32) (mod_traces : Int32) (mod_act : Nat → Int32) (mod_with : Nat → Int32) (mod_lineMany : Nat → Int32) (mod_testEnd : Nat → Int32) (mod_lineEnd : Nat → Int32) (mod_facts : Nat → Int32) (mod_pile : Nat → Int32) : Option (Int32 × (Nat → Int32)) := B_X12_gives_0   ((G_X12_gives   mod_code mod_shoes mod_claims mod_taped mod_here mod_fault mod_suits mod_doneMany mod_undoneMany mod_open mod_laid mod_isBoth mod_wished mod_bestMany mod_bestRow mod_ringDigits mod_traces mod_act mod_with mod_lineMany mod_testEnd mod_lineEnd mod_facts n)) mod_code mod_shoes mod_claims mod_taped mod_here mod_fault mod_suits mod_doneMany mod_undoneMany mod_open mod_laid mod_isBoth mod_wished mod_bestMany mod_bestRow mod_ringDigits mod_traces mod_act mod_with mod_lineMany mod_testEnd mod_lineEnd mod_facts x1 mod_pile
set_option maxHeartbeats 4000000 in
set_option maxRecDepth 100000 in
theorem L_X12_gives_47 {p : Program} {l : Launch} {e : Env} {s : State} {m : MethodId} {args : Array Value} {below : List Frame} {meth : Method} {c : Code} {A : Nat → Prop} {D : va_G} {cs : Nat → ClassId} {ad : Nat → Nat} {mod_code : Int32} {mod_shoes : Int32} {mod_claims : Int32} {mod_taped : Int32} {mod_here : Int32} {mod_fault : Int32} {mod_suits : Int32} {mod_doneMany : Int32} {mod_undoneMany : Int32} {mod_open : Int32} {mod_laid : Int32} {mod_isBoth : Int32} {mod_wished : Int32} {mod_bestMany : Int32} {mod_bestRow : Int32} {mod_ringDigits : Int32} {mod_traces : Int32} {mod_act : Nat → Int32} {mod_with : Nat → Int32} {mod_lineMany : Nat → Int32} {mod_testEnd : Nat → Int32} {mod_lineEnd : Nat → Int32} {mod_facts : Nat → Int32} {R : Int32 × (Nat → Int32)} {g7 : Int32 → Int32 → Int32 → (Nat → Int32) → (Option (Int32 × (Nat → Int32)))} (C0 : zC p s m args meth c cX12_gives 4 (some .int) RX12 zW) (hK : va_K D classes (zT cs) s) (hA : ∀ q : Nat, s.heap.size ≤ q → A q) (ih7 : ∀ (x1 : Int32) (x2 : Int32) (x3 : Int32) (mod_pile : Nat → Int32) (h : g7 x1 x2 x3 mod_pile = some R) (H : Heap) (locs : List Loc) (ls : Array Slot) (hP : va_P D classes (wl_X12_gives ad cs mod_code mod_shoes mod_claims mod_taped mod_here mod_fault mod_suits mod_doneMany mod_undoneMany mod_open mod_laid mod_isBoth mod_wished mod_bestMany mod_bestRow mod_ringDigits mod_traces mod_act mod_with mod_lineMany mod_testEnd mod_lineEnd mod_facts mod_pile) H) (hD : va_D A (wl_X12_gives ad cs mod_code mod_shoes mod_claims mod_taped mod_here mod_fault mod_suits mod_doneMany mod_undoneMany mod_open mod_laid mod_isBoth mod_wished mod_bestMany mod_bestRow mod_ringDigits mod_traces mod_act mod_with mod_lineMany mod_testEnd mod_lineEnd mod_facts mod_pile)) (hS : va_S A s.heap H locs) (hl : lv_has ls 4 [(0, .ref (ad 41)), (1, .int x1), (2, .int x2), (3, .int x3)]), W p l e rm_X12_gives s m args below meth c H locs 0 0 (MQ below (Q_X12_gives D cs ad mod_code mod_shoes mod_claims mod_taped mod_here mod_fault mod_suits mod_doneMany mod_undoneMany mod_open mod_laid mod_isBoth mod_wished mod_bestMany mod_bestRow mod_ringDigits mod_traces mod_act mod_with mod_lineMany mod_testEnd mod_lineEnd mod_facts A R) args s 0 0 A) (F0 m 7 ls [])) (x1 : Int32) (x3 : Int32) (mod_pile : Nat → Int32) (h : B_X12_gives_47 g7 mod_code mod_shoes mod_claims mod_taped mod_here mod_fault mod_suits mod_doneMany mod_undoneMany mod_open mod_laid mod_isBoth mod_wished mod_bestMany mod_bestRow mod_ringDigits mod_traces mod_act mod_with mod_lineMany mod_testEnd mod_lineEnd mod_facts x1 x3 mod_pile = some R) (H : Heap) (locs : List Loc) (ls : Array Slot) (hP : va_P D classes (wl_X12_gives ad cs mod_code mod_shoes mod_claims mod_taped mod_here mod_fault mod_suits mod_doneMany mod_undoneMany mod_open mod_laid mod_isBoth mod_wished mod_bestMany mod_bestRow mod_ringDigits mod_traces mod_act mod_with mod_lineMany mod_testEnd mod_lineEnd mod_facts mod_pile) H) (hD : va_D A (wl_X12_gives ad cs mod_code mod_shoes mod_claims mod_taped mod_here mod_fault mod_suits mod_doneMany mod_undoneMany mod_open mod_laid mod_isBoth mod_wished mod_bestMany mod_bestRow mod_ringDigits mod_traces mod_act mod_with mod_lineMany mod_testEnd mod_lineEnd mod_facts mod_pile)) (hS : va_S A s.heap H locs) (hl : lv_has ls 4 [(0, .ref (ad 41)), (1, .int x1), (3, .int x3)]) : W p l e rm_X12_gives s m args below meth c H locs 0 0 (MQ below (Q_X12_gives D cs ad mod_code mod_shoes mod_claims mod_taped mod_here mod_fault mod_suits mod_doneMany mod_undoneMany mod_open mod_laid mod_isBoth mod_wished mod_bestMany mod_bestRow mod_ringDigits mod_traces mod_act mod_with mod_lineMany mod_testEnd mod_lineEnd mod_facts A R) args s 0 0 A) (F0 m 47 ls []) := by
  obtain ⟨hx, hb, hr, hml, hown, ht, hlocks⟩ := id C0
  refine lv_aload_n hx hb dX12_gives_47 rfl (lv_at hl 0 rfl) ?_
  refine lv_iload_n hx hb dX12_gives_48 rfl (lv_at hl 1 rfl) ?_
  refine lv_aload_n hx hb dX12_gives_49 rfl (lv_at hl 0 rfl) ?_
  refine va_get (D := D) (ci := 12) (v := .ref (ad 69)) (C := RX12) (T := TX12) (N := 60) hx hb ht iX12 hown hK hP 0 rfl rfl 38 (by decide) (ht _ kw_1333) (fun _ h9 => h9) rfl dX12_gives_50 ?_
  refine lv_iload_n hx hb dX12_gives_53 rfl (lv_at hl 2 rfl) ?_
  obtain ⟨g_14, h⟩ := zk_gd h
  refine va_sald hx hb hK hP 4 3 rfl rfl g_14 dX12_gives_54 ?_
  refine lv_aload_n hx hb dX12_gives_55 rfl (lv_at hl 0 rfl) ?_
  refine va_get (D := D) (ci := 12) (v := .ref (ad 70)) (C := RX12) (T := TX12) (N := 60) hx hb ht iX12 hown hK hP 0 rfl rfl 39 (by decide) (ht _ kw_1334) (fun _ h9 => h9) rfl dX12_gives_56 ?_
  refine lv_iload_n hx hb dX12_gives_59 rfl (lv_at hl 2 rfl) ?_
  obtain ⟨g_15, h⟩ := zk_gd h
  refine va_sald hx hb hK hP 5 3 rfl rfl g_15 dX12_gives_60 ?_
  obtain ⟨r_16, u_17, hc_18, h⟩ := zk_o2 h
  refine zz_vi (post := (fun r u => (r, u) = (r_16, u_17))) (w1 := fun u => (wl_X12_worked ad cs mod_code mod_shoes mod_claims mod_taped mod_here mod_fault mod_suits mod_doneMany mod_undoneMany mod_open mod_laid mod_isBoth mod_wished mod_bestMany mod_bestRow mod_ringDigits mod_traces mod_act mod_with mod_facts u)) (As := [.int x1, .int (mod_testEnd x3.toNatClampNeg), .int (mod_lineEnd x3.toNatClampNeg)]) (rest := []) (c_X12_worked l D cs ad  H.size 100000 x1 (mod_testEnd x3.toNatClampNeg) (mod_lineEnd x3.toNatClampNeg) mod_code mod_shoes mod_claims mod_taped mod_here mod_fault mod_suits mod_doneMany mod_undoneMany mod_open mod_laid mod_isBoth mod_wished mod_bestMany mod_bestRow mod_ringDigits mod_traces mod_act mod_with mod_facts mod_pile (r_16, u_17) hc_18) ⟨hx, hb, hml, hown, ht⟩ (cwV 3 ht g_X12_299 rfl rfl rfl ⟨rfl, hd_X12_worked⟩ ⟨Nat.le_of_ble_eq_true rfl, Nat.le_of_ble_eq_true rfl⟩) (va_recv hK hP (ci := 12) (q0 := 0) rfl rfl) hP hD hS hK hA [0, 1, 2, 6, 7] rfl rfl [(ad 41), (ad 66), (ad 67), (ad 71), (ad 72)] rfl (fun _ => rfl) rfl hl.1 (Nat.le_of_ble_eq_true rfl) dX12_gives_61 ⟨Nat.zero_le _, Nat.zero_le _⟩ (fun r u H locs hq hP hS => ?_)
  cases hq
  have hP : va_P D classes (wl_X12_gives ad cs mod_code mod_shoes mod_claims mod_taped mod_here mod_fault mod_suits mod_doneMany mod_undoneMany mod_open mod_laid mod_isBoth mod_wished mod_bestMany mod_bestRow mod_ringDigits mod_traces mod_act mod_with mod_lineMany mod_testEnd mod_lineEnd mod_facts u_17) H := hP
  have hD : va_D A (wl_X12_gives ad cs mod_code mod_shoes mod_claims mod_taped mod_here mod_fault mod_suits mod_doneMany mod_undoneMany mod_open mod_laid mod_isBoth mod_wished mod_bestMany mod_bestRow mod_ringDigits mod_traces mod_act mod_with mod_lineMany mod_testEnd mod_lineEnd mod_facts u_17) := zDk hD [(ad 41), (ad 66), (ad 67), (ad 68), (ad 69), (ad 70), (ad 71), (ad 72)] rfl rfl
  exact W.iret (v := r_16) hx hb hr (fun t ht2 hW => ⟨⟨r_16, u_17, rfl, Option.some.inj h, by rw [ht2]; exact hP, hD⟩, hS.F ht2⟩) hS.2.2 dX12_gives_64 hlocks
set_option maxHeartbeats 4000000 in
set_option maxRecDepth 100000 in
theorem L_X12_gives_7 {p : Program} {l : Launch} {e : Env} {s : State} {m : MethodId} {args : Array Value} {below : List Frame} {meth : Method} {c : Code} {A : Nat → Prop} {D : va_G} {cs : Nat → ClassId} {ad : Nat → Nat} {mod_code : Int32} {mod_shoes : Int32} {mod_claims : Int32} {mod_taped : Int32} {mod_here : Int32} {mod_fault : Int32} {mod_suits : Int32} {mod_doneMany : Int32} {mod_undoneMany : Int32} {mod_open : Int32} {mod_laid : Int32} {mod_isBoth : Int32} {mod_wished : Int32} {mod_bestMany : Int32} {mod_bestRow : Int32} {mod_ringDigits : Int32} {mod_traces : Int32} {mod_act : Nat → Int32} {mod_with : Nat → Int32} {mod_lineMany : Nat → Int32} {mod_testEnd : Nat → Int32} {mod_lineEnd : Nat → Int32} {mod_facts : Nat → Int32} {R : Int32 × (Nat → Int32)} {g7 : Int32 → Int32 → Int32 → (Nat → Int32) → (Option (Int32 × (Nat → Int32)))} (C0 : zC p s m args meth c cX12_gives 4 (some .int) RX12 zW) (hK : va_K D classes (zT cs) s) (hA : ∀ q : Nat, s.heap.size ≤ q → A q) (ih7 : ∀ (x1 : Int32) (x2 : Int32) (x3 : Int32) (mod_pile : Nat → Int32) (h : g7 x1 x2 x3 mod_pile = some R) (H : Heap) (locs : List Loc) (ls : Array Slot) (hP : va_P D classes (wl_X12_gives ad cs mod_code mod_shoes mod_claims mod_taped mod_here mod_fault mod_suits mod_doneMany mod_undoneMany mod_open mod_laid mod_isBoth mod_wished mod_bestMany mod_bestRow mod_ringDigits mod_traces mod_act mod_with mod_lineMany mod_testEnd mod_lineEnd mod_facts mod_pile) H) (hD : va_D A (wl_X12_gives ad cs mod_code mod_shoes mod_claims mod_taped mod_here mod_fault mod_suits mod_doneMany mod_undoneMany mod_open mod_laid mod_isBoth mod_wished mod_bestMany mod_bestRow mod_ringDigits mod_traces mod_act mod_with mod_lineMany mod_testEnd mod_lineEnd mod_facts mod_pile)) (hS : va_S A s.heap H locs) (hl : lv_has ls 4 [(0, .ref (ad 41)), (1, .int x1), (2, .int x2), (3, .int x3)]), W p l e rm_X12_gives s m args below meth c H locs 0 0 (MQ below (Q_X12_gives D cs ad mod_code mod_shoes mod_claims mod_taped mod_here mod_fault mod_suits mod_doneMany mod_undoneMany mod_open mod_laid mod_isBoth mod_wished mod_bestMany mod_bestRow mod_ringDigits mod_traces mod_act mod_with mod_lineMany mod_testEnd mod_lineEnd mod_facts A R) args s 0 0 A) (F0 m 7 ls [])) (x1 : Int32) (x2 : Int32) (x3 : Int32) (mod_pile : Nat → Int32) (h : B_X12_gives_7 g7 mod_code mod_shoes mod_claims mod_taped mod_here mod_fault mod_suits mod_doneMany mod_undoneMany mod_open mod_laid mod_isBoth mod_wished mod_bestMany mod_bestRow mod_ringDigits mod_traces mod_act mod_with mod_lineMany mod_testEnd mod_lineEnd mod_facts x1 x2 x3 mod_pile = some R) (H : Heap) (locs : List Loc) (ls : Array Slot) (hP : va_P D classes (wl_X12_gives ad cs mod_code mod_shoes mod_claims mod_taped mod_here mod_fault mod_suits mod_doneMany mod_undoneMany mod_open mod_laid mod_isBoth mod_wished mod_bestMany mod_bestRow mod_ringDigits mod_traces mod_act mod_with mod_lineMany mod_testEnd mod_lineEnd mod_facts mod_pile) H) (hD : va_D A (wl_X12_gives ad cs mod_code mod_shoes mod_claims mod_taped mod_here mod_fault mod_suits mod_doneMany mod_undoneMany mod_open mod_laid mod_isBoth mod_wished mod_bestMany mod_bestRow mod_ringDigits mod_traces mod_act mod_with mod_lineMany mod_testEnd mod_lineEnd mod_facts mod_pile)) (hS : va_S A s.heap H locs) (hl : lv_has ls 4 [(0, .ref (ad 41)), (1, .int x1), (2, .int x2), (3, .int x3)]) : W p l e rm_X12_gives s m args below meth c H locs 0 0 (MQ below (Q_X12_gives D cs ad mod_code mod_shoes mod_claims mod_taped mod_here mod_fault mod_suits mod_doneMany mod_undoneMany mod_open mod_laid mod_isBoth mod_wished mod_bestMany mod_bestRow mod_ringDigits mod_traces mod_act mod_with mod_lineMany mod_testEnd mod_lineEnd mod_facts A R) args s 0 0 A) (F0 m 7 ls []) := by
  obtain ⟨hx, hb, hr, hml, hown, ht, hlocks⟩ := id C0
  refine lv_iload_n hx hb dX12_gives_7 rfl (lv_at hl 3 rfl) ?_
  refine lv_bipush (v := (61 : Int32)) hx hb dX12_gives_8 (by decide) ?_
  refine lv_iload_n hx hb dX12_gives_10 rfl (lv_at hl 1 rfl) ?_
  refine lv_imul hx hb dX12_gives_11 ?_
  refine lv_aload_n hx hb dX12_gives_12 rfl (lv_at hl 0 rfl) ?_
  refine va_get (D := D) (ci := 12) (v := .ref (ad 68)) (C := RX12) (T := TX12) (N := 60) hx hb ht iX12 hown hK hP 0 rfl rfl 37 (by decide) (ht _ kw_1332) (fun _ h9 => h9) rfl dX12_gives_13 ?_
  refine lv_iload_n hx hb dX12_gives_16 rfl (lv_at hl 1 rfl) ?_
  obtain ⟨g_2, h⟩ := zk_gd h
  refine va_iald hx hb hK hP 3 0 rfl rfl g_2 dX12_gives_17 ?_
  refine lv_iadd hx hb dX12_gives_18 ?_
  refine lv_icmp_ge (tgt := 78) hx hb dX12_gives_19 (by decide) (fun c_3 => ?_) (fun c_3 => ?_)
  · have h := zk_t c_3 h
    refine lv_iconst (v := (0 : Int32)) hx hb dX12_gives_78 (by decide) ?_
    exact W.iret (v := (0 : Int32)) hx hb hr (fun t ht2 hW => ⟨⟨(0 : Int32), mod_pile, rfl, Option.some.inj h, by rw [ht2]; exact hP, hD⟩, hS.F ht2⟩) hS.2.2 dX12_gives_79 hlocks
  · have h := zk_f c_3 h
    refine lv_aload_n hx hb dX12_gives_22 rfl (lv_at hl 0 rfl) ?_
    refine va_get (D := D) (ci := 12) (v := .ref (ad 69)) (C := RX12) (T := TX12) (N := 60) hx hb ht iX12 hown hK hP 0 rfl rfl 38 (by decide) (ht _ kw_1333) (fun _ h9 => h9) rfl dX12_gives_23 ?_
    refine lv_iload_n hx hb dX12_gives_26 rfl (lv_at hl 3 rfl) ?_
    obtain ⟨g_4, h⟩ := zk_gd h
    refine va_sald hx hb hK hP 4 3 rfl rfl g_4 dX12_gives_27 ?_
    refine lv_iload_n hx hb dX12_gives_28 rfl (lv_at hl 2 rfl) ?_
    refine lv_icmp_eq (tgt := 47) hx hb dX12_gives_29 (by decide) (fun c_5 => ?_) (fun c_5 => ?_)
    · have h := zk_t c_5 h
      exact L_X12_gives_47 C0 hK hA  ih7 x1 x3 mod_pile h H locs ls hP hD hS (lv_sub hl [0, 1, 3] rfl)
    · have h := zk_f c_5 h
      refine lv_aload_n hx hb dX12_gives_32 rfl (lv_at hl 0 rfl) ?_
      refine lv_iload_n hx hb dX12_gives_33 rfl (lv_at hl 1 rfl) ?_
      refine lv_iload_n hx hb dX12_gives_34 rfl (lv_at hl 2 rfl) ?_
      refine lv_aload_n hx hb dX12_gives_35 rfl (lv_at hl 0 rfl) ?_
      refine va_get (D := D) (ci := 12) (v := .ref (ad 69)) (C := RX12) (T := TX12) (N := 60) hx hb ht iX12 hown hK hP 0 rfl rfl 38 (by decide) (ht _ kw_1333) (fun _ h9 => h9) rfl dX12_gives_36 ?_
      refine lv_iload_n hx hb dX12_gives_39 rfl (lv_at hl 3 rfl) ?_
      obtain ⟨g_6, h⟩ := zk_gd h
      refine va_sald hx hb hK hP 4 3 rfl rfl g_6 dX12_gives_40 ?_
      obtain ⟨r_7, u_8, hc_9, h⟩ := zk_o2 h
      refine zz_vi (post := (fun r u => (r, u) = (r_7, u_8))) (w1 := fun u => (wl_X12_worked ad cs mod_code mod_shoes mod_claims mod_taped mod_here mod_fault mod_suits mod_doneMany mod_undoneMany mod_open mod_laid mod_isBoth mod_wished mod_bestMany mod_bestRow mod_ringDigits mod_traces mod_act mod_with mod_facts u)) (As := [.int x1, .int x2, .int (mod_testEnd x3.toNatClampNeg)]) (rest := []) (c_X12_worked l D cs ad  H.size 100000 x1 x2 (mod_testEnd x3.toNatClampNeg) mod_code mod_shoes mod_claims mod_taped mod_here mod_fault mod_suits mod_doneMany mod_undoneMany mod_open mod_laid mod_isBoth mod_wished mod_bestMany mod_bestRow mod_ringDigits mod_traces mod_act mod_with mod_facts mod_pile (r_7, u_8) hc_9) ⟨hx, hb, hml, hown, ht⟩ (cwV 3 ht g_X12_299 rfl rfl rfl ⟨rfl, hd_X12_worked⟩ ⟨Nat.le_of_ble_eq_true rfl, Nat.le_of_ble_eq_true rfl⟩) (va_recv hK hP (ci := 12) (q0 := 0) rfl rfl) hP hD hS hK hA [0, 1, 2, 6, 7] rfl rfl [(ad 41), (ad 66), (ad 67), (ad 71), (ad 72)] rfl (fun _ => rfl) rfl hl.1 (Nat.le_of_ble_eq_true rfl) dX12_gives_41 ⟨Nat.zero_le _, Nat.zero_le _⟩ (fun r u H locs hq hP hS => ?_)
      cases hq
      have hP : va_P D classes (wl_X12_gives ad cs mod_code mod_shoes mod_claims mod_taped mod_here mod_fault mod_suits mod_doneMany mod_undoneMany mod_open mod_laid mod_isBoth mod_wished mod_bestMany mod_bestRow mod_ringDigits mod_traces mod_act mod_with mod_lineMany mod_testEnd mod_lineEnd mod_facts u_8) H := hP
      have hD : va_D A (wl_X12_gives ad cs mod_code mod_shoes mod_claims mod_taped mod_here mod_fault mod_suits mod_doneMany mod_undoneMany mod_open mod_laid mod_isBoth mod_wished mod_bestMany mod_bestRow mod_ringDigits mod_traces mod_act mod_with mod_lineMany mod_testEnd mod_lineEnd mod_facts u_8) := zDk hD [(ad 41), (ad 66), (ad 67), (ad 68), (ad 69), (ad 70), (ad 71), (ad 72)] rfl rfl
      refine lv_if_eq (tgt := 65) hx hb dX12_gives_44 (by decide) (fun c_10 => ?_) (fun c_10 => ?_)
      · have h := zk_t c_10 h
        refine lv_aload_n hx hb dX12_gives_65 rfl (lv_at hl 0 rfl) ?_
        refine va_get (D := D) (ci := 12) (v := .ref (ad 70)) (C := RX12) (T := TX12) (N := 60) hx hb ht iX12 hown hK hP 0 rfl rfl 39 (by decide) (ht _ kw_1334) (fun _ h9 => h9) rfl dX12_gives_66 ?_
        refine lv_iload_n hx hb dX12_gives_69 rfl (lv_at hl 3 rfl) ?_
        obtain ⟨g_11, h⟩ := zk_gd h
        refine va_sald hx hb hK hP 5 3 rfl rfl g_11 dX12_gives_70 ?_
        obtain ⟨v_12, ev_12, h⟩ := zk_lt h
        refine W.eq (g2 := F0 m 71 ls [.int v_12]) (by rw [ev_12]) ?_
        refine lv_istore_n (lv' := [(2, .int v_12), (0, .ref (ad 41)), (1, .int x1), (3, .int x3)]) hx hb dX12_gives_71 rfl hl (by decide) rfl (fun ls hl => ?_)
        obtain ⟨v_13, ev_13, h⟩ := zk_lt h
        refine lv_iinc (v := v_13) (lv' := [(3, .int v_13), (2, .int v_12), (0, .ref (ad 41)), (1, .int x1)]) hx hb dX12_gives_72 hl (k := 3) rfl (by rw [ev_13]; rfl) (by decide) rfl (fun ls hl => ?_)
        refine lv_goto (tgt := 7) hx hb dX12_gives_75 (by decide) ?_
        exact ih7 x1 v_12 v_13 u_8 h H locs ls hP hD hS (lv_sub hl [2, 3, 1, 0] rfl)
      · have h := zk_f c_10 h
        exact L_X12_gives_47 C0 hK hA  ih7 x1 x3 u_8 h H locs ls hP hD hS (lv_sub hl [0, 1, 3] rfl)
set_option maxHeartbeats 4000000 in
set_option maxRecDepth 100000 in
theorem L_X12_gives_0 {p : Program} {l : Launch} {e : Env} {s : State} {m : MethodId} {args : Array Value} {below : List Frame} {meth : Method} {c : Code} {A : Nat → Prop} {D : va_G} {cs : Nat → ClassId} {ad : Nat → Nat} {mod_code : Int32} {mod_shoes : Int32} {mod_claims : Int32} {mod_taped : Int32} {mod_here : Int32} {mod_fault : Int32} {mod_suits : Int32} {mod_doneMany : Int32} {mod_undoneMany : Int32} {mod_open : Int32} {mod_laid : Int32} {mod_isBoth : Int32} {mod_wished : Int32} {mod_bestMany : Int32} {mod_bestRow : Int32} {mod_ringDigits : Int32} {mod_traces : Int32} {mod_act : Nat → Int32} {mod_with : Nat → Int32} {mod_lineMany : Nat → Int32} {mod_testEnd : Nat → Int32} {mod_lineEnd : Nat → Int32} {mod_facts : Nat → Int32} {R : Int32 × (Nat → Int32)} {g7 : Int32 → Int32 → Int32 → (Nat → Int32) → (Option (Int32 × (Nat → Int32)))} (C0 : zC p s m args meth c cX12_gives 4 (some .int) RX12 zW) (hK : va_K D classes (zT cs) s) (hA : ∀ q : Nat, s.heap.size ≤ q → A q) (ih7 : ∀ (x1 : Int32) (x2 : Int32) (x3 : Int32) (mod_pile : Nat → Int32) (h : g7 x1 x2 x3 mod_pile = some R) (H : Heap) (locs : List Loc) (ls : Array Slot) (hP : va_P D classes (wl_X12_gives ad cs mod_code mod_shoes mod_claims mod_taped mod_here mod_fault mod_suits mod_doneMany mod_undoneMany mod_open mod_laid mod_isBoth mod_wished mod_bestMany mod_bestRow mod_ringDigits mod_traces mod_act mod_with mod_lineMany mod_testEnd mod_lineEnd mod_facts mod_pile) H) (hD : va_D A (wl_X12_gives ad cs mod_code mod_shoes mod_claims mod_taped mod_here mod_fault mod_suits mod_doneMany mod_undoneMany mod_open mod_laid mod_isBoth mod_wished mod_bestMany mod_bestRow mod_ringDigits mod_traces mod_act mod_with mod_lineMany mod_testEnd mod_lineEnd mod_facts mod_pile)) (hS : va_S A s.heap H locs) (hl : lv_has ls 4 [(0, .ref (ad 41)), (1, .int x1), (2, .int x2), (3, .int x3)]), W p l e rm_X12_gives s m args below meth c H locs 0 0 (MQ below (Q_X12_gives D cs ad mod_code mod_shoes mod_claims mod_taped mod_here mod_fault mod_suits mod_doneMany mod_undoneMany mod_open mod_laid mod_isBoth mod_wished mod_bestMany mod_bestRow mod_ringDigits mod_traces mod_act mod_with mod_lineMany mod_testEnd mod_lineEnd mod_facts A R) args s 0 0 A) (F0 m 7 ls [])) (x1 : Int32) (mod_pile : Nat → Int32) (h : B_X12_gives_0 g7 mod_code mod_shoes mod_claims mod_taped mod_here mod_fault mod_suits mod_doneMany mod_undoneMany mod_open mod_laid mod_isBoth mod_wished mod_bestMany mod_bestRow mod_ringDigits mod_traces mod_act mod_with mod_lineMany mod_testEnd mod_lineEnd mod_facts x1 mod_pile = some R) (H : Heap) (locs : List Loc) (ls : Array Slot) (hP : va_P D classes (wl_X12_gives ad cs mod_code mod_shoes mod_claims mod_taped mod_here mod_fault mod_suits mod_doneMany mod_undoneMany mod_open mod_laid mod_isBoth mod_wished mod_bestMany mod_bestRow mod_ringDigits mod_traces mod_act mod_with mod_lineMany mod_testEnd mod_lineEnd mod_facts mod_pile) H) (hD : va_D A (wl_X12_gives ad cs mod_code mod_shoes mod_claims mod_taped mod_here mod_fault mod_suits mod_doneMany mod_undoneMany mod_open mod_laid mod_isBoth mod_wished mod_bestMany mod_bestRow mod_ringDigits mod_traces mod_act mod_with mod_lineMany mod_testEnd mod_lineEnd mod_facts mod_pile)) (hS : va_S A s.heap H locs) (hl : lv_has ls 4 [(0, .ref (ad 41)), (1, .int x1)]) : W p l e rm_X12_gives s m args below meth c H locs 0 0 (MQ below (Q_X12_gives D cs ad mod_code mod_shoes mod_claims mod_taped mod_here mod_fault mod_suits mod_doneMany mod_undoneMany mod_open mod_laid mod_isBoth mod_wished mod_bestMany mod_bestRow mod_ringDigits mod_traces mod_act mod_with mod_lineMany mod_testEnd mod_lineEnd mod_facts A R) args s 0 0 A) (F0 m 0 ls []) := by
  obtain ⟨hx, hb, hr, hml, hown, ht, hlocks⟩ := id C0
  refine lv_iconst (v := (0 : Int32)) hx hb dX12_gives_0 (by decide) ?_
  refine lv_istore_n (lv' := [(2, .int (0 : Int32)), (0, .ref (ad 41)), (1, .int x1)]) hx hb dX12_gives_1 rfl hl (by decide) rfl (fun ls hl => ?_)
  refine lv_bipush (v := (61 : Int32)) hx hb dX12_gives_2 (by decide) ?_
  refine lv_iload_n hx hb dX12_gives_4 rfl (lv_at hl 2 rfl) ?_
  refine lv_imul hx hb dX12_gives_5 ?_
  obtain ⟨v_1, ev_1, h⟩ := zk_lt h
  refine W.eq (g2 := F0 m 6 ls [.int v_1]) (by rw [ev_1]) ?_
  refine lv_istore_n (lv' := [(3, .int v_1), (2, .int (0 : Int32)), (0, .ref (ad 41)), (1, .int x1)]) hx hb dX12_gives_6 rfl hl (by decide) rfl (fun ls hl => ?_)
  exact ih7 x1 (0 : Int32) v_1 mod_pile h H locs ls hP hD hS (lv_sub hl [2, 3, 1, 0] rfl)
theorem LG_X12_gives {p : Program} {l : Launch} {e : Env} {s : State} {m : MethodId} {args : Array Value} {below : List Frame} {meth : Method} {c : Code} {A : Nat → Prop} {D : va_G} {cs : Nat → ClassId} {ad : Nat → Nat} {mod_code : Int32} {mod_shoes : Int32} {mod_claims : Int32} {mod_taped : Int32} {mod_here : Int32} {mod_fault : Int32} {mod_suits : Int32} {mod_doneMany : Int32} {mod_undoneMany : Int32} {mod_open : Int32} {mod_laid : Int32} {mod_isBoth : Int32} {mod_wished : Int32} {mod_bestMany : Int32} {mod_bestRow : Int32} {mod_ringDigits : Int32} {mod_traces : Int32} {mod_act : Nat → Int32} {mod_with : Nat → Int32} {mod_lineMany : Nat → Int32} {mod_testEnd : Nat → Int32} {mod_lineEnd : Nat → Int32} {mod_facts : Nat → Int32} {R : Int32 × (Nat → Int32)} (C0 : zC p s m args meth c cX12_gives 4 (some .int) RX12 zW) (hK : va_K D classes (zT cs) s) (hA : ∀ q : Nat, s.heap.size ≤ q → A q) : ∀ n : Nat, (∀ (x1 : Int32) (x2 : Int32) (x3 : Int32) (mod_pile : Nat → Int32) (h : (G_X12_gives   mod_code mod_shoes mod_claims mod_taped mod_here mod_fault mod_suits mod_doneMany mod_undoneMany mod_open mod_laid mod_isBoth mod_wished mod_bestMany mod_bestRow mod_ringDigits mod_traces mod_act mod_with mod_lineMany mod_testEnd mod_lineEnd mod_facts n) x1 x2 x3 mod_pile = some R) (H : Heap) (locs : List Loc) (ls : Array Slot) (hP : va_P D classes (wl_X12_gives ad cs mod_code mod_shoes mod_claims mod_taped mod_here mod_fault mod_suits mod_doneMany mod_undoneMany mod_open mod_laid mod_isBoth mod_wished mod_bestMany mod_bestRow mod_ringDigits mod_traces mod_act mod_with mod_lineMany mod_testEnd mod_lineEnd mod_facts mod_pile) H) (hD : va_D A (wl_X12_gives ad cs mod_code mod_shoes mod_claims mod_taped mod_here mod_fault mod_suits mod_doneMany mod_undoneMany mod_open mod_laid mod_isBoth mod_wished mod_bestMany mod_bestRow mod_ringDigits mod_traces mod_act mod_with mod_lineMany mod_testEnd mod_lineEnd mod_facts mod_pile)) (hS : va_S A s.heap H locs) (hl : lv_has ls 4 [(0, .ref (ad 41)), (1, .int x1), (2, .int x2), (3, .int x3)]), W p l e rm_X12_gives s m args below meth c H locs 0 0 (MQ below (Q_X12_gives D cs ad mod_code mod_shoes mod_claims mod_taped mod_here mod_fault mod_suits mod_doneMany mod_undoneMany mod_open mod_laid mod_isBoth mod_wished mod_bestMany mod_bestRow mod_ringDigits mod_traces mod_act mod_with mod_lineMany mod_testEnd mod_lineEnd mod_facts A R) args s 0 0 A) (F0 m 7 ls [])) := by
  intro n
  induction n with
  | zero =>
    refine ?_ <;> (intros; rename_i h _ _ _ _ _ _ _; cases h)
  | succ n ih =>
    exact L_X12_gives_7 C0 hK hA  ih
set_option maxHeartbeats 4000000 in
set_option maxRecDepth 100000 in
theorem c_X12_gives (l : Launch) (D : va_G) (cs : Nat → ClassId) (ad : Nat → Nat) (sz : Nat) (n : Nat) (x1 : Int32) (mod_code : Int32) (mod_shoes : Int32) (mod_claims : Int32) (mod_taped : Int32) (mod_here : Int32) (mod_fault : Int32) (mod_suits : Int32) (mod_doneMany : Int32) (mod_undoneMany : Int32) (mod_open : Int32) (mod_laid : Int32) (mod_isBoth : Int32) (mod_wished : Int32) (mod_bestMany : Int32) (mod_bestRow : Int32) (mod_ringDigits : Int32) (mod_traces : Int32) (mod_act : Nat → Int32) (mod_with : Nat → Int32) (mod_lineMany : Nat → Int32) (mod_testEnd : Nat → Int32) (mod_lineEnd : Nat → Int32) (mod_facts : Nat → Int32) (mod_pile : Nat → Int32) (R : Int32 × (Nat → Int32)) (h : f_X12_gives   n x1 mod_code mod_shoes mod_claims mod_taped mod_here mod_fault mod_suits mod_doneMany mod_undoneMany mod_open mod_laid mod_isBoth mod_wished mod_bestMany mod_bestRow mod_ringDigits mod_traces mod_act mod_with mod_lineMany mod_testEnd mod_lineEnd mod_facts mod_pile = some R) : Met l yX12_gives (z_X12_gives) rm_X12_gives (va_Pc [.ref (ad 41), .int x1] (zPre D cs (wl_X12_gives ad cs mod_code mod_shoes mod_claims mod_taped mod_here mod_fault mod_suits mod_doneMany mod_undoneMany mod_open mod_laid mod_isBoth mod_wished mod_bestMany mod_bestRow mod_ringDigits mod_traces mod_act mod_with mod_lineMany mod_testEnd mod_lineEnd mod_facts mod_pile) sz)) (Q_X12_gives D cs ad mod_code mod_shoes mod_claims mod_taped mod_here mod_fault mod_suits mod_doneMany mod_undoneMany mod_open mod_laid mod_isBoth mod_wished mod_bestMany mod_bestRow mod_ringDigits mod_traces mod_act mod_with mod_lineMany mod_testEnd mod_lineEnd mod_facts (va_A (wl_X12_gives ad cs mod_code mod_shoes mod_claims mod_taped mod_here mod_fault mod_suits mod_doneMany mod_undoneMany mod_open mod_laid mod_isBoth mod_wished mod_bestMany mod_bestRow mod_ringDigits mod_traces mod_act mod_with mod_lineMany mod_testEnd mod_lineEnd mod_facts mod_pile) sz) R) 0 0 (va_A (wl_X12_gives ad cs mod_code mod_shoes mod_claims mod_taped mod_here mod_fault mod_suits mod_doneMany mod_undoneMany mod_open mod_laid mod_isBoth mod_wished mod_bestMany mod_bestRow mod_ringDigits mod_traces mod_act mod_with mod_lineMany mod_testEnd mod_lineEnd mod_facts mod_pile) sz) := by
  refine Met.ofW (cc := cX12_gives) (maxL := 4) (ret := (some .int)) (by decide) rfl ?_
  intro p e s m args below meth c s₁ B hml hv
  obtain ⟨rfl, hsz, hP, hK, hD0⟩ := hv
  subst hsz
  have hD := hD0.self (sz := s.heap.size)
  have C0 : zC p s m _ meth c cX12_gives 4 (some .int) RX12 zW := ⟨B.exec, B.bytes, B.returns, hml, findClass_of_methodNamed B.named, fun w hw => atoms_spec (ws := z_X12_gives) B.pre w (List.mem_cons_of_mem _ hw), B.notSynchronized⟩
  have hA : ∀ q : Nat, s.heap.size ≤ q → va_A (wl_X12_gives ad cs mod_code mod_shoes mod_claims mod_taped mod_here mod_fault mod_suits mod_doneMany mod_undoneMany mod_open mod_laid mod_isBoth mod_wished mod_bestMany mod_bestRow mod_ringDigits mod_traces mod_act mod_with mod_lineMany mod_testEnd mod_lineEnd mod_facts mod_pile) s.heap.size q := fun q h => Or.inr h
  have hl := lv_entry ([.ref (ad 41), .int x1]) (n := 4) (Nat.le_of_ble_eq_true rfl)
  rw [lg_entry_eq]
  generalize (lg_sl ([.ref (ad 41), .int x1]) ++ List.replicate (4 - (lg_sl ([.ref (ad 41), .int x1])).length) Slot.unset).toArray = ls at hl ⊢
  exact L_X12_gives_0 C0 hK hA  ((LG_X12_gives C0 hK hA  n)) x1 mod_pile h s.heap [] ls hP hD va_S.rf hl
theorem zh_cX12_clearFacts_0 : zck [3, 60, 27, 16, 11, 162, 0, 16, 42, 180, 0, 99, 27, 3, 79, 132, 1, 1, 167, 255, 240, 177] (zdu 0 cX12_clearFacts.data.toList) = true := by decide +kernel
theorem dX12_clearFacts_0 : decode cX12_clearFacts 0 = .ok (.iconst 0, 1) := zo_3 zh_cX12_clearFacts_0 0 rfl
theorem dX12_clearFacts_1 : decode cX12_clearFacts 1 = .ok (.istore_n 1, 1) := zo_60 zh_cX12_clearFacts_0 1 rfl
theorem dX12_clearFacts_2 : decode cX12_clearFacts 2 = .ok (.iload_n 1, 1) := zo_27 zh_cX12_clearFacts_0 2 rfl
theorem dX12_clearFacts_3 : decode cX12_clearFacts 3 = .ok (.bipush 11, 2) := zo_p16 zh_cX12_clearFacts_0 3 11 rfl rfl
theorem dX12_clearFacts_5 : decode cX12_clearFacts 5 = .ok (.if_icmp .ge 16, 3) := zo_p162 zh_cX12_clearFacts_0 5 16 rfl rfl
theorem dX12_clearFacts_8 : decode cX12_clearFacts 8 = .ok (.aload_n 0, 1) := zo_42 zh_cX12_clearFacts_0 8 rfl
theorem dX12_clearFacts_9 : decode cX12_clearFacts 9 = .ok (.getfield 99, 3) := zo_180 zh_cX12_clearFacts_0 9 rfl
theorem dX12_clearFacts_12 : decode cX12_clearFacts 12 = .ok (.iload_n 1, 1) := zo_27 zh_cX12_clearFacts_0 12 rfl
theorem dX12_clearFacts_13 : decode cX12_clearFacts 13 = .ok (.iconst 0, 1) := zo_3 zh_cX12_clearFacts_0 13 rfl
theorem dX12_clearFacts_14 : decode cX12_clearFacts 14 = .ok (.iastore, 1) := zo_79 zh_cX12_clearFacts_0 14 rfl
theorem dX12_clearFacts_15 : decode cX12_clearFacts 15 = .ok (.iinc 1 1, 3) := zo_p132 zh_cX12_clearFacts_0 15 1 rfl rfl
theorem dX12_clearFacts_18 : decode cX12_clearFacts 18 = .ok (.goto (-16), 3) := zo_n167 zh_cX12_clearFacts_0 18 15 rfl rfl
theorem zh_cX12_clearFacts_1 : zck [240, 177] (zdu 20 cX12_clearFacts.data.toList) = true := by decide +kernel
theorem dX12_clearFacts_21 : decode cX12_clearFacts 21 = .ok (.return_, 1) := zo_177 zh_cX12_clearFacts_1 1 rfl
abbrev z_X12_clearFacts : List Cond := .code yX12_clearFacts cX12_clearFacts 2 none :: zW
abbrev wl_X12_clearFacts (ad : Nat → Nat) (cs : Nat → ClassId)  (mod_code : Int32) (mod_shoes : Int32) (mod_claims : Int32) (mod_taped : Int32) (mod_here : Int32) (mod_fault : Int32) (mod_suits : Int32) (mod_doneMany : Int32) (mod_undoneMany : Int32) (mod_open : Int32) (mod_laid : Int32) (mod_isBoth : Int32) (mod_wished : Int32) (mod_bestMany : Int32) (mod_bestRow : Int32) (mod_ringDigits : Int32) (mod_traces : Int32) (mod_facts : Nat → Int32) : va_W := [((ad 41), .inr (12, [.int mod_code, .int mod_shoes, .ref (ad 42), .ref (ad 43), .ref (ad 44), .ref (ad 45), .int mod_claims, .ref (ad 46), .ref (ad 47), .ref (ad 48), .ref (ad 49), .ref (ad 50), .int mod_taped, .int mod_here, .int mod_fault, .int mod_suits, .ref (ad 51), .ref (ad 52), .ref (ad 53), .ref (ad 54), .ref (ad 55), .ref (ad 56), .ref (ad 57), .ref (ad 58), .ref (ad 59), .ref (ad 60), .ref (ad 61), .int mod_doneMany, .int mod_undoneMany, .ref (ad 62), .ref (ad 63), .ref (ad 64), .ref (ad 65), .int mod_open, .int mod_laid, .ref (ad 66), .ref (ad 67), .ref (ad 68), .ref (ad 69), .ref (ad 70), .ref (ad 71), .ref (ad 72), .ref (ad 73), .ref (ad 74), .ref (ad 75), .int mod_isBoth, .int mod_wished, .ref (ad 76), .ref (ad 77), .int mod_bestMany, .int mod_bestRow, .ref (ad 78), .ref (ad 79), .int mod_ringDigits, .int mod_traces, .ref (ad 80), .ref (ad 81), .ref (ad 82), .ref (ad 83), .ref (ad 84)])), ((ad 71), .inl (cs 0, 11, .inl mod_facts))]
def Q_X12_clearFacts (D : va_G) (cs : Nat → ClassId) (ad : Nat → Nat)  (mod_code : Int32) (mod_shoes : Int32) (mod_claims : Int32) (mod_taped : Int32) (mod_here : Int32) (mod_fault : Int32) (mod_suits : Int32) (mod_doneMany : Int32) (mod_undoneMany : Int32) (mod_open : Int32) (mod_laid : Int32) (mod_isBoth : Int32) (mod_wished : Int32) (mod_bestMany : Int32) (mod_bestRow : Int32) (mod_ringDigits : Int32) (mod_traces : Int32) (A : Nat → Prop) (R : (Nat → Int32)) : Array Value → State → Outcome → State → Prop :=
  va_Qv (fun u : (Nat → Int32) => u = R) (fun (u : (Nat → Int32)) (t : State) => va_P D classes (wl_X12_clearFacts ad cs mod_code mod_shoes mod_claims mod_taped mod_here mod_fault mod_suits mod_doneMany mod_undoneMany mod_open mod_laid mod_isBoth mod_wished mod_bestMany mod_bestRow mod_ringDigits mod_traces u) t.heap ∧ va_D A (wl_X12_clearFacts ad cs mod_code mod_shoes mod_claims mod_taped mod_here mod_fault mod_suits mod_doneMany mod_undoneMany mod_open mod_laid mod_isBoth mod_wished mod_bestMany mod_bestRow mod_ringDigits mod_traces u)) A
abbrev rm_X12_clearFacts : Room := { frames := 0, cells := 0, slots := 0, locals := 0 }
def B_X12_clearFacts_2   (g2 : Int32 → (Nat → Int32) → (Option ((Nat → Int32)))) (mod_code : Int32) (mod_shoes : Int32) (mod_claims : Int32) (mod_taped : Int32) (mod_here : Int32) (mod_fault : Int32) (mod_suits : Int32) (mod_doneMany : Int32) (mod_undoneMany : Int32) (mod_open : Int32) (mod_laid : Int32) (mod_isBoth : Int32) (mod_wished : Int32) (mod_bestMany : Int32) (mod_bestRow : Int32) (mod_ringDigits : Int32) (mod_traces : Int32) (x1 : Int32) (mod_facts : Nat → Int32) : Option ((Nat → Int32)) :=
  (if (11 : Int32) ≤ x1 then (some mod_facts) else (if (x1 < 0 ∨ 11 ≤ x1.toNatClampNeg) then none else (zk_let (upd mod_facts x1.toNatClampNeg (0 : Int32)) (fun f_3 => (zk_let (x1 + (1 : Int32)) (fun v_4 => (g2 v_4 f_3)))))))
def B_X12_clearFacts_0   (g2 : Int32 → (Nat → Int32) → (Option ((Nat → Int32)))) (mod_code : Int32) (mod_shoes : Int32) (mod_claims : Int32) (mod_taped : Int32) (mod_here : Int32) (mod_fault : Int32) (mod_suits : Int32) (mod_doneMany : Int32) (mod_undoneMany : Int32) (mod_open : Int32) (mod_laid : Int32) (mod_isBoth : Int32) (mod_wished : Int32) (mod_bestMany : Int32) (mod_bestRow : Int32) (mod_ringDigits : Int32) (mod_traces : Int32) (mod_facts : Nat → Int32) : Option ((Nat → Int32)) :=
  (g2 (0 : Int32) mod_facts)
def G_X12_clearFacts   (mod_code : Int32) (mod_shoes : Int32) (mod_claims : Int32) (mod_taped : Int32) (mod_here : Int32) (mod_fault : Int32) (mod_suits : Int32) (mod_doneMany : Int32) (mod_undoneMany : Int32) (mod_open : Int32) (mod_laid : Int32) (mod_isBoth : Int32) (mod_wished : Int32) (mod_bestMany : Int32) (mod_bestRow : Int32) (mod_ringDigits : Int32) (mod_traces : Int32) (n : Nat) : (Int32 → (Nat → Int32) → (Option ((Nat → Int32)))) :=
  Nat.rec (motive := fun _ => (Int32 → (Nat → Int32) → (Option ((Nat → Int32))))) ((fun _ _ => none)) (fun _ ih => (B_X12_clearFacts_2   ih mod_code mod_shoes mod_claims mod_taped mod_here mod_fault mod_suits mod_doneMany mod_undoneMany mod_open mod_laid mod_isBoth mod_wished mod_bestMany mod_bestRow mod_ringDigits mod_traces)) n
def f_X12_clearFacts   (n : Nat)  (mod_code : Int32) (mod_shoes : Int32) (mod_claims : Int32) (mod_taped : Int32) (mod_here : Int32) (mod_fault : Int32) (mod_suits : Int32) (mod_doneMany : Int32) (mod_undoneMany : Int32) (mod_open : Int32) (mod_laid : Int32) (mod_isBoth : Int32) (mod_wished : Int32) (mod_bestMany : Int32) (mod_bestRow : Int32) (mod_ringDigits : Int32) (mod_traces : Int32) (mod_facts : Nat → Int32) : Option ((Nat → Int32)) := B_X12_clearFacts_0   ((G_X12_clearFacts   mod_code mod_shoes mod_claims mod_taped mod_here mod_fault mod_suits mod_doneMany mod_undoneMany mod_open mod_laid mod_isBoth mod_wished mod_bestMany mod_bestRow mod_ringDigits mod_traces n)) mod_code mod_shoes mod_claims mod_taped mod_here mod_fault mod_suits mod_doneMany mod_undoneMany mod_open mod_laid mod_isBoth mod_wished mod_bestMany mod_bestRow mod_ringDigits mod_traces  mod_facts
set_option maxHeartbeats 4000000 in
set_option maxRecDepth 100000 in
theorem L_X12_clearFacts_2 {p : Program} {l : Launch} {e : Env} {s : State} {m : MethodId} {args : Array Value} {below : List Frame} {meth : Method} {c : Code} {A : Nat → Prop} {D : va_G} {cs : Nat → ClassId} {ad : Nat → Nat} {mod_code : Int32} {mod_shoes : Int32} {mod_claims : Int32} {mod_taped : Int32} {mod_here : Int32} {mod_fault : Int32} {mod_suits : Int32} {mod_doneMany : Int32} {mod_undoneMany : Int32} {mod_open : Int32} {mod_laid : Int32} {mod_isBoth : Int32} {mod_wished : Int32} {mod_bestMany : Int32} {mod_bestRow : Int32} {mod_ringDigits : Int32} {mod_traces : Int32} {R : (Nat → Int32)} {g2 : Int32 → (Nat → Int32) → (Option ((Nat → Int32)))} (C0 : zC p s m args meth c cX12_clearFacts 2 none RX12 zW) (hK : va_K D classes (zT cs) s) (hA : ∀ q : Nat, s.heap.size ≤ q → A q) (ih2 : ∀ (x1 : Int32) (mod_facts : Nat → Int32) (h : g2 x1 mod_facts = some R) (H : Heap) (locs : List Loc) (ls : Array Slot) (hP : va_P D classes (wl_X12_clearFacts ad cs mod_code mod_shoes mod_claims mod_taped mod_here mod_fault mod_suits mod_doneMany mod_undoneMany mod_open mod_laid mod_isBoth mod_wished mod_bestMany mod_bestRow mod_ringDigits mod_traces mod_facts) H) (hD : va_D A (wl_X12_clearFacts ad cs mod_code mod_shoes mod_claims mod_taped mod_here mod_fault mod_suits mod_doneMany mod_undoneMany mod_open mod_laid mod_isBoth mod_wished mod_bestMany mod_bestRow mod_ringDigits mod_traces mod_facts)) (hS : va_S A s.heap H locs) (hl : lv_has ls 2 [(0, .ref (ad 41)), (1, .int x1)]), W p l e rm_X12_clearFacts s m args below meth c H locs 0 0 (MQ below (Q_X12_clearFacts D cs ad mod_code mod_shoes mod_claims mod_taped mod_here mod_fault mod_suits mod_doneMany mod_undoneMany mod_open mod_laid mod_isBoth mod_wished mod_bestMany mod_bestRow mod_ringDigits mod_traces A R) args s 0 0 A) (F0 m 2 ls [])) (x1 : Int32) (mod_facts : Nat → Int32) (h : B_X12_clearFacts_2 g2 mod_code mod_shoes mod_claims mod_taped mod_here mod_fault mod_suits mod_doneMany mod_undoneMany mod_open mod_laid mod_isBoth mod_wished mod_bestMany mod_bestRow mod_ringDigits mod_traces x1 mod_facts = some R) (H : Heap) (locs : List Loc) (ls : Array Slot) (hP : va_P D classes (wl_X12_clearFacts ad cs mod_code mod_shoes mod_claims mod_taped mod_here mod_fault mod_suits mod_doneMany mod_undoneMany mod_open mod_laid mod_isBoth mod_wished mod_bestMany mod_bestRow mod_ringDigits mod_traces mod_facts) H) (hD : va_D A (wl_X12_clearFacts ad cs mod_code mod_shoes mod_claims mod_taped mod_here mod_fault mod_suits mod_doneMany mod_undoneMany mod_open mod_laid mod_isBoth mod_wished mod_bestMany mod_bestRow mod_ringDigits mod_traces mod_facts)) (hS : va_S A s.heap H locs) (hl : lv_has ls 2 [(0, .ref (ad 41)), (1, .int x1)]) : W p l e rm_X12_clearFacts s m args below meth c H locs 0 0 (MQ below (Q_X12_clearFacts D cs ad mod_code mod_shoes mod_claims mod_taped mod_here mod_fault mod_suits mod_doneMany mod_undoneMany mod_open mod_laid mod_isBoth mod_wished mod_bestMany mod_bestRow mod_ringDigits mod_traces A R) args s 0 0 A) (F0 m 2 ls []) := by
  obtain ⟨hx, hb, hr, hml, hown, ht, hlocks⟩ := id C0
  refine lv_iload_n hx hb dX12_clearFacts_2 rfl (lv_at hl 1 rfl) ?_
  refine lv_bipush (v := (11 : Int32)) hx hb dX12_clearFacts_3 (by decide) ?_
  refine lv_icmp_ge (tgt := 21) hx hb dX12_clearFacts_5 (by decide) (fun c_1 => ?_) (fun c_1 => ?_)
  · have h := zk_t c_1 h
    exact W.vret hx hb hr (fun t ht2 hW => ⟨⟨mod_facts, rfl, Option.some.inj h, by rw [ht2]; exact hP, hD⟩, hS.F ht2⟩) hS.2.2 dX12_clearFacts_21 hlocks
  · have h := zk_f c_1 h
    refine lv_aload_n hx hb dX12_clearFacts_8 rfl (lv_at hl 0 rfl) ?_
    refine va_get (D := D) (ci := 12) (v := .ref (ad 71)) (C := RX12) (T := TX12) (N := 60) hx hb ht iX12 hown hK hP 0 rfl rfl 40 (by decide) (ht _ kw_1335) (fun _ h9 => h9) rfl dX12_clearFacts_9 ?_
    refine lv_iload_n hx hb dX12_clearFacts_12 rfl (lv_at hl 1 rfl) ?_
    refine lv_iconst (v := (0 : Int32)) hx hb dX12_clearFacts_13 (by decide) ?_
    obtain ⟨g_2, h⟩ := zk_gd h
    obtain ⟨f_3, ef_3, h⟩ := zk_lt h
    refine va_iast hx hb hK hP hD hS 1 0 rfl rfl g_2 dX12_clearFacts_14 (fun H locs hP hD hS => ?_)
    have hP : va_P D classes (wl_X12_clearFacts ad cs mod_code mod_shoes mod_claims mod_taped mod_here mod_fault mod_suits mod_doneMany mod_undoneMany mod_open mod_laid mod_isBoth mod_wished mod_bestMany mod_bestRow mod_ringDigits mod_traces f_3) H := by rw [ef_3]; exact hP
    have hD : va_D A (wl_X12_clearFacts ad cs mod_code mod_shoes mod_claims mod_taped mod_here mod_fault mod_suits mod_doneMany mod_undoneMany mod_open mod_laid mod_isBoth mod_wished mod_bestMany mod_bestRow mod_ringDigits mod_traces f_3) := by rw [ef_3]; exact hD
    obtain ⟨v_4, ev_4, h⟩ := zk_lt h
    refine lv_iinc (v := v_4) (lv' := [(1, .int v_4), (0, .ref (ad 41))]) hx hb dX12_clearFacts_15 hl (k := 1) rfl (by rw [ev_4]; rfl) (by decide) rfl (fun ls hl => ?_)
    refine lv_goto (tgt := 2) hx hb dX12_clearFacts_18 (by decide) ?_
    exact ih2 v_4 f_3 h H locs ls hP hD hS (lv_sub hl [1, 0] rfl)
set_option maxHeartbeats 4000000 in
set_option maxRecDepth 100000 in
theorem L_X12_clearFacts_0 {p : Program} {l : Launch} {e : Env} {s : State} {m : MethodId} {args : Array Value} {below : List Frame} {meth : Method} {c : Code} {A : Nat → Prop} {D : va_G} {cs : Nat → ClassId} {ad : Nat → Nat} {mod_code : Int32} {mod_shoes : Int32} {mod_claims : Int32} {mod_taped : Int32} {mod_here : Int32} {mod_fault : Int32} {mod_suits : Int32} {mod_doneMany : Int32} {mod_undoneMany : Int32} {mod_open : Int32} {mod_laid : Int32} {mod_isBoth : Int32} {mod_wished : Int32} {mod_bestMany : Int32} {mod_bestRow : Int32} {mod_ringDigits : Int32} {mod_traces : Int32} {R : (Nat → Int32)} {g2 : Int32 → (Nat → Int32) → (Option ((Nat → Int32)))} (C0 : zC p s m args meth c cX12_clearFacts 2 none RX12 zW) (hK : va_K D classes (zT cs) s) (hA : ∀ q : Nat, s.heap.size ≤ q → A q) (ih2 : ∀ (x1 : Int32) (mod_facts : Nat → Int32) (h : g2 x1 mod_facts = some R) (H : Heap) (locs : List Loc) (ls : Array Slot) (hP : va_P D classes (wl_X12_clearFacts ad cs mod_code mod_shoes mod_claims mod_taped mod_here mod_fault mod_suits mod_doneMany mod_undoneMany mod_open mod_laid mod_isBoth mod_wished mod_bestMany mod_bestRow mod_ringDigits mod_traces mod_facts) H) (hD : va_D A (wl_X12_clearFacts ad cs mod_code mod_shoes mod_claims mod_taped mod_here mod_fault mod_suits mod_doneMany mod_undoneMany mod_open mod_laid mod_isBoth mod_wished mod_bestMany mod_bestRow mod_ringDigits mod_traces mod_facts)) (hS : va_S A s.heap H locs) (hl : lv_has ls 2 [(0, .ref (ad 41)), (1, .int x1)]), W p l e rm_X12_clearFacts s m args below meth c H locs 0 0 (MQ below (Q_X12_clearFacts D cs ad mod_code mod_shoes mod_claims mod_taped mod_here mod_fault mod_suits mod_doneMany mod_undoneMany mod_open mod_laid mod_isBoth mod_wished mod_bestMany mod_bestRow mod_ringDigits mod_traces A R) args s 0 0 A) (F0 m 2 ls [])) (mod_facts : Nat → Int32) (h : B_X12_clearFacts_0 g2 mod_code mod_shoes mod_claims mod_taped mod_here mod_fault mod_suits mod_doneMany mod_undoneMany mod_open mod_laid mod_isBoth mod_wished mod_bestMany mod_bestRow mod_ringDigits mod_traces mod_facts = some R) (H : Heap) (locs : List Loc) (ls : Array Slot) (hP : va_P D classes (wl_X12_clearFacts ad cs mod_code mod_shoes mod_claims mod_taped mod_here mod_fault mod_suits mod_doneMany mod_undoneMany mod_open mod_laid mod_isBoth mod_wished mod_bestMany mod_bestRow mod_ringDigits mod_traces mod_facts) H) (hD : va_D A (wl_X12_clearFacts ad cs mod_code mod_shoes mod_claims mod_taped mod_here mod_fault mod_suits mod_doneMany mod_undoneMany mod_open mod_laid mod_isBoth mod_wished mod_bestMany mod_bestRow mod_ringDigits mod_traces mod_facts)) (hS : va_S A s.heap H locs) (hl : lv_has ls 2 [(0, .ref (ad 41))]) : W p l e rm_X12_clearFacts s m args below meth c H locs 0 0 (MQ below (Q_X12_clearFacts D cs ad mod_code mod_shoes mod_claims mod_taped mod_here mod_fault mod_suits mod_doneMany mod_undoneMany mod_open mod_laid mod_isBoth mod_wished mod_bestMany mod_bestRow mod_ringDigits mod_traces A R) args s 0 0 A) (F0 m 0 ls []) := by
  obtain ⟨hx, hb, hr, hml, hown, ht, hlocks⟩ := id C0
  refine lv_iconst (v := (0 : Int32)) hx hb dX12_clearFacts_0 (by decide) ?_
  refine lv_istore_n (lv' := [(1, .int (0 : Int32)), (0, .ref (ad 41))]) hx hb dX12_clearFacts_1 rfl hl (by decide) rfl (fun ls hl => ?_)
  exact ih2 (0 : Int32) mod_facts h H locs ls hP hD hS (lv_sub hl [1, 0] rfl)
theorem LG_X12_clearFacts {p : Program} {l : Launch} {e : Env} {s : State} {m : MethodId} {args : Array Value} {below : List Frame} {meth : Method} {c : Code} {A : Nat → Prop} {D : va_G} {cs : Nat → ClassId} {ad : Nat → Nat} {mod_code : Int32} {mod_shoes : Int32} {mod_claims : Int32} {mod_taped : Int32} {mod_here : Int32} {mod_fault : Int32} {mod_suits : Int32} {mod_doneMany : Int32} {mod_undoneMany : Int32} {mod_open : Int32} {mod_laid : Int32} {mod_isBoth : Int32} {mod_wished : Int32} {mod_bestMany : Int32} {mod_bestRow : Int32} {mod_ringDigits : Int32} {mod_traces : Int32} {R : (Nat → Int32)} (C0 : zC p s m args meth c cX12_clearFacts 2 none RX12 zW) (hK : va_K D classes (zT cs) s) (hA : ∀ q : Nat, s.heap.size ≤ q → A q) : ∀ n : Nat, (∀ (x1 : Int32) (mod_facts : Nat → Int32) (h : (G_X12_clearFacts   mod_code mod_shoes mod_claims mod_taped mod_here mod_fault mod_suits mod_doneMany mod_undoneMany mod_open mod_laid mod_isBoth mod_wished mod_bestMany mod_bestRow mod_ringDigits mod_traces n) x1 mod_facts = some R) (H : Heap) (locs : List Loc) (ls : Array Slot) (hP : va_P D classes (wl_X12_clearFacts ad cs mod_code mod_shoes mod_claims mod_taped mod_here mod_fault mod_suits mod_doneMany mod_undoneMany mod_open mod_laid mod_isBoth mod_wished mod_bestMany mod_bestRow mod_ringDigits mod_traces mod_facts) H) (hD : va_D A (wl_X12_clearFacts ad cs mod_code mod_shoes mod_claims mod_taped mod_here mod_fault mod_suits mod_doneMany mod_undoneMany mod_open mod_laid mod_isBoth mod_wished mod_bestMany mod_bestRow mod_ringDigits mod_traces mod_facts)) (hS : va_S A s.heap H locs) (hl : lv_has ls 2 [(0, .ref (ad 41)), (1, .int x1)]), W p l e rm_X12_clearFacts s m args below meth c H locs 0 0 (MQ below (Q_X12_clearFacts D cs ad mod_code mod_shoes mod_claims mod_taped mod_here mod_fault mod_suits mod_doneMany mod_undoneMany mod_open mod_laid mod_isBoth mod_wished mod_bestMany mod_bestRow mod_ringDigits mod_traces A R) args s 0 0 A) (F0 m 2 ls [])) := by
  intro n
  induction n with
  | zero =>
    refine ?_ <;> (intros; rename_i h _ _ _ _ _ _ _; cases h)
  | succ n ih =>
    exact L_X12_clearFacts_2 C0 hK hA  ih
set_option maxHeartbeats 4000000 in
set_option maxRecDepth 100000 in
theorem c_X12_clearFacts (l : Launch) (D : va_G) (cs : Nat → ClassId) (ad : Nat → Nat) (sz : Nat) (n : Nat)  (mod_code : Int32) (mod_shoes : Int32) (mod_claims : Int32) (mod_taped : Int32) (mod_here : Int32) (mod_fault : Int32) (mod_suits : Int32) (mod_doneMany : Int32) (mod_undoneMany : Int32) (mod_open : Int32) (mod_laid : Int32) (mod_isBoth : Int32) (mod_wished : Int32) (mod_bestMany : Int32) (mod_bestRow : Int32) (mod_ringDigits : Int32) (mod_traces : Int32) (mod_facts : Nat → Int32) (R : (Nat → Int32)) (h : f_X12_clearFacts   n  mod_code mod_shoes mod_claims mod_taped mod_here mod_fault mod_suits mod_doneMany mod_undoneMany mod_open mod_laid mod_isBoth mod_wished mod_bestMany mod_bestRow mod_ringDigits mod_traces mod_facts = some R) : Met l yX12_clearFacts (z_X12_clearFacts) rm_X12_clearFacts (va_Pc [.ref (ad 41)] (zPre D cs (wl_X12_clearFacts ad cs mod_code mod_shoes mod_claims mod_taped mod_here mod_fault mod_suits mod_doneMany mod_undoneMany mod_open mod_laid mod_isBoth mod_wished mod_bestMany mod_bestRow mod_ringDigits mod_traces mod_facts) sz)) (Q_X12_clearFacts D cs ad mod_code mod_shoes mod_claims mod_taped mod_here mod_fault mod_suits mod_doneMany mod_undoneMany mod_open mod_laid mod_isBoth mod_wished mod_bestMany mod_bestRow mod_ringDigits mod_traces (va_A (wl_X12_clearFacts ad cs mod_code mod_shoes mod_claims mod_taped mod_here mod_fault mod_suits mod_doneMany mod_undoneMany mod_open mod_laid mod_isBoth mod_wished mod_bestMany mod_bestRow mod_ringDigits mod_traces mod_facts) sz) R) 0 0 (va_A (wl_X12_clearFacts ad cs mod_code mod_shoes mod_claims mod_taped mod_here mod_fault mod_suits mod_doneMany mod_undoneMany mod_open mod_laid mod_isBoth mod_wished mod_bestMany mod_bestRow mod_ringDigits mod_traces mod_facts) sz) := by
  refine Met.ofW (cc := cX12_clearFacts) (maxL := 2) (ret := none) (by decide) rfl ?_
  intro p e s m args below meth c s₁ B hml hv
  obtain ⟨rfl, hsz, hP, hK, hD0⟩ := hv
  subst hsz
  have hD := hD0.self (sz := s.heap.size)
  have C0 : zC p s m _ meth c cX12_clearFacts 2 none RX12 zW := ⟨B.exec, B.bytes, B.returns, hml, findClass_of_methodNamed B.named, fun w hw => atoms_spec (ws := z_X12_clearFacts) B.pre w (List.mem_cons_of_mem _ hw), B.notSynchronized⟩
  have hA : ∀ q : Nat, s.heap.size ≤ q → va_A (wl_X12_clearFacts ad cs mod_code mod_shoes mod_claims mod_taped mod_here mod_fault mod_suits mod_doneMany mod_undoneMany mod_open mod_laid mod_isBoth mod_wished mod_bestMany mod_bestRow mod_ringDigits mod_traces mod_facts) s.heap.size q := fun q h => Or.inr h
  have hl := lv_entry ([.ref (ad 41)]) (n := 2) (Nat.le_of_ble_eq_true rfl)
  rw [lg_entry_eq]
  generalize (lg_sl ([.ref (ad 41)]) ++ List.replicate (2 - (lg_sl ([.ref (ad 41)])).length) Slot.unset).toArray = ls at hl ⊢
  exact L_X12_clearFacts_0 C0 hK hA  ((LG_X12_clearFacts C0 hK hA  n))  mod_facts h s.heap [] ls hP hD va_S.rf hl
theorem kw_46 : Cond.selects RX12 yX12_gives yX12_gives ∈ zW := zwI (i := 46) (by decide +kernel) (by decide +kernel)
theorem kw_1681 : Cond.methodLink RX12 302 yX12_gives ∈ zW := zwC (i := 167) zc_7 rfl rfl
theorem kw_1683 : Cond.instanceMethod yX12_gives ∈ zW := zwC (i := 169) zc_7 rfl rfl
theorem kw_1684 : Cond.code yX12_gives cX12_gives 4 (some .int) ∈ zW := zwC (i := 170) zc_7 rfl rfl
theorem zh_cX12_isSo_0 : zck [16, 8, 27, 104, 28, 96, 62, 42, 180, 0, 89, 29, 46, 158, 0, 17, 42, 29, 182, 1, 46, 153] (zdu 0 cX12_isSo.data.toList) = true := by decide +kernel
theorem dX12_isSo_0 : decode cX12_isSo 0 = .ok (.bipush 8, 2) := zo_p16 zh_cX12_isSo_0 0 8 rfl rfl
theorem dX12_isSo_2 : decode cX12_isSo 2 = .ok (.iload_n 1, 1) := zo_27 zh_cX12_isSo_0 2 rfl
theorem dX12_isSo_3 : decode cX12_isSo 3 = .ok (.imul, 1) := zo_104 zh_cX12_isSo_0 3 rfl
theorem dX12_isSo_4 : decode cX12_isSo 4 = .ok (.iload_n 2, 1) := zo_28 zh_cX12_isSo_0 4 rfl
theorem dX12_isSo_5 : decode cX12_isSo 5 = .ok (.iadd, 1) := zo_96 zh_cX12_isSo_0 5 rfl
theorem dX12_isSo_6 : decode cX12_isSo 6 = .ok (.istore_n 3, 1) := zo_62 zh_cX12_isSo_0 6 rfl
theorem dX12_isSo_7 : decode cX12_isSo 7 = .ok (.aload_n 0, 1) := zo_42 zh_cX12_isSo_0 7 rfl
theorem dX12_isSo_8 : decode cX12_isSo 8 = .ok (.getfield 89, 3) := zo_180 zh_cX12_isSo_0 8 rfl
theorem dX12_isSo_11 : decode cX12_isSo 11 = .ok (.iload_n 3, 1) := zo_29 zh_cX12_isSo_0 11 rfl
theorem dX12_isSo_12 : decode cX12_isSo 12 = .ok (.iaload, 1) := zo_46 zh_cX12_isSo_0 12 rfl
theorem dX12_isSo_13 : decode cX12_isSo 13 = .ok (.ifCond .le 17, 3) := zo_p158 zh_cX12_isSo_0 13 17 rfl rfl
theorem dX12_isSo_16 : decode cX12_isSo 16 = .ok (.aload_n 0, 1) := zo_42 zh_cX12_isSo_0 16 rfl
theorem dX12_isSo_17 : decode cX12_isSo 17 = .ok (.iload_n 3, 1) := zo_29 zh_cX12_isSo_0 17 rfl
theorem dX12_isSo_18 : decode cX12_isSo 18 = .ok (.invokevirtual 302, 3) := zo_182 zh_cX12_isSo_0 18 rfl
theorem zh_cX12_isSo_1 : zck [46, 153, 0, 7, 4, 167, 0, 4, 3, 172, 27, 170, 0, 0, 0, 114, 0, 0, 0, 0, 0, 0] (zdu 20 cX12_isSo.data.toList) = true := by decide +kernel
theorem dX12_isSo_21 : decode cX12_isSo 21 = .ok (.ifCond .eq 7, 3) := zo_p153 zh_cX12_isSo_1 1 7 rfl rfl
theorem dX12_isSo_24 : decode cX12_isSo 24 = .ok (.iconst 1, 1) := zo_4 zh_cX12_isSo_1 4 rfl
theorem dX12_isSo_25 : decode cX12_isSo 25 = .ok (.goto 4, 3) := zo_p167 zh_cX12_isSo_1 5 4 rfl rfl
theorem dX12_isSo_28 : decode cX12_isSo 28 = .ok (.iconst 0, 1) := zo_3 zh_cX12_isSo_1 8 rfl
theorem dX12_isSo_29 : decode cX12_isSo 29 = .ok (.ireturn, 1) := zo_172 zh_cX12_isSo_1 9 rfl
theorem dX12_isSo_30 : decode cX12_isSo 30 = .ok (.iload_n 1, 1) := zo_27 zh_cX12_isSo_1 10 rfl
theorem dX12_isSo_31 : decode cX12_isSo 31 = .ok (.tableswitch 114 0 2 #[25, 71, 97], 25) := by decide +kernel
theorem zh_cX12_isSo_2 : zck [0, 0, 0, 2, 0, 0, 0, 25, 0, 0, 0, 71, 0, 0, 0, 97, 42, 180, 0, 99, 8, 46] (zdu 40 cX12_isSo.data.toList) = true := by decide +kernel
theorem dX12_isSo_56 : decode cX12_isSo 56 = .ok (.aload_n 0, 1) := zo_42 zh_cX12_isSo_2 16 rfl
theorem dX12_isSo_57 : decode cX12_isSo 57 = .ok (.getfield 99, 3) := zo_180 zh_cX12_isSo_2 17 rfl
theorem zh_cX12_isSo_3 : zck [8, 46, 153, 0, 38, 42, 180, 0, 99, 3, 46, 4, 159, 0, 24, 42, 180, 0, 99, 3, 46, 16] (zdu 60 cX12_isSo.data.toList) = true := by decide +kernel
theorem dX12_isSo_60 : decode cX12_isSo 60 = .ok (.iconst 5, 1) := zo_8 zh_cX12_isSo_3 0 rfl
theorem dX12_isSo_61 : decode cX12_isSo 61 = .ok (.iaload, 1) := zo_46 zh_cX12_isSo_3 1 rfl
theorem dX12_isSo_62 : decode cX12_isSo 62 = .ok (.ifCond .eq 38, 3) := zo_p153 zh_cX12_isSo_3 2 38 rfl rfl
theorem dX12_isSo_65 : decode cX12_isSo 65 = .ok (.aload_n 0, 1) := zo_42 zh_cX12_isSo_3 5 rfl
theorem dX12_isSo_66 : decode cX12_isSo 66 = .ok (.getfield 99, 3) := zo_180 zh_cX12_isSo_3 6 rfl
theorem dX12_isSo_69 : decode cX12_isSo 69 = .ok (.iconst 0, 1) := zo_3 zh_cX12_isSo_3 9 rfl
theorem dX12_isSo_70 : decode cX12_isSo 70 = .ok (.iaload, 1) := zo_46 zh_cX12_isSo_3 10 rfl
theorem dX12_isSo_71 : decode cX12_isSo 71 = .ok (.iconst 1, 1) := zo_4 zh_cX12_isSo_3 11 rfl
theorem dX12_isSo_72 : decode cX12_isSo 72 = .ok (.if_icmp .eq 24, 3) := zo_p159 zh_cX12_isSo_3 12 24 rfl rfl
theorem dX12_isSo_75 : decode cX12_isSo 75 = .ok (.aload_n 0, 1) := zo_42 zh_cX12_isSo_3 15 rfl
theorem dX12_isSo_76 : decode cX12_isSo 76 = .ok (.getfield 99, 3) := zo_180 zh_cX12_isSo_3 16 rfl
theorem dX12_isSo_79 : decode cX12_isSo 79 = .ok (.iconst 0, 1) := zo_3 zh_cX12_isSo_3 19 rfl
theorem zh_cX12_isSo_4 : zck [46, 16, 6, 159, 0, 13, 42, 180, 0, 99, 3, 46, 6, 160, 0, 7, 4, 167, 0, 4, 3, 172] (zdu 80 cX12_isSo.data.toList) = true := by decide +kernel
theorem dX12_isSo_80 : decode cX12_isSo 80 = .ok (.iaload, 1) := zo_46 zh_cX12_isSo_4 0 rfl
theorem dX12_isSo_81 : decode cX12_isSo 81 = .ok (.bipush 6, 2) := zo_p16 zh_cX12_isSo_4 1 6 rfl rfl
theorem dX12_isSo_83 : decode cX12_isSo 83 = .ok (.if_icmp .eq 13, 3) := zo_p159 zh_cX12_isSo_4 3 13 rfl rfl
theorem dX12_isSo_86 : decode cX12_isSo 86 = .ok (.aload_n 0, 1) := zo_42 zh_cX12_isSo_4 6 rfl
theorem dX12_isSo_87 : decode cX12_isSo 87 = .ok (.getfield 99, 3) := zo_180 zh_cX12_isSo_4 7 rfl
theorem dX12_isSo_90 : decode cX12_isSo 90 = .ok (.iconst 0, 1) := zo_3 zh_cX12_isSo_4 10 rfl
theorem dX12_isSo_91 : decode cX12_isSo 91 = .ok (.iaload, 1) := zo_46 zh_cX12_isSo_4 11 rfl
theorem dX12_isSo_92 : decode cX12_isSo 92 = .ok (.iconst 3, 1) := zo_6 zh_cX12_isSo_4 12 rfl
theorem dX12_isSo_93 : decode cX12_isSo 93 = .ok (.if_icmp .ne 7, 3) := zo_p160 zh_cX12_isSo_4 13 7 rfl rfl
theorem dX12_isSo_96 : decode cX12_isSo 96 = .ok (.iconst 1, 1) := zo_4 zh_cX12_isSo_4 16 rfl
theorem dX12_isSo_97 : decode cX12_isSo 97 = .ok (.goto 4, 3) := zo_p167 zh_cX12_isSo_4 17 4 rfl rfl
theorem zh_cX12_isSo_5 : zck [3, 172, 42, 180, 0, 99, 16, 9, 46, 153, 0, 17, 42, 180, 0, 99, 16, 10, 46, 153, 0, 7] (zdu 100 cX12_isSo.data.toList) = true := by decide +kernel
theorem dX12_isSo_100 : decode cX12_isSo 100 = .ok (.iconst 0, 1) := zo_3 zh_cX12_isSo_5 0 rfl
theorem dX12_isSo_101 : decode cX12_isSo 101 = .ok (.ireturn, 1) := zo_172 zh_cX12_isSo_5 1 rfl
theorem dX12_isSo_102 : decode cX12_isSo 102 = .ok (.aload_n 0, 1) := zo_42 zh_cX12_isSo_5 2 rfl
theorem dX12_isSo_103 : decode cX12_isSo 103 = .ok (.getfield 99, 3) := zo_180 zh_cX12_isSo_5 3 rfl
theorem dX12_isSo_106 : decode cX12_isSo 106 = .ok (.bipush 9, 2) := zo_p16 zh_cX12_isSo_5 6 9 rfl rfl
theorem dX12_isSo_108 : decode cX12_isSo 108 = .ok (.iaload, 1) := zo_46 zh_cX12_isSo_5 8 rfl
theorem dX12_isSo_109 : decode cX12_isSo 109 = .ok (.ifCond .eq 17, 3) := zo_p153 zh_cX12_isSo_5 9 17 rfl rfl
theorem dX12_isSo_112 : decode cX12_isSo 112 = .ok (.aload_n 0, 1) := zo_42 zh_cX12_isSo_5 12 rfl
theorem dX12_isSo_113 : decode cX12_isSo 113 = .ok (.getfield 99, 3) := zo_180 zh_cX12_isSo_5 13 rfl
theorem dX12_isSo_116 : decode cX12_isSo 116 = .ok (.bipush 10, 2) := zo_p16 zh_cX12_isSo_5 16 10 rfl rfl
theorem dX12_isSo_118 : decode cX12_isSo 118 = .ok (.iaload, 1) := zo_46 zh_cX12_isSo_5 18 rfl
theorem dX12_isSo_119 : decode cX12_isSo 119 = .ok (.ifCond .eq 7, 3) := zo_p153 zh_cX12_isSo_5 19 7 rfl rfl
theorem zh_cX12_isSo_6 : zck [0, 7, 4, 167, 0, 4, 3, 172, 42, 180, 0, 99, 16, 10, 46, 6, 162, 0, 7, 4, 167, 0] (zdu 120 cX12_isSo.data.toList) = true := by decide +kernel
theorem dX12_isSo_122 : decode cX12_isSo 122 = .ok (.iconst 1, 1) := zo_4 zh_cX12_isSo_6 2 rfl
theorem dX12_isSo_123 : decode cX12_isSo 123 = .ok (.goto 4, 3) := zo_p167 zh_cX12_isSo_6 3 4 rfl rfl
theorem dX12_isSo_126 : decode cX12_isSo 126 = .ok (.iconst 0, 1) := zo_3 zh_cX12_isSo_6 6 rfl
theorem dX12_isSo_127 : decode cX12_isSo 127 = .ok (.ireturn, 1) := zo_172 zh_cX12_isSo_6 7 rfl
theorem dX12_isSo_128 : decode cX12_isSo 128 = .ok (.aload_n 0, 1) := zo_42 zh_cX12_isSo_6 8 rfl
theorem dX12_isSo_129 : decode cX12_isSo 129 = .ok (.getfield 99, 3) := zo_180 zh_cX12_isSo_6 9 rfl
theorem dX12_isSo_132 : decode cX12_isSo 132 = .ok (.bipush 10, 2) := zo_p16 zh_cX12_isSo_6 12 10 rfl rfl
theorem dX12_isSo_134 : decode cX12_isSo 134 = .ok (.iaload, 1) := zo_46 zh_cX12_isSo_6 14 rfl
theorem dX12_isSo_135 : decode cX12_isSo 135 = .ok (.iconst 3, 1) := zo_6 zh_cX12_isSo_6 15 rfl
theorem dX12_isSo_136 : decode cX12_isSo 136 = .ok (.if_icmp .ge 7, 3) := zo_p162 zh_cX12_isSo_6 16 7 rfl rfl
theorem dX12_isSo_139 : decode cX12_isSo 139 = .ok (.iconst 1, 1) := zo_4 zh_cX12_isSo_6 19 rfl
theorem zh_cX12_isSo_7 : zck [167, 0, 4, 3, 172, 4, 172] (zdu 140 cX12_isSo.data.toList) = true := by decide +kernel
theorem dX12_isSo_140 : decode cX12_isSo 140 = .ok (.goto 4, 3) := zo_p167 zh_cX12_isSo_7 0 4 rfl rfl
theorem dX12_isSo_143 : decode cX12_isSo 143 = .ok (.iconst 0, 1) := zo_3 zh_cX12_isSo_7 3 rfl
theorem dX12_isSo_144 : decode cX12_isSo 144 = .ok (.ireturn, 1) := zo_172 zh_cX12_isSo_7 4 rfl
theorem dX12_isSo_145 : decode cX12_isSo 145 = .ok (.iconst 1, 1) := zo_4 zh_cX12_isSo_7 5 rfl
theorem dX12_isSo_146 : decode cX12_isSo 146 = .ok (.ireturn, 1) := zo_172 zh_cX12_isSo_7 6 rfl
abbrev z_X12_isSo : List Cond := .code yX12_isSo cX12_isSo 4 (some .boolean) :: zW
abbrev wl_X12_isSo (ad : Nat → Nat) (cs : Nat → ClassId)  (mod_code : Int32) (mod_shoes : Int32) (mod_claims : Int32) (mod_taped : Int32) (mod_here : Int32) (mod_fault : Int32) (mod_suits : Int32) (mod_doneMany : Int32) (mod_undoneMany : Int32) (mod_open : Int32) (mod_laid : Int32) (mod_isBoth : Int32) (mod_wished : Int32) (mod_bestMany : Int32) (mod_bestRow : Int32) (mod_ringDigits : Int32) (mod_traces : Int32) (mod_act : Nat → Int32) (mod_with : Nat → Int32) (mod_lineMany : Nat → Int32) (mod_testEnd : Nat → Int32) (mod_lineEnd : Nat → Int32) (mod_facts : Nat → Int32) (mod_pile : Nat → Int32) : va_W := [((ad 41), .inr (12, [.int mod_code, .int mod_shoes, .ref (ad 42), .ref (ad 43), .ref (ad 44), .ref (ad 45), .int mod_claims, .ref (ad 46), .ref (ad 47), .ref (ad 48), .ref (ad 49), .ref (ad 50), .int mod_taped, .int mod_here, .int mod_fault, .int mod_suits, .ref (ad 51), .ref (ad 52), .ref (ad 53), .ref (ad 54), .ref (ad 55), .ref (ad 56), .ref (ad 57), .ref (ad 58), .ref (ad 59), .ref (ad 60), .ref (ad 61), .int mod_doneMany, .int mod_undoneMany, .ref (ad 62), .ref (ad 63), .ref (ad 64), .ref (ad 65), .int mod_open, .int mod_laid, .ref (ad 66), .ref (ad 67), .ref (ad 68), .ref (ad 69), .ref (ad 70), .ref (ad 71), .ref (ad 72), .ref (ad 73), .ref (ad 74), .ref (ad 75), .int mod_isBoth, .int mod_wished, .ref (ad 76), .ref (ad 77), .int mod_bestMany, .int mod_bestRow, .ref (ad 78), .ref (ad 79), .int mod_ringDigits, .int mod_traces, .ref (ad 80), .ref (ad 81), .ref (ad 82), .ref (ad 83), .ref (ad 84)])), ((ad 66), .inl (cs 2, 4290, .inl mod_act)), ((ad 67), .inl (cs 0, 4290, .inl mod_with)), ((ad 68), .inl (cs 0, 33, .inl mod_lineMany)), ((ad 69), .inl (cs 3, 2013, .inl mod_testEnd)), ((ad 70), .inl (cs 3, 2013, .inl mod_lineEnd)), ((ad 71), .inl (cs 0, 11, .inl mod_facts)), ((ad 72), .inl (cs 0, 130, .inl mod_pile))]
def Q_X12_isSo (D : va_G) (cs : Nat → ClassId) (ad : Nat → Nat)  (mod_code : Int32) (mod_shoes : Int32) (mod_claims : Int32) (mod_taped : Int32) (mod_here : Int32) (mod_fault : Int32) (mod_suits : Int32) (mod_doneMany : Int32) (mod_undoneMany : Int32) (mod_open : Int32) (mod_laid : Int32) (mod_isBoth : Int32) (mod_wished : Int32) (mod_bestMany : Int32) (mod_bestRow : Int32) (mod_ringDigits : Int32) (mod_traces : Int32) (mod_act : Nat → Int32) (mod_with : Nat → Int32) (mod_lineMany : Nat → Int32) (mod_testEnd : Nat → Int32) (mod_lineEnd : Nat → Int32) (mod_facts : Nat → Int32) (A : Nat → Prop) (R : Int32 × (Nat → Int32)) : Array Value → State → Outcome → State → Prop :=
  va_Qi (fun (r : Int32) (u : (Nat → Int32)) => (r, u) = R) (fun (u : (Nat → Int32)) (t : State) => va_P D classes (wl_X12_isSo ad cs mod_code mod_shoes mod_claims mod_taped mod_here mod_fault mod_suits mod_doneMany mod_undoneMany mod_open mod_laid mod_isBoth mod_wished mod_bestMany mod_bestRow mod_ringDigits mod_traces mod_act mod_with mod_lineMany mod_testEnd mod_lineEnd mod_facts u) t.heap ∧ va_D A (wl_X12_isSo ad cs mod_code mod_shoes mod_claims mod_taped mod_here mod_fault mod_suits mod_doneMany mod_undoneMany mod_open mod_laid mod_isBoth mod_wished mod_bestMany mod_bestRow mod_ringDigits mod_traces mod_act mod_with mod_lineMany mod_testEnd mod_lineEnd mod_facts u)) A
abbrev rm_X12_isSo : Room := { frames := 3, cells := 0, slots := 0, locals := 71 }
theorem g_X12_302 : GoodIn zW (wsV RX12 302 RX12 yX12_gives z_X12_gives) := zGV kw_1681 kw_1683 kw_46 kw_95 kw_1684
theorem hd_X12_gives : yX12_gives.cls ≠ "java/lang/invoke/MethodHandle" ∧ yX12_gives.cls ≠ "java/lang/invoke/VarHandle" ∧ (parseMethodDescriptor yX12_gives.desc).map (fun d => d.parameters.length) = some 1 := by decide +kernel
def B_X12_isSo_96    (mod_code : Int32) (mod_shoes : Int32) (mod_claims : Int32) (mod_taped : Int32) (mod_here : Int32) (mod_fault : Int32) (mod_suits : Int32) (mod_doneMany : Int32) (mod_undoneMany : Int32) (mod_open : Int32) (mod_laid : Int32) (mod_isBoth : Int32) (mod_wished : Int32) (mod_bestMany : Int32) (mod_bestRow : Int32) (mod_ringDigits : Int32) (mod_traces : Int32) (mod_act : Nat → Int32) (mod_with : Nat → Int32) (mod_lineMany : Nat → Int32) (mod_testEnd : Nat → Int32) (mod_lineEnd : Nat → Int32) (mod_facts : Nat → Int32) (mod_pile : Nat → Int32) : Option (Int32 × (Nat → Int32)) :=
  (some ((1 : Int32), mod_pile))
def B_X12_isSo_0    (mod_code : Int32) (mod_shoes : Int32) (mod_claims : Int32) (mod_taped : Int32) (mod_here : Int32) (mod_fault : Int32) (mod_suits : Int32) (mod_doneMany : Int32) (mod_undoneMany : Int32) (mod_open : Int32) (mod_laid : Int32) (mod_isBoth : Int32) (mod_wished : Int32) (mod_bestMany : Int32) (mod_bestRow : Int32) (mod_ringDigits : Int32) (mod_traces : Int32) (mod_act : Nat → Int32) (mod_with : Nat → Int32) (mod_lineMany : Nat → Int32) (mod_testEnd : Nat → Int32) (mod_lineEnd : Nat → Int32) (mod_facts : Nat → Int32) (x1 : Int32) (x2 : Int32) (mod_pile : Nat → Int32) : Option (Int32 × (Nat → Int32)) :=
  (zk_let (((8 : Int32) * x1) + x2) (fun v_1 => (if (v_1 < 0 ∨ 33 ≤ v_1.toNatClampNeg) then none else (if (mod_lineMany v_1.toNatClampNeg) ≤ 0 then (if x1 = (0 : Int32) then (if (mod_facts (5 : Int32).toNatClampNeg) = 0 then (some ((0 : Int32), mod_pile)) else (if (mod_facts (0 : Int32).toNatClampNeg) = (1 : Int32) then (B_X12_isSo_96 mod_code mod_shoes mod_claims mod_taped mod_here mod_fault mod_suits mod_doneMany mod_undoneMany mod_open mod_laid mod_isBoth mod_wished mod_bestMany mod_bestRow mod_ringDigits mod_traces mod_act mod_with mod_lineMany mod_testEnd mod_lineEnd mod_facts mod_pile) else (if (mod_facts (0 : Int32).toNatClampNeg) = (6 : Int32) then (B_X12_isSo_96 mod_code mod_shoes mod_claims mod_taped mod_here mod_fault mod_suits mod_doneMany mod_undoneMany mod_open mod_laid mod_isBoth mod_wished mod_bestMany mod_bestRow mod_ringDigits mod_traces mod_act mod_with mod_lineMany mod_testEnd mod_lineEnd mod_facts mod_pile) else (if (mod_facts (0 : Int32).toNatClampNeg) = (3 : Int32) then (B_X12_isSo_96 mod_code mod_shoes mod_claims mod_taped mod_here mod_fault mod_suits mod_doneMany mod_undoneMany mod_open mod_laid mod_isBoth mod_wished mod_bestMany mod_bestRow mod_ringDigits mod_traces mod_act mod_with mod_lineMany mod_testEnd mod_lineEnd mod_facts mod_pile) else (some ((0 : Int32), mod_pile)))))) else (if x1 = (1 : Int32) then (if (mod_facts (9 : Int32).toNatClampNeg) = 0 then (some ((0 : Int32), mod_pile)) else (if (mod_facts (10 : Int32).toNatClampNeg) = 0 then (some ((0 : Int32), mod_pile)) else (some ((1 : Int32), mod_pile)))) else (if x1 = (2 : Int32) then (if (3 : Int32) ≤ (mod_facts (10 : Int32).toNatClampNeg) then (some ((0 : Int32), mod_pile)) else (some ((1 : Int32), mod_pile))) else (some ((1 : Int32), mod_pile))))) else (zk_b2 (f_X12_gives 100000 v_1 mod_code mod_shoes mod_claims mod_taped mod_here mod_fault mod_suits mod_doneMany mod_undoneMany mod_open mod_laid mod_isBoth mod_wished mod_bestMany mod_bestRow mod_ringDigits mod_traces mod_act mod_with mod_lineMany mod_testEnd mod_lineEnd mod_facts mod_pile) (fun r_14 u_15 => (if r_14 = 0 then (some ((0 : Int32), u_15)) else (some ((1 : Int32), u_15)))))))))
def f_X12_isSo   (x1 : Int32) (x2 : Int32) (mod_code : Int32) (mod_shoes : Int32) (mod_claims : Int32) (mod_taped : Int32) (mod_here : Int32) (mod_fault : Int32) (mod_suits : Int32) (mod_doneMany : Int32) (mod_undoneMany : Int32) (mod_open : Int32) (mod_laid : Int32) (mod_isBoth : Int32) (mod_wished : Int32) (mod_bestMany : Int32) (mod_bestRow : Int32) (mod_ringDigits : Int32) (mod_traces : Int32) (mod_act : Nat → Int32) (mod_with : Nat → Int32) (mod_lineMany : Nat → Int32) (mod_testEnd : Nat → Int32) (mod_lineEnd : Nat → Int32) (mod_facts : Nat → Int32) (mod_pile : Nat → Int32) : Option (Int32 × (Nat → Int32)) := B_X12_isSo_0   mod_code mod_shoes mod_claims mod_taped mod_here mod_fault mod_suits mod_doneMany mod_undoneMany mod_open mod_laid mod_isBoth mod_wished mod_bestMany mod_bestRow mod_ringDigits mod_traces mod_act mod_with mod_lineMany mod_testEnd mod_lineEnd mod_facts x1 x2 mod_pile
set_option maxHeartbeats 4000000 in
set_option maxRecDepth 100000 in
theorem L_X12_isSo_96 {p : Program} {l : Launch} {e : Env} {s : State} {m : MethodId} {args : Array Value} {below : List Frame} {meth : Method} {c : Code} {A : Nat → Prop} {D : va_G} {cs : Nat → ClassId} {ad : Nat → Nat} {mod_code : Int32} {mod_shoes : Int32} {mod_claims : Int32} {mod_taped : Int32} {mod_here : Int32} {mod_fault : Int32} {mod_suits : Int32} {mod_doneMany : Int32} {mod_undoneMany : Int32} {mod_open : Int32} {mod_laid : Int32} {mod_isBoth : Int32} {mod_wished : Int32} {mod_bestMany : Int32} {mod_bestRow : Int32} {mod_ringDigits : Int32} {mod_traces : Int32} {mod_act : Nat → Int32} {mod_with : Nat → Int32} {mod_lineMany : Nat → Int32} {mod_testEnd : Nat → Int32} {mod_lineEnd : Nat → Int32} {mod_facts : Nat → Int32} {R : Int32 × (Nat → Int32)} (C0 : zC p s m args meth c cX12_isSo 4 (some .boolean) RX12 zW) (hK : va_K D classes (zT cs) s) (hA : ∀ q : Nat, s.heap.size ≤ q → A q) (mod_pile : Nat → Int32) (h : B_X12_isSo_96 mod_code mod_shoes mod_claims mod_taped mod_here mod_fault mod_suits mod_doneMany mod_undoneMany mod_open mod_laid mod_isBoth mod_wished mod_bestMany mod_bestRow mod_ringDigits mod_traces mod_act mod_with mod_lineMany mod_testEnd mod_lineEnd mod_facts mod_pile = some R) (H : Heap) (locs : List Loc) (ls : Array Slot) (hP : va_P D classes (wl_X12_isSo ad cs mod_code mod_shoes mod_claims mod_taped mod_here mod_fault mod_suits mod_doneMany mod_undoneMany mod_open mod_laid mod_isBoth mod_wished mod_bestMany mod_bestRow mod_ringDigits mod_traces mod_act mod_with mod_lineMany mod_testEnd mod_lineEnd mod_facts mod_pile) H) (hD : va_D A (wl_X12_isSo ad cs mod_code mod_shoes mod_claims mod_taped mod_here mod_fault mod_suits mod_doneMany mod_undoneMany mod_open mod_laid mod_isBoth mod_wished mod_bestMany mod_bestRow mod_ringDigits mod_traces mod_act mod_with mod_lineMany mod_testEnd mod_lineEnd mod_facts mod_pile)) (hS : va_S A s.heap H locs) (hl : lv_has ls 4 []) : W p l e rm_X12_isSo s m args below meth c H locs 0 0 (MQ below (Q_X12_isSo D cs ad mod_code mod_shoes mod_claims mod_taped mod_here mod_fault mod_suits mod_doneMany mod_undoneMany mod_open mod_laid mod_isBoth mod_wished mod_bestMany mod_bestRow mod_ringDigits mod_traces mod_act mod_with mod_lineMany mod_testEnd mod_lineEnd mod_facts A R) args s 0 0 A) (F0 m 96 ls []) := by
  obtain ⟨hx, hb, hr, hml, hown, ht, hlocks⟩ := id C0
  refine lv_iconst (v := (1 : Int32)) hx hb dX12_isSo_96 (by decide) ?_
  refine lv_goto (tgt := 101) hx hb dX12_isSo_97 (by decide) ?_
  exact W.zret (ty := .boolean) (v := (1 : Int32)) hx hb hr rfl (fun t ht2 hW => ⟨⟨(1 : Int32), mod_pile, rfl, Option.some.inj h, by rw [ht2]; exact hP, hD⟩, hS.F ht2⟩) hS.2.2 dX12_isSo_101 hlocks
set_option maxHeartbeats 4000000 in
set_option maxRecDepth 100000 in
theorem L_X12_isSo_0 {p : Program} {l : Launch} {e : Env} {s : State} {m : MethodId} {args : Array Value} {below : List Frame} {meth : Method} {c : Code} {A : Nat → Prop} {D : va_G} {cs : Nat → ClassId} {ad : Nat → Nat} {mod_code : Int32} {mod_shoes : Int32} {mod_claims : Int32} {mod_taped : Int32} {mod_here : Int32} {mod_fault : Int32} {mod_suits : Int32} {mod_doneMany : Int32} {mod_undoneMany : Int32} {mod_open : Int32} {mod_laid : Int32} {mod_isBoth : Int32} {mod_wished : Int32} {mod_bestMany : Int32} {mod_bestRow : Int32} {mod_ringDigits : Int32} {mod_traces : Int32} {mod_act : Nat → Int32} {mod_with : Nat → Int32} {mod_lineMany : Nat → Int32} {mod_testEnd : Nat → Int32} {mod_lineEnd : Nat → Int32} {mod_facts : Nat → Int32} {R : Int32 × (Nat → Int32)} (C0 : zC p s m args meth c cX12_isSo 4 (some .boolean) RX12 zW) (hK : va_K D classes (zT cs) s) (hA : ∀ q : Nat, s.heap.size ≤ q → A q) (x1 : Int32) (x2 : Int32) (mod_pile : Nat → Int32) (h : B_X12_isSo_0 mod_code mod_shoes mod_claims mod_taped mod_here mod_fault mod_suits mod_doneMany mod_undoneMany mod_open mod_laid mod_isBoth mod_wished mod_bestMany mod_bestRow mod_ringDigits mod_traces mod_act mod_with mod_lineMany mod_testEnd mod_lineEnd mod_facts x1 x2 mod_pile = some R) (H : Heap) (locs : List Loc) (ls : Array Slot) (hP : va_P D classes (wl_X12_isSo ad cs mod_code mod_shoes mod_claims mod_taped mod_here mod_fault mod_suits mod_doneMany mod_undoneMany mod_open mod_laid mod_isBoth mod_wished mod_bestMany mod_bestRow mod_ringDigits mod_traces mod_act mod_with mod_lineMany mod_testEnd mod_lineEnd mod_facts mod_pile) H) (hD : va_D A (wl_X12_isSo ad cs mod_code mod_shoes mod_claims mod_taped mod_here mod_fault mod_suits mod_doneMany mod_undoneMany mod_open mod_laid mod_isBoth mod_wished mod_bestMany mod_bestRow mod_ringDigits mod_traces mod_act mod_with mod_lineMany mod_testEnd mod_lineEnd mod_facts mod_pile)) (hS : va_S A s.heap H locs) (hl : lv_has ls 4 [(0, .ref (ad 41)), (1, .int x1), (2, .int x2)]) : W p l e rm_X12_isSo s m args below meth c H locs 0 0 (MQ below (Q_X12_isSo D cs ad mod_code mod_shoes mod_claims mod_taped mod_here mod_fault mod_suits mod_doneMany mod_undoneMany mod_open mod_laid mod_isBoth mod_wished mod_bestMany mod_bestRow mod_ringDigits mod_traces mod_act mod_with mod_lineMany mod_testEnd mod_lineEnd mod_facts A R) args s 0 0 A) (F0 m 0 ls []) := by
  obtain ⟨hx, hb, hr, hml, hown, ht, hlocks⟩ := id C0
  refine lv_bipush (v := (8 : Int32)) hx hb dX12_isSo_0 (by decide) ?_
  refine lv_iload_n hx hb dX12_isSo_2 rfl (lv_at hl 1 rfl) ?_
  refine lv_imul hx hb dX12_isSo_3 ?_
  refine lv_iload_n hx hb dX12_isSo_4 rfl (lv_at hl 2 rfl) ?_
  refine lv_iadd hx hb dX12_isSo_5 ?_
  obtain ⟨v_1, ev_1, h⟩ := zk_lt h
  refine W.eq (g2 := F0 m 6 ls [.int v_1]) (by rw [ev_1]) ?_
  refine lv_istore_n (lv' := [(3, .int v_1), (0, .ref (ad 41)), (1, .int x1), (2, .int x2)]) hx hb dX12_isSo_6 rfl hl (by decide) rfl (fun ls hl => ?_)
  refine lv_aload_n hx hb dX12_isSo_7 rfl (lv_at hl 1 rfl) ?_
  refine va_get (D := D) (ci := 12) (v := .ref (ad 68)) (C := RX12) (T := TX12) (N := 60) hx hb ht iX12 hown hK hP 0 rfl rfl 37 (by decide) (ht _ kw_1332) (fun _ h9 => h9) rfl dX12_isSo_8 ?_
  refine lv_iload_n hx hb dX12_isSo_11 rfl (lv_at hl 0 rfl) ?_
  obtain ⟨g_2, h⟩ := zk_gd h
  refine va_iald hx hb hK hP 3 0 rfl rfl g_2 dX12_isSo_12 ?_
  refine lv_if_le (tgt := 30) hx hb dX12_isSo_13 (by decide) (fun c_3 => ?_) (fun c_3 => ?_)
  · have h := zk_t c_3 h
    refine lv_iload_n hx hb dX12_isSo_30 rfl (lv_at hl 2 rfl) ?_
    by_cases c_11 : x1 = (0 : Int32)
    · have h := zk_t c_11 h
      refine lv_tableIn (tgt := 56) hx hb dX12_isSo_31 (by rw [c_11]; decide) (by rw [c_11]; decide) (by rw [c_11]; rfl) (by decide) ?_
      refine lv_aload_n hx hb dX12_isSo_56 rfl (lv_at hl 1 rfl) ?_
      refine va_get (D := D) (ci := 12) (v := .ref (ad 71)) (C := RX12) (T := TX12) (N := 60) hx hb ht iX12 hown hK hP 0 rfl rfl 40 (by decide) (ht _ kw_1335) (fun _ h9 => h9) rfl dX12_isSo_57 ?_
      refine lv_iconst (v := (5 : Int32)) hx hb dX12_isSo_60 (by decide) ?_
      refine va_iald hx hb hK hP 6 0 rfl rfl (by unfold vp_in; decide) dX12_isSo_61 ?_
      refine lv_if_eq (tgt := 100) hx hb dX12_isSo_62 (by decide) (fun c_4 => ?_) (fun c_4 => ?_)
      · have h := zk_t c_4 h
        refine lv_iconst (v := (0 : Int32)) hx hb dX12_isSo_100 (by decide) ?_
        exact W.zret (ty := .boolean) (v := (0 : Int32)) hx hb hr rfl (fun t ht2 hW => ⟨⟨(0 : Int32), mod_pile, rfl, Option.some.inj h, by rw [ht2]; exact hP, hD⟩, hS.F ht2⟩) hS.2.2 dX12_isSo_101 hlocks
      · have h := zk_f c_4 h
        refine lv_aload_n hx hb dX12_isSo_65 rfl (lv_at hl 1 rfl) ?_
        refine va_get (D := D) (ci := 12) (v := .ref (ad 71)) (C := RX12) (T := TX12) (N := 60) hx hb ht iX12 hown hK hP 0 rfl rfl 40 (by decide) (ht _ kw_1335) (fun _ h9 => h9) rfl dX12_isSo_66 ?_
        refine lv_iconst (v := (0 : Int32)) hx hb dX12_isSo_69 (by decide) ?_
        refine va_iald hx hb hK hP 6 0 rfl rfl (by unfold vp_in; decide) dX12_isSo_70 ?_
        refine lv_iconst (v := (1 : Int32)) hx hb dX12_isSo_71 (by decide) ?_
        refine lv_icmp_eq (tgt := 96) hx hb dX12_isSo_72 (by decide) (fun c_5 => ?_) (fun c_5 => ?_)
        · have h := zk_t c_5 h
          exact L_X12_isSo_96 C0 hK hA   mod_pile h H locs ls hP hD hS (lv_sub hl [] rfl)
        · have h := zk_f c_5 h
          refine lv_aload_n hx hb dX12_isSo_75 rfl (lv_at hl 1 rfl) ?_
          refine va_get (D := D) (ci := 12) (v := .ref (ad 71)) (C := RX12) (T := TX12) (N := 60) hx hb ht iX12 hown hK hP 0 rfl rfl 40 (by decide) (ht _ kw_1335) (fun _ h9 => h9) rfl dX12_isSo_76 ?_
          refine lv_iconst (v := (0 : Int32)) hx hb dX12_isSo_79 (by decide) ?_
          refine va_iald hx hb hK hP 6 0 rfl rfl (by unfold vp_in; decide) dX12_isSo_80 ?_
          refine lv_bipush (v := (6 : Int32)) hx hb dX12_isSo_81 (by decide) ?_
          refine lv_icmp_eq (tgt := 96) hx hb dX12_isSo_83 (by decide) (fun c_6 => ?_) (fun c_6 => ?_)
          · have h := zk_t c_6 h
            exact L_X12_isSo_96 C0 hK hA   mod_pile h H locs ls hP hD hS (lv_sub hl [] rfl)
          · have h := zk_f c_6 h
            refine lv_aload_n hx hb dX12_isSo_86 rfl (lv_at hl 1 rfl) ?_
            refine va_get (D := D) (ci := 12) (v := .ref (ad 71)) (C := RX12) (T := TX12) (N := 60) hx hb ht iX12 hown hK hP 0 rfl rfl 40 (by decide) (ht _ kw_1335) (fun _ h9 => h9) rfl dX12_isSo_87 ?_
            refine lv_iconst (v := (0 : Int32)) hx hb dX12_isSo_90 (by decide) ?_
            refine va_iald hx hb hK hP 6 0 rfl rfl (by unfold vp_in; decide) dX12_isSo_91 ?_
            refine lv_iconst (v := (3 : Int32)) hx hb dX12_isSo_92 (by decide) ?_
            refine lv_icmp_ne (tgt := 100) hx hb dX12_isSo_93 (by decide) (fun c_7 => ?_) (fun c_7 => ?_)
            · have h := zk_f c_7 h
              refine lv_iconst (v := (0 : Int32)) hx hb dX12_isSo_100 (by decide) ?_
              exact W.zret (ty := .boolean) (v := (0 : Int32)) hx hb hr rfl (fun t ht2 hW => ⟨⟨(0 : Int32), mod_pile, rfl, Option.some.inj h, by rw [ht2]; exact hP, hD⟩, hS.F ht2⟩) hS.2.2 dX12_isSo_101 hlocks
            · have h := zk_t c_7 h
              exact L_X12_isSo_96 C0 hK hA   mod_pile h H locs ls hP hD hS (lv_sub hl [] rfl)
    · have h := zk_f c_11 h
      by_cases c_12 : x1 = (1 : Int32)
      · have h := zk_t c_12 h
        refine lv_tableIn (tgt := 102) hx hb dX12_isSo_31 (by rw [c_12]; decide) (by rw [c_12]; decide) (by rw [c_12]; rfl) (by decide) ?_
        refine lv_aload_n hx hb dX12_isSo_102 rfl (lv_at hl 1 rfl) ?_
        refine va_get (D := D) (ci := 12) (v := .ref (ad 71)) (C := RX12) (T := TX12) (N := 60) hx hb ht iX12 hown hK hP 0 rfl rfl 40 (by decide) (ht _ kw_1335) (fun _ h9 => h9) rfl dX12_isSo_103 ?_
        refine lv_bipush (v := (9 : Int32)) hx hb dX12_isSo_106 (by decide) ?_
        refine va_iald hx hb hK hP 6 0 rfl rfl (by unfold vp_in; decide) dX12_isSo_108 ?_
        refine lv_if_eq (tgt := 126) hx hb dX12_isSo_109 (by decide) (fun c_8 => ?_) (fun c_8 => ?_)
        · have h := zk_t c_8 h
          refine lv_iconst (v := (0 : Int32)) hx hb dX12_isSo_126 (by decide) ?_
          exact W.zret (ty := .boolean) (v := (0 : Int32)) hx hb hr rfl (fun t ht2 hW => ⟨⟨(0 : Int32), mod_pile, rfl, Option.some.inj h, by rw [ht2]; exact hP, hD⟩, hS.F ht2⟩) hS.2.2 dX12_isSo_127 hlocks
        · have h := zk_f c_8 h
          refine lv_aload_n hx hb dX12_isSo_112 rfl (lv_at hl 1 rfl) ?_
          refine va_get (D := D) (ci := 12) (v := .ref (ad 71)) (C := RX12) (T := TX12) (N := 60) hx hb ht iX12 hown hK hP 0 rfl rfl 40 (by decide) (ht _ kw_1335) (fun _ h9 => h9) rfl dX12_isSo_113 ?_
          refine lv_bipush (v := (10 : Int32)) hx hb dX12_isSo_116 (by decide) ?_
          refine va_iald hx hb hK hP 6 0 rfl rfl (by unfold vp_in; decide) dX12_isSo_118 ?_
          refine lv_if_eq (tgt := 126) hx hb dX12_isSo_119 (by decide) (fun c_9 => ?_) (fun c_9 => ?_)
          · have h := zk_t c_9 h
            refine lv_iconst (v := (0 : Int32)) hx hb dX12_isSo_126 (by decide) ?_
            exact W.zret (ty := .boolean) (v := (0 : Int32)) hx hb hr rfl (fun t ht2 hW => ⟨⟨(0 : Int32), mod_pile, rfl, Option.some.inj h, by rw [ht2]; exact hP, hD⟩, hS.F ht2⟩) hS.2.2 dX12_isSo_127 hlocks
          · have h := zk_f c_9 h
            refine lv_iconst (v := (1 : Int32)) hx hb dX12_isSo_122 (by decide) ?_
            refine lv_goto (tgt := 127) hx hb dX12_isSo_123 (by decide) ?_
            exact W.zret (ty := .boolean) (v := (1 : Int32)) hx hb hr rfl (fun t ht2 hW => ⟨⟨(1 : Int32), mod_pile, rfl, Option.some.inj h, by rw [ht2]; exact hP, hD⟩, hS.F ht2⟩) hS.2.2 dX12_isSo_127 hlocks
      · have h := zk_f c_12 h
        by_cases c_13 : x1 = (2 : Int32)
        · have h := zk_t c_13 h
          refine lv_tableIn (tgt := 128) hx hb dX12_isSo_31 (by rw [c_13]; decide) (by rw [c_13]; decide) (by rw [c_13]; rfl) (by decide) ?_
          refine lv_aload_n hx hb dX12_isSo_128 rfl (lv_at hl 1 rfl) ?_
          refine va_get (D := D) (ci := 12) (v := .ref (ad 71)) (C := RX12) (T := TX12) (N := 60) hx hb ht iX12 hown hK hP 0 rfl rfl 40 (by decide) (ht _ kw_1335) (fun _ h9 => h9) rfl dX12_isSo_129 ?_
          refine lv_bipush (v := (10 : Int32)) hx hb dX12_isSo_132 (by decide) ?_
          refine va_iald hx hb hK hP 6 0 rfl rfl (by unfold vp_in; decide) dX12_isSo_134 ?_
          refine lv_iconst (v := (3 : Int32)) hx hb dX12_isSo_135 (by decide) ?_
          refine lv_icmp_ge (tgt := 143) hx hb dX12_isSo_136 (by decide) (fun c_10 => ?_) (fun c_10 => ?_)
          · have h := zk_t c_10 h
            refine lv_iconst (v := (0 : Int32)) hx hb dX12_isSo_143 (by decide) ?_
            exact W.zret (ty := .boolean) (v := (0 : Int32)) hx hb hr rfl (fun t ht2 hW => ⟨⟨(0 : Int32), mod_pile, rfl, Option.some.inj h, by rw [ht2]; exact hP, hD⟩, hS.F ht2⟩) hS.2.2 dX12_isSo_144 hlocks
          · have h := zk_f c_10 h
            refine lv_iconst (v := (1 : Int32)) hx hb dX12_isSo_139 (by decide) ?_
            refine lv_goto (tgt := 144) hx hb dX12_isSo_140 (by decide) ?_
            exact W.zret (ty := .boolean) (v := (1 : Int32)) hx hb hr rfl (fun t ht2 hW => ⟨⟨(1 : Int32), mod_pile, rfl, Option.some.inj h, by rw [ht2]; exact hP, hD⟩, hS.F ht2⟩) hS.2.2 dX12_isSo_144 hlocks
        · have h := zk_f c_13 h
          refine lv_tableOut (tgt := 145) hx hb dX12_isSo_31 (zk_out (lo := 0) (hi := 2) [(0 : Int32), (1 : Int32), (2 : Int32)] (by decide +kernel) (List.forall_mem_cons.mpr ⟨c_11, List.forall_mem_cons.mpr ⟨c_12, List.forall_mem_cons.mpr ⟨c_13, fun _ h => absurd h List.not_mem_nil⟩⟩⟩)) (by decide) ?_
          refine lv_iconst (v := (1 : Int32)) hx hb dX12_isSo_145 (by decide) ?_
          exact W.zret (ty := .boolean) (v := (1 : Int32)) hx hb hr rfl (fun t ht2 hW => ⟨⟨(1 : Int32), mod_pile, rfl, Option.some.inj h, by rw [ht2]; exact hP, hD⟩, hS.F ht2⟩) hS.2.2 dX12_isSo_146 hlocks
  · have h := zk_f c_3 h
    refine lv_aload_n hx hb dX12_isSo_16 rfl (lv_at hl 1 rfl) ?_
    refine lv_iload_n hx hb dX12_isSo_17 rfl (lv_at hl 0 rfl) ?_
    obtain ⟨r_14, u_15, hc_16, h⟩ := zk_o2 h
    refine zz_vi (post := (fun r u => (r, u) = (r_14, u_15))) (w1 := fun u => (wl_X12_gives ad cs mod_code mod_shoes mod_claims mod_taped mod_here mod_fault mod_suits mod_doneMany mod_undoneMany mod_open mod_laid mod_isBoth mod_wished mod_bestMany mod_bestRow mod_ringDigits mod_traces mod_act mod_with mod_lineMany mod_testEnd mod_lineEnd mod_facts u)) (As := [.int v_1]) (rest := []) (c_X12_gives l D cs ad  H.size 100000 v_1 mod_code mod_shoes mod_claims mod_taped mod_here mod_fault mod_suits mod_doneMany mod_undoneMany mod_open mod_laid mod_isBoth mod_wished mod_bestMany mod_bestRow mod_ringDigits mod_traces mod_act mod_with mod_lineMany mod_testEnd mod_lineEnd mod_facts mod_pile (r_14, u_15) hc_16) ⟨hx, hb, hml, hown, ht⟩ (cwV 1 ht g_X12_302 rfl rfl rfl ⟨rfl, hd_X12_gives⟩ ⟨Nat.le_of_ble_eq_true rfl, Nat.le_of_ble_eq_true rfl⟩) (va_recv hK hP (ci := 12) (q0 := 0) rfl rfl) hP hD hS hK hA [0, 1, 2, 3, 4, 5, 6, 7] rfl rfl [(ad 41), (ad 66), (ad 67), (ad 68), (ad 69), (ad 70), (ad 71), (ad 72)] rfl (fun _ => rfl) rfl hl.1 (Nat.le_of_ble_eq_true rfl) dX12_isSo_18 ⟨Nat.zero_le _, Nat.zero_le _⟩ (fun r u H locs hq hP hS => ?_)
    cases hq
    have hP : va_P D classes (wl_X12_isSo ad cs mod_code mod_shoes mod_claims mod_taped mod_here mod_fault mod_suits mod_doneMany mod_undoneMany mod_open mod_laid mod_isBoth mod_wished mod_bestMany mod_bestRow mod_ringDigits mod_traces mod_act mod_with mod_lineMany mod_testEnd mod_lineEnd mod_facts u_15) H := hP
    have hD : va_D A (wl_X12_isSo ad cs mod_code mod_shoes mod_claims mod_taped mod_here mod_fault mod_suits mod_doneMany mod_undoneMany mod_open mod_laid mod_isBoth mod_wished mod_bestMany mod_bestRow mod_ringDigits mod_traces mod_act mod_with mod_lineMany mod_testEnd mod_lineEnd mod_facts u_15) := zDk hD [(ad 41), (ad 66), (ad 67), (ad 68), (ad 69), (ad 70), (ad 71), (ad 72)] rfl rfl
    refine lv_if_eq (tgt := 28) hx hb dX12_isSo_21 (by decide) (fun c_17 => ?_) (fun c_17 => ?_)
    · have h := zk_t c_17 h
      refine lv_iconst (v := (0 : Int32)) hx hb dX12_isSo_28 (by decide) ?_
      exact W.zret (ty := .boolean) (v := (0 : Int32)) hx hb hr rfl (fun t ht2 hW => ⟨⟨(0 : Int32), u_15, rfl, Option.some.inj h, by rw [ht2]; exact hP, hD⟩, hS.F ht2⟩) hS.2.2 dX12_isSo_29 hlocks
    · have h := zk_f c_17 h
      refine lv_iconst (v := (1 : Int32)) hx hb dX12_isSo_24 (by decide) ?_
      refine lv_goto (tgt := 29) hx hb dX12_isSo_25 (by decide) ?_
      exact W.zret (ty := .boolean) (v := (1 : Int32)) hx hb hr rfl (fun t ht2 hW => ⟨⟨(1 : Int32), u_15, rfl, Option.some.inj h, by rw [ht2]; exact hP, hD⟩, hS.F ht2⟩) hS.2.2 dX12_isSo_29 hlocks
set_option maxHeartbeats 4000000 in
set_option maxRecDepth 100000 in
theorem c_X12_isSo (l : Launch) (D : va_G) (cs : Nat → ClassId) (ad : Nat → Nat) (sz : Nat) (x1 : Int32) (x2 : Int32) (mod_code : Int32) (mod_shoes : Int32) (mod_claims : Int32) (mod_taped : Int32) (mod_here : Int32) (mod_fault : Int32) (mod_suits : Int32) (mod_doneMany : Int32) (mod_undoneMany : Int32) (mod_open : Int32) (mod_laid : Int32) (mod_isBoth : Int32) (mod_wished : Int32) (mod_bestMany : Int32) (mod_bestRow : Int32) (mod_ringDigits : Int32) (mod_traces : Int32) (mod_act : Nat → Int32) (mod_with : Nat → Int32) (mod_lineMany : Nat → Int32) (mod_testEnd : Nat → Int32) (mod_lineEnd : Nat → Int32) (mod_facts : Nat → Int32) (mod_pile : Nat → Int32) (R : Int32 × (Nat → Int32)) (h : f_X12_isSo   x1 x2 mod_code mod_shoes mod_claims mod_taped mod_here mod_fault mod_suits mod_doneMany mod_undoneMany mod_open mod_laid mod_isBoth mod_wished mod_bestMany mod_bestRow mod_ringDigits mod_traces mod_act mod_with mod_lineMany mod_testEnd mod_lineEnd mod_facts mod_pile = some R) : Met l yX12_isSo (z_X12_isSo) rm_X12_isSo (va_Pc [.ref (ad 41), .int x1, .int x2] (zPre D cs (wl_X12_isSo ad cs mod_code mod_shoes mod_claims mod_taped mod_here mod_fault mod_suits mod_doneMany mod_undoneMany mod_open mod_laid mod_isBoth mod_wished mod_bestMany mod_bestRow mod_ringDigits mod_traces mod_act mod_with mod_lineMany mod_testEnd mod_lineEnd mod_facts mod_pile) sz)) (Q_X12_isSo D cs ad mod_code mod_shoes mod_claims mod_taped mod_here mod_fault mod_suits mod_doneMany mod_undoneMany mod_open mod_laid mod_isBoth mod_wished mod_bestMany mod_bestRow mod_ringDigits mod_traces mod_act mod_with mod_lineMany mod_testEnd mod_lineEnd mod_facts (va_A (wl_X12_isSo ad cs mod_code mod_shoes mod_claims mod_taped mod_here mod_fault mod_suits mod_doneMany mod_undoneMany mod_open mod_laid mod_isBoth mod_wished mod_bestMany mod_bestRow mod_ringDigits mod_traces mod_act mod_with mod_lineMany mod_testEnd mod_lineEnd mod_facts mod_pile) sz) R) 0 0 (va_A (wl_X12_isSo ad cs mod_code mod_shoes mod_claims mod_taped mod_here mod_fault mod_suits mod_doneMany mod_undoneMany mod_open mod_laid mod_isBoth mod_wished mod_bestMany mod_bestRow mod_ringDigits mod_traces mod_act mod_with mod_lineMany mod_testEnd mod_lineEnd mod_facts mod_pile) sz) := by
  refine Met.ofW (cc := cX12_isSo) (maxL := 4) (ret := (some .boolean)) (by decide) rfl ?_
  intro p e s m args below meth c s₁ B hml hv
  obtain ⟨rfl, hsz, hP, hK, hD0⟩ := hv
  subst hsz
  have hD := hD0.self (sz := s.heap.size)
  have C0 : zC p s m _ meth c cX12_isSo 4 (some .boolean) RX12 zW := ⟨B.exec, B.bytes, B.returns, hml, findClass_of_methodNamed B.named, fun w hw => atoms_spec (ws := z_X12_isSo) B.pre w (List.mem_cons_of_mem _ hw), B.notSynchronized⟩
  have hA : ∀ q : Nat, s.heap.size ≤ q → va_A (wl_X12_isSo ad cs mod_code mod_shoes mod_claims mod_taped mod_here mod_fault mod_suits mod_doneMany mod_undoneMany mod_open mod_laid mod_isBoth mod_wished mod_bestMany mod_bestRow mod_ringDigits mod_traces mod_act mod_with mod_lineMany mod_testEnd mod_lineEnd mod_facts mod_pile) s.heap.size q := fun q h => Or.inr h
  have hl := lv_entry ([.ref (ad 41), .int x1, .int x2]) (n := 4) (Nat.le_of_ble_eq_true rfl)
  rw [lg_entry_eq]
  generalize (lg_sl ([.ref (ad 41), .int x1, .int x2]) ++ List.replicate (4 - (lg_sl ([.ref (ad 41), .int x1, .int x2])).length) Slot.unset).toArray = ls at hl ⊢
  exact L_X12_isSo_0 C0 hK hA   x1 x2 mod_pile h s.heap [] ls hP hD va_S.rf hl
