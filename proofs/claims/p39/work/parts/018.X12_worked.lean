theorem kw_1335 : Cond.fieldLink RX12 99 "AlreadyJudgedModel" "facts" "[I" ∈ zW := zwC (i := 61) zc_6 rfl rfl
theorem kw_1336 : Cond.fieldLink RX12 102 "AlreadyJudgedModel" "pile" "[I" ∈ zW := zwC (i := 62) zc_6 rfl rfl
theorem kw_1689 : Cond.methodLink RX12 296 yX12_twoOf ∈ zW := zwC (i := 175) zc_7 rfl rfl
theorem kw_1690 : Cond.static yX12_twoOf ∈ zW := zwC (i := 176) zc_7 rfl rfl
theorem kw_1691 : Cond.code yX12_twoOf cX12_twoOf 3 (some .int) ∈ zW := zwC (i := 177) zc_7 rfl rfl
theorem zh_cX12_worked_0 : zck [3, 54, 4, 17, 0, 130, 27, 104, 28, 96, 54, 5, 21, 5, 17, 0, 130, 27, 104, 29, 96, 162] (zdu 0 cX12_worked.data.toList) = true := by decide +kernel
theorem dX12_worked_0 : decode cX12_worked 0 = .ok (.iconst 0, 1) := zo_3 zh_cX12_worked_0 0 rfl
theorem dX12_worked_1 : decode cX12_worked 1 = .ok (.istore 4, 2) := zo_54 zh_cX12_worked_0 1 rfl
theorem dX12_worked_3 : decode cX12_worked 3 = .ok (.sipush 130, 3) := zo_p17 zh_cX12_worked_0 3 130 rfl rfl
theorem dX12_worked_6 : decode cX12_worked 6 = .ok (.iload_n 1, 1) := zo_27 zh_cX12_worked_0 6 rfl
theorem dX12_worked_7 : decode cX12_worked 7 = .ok (.imul, 1) := zo_104 zh_cX12_worked_0 7 rfl
theorem dX12_worked_8 : decode cX12_worked 8 = .ok (.iload_n 2, 1) := zo_28 zh_cX12_worked_0 8 rfl
theorem dX12_worked_9 : decode cX12_worked 9 = .ok (.iadd, 1) := zo_96 zh_cX12_worked_0 9 rfl
theorem dX12_worked_10 : decode cX12_worked 10 = .ok (.istore 5, 2) := zo_54 zh_cX12_worked_0 10 rfl
theorem dX12_worked_12 : decode cX12_worked 12 = .ok (.iload 5, 2) := zo_21 zh_cX12_worked_0 12 rfl
theorem dX12_worked_14 : decode cX12_worked 14 = .ok (.sipush 130, 3) := zo_p17 zh_cX12_worked_0 14 130 rfl rfl
theorem dX12_worked_17 : decode cX12_worked 17 = .ok (.iload_n 1, 1) := zo_27 zh_cX12_worked_0 17 rfl
theorem dX12_worked_18 : decode cX12_worked 18 = .ok (.imul, 1) := zo_104 zh_cX12_worked_0 18 rfl
theorem dX12_worked_19 : decode cX12_worked 19 = .ok (.iload_n 3, 1) := zo_29 zh_cX12_worked_0 19 rfl
theorem zh_cX12_worked_1 : zck [96, 162, 0, 167, 42, 180, 0, 83, 21, 5, 51, 54, 6, 21, 6, 4, 159, 0, 9, 21, 6, 5] (zdu 20 cX12_worked.data.toList) = true := by decide +kernel
theorem dX12_worked_20 : decode cX12_worked 20 = .ok (.iadd, 1) := zo_96 zh_cX12_worked_1 0 rfl
theorem dX12_worked_21 : decode cX12_worked 21 = .ok (.if_icmp .ge 167, 3) := zo_p162 zh_cX12_worked_1 1 167 rfl rfl
theorem dX12_worked_24 : decode cX12_worked 24 = .ok (.aload_n 0, 1) := zo_42 zh_cX12_worked_1 4 rfl
theorem dX12_worked_25 : decode cX12_worked 25 = .ok (.getfield 83, 3) := zo_180 zh_cX12_worked_1 5 rfl
theorem dX12_worked_28 : decode cX12_worked 28 = .ok (.iload 5, 2) := zo_21 zh_cX12_worked_1 8 rfl
theorem dX12_worked_30 : decode cX12_worked 30 = .ok (.baload, 1) := zo_51 zh_cX12_worked_1 10 rfl
theorem dX12_worked_31 : decode cX12_worked 31 = .ok (.istore 6, 2) := zo_54 zh_cX12_worked_1 11 rfl
theorem dX12_worked_33 : decode cX12_worked 33 = .ok (.iload 6, 2) := zo_21 zh_cX12_worked_1 13 rfl
theorem dX12_worked_35 : decode cX12_worked 35 = .ok (.iconst 1, 1) := zo_4 zh_cX12_worked_1 15 rfl
theorem dX12_worked_36 : decode cX12_worked 36 = .ok (.if_icmp .eq 9, 3) := zo_p159 zh_cX12_worked_1 16 9 rfl rfl
theorem dX12_worked_39 : decode cX12_worked 39 = .ok (.iload 6, 2) := zo_21 zh_cX12_worked_1 19 rfl
theorem zh_cX12_worked_2 : zck [6, 5, 160, 0, 44, 42, 180, 0, 102, 21, 4, 21, 6, 4, 160, 0, 13, 42, 180, 0, 86, 21] (zdu 40 cX12_worked.data.toList) = true := by decide +kernel
theorem dX12_worked_41 : decode cX12_worked 41 = .ok (.iconst 2, 1) := zo_5 zh_cX12_worked_2 1 rfl
theorem dX12_worked_42 : decode cX12_worked 42 = .ok (.if_icmp .ne 44, 3) := zo_p160 zh_cX12_worked_2 2 44 rfl rfl
theorem dX12_worked_45 : decode cX12_worked 45 = .ok (.aload_n 0, 1) := zo_42 zh_cX12_worked_2 5 rfl
theorem dX12_worked_46 : decode cX12_worked 46 = .ok (.getfield 102, 3) := zo_180 zh_cX12_worked_2 6 rfl
theorem dX12_worked_49 : decode cX12_worked 49 = .ok (.iload 4, 2) := zo_21 zh_cX12_worked_2 9 rfl
theorem dX12_worked_51 : decode cX12_worked 51 = .ok (.iload 6, 2) := zo_21 zh_cX12_worked_2 11 rfl
theorem dX12_worked_53 : decode cX12_worked 53 = .ok (.iconst 1, 1) := zo_4 zh_cX12_worked_2 13 rfl
theorem dX12_worked_54 : decode cX12_worked 54 = .ok (.if_icmp .ne 13, 3) := zo_p160 zh_cX12_worked_2 14 13 rfl rfl
theorem dX12_worked_57 : decode cX12_worked 57 = .ok (.aload_n 0, 1) := zo_42 zh_cX12_worked_2 17 rfl
theorem dX12_worked_58 : decode cX12_worked 58 = .ok (.getfield 86, 3) := zo_180 zh_cX12_worked_2 18 rfl
theorem zh_cX12_worked_3 : zck [86, 21, 5, 46, 167, 0, 15, 42, 180, 0, 99, 42, 180, 0, 86, 21, 5, 46, 46, 79, 132, 4] (zdu 60 cX12_worked.data.toList) = true := by decide +kernel
theorem dX12_worked_61 : decode cX12_worked 61 = .ok (.iload 5, 2) := zo_21 zh_cX12_worked_3 1 rfl
theorem dX12_worked_63 : decode cX12_worked 63 = .ok (.iaload, 1) := zo_46 zh_cX12_worked_3 3 rfl
theorem dX12_worked_64 : decode cX12_worked 64 = .ok (.goto 15, 3) := zo_p167 zh_cX12_worked_3 4 15 rfl rfl
theorem dX12_worked_67 : decode cX12_worked 67 = .ok (.aload_n 0, 1) := zo_42 zh_cX12_worked_3 7 rfl
theorem dX12_worked_68 : decode cX12_worked 68 = .ok (.getfield 99, 3) := zo_180 zh_cX12_worked_3 8 rfl
theorem dX12_worked_71 : decode cX12_worked 71 = .ok (.aload_n 0, 1) := zo_42 zh_cX12_worked_3 11 rfl
theorem dX12_worked_72 : decode cX12_worked 72 = .ok (.getfield 86, 3) := zo_180 zh_cX12_worked_3 12 rfl
theorem dX12_worked_75 : decode cX12_worked 75 = .ok (.iload 5, 2) := zo_21 zh_cX12_worked_3 15 rfl
theorem dX12_worked_77 : decode cX12_worked 77 = .ok (.iaload, 1) := zo_46 zh_cX12_worked_3 17 rfl
theorem dX12_worked_78 : decode cX12_worked 78 = .ok (.iaload, 1) := zo_46 zh_cX12_worked_3 18 rfl
theorem dX12_worked_79 : decode cX12_worked 79 = .ok (.iastore, 1) := zo_79 zh_cX12_worked_3 19 rfl
theorem zh_cX12_worked_4 : zck [132, 4, 1, 167, 0, 99, 21, 6, 6, 160, 0, 32, 42, 180, 0, 102, 21, 4, 4, 100, 42, 180] (zdu 80 cX12_worked.data.toList) = true := by decide +kernel
theorem dX12_worked_80 : decode cX12_worked 80 = .ok (.iinc 4 1, 3) := zo_p132 zh_cX12_worked_4 0 1 rfl rfl
theorem dX12_worked_83 : decode cX12_worked 83 = .ok (.goto 99, 3) := zo_p167 zh_cX12_worked_4 3 99 rfl rfl
theorem dX12_worked_86 : decode cX12_worked 86 = .ok (.iload 6, 2) := zo_21 zh_cX12_worked_4 6 rfl
theorem dX12_worked_88 : decode cX12_worked 88 = .ok (.iconst 3, 1) := zo_6 zh_cX12_worked_4 8 rfl
theorem dX12_worked_89 : decode cX12_worked 89 = .ok (.if_icmp .ne 32, 3) := zo_p160 zh_cX12_worked_4 9 32 rfl rfl
theorem dX12_worked_92 : decode cX12_worked 92 = .ok (.aload_n 0, 1) := zo_42 zh_cX12_worked_4 12 rfl
theorem dX12_worked_93 : decode cX12_worked 93 = .ok (.getfield 102, 3) := zo_180 zh_cX12_worked_4 13 rfl
theorem dX12_worked_96 : decode cX12_worked 96 = .ok (.iload 4, 2) := zo_21 zh_cX12_worked_4 16 rfl
theorem dX12_worked_98 : decode cX12_worked 98 = .ok (.iconst 1, 1) := zo_4 zh_cX12_worked_4 18 rfl
theorem dX12_worked_99 : decode cX12_worked 99 = .ok (.isub, 1) := zo_100 zh_cX12_worked_4 19 rfl
theorem zh_cX12_worked_5 : zck [42, 180, 0, 102, 21, 4, 4, 100, 46, 154, 0, 7, 4, 167, 0, 4, 3, 79, 167, 0, 64, 21] (zdu 100 cX12_worked.data.toList) = true := by decide +kernel
theorem dX12_worked_100 : decode cX12_worked 100 = .ok (.aload_n 0, 1) := zo_42 zh_cX12_worked_5 0 rfl
theorem dX12_worked_101 : decode cX12_worked 101 = .ok (.getfield 102, 3) := zo_180 zh_cX12_worked_5 1 rfl
theorem dX12_worked_104 : decode cX12_worked 104 = .ok (.iload 4, 2) := zo_21 zh_cX12_worked_5 4 rfl
theorem dX12_worked_106 : decode cX12_worked 106 = .ok (.iconst 1, 1) := zo_4 zh_cX12_worked_5 6 rfl
theorem dX12_worked_107 : decode cX12_worked 107 = .ok (.isub, 1) := zo_100 zh_cX12_worked_5 7 rfl
theorem dX12_worked_108 : decode cX12_worked 108 = .ok (.iaload, 1) := zo_46 zh_cX12_worked_5 8 rfl
theorem dX12_worked_109 : decode cX12_worked 109 = .ok (.ifCond .ne 7, 3) := zo_p154 zh_cX12_worked_5 9 7 rfl rfl
theorem dX12_worked_112 : decode cX12_worked 112 = .ok (.iconst 1, 1) := zo_4 zh_cX12_worked_5 12 rfl
theorem dX12_worked_113 : decode cX12_worked 113 = .ok (.goto 4, 3) := zo_p167 zh_cX12_worked_5 13 4 rfl rfl
theorem dX12_worked_116 : decode cX12_worked 116 = .ok (.iconst 0, 1) := zo_3 zh_cX12_worked_5 16 rfl
theorem dX12_worked_117 : decode cX12_worked 117 = .ok (.iastore, 1) := zo_79 zh_cX12_worked_5 17 rfl
theorem dX12_worked_118 : decode cX12_worked 118 = .ok (.goto 64, 3) := zo_p167 zh_cX12_worked_5 18 64 rfl rfl
theorem zh_cX12_worked_6 : zck [64, 21, 6, 7, 160, 0, 25, 42, 180, 0, 102, 21, 4, 4, 100, 42, 180, 0, 102, 21, 4, 4] (zdu 120 cX12_worked.data.toList) = true := by decide +kernel
theorem dX12_worked_121 : decode cX12_worked 121 = .ok (.iload 6, 2) := zo_21 zh_cX12_worked_6 1 rfl
theorem dX12_worked_123 : decode cX12_worked 123 = .ok (.iconst 4, 1) := zo_7 zh_cX12_worked_6 3 rfl
theorem dX12_worked_124 : decode cX12_worked 124 = .ok (.if_icmp .ne 25, 3) := zo_p160 zh_cX12_worked_6 4 25 rfl rfl
theorem dX12_worked_127 : decode cX12_worked 127 = .ok (.aload_n 0, 1) := zo_42 zh_cX12_worked_6 7 rfl
theorem dX12_worked_128 : decode cX12_worked 128 = .ok (.getfield 102, 3) := zo_180 zh_cX12_worked_6 8 rfl
theorem dX12_worked_131 : decode cX12_worked 131 = .ok (.iload 4, 2) := zo_21 zh_cX12_worked_6 11 rfl
theorem dX12_worked_133 : decode cX12_worked 133 = .ok (.iconst 1, 1) := zo_4 zh_cX12_worked_6 13 rfl
theorem dX12_worked_134 : decode cX12_worked 134 = .ok (.isub, 1) := zo_100 zh_cX12_worked_6 14 rfl
theorem dX12_worked_135 : decode cX12_worked 135 = .ok (.aload_n 0, 1) := zo_42 zh_cX12_worked_6 15 rfl
theorem dX12_worked_136 : decode cX12_worked 136 = .ok (.getfield 102, 3) := zo_180 zh_cX12_worked_6 16 rfl
theorem dX12_worked_139 : decode cX12_worked 139 = .ok (.iload 4, 2) := zo_21 zh_cX12_worked_6 19 rfl
theorem zh_cX12_worked_7 : zck [4, 4, 100, 46, 116, 79, 167, 0, 36, 132, 4, 255, 42, 180, 0, 102, 21, 4, 4, 100, 21, 6] (zdu 140 cX12_worked.data.toList) = true := by decide +kernel
theorem dX12_worked_141 : decode cX12_worked 141 = .ok (.iconst 1, 1) := zo_4 zh_cX12_worked_7 1 rfl
theorem dX12_worked_142 : decode cX12_worked 142 = .ok (.isub, 1) := zo_100 zh_cX12_worked_7 2 rfl
theorem dX12_worked_143 : decode cX12_worked 143 = .ok (.iaload, 1) := zo_46 zh_cX12_worked_7 3 rfl
theorem dX12_worked_144 : decode cX12_worked 144 = .ok (.ineg, 1) := zo_116 zh_cX12_worked_7 4 rfl
theorem dX12_worked_145 : decode cX12_worked 145 = .ok (.iastore, 1) := zo_79 zh_cX12_worked_7 5 rfl
theorem dX12_worked_146 : decode cX12_worked 146 = .ok (.goto 36, 3) := zo_p167 zh_cX12_worked_7 6 36 rfl rfl
theorem zo_n132 {c : ByteArray} {s : Nat} {K : List Nat} (h : zck K (zdu s c.data.toList) = true) (k : Nat) {v : Nat} (m : Nat) (hk : zt4 K k 132 v (Nat.sub 255 m) = true) (hv : Nat.ble m 127 = true) : decode c (s + k) = .ok (.iinc v (Int.negSucc m), 3) := by
  rw [← zsn8 hv rfl]
  exact zde ((zbd (zu1 (zh4 h hk).1)).trans ((zbd (zh4 h hk).2.1).trans ((zbd (zdmp (zh4 h hk).2.2)).trans rfl)))
theorem dX12_worked_149 : decode cX12_worked 149 = .ok (.iinc 4 (-1), 3) := zo_n132 zh_cX12_worked_7 9 0 rfl rfl
theorem dX12_worked_152 : decode cX12_worked 152 = .ok (.aload_n 0, 1) := zo_42 zh_cX12_worked_7 12 rfl
theorem dX12_worked_153 : decode cX12_worked 153 = .ok (.getfield 102, 3) := zo_180 zh_cX12_worked_7 13 rfl
theorem dX12_worked_156 : decode cX12_worked 156 = .ok (.iload 4, 2) := zo_21 zh_cX12_worked_7 16 rfl
theorem dX12_worked_158 : decode cX12_worked 158 = .ok (.iconst 1, 1) := zo_4 zh_cX12_worked_7 18 rfl
theorem dX12_worked_159 : decode cX12_worked 159 = .ok (.isub, 1) := zo_100 zh_cX12_worked_7 19 rfl
theorem zh_cX12_worked_8 : zck [21, 6, 42, 180, 0, 102, 21, 4, 4, 100, 46, 42, 180, 0, 102, 21, 4, 46, 184, 1, 40, 79] (zdu 160 cX12_worked.data.toList) = true := by decide +kernel
theorem dX12_worked_160 : decode cX12_worked 160 = .ok (.iload 6, 2) := zo_21 zh_cX12_worked_8 0 rfl
theorem dX12_worked_162 : decode cX12_worked 162 = .ok (.aload_n 0, 1) := zo_42 zh_cX12_worked_8 2 rfl
theorem dX12_worked_163 : decode cX12_worked 163 = .ok (.getfield 102, 3) := zo_180 zh_cX12_worked_8 3 rfl
theorem dX12_worked_166 : decode cX12_worked 166 = .ok (.iload 4, 2) := zo_21 zh_cX12_worked_8 6 rfl
theorem dX12_worked_168 : decode cX12_worked 168 = .ok (.iconst 1, 1) := zo_4 zh_cX12_worked_8 8 rfl
theorem dX12_worked_169 : decode cX12_worked 169 = .ok (.isub, 1) := zo_100 zh_cX12_worked_8 9 rfl
theorem dX12_worked_170 : decode cX12_worked 170 = .ok (.iaload, 1) := zo_46 zh_cX12_worked_8 10 rfl
theorem dX12_worked_171 : decode cX12_worked 171 = .ok (.aload_n 0, 1) := zo_42 zh_cX12_worked_8 11 rfl
theorem dX12_worked_172 : decode cX12_worked 172 = .ok (.getfield 102, 3) := zo_180 zh_cX12_worked_8 12 rfl
theorem dX12_worked_175 : decode cX12_worked 175 = .ok (.iload 4, 2) := zo_21 zh_cX12_worked_8 15 rfl
theorem dX12_worked_177 : decode cX12_worked 177 = .ok (.iaload, 1) := zo_46 zh_cX12_worked_8 17 rfl
theorem dX12_worked_178 : decode cX12_worked 178 = .ok (.invokestatic 296, 3) := zo_184 zh_cX12_worked_8 18 rfl
theorem zh_cX12_worked_9 : zck [40, 79, 132, 5, 1, 167, 255, 83, 42, 180, 0, 102, 3, 46, 172] (zdu 180 cX12_worked.data.toList) = true := by decide +kernel
theorem dX12_worked_181 : decode cX12_worked 181 = .ok (.iastore, 1) := zo_79 zh_cX12_worked_9 1 rfl
theorem dX12_worked_182 : decode cX12_worked 182 = .ok (.iinc 5 1, 3) := zo_p132 zh_cX12_worked_9 2 1 rfl rfl
theorem dX12_worked_185 : decode cX12_worked 185 = .ok (.goto (-173), 3) := zo_n167 zh_cX12_worked_9 5 172 rfl rfl
theorem dX12_worked_188 : decode cX12_worked 188 = .ok (.aload_n 0, 1) := zo_42 zh_cX12_worked_9 8 rfl
theorem dX12_worked_189 : decode cX12_worked 189 = .ok (.getfield 102, 3) := zo_180 zh_cX12_worked_9 9 rfl
theorem dX12_worked_192 : decode cX12_worked 192 = .ok (.iconst 0, 1) := zo_3 zh_cX12_worked_9 12 rfl
theorem dX12_worked_193 : decode cX12_worked 193 = .ok (.iaload, 1) := zo_46 zh_cX12_worked_9 13 rfl
theorem dX12_worked_194 : decode cX12_worked 194 = .ok (.ireturn, 1) := zo_172 zh_cX12_worked_9 14 rfl
abbrev z_X12_worked : List Cond := .code yX12_worked cX12_worked 7 (some .int) :: zW
abbrev wl_X12_worked (ad : Nat → Nat) (cs : Nat → ClassId)  (mod_code : Int32) (mod_shoes : Int32) (mod_claims : Int32) (mod_taped : Int32) (mod_here : Int32) (mod_fault : Int32) (mod_suits : Int32) (mod_doneMany : Int32) (mod_undoneMany : Int32) (mod_open : Int32) (mod_laid : Int32) (mod_isBoth : Int32) (mod_wished : Int32) (mod_bestMany : Int32) (mod_bestRow : Int32) (mod_ringDigits : Int32) (mod_traces : Int32) (mod_act : Nat → Int32) (mod_with : Nat → Int32) (mod_facts : Nat → Int32) (mod_pile : Nat → Int32) : va_W := [((ad 41), .inr (12, [.int mod_code, .int mod_shoes, .ref (ad 42), .ref (ad 43), .ref (ad 44), .ref (ad 45), .int mod_claims, .ref (ad 46), .ref (ad 47), .ref (ad 48), .ref (ad 49), .ref (ad 50), .int mod_taped, .int mod_here, .int mod_fault, .int mod_suits, .ref (ad 51), .ref (ad 52), .ref (ad 53), .ref (ad 54), .ref (ad 55), .ref (ad 56), .ref (ad 57), .ref (ad 58), .ref (ad 59), .ref (ad 60), .ref (ad 61), .int mod_doneMany, .int mod_undoneMany, .ref (ad 62), .ref (ad 63), .ref (ad 64), .ref (ad 65), .int mod_open, .int mod_laid, .ref (ad 66), .ref (ad 67), .ref (ad 68), .ref (ad 69), .ref (ad 70), .ref (ad 71), .ref (ad 72), .ref (ad 73), .ref (ad 74), .ref (ad 75), .int mod_isBoth, .int mod_wished, .ref (ad 76), .ref (ad 77), .int mod_bestMany, .int mod_bestRow, .ref (ad 78), .ref (ad 79), .int mod_ringDigits, .int mod_traces, .ref (ad 80), .ref (ad 81), .ref (ad 82), .ref (ad 83), .ref (ad 84)])), ((ad 66), .inl (cs 2, 4290, .inl mod_act)), ((ad 67), .inl (cs 0, 4290, .inl mod_with)), ((ad 71), .inl (cs 0, 11, .inl mod_facts)), ((ad 72), .inl (cs 0, 130, .inl mod_pile))]
def Q_X12_worked (D : va_G) (cs : Nat → ClassId) (ad : Nat → Nat)  (mod_code : Int32) (mod_shoes : Int32) (mod_claims : Int32) (mod_taped : Int32) (mod_here : Int32) (mod_fault : Int32) (mod_suits : Int32) (mod_doneMany : Int32) (mod_undoneMany : Int32) (mod_open : Int32) (mod_laid : Int32) (mod_isBoth : Int32) (mod_wished : Int32) (mod_bestMany : Int32) (mod_bestRow : Int32) (mod_ringDigits : Int32) (mod_traces : Int32) (mod_act : Nat → Int32) (mod_with : Nat → Int32) (mod_facts : Nat → Int32) (A : Nat → Prop) (R : Int32 × (Nat → Int32)) : Array Value → State → Outcome → State → Prop :=
  va_Qi (fun (r : Int32) (u : (Nat → Int32)) => (r, u) = R) (fun (u : (Nat → Int32)) (t : State) => va_P D classes (wl_X12_worked ad cs mod_code mod_shoes mod_claims mod_taped mod_here mod_fault mod_suits mod_doneMany mod_undoneMany mod_open mod_laid mod_isBoth mod_wished mod_bestMany mod_bestRow mod_ringDigits mod_traces mod_act mod_with mod_facts u) t.heap ∧ va_D A (wl_X12_worked ad cs mod_code mod_shoes mod_claims mod_taped mod_here mod_fault mod_suits mod_doneMany mod_undoneMany mod_open mod_laid mod_isBoth mod_wished mod_bestMany mod_bestRow mod_ringDigits mod_traces mod_act mod_with mod_facts u)) A
abbrev rm_X12_worked : Room := { frames := 1, cells := 0, slots := 0, locals := 22 }
theorem g_X12_296 : GoodIn zW (va_wsS RX12 296 yX12_twoOf z_X12_twoOf) := zGS kw_1689 kw_1690 kw_95 kw_1691
theorem hd_X12_twoOf : yX12_twoOf.cls ≠ "java/lang/invoke/MethodHandle" ∧ yX12_twoOf.cls ≠ "java/lang/invoke/VarHandle" ∧ (parseMethodDescriptor yX12_twoOf.desc).map (fun d => d.parameters.length) = some 3 := by decide +kernel
def B_X12_worked_182   (g12 : Int32 → Int32 → Int32 → Int32 → (Nat → Int32) → (Option (Int32 × (Nat → Int32)))) (mod_code : Int32) (mod_shoes : Int32) (mod_claims : Int32) (mod_taped : Int32) (mod_here : Int32) (mod_fault : Int32) (mod_suits : Int32) (mod_doneMany : Int32) (mod_undoneMany : Int32) (mod_open : Int32) (mod_laid : Int32) (mod_isBoth : Int32) (mod_wished : Int32) (mod_bestMany : Int32) (mod_bestRow : Int32) (mod_ringDigits : Int32) (mod_traces : Int32) (mod_act : Nat → Int32) (mod_with : Nat → Int32) (mod_facts : Nat → Int32) (x1 : Int32) (x3 : Int32) (x4 : Int32) (x5 : Int32) (mod_pile : Nat → Int32) : Option (Int32 × (Nat → Int32)) :=
  (zk_let (x5 + (1 : Int32)) (fun v_32 => (g12 x1 x3 x4 v_32 mod_pile)))
def B_X12_worked_117   (g12 : Int32 → Int32 → Int32 → Int32 → (Nat → Int32) → (Option (Int32 × (Nat → Int32)))) (mod_code : Int32) (mod_shoes : Int32) (mod_claims : Int32) (mod_taped : Int32) (mod_here : Int32) (mod_fault : Int32) (mod_suits : Int32) (mod_doneMany : Int32) (mod_undoneMany : Int32) (mod_open : Int32) (mod_laid : Int32) (mod_isBoth : Int32) (mod_wished : Int32) (mod_bestMany : Int32) (mod_bestRow : Int32) (mod_ringDigits : Int32) (mod_traces : Int32) (mod_act : Nat → Int32) (mod_with : Nat → Int32) (mod_facts : Nat → Int32) (x1 : Int32) (x3 : Int32) (x4 : Int32) (x5 : Int32) (s0 : Int32) (s1 : Int32) (mod_pile : Nat → Int32) : Option (Int32 × (Nat → Int32)) :=
  (if (s1 < 0 ∨ 130 ≤ s1.toNatClampNeg) then none else (zk_let (upd mod_pile s1.toNatClampNeg s0) (fun f_31 => (B_X12_worked_182 g12 mod_code mod_shoes mod_claims mod_taped mod_here mod_fault mod_suits mod_doneMany mod_undoneMany mod_open mod_laid mod_isBoth mod_wished mod_bestMany mod_bestRow mod_ringDigits mod_traces mod_act mod_with mod_facts x1 x3 x4 x5 f_31))))
def B_X12_worked_79   (g12 : Int32 → Int32 → Int32 → Int32 → (Nat → Int32) → (Option (Int32 × (Nat → Int32)))) (mod_code : Int32) (mod_shoes : Int32) (mod_claims : Int32) (mod_taped : Int32) (mod_here : Int32) (mod_fault : Int32) (mod_suits : Int32) (mod_doneMany : Int32) (mod_undoneMany : Int32) (mod_open : Int32) (mod_laid : Int32) (mod_isBoth : Int32) (mod_wished : Int32) (mod_bestMany : Int32) (mod_bestRow : Int32) (mod_ringDigits : Int32) (mod_traces : Int32) (mod_act : Nat → Int32) (mod_with : Nat → Int32) (mod_facts : Nat → Int32) (x1 : Int32) (x3 : Int32) (x4 : Int32) (x5 : Int32) (s0 : Int32) (s1 : Int32) (mod_pile : Nat → Int32) : Option (Int32 × (Nat → Int32)) :=
  (if (s1 < 0 ∨ 130 ≤ s1.toNatClampNeg) then none else (zk_let (upd mod_pile s1.toNatClampNeg s0) (fun f_28 => (zk_let (x4 + (1 : Int32)) (fun v_29 => (B_X12_worked_182 g12 mod_code mod_shoes mod_claims mod_taped mod_here mod_fault mod_suits mod_doneMany mod_undoneMany mod_open mod_laid mod_isBoth mod_wished mod_bestMany mod_bestRow mod_ringDigits mod_traces mod_act mod_with mod_facts x1 x3 v_29 x5 f_28))))))
def B_X12_worked_45   (g12 : Int32 → Int32 → Int32 → Int32 → (Nat → Int32) → (Option (Int32 × (Nat → Int32)))) (mod_code : Int32) (mod_shoes : Int32) (mod_claims : Int32) (mod_taped : Int32) (mod_here : Int32) (mod_fault : Int32) (mod_suits : Int32) (mod_doneMany : Int32) (mod_undoneMany : Int32) (mod_open : Int32) (mod_laid : Int32) (mod_isBoth : Int32) (mod_wished : Int32) (mod_bestMany : Int32) (mod_bestRow : Int32) (mod_ringDigits : Int32) (mod_traces : Int32) (mod_act : Nat → Int32) (mod_with : Nat → Int32) (mod_facts : Nat → Int32) (x1 : Int32) (x3 : Int32) (x4 : Int32) (x5 : Int32) (x6 : Int32) (mod_pile : Nat → Int32) : Option (Int32 × (Nat → Int32)) :=
  (if x6 = (1 : Int32) then (if (x5 < 0 ∨ 4290 ≤ x5.toNatClampNeg) then none else (B_X12_worked_79 g12 mod_code mod_shoes mod_claims mod_taped mod_here mod_fault mod_suits mod_doneMany mod_undoneMany mod_open mod_laid mod_isBoth mod_wished mod_bestMany mod_bestRow mod_ringDigits mod_traces mod_act mod_with mod_facts x1 x3 x4 x5 (mod_with x5.toNatClampNeg) x4 mod_pile)) else (if (x5 < 0 ∨ 4290 ≤ x5.toNatClampNeg) then none else (if ((mod_with x5.toNatClampNeg) < 0 ∨ 11 ≤ (mod_with x5.toNatClampNeg).toNatClampNeg) then none else (B_X12_worked_79 g12 mod_code mod_shoes mod_claims mod_taped mod_here mod_fault mod_suits mod_doneMany mod_undoneMany mod_open mod_laid mod_isBoth mod_wished mod_bestMany mod_bestRow mod_ringDigits mod_traces mod_act mod_with mod_facts x1 x3 x4 x5 (mod_facts (mod_with x5.toNatClampNeg).toNatClampNeg) x4 mod_pile))))
def B_X12_worked_12   (g12 : Int32 → Int32 → Int32 → Int32 → (Nat → Int32) → (Option (Int32 × (Nat → Int32)))) (mod_code : Int32) (mod_shoes : Int32) (mod_claims : Int32) (mod_taped : Int32) (mod_here : Int32) (mod_fault : Int32) (mod_suits : Int32) (mod_doneMany : Int32) (mod_undoneMany : Int32) (mod_open : Int32) (mod_laid : Int32) (mod_isBoth : Int32) (mod_wished : Int32) (mod_bestMany : Int32) (mod_bestRow : Int32) (mod_ringDigits : Int32) (mod_traces : Int32) (mod_act : Nat → Int32) (mod_with : Nat → Int32) (mod_facts : Nat → Int32) (x1 : Int32) (x3 : Int32) (x4 : Int32) (x5 : Int32) (mod_pile : Nat → Int32) : Option (Int32 × (Nat → Int32)) :=
  (if (((130 : Int32) * x1) + x3) ≤ x5 then (some (mod_pile (0 : Int32).toNatClampNeg, mod_pile)) else (if (x5 < 0 ∨ 4290 ≤ x5.toNatClampNeg) then none else (zk_let (mod_act x5.toNatClampNeg) (fun v_4 => (if v_4 = (1 : Int32) then (B_X12_worked_45 g12 mod_code mod_shoes mod_claims mod_taped mod_here mod_fault mod_suits mod_doneMany mod_undoneMany mod_open mod_laid mod_isBoth mod_wished mod_bestMany mod_bestRow mod_ringDigits mod_traces mod_act mod_with mod_facts x1 x3 x4 x5 v_4 mod_pile) else (if v_4 = (2 : Int32) then (B_X12_worked_45 g12 mod_code mod_shoes mod_claims mod_taped mod_here mod_fault mod_suits mod_doneMany mod_undoneMany mod_open mod_laid mod_isBoth mod_wished mod_bestMany mod_bestRow mod_ringDigits mod_traces mod_act mod_with mod_facts x1 x3 x4 x5 v_4 mod_pile) else (if v_4 = (3 : Int32) then (if ((x4 - (1 : Int32)) < 0 ∨ 130 ≤ (x4 - (1 : Int32)).toNatClampNeg) then none else (if (mod_pile (x4 - (1 : Int32)).toNatClampNeg) = 0 then (B_X12_worked_117 g12 mod_code mod_shoes mod_claims mod_taped mod_here mod_fault mod_suits mod_doneMany mod_undoneMany mod_open mod_laid mod_isBoth mod_wished mod_bestMany mod_bestRow mod_ringDigits mod_traces mod_act mod_with mod_facts x1 x3 x4 x5 (1 : Int32) (x4 - (1 : Int32)) mod_pile) else (B_X12_worked_117 g12 mod_code mod_shoes mod_claims mod_taped mod_here mod_fault mod_suits mod_doneMany mod_undoneMany mod_open mod_laid mod_isBoth mod_wished mod_bestMany mod_bestRow mod_ringDigits mod_traces mod_act mod_with mod_facts x1 x3 x4 x5 (0 : Int32) (x4 - (1 : Int32)) mod_pile))) else (if v_4 = (4 : Int32) then (if ((x4 - (1 : Int32)) < 0 ∨ 130 ≤ (x4 - (1 : Int32)).toNatClampNeg) then none else (zk_let (-(mod_pile (x4 - (1 : Int32)).toNatClampNeg)) (fun v_18 => (if ((x4 - (1 : Int32)) < 0 ∨ 130 ≤ (x4 - (1 : Int32)).toNatClampNeg) then none else (zk_let (upd mod_pile (x4 - (1 : Int32)).toNatClampNeg v_18) (fun f_20 => (B_X12_worked_182 g12 mod_code mod_shoes mod_claims mod_taped mod_here mod_fault mod_suits mod_doneMany mod_undoneMany mod_open mod_laid mod_isBoth mod_wished mod_bestMany mod_bestRow mod_ringDigits mod_traces mod_act mod_with mod_facts x1 x3 x4 x5 f_20))))))) else (zk_let (x4 + (-1 : Int32)) (fun v_9 => (if ((v_9 - (1 : Int32)) < 0 ∨ 130 ≤ (v_9 - (1 : Int32)).toNatClampNeg) then none else (if (v_9 < 0 ∨ 130 ≤ v_9.toNatClampNeg) then none else (zk_b2 (f_X12_twoOf v_4 (mod_pile (v_9 - (1 : Int32)).toNatClampNeg) (mod_pile v_9.toNatClampNeg)) (fun r_12 u_13 => (if ((v_9 - (1 : Int32)) < 0 ∨ 130 ≤ (v_9 - (1 : Int32)).toNatClampNeg) then none else (zk_let (upd mod_pile (v_9 - (1 : Int32)).toNatClampNeg r_12) (fun f_16 => (B_X12_worked_182 g12 mod_code mod_shoes mod_claims mod_taped mod_here mod_fault mod_suits mod_doneMany mod_undoneMany mod_open mod_laid mod_isBoth mod_wished mod_bestMany mod_bestRow mod_ringDigits mod_traces mod_act mod_with mod_facts x1 x3 v_9 x5 f_16))))))))))))))))))
def B_X12_worked_0   (g12 : Int32 → Int32 → Int32 → Int32 → (Nat → Int32) → (Option (Int32 × (Nat → Int32)))) (mod_code : Int32) (mod_shoes : Int32) (mod_claims : Int32) (mod_taped : Int32) (mod_here : Int32) (mod_fault : Int32) (mod_suits : Int32) (mod_doneMany : Int32) (mod_undoneMany : Int32) (mod_open : Int32) (mod_laid : Int32) (mod_isBoth : Int32) (mod_wished : Int32) (mod_bestMany : Int32) (mod_bestRow : Int32) (mod_ringDigits : Int32) (mod_traces : Int32) (mod_act : Nat → Int32) (mod_with : Nat → Int32) (mod_facts : Nat → Int32) (x1 : Int32) (x2 : Int32) (x3 : Int32) (mod_pile : Nat → Int32) : Option (Int32 × (Nat → Int32)) :=
  (zk_let (((130 : Int32) * x1) + x2) (fun v_1 => (g12 x1 x3 (0 : Int32) v_1 mod_pile)))
def G_X12_worked   (mod_code : Int32) (mod_shoes : Int32) (mod_claims : Int32) (mod_taped : Int32) (mod_here : Int32) (mod_fault : Int32) (mod_suits : Int32) (mod_doneMany : Int32) (mod_undoneMany : Int32) (mod_open : Int32) (mod_laid : Int32) (mod_isBoth : Int32) (mod_wished : Int32) (mod_bestMany : Int32) (mod_bestRow : Int32) (mod_ringDigits : Int32) (mod_traces : Int32) (mod_act : Nat → Int32) (mod_with : Nat → Int32) (mod_facts : Nat → Int32) (n : Nat) : (Int32 → Int32 → Int32 → Int32 → (Nat → Int32) → (Option (Int32 × (Nat → Int32)))) :=
  Nat.rec (motive := fun _ => (Int32 → Int32 → Int32 → Int32 → (Nat → Int32) → (Option (Int32 × (Nat → Int32))))) ((fun _ _ _ _ _ => none)) (fun _ ih => (B_X12_worked_12   ih mod_code mod_shoes mod_claims mod_taped mod_here mod_fault mod_suits mod_doneMany mod_undoneMany mod_open mod_laid mod_isBoth mod_wished mod_bestMany mod_bestRow mod_ringDigits mod_traces mod_act mod_with mod_facts)) n
def f_X12_worked   (n : Nat) (x1 : Int32) (x2 : Int32) (x3 : Int32) (mod_code : Int32) (mod_shoes : Int32) (mod_claims : Int32) (mod_taped : Int32) (mod_here : Int32) (mod_fault : Int32) (mod_suits : Int32) (mod_doneMany : Int32) (mod_undoneMany : Int32) (mod_open : Int32) (mod_laid : Int32) (mod_isBoth : Int32) (mod_wished : Int32) (mod_bestMany : Int32) (mod_bestRow : Int32) (mod_ringDigits : Int32) (mod_traces : Int32) (mod_act : Nat → Int32) (mod_with : Nat → Int32) (mod_facts : Nat → Int32) (mod_pile : Nat → Int32) : Option (Int32 × (Nat → Int32)) := B_X12_worked_0   ((G_X12_worked   mod_code mod_shoes mod_claims mod_taped mod_here mod_fault mod_suits mod_doneMany mod_undoneMany mod_open mod_laid mod_isBoth mod_wished mod_bestMany mod_bestRow mod_ringDigits mod_traces mod_act mod_with mod_facts n)) mod_code mod_shoes mod_claims mod_taped mod_here mod_fault mod_suits mod_doneMany mod_undoneMany mod_open mod_laid mod_isBoth mod_wished mod_bestMany mod_bestRow mod_ringDigits mod_traces mod_act mod_with mod_facts x1 x2 x3 mod_pile
set_option maxHeartbeats 4000000 in
set_option maxRecDepth 100000 in
theorem L_X12_worked_182 {p : Program} {l : Launch} {e : Env} {s : State} {m : MethodId} {args : Array Value} {below : List Frame} {meth : Method} {c : Code} {A : Nat → Prop} {D : va_G} {cs : Nat → ClassId} {ad : Nat → Nat} {mod_code : Int32} {mod_shoes : Int32} {mod_claims : Int32} {mod_taped : Int32} {mod_here : Int32} {mod_fault : Int32} {mod_suits : Int32} {mod_doneMany : Int32} {mod_undoneMany : Int32} {mod_open : Int32} {mod_laid : Int32} {mod_isBoth : Int32} {mod_wished : Int32} {mod_bestMany : Int32} {mod_bestRow : Int32} {mod_ringDigits : Int32} {mod_traces : Int32} {mod_act : Nat → Int32} {mod_with : Nat → Int32} {mod_facts : Nat → Int32} {R : Int32 × (Nat → Int32)} {g12 : Int32 → Int32 → Int32 → Int32 → (Nat → Int32) → (Option (Int32 × (Nat → Int32)))} (C0 : zC p s m args meth c cX12_worked 7 (some .int) RX12 zW) (hK : va_K D classes (zT cs) s) (hA : ∀ q : Nat, s.heap.size ≤ q → A q) (ih12 : ∀ (x1 : Int32) (x3 : Int32) (x4 : Int32) (x5 : Int32) (mod_pile : Nat → Int32) (h : g12 x1 x3 x4 x5 mod_pile = some R) (H : Heap) (locs : List Loc) (ls : Array Slot) (hP : va_P D classes (wl_X12_worked ad cs mod_code mod_shoes mod_claims mod_taped mod_here mod_fault mod_suits mod_doneMany mod_undoneMany mod_open mod_laid mod_isBoth mod_wished mod_bestMany mod_bestRow mod_ringDigits mod_traces mod_act mod_with mod_facts mod_pile) H) (hD : va_D A (wl_X12_worked ad cs mod_code mod_shoes mod_claims mod_taped mod_here mod_fault mod_suits mod_doneMany mod_undoneMany mod_open mod_laid mod_isBoth mod_wished mod_bestMany mod_bestRow mod_ringDigits mod_traces mod_act mod_with mod_facts mod_pile)) (hS : va_S A s.heap H locs) (hl : lv_has ls 7 [(0, .ref (ad 41)), (1, .int x1), (3, .int x3), (4, .int x4), (5, .int x5)]), W p l e rm_X12_worked s m args below meth c H locs 0 0 (MQ below (Q_X12_worked D cs ad mod_code mod_shoes mod_claims mod_taped mod_here mod_fault mod_suits mod_doneMany mod_undoneMany mod_open mod_laid mod_isBoth mod_wished mod_bestMany mod_bestRow mod_ringDigits mod_traces mod_act mod_with mod_facts A R) args s 0 0 A) (F0 m 12 ls [])) (x1 : Int32) (x3 : Int32) (x4 : Int32) (x5 : Int32) (mod_pile : Nat → Int32) (h : B_X12_worked_182 g12 mod_code mod_shoes mod_claims mod_taped mod_here mod_fault mod_suits mod_doneMany mod_undoneMany mod_open mod_laid mod_isBoth mod_wished mod_bestMany mod_bestRow mod_ringDigits mod_traces mod_act mod_with mod_facts x1 x3 x4 x5 mod_pile = some R) (H : Heap) (locs : List Loc) (ls : Array Slot) (hP : va_P D classes (wl_X12_worked ad cs mod_code mod_shoes mod_claims mod_taped mod_here mod_fault mod_suits mod_doneMany mod_undoneMany mod_open mod_laid mod_isBoth mod_wished mod_bestMany mod_bestRow mod_ringDigits mod_traces mod_act mod_with mod_facts mod_pile) H) (hD : va_D A (wl_X12_worked ad cs mod_code mod_shoes mod_claims mod_taped mod_here mod_fault mod_suits mod_doneMany mod_undoneMany mod_open mod_laid mod_isBoth mod_wished mod_bestMany mod_bestRow mod_ringDigits mod_traces mod_act mod_with mod_facts mod_pile)) (hS : va_S A s.heap H locs) (hl : lv_has ls 7 [(0, .ref (ad 41)), (1, .int x1), (3, .int x3), (4, .int x4), (5, .int x5)]) : W p l e rm_X12_worked s m args below meth c H locs 0 0 (MQ below (Q_X12_worked D cs ad mod_code mod_shoes mod_claims mod_taped mod_here mod_fault mod_suits mod_doneMany mod_undoneMany mod_open mod_laid mod_isBoth mod_wished mod_bestMany mod_bestRow mod_ringDigits mod_traces mod_act mod_with mod_facts A R) args s 0 0 A) (F0 m 182 ls []) := by
  obtain ⟨hx, hb, hr, hml, hown, ht, hlocks⟩ := id C0
  obtain ⟨v_32, ev_32, h⟩ := zk_lt h
  refine lv_iinc (v := v_32) (lv' := [(5, .int v_32), (0, .ref (ad 41)), (1, .int x1), (3, .int x3), (4, .int x4)]) hx hb dX12_worked_182 hl (k := 4) rfl (by rw [ev_32]; rfl) (by decide) rfl (fun ls hl => ?_)
  refine lv_goto (tgt := 12) hx hb dX12_worked_185 (by decide) ?_
  exact ih12 x1 x3 x4 v_32 mod_pile h H locs ls hP hD hS (lv_sub hl [1, 2, 3, 4, 0] rfl)
set_option maxHeartbeats 4000000 in
set_option maxRecDepth 100000 in
theorem L_X12_worked_117 {p : Program} {l : Launch} {e : Env} {s : State} {m : MethodId} {args : Array Value} {below : List Frame} {meth : Method} {c : Code} {A : Nat → Prop} {D : va_G} {cs : Nat → ClassId} {ad : Nat → Nat} {mod_code : Int32} {mod_shoes : Int32} {mod_claims : Int32} {mod_taped : Int32} {mod_here : Int32} {mod_fault : Int32} {mod_suits : Int32} {mod_doneMany : Int32} {mod_undoneMany : Int32} {mod_open : Int32} {mod_laid : Int32} {mod_isBoth : Int32} {mod_wished : Int32} {mod_bestMany : Int32} {mod_bestRow : Int32} {mod_ringDigits : Int32} {mod_traces : Int32} {mod_act : Nat → Int32} {mod_with : Nat → Int32} {mod_facts : Nat → Int32} {R : Int32 × (Nat → Int32)} {g12 : Int32 → Int32 → Int32 → Int32 → (Nat → Int32) → (Option (Int32 × (Nat → Int32)))} (C0 : zC p s m args meth c cX12_worked 7 (some .int) RX12 zW) (hK : va_K D classes (zT cs) s) (hA : ∀ q : Nat, s.heap.size ≤ q → A q) (ih12 : ∀ (x1 : Int32) (x3 : Int32) (x4 : Int32) (x5 : Int32) (mod_pile : Nat → Int32) (h : g12 x1 x3 x4 x5 mod_pile = some R) (H : Heap) (locs : List Loc) (ls : Array Slot) (hP : va_P D classes (wl_X12_worked ad cs mod_code mod_shoes mod_claims mod_taped mod_here mod_fault mod_suits mod_doneMany mod_undoneMany mod_open mod_laid mod_isBoth mod_wished mod_bestMany mod_bestRow mod_ringDigits mod_traces mod_act mod_with mod_facts mod_pile) H) (hD : va_D A (wl_X12_worked ad cs mod_code mod_shoes mod_claims mod_taped mod_here mod_fault mod_suits mod_doneMany mod_undoneMany mod_open mod_laid mod_isBoth mod_wished mod_bestMany mod_bestRow mod_ringDigits mod_traces mod_act mod_with mod_facts mod_pile)) (hS : va_S A s.heap H locs) (hl : lv_has ls 7 [(0, .ref (ad 41)), (1, .int x1), (3, .int x3), (4, .int x4), (5, .int x5)]), W p l e rm_X12_worked s m args below meth c H locs 0 0 (MQ below (Q_X12_worked D cs ad mod_code mod_shoes mod_claims mod_taped mod_here mod_fault mod_suits mod_doneMany mod_undoneMany mod_open mod_laid mod_isBoth mod_wished mod_bestMany mod_bestRow mod_ringDigits mod_traces mod_act mod_with mod_facts A R) args s 0 0 A) (F0 m 12 ls [])) (x1 : Int32) (x3 : Int32) (x4 : Int32) (x5 : Int32) (s0 : Int32) (s1 : Int32) (mod_pile : Nat → Int32) (h : B_X12_worked_117 g12 mod_code mod_shoes mod_claims mod_taped mod_here mod_fault mod_suits mod_doneMany mod_undoneMany mod_open mod_laid mod_isBoth mod_wished mod_bestMany mod_bestRow mod_ringDigits mod_traces mod_act mod_with mod_facts x1 x3 x4 x5 s0 s1 mod_pile = some R) (H : Heap) (locs : List Loc) (ls : Array Slot) (hP : va_P D classes (wl_X12_worked ad cs mod_code mod_shoes mod_claims mod_taped mod_here mod_fault mod_suits mod_doneMany mod_undoneMany mod_open mod_laid mod_isBoth mod_wished mod_bestMany mod_bestRow mod_ringDigits mod_traces mod_act mod_with mod_facts mod_pile) H) (hD : va_D A (wl_X12_worked ad cs mod_code mod_shoes mod_claims mod_taped mod_here mod_fault mod_suits mod_doneMany mod_undoneMany mod_open mod_laid mod_isBoth mod_wished mod_bestMany mod_bestRow mod_ringDigits mod_traces mod_act mod_with mod_facts mod_pile)) (hS : va_S A s.heap H locs) (hl : lv_has ls 7 [(0, .ref (ad 41)), (1, .int x1), (3, .int x3), (4, .int x4), (5, .int x5)]) : W p l e rm_X12_worked s m args below meth c H locs 0 0 (MQ below (Q_X12_worked D cs ad mod_code mod_shoes mod_claims mod_taped mod_here mod_fault mod_suits mod_doneMany mod_undoneMany mod_open mod_laid mod_isBoth mod_wished mod_bestMany mod_bestRow mod_ringDigits mod_traces mod_act mod_with mod_facts A R) args s 0 0 A) (F0 m 117 ls [.int s0, .int s1, .ref (ad 72)]) := by
  obtain ⟨hx, hb, hr, hml, hown, ht, hlocks⟩ := id C0
  obtain ⟨g_30, h⟩ := zk_gd h
  obtain ⟨f_31, ef_31, h⟩ := zk_lt h
  refine va_iast hx hb hK hP hD hS 4 0 rfl rfl g_30 dX12_worked_117 (fun H locs hP hD hS => ?_)
  have hP : va_P D classes (wl_X12_worked ad cs mod_code mod_shoes mod_claims mod_taped mod_here mod_fault mod_suits mod_doneMany mod_undoneMany mod_open mod_laid mod_isBoth mod_wished mod_bestMany mod_bestRow mod_ringDigits mod_traces mod_act mod_with mod_facts f_31) H := by rw [ef_31]; exact hP
  have hD : va_D A (wl_X12_worked ad cs mod_code mod_shoes mod_claims mod_taped mod_here mod_fault mod_suits mod_doneMany mod_undoneMany mod_open mod_laid mod_isBoth mod_wished mod_bestMany mod_bestRow mod_ringDigits mod_traces mod_act mod_with mod_facts f_31) := by rw [ef_31]; exact hD
  refine lv_goto (tgt := 182) hx hb dX12_worked_118 (by decide) ?_
  exact L_X12_worked_182 C0 hK hA  ih12 x1 x3 x4 x5 f_31 h H locs ls hP hD hS (lv_sub hl [0, 1, 2, 3, 4] rfl)
set_option maxHeartbeats 4000000 in
set_option maxRecDepth 100000 in
theorem L_X12_worked_79 {p : Program} {l : Launch} {e : Env} {s : State} {m : MethodId} {args : Array Value} {below : List Frame} {meth : Method} {c : Code} {A : Nat → Prop} {D : va_G} {cs : Nat → ClassId} {ad : Nat → Nat} {mod_code : Int32} {mod_shoes : Int32} {mod_claims : Int32} {mod_taped : Int32} {mod_here : Int32} {mod_fault : Int32} {mod_suits : Int32} {mod_doneMany : Int32} {mod_undoneMany : Int32} {mod_open : Int32} {mod_laid : Int32} {mod_isBoth : Int32} {mod_wished : Int32} {mod_bestMany : Int32} {mod_bestRow : Int32} {mod_ringDigits : Int32} {mod_traces : Int32} {mod_act : Nat → Int32} {mod_with : Nat → Int32} {mod_facts : Nat → Int32} {R : Int32 × (Nat → Int32)} {g12 : Int32 → Int32 → Int32 → Int32 → (Nat → Int32) → (Option (Int32 × (Nat → Int32)))} (C0 : zC p s m args meth c cX12_worked 7 (some .int) RX12 zW) (hK : va_K D classes (zT cs) s) (hA : ∀ q : Nat, s.heap.size ≤ q → A q) (ih12 : ∀ (x1 : Int32) (x3 : Int32) (x4 : Int32) (x5 : Int32) (mod_pile : Nat → Int32) (h : g12 x1 x3 x4 x5 mod_pile = some R) (H : Heap) (locs : List Loc) (ls : Array Slot) (hP : va_P D classes (wl_X12_worked ad cs mod_code mod_shoes mod_claims mod_taped mod_here mod_fault mod_suits mod_doneMany mod_undoneMany mod_open mod_laid mod_isBoth mod_wished mod_bestMany mod_bestRow mod_ringDigits mod_traces mod_act mod_with mod_facts mod_pile) H) (hD : va_D A (wl_X12_worked ad cs mod_code mod_shoes mod_claims mod_taped mod_here mod_fault mod_suits mod_doneMany mod_undoneMany mod_open mod_laid mod_isBoth mod_wished mod_bestMany mod_bestRow mod_ringDigits mod_traces mod_act mod_with mod_facts mod_pile)) (hS : va_S A s.heap H locs) (hl : lv_has ls 7 [(0, .ref (ad 41)), (1, .int x1), (3, .int x3), (4, .int x4), (5, .int x5)]), W p l e rm_X12_worked s m args below meth c H locs 0 0 (MQ below (Q_X12_worked D cs ad mod_code mod_shoes mod_claims mod_taped mod_here mod_fault mod_suits mod_doneMany mod_undoneMany mod_open mod_laid mod_isBoth mod_wished mod_bestMany mod_bestRow mod_ringDigits mod_traces mod_act mod_with mod_facts A R) args s 0 0 A) (F0 m 12 ls [])) (x1 : Int32) (x3 : Int32) (x4 : Int32) (x5 : Int32) (s0 : Int32) (s1 : Int32) (mod_pile : Nat → Int32) (h : B_X12_worked_79 g12 mod_code mod_shoes mod_claims mod_taped mod_here mod_fault mod_suits mod_doneMany mod_undoneMany mod_open mod_laid mod_isBoth mod_wished mod_bestMany mod_bestRow mod_ringDigits mod_traces mod_act mod_with mod_facts x1 x3 x4 x5 s0 s1 mod_pile = some R) (H : Heap) (locs : List Loc) (ls : Array Slot) (hP : va_P D classes (wl_X12_worked ad cs mod_code mod_shoes mod_claims mod_taped mod_here mod_fault mod_suits mod_doneMany mod_undoneMany mod_open mod_laid mod_isBoth mod_wished mod_bestMany mod_bestRow mod_ringDigits mod_traces mod_act mod_with mod_facts mod_pile) H) (hD : va_D A (wl_X12_worked ad cs mod_code mod_shoes mod_claims mod_taped mod_here mod_fault mod_suits mod_doneMany mod_undoneMany mod_open mod_laid mod_isBoth mod_wished mod_bestMany mod_bestRow mod_ringDigits mod_traces mod_act mod_with mod_facts mod_pile)) (hS : va_S A s.heap H locs) (hl : lv_has ls 7 [(0, .ref (ad 41)), (1, .int x1), (3, .int x3), (4, .int x4), (5, .int x5)]) : W p l e rm_X12_worked s m args below meth c H locs 0 0 (MQ below (Q_X12_worked D cs ad mod_code mod_shoes mod_claims mod_taped mod_here mod_fault mod_suits mod_doneMany mod_undoneMany mod_open mod_laid mod_isBoth mod_wished mod_bestMany mod_bestRow mod_ringDigits mod_traces mod_act mod_with mod_facts A R) args s 0 0 A) (F0 m 79 ls [.int s0, .int s1, .ref (ad 72)]) := by
  obtain ⟨hx, hb, hr, hml, hown, ht, hlocks⟩ := id C0
  obtain ⟨g_27, h⟩ := zk_gd h
  obtain ⟨f_28, ef_28, h⟩ := zk_lt h
  refine va_iast hx hb hK hP hD hS 4 0 rfl rfl g_27 dX12_worked_79 (fun H locs hP hD hS => ?_)
  have hP : va_P D classes (wl_X12_worked ad cs mod_code mod_shoes mod_claims mod_taped mod_here mod_fault mod_suits mod_doneMany mod_undoneMany mod_open mod_laid mod_isBoth mod_wished mod_bestMany mod_bestRow mod_ringDigits mod_traces mod_act mod_with mod_facts f_28) H := by rw [ef_28]; exact hP
  have hD : va_D A (wl_X12_worked ad cs mod_code mod_shoes mod_claims mod_taped mod_here mod_fault mod_suits mod_doneMany mod_undoneMany mod_open mod_laid mod_isBoth mod_wished mod_bestMany mod_bestRow mod_ringDigits mod_traces mod_act mod_with mod_facts f_28) := by rw [ef_28]; exact hD
  obtain ⟨v_29, ev_29, h⟩ := zk_lt h
  refine lv_iinc (v := v_29) (lv' := [(4, .int v_29), (0, .ref (ad 41)), (1, .int x1), (3, .int x3), (5, .int x5)]) hx hb dX12_worked_80 hl (k := 3) rfl (by rw [ev_29]; rfl) (by decide) rfl (fun ls hl => ?_)
  refine lv_goto (tgt := 182) hx hb dX12_worked_83 (by decide) ?_
  exact L_X12_worked_182 C0 hK hA  ih12 x1 x3 v_29 x5 f_28 h H locs ls hP hD hS (lv_sub hl [1, 2, 3, 0, 4] rfl)
set_option maxHeartbeats 4000000 in
set_option maxRecDepth 100000 in
theorem L_X12_worked_45 {p : Program} {l : Launch} {e : Env} {s : State} {m : MethodId} {args : Array Value} {below : List Frame} {meth : Method} {c : Code} {A : Nat → Prop} {D : va_G} {cs : Nat → ClassId} {ad : Nat → Nat} {mod_code : Int32} {mod_shoes : Int32} {mod_claims : Int32} {mod_taped : Int32} {mod_here : Int32} {mod_fault : Int32} {mod_suits : Int32} {mod_doneMany : Int32} {mod_undoneMany : Int32} {mod_open : Int32} {mod_laid : Int32} {mod_isBoth : Int32} {mod_wished : Int32} {mod_bestMany : Int32} {mod_bestRow : Int32} {mod_ringDigits : Int32} {mod_traces : Int32} {mod_act : Nat → Int32} {mod_with : Nat → Int32} {mod_facts : Nat → Int32} {R : Int32 × (Nat → Int32)} {g12 : Int32 → Int32 → Int32 → Int32 → (Nat → Int32) → (Option (Int32 × (Nat → Int32)))} (C0 : zC p s m args meth c cX12_worked 7 (some .int) RX12 zW) (hK : va_K D classes (zT cs) s) (hA : ∀ q : Nat, s.heap.size ≤ q → A q) (ih12 : ∀ (x1 : Int32) (x3 : Int32) (x4 : Int32) (x5 : Int32) (mod_pile : Nat → Int32) (h : g12 x1 x3 x4 x5 mod_pile = some R) (H : Heap) (locs : List Loc) (ls : Array Slot) (hP : va_P D classes (wl_X12_worked ad cs mod_code mod_shoes mod_claims mod_taped mod_here mod_fault mod_suits mod_doneMany mod_undoneMany mod_open mod_laid mod_isBoth mod_wished mod_bestMany mod_bestRow mod_ringDigits mod_traces mod_act mod_with mod_facts mod_pile) H) (hD : va_D A (wl_X12_worked ad cs mod_code mod_shoes mod_claims mod_taped mod_here mod_fault mod_suits mod_doneMany mod_undoneMany mod_open mod_laid mod_isBoth mod_wished mod_bestMany mod_bestRow mod_ringDigits mod_traces mod_act mod_with mod_facts mod_pile)) (hS : va_S A s.heap H locs) (hl : lv_has ls 7 [(0, .ref (ad 41)), (1, .int x1), (3, .int x3), (4, .int x4), (5, .int x5)]), W p l e rm_X12_worked s m args below meth c H locs 0 0 (MQ below (Q_X12_worked D cs ad mod_code mod_shoes mod_claims mod_taped mod_here mod_fault mod_suits mod_doneMany mod_undoneMany mod_open mod_laid mod_isBoth mod_wished mod_bestMany mod_bestRow mod_ringDigits mod_traces mod_act mod_with mod_facts A R) args s 0 0 A) (F0 m 12 ls [])) (x1 : Int32) (x3 : Int32) (x4 : Int32) (x5 : Int32) (x6 : Int32) (mod_pile : Nat → Int32) (h : B_X12_worked_45 g12 mod_code mod_shoes mod_claims mod_taped mod_here mod_fault mod_suits mod_doneMany mod_undoneMany mod_open mod_laid mod_isBoth mod_wished mod_bestMany mod_bestRow mod_ringDigits mod_traces mod_act mod_with mod_facts x1 x3 x4 x5 x6 mod_pile = some R) (H : Heap) (locs : List Loc) (ls : Array Slot) (hP : va_P D classes (wl_X12_worked ad cs mod_code mod_shoes mod_claims mod_taped mod_here mod_fault mod_suits mod_doneMany mod_undoneMany mod_open mod_laid mod_isBoth mod_wished mod_bestMany mod_bestRow mod_ringDigits mod_traces mod_act mod_with mod_facts mod_pile) H) (hD : va_D A (wl_X12_worked ad cs mod_code mod_shoes mod_claims mod_taped mod_here mod_fault mod_suits mod_doneMany mod_undoneMany mod_open mod_laid mod_isBoth mod_wished mod_bestMany mod_bestRow mod_ringDigits mod_traces mod_act mod_with mod_facts mod_pile)) (hS : va_S A s.heap H locs) (hl : lv_has ls 7 [(0, .ref (ad 41)), (1, .int x1), (3, .int x3), (4, .int x4), (5, .int x5), (6, .int x6)]) : W p l e rm_X12_worked s m args below meth c H locs 0 0 (MQ below (Q_X12_worked D cs ad mod_code mod_shoes mod_claims mod_taped mod_here mod_fault mod_suits mod_doneMany mod_undoneMany mod_open mod_laid mod_isBoth mod_wished mod_bestMany mod_bestRow mod_ringDigits mod_traces mod_act mod_with mod_facts A R) args s 0 0 A) (F0 m 45 ls []) := by
  obtain ⟨hx, hb, hr, hml, hown, ht, hlocks⟩ := id C0
  refine lv_aload_n hx hb dX12_worked_45 rfl (lv_at hl 0 rfl) ?_
  refine va_get (D := D) (ci := 12) (v := .ref (ad 72)) (C := RX12) (T := TX12) (N := 60) hx hb ht iX12 hown hK hP 0 rfl rfl 41 (by decide) (ht _ kw_1336) (fun _ h9 => h9) rfl dX12_worked_46 ?_
  refine lv_iload hx hb dX12_worked_49 (lv_at hl 3 rfl) ?_
  refine lv_iload hx hb dX12_worked_51 (lv_at hl 5 rfl) ?_
  refine lv_iconst (v := (1 : Int32)) hx hb dX12_worked_53 (by decide) ?_
  refine lv_icmp_ne (tgt := 67) hx hb dX12_worked_54 (by decide) (fun c_23 => ?_) (fun c_23 => ?_)
  · have h := zk_f c_23 h
    refine lv_aload_n hx hb dX12_worked_67 rfl (lv_at hl 0 rfl) ?_
    refine va_get (D := D) (ci := 12) (v := .ref (ad 71)) (C := RX12) (T := TX12) (N := 60) hx hb ht iX12 hown hK hP 0 rfl rfl 40 (by decide) (ht _ kw_1335) (fun _ h9 => h9) rfl dX12_worked_68 ?_
    refine lv_aload_n hx hb dX12_worked_71 rfl (lv_at hl 0 rfl) ?_
    refine va_get (D := D) (ci := 12) (v := .ref (ad 67)) (C := RX12) (T := TX12) (N := 60) hx hb ht iX12 hown hK hP 0 rfl rfl 36 (by decide) (ht _ kw_1331) (fun _ h9 => h9) rfl dX12_worked_72 ?_
    refine lv_iload hx hb dX12_worked_75 (lv_at hl 4 rfl) ?_
    obtain ⟨g_24, h⟩ := zk_gd h
    refine va_iald hx hb hK hP 2 0 rfl rfl g_24 dX12_worked_77 ?_
    obtain ⟨g_25, h⟩ := zk_gd h
    refine va_iald hx hb hK hP 3 0 rfl rfl g_25 dX12_worked_78 ?_
    exact L_X12_worked_79 C0 hK hA  ih12 x1 x3 x4 x5 (mod_facts (mod_with x5.toNatClampNeg).toNatClampNeg) x4 mod_pile h H locs ls hP hD hS (lv_sub hl [0, 1, 2, 3, 4] rfl)
  · have h := zk_t c_23 h
    refine lv_aload_n hx hb dX12_worked_57 rfl (lv_at hl 0 rfl) ?_
    refine va_get (D := D) (ci := 12) (v := .ref (ad 67)) (C := RX12) (T := TX12) (N := 60) hx hb ht iX12 hown hK hP 0 rfl rfl 36 (by decide) (ht _ kw_1331) (fun _ h9 => h9) rfl dX12_worked_58 ?_
    refine lv_iload hx hb dX12_worked_61 (lv_at hl 4 rfl) ?_
    obtain ⟨g_26, h⟩ := zk_gd h
    refine va_iald hx hb hK hP 2 0 rfl rfl g_26 dX12_worked_63 ?_
    refine lv_goto (tgt := 79) hx hb dX12_worked_64 (by decide) ?_
    exact L_X12_worked_79 C0 hK hA  ih12 x1 x3 x4 x5 (mod_with x5.toNatClampNeg) x4 mod_pile h H locs ls hP hD hS (lv_sub hl [0, 1, 2, 3, 4] rfl)
set_option maxHeartbeats 4000000 in
set_option maxRecDepth 100000 in
theorem L_X12_worked_12 {p : Program} {l : Launch} {e : Env} {s : State} {m : MethodId} {args : Array Value} {below : List Frame} {meth : Method} {c : Code} {A : Nat → Prop} {D : va_G} {cs : Nat → ClassId} {ad : Nat → Nat} {mod_code : Int32} {mod_shoes : Int32} {mod_claims : Int32} {mod_taped : Int32} {mod_here : Int32} {mod_fault : Int32} {mod_suits : Int32} {mod_doneMany : Int32} {mod_undoneMany : Int32} {mod_open : Int32} {mod_laid : Int32} {mod_isBoth : Int32} {mod_wished : Int32} {mod_bestMany : Int32} {mod_bestRow : Int32} {mod_ringDigits : Int32} {mod_traces : Int32} {mod_act : Nat → Int32} {mod_with : Nat → Int32} {mod_facts : Nat → Int32} {R : Int32 × (Nat → Int32)} {g12 : Int32 → Int32 → Int32 → Int32 → (Nat → Int32) → (Option (Int32 × (Nat → Int32)))} (C0 : zC p s m args meth c cX12_worked 7 (some .int) RX12 zW) (hK : va_K D classes (zT cs) s) (hA : ∀ q : Nat, s.heap.size ≤ q → A q) (ih12 : ∀ (x1 : Int32) (x3 : Int32) (x4 : Int32) (x5 : Int32) (mod_pile : Nat → Int32) (h : g12 x1 x3 x4 x5 mod_pile = some R) (H : Heap) (locs : List Loc) (ls : Array Slot) (hP : va_P D classes (wl_X12_worked ad cs mod_code mod_shoes mod_claims mod_taped mod_here mod_fault mod_suits mod_doneMany mod_undoneMany mod_open mod_laid mod_isBoth mod_wished mod_bestMany mod_bestRow mod_ringDigits mod_traces mod_act mod_with mod_facts mod_pile) H) (hD : va_D A (wl_X12_worked ad cs mod_code mod_shoes mod_claims mod_taped mod_here mod_fault mod_suits mod_doneMany mod_undoneMany mod_open mod_laid mod_isBoth mod_wished mod_bestMany mod_bestRow mod_ringDigits mod_traces mod_act mod_with mod_facts mod_pile)) (hS : va_S A s.heap H locs) (hl : lv_has ls 7 [(0, .ref (ad 41)), (1, .int x1), (3, .int x3), (4, .int x4), (5, .int x5)]), W p l e rm_X12_worked s m args below meth c H locs 0 0 (MQ below (Q_X12_worked D cs ad mod_code mod_shoes mod_claims mod_taped mod_here mod_fault mod_suits mod_doneMany mod_undoneMany mod_open mod_laid mod_isBoth mod_wished mod_bestMany mod_bestRow mod_ringDigits mod_traces mod_act mod_with mod_facts A R) args s 0 0 A) (F0 m 12 ls [])) (x1 : Int32) (x3 : Int32) (x4 : Int32) (x5 : Int32) (mod_pile : Nat → Int32) (h : B_X12_worked_12 g12 mod_code mod_shoes mod_claims mod_taped mod_here mod_fault mod_suits mod_doneMany mod_undoneMany mod_open mod_laid mod_isBoth mod_wished mod_bestMany mod_bestRow mod_ringDigits mod_traces mod_act mod_with mod_facts x1 x3 x4 x5 mod_pile = some R) (H : Heap) (locs : List Loc) (ls : Array Slot) (hP : va_P D classes (wl_X12_worked ad cs mod_code mod_shoes mod_claims mod_taped mod_here mod_fault mod_suits mod_doneMany mod_undoneMany mod_open mod_laid mod_isBoth mod_wished mod_bestMany mod_bestRow mod_ringDigits mod_traces mod_act mod_with mod_facts mod_pile) H) (hD : va_D A (wl_X12_worked ad cs mod_code mod_shoes mod_claims mod_taped mod_here mod_fault mod_suits mod_doneMany mod_undoneMany mod_open mod_laid mod_isBoth mod_wished mod_bestMany mod_bestRow mod_ringDigits mod_traces mod_act mod_with mod_facts mod_pile)) (hS : va_S A s.heap H locs) (hl : lv_has ls 7 [(0, .ref (ad 41)), (1, .int x1), (3, .int x3), (4, .int x4), (5, .int x5)]) : W p l e rm_X12_worked s m args below meth c H locs 0 0 (MQ below (Q_X12_worked D cs ad mod_code mod_shoes mod_claims mod_taped mod_here mod_fault mod_suits mod_doneMany mod_undoneMany mod_open mod_laid mod_isBoth mod_wished mod_bestMany mod_bestRow mod_ringDigits mod_traces mod_act mod_with mod_facts A R) args s 0 0 A) (F0 m 12 ls []) := by
  obtain ⟨hx, hb, hr, hml, hown, ht, hlocks⟩ := id C0
  refine lv_iload hx hb dX12_worked_12 (lv_at hl 4 rfl) ?_
  refine lv_sipush (v := (130 : Int32)) hx hb dX12_worked_14 (by decide) ?_
  refine lv_iload_n hx hb dX12_worked_17 rfl (lv_at hl 1 rfl) ?_
  refine lv_imul hx hb dX12_worked_18 ?_
  refine lv_iload_n hx hb dX12_worked_19 rfl (lv_at hl 2 rfl) ?_
  refine lv_iadd hx hb dX12_worked_20 ?_
  refine lv_icmp_ge (tgt := 188) hx hb dX12_worked_21 (by decide) (fun c_2 => ?_) (fun c_2 => ?_)
  · have h := zk_t c_2 h
    refine lv_aload_n hx hb dX12_worked_188 rfl (lv_at hl 0 rfl) ?_
    refine va_get (D := D) (ci := 12) (v := .ref (ad 72)) (C := RX12) (T := TX12) (N := 60) hx hb ht iX12 hown hK hP 0 rfl rfl 41 (by decide) (ht _ kw_1336) (fun _ h9 => h9) rfl dX12_worked_189 ?_
    refine lv_iconst (v := (0 : Int32)) hx hb dX12_worked_192 (by decide) ?_
    refine va_iald hx hb hK hP 4 0 rfl rfl (by unfold vp_in; decide) dX12_worked_193 ?_
    exact W.iret (v := mod_pile (0 : Int32).toNatClampNeg) hx hb hr (fun t ht2 hW => ⟨⟨mod_pile (0 : Int32).toNatClampNeg, mod_pile, rfl, Option.some.inj h, by rw [ht2]; exact hP, hD⟩, hS.F ht2⟩) hS.2.2 dX12_worked_194 hlocks
  · have h := zk_f c_2 h
    refine lv_aload_n hx hb dX12_worked_24 rfl (lv_at hl 0 rfl) ?_
    refine va_get (D := D) (ci := 12) (v := .ref (ad 66)) (C := RX12) (T := TX12) (N := 60) hx hb ht iX12 hown hK hP 0 rfl rfl 35 (by decide) (ht _ kw_1330) (fun _ h9 => h9) rfl dX12_worked_25 ?_
    refine lv_iload hx hb dX12_worked_28 (lv_at hl 4 rfl) ?_
    obtain ⟨g_3, h⟩ := zk_gd h
    refine va_bald hx hb hK hP 1 2 rfl rfl g_3 dX12_worked_30 ?_
    obtain ⟨v_4, ev_4, h⟩ := zk_lt h
    refine W.eq (g2 := F0 m 31 ls [.int v_4]) (by rw [ev_4]) ?_
    refine lv_istore (lv' := [(6, .int v_4), (0, .ref (ad 41)), (1, .int x1), (3, .int x3), (4, .int x4), (5, .int x5)]) hx hb dX12_worked_31 hl (by decide) rfl (fun ls hl => ?_)
    refine lv_iload hx hb dX12_worked_33 (lv_at hl 0 rfl) ?_
    refine lv_iconst (v := (1 : Int32)) hx hb dX12_worked_35 (by decide) ?_
    refine lv_icmp_eq (tgt := 45) hx hb dX12_worked_36 (by decide) (fun c_5 => ?_) (fun c_5 => ?_)
    · have h := zk_t c_5 h
      exact L_X12_worked_45 C0 hK hA  ih12 x1 x3 x4 x5 v_4 mod_pile h H locs ls hP hD hS (lv_sub hl [1, 2, 3, 4, 5, 0] rfl)
    · have h := zk_f c_5 h
      refine lv_iload hx hb dX12_worked_39 (lv_at hl 0 rfl) ?_
      refine lv_iconst (v := (2 : Int32)) hx hb dX12_worked_41 (by decide) ?_
      refine lv_icmp_ne (tgt := 86) hx hb dX12_worked_42 (by decide) (fun c_6 => ?_) (fun c_6 => ?_)
      · have h := zk_f c_6 h
        refine lv_iload hx hb dX12_worked_86 (lv_at hl 0 rfl) ?_
        refine lv_iconst (v := (3 : Int32)) hx hb dX12_worked_88 (by decide) ?_
        refine lv_icmp_ne (tgt := 121) hx hb dX12_worked_89 (by decide) (fun c_7 => ?_) (fun c_7 => ?_)
        · have h := zk_f c_7 h
          refine lv_iload hx hb dX12_worked_121 (lv_at hl 0 rfl) ?_
          refine lv_iconst (v := (4 : Int32)) hx hb dX12_worked_123 (by decide) ?_
          refine lv_icmp_ne (tgt := 149) hx hb dX12_worked_124 (by decide) (fun c_8 => ?_) (fun c_8 => ?_)
          · have h := zk_f c_8 h
            obtain ⟨v_9, ev_9, h⟩ := zk_lt h
            refine lv_iinc (v := v_9) (lv' := [(4, .int v_9), (6, .int v_4), (0, .ref (ad 41)), (1, .int x1), (3, .int x3), (5, .int x5)]) hx hb dX12_worked_149 hl (k := 4) rfl (by rw [ev_9]; rfl) (by decide) rfl (fun ls hl => ?_)
            refine lv_aload_n hx hb dX12_worked_152 rfl (lv_at hl 2 rfl) ?_
            refine va_get (D := D) (ci := 12) (v := .ref (ad 72)) (C := RX12) (T := TX12) (N := 60) hx hb ht iX12 hown hK hP 0 rfl rfl 41 (by decide) (ht _ kw_1336) (fun _ h9 => h9) rfl dX12_worked_153 ?_
            refine lv_iload hx hb dX12_worked_156 (lv_at hl 0 rfl) ?_
            refine lv_iconst (v := (1 : Int32)) hx hb dX12_worked_158 (by decide) ?_
            refine lv_isub hx hb dX12_worked_159 ?_
            refine lv_iload hx hb dX12_worked_160 (lv_at hl 1 rfl) ?_
            refine lv_aload_n hx hb dX12_worked_162 rfl (lv_at hl 2 rfl) ?_
            refine va_get (D := D) (ci := 12) (v := .ref (ad 72)) (C := RX12) (T := TX12) (N := 60) hx hb ht iX12 hown hK hP 0 rfl rfl 41 (by decide) (ht _ kw_1336) (fun _ h9 => h9) rfl dX12_worked_163 ?_
            refine lv_iload hx hb dX12_worked_166 (lv_at hl 0 rfl) ?_
            refine lv_iconst (v := (1 : Int32)) hx hb dX12_worked_168 (by decide) ?_
            refine lv_isub hx hb dX12_worked_169 ?_
            obtain ⟨g_10, h⟩ := zk_gd h
            refine va_iald hx hb hK hP 4 0 rfl rfl g_10 dX12_worked_170 ?_
            refine lv_aload_n hx hb dX12_worked_171 rfl (lv_at hl 2 rfl) ?_
            refine va_get (D := D) (ci := 12) (v := .ref (ad 72)) (C := RX12) (T := TX12) (N := 60) hx hb ht iX12 hown hK hP 0 rfl rfl 41 (by decide) (ht _ kw_1336) (fun _ h9 => h9) rfl dX12_worked_172 ?_
            refine lv_iload hx hb dX12_worked_175 (lv_at hl 0 rfl) ?_
            obtain ⟨g_11, h⟩ := zk_gd h
            refine va_iald hx hb hK hP 4 0 rfl rfl g_11 dX12_worked_177 ?_
            obtain ⟨r_12, u_13, hc_14, h⟩ := zk_o2 h
            refine zz_si (post := (fun r u => (r, u) = (r_12, u_13))) (w1 := fun u => (wl_X12_twoOf ad cs )) (As := [.int v_4, .int (mod_pile (v_9 - (1 : Int32)).toNatClampNeg), .int (mod_pile v_9.toNatClampNeg)]) (rest := [.int (v_9 - (1 : Int32)), .ref (ad 72)]) (c_X12_twoOf l D cs ad  H.size v_4 (mod_pile (v_9 - (1 : Int32)).toNatClampNeg) (mod_pile v_9.toNatClampNeg) (r_12, u_13) hc_14) ⟨hx, hb, hml, hown, ht⟩ (va_cwS 3 ht g_X12_296 rfl rfl rfl hd_X12_twoOf ⟨Nat.le_of_ble_eq_true rfl, Nat.le_of_ble_eq_true rfl⟩) hP hD hS hK hA [] rfl rfl [] rfl (fun _ => rfl) rfl hl.1 (Nat.le_of_ble_eq_true rfl) dX12_worked_178 ⟨Nat.zero_le _, Nat.zero_le _⟩ (fun r u H locs hq hP hS => ?_)
            cases hq
            have hP : va_P D classes (wl_X12_worked ad cs mod_code mod_shoes mod_claims mod_taped mod_here mod_fault mod_suits mod_doneMany mod_undoneMany mod_open mod_laid mod_isBoth mod_wished mod_bestMany mod_bestRow mod_ringDigits mod_traces mod_act mod_with mod_facts mod_pile) H := hP
            obtain ⟨g_15, h⟩ := zk_gd h
            obtain ⟨f_16, ef_16, h⟩ := zk_lt h
            refine va_iast hx hb hK hP hD hS 4 0 rfl rfl g_15 dX12_worked_181 (fun H locs hP hD hS => ?_)
            have hP : va_P D classes (wl_X12_worked ad cs mod_code mod_shoes mod_claims mod_taped mod_here mod_fault mod_suits mod_doneMany mod_undoneMany mod_open mod_laid mod_isBoth mod_wished mod_bestMany mod_bestRow mod_ringDigits mod_traces mod_act mod_with mod_facts f_16) H := by rw [ef_16]; exact hP
            have hD : va_D A (wl_X12_worked ad cs mod_code mod_shoes mod_claims mod_taped mod_here mod_fault mod_suits mod_doneMany mod_undoneMany mod_open mod_laid mod_isBoth mod_wished mod_bestMany mod_bestRow mod_ringDigits mod_traces mod_act mod_with mod_facts f_16) := by rw [ef_16]; exact hD
            exact L_X12_worked_182 C0 hK hA  ih12 x1 x3 v_9 x5 f_16 h H locs ls hP hD hS (lv_sub hl [2, 3, 4, 0, 5] rfl)
          · have h := zk_t c_8 h
            refine lv_aload_n hx hb dX12_worked_127 rfl (lv_at hl 1 rfl) ?_
            refine va_get (D := D) (ci := 12) (v := .ref (ad 72)) (C := RX12) (T := TX12) (N := 60) hx hb ht iX12 hown hK hP 0 rfl rfl 41 (by decide) (ht _ kw_1336) (fun _ h9 => h9) rfl dX12_worked_128 ?_
            refine lv_iload hx hb dX12_worked_131 (lv_at hl 4 rfl) ?_
            refine lv_iconst (v := (1 : Int32)) hx hb dX12_worked_133 (by decide) ?_
            refine lv_isub hx hb dX12_worked_134 ?_
            refine lv_aload_n hx hb dX12_worked_135 rfl (lv_at hl 1 rfl) ?_
            refine va_get (D := D) (ci := 12) (v := .ref (ad 72)) (C := RX12) (T := TX12) (N := 60) hx hb ht iX12 hown hK hP 0 rfl rfl 41 (by decide) (ht _ kw_1336) (fun _ h9 => h9) rfl dX12_worked_136 ?_
            refine lv_iload hx hb dX12_worked_139 (lv_at hl 4 rfl) ?_
            refine lv_iconst (v := (1 : Int32)) hx hb dX12_worked_141 (by decide) ?_
            refine lv_isub hx hb dX12_worked_142 ?_
            obtain ⟨g_17, h⟩ := zk_gd h
            refine va_iald hx hb hK hP 4 0 rfl rfl g_17 dX12_worked_143 ?_
            refine lv_ineg hx hb dX12_worked_144 ?_
            obtain ⟨v_18, ev_18, h⟩ := zk_lt h
            refine W.eq (g2 := F0 m 145 ls [.int v_18, .int (x4 - (1 : Int32)), .ref (ad 72)]) (by rw [ev_18]) ?_
            obtain ⟨g_19, h⟩ := zk_gd h
            obtain ⟨f_20, ef_20, h⟩ := zk_lt h
            refine va_iast hx hb hK hP hD hS 4 0 rfl rfl g_19 dX12_worked_145 (fun H locs hP hD hS => ?_)
            have hP : va_P D classes (wl_X12_worked ad cs mod_code mod_shoes mod_claims mod_taped mod_here mod_fault mod_suits mod_doneMany mod_undoneMany mod_open mod_laid mod_isBoth mod_wished mod_bestMany mod_bestRow mod_ringDigits mod_traces mod_act mod_with mod_facts f_20) H := by rw [ef_20]; exact hP
            have hD : va_D A (wl_X12_worked ad cs mod_code mod_shoes mod_claims mod_taped mod_here mod_fault mod_suits mod_doneMany mod_undoneMany mod_open mod_laid mod_isBoth mod_wished mod_bestMany mod_bestRow mod_ringDigits mod_traces mod_act mod_with mod_facts f_20) := by rw [ef_20]; exact hD
            refine lv_goto (tgt := 182) hx hb dX12_worked_146 (by decide) ?_
            exact L_X12_worked_182 C0 hK hA  ih12 x1 x3 x4 x5 f_20 h H locs ls hP hD hS (lv_sub hl [1, 2, 3, 4, 5] rfl)
        · have h := zk_t c_7 h
          refine lv_aload_n hx hb dX12_worked_92 rfl (lv_at hl 1 rfl) ?_
          refine va_get (D := D) (ci := 12) (v := .ref (ad 72)) (C := RX12) (T := TX12) (N := 60) hx hb ht iX12 hown hK hP 0 rfl rfl 41 (by decide) (ht _ kw_1336) (fun _ h9 => h9) rfl dX12_worked_93 ?_
          refine lv_iload hx hb dX12_worked_96 (lv_at hl 4 rfl) ?_
          refine lv_iconst (v := (1 : Int32)) hx hb dX12_worked_98 (by decide) ?_
          refine lv_isub hx hb dX12_worked_99 ?_
          refine lv_aload_n hx hb dX12_worked_100 rfl (lv_at hl 1 rfl) ?_
          refine va_get (D := D) (ci := 12) (v := .ref (ad 72)) (C := RX12) (T := TX12) (N := 60) hx hb ht iX12 hown hK hP 0 rfl rfl 41 (by decide) (ht _ kw_1336) (fun _ h9 => h9) rfl dX12_worked_101 ?_
          refine lv_iload hx hb dX12_worked_104 (lv_at hl 4 rfl) ?_
          refine lv_iconst (v := (1 : Int32)) hx hb dX12_worked_106 (by decide) ?_
          refine lv_isub hx hb dX12_worked_107 ?_
          obtain ⟨g_21, h⟩ := zk_gd h
          refine va_iald hx hb hK hP 4 0 rfl rfl g_21 dX12_worked_108 ?_
          refine lv_if_ne (tgt := 116) hx hb dX12_worked_109 (by decide) (fun c_22 => ?_) (fun c_22 => ?_)
          · have h := zk_f c_22 h
            refine lv_iconst (v := (0 : Int32)) hx hb dX12_worked_116 (by decide) ?_
            exact L_X12_worked_117 C0 hK hA  ih12 x1 x3 x4 x5 (0 : Int32) (x4 - (1 : Int32)) mod_pile h H locs ls hP hD hS (lv_sub hl [1, 2, 3, 4, 5] rfl)
          · have h := zk_t c_22 h
            refine lv_iconst (v := (1 : Int32)) hx hb dX12_worked_112 (by decide) ?_
            refine lv_goto (tgt := 117) hx hb dX12_worked_113 (by decide) ?_
            exact L_X12_worked_117 C0 hK hA  ih12 x1 x3 x4 x5 (1 : Int32) (x4 - (1 : Int32)) mod_pile h H locs ls hP hD hS (lv_sub hl [1, 2, 3, 4, 5] rfl)
      · have h := zk_t c_6 h
        exact L_X12_worked_45 C0 hK hA  ih12 x1 x3 x4 x5 v_4 mod_pile h H locs ls hP hD hS (lv_sub hl [1, 2, 3, 4, 5, 0] rfl)
set_option maxHeartbeats 4000000 in
set_option maxRecDepth 100000 in
theorem L_X12_worked_0 {p : Program} {l : Launch} {e : Env} {s : State} {m : MethodId} {args : Array Value} {below : List Frame} {meth : Method} {c : Code} {A : Nat → Prop} {D : va_G} {cs : Nat → ClassId} {ad : Nat → Nat} {mod_code : Int32} {mod_shoes : Int32} {mod_claims : Int32} {mod_taped : Int32} {mod_here : Int32} {mod_fault : Int32} {mod_suits : Int32} {mod_doneMany : Int32} {mod_undoneMany : Int32} {mod_open : Int32} {mod_laid : Int32} {mod_isBoth : Int32} {mod_wished : Int32} {mod_bestMany : Int32} {mod_bestRow : Int32} {mod_ringDigits : Int32} {mod_traces : Int32} {mod_act : Nat → Int32} {mod_with : Nat → Int32} {mod_facts : Nat → Int32} {R : Int32 × (Nat → Int32)} {g12 : Int32 → Int32 → Int32 → Int32 → (Nat → Int32) → (Option (Int32 × (Nat → Int32)))} (C0 : zC p s m args meth c cX12_worked 7 (some .int) RX12 zW) (hK : va_K D classes (zT cs) s) (hA : ∀ q : Nat, s.heap.size ≤ q → A q) (ih12 : ∀ (x1 : Int32) (x3 : Int32) (x4 : Int32) (x5 : Int32) (mod_pile : Nat → Int32) (h : g12 x1 x3 x4 x5 mod_pile = some R) (H : Heap) (locs : List Loc) (ls : Array Slot) (hP : va_P D classes (wl_X12_worked ad cs mod_code mod_shoes mod_claims mod_taped mod_here mod_fault mod_suits mod_doneMany mod_undoneMany mod_open mod_laid mod_isBoth mod_wished mod_bestMany mod_bestRow mod_ringDigits mod_traces mod_act mod_with mod_facts mod_pile) H) (hD : va_D A (wl_X12_worked ad cs mod_code mod_shoes mod_claims mod_taped mod_here mod_fault mod_suits mod_doneMany mod_undoneMany mod_open mod_laid mod_isBoth mod_wished mod_bestMany mod_bestRow mod_ringDigits mod_traces mod_act mod_with mod_facts mod_pile)) (hS : va_S A s.heap H locs) (hl : lv_has ls 7 [(0, .ref (ad 41)), (1, .int x1), (3, .int x3), (4, .int x4), (5, .int x5)]), W p l e rm_X12_worked s m args below meth c H locs 0 0 (MQ below (Q_X12_worked D cs ad mod_code mod_shoes mod_claims mod_taped mod_here mod_fault mod_suits mod_doneMany mod_undoneMany mod_open mod_laid mod_isBoth mod_wished mod_bestMany mod_bestRow mod_ringDigits mod_traces mod_act mod_with mod_facts A R) args s 0 0 A) (F0 m 12 ls [])) (x1 : Int32) (x2 : Int32) (x3 : Int32) (mod_pile : Nat → Int32) (h : B_X12_worked_0 g12 mod_code mod_shoes mod_claims mod_taped mod_here mod_fault mod_suits mod_doneMany mod_undoneMany mod_open mod_laid mod_isBoth mod_wished mod_bestMany mod_bestRow mod_ringDigits mod_traces mod_act mod_with mod_facts x1 x2 x3 mod_pile = some R) (H : Heap) (locs : List Loc) (ls : Array Slot) (hP : va_P D classes (wl_X12_worked ad cs mod_code mod_shoes mod_claims mod_taped mod_here mod_fault mod_suits mod_doneMany mod_undoneMany mod_open mod_laid mod_isBoth mod_wished mod_bestMany mod_bestRow mod_ringDigits mod_traces mod_act mod_with mod_facts mod_pile) H) (hD : va_D A (wl_X12_worked ad cs mod_code mod_shoes mod_claims mod_taped mod_here mod_fault mod_suits mod_doneMany mod_undoneMany mod_open mod_laid mod_isBoth mod_wished mod_bestMany mod_bestRow mod_ringDigits mod_traces mod_act mod_with mod_facts mod_pile)) (hS : va_S A s.heap H locs) (hl : lv_has ls 7 [(0, .ref (ad 41)), (1, .int x1), (2, .int x2), (3, .int x3)]) : W p l e rm_X12_worked s m args below meth c H locs 0 0 (MQ below (Q_X12_worked D cs ad mod_code mod_shoes mod_claims mod_taped mod_here mod_fault mod_suits mod_doneMany mod_undoneMany mod_open mod_laid mod_isBoth mod_wished mod_bestMany mod_bestRow mod_ringDigits mod_traces mod_act mod_with mod_facts A R) args s 0 0 A) (F0 m 0 ls []) := by
  obtain ⟨hx, hb, hr, hml, hown, ht, hlocks⟩ := id C0
  refine lv_iconst (v := (0 : Int32)) hx hb dX12_worked_0 (by decide) ?_
  refine lv_istore (lv' := [(4, .int (0 : Int32)), (0, .ref (ad 41)), (1, .int x1), (2, .int x2), (3, .int x3)]) hx hb dX12_worked_1 hl (by decide) rfl (fun ls hl => ?_)
  refine lv_sipush (v := (130 : Int32)) hx hb dX12_worked_3 (by decide) ?_
  refine lv_iload_n hx hb dX12_worked_6 rfl (lv_at hl 2 rfl) ?_
  refine lv_imul hx hb dX12_worked_7 ?_
  refine lv_iload_n hx hb dX12_worked_8 rfl (lv_at hl 3 rfl) ?_
  refine lv_iadd hx hb dX12_worked_9 ?_
  obtain ⟨v_1, ev_1, h⟩ := zk_lt h
  refine W.eq (g2 := F0 m 10 ls [.int v_1]) (by rw [ev_1]) ?_
  refine lv_istore (lv' := [(5, .int v_1), (4, .int (0 : Int32)), (0, .ref (ad 41)), (1, .int x1), (2, .int x2), (3, .int x3)]) hx hb dX12_worked_10 hl (by decide) rfl (fun ls hl => ?_)
  exact ih12 x1 x3 (0 : Int32) v_1 mod_pile h H locs ls hP hD hS (lv_sub hl [2, 3, 5, 1, 0] rfl)
theorem LG_X12_worked {p : Program} {l : Launch} {e : Env} {s : State} {m : MethodId} {args : Array Value} {below : List Frame} {meth : Method} {c : Code} {A : Nat → Prop} {D : va_G} {cs : Nat → ClassId} {ad : Nat → Nat} {mod_code : Int32} {mod_shoes : Int32} {mod_claims : Int32} {mod_taped : Int32} {mod_here : Int32} {mod_fault : Int32} {mod_suits : Int32} {mod_doneMany : Int32} {mod_undoneMany : Int32} {mod_open : Int32} {mod_laid : Int32} {mod_isBoth : Int32} {mod_wished : Int32} {mod_bestMany : Int32} {mod_bestRow : Int32} {mod_ringDigits : Int32} {mod_traces : Int32} {mod_act : Nat → Int32} {mod_with : Nat → Int32} {mod_facts : Nat → Int32} {R : Int32 × (Nat → Int32)} (C0 : zC p s m args meth c cX12_worked 7 (some .int) RX12 zW) (hK : va_K D classes (zT cs) s) (hA : ∀ q : Nat, s.heap.size ≤ q → A q) : ∀ n : Nat, (∀ (x1 : Int32) (x3 : Int32) (x4 : Int32) (x5 : Int32) (mod_pile : Nat → Int32) (h : (G_X12_worked   mod_code mod_shoes mod_claims mod_taped mod_here mod_fault mod_suits mod_doneMany mod_undoneMany mod_open mod_laid mod_isBoth mod_wished mod_bestMany mod_bestRow mod_ringDigits mod_traces mod_act mod_with mod_facts n) x1 x3 x4 x5 mod_pile = some R) (H : Heap) (locs : List Loc) (ls : Array Slot) (hP : va_P D classes (wl_X12_worked ad cs mod_code mod_shoes mod_claims mod_taped mod_here mod_fault mod_suits mod_doneMany mod_undoneMany mod_open mod_laid mod_isBoth mod_wished mod_bestMany mod_bestRow mod_ringDigits mod_traces mod_act mod_with mod_facts mod_pile) H) (hD : va_D A (wl_X12_worked ad cs mod_code mod_shoes mod_claims mod_taped mod_here mod_fault mod_suits mod_doneMany mod_undoneMany mod_open mod_laid mod_isBoth mod_wished mod_bestMany mod_bestRow mod_ringDigits mod_traces mod_act mod_with mod_facts mod_pile)) (hS : va_S A s.heap H locs) (hl : lv_has ls 7 [(0, .ref (ad 41)), (1, .int x1), (3, .int x3), (4, .int x4), (5, .int x5)]), W p l e rm_X12_worked s m args below meth c H locs 0 0 (MQ below (Q_X12_worked D cs ad mod_code mod_shoes mod_claims mod_taped mod_here mod_fault mod_suits mod_doneMany mod_undoneMany mod_open mod_laid mod_isBoth mod_wished mod_bestMany mod_bestRow mod_ringDigits mod_traces mod_act mod_with mod_facts A R) args s 0 0 A) (F0 m 12 ls [])) := by
  intro n
  induction n with
  | zero =>
    refine ?_ <;> (intros; rename_i h _ _ _ _ _ _ _; cases h)
  | succ n ih =>
    exact L_X12_worked_12 C0 hK hA  ih
set_option maxHeartbeats 4000000 in
set_option maxRecDepth 100000 in
theorem c_X12_worked (l : Launch) (D : va_G) (cs : Nat → ClassId) (ad : Nat → Nat) (sz : Nat) (n : Nat) (x1 : Int32) (x2 : Int32) (x3 : Int32) (mod_code : Int32) (mod_shoes : Int32) (mod_claims : Int32) (mod_taped : Int32) (mod_here : Int32) (mod_fault : Int32) (mod_suits : Int32) (mod_doneMany : Int32) (mod_undoneMany : Int32) (mod_open : Int32) (mod_laid : Int32) (mod_isBoth : Int32) (mod_wished : Int32) (mod_bestMany : Int32) (mod_bestRow : Int32) (mod_ringDigits : Int32) (mod_traces : Int32) (mod_act : Nat → Int32) (mod_with : Nat → Int32) (mod_facts : Nat → Int32) (mod_pile : Nat → Int32) (R : Int32 × (Nat → Int32)) (h : f_X12_worked   n x1 x2 x3 mod_code mod_shoes mod_claims mod_taped mod_here mod_fault mod_suits mod_doneMany mod_undoneMany mod_open mod_laid mod_isBoth mod_wished mod_bestMany mod_bestRow mod_ringDigits mod_traces mod_act mod_with mod_facts mod_pile = some R) : Met l yX12_worked (z_X12_worked) rm_X12_worked (va_Pc [.ref (ad 41), .int x1, .int x2, .int x3] (zPre D cs (wl_X12_worked ad cs mod_code mod_shoes mod_claims mod_taped mod_here mod_fault mod_suits mod_doneMany mod_undoneMany mod_open mod_laid mod_isBoth mod_wished mod_bestMany mod_bestRow mod_ringDigits mod_traces mod_act mod_with mod_facts mod_pile) sz)) (Q_X12_worked D cs ad mod_code mod_shoes mod_claims mod_taped mod_here mod_fault mod_suits mod_doneMany mod_undoneMany mod_open mod_laid mod_isBoth mod_wished mod_bestMany mod_bestRow mod_ringDigits mod_traces mod_act mod_with mod_facts (va_A (wl_X12_worked ad cs mod_code mod_shoes mod_claims mod_taped mod_here mod_fault mod_suits mod_doneMany mod_undoneMany mod_open mod_laid mod_isBoth mod_wished mod_bestMany mod_bestRow mod_ringDigits mod_traces mod_act mod_with mod_facts mod_pile) sz) R) 0 0 (va_A (wl_X12_worked ad cs mod_code mod_shoes mod_claims mod_taped mod_here mod_fault mod_suits mod_doneMany mod_undoneMany mod_open mod_laid mod_isBoth mod_wished mod_bestMany mod_bestRow mod_ringDigits mod_traces mod_act mod_with mod_facts mod_pile) sz) := by
  refine Met.ofW (cc := cX12_worked) (maxL := 7) (ret := (some .int)) (by decide) rfl ?_
  intro p e s m args below meth c s₁ B hml hv
  obtain ⟨rfl, hsz, hP, hK, hD0⟩ := hv
  subst hsz
  have hD := hD0.self (sz := s.heap.size)
  have C0 : zC p s m _ meth c cX12_worked 7 (some .int) RX12 zW := ⟨B.exec, B.bytes, B.returns, hml, findClass_of_methodNamed B.named, fun w hw => atoms_spec (ws := z_X12_worked) B.pre w (List.mem_cons_of_mem _ hw), B.notSynchronized⟩
  have hA : ∀ q : Nat, s.heap.size ≤ q → va_A (wl_X12_worked ad cs mod_code mod_shoes mod_claims mod_taped mod_here mod_fault mod_suits mod_doneMany mod_undoneMany mod_open mod_laid mod_isBoth mod_wished mod_bestMany mod_bestRow mod_ringDigits mod_traces mod_act mod_with mod_facts mod_pile) s.heap.size q := fun q h => Or.inr h
  have hl := lv_entry ([.ref (ad 41), .int x1, .int x2, .int x3]) (n := 7) (Nat.le_of_ble_eq_true rfl)
  rw [lg_entry_eq]
  generalize (lg_sl ([.ref (ad 41), .int x1, .int x2, .int x3]) ++ List.replicate (7 - (lg_sl ([.ref (ad 41), .int x1, .int x2, .int x3])).length) Slot.unset).toArray = ls at hl ⊢
  exact L_X12_worked_0 C0 hK hA  ((LG_X12_worked C0 hK hA  n)) x1 x2 x3 mod_pile h s.heap [] ls hP hD va_S.rf hl
theorem kw_47 : Cond.selects RX12 yX12_worked yX12_worked ∈ zW := zwI (i := 47) (by decide +kernel) (by decide +kernel)
theorem kw_1685 : Cond.methodLink RX12 299 yX12_worked ∈ zW := zwC (i := 171) zc_7 rfl rfl
theorem kw_1687 : Cond.instanceMethod yX12_worked ∈ zW := zwC (i := 173) zc_7 rfl rfl
theorem kw_1688 : Cond.code yX12_worked cX12_worked 7 (some .int) ∈ zW := zwC (i := 174) zc_7 rfl rfl
theorem zh_cX12_gives_0 : zck [3, 61, 16, 61, 27, 104, 62, 29, 16, 61, 27, 104, 42, 180, 0, 89, 27, 46, 96, 162, 0, 59] (zdu 0 cX12_gives.data.toList) = true := by decide +kernel
theorem dX12_gives_0 : decode cX12_gives 0 = .ok (.iconst 0, 1) := zo_3 zh_cX12_gives_0 0 rfl
theorem dX12_gives_1 : decode cX12_gives 1 = .ok (.istore_n 2, 1) := zo_61 zh_cX12_gives_0 1 rfl
theorem dX12_gives_2 : decode cX12_gives 2 = .ok (.bipush 61, 2) := zo_p16 zh_cX12_gives_0 2 61 rfl rfl
theorem dX12_gives_4 : decode cX12_gives 4 = .ok (.iload_n 1, 1) := zo_27 zh_cX12_gives_0 4 rfl
theorem dX12_gives_5 : decode cX12_gives 5 = .ok (.imul, 1) := zo_104 zh_cX12_gives_0 5 rfl
theorem dX12_gives_6 : decode cX12_gives 6 = .ok (.istore_n 3, 1) := zo_62 zh_cX12_gives_0 6 rfl
theorem dX12_gives_7 : decode cX12_gives 7 = .ok (.iload_n 3, 1) := zo_29 zh_cX12_gives_0 7 rfl
theorem dX12_gives_8 : decode cX12_gives 8 = .ok (.bipush 61, 2) := zo_p16 zh_cX12_gives_0 8 61 rfl rfl
theorem dX12_gives_10 : decode cX12_gives 10 = .ok (.iload_n 1, 1) := zo_27 zh_cX12_gives_0 10 rfl
theorem dX12_gives_11 : decode cX12_gives 11 = .ok (.imul, 1) := zo_104 zh_cX12_gives_0 11 rfl
theorem dX12_gives_12 : decode cX12_gives 12 = .ok (.aload_n 0, 1) := zo_42 zh_cX12_gives_0 12 rfl
theorem dX12_gives_13 : decode cX12_gives 13 = .ok (.getfield 89, 3) := zo_180 zh_cX12_gives_0 13 rfl
theorem dX12_gives_16 : decode cX12_gives 16 = .ok (.iload_n 1, 1) := zo_27 zh_cX12_gives_0 16 rfl
theorem dX12_gives_17 : decode cX12_gives 17 = .ok (.iaload, 1) := zo_46 zh_cX12_gives_0 17 rfl
theorem dX12_gives_18 : decode cX12_gives 18 = .ok (.iadd, 1) := zo_96 zh_cX12_gives_0 18 rfl
theorem dX12_gives_19 : decode cX12_gives 19 = .ok (.if_icmp .ge 59, 3) := zo_p162 zh_cX12_gives_0 19 59 rfl rfl
theorem zh_cX12_gives_1 : zck [0, 59, 42, 180, 0, 92, 29, 53, 28, 159, 0, 18, 42, 27, 28, 42, 180, 0, 92, 29, 53, 182] (zdu 20 cX12_gives.data.toList) = true := by decide +kernel
theorem dX12_gives_22 : decode cX12_gives 22 = .ok (.aload_n 0, 1) := zo_42 zh_cX12_gives_1 2 rfl
theorem dX12_gives_23 : decode cX12_gives 23 = .ok (.getfield 92, 3) := zo_180 zh_cX12_gives_1 3 rfl
theorem dX12_gives_26 : decode cX12_gives 26 = .ok (.iload_n 3, 1) := zo_29 zh_cX12_gives_1 6 rfl
theorem dX12_gives_27 : decode cX12_gives 27 = .ok (.saload, 1) := zo_53 zh_cX12_gives_1 7 rfl
theorem dX12_gives_28 : decode cX12_gives 28 = .ok (.iload_n 2, 1) := zo_28 zh_cX12_gives_1 8 rfl
theorem dX12_gives_29 : decode cX12_gives 29 = .ok (.if_icmp .eq 18, 3) := zo_p159 zh_cX12_gives_1 9 18 rfl rfl
theorem dX12_gives_32 : decode cX12_gives 32 = .ok (.aload_n 0, 1) := zo_42 zh_cX12_gives_1 12 rfl
theorem dX12_gives_33 : decode cX12_gives 33 = .ok (.iload_n 1, 1) := zo_27 zh_cX12_gives_1 13 rfl
theorem dX12_gives_34 : decode cX12_gives 34 = .ok (.iload_n 2, 1) := zo_28 zh_cX12_gives_1 14 rfl
theorem dX12_gives_35 : decode cX12_gives 35 = .ok (.aload_n 0, 1) := zo_42 zh_cX12_gives_1 15 rfl
theorem dX12_gives_36 : decode cX12_gives 36 = .ok (.getfield 92, 3) := zo_180 zh_cX12_gives_1 16 rfl
theorem dX12_gives_39 : decode cX12_gives 39 = .ok (.iload_n 3, 1) := zo_29 zh_cX12_gives_1 19 rfl
theorem zh_cX12_gives_2 : zck [53, 182, 1, 43, 153, 0, 21, 42, 27, 42, 180, 0, 92, 29, 53, 42, 180, 0, 96, 29, 53, 182] (zdu 40 cX12_gives.data.toList) = true := by decide +kernel
theorem dX12_gives_40 : decode cX12_gives 40 = .ok (.saload, 1) := zo_53 zh_cX12_gives_2 0 rfl
theorem dX12_gives_41 : decode cX12_gives 41 = .ok (.invokevirtual 299, 3) := zo_182 zh_cX12_gives_2 1 rfl
theorem dX12_gives_44 : decode cX12_gives 44 = .ok (.ifCond .eq 21, 3) := zo_p153 zh_cX12_gives_2 4 21 rfl rfl
theorem dX12_gives_47 : decode cX12_gives 47 = .ok (.aload_n 0, 1) := zo_42 zh_cX12_gives_2 7 rfl
theorem dX12_gives_48 : decode cX12_gives 48 = .ok (.iload_n 1, 1) := zo_27 zh_cX12_gives_2 8 rfl
theorem dX12_gives_49 : decode cX12_gives 49 = .ok (.aload_n 0, 1) := zo_42 zh_cX12_gives_2 9 rfl
theorem dX12_gives_50 : decode cX12_gives 50 = .ok (.getfield 92, 3) := zo_180 zh_cX12_gives_2 10 rfl
theorem dX12_gives_53 : decode cX12_gives 53 = .ok (.iload_n 3, 1) := zo_29 zh_cX12_gives_2 13 rfl
theorem dX12_gives_54 : decode cX12_gives 54 = .ok (.saload, 1) := zo_53 zh_cX12_gives_2 14 rfl
theorem dX12_gives_55 : decode cX12_gives 55 = .ok (.aload_n 0, 1) := zo_42 zh_cX12_gives_2 15 rfl
theorem dX12_gives_56 : decode cX12_gives 56 = .ok (.getfield 96, 3) := zo_180 zh_cX12_gives_2 16 rfl
theorem dX12_gives_59 : decode cX12_gives 59 = .ok (.iload_n 3, 1) := zo_29 zh_cX12_gives_2 19 rfl
theorem zh_cX12_gives_3 : zck [53, 182, 1, 43, 172, 42, 180, 0, 96, 29, 53, 61, 132, 3, 1, 167, 255, 188, 3, 172] (zdu 60 cX12_gives.data.toList) = true := by decide +kernel
theorem dX12_gives_60 : decode cX12_gives 60 = .ok (.saload, 1) := zo_53 zh_cX12_gives_3 0 rfl
theorem dX12_gives_61 : decode cX12_gives 61 = .ok (.invokevirtual 299, 3) := zo_182 zh_cX12_gives_3 1 rfl
theorem dX12_gives_64 : decode cX12_gives 64 = .ok (.ireturn, 1) := zo_172 zh_cX12_gives_3 4 rfl
theorem dX12_gives_65 : decode cX12_gives 65 = .ok (.aload_n 0, 1) := zo_42 zh_cX12_gives_3 5 rfl
theorem dX12_gives_66 : decode cX12_gives 66 = .ok (.getfield 96, 3) := zo_180 zh_cX12_gives_3 6 rfl
theorem dX12_gives_69 : decode cX12_gives 69 = .ok (.iload_n 3, 1) := zo_29 zh_cX12_gives_3 9 rfl
theorem dX12_gives_70 : decode cX12_gives 70 = .ok (.saload, 1) := zo_53 zh_cX12_gives_3 10 rfl
theorem dX12_gives_71 : decode cX12_gives 71 = .ok (.istore_n 2, 1) := zo_61 zh_cX12_gives_3 11 rfl
theorem dX12_gives_72 : decode cX12_gives 72 = .ok (.iinc 3 1, 3) := zo_p132 zh_cX12_gives_3 12 1 rfl rfl
theorem dX12_gives_75 : decode cX12_gives 75 = .ok (.goto (-68), 3) := zo_n167 zh_cX12_gives_3 15 67 rfl rfl
theorem dX12_gives_78 : decode cX12_gives 78 = .ok (.iconst 0, 1) := zo_3 zh_cX12_gives_3 18 rfl
theorem dX12_gives_79 : decode cX12_gives 79 = .ok (.ireturn, 1) := zo_172 zh_cX12_gives_3 19 rfl
abbrev z_X12_gives : List Cond := .code yX12_gives cX12_gives 4 (some .int) :: zW
abbrev wl_X12_gives (ad : Nat → Nat) (cs : Nat → ClassId)  (mod_code : Int32) (mod_shoes : Int32) (mod_claims : Int32) (mod_taped : Int32) (mod_here : Int32) (mod_fault : Int32) (mod_suits : Int32) (mod_doneMany : Int32) (mod_undoneMany : Int32) (mod_open : Int32) (mod_laid : Int32) (mod_isBoth : Int32) (mod_wished : Int32) (mod_bestMany : Int32) (mod_bestRow : Int32) (mod_ringDigits : Int32) (mod_traces : Int32) (mod_act : Nat → Int32) (mod_with : Nat → Int32) (mod_lineMany : Nat → Int32) (mod_testEnd : Nat → Int32) (mod_lineEnd : Nat → Int32) (mod_facts : Nat → Int32) (mod_pile : Nat → Int32) : va_W := [((ad 41), .inr (12, [.int mod_code, .int mod_shoes, .ref (ad 42), .ref (ad 43), .ref (ad 44), .ref (ad 45), .int mod_claims, .ref (ad 46), .ref (ad 47), .ref (ad 48), .ref (ad 49), .ref (ad 50), .int mod_taped, .int mod_here, .int mod_fault, .int mod_suits, .ref (ad 51), .ref (ad 52), .ref (ad 53), .ref (ad 54), .ref (ad 55), .ref (ad 56), .ref (ad 57), .ref (ad 58), .ref (ad 59), .ref (ad 60), .ref (ad 61), .int mod_doneMany, .int mod_undoneMany, .ref (ad 62), .ref (ad 63), .ref (ad 64), .ref (ad 65), .int mod_open, .int mod_laid, .ref (ad 66), .ref (ad 67), .ref (ad 68), .ref (ad 69), .ref (ad 70), .ref (ad 71), .ref (ad 72), .ref (ad 73), .ref (ad 74), .ref (ad 75), .int mod_isBoth, .int mod_wished, .ref (ad 76), .ref (ad 77), .int mod_bestMany, .int mod_bestRow, .ref (ad 78), .ref (ad 79), .int mod_ringDigits, .int mod_traces, .ref (ad 80), .ref (ad 81), .ref (ad 82), .ref (ad 83), .ref (ad 84)])), ((ad 66), .inl (cs 2, 4290, .inl mod_act)), ((ad 67), .inl (cs 0, 4290, .inl mod_with)), ((ad 68), .inl (cs 0, 33, .inl mod_lineMany)), ((ad 69), .inl (cs 3, 2013, .inl mod_testEnd)), ((ad 70), .inl (cs 3, 2013, .inl mod_lineEnd)), ((ad 71), .inl (cs 0, 11, .inl mod_facts)), ((ad 72), .inl (cs 0, 130, .inl mod_pile))]
def Q_X12_gives (D : va_G) (cs : Nat → ClassId) (ad : Nat → Nat)  (mod_code : Int32) (mod_shoes : Int32) (mod_claims : Int32) (mod_taped : Int32) (mod_here : Int32) (mod_fault : Int32) (mod_suits : Int32) (mod_doneMany : Int32) (mod_undoneMany : Int32) (mod_open : Int32) (mod_laid : Int32) (mod_isBoth : Int32) (mod_wished : Int32) (mod_bestMany : Int32) (mod_bestRow : Int32) (mod_ringDigits : Int32) (mod_traces : Int32) (mod_act : Nat → Int32) (mod_with : Nat → Int32) (mod_lineMany : Nat → Int32) (mod_testEnd : Nat → Int32) (mod_lineEnd : Nat → Int32) (mod_facts : Nat → Int32) (A : Nat → Prop) (R : Int32 × (Nat → Int32)) : Array Value → State → Outcome → State → Prop :=
  va_Qi (fun (r : Int32) (u : (Nat → Int32)) => (r, u) = R) (fun (u : (Nat → Int32)) (t : State) => va_P D classes (wl_X12_gives ad cs mod_code mod_shoes mod_claims mod_taped mod_here mod_fault mod_suits mod_doneMany mod_undoneMany mod_open mod_laid mod_isBoth mod_wished mod_bestMany mod_bestRow mod_ringDigits mod_traces mod_act mod_with mod_lineMany mod_testEnd mod_lineEnd mod_facts u) t.heap ∧ va_D A (wl_X12_gives ad cs mod_code mod_shoes mod_claims mod_taped mod_here mod_fault mod_suits mod_doneMany mod_undoneMany mod_open mod_laid mod_isBoth mod_wished mod_bestMany mod_bestRow mod_ringDigits mod_traces mod_act mod_with mod_lineMany mod_testEnd mod_lineEnd mod_facts u)) A
abbrev rm_X12_gives : Room := { frames := 2, cells := 0, slots := 0, locals := 48 }
theorem g_X12_299 : GoodIn zW (wsV RX12 299 RX12 yX12_worked z_X12_worked) := zGV kw_1685 kw_1687 kw_47 kw_95 kw_1688
theorem hd_X12_worked : yX12_worked.cls ≠ "java/lang/invoke/MethodHandle" ∧ yX12_worked.cls ≠ "java/lang/invoke/VarHandle" ∧ (parseMethodDescriptor yX12_worked.desc).map (fun d => d.parameters.length) = some 3 := by decide +kernel
def B_X12_gives_47   (g7 : Int32 → Int32 → Int32 → (Nat → Int32) → (Option (Int32 × (Nat → Int32)))) (mod_code : Int32) (mod_shoes : Int32) (mod_claims : Int32) (mod_taped : Int32) (mod_here : Int32) (mod_fault : Int32) (mod_suits : Int32) (mod_doneMany : Int32) (mod_undoneMany : Int32) (mod_open : Int32) (mod_laid : Int32) (mod_isBoth : Int32) (mod_wished : Int32) (mod_bestMany : Int32) (mod_bestRow : Int32) (mod_ringDigits : Int32) (mod_traces : Int32) (mod_act : Nat → Int32) (mod_with : Nat → Int32) (mod_lineMany : Nat → Int32) (mod_testEnd : Nat → Int32) (mod_lineEnd : Nat → Int32) (mod_facts : Nat → Int32) (x1 : Int32) (x3 : Int32) (mod_pile : Nat → Int32) : Option (Int32 × (Nat → Int32)) :=
  (if (x3 < 0 ∨ 2013 ≤ x3.toNatClampNeg) then none else (if (x3 < 0 ∨ 2013 ≤ x3.toNatClampNeg) then none else (zk_b2 (f_X12_worked 100000 x1 (mod_testEnd x3.toNatClampNeg) (mod_lineEnd x3.toNatClampNeg) mod_code mod_shoes mod_claims mod_taped mod_here mod_fault mod_suits mod_doneMany mod_undoneMany mod_open mod_laid mod_isBoth mod_wished mod_bestMany mod_bestRow mod_ringDigits mod_traces mod_act mod_with mod_facts mod_pile) (fun r_16 u_17 => (some (r_16, u_17))))))
def B_X12_gives_7   (g7 : Int32 → Int32 → Int32 → (Nat → Int32) → (Option (Int32 × (Nat → Int32)))) (mod_code : Int32) (mod_shoes : Int32) (mod_claims : Int32) (mod_taped : Int32) (mod_here : Int32) (mod_fault : Int32) (mod_suits : Int32) (mod_doneMany : Int32) (mod_undoneMany : Int32) (mod_open : Int32) (mod_laid : Int32) (mod_isBoth : Int32) (mod_wished : Int32) (mod_bestMany : Int32) (mod_bestRow : Int32) (mod_ringDigits : Int32) (mod_traces : Int32) (mod_act : Nat → Int32) (mod_with : Nat → Int32) (mod_lineMany : Nat → Int32) (mod_testEnd : Nat → Int32) (mod_lineEnd : Nat → Int32) (mod_facts : Nat → Int32) (x1 : Int32) (x2 : Int32) (x3 : Int32) (mod_pile : Nat → Int32) : Option (Int32 × (Nat → Int32)) :=
  (if (x1 < 0 ∨ 33 ≤ x1.toNatClampNeg) then none else (if (((61 : Int32) * x1) + (mod_lineMany x1.toNatClampNeg)) ≤ x3 then (some ((0 : Int32), mod_pile)) else (if (x3 < 0 ∨ 2013 ≤ x3.toNatClampNeg) then none else (if (mod_testEnd x3.toNatClampNeg) = x2 then (B_X12_gives_47 g7 mod_code mod_shoes mod_claims mod_taped mod_here mod_fault mod_suits mod_doneMany mod_undoneMany mod_open mod_laid mod_isBoth mod_wished mod_bestMany mod_bestRow mod_ringDigits mod_traces mod_act mod_with mod_lineMany mod_testEnd mod_lineEnd mod_facts x1 x3 mod_pile) else (if (x3 < 0 ∨ 2013 ≤ x3.toNatClampNeg) then none else (zk_b2 (f_X12_worked 100000 x1 x2 (mod_testEnd x3.toNatClampNeg) mod_code mod_shoes mod_claims mod_taped mod_here mod_fault mod_suits mod_doneMany mod_undoneMany mod_open mod_laid mod_isBoth mod_wished mod_bestMany mod_bestRow mod_ringDigits mod_traces mod_act mod_with mod_facts mod_pile) (fun r_7 u_8 => (if r_7 = 0 then (if (x3 < 0 ∨ 2013 ≤ x3.toNatClampNeg) then none else (zk_let (mod_lineEnd x3.toNatClampNeg) (fun v_12 => (zk_let (x3 + (1 : Int32)) (fun v_13 => (g7 x1 v_12 v_13 u_8)))))) else (B_X12_gives_47 g7 mod_code mod_shoes mod_claims mod_taped mod_here mod_fault mod_suits mod_doneMany mod_undoneMany mod_open mod_laid mod_isBoth mod_wished mod_bestMany mod_bestRow mod_ringDigits mod_traces mod_act mod_with mod_lineMany mod_testEnd mod_lineEnd mod_facts x1 x3 u_8)))))))))
def B_X12_gives_0   (g7 : Int32 → Int32 → Int32 → (Nat → Int32) → (Option (Int32 × (Nat → Int32)))) (mod_code : Int32) (mod_shoes : Int32) (mod_claims : Int32) (mod_taped : Int32) (mod_here : Int32) (mod_fault : Int32) (mod_suits : Int32) (mod_doneMany : Int32) (mod_undoneMany : Int32) (mod_open : Int32) (mod_laid : Int32) (mod_isBoth : Int32) (mod_wished : Int32) (mod_bestMany : Int32) (mod_bestRow : Int32) (mod_ringDigits : Int32) (mod_traces : Int32) (mod_act : Nat → Int32) (mod_with : Nat → Int32) (mod_lineMany : Nat → Int32) (mod_testEnd : Nat → Int32) (mod_lineEnd : Nat → Int32) (mod_facts : Nat → Int32) (x1 : Int32) (mod_pile : Nat → Int32) : Option (Int32 × (Nat → Int32)) :=
  (zk_let ((61 : Int32) * x1) (fun v_1 => (g7 x1 (0 : Int32) v_1 mod_pile)))
def G_X12_gives   (mod_code : Int32) (mod_shoes : Int32) (mod_claims : Int32) (mod_taped : Int32) (mod_here : Int32) (mod_fault : Int32) (mod_suits : Int32) (mod_doneMany : Int32) (mod_undoneMany : Int32) (mod_open : Int32) (mod_laid : Int32) (mod_isBoth : Int32) (mod_wished : Int32) (mod_bestMany : Int32) (mod_bestRow : Int32) (mod_ringDigits : Int32) (mod_traces : Int32) (mod_act : Nat → Int32) (mod_with : Nat → Int32) (mod_lineMany : Nat → Int32) (mod_testEnd : Nat → Int32) (mod_lineEnd : Nat → Int32) (mod_facts : Nat → Int32) (n : Nat) : (Int32 → Int32 → Int32 → (Nat → Int32) → (Option (Int32 × (Nat → Int32)))) :=
  Nat.rec (motive := fun _ => (Int32 → Int32 → Int32 → (Nat → Int32) → (Option (Int32 × (Nat → Int32))))) ((fun _ _ _ _ => none)) (fun _ ih => (B_X12_gives_7   ih mod_code mod_shoes mod_claims mod_taped mod_here mod_fault mod_suits mod_doneMany mod_undoneMany mod_open mod_laid mod_isBoth mod_wished mod_bestMany mod_bestRow mod_ringDigits mod_traces mod_act mod_with mod_lineMany mod_testEnd mod_lineEnd mod_facts)) n
def f_X12_gives   (n : Nat) (x1 : Int32) (mod_code : Int32) (mod_shoes : Int32) (mod_claims : Int32) (mod_taped : Int32) (mod_here : Int32) (mod_fault : Int32) (mod_suits : Int32) (mod_doneMany : Int32) (mod_undoneMany : Int32) (mod_open : Int32) (mod_laid : Int32) (mod_isBoth : Int32) (mod_wished : Int32) (mod_bestMany : Int32) (mod_bestRow : Int32) (mod_ringDigits : Int32) (mod_traces : Int32) (mod_act : Nat → Int32) (mod_with : Nat → Int32) (mod_lineMany : Nat → Int32) (mod_testEnd : Nat → Int32) (mod_lineEnd : Nat → Int32) (mod_facts : Nat → Int32) (mod_pile : Nat → Int32) : Option (Int32 × (Nat → Int32)) := B_X12_gives_0   ((G_X12_gives   mod_code mod_shoes mod_claims mod_taped mod_here mod_fault mod_suits mod_doneMany mod_undoneMany mod_open mod_laid mod_isBoth mod_wished mod_bestMany mod_bestRow mod_ringDigits mod_traces mod_act mod_with mod_lineMany mod_testEnd mod_lineEnd mod_facts n)) mod_code mod_shoes mod_claims mod_taped mod_here mod_fault mod_suits mod_doneMany mod_undoneMany mod_open mod_laid mod_isBoth mod_wished mod_bestMany mod_bestRow mod_ringDigits mod_traces mod_act mod_with mod_lineMany mod_testEnd mod_lineEnd mod_facts x1 mod_pile
set_option maxHeartbeats 4000000 in
set_option maxRecDepth 100000 in
theorem L_X12_gives_47 {p : Program} {l : Launch} {e : Env} {s : State} {m : MethodId} {args : Array Value} {below : List Frame} {meth : Method} {c : Code} {A : Nat → Prop} {D : va_G} {cs : Nat → ClassId} {ad : Nat → Nat} {mod_code : Int32} {mod_shoes : Int32} {mod_claims : Int32} {mod_taped : Int32} {mod_here : Int32} {mod_fault : Int32} {mod_suits : Int32} {mod_doneMany : Int32} {mod_undoneMany : Int32} {mod_open : Int32} {mod_laid : Int32} {mod_isBoth : Int32} {mod_wished : Int32} {mod_bestMany : Int32} {mod_bestRow : Int32} {mod_ringDigits : Int32} {mod_traces : Int32} {mod_act : Nat → Int32} {mod_with : Nat → Int32} {mod_lineMany : Nat → Int32} {mod_testEnd : Nat → Int32} {mod_lineEnd : Nat → Int32} {mod_facts : Nat → Int32} {R : Int32 × (Nat → Int32)} {g7 : Int32 → Int32 → Int32 → (Nat → Int32) → (Option (Int32 × (Nat → Int32)))} (C0 : zC p s m args meth c cX12_gives 4 (some .int) RX12 zW) (hK : va_K D classes (zT cs) s) (hA : ∀ q : Nat, s.heap.size ≤ q → A q) (ih7 : ∀ (x1 : Int32) (x2 : Int32) (x3 : Int32) (mod_pile : Nat → Int32) (h : g7 x1 x2 x3 mod_pile = some R) (H : Heap) (locs : List Loc) (ls : Array Slot) (hP : va_P D classes (wl_X12_gives ad cs mod_code mod_shoes mod_claims mod_taped mod_here mod_fault mod_suits mod_doneMany mod_undoneMany mod_open mod_laid mod_isBoth mod_wished mod_bestMany mod_bestRow mod_ringDigits mod_traces mod_act mod_with mod_lineMany mod_testEnd mod_lineEnd mod_facts mod_pile) H) (hD : va_D A (wl_X12_gives ad cs mod_code mod_shoes mod_claims mod_taped mod_here mod_fault mod_suits mod_doneMany mod_undoneMany mod_open mod_laid mod_isBoth mod_wished mod_bestMany mod_bestRow mod_ringDigits mod_traces mod_act mod_with mod_lineMany mod_testEnd mod_lineEnd mod_facts mod_pile)) (hS : va_S A s.heap H locs) (hl : lv_has ls 4 [(0, .ref (ad 41)), (1, .int x1), (2, .int x2), (3, .int x3)]), W p l e rm_X12_gives s m args below meth c H locs 0 0 (MQ below (Q_X12_gives D cs ad mod_code mod_shoes mod_claims mod_taped mod_here mod_fault mod_suits mod_doneMany mod_undoneMany mod_open mod_laid mod_isBoth mod_wished mod_bestMany mod_bestRow mod_ringDigits mod_traces mod_act mod_with mod_lineMany mod_testEnd mod_lineEnd mod_facts A R) args s 0 0 A) (F0 m 7 ls [])) (x1 : Int32) (x3 : Int32) (mod_pile : Nat → Int32) (h : B_X12_gives_47 g7 mod_code mod_shoes mod_claims mod_taped mod_here mod_fault mod_suits mod_doneMany mod_undoneMany mod_open mod_laid mod_isBoth mod_wished mod_bestMany mod_bestRow mod_ringDigits mod_traces mod_act mod_with mod_lineMany mod_testEnd mod_lineEnd mod_facts x1 x3 mod_pile = some R) (H : Heap) (locs : List Loc) (ls : Array Slot) (hP : va_P D classes (wl_X12_gives ad cs mod_code mod_shoes mod_claims mod_taped mod_here mod_fault mod_suits mod_doneMany mod_undoneMany mod_open mod_laid mod_isBoth mod_wished mod_bestMany mod_bestRow mod_ringDigits mod_traces mod_act mod_with mod_lineMany mod_testEnd mod_lineEnd mod_facts mod_pile) H) (hD : va_D A (wl_X12_gives ad cs mod_code mod_shoes mod_claims mod_taped mod_here mod_fault mod_suits mod_doneMany mod_undoneMany mod_open mod_laid mod_isBoth mod_wished mod_bestMany mod_bestRow mod_ringDigits mod_traces mod_act mod_with mod_lineMany mod_testEnd mod_lineEnd mod_facts mod_pile)) (hS : va_S A s.heap H locs) (hl : lv_has ls 4 [(0, .ref (ad 41)), (1, .int x1), (3, .int x3)]) : W p l e rm_X12_gives s m args below meth c H locs 0 0 (MQ below (Q_X12_gives D cs ad mod_code mod_shoes mod_claims mod_taped mod_here mod_fault mod_suits mod_doneMany mod_undoneMany mod_open mod_laid mod_isBoth mod_wished mod_bestMany mod_bestRow mod_ringDigits mod_traces mod_act mod_with mod_lineMany mod_testEnd mod_lineEnd mod_facts A R) args s 0 0 A) (F0 m 47 ls []) := by
  obtain ⟨hx, hb, hr, hml, hown, ht, hlocks⟩ := id C0
  refine lv_aload_n hx hb dX12_gives_47 rfl (lv_at hl 0 rfl) ?_
  refine lv_iload_n hx hb dX12_gives_48 rfl (lv_at hl 1 rfl) ?_
  refine lv_aload_n hx hb dX12_gives_49 rfl (lv_at hl 0 rfl) ?_
  refine va_get (D := D) (ci := 12) (v := .ref (ad 69)) (C := RX12) (T := TX12) (N := 60) hx hb ht iX12 hown hK hP 0 rfl rfl 38 (by decide) (ht _ kw_1333) (fun _ h9 => h9) rfl dX12_gives_50 ?_
  refine lv_iload_n hx hb dX12_gives_53 rfl (lv_at hl 2 rfl) ?_
  obtain ⟨g_14, h⟩ := zk_gd h
  refine va_sald hx hb hK hP 4 3 rfl rfl g_14 dX12_gives_54 ?_
  refine lv_aload_n hx hb dX12_gives_55 rfl (lv_at hl 0 rfl) ?_
  refine va_get (D := D) (ci := 12) (v := .ref (ad 70)) (C := RX12) (T := TX12) (N := 60) hx hb ht iX12 hown hK hP 0 rfl rfl 39 (by decide) (ht _ kw_1334) (fun _ h9 => h9) rfl dX12_gives_56 ?_
  refine lv_iload_n hx hb dX12_gives_59 rfl (lv_at hl 2 rfl) ?_
  obtain ⟨g_15, h⟩ := zk_gd h
  refine va_sald hx hb hK hP 5 3 rfl rfl g_15 dX12_gives_60 ?_
  obtain ⟨r_16, u_17, hc_18, h⟩ := zk_o2 h
  refine zz_vi (post := (fun r u => (r, u) = (r_16, u_17))) (w1 := fun u => (wl_X12_worked ad cs mod_code mod_shoes mod_claims mod_taped mod_here mod_fault mod_suits mod_doneMany mod_undoneMany mod_open mod_laid mod_isBoth mod_wished mod_bestMany mod_bestRow mod_ringDigits mod_traces mod_act mod_with mod_facts u)) (As := [.int x1, .int (mod_testEnd x3.toNatClampNeg), .int (mod_lineEnd x3.toNatClampNeg)]) (rest := []) (c_X12_worked l D cs ad  H.size 100000 x1 (mod_testEnd x3.toNatClampNeg) (mod_lineEnd x3.toNatClampNeg) mod_code mod_shoes mod_claims mod_taped mod_here mod_fault mod_suits mod_doneMany mod_undoneMany mod_open mod_laid mod_isBoth mod_wished mod_bestMany mod_bestRow mod_ringDigits mod_traces mod_act mod_with mod_facts mod_pile (r_16, u_17) hc_18) ⟨hx, hb, hml, hown, ht⟩ (cwV 3 ht g_X12_299 rfl rfl rfl ⟨rfl, hd_X12_worked⟩ ⟨Nat.le_of_ble_eq_true rfl, Nat.le_of_ble_eq_true rfl⟩) (va_recv hK hP (ci := 12) (q0 := 0) rfl rfl) hP hD hS hK hA [0, 1, 2, 6, 7] rfl rfl [(ad 41), (ad 66), (ad 67), (ad 71), (ad 72)] rfl (fun _ => rfl) rfl hl.1 (Nat.le_of_ble_eq_true rfl) dX12_gives_61 ⟨Nat.zero_le _, Nat.zero_le _⟩ (fun r u H locs hq hP hS => ?_)
  cases hq
  have hP : va_P D classes (wl_X12_gives ad cs mod_code mod_shoes mod_claims mod_taped mod_here mod_fault mod_suits mod_doneMany mod_undoneMany mod_open mod_laid mod_isBoth mod_wished mod_bestMany mod_bestRow mod_ringDigits mod_traces mod_act mod_with mod_lineMany mod_testEnd mod_lineEnd mod_facts u_17) H := hP
  have hD : va_D A (wl_X12_gives ad cs mod_code mod_shoes mod_claims mod_taped mod_here mod_fault mod_suits mod_doneMany mod_undoneMany mod_open mod_laid mod_isBoth mod_wished mod_bestMany mod_bestRow mod_ringDigits mod_traces mod_act mod_with mod_lineMany mod_testEnd mod_lineEnd mod_facts u_17) := zDk hD [(ad 41), (ad 66), (ad 67), (ad 68), (ad 69), (ad 70), (ad 71), (ad 72)] rfl rfl
  exact W.iret (v := r_16) hx hb hr (fun t ht2 hW => ⟨⟨r_16, u_17, rfl, Option.some.inj h, by rw [ht2]; exact hP, hD⟩, hS.F ht2⟩) hS.2.2 dX12_gives_64 hlocks
set_option maxHeartbeats 4000000 in
set_option maxRecDepth 100000 in
theorem L_X12_gives_7 {p : Program} {l : Launch} {e : Env} {s : State} {m : MethodId} {args : Array Value} {below : List Frame} {meth : Method} {c : Code} {A : Nat → Prop} {D : va_G} {cs : Nat → ClassId} {ad : Nat → Nat} {mod_code : Int32} {mod_shoes : Int32} {mod_claims : Int32} {mod_taped : Int32} {mod_here : Int32} {mod_fault : Int32} {mod_suits : Int32} {mod_doneMany : Int32} {mod_undoneMany : Int32} {mod_open : Int32} {mod_laid : Int32} {mod_isBoth : Int32} {mod_wished : Int32} {mod_bestMany : Int32} {mod_bestRow : Int32} {mod_ringDigits : Int32} {mod_traces : Int32} {mod_act : Nat → Int32} {mod_with : Nat → Int32} {mod_lineMany : Nat → Int32} {mod_testEnd : Nat → Int32} {mod_lineEnd : Nat → Int32} {mod_facts : Nat → Int32} {R : Int32 × (Nat → Int32)} {g7 : Int32 → Int32 → Int32 → (Nat → Int32) → (Option (Int32 × (Nat → Int32)))} (C0 : zC p s m args meth c cX12_gives 4 (some .int) RX12 zW) (hK : va_K D classes (zT cs) s) (hA : ∀ q : Nat, s.heap.size ≤ q → A q) (ih7 : ∀ (x1 : Int32) (x2 : Int32) (x3 : Int32) (mod_pile : Nat → Int32) (h : g7 x1 x2 x3 mod_pile = some R) (H : Heap) (locs : List Loc) (ls : Array Slot) (hP : va_P D classes (wl_X12_gives ad cs mod_code mod_shoes mod_claims mod_taped mod_here mod_fault mod_suits mod_doneMany mod_undoneMany mod_open mod_laid mod_isBoth mod_wished mod_bestMany mod_bestRow mod_ringDigits mod_traces mod_act mod_with mod_lineMany mod_testEnd mod_lineEnd mod_facts mod_pile) H) (hD : va_D A (wl_X12_gives ad cs mod_code mod_shoes mod_claims mod_taped mod_here mod_fault mod_suits mod_doneMany mod_undoneMany mod_open mod_laid mod_isBoth mod_wished mod_bestMany mod_bestRow mod_ringDigits mod_traces mod_act mod_with mod_lineMany mod_testEnd mod_lineEnd mod_facts mod_pile)) (hS : va_S A s.heap H locs) (hl : lv_has ls 4 [(0, .ref (ad 41)), (1, .int x1), (2, .int x2), (3, .int x3)]), W p l e rm_X12_gives s m args below meth c H locs 0 0 (MQ below (Q_X12_gives D cs ad mod_code mod_shoes mod_claims mod_taped mod_here mod_fault mod_suits mod_doneMany mod_undoneMany mod_open mod_laid mod_isBoth mod_wished mod_bestMany mod_bestRow mod_ringDigits mod_traces mod_act mod_with mod_lineMany mod_testEnd mod_lineEnd mod_facts A R) args s 0 0 A) (F0 m 7 ls [])) (x1 : Int32) (x2 : Int32) (x3 : Int32) (mod_pile : Nat → Int32) (h : B_X12_gives_7 g7 mod_code mod_shoes mod_claims mod_taped mod_here mod_fault mod_suits mod_doneMany mod_undoneMany mod_open mod_laid mod_isBoth mod_wished mod_bestMany mod_bestRow mod_ringDigits mod_traces mod_act mod_with mod_lineMany mod_testEnd mod_lineEnd mod_facts x1 x2 x3 mod_pile = some R) (H : Heap) (locs : List Loc) (ls : Array Slot) (hP : va_P D classes (wl_X12_gives ad cs mod_code mod_shoes mod_claims mod_taped mod_here mod_fault mod_suits mod_doneMany mod_undoneMany mod_open mod_laid mod_isBoth mod_wished mod_bestMany mod_bestRow mod_ringDigits mod_traces mod_act mod_with mod_lineMany mod_testEnd mod_lineEnd mod_facts mod_pile) H) (hD : va_D A (wl_X12_gives ad cs mod_code mod_shoes mod_claims mod_taped mod_here mod_fault mod_suits mod_doneMany mod_undoneMany mod_open mod_laid mod_isBoth mod_wished mod_bestMany mod_bestRow mod_ringDigits mod_traces mod_act mod_with mod_lineMany mod_testEnd mod_lineEnd mod_facts mod_pile)) (hS : va_S A s.heap H locs) (hl : lv_has ls 4 [(0, .ref (ad 41)), (1, .int x1), (2, .int x2), (3, .int x3)]) : W p l e rm_X12_gives s m args below meth c H locs 0 0 (MQ below (Q_X12_gives D cs ad mod_code mod_shoes mod_claims mod_taped mod_here mod_fault mod_suits mod_doneMany mod_undoneMany mod_open mod_laid mod_isBoth mod_wished mod_bestMany mod_bestRow mod_ringDigits mod_traces mod_act mod_with mod_lineMany mod_testEnd mod_lineEnd mod_facts A R) args s 0 0 A) (F0 m 7 ls []) := by
  obtain ⟨hx, hb, hr, hml, hown, ht, hlocks⟩ := id C0
  refine lv_iload_n hx hb dX12_gives_7 rfl (lv_at hl 3 rfl) ?_
  refine lv_bipush (v := (61 : Int32)) hx hb dX12_gives_8 (by decide) ?_
  refine lv_iload_n hx hb dX12_gives_10 rfl (lv_at hl 1 rfl) ?_
  refine lv_imul hx hb dX12_gives_11 ?_
  refine lv_aload_n hx hb dX12_gives_12 rfl (lv_at hl 0 rfl) ?_
  refine va_get (D := D) (ci := 12) (v := .ref (ad 68)) (C := RX12) (T := TX12) (N := 60) hx hb ht iX12 hown hK hP 0 rfl rfl 37 (by decide) (ht _ kw_1332) (fun _ h9 => h9) rfl dX12_gives_13 ?_
  refine lv_iload_n hx hb dX12_gives_16 rfl (lv_at hl 1 rfl) ?_
  obtain ⟨g_2, h⟩ := zk_gd h
  refine va_iald hx hb hK hP 3 0 rfl rfl g_2 dX12_gives_17 ?_
  refine lv_iadd hx hb dX12_gives_18 ?_
  refine lv_icmp_ge (tgt := 78) hx hb dX12_gives_19 (by decide) (fun c_3 => ?_) (fun c_3 => ?_)
  · have h := zk_t c_3 h
    refine lv_iconst (v := (0 : Int32)) hx hb dX12_gives_78 (by decide) ?_
    exact W.iret (v := (0 : Int32)) hx hb hr (fun t ht2 hW => ⟨⟨(0 : Int32), mod_pile, rfl, Option.some.inj h, by rw [ht2]; exact hP, hD⟩, hS.F ht2⟩) hS.2.2 dX12_gives_79 hlocks
  · have h := zk_f c_3 h
    refine lv_aload_n hx hb dX12_gives_22 rfl (lv_at hl 0 rfl) ?_
    refine va_get (D := D) (ci := 12) (v := .ref (ad 69)) (C := RX12) (T := TX12) (N := 60) hx hb ht iX12 hown hK hP 0 rfl rfl 38 (by decide) (ht _ kw_1333) (fun _ h9 => h9) rfl dX12_gives_23 ?_
    refine lv_iload_n hx hb dX12_gives_26 rfl (lv_at hl 3 rfl) ?_
    obtain ⟨g_4, h⟩ := zk_gd h
    refine va_sald hx hb hK hP 4 3 rfl rfl g_4 dX12_gives_27 ?_
    refine lv_iload_n hx hb dX12_gives_28 rfl (lv_at hl 2 rfl) ?_
    refine lv_icmp_eq (tgt := 47) hx hb dX12_gives_29 (by decide) (fun c_5 => ?_) (fun c_5 => ?_)
    · have h := zk_t c_5 h
      exact L_X12_gives_47 C0 hK hA  ih7 x1 x3 mod_pile h H locs ls hP hD hS (lv_sub hl [0, 1, 3] rfl)
    · have h := zk_f c_5 h
      refine lv_aload_n hx hb dX12_gives_32 rfl (lv_at hl 0 rfl) ?_
      refine lv_iload_n hx hb dX12_gives_33 rfl (lv_at hl 1 rfl) ?_
      refine lv_iload_n hx hb dX12_gives_34 rfl (lv_at hl 2 rfl) ?_
      refine lv_aload_n hx hb dX12_gives_35 rfl (lv_at hl 0 rfl) ?_
      refine va_get (D := D) (ci := 12) (v := .ref (ad 69)) (C := RX12) (T := TX12) (N := 60) hx hb ht iX12 hown hK hP 0 rfl rfl 38 (by decide) (ht _ kw_1333) (fun _ h9 => h9) rfl dX12_gives_36 ?_
      refine lv_iload_n hx hb dX12_gives_39 rfl (lv_at hl 3 rfl) ?_
      obtain ⟨g_6, h⟩ := zk_gd h
      refine va_sald hx hb hK hP 4 3 rfl rfl g_6 dX12_gives_40 ?_
      obtain ⟨r_7, u_8, hc_9, h⟩ := zk_o2 h
      refine zz_vi (post := (fun r u => (r, u) = (r_7, u_8))) (w1 := fun u => (wl_X12_worked ad cs mod_code mod_shoes mod_claims mod_taped mod_here mod_fault mod_suits mod_doneMany mod_undoneMany mod_open mod_laid mod_isBoth mod_wished mod_bestMany mod_bestRow mod_ringDigits mod_traces mod_act mod_with mod_facts u)) (As := [.int x1, .int x2, .int (mod_testEnd x3.toNatClampNeg)]) (rest := []) (c_X12_worked l D cs ad  H.size 100000 x1 x2 (mod_testEnd x3.toNatClampNeg) mod_code mod_shoes mod_claims mod_taped mod_here mod_fault mod_suits mod_doneMany mod_undoneMany mod_open mod_laid mod_isBoth mod_wished mod_bestMany mod_bestRow mod_ringDigits mod_traces mod_act mod_with mod_facts mod_pile (r_7, u_8) hc_9) ⟨hx, hb, hml, hown, ht⟩ (cwV 3 ht g_X12_299 rfl rfl rfl ⟨rfl, hd_X12_worked⟩ ⟨Nat.le_of_ble_eq_true rfl, Nat.le_of_ble_eq_true rfl⟩) (va_recv hK hP (ci := 12) (q0 := 0) rfl rfl) hP hD hS hK hA [0, 1, 2, 6, 7] rfl rfl [(ad 41), (ad 66), (ad 67), (ad 71), (ad 72)] rfl (fun _ => rfl) rfl hl.1 (Nat.le_of_ble_eq_true rfl) dX12_gives_41 ⟨Nat.zero_le _, Nat.zero_le _⟩ (fun r u H locs hq hP hS => ?_)
      cases hq
      have hP : va_P D classes (wl_X12_gives ad cs mod_code mod_shoes mod_claims mod_taped mod_here mod_fault mod_suits mod_doneMany mod_undoneMany mod_open mod_laid mod_isBoth mod_wished mod_bestMany mod_bestRow mod_ringDigits mod_traces mod_act mod_with mod_lineMany mod_testEnd mod_lineEnd mod_facts u_8) H := hP
      have hD : va_D A (wl_X12_gives ad cs mod_code mod_shoes mod_claims mod_taped mod_here mod_fault mod_suits mod_doneMany mod_undoneMany mod_open mod_laid mod_isBoth mod_wished mod_bestMany mod_bestRow mod_ringDigits mod_traces mod_act mod_with mod_lineMany mod_testEnd mod_lineEnd mod_facts u_8) := zDk hD [(ad 41), (ad 66), (ad 67), (ad 68), (ad 69), (ad 70), (ad 71), (ad 72)] rfl rfl
      refine lv_if_eq (tgt := 65) hx hb dX12_gives_44 (by decide) (fun c_10 => ?_) (fun c_10 => ?_)
      · have h := zk_t c_10 h
        refine lv_aload_n hx hb dX12_gives_65 rfl (lv_at hl 0 rfl) ?_
        refine va_get (D := D) (ci := 12) (v := .ref (ad 70)) (C := RX12) (T := TX12) (N := 60) hx hb ht iX12 hown hK hP 0 rfl rfl 39 (by decide) (ht _ kw_1334) (fun _ h9 => h9) rfl dX12_gives_66 ?_
        refine lv_iload_n hx hb dX12_gives_69 rfl (lv_at hl 3 rfl) ?_
        obtain ⟨g_11, h⟩ := zk_gd h
        refine va_sald hx hb hK hP 5 3 rfl rfl g_11 dX12_gives_70 ?_
        obtain ⟨v_12, ev_12, h⟩ := zk_lt h
        refine W.eq (g2 := F0 m 71 ls [.int v_12]) (by rw [ev_12]) ?_
        refine lv_istore_n (lv' := [(2, .int v_12), (0, .ref (ad 41)), (1, .int x1), (3, .int x3)]) hx hb dX12_gives_71 rfl hl (by decide) rfl (fun ls hl => ?_)
        obtain ⟨v_13, ev_13, h⟩ := zk_lt h
        refine lv_iinc (v := v_13) (lv' := [(3, .int v_13), (2, .int v_12), (0, .ref (ad 41)), (1, .int x1)]) hx hb dX12_gives_72 hl (k := 3) rfl (by rw [ev_13]; rfl) (by decide) rfl (fun ls hl => ?_)
        refine lv_goto (tgt := 7) hx hb dX12_gives_75 (by decide) ?_
        exact ih7 x1 v_12 v_13 u_8 h H locs ls hP hD hS (lv_sub hl [2, 3, 1, 0] rfl)
      · have h := zk_f c_10 h
        exact L_X12_gives_47 C0 hK hA  ih7 x1 x3 u_8 h H locs ls hP hD hS (lv_sub hl [0, 1, 3] rfl)
set_option maxHeartbeats 4000000 in
set_option maxRecDepth 100000 in
theorem L_X12_gives_0 {p : Program} {l : Launch} {e : Env} {s : State} {m : MethodId} {args : Array Value} {below : List Frame} {meth : Method} {c : Code} {A : Nat → Prop} {D : va_G} {cs : Nat → ClassId} {ad : Nat → Nat} {mod_code : Int32} {mod_shoes : Int32} {mod_claims : Int32} {mod_taped : Int32} {mod_here : Int32} {mod_fault : Int32} {mod_suits : Int32} {mod_doneMany : Int32} {mod_undoneMany : Int32} {mod_open : Int32} {mod_laid : Int32} {mod_isBoth : Int32} {mod_wished : Int32} {mod_bestMany : Int32} {mod_bestRow : Int32} {mod_ringDigits : Int32} {mod_traces : Int32} {mod_act : Nat → Int32} {mod_with : Nat → Int32} {mod_lineMany : Nat → Int32} {mod_testEnd : Nat → Int32} {mod_lineEnd : Nat → Int32} {mod_facts : Nat → Int32} {R : Int32 × (Nat → Int32)} {g7 : Int32 → Int32 → Int32 → (Nat → Int32) → (Option (Int32 × (Nat → Int32)))} (C0 : zC p s m args meth c cX12_gives 4 (some .int) RX12 zW) (hK : va_K D classes (zT cs) s) (hA : ∀ q : Nat, s.heap.size ≤ q → A q) (ih7 : ∀ (x1 : Int32) (x2 : Int32) (x3 : Int32) (mod_pile : Nat → Int32) (h : g7 x1 x2 x3 mod_pile = some R) (H : Heap) (locs : List Loc) (ls : Array Slot) (hP : va_P D classes (wl_X12_gives ad cs mod_code mod_shoes mod_claims mod_taped mod_here mod_fault mod_suits mod_doneMany mod_undoneMany mod_open mod_laid mod_isBoth mod_wished mod_bestMany mod_bestRow mod_ringDigits mod_traces mod_act mod_with mod_lineMany mod_testEnd mod_lineEnd mod_facts mod_pile) H) (hD : va_D A (wl_X12_gives ad cs mod_code mod_shoes mod_claims mod_taped mod_here mod_fault mod_suits mod_doneMany mod_undoneMany mod_open mod_laid mod_isBoth mod_wished mod_bestMany mod_bestRow mod_ringDigits mod_traces mod_act mod_with mod_lineMany mod_testEnd mod_lineEnd mod_facts mod_pile)) (hS : va_S A s.heap H locs) (hl : lv_has ls 4 [(0, .ref (ad 41)), (1, .int x1), (2, .int x2), (3, .int x3)]), W p l e rm_X12_gives s m args below meth c H locs 0 0 (MQ below (Q_X12_gives D cs ad mod_code mod_shoes mod_claims mod_taped mod_here mod_fault mod_suits mod_doneMany mod_undoneMany mod_open mod_laid mod_isBoth mod_wished mod_bestMany mod_bestRow mod_ringDigits mod_traces mod_act mod_with mod_lineMany mod_testEnd mod_lineEnd mod_facts A R) args s 0 0 A) (F0 m 7 ls [])) (x1 : Int32) (mod_pile : Nat → Int32) (h : B_X12_gives_0 g7 mod_code mod_shoes mod_claims mod_taped mod_here mod_fault mod_suits mod_doneMany mod_undoneMany mod_open mod_laid mod_isBoth mod_wished mod_bestMany mod_bestRow mod_ringDigits mod_traces mod_act mod_with mod_lineMany mod_testEnd mod_lineEnd mod_facts x1 mod_pile = some R) (H : Heap) (locs : List Loc) (ls : Array Slot) (hP : va_P D classes (wl_X12_gives ad cs mod_code mod_shoes mod_claims mod_taped mod_here mod_fault mod_suits mod_doneMany mod_undoneMany mod_open mod_laid mod_isBoth mod_wished mod_bestMany mod_bestRow mod_ringDigits mod_traces mod_act mod_with mod_lineMany mod_testEnd mod_lineEnd mod_facts mod_pile) H) (hD : va_D A (wl_X12_gives ad cs mod_code mod_shoes mod_claims mod_taped mod_here mod_fault mod_suits mod_doneMany mod_undoneMany mod_open mod_laid mod_isBoth mod_wished mod_bestMany mod_bestRow mod_ringDigits mod_traces mod_act mod_with mod_lineMany mod_testEnd mod_lineEnd mod_facts mod_pile)) (hS : va_S A s.heap H locs) (hl : lv_has ls 4 [(0, .ref (ad 41)), (1, .int x1)]) : W p l e rm_X12_gives s m args below meth c H locs 0 0 (MQ below (Q_X12_gives D cs ad mod_code mod_shoes mod_claims mod_taped mod_here mod_fault mod_suits mod_doneMany mod_undoneMany mod_open mod_laid mod_isBoth mod_wished mod_bestMany mod_bestRow mod_ringDigits mod_traces mod_act mod_with mod_lineMany mod_testEnd mod_lineEnd mod_facts A R) args s 0 0 A) (F0 m 0 ls []) := by
  obtain ⟨hx, hb, hr, hml, hown, ht, hlocks⟩ := id C0
  refine lv_iconst (v := (0 : Int32)) hx hb dX12_gives_0 (by decide) ?_
  refine lv_istore_n (lv' := [(2, .int (0 : Int32)), (0, .ref (ad 41)), (1, .int x1)]) hx hb dX12_gives_1 rfl hl (by decide) rfl (fun ls hl => ?_)
  refine lv_bipush (v := (61 : Int32)) hx hb dX12_gives_2 (by decide) ?_
  refine lv_iload_n hx hb dX12_gives_4 rfl (lv_at hl 2 rfl) ?_
  refine lv_imul hx hb dX12_gives_5 ?_
  obtain ⟨v_1, ev_1, h⟩ := zk_lt h
  refine W.eq (g2 := F0 m 6 ls [.int v_1]) (by rw [ev_1]) ?_
  refine lv_istore_n (lv' := [(3, .int v_1), (2, .int (0 : Int32)), (0, .ref (ad 41)), (1, .int x1)]) hx hb dX12_gives_6 rfl hl (by decide) rfl (fun ls hl => ?_)
  exact ih7 x1 (0 : Int32) v_1 mod_pile h H locs ls hP hD hS (lv_sub hl [2, 3, 1, 0] rfl)
theorem LG_X12_gives {p : Program} {l : Launch} {e : Env} {s : State} {m : MethodId} {args : Array Value} {below : List Frame} {meth : Method} {c : Code} {A : Nat → Prop} {D : va_G} {cs : Nat → ClassId} {ad : Nat → Nat} {mod_code : Int32} {mod_shoes : Int32} {mod_claims : Int32} {mod_taped : Int32} {mod_here : Int32} {mod_fault : Int32} {mod_suits : Int32} {mod_doneMany : Int32} {mod_undoneMany : Int32} {mod_open : Int32} {mod_laid : Int32} {mod_isBoth : Int32} {mod_wished : Int32} {mod_bestMany : Int32} {mod_bestRow : Int32} {mod_ringDigits : Int32} {mod_traces : Int32} {mod_act : Nat → Int32} {mod_with : Nat → Int32} {mod_lineMany : Nat → Int32} {mod_testEnd : Nat → Int32} {mod_lineEnd : Nat → Int32} {mod_facts : Nat → Int32} {R : Int32 × (Nat → Int32)} (C0 : zC p s m args meth c cX12_gives 4 (some .int) RX12 zW) (hK : va_K D classes (zT cs) s) (hA : ∀ q : Nat, s.heap.size ≤ q → A q) : ∀ n : Nat, (∀ (x1 : Int32) (x2 : Int32) (x3 : Int32) (mod_pile : Nat → Int32) (h : (G_X12_gives   mod_code mod_shoes mod_claims mod_taped mod_here mod_fault mod_suits mod_doneMany mod_undoneMany mod_open mod_laid mod_isBoth mod_wished mod_bestMany mod_bestRow mod_ringDigits mod_traces mod_act mod_with mod_lineMany mod_testEnd mod_lineEnd mod_facts n) x1 x2 x3 mod_pile = some R) (H : Heap) (locs : List Loc) (ls : Array Slot) (hP : va_P D classes (wl_X12_gives ad cs mod_code mod_shoes mod_claims mod_taped mod_here mod_fault mod_suits mod_doneMany mod_undoneMany mod_open mod_laid mod_isBoth mod_wished mod_bestMany mod_bestRow mod_ringDigits mod_traces mod_act mod_with mod_lineMany mod_testEnd mod_lineEnd mod_facts mod_pile) H) (hD : va_D A (wl_X12_gives ad cs mod_code mod_shoes mod_claims mod_taped mod_here mod_fault mod_suits mod_doneMany mod_undoneMany mod_open mod_laid mod_isBoth mod_wished mod_bestMany mod_bestRow mod_ringDigits mod_traces mod_act mod_with mod_lineMany mod_testEnd mod_lineEnd mod_facts mod_pile)) (hS : va_S A s.heap H locs) (hl : lv_has ls 4 [(0, .ref (ad 41)), (1, .int x1), (2, .int x2), (3, .int x3)]), W p l e rm_X12_gives s m args below meth c H locs 0 0 (MQ below (Q_X12_gives D cs ad mod_code mod_shoes mod_claims mod_taped mod_here mod_fault mod_suits mod_doneMany mod_undoneMany mod_open mod_laid mod_isBoth mod_wished mod_bestMany mod_bestRow mod_ringDigits mod_traces mod_act mod_with mod_lineMany mod_testEnd mod_lineEnd mod_facts A R) args s 0 0 A) (F0 m 7 ls [])) := by
  intro n
  induction n with
  | zero =>
    refine ?_ <;> (intros; rename_i h _ _ _ _ _ _ _; cases h)
  | succ n ih =>
    exact L_X12_gives_7 C0 hK hA  ih
set_option maxHeartbeats 4000000 in
set_option maxRecDepth 100000 in
theorem c_X12_gives (l : Launch) (D : va_G) (cs : Nat → ClassId) (ad : Nat → Nat) (sz : Nat) (n : Nat) (x1 : Int32) (mod_code : Int32) (mod_shoes : Int32) (mod_claims : Int32) (mod_taped : Int32) (mod_here : Int32) (mod_fault : Int32) (mod_suits : Int32) (mod_doneMany : Int32) (mod_undoneMany : Int32) (mod_open : Int32) (mod_laid : Int32) (mod_isBoth : Int32) (mod_wished : Int32) (mod_bestMany : Int32) (mod_bestRow : Int32) (mod_ringDigits : Int32) (mod_traces : Int32) (mod_act : Nat → Int32) (mod_with : Nat → Int32) (mod_lineMany : Nat → Int32) (mod_testEnd : Nat → Int32) (mod_lineEnd : Nat → Int32) (mod_facts : Nat → Int32) (mod_pile : Nat → Int32) (R : Int32 × (Nat → Int32)) (h : f_X12_gives   n x1 mod_code mod_shoes mod_claims mod_taped mod_here mod_fault mod_suits mod_doneMany mod_undoneMany mod_open mod_laid mod_isBoth mod_wished mod_bestMany mod_bestRow mod_ringDigits mod_traces mod_act mod_with mod_lineMany mod_testEnd mod_lineEnd mod_facts mod_pile = some R) : Met l yX12_gives (z_X12_gives) rm_X12_gives (va_Pc [.ref (ad 41), .int x1] (zPre D cs (wl_X12_gives ad cs mod_code mod_shoes mod_claims mod_taped mod_here mod_fault mod_suits mod_doneMany mod_undoneMany mod_open mod_laid mod_isBoth mod_wished mod_bestMany mod_bestRow mod_ringDigits mod_traces mod_act mod_with mod_lineMany mod_testEnd mod_lineEnd mod_facts mod_pile) sz)) (Q_X12_gives D cs ad mod_code mod_shoes mod_claims mod_taped mod_here mod_fault mod_suits mod_doneMany mod_undoneMany mod_open mod_laid mod_isBoth mod_wished mod_bestMany mod_bestRow mod_ringDigits mod_traces mod_act mod_with mod_lineMany mod_testEnd mod_lineEnd mod_facts (va_A (wl_X12_gives ad cs mod_code mod_shoes mod_claims mod_taped mod_here mod_fault mod_suits mod_doneMany mod_undoneMany mod_open mod_laid mod_isBoth mod_wished mod_bestMany mod_bestRow mod_ringDigits mod_traces mod_act mod_with mod_lineMany mod_testEnd mod_lineEnd mod_facts mod_pile) sz) R) 0 0 (va_A (wl_X12_gives ad cs mod_code mod_shoes mod_claims mod_taped mod_here mod_fault mod_suits mod_doneMany mod_undoneMany mod_open mod_laid mod_isBoth mod_wished mod_bestMany mod_bestRow mod_ringDigits mod_traces mod_act mod_with mod_lineMany mod_testEnd mod_lineEnd mod_facts mod_pile) sz) := by
  refine Met.ofW (cc := cX12_gives) (maxL := 4) (ret := (some .int)) (by decide) rfl ?_
  intro p e s m args below meth c s₁ B hml hv
  obtain ⟨rfl, hsz, hP, hK, hD0⟩ := hv
  subst hsz
  have hD := hD0.self (sz := s.heap.size)
  have C0 : zC p s m _ meth c cX12_gives 4 (some .int) RX12 zW := ⟨B.exec, B.bytes, B.returns, hml, findClass_of_methodNamed B.named, fun w hw => atoms_spec (ws := z_X12_gives) B.pre w (List.mem_cons_of_mem _ hw), B.notSynchronized⟩
  have hA : ∀ q : Nat, s.heap.size ≤ q → va_A (wl_X12_gives ad cs mod_code mod_shoes mod_claims mod_taped mod_here mod_fault mod_suits mod_doneMany mod_undoneMany mod_open mod_laid mod_isBoth mod_wished mod_bestMany mod_bestRow mod_ringDigits mod_traces mod_act mod_with mod_lineMany mod_testEnd mod_lineEnd mod_facts mod_pile) s.heap.size q := fun q h => Or.inr h
  have hl := lv_entry ([.ref (ad 41), .int x1]) (n := 4) (Nat.le_of_ble_eq_true rfl)
  rw [lg_entry_eq]
  generalize (lg_sl ([.ref (ad 41), .int x1]) ++ List.replicate (4 - (lg_sl ([.ref (ad 41), .int x1])).length) Slot.unset).toArray = ls at hl ⊢
  exact L_X12_gives_0 C0 hK hA  ((LG_X12_gives C0 hK hA  n)) x1 mod_pile h s.heap [] ls hP hD va_S.rf hl
theorem zh_cX12_clearFacts_0 : zck [3, 60, 27, 16, 11, 162, 0, 16, 42, 180, 0, 99, 27, 3, 79, 132, 1, 1, 167, 255, 240, 177] (zdu 0 cX12_clearFacts.data.toList) = true := by decide +kernel
theorem dX12_clearFacts_0 : decode cX12_clearFacts 0 = .ok (.iconst 0, 1) := zo_3 zh_cX12_clearFacts_0 0 rfl
theorem dX12_clearFacts_1 : decode cX12_clearFacts 1 = .ok (.istore_n 1, 1) := zo_60 zh_cX12_clearFacts_0 1 rfl
theorem dX12_clearFacts_2 : decode cX12_clearFacts 2 = .ok (.iload_n 1, 1) := zo_27 zh_cX12_clearFacts_0 2 rfl
theorem dX12_clearFacts_3 : decode cX12_clearFacts 3 = .ok (.bipush 11, 2) := zo_p16 zh_cX12_clearFacts_0 3 11 rfl rfl
theorem dX12_clearFacts_5 : decode cX12_clearFacts 5 = .ok (.if_icmp .ge 16, 3) := zo_p162 zh_cX12_clearFacts_0 5 16 rfl rfl
theorem dX12_clearFacts_8 : decode cX12_clearFacts 8 = .ok (.aload_n 0, 1) := zo_42 zh_cX12_clearFacts_0 8 rfl
theorem dX12_clearFacts_9 : decode cX12_clearFacts 9 = .ok (.getfield 99, 3) := zo_180 zh_cX12_clearFacts_0 9 rfl
theorem dX12_clearFacts_12 : decode cX12_clearFacts 12 = .ok (.iload_n 1, 1) := zo_27 zh_cX12_clearFacts_0 12 rfl
theorem dX12_clearFacts_13 : decode cX12_clearFacts 13 = .ok (.iconst 0, 1) := zo_3 zh_cX12_clearFacts_0 13 rfl
theorem dX12_clearFacts_14 : decode cX12_clearFacts 14 = .ok (.iastore, 1) := zo_79 zh_cX12_clearFacts_0 14 rfl
theorem dX12_clearFacts_15 : decode cX12_clearFacts 15 = .ok (.iinc 1 1, 3) := zo_p132 zh_cX12_clearFacts_0 15 1 rfl rfl
theorem dX12_clearFacts_18 : decode cX12_clearFacts 18 = .ok (.goto (-16), 3) := zo_n167 zh_cX12_clearFacts_0 18 15 rfl rfl
theorem zh_cX12_clearFacts_1 : zck [240, 177] (zdu 20 cX12_clearFacts.data.toList) = true := by decide +kernel
theorem dX12_clearFacts_21 : decode cX12_clearFacts 21 = .ok (.return_, 1) := zo_177 zh_cX12_clearFacts_1 1 rfl
abbrev z_X12_clearFacts : List Cond := .code yX12_clearFacts cX12_clearFacts 2 none :: zW
abbrev wl_X12_clearFacts (ad : Nat → Nat) (cs : Nat → ClassId)  (mod_code : Int32) (mod_shoes : Int32) (mod_claims : Int32) (mod_taped : Int32) (mod_here : Int32) (mod_fault : Int32) (mod_suits : Int32) (mod_doneMany : Int32) (mod_undoneMany : Int32) (mod_open : Int32) (mod_laid : Int32) (mod_isBoth : Int32) (mod_wished : Int32) (mod_bestMany : Int32) (mod_bestRow : Int32) (mod_ringDigits : Int32) (mod_traces : Int32) (mod_facts : Nat → Int32) : va_W := [((ad 41), .inr (12, [.int mod_code, .int mod_shoes, .ref (ad 42), .ref (ad 43), .ref (ad 44), .ref (ad 45), .int mod_claims, .ref (ad 46), .ref (ad 47), .ref (ad 48), .ref (ad 49), .ref (ad 50), .int mod_taped, .int mod_here, .int mod_fault, .int mod_suits, .ref (ad 51), .ref (ad 52), .ref (ad 53), .ref (ad 54), .ref (ad 55), .ref (ad 56), .ref (ad 57), .ref (ad 58), .ref (ad 59), .ref (ad 60), .ref (ad 61), .int mod_doneMany, .int mod_undoneMany, .ref (ad 62), .ref (ad 63), .ref (ad 64), .ref (ad 65), .int mod_open, .int mod_laid, .ref (ad 66), .ref (ad 67), .ref (ad 68), .ref (ad 69), .ref (ad 70), .ref (ad 71), .ref (ad 72), .ref (ad 73), .ref (ad 74), .ref (ad 75), .int mod_isBoth, .int mod_wished, .ref (ad 76), .ref (ad 77), .int mod_bestMany, .int mod_bestRow, .ref (ad 78), .ref (ad 79), .int mod_ringDigits, .int mod_traces, .ref (ad 80), .ref (ad 81), .ref (ad 82), .ref (ad 83), .ref (ad 84)])), ((ad 71), .inl (cs 0, 11, .inl mod_facts))]
def Q_X12_clearFacts (D : va_G) (cs : Nat → ClassId) (ad : Nat → Nat)  (mod_code : Int32) (mod_shoes : Int32) (mod_claims : Int32) (mod_taped : Int32) (mod_here : Int32) (mod_fault : Int32) (mod_suits : Int32) (mod_doneMany : Int32) (mod_undoneMany : Int32) (mod_open : Int32) (mod_laid : Int32) (mod_isBoth : Int32) (mod_wished : Int32) (mod_bestMany : Int32) (mod_bestRow : Int32) (mod_ringDigits : Int32) (mod_traces : Int32) (A : Nat → Prop) (R : (Nat → Int32)) : Array Value → State → Outcome → State → Prop :=
  va_Qv (fun u : (Nat → Int32) => u = R) (fun (u : (Nat → Int32)) (t : State) => va_P D classes (wl_X12_clearFacts ad cs mod_code mod_shoes mod_claims mod_taped mod_here mod_fault mod_suits mod_doneMany mod_undoneMany mod_open mod_laid mod_isBoth mod_wished mod_bestMany mod_bestRow mod_ringDigits mod_traces u) t.heap ∧ va_D A (wl_X12_clearFacts ad cs mod_code mod_shoes mod_claims mod_taped mod_here mod_fault mod_suits mod_doneMany mod_undoneMany mod_open mod_laid mod_isBoth mod_wished mod_bestMany mod_bestRow mod_ringDigits mod_traces u)) A
abbrev rm_X12_clearFacts : Room := { frames := 0, cells := 0, slots := 0, locals := 0 }
def B_X12_clearFacts_2   (g2 : Int32 → (Nat → Int32) → (Option ((Nat → Int32)))) (mod_code : Int32) (mod_shoes : Int32) (mod_claims : Int32) (mod_taped : Int32) (mod_here : Int32) (mod_fault : Int32) (mod_suits : Int32) (mod_doneMany : Int32) (mod_undoneMany : Int32) (mod_open : Int32) (mod_laid : Int32) (mod_isBoth : Int32) (mod_wished : Int32) (mod_bestMany : Int32) (mod_bestRow : Int32) (mod_ringDigits : Int32) (mod_traces : Int32) (x1 : Int32) (mod_facts : Nat → Int32) : Option ((Nat → Int32)) :=
  (if (11 : Int32) ≤ x1 then (some mod_facts) else (if (x1 < 0 ∨ 11 ≤ x1.toNatClampNeg) then none else (zk_let (upd mod_facts x1.toNatClampNeg (0 : Int32)) (fun f_3 => (zk_let (x1 + (1 : Int32)) (fun v_4 => (g2 v_4 f_3)))))))
def B_X12_clearFacts_0   (g2 : Int32 → (Nat → Int32) → (Option ((Nat → Int32)))) (mod_code : Int32) (mod_shoes : Int32) (mod_claims : Int32) (mod_taped : Int32) (mod_here : Int32) (mod_fault : Int32) (mod_suits : Int32) (mod_doneMany : Int32) (mod_undoneMany : Int32) (mod_open : Int32) (mod_laid : Int32) (mod_isBoth : Int32) (mod_wished : Int32) (mod_bestMany : Int32) (mod_bestRow : Int32) (mod_ringDigits : Int32) (mod_traces : Int32) (mod_facts : Nat → Int32) : Option ((Nat → Int32)) :=
  (g2 (0 : Int32) mod_facts)
def G_X12_clearFacts   (mod_code : Int32) (mod_shoes : Int32) (mod_claims : Int32) (mod_taped : Int32) (mod_here : Int32) (mod_fault : Int32) (mod_suits : Int32) (mod_doneMany : Int32) (mod_undoneMany : Int32) (mod_open : Int32) (mod_laid : Int32) (mod_isBoth : Int32) (mod_wished : Int32) (mod_bestMany : Int32) (mod_bestRow : Int32) (mod_ringDigits : Int32) (mod_traces : Int32) (n : Nat) : (Int32 → (Nat → Int32) → (Option ((Nat → Int32)))) :=
  Nat.rec (motive := fun _ => (Int32 → (Nat → Int32) → (Option ((Nat → Int32))))) ((fun _ _ => none)) (fun _ ih => (B_X12_clearFacts_2   ih mod_code mod_shoes mod_claims mod_taped mod_here mod_fault mod_suits mod_doneMany mod_undoneMany mod_open mod_laid mod_isBoth mod_wished mod_bestMany mod_bestRow mod_ringDigits mod_traces)) n
def f_X12_clearFacts   (n : Nat)  (mod_code : Int32) (mod_shoes : Int32) (mod_claims : Int32) (mod_taped : Int32) (mod_here : Int32) (mod_fault : Int32) (mod_suits : Int32) (mod_doneMany : Int32) (mod_undoneMany : Int32) (mod_open : Int32) (mod_laid : Int32) (mod_isBoth : Int32) (mod_wished : Int32) (mod_bestMany : Int32) (mod_bestRow : Int32) (mod_ringDigits : Int32) (mod_traces : Int32) (mod_facts : Nat → Int32) : Option ((Nat → Int32)) := B_X12_clearFacts_0   ((G_X12_clearFacts   mod_code mod_shoes mod_claims mod_taped mod_here mod_fault mod_suits mod_doneMany mod_undoneMany mod_open mod_laid mod_isBoth mod_wished mod_bestMany mod_bestRow mod_ringDigits mod_traces n)) mod_code mod_shoes mod_claims mod_taped mod_here mod_fault mod_suits mod_doneMany mod_undoneMany mod_open mod_laid mod_isBoth mod_wished mod_bestMany mod_bestRow mod_ringDigits mod_traces  mod_facts
set_option maxHeartbeats 4000000 in
set_option maxRecDepth 100000 in
theorem L_X12_clearFacts_2 {p : Program} {l : Launch} {e : Env} {s : State} {m : MethodId} {args : Array Value} {below : List Frame} {meth : Method} {c : Code} {A : Nat → Prop} {D : va_G} {cs : Nat → ClassId} {ad : Nat → Nat} {mod_code : Int32} {mod_shoes : Int32} {mod_claims : Int32} {mod_taped : Int32} {mod_here : Int32} {mod_fault : Int32} {mod_suits : Int32} {mod_doneMany : Int32} {mod_undoneMany : Int32} {mod_open : Int32} {mod_laid : Int32} {mod_isBoth : Int32} {mod_wished : Int32} {mod_bestMany : Int32} {mod_bestRow : Int32} {mod_ringDigits : Int32} {mod_traces : Int32} {R : (Nat → Int32)} {g2 : Int32 → (Nat → Int32) → (Option ((Nat → Int32)))} (C0 : zC p s m args meth c cX12_clearFacts 2 none RX12 zW) (hK : va_K D classes (zT cs) s) (hA : ∀ q : Nat, s.heap.size ≤ q → A q) (ih2 : ∀ (x1 : Int32) (mod_facts : Nat → Int32) (h : g2 x1 mod_facts = some R) (H : Heap) (locs : List Loc) (ls : Array Slot) (hP : va_P D classes (wl_X12_clearFacts ad cs mod_code mod_shoes mod_claims mod_taped mod_here mod_fault mod_suits mod_doneMany mod_undoneMany mod_open mod_laid mod_isBoth mod_wished mod_bestMany mod_bestRow mod_ringDigits mod_traces mod_facts) H) (hD : va_D A (wl_X12_clearFacts ad cs mod_code mod_shoes mod_claims mod_taped mod_here mod_fault mod_suits mod_doneMany mod_undoneMany mod_open mod_laid mod_isBoth mod_wished mod_bestMany mod_bestRow mod_ringDigits mod_traces mod_facts)) (hS : va_S A s.heap H locs) (hl : lv_has ls 2 [(0, .ref (ad 41)), (1, .int x1)]), W p l e rm_X12_clearFacts s m args below meth c H locs 0 0 (MQ below (Q_X12_clearFacts D cs ad mod_code mod_shoes mod_claims mod_taped mod_here mod_fault mod_suits mod_doneMany mod_undoneMany mod_open mod_laid mod_isBoth mod_wished mod_bestMany mod_bestRow mod_ringDigits mod_traces A R) args s 0 0 A) (F0 m 2 ls [])) (x1 : Int32) (mod_facts : Nat → Int32) (h : B_X12_clearFacts_2 g2 mod_code mod_shoes mod_claims mod_taped mod_here mod_fault mod_suits mod_doneMany mod_undoneMany mod_open mod_laid mod_isBoth mod_wished mod_bestMany mod_bestRow mod_ringDigits mod_traces x1 mod_facts = some R) (H : Heap) (locs : List Loc) (ls : Array Slot) (hP : va_P D classes (wl_X12_clearFacts ad cs mod_code mod_shoes mod_claims mod_taped mod_here mod_fault mod_suits mod_doneMany mod_undoneMany mod_open mod_laid mod_isBoth mod_wished mod_bestMany mod_bestRow mod_ringDigits mod_traces mod_facts) H) (hD : va_D A (wl_X12_clearFacts ad cs mod_code mod_shoes mod_claims mod_taped mod_here mod_fault mod_suits mod_doneMany mod_undoneMany mod_open mod_laid mod_isBoth mod_wished mod_bestMany mod_bestRow mod_ringDigits mod_traces mod_facts)) (hS : va_S A s.heap H locs) (hl : lv_has ls 2 [(0, .ref (ad 41)), (1, .int x1)]) : W p l e rm_X12_clearFacts s m args below meth c H locs 0 0 (MQ below (Q_X12_clearFacts D cs ad mod_code mod_shoes mod_claims mod_taped mod_here mod_fault mod_suits mod_doneMany mod_undoneMany mod_open mod_laid mod_isBoth mod_wished mod_bestMany mod_bestRow mod_ringDigits mod_traces A R) args s 0 0 A) (F0 m 2 ls []) := by
  obtain ⟨hx, hb, hr, hml, hown, ht, hlocks⟩ := id C0
  refine lv_iload_n hx hb dX12_clearFacts_2 rfl (lv_at hl 1 rfl) ?_
  refine lv_bipush (v := (11 : Int32)) hx hb dX12_clearFacts_3 (by decide) ?_
  refine lv_icmp_ge (tgt := 21) hx hb dX12_clearFacts_5 (by decide) (fun c_1 => ?_) (fun c_1 => ?_)
  · have h := zk_t c_1 h
    exact W.vret hx hb hr (fun t ht2 hW => ⟨⟨mod_facts, rfl, Option.some.inj h, by rw [ht2]; exact hP, hD⟩, hS.F ht2⟩) hS.2.2 dX12_clearFacts_21 hlocks
  · have h := zk_f c_1 h
    refine lv_aload_n hx hb dX12_clearFacts_8 rfl (lv_at hl 0 rfl) ?_
    refine va_get (D := D) (ci := 12) (v := .ref (ad 71)) (C := RX12) (T := TX12) (N := 60) hx hb ht iX12 hown hK hP 0 rfl rfl 40 (by decide) (ht _ kw_1335) (fun _ h9 => h9) rfl dX12_clearFacts_9 ?_
    refine lv_iload_n hx hb dX12_clearFacts_12 rfl (lv_at hl 1 rfl) ?_
    refine lv_iconst (v := (0 : Int32)) hx hb dX12_clearFacts_13 (by decide) ?_
    obtain ⟨g_2, h⟩ := zk_gd h
    obtain ⟨f_3, ef_3, h⟩ := zk_lt h
    refine va_iast hx hb hK hP hD hS 1 0 rfl rfl g_2 dX12_clearFacts_14 (fun H locs hP hD hS => ?_)
    have hP : va_P D classes (wl_X12_clearFacts ad cs mod_code mod_shoes mod_claims mod_taped mod_here mod_fault mod_suits mod_doneMany mod_undoneMany mod_open mod_laid mod_isBoth mod_wished mod_bestMany mod_bestRow mod_ringDigits mod_traces f_3) H := by rw [ef_3]; exact hP
    have hD : va_D A (wl_X12_clearFacts ad cs mod_code mod_shoes mod_claims mod_taped mod_here mod_fault mod_suits mod_doneMany mod_undoneMany mod_open mod_laid mod_isBoth mod_wished mod_bestMany mod_bestRow mod_ringDigits mod_traces f_3) := by rw [ef_3]; exact hD
    obtain ⟨v_4, ev_4, h⟩ := zk_lt h
    refine lv_iinc (v := v_4) (lv' := [(1, .int v_4), (0, .ref (ad 41))]) hx hb dX12_clearFacts_15 hl (k := 1) rfl (by rw [ev_4]; rfl) (by decide) rfl (fun ls hl => ?_)
    refine lv_goto (tgt := 2) hx hb dX12_clearFacts_18 (by decide) ?_
    exact ih2 v_4 f_3 h H locs ls hP hD hS (lv_sub hl [1, 0] rfl)
set_option maxHeartbeats 4000000 in
set_option maxRecDepth 100000 in
theorem L_X12_clearFacts_0 {p : Program} {l : Launch} {e : Env} {s : State} {m : MethodId} {args : Array Value} {below : List Frame} {meth : Method} {c : Code} {A : Nat → Prop} {D : va_G} {cs : Nat → ClassId} {ad : Nat → Nat} {mod_code : Int32} {mod_shoes : Int32} {mod_claims : Int32} {mod_taped : Int32} {mod_here : Int32} {mod_fault : Int32} {mod_suits : Int32} {mod_doneMany : Int32} {mod_undoneMany : Int32} {mod_open : Int32} {mod_laid : Int32} {mod_isBoth : Int32} {mod_wished : Int32} {mod_bestMany : Int32} {mod_bestRow : Int32} {mod_ringDigits : Int32} {mod_traces : Int32} {R : (Nat → Int32)} {g2 : Int32 → (Nat → Int32) → (Option ((Nat → Int32)))} (C0 : zC p s m args meth c cX12_clearFacts 2 none RX12 zW) (hK : va_K D classes (zT cs) s) (hA : ∀ q : Nat, s.heap.size ≤ q → A q) (ih2 : ∀ (x1 : Int32) (mod_facts : Nat → Int32) (h : g2 x1 mod_facts = some R) (H : Heap) (locs : List Loc) (ls : Array Slot) (hP : va_P D classes (wl_X12_clearFacts ad cs mod_code mod_shoes mod_claims mod_taped mod_here mod_fault mod_suits mod_doneMany mod_undoneMany mod_open mod_laid mod_isBoth mod_wished mod_bestMany mod_bestRow mod_ringDigits mod_traces mod_facts) H) (hD : va_D A (wl_X12_clearFacts ad cs mod_code mod_shoes mod_claims mod_taped mod_here mod_fault mod_suits mod_doneMany mod_undoneMany mod_open mod_laid mod_isBoth mod_wished mod_bestMany mod_bestRow mod_ringDigits mod_traces mod_facts)) (hS : va_S A s.heap H locs) (hl : lv_has ls 2 [(0, .ref (ad 41)), (1, .int x1)]), W p l e rm_X12_clearFacts s m args below meth c H locs 0 0 (MQ below (Q_X12_clearFacts D cs ad mod_code mod_shoes mod_claims mod_taped mod_here mod_fault mod_suits mod_doneMany mod_undoneMany mod_open mod_laid mod_isBoth mod_wished mod_bestMany mod_bestRow mod_ringDigits mod_traces A R) args s 0 0 A) (F0 m 2 ls [])) (mod_facts : Nat → Int32) (h : B_X12_clearFacts_0 g2 mod_code mod_shoes mod_claims mod_taped mod_here mod_fault mod_suits mod_doneMany mod_undoneMany mod_open mod_laid mod_isBoth mod_wished mod_bestMany mod_bestRow mod_ringDigits mod_traces mod_facts = some R) (H : Heap) (locs : List Loc) (ls : Array Slot) (hP : va_P D classes (wl_X12_clearFacts ad cs mod_code mod_shoes mod_claims mod_taped mod_here mod_fault mod_suits mod_doneMany mod_undoneMany mod_open mod_laid mod_isBoth mod_wished mod_bestMany mod_bestRow mod_ringDigits mod_traces mod_facts) H) (hD : va_D A (wl_X12_clearFacts ad cs mod_code mod_shoes mod_claims mod_taped mod_here mod_fault mod_suits mod_doneMany mod_undoneMany mod_open mod_laid mod_isBoth mod_wished mod_bestMany mod_bestRow mod_ringDigits mod_traces mod_facts)) (hS : va_S A s.heap H locs) (hl : lv_has ls 2 [(0, .ref (ad 41))]) : W p l e rm_X12_clearFacts s m args below meth c H locs 0 0 (MQ below (Q_X12_clearFacts D cs ad mod_code mod_shoes mod_claims mod_taped mod_here mod_fault mod_suits mod_doneMany mod_undoneMany mod_open mod_laid mod_isBoth mod_wished mod_bestMany mod_bestRow mod_ringDigits mod_traces A R) args s 0 0 A) (F0 m 0 ls []) := by
  obtain ⟨hx, hb, hr, hml, hown, ht, hlocks⟩ := id C0
  refine lv_iconst (v := (0 : Int32)) hx hb dX12_clearFacts_0 (by decide) ?_
  refine lv_istore_n (lv' := [(1, .int (0 : Int32)), (0, .ref (ad 41))]) hx hb dX12_clearFacts_1 rfl hl (by decide) rfl (fun ls hl => ?_)
  exact ih2 (0 : Int32) mod_facts h H locs ls hP hD hS (lv_sub hl [1, 0] rfl)
theorem LG_X12_clearFacts {p : Program} {l : Launch} {e : Env} {s : State} {m : MethodId} {args : Array Value} {below : List Frame} {meth : Method} {c : Code} {A : Nat → Prop} {D : va_G} {cs : Nat → ClassId} {ad : Nat → Nat} {mod_code : Int32} {mod_shoes : Int32} {mod_claims : Int32} {mod_taped : Int32} {mod_here : Int32} {mod_fault : Int32} {mod_suits : Int32} {mod_doneMany : Int32} {mod_undoneMany : Int32} {mod_open : Int32} {mod_laid : Int32} {mod_isBoth : Int32} {mod_wished : Int32} {mod_bestMany : Int32} {mod_bestRow : Int32} {mod_ringDigits : Int32} {mod_traces : Int32} {R : (Nat → Int32)} (C0 : zC p s m args meth c cX12_clearFacts 2 none RX12 zW) (hK : va_K D classes (zT cs) s) (hA : ∀ q : Nat, s.heap.size ≤ q → A q) : ∀ n : Nat, (∀ (x1 : Int32) (mod_facts : Nat → Int32) (h : (G_X12_clearFacts   mod_code mod_shoes mod_claims mod_taped mod_here mod_fault mod_suits mod_doneMany mod_undoneMany mod_open mod_laid mod_isBoth mod_wished mod_bestMany mod_bestRow mod_ringDigits mod_traces n) x1 mod_facts = some R) (H : Heap) (locs : List Loc) (ls : Array Slot) (hP : va_P D classes (wl_X12_clearFacts ad cs mod_code mod_shoes mod_claims mod_taped mod_here mod_fault mod_suits mod_doneMany mod_undoneMany mod_open mod_laid mod_isBoth mod_wished mod_bestMany mod_bestRow mod_ringDigits mod_traces mod_facts) H) (hD : va_D A (wl_X12_clearFacts ad cs mod_code mod_shoes mod_claims mod_taped mod_here mod_fault mod_suits mod_doneMany mod_undoneMany mod_open mod_laid mod_isBoth mod_wished mod_bestMany mod_bestRow mod_ringDigits mod_traces mod_facts)) (hS : va_S A s.heap H locs) (hl : lv_has ls 2 [(0, .ref (ad 41)), (1, .int x1)]), W p l e rm_X12_clearFacts s m args below meth c H locs 0 0 (MQ below (Q_X12_clearFacts D cs ad mod_code mod_shoes mod_claims mod_taped mod_here mod_fault mod_suits mod_doneMany mod_undoneMany mod_open mod_laid mod_isBoth mod_wished mod_bestMany mod_bestRow mod_ringDigits mod_traces A R) args s 0 0 A) (F0 m 2 ls [])) := by
  intro n
  induction n with
  | zero =>
    refine ?_ <;> (intros; rename_i h _ _ _ _ _ _ _; cases h)
  | succ n ih =>
    exact L_X12_clearFacts_2 C0 hK hA  ih
set_option maxHeartbeats 4000000 in
set_option maxRecDepth 100000 in
theorem c_X12_clearFacts (l : Launch) (D : va_G) (cs : Nat → ClassId) (ad : Nat → Nat) (sz : Nat) (n : Nat)  (mod_code : Int32) (mod_shoes : Int32) (mod_claims : Int32) (mod_taped : Int32) (mod_here : Int32) (mod_fault : Int32) (mod_suits : Int32) (mod_doneMany : Int32) (mod_undoneMany : Int32) (mod_open : Int32) (mod_laid : Int32) (mod_isBoth : Int32) (mod_wished : Int32) (mod_bestMany : Int32) (mod_bestRow : Int32) (mod_ringDigits : Int32) (mod_traces : Int32) (mod_facts : Nat → Int32) (R : (Nat → Int32)) (h : f_X12_clearFacts   n  mod_code mod_shoes mod_claims mod_taped mod_here mod_fault mod_suits mod_doneMany mod_undoneMany mod_open mod_laid mod_isBoth mod_wished mod_bestMany mod_bestRow mod_ringDigits mod_traces mod_facts = some R) : Met l yX12_clearFacts (z_X12_clearFacts) rm_X12_clearFacts (va_Pc [.ref (ad 41)] (zPre D cs (wl_X12_clearFacts ad cs mod_code mod_shoes mod_claims mod_taped mod_here mod_fault mod_suits mod_doneMany mod_undoneMany mod_open mod_laid mod_isBoth mod_wished mod_bestMany mod_bestRow mod_ringDigits mod_traces mod_facts) sz)) (Q_X12_clearFacts D cs ad mod_code mod_shoes mod_claims mod_taped mod_here mod_fault mod_suits mod_doneMany mod_undoneMany mod_open mod_laid mod_isBoth mod_wished mod_bestMany mod_bestRow mod_ringDigits mod_traces (va_A (wl_X12_clearFacts ad cs mod_code mod_shoes mod_claims mod_taped mod_here mod_fault mod_suits mod_doneMany mod_undoneMany mod_open mod_laid mod_isBoth mod_wished mod_bestMany mod_bestRow mod_ringDigits mod_traces mod_facts) sz) R) 0 0 (va_A (wl_X12_clearFacts ad cs mod_code mod_shoes mod_claims mod_taped mod_here mod_fault mod_suits mod_doneMany mod_undoneMany mod_open mod_laid mod_isBoth mod_wished mod_bestMany mod_bestRow mod_ringDigits mod_traces mod_facts) sz) := by
  refine Met.ofW (cc := cX12_clearFacts) (maxL := 2) (ret := none) (by decide) rfl ?_
  intro p e s m args below meth c s₁ B hml hv
  obtain ⟨rfl, hsz, hP, hK, hD0⟩ := hv
  subst hsz
  have hD := hD0.self (sz := s.heap.size)
  have C0 : zC p s m _ meth c cX12_clearFacts 2 none RX12 zW := ⟨B.exec, B.bytes, B.returns, hml, findClass_of_methodNamed B.named, fun w hw => atoms_spec (ws := z_X12_clearFacts) B.pre w (List.mem_cons_of_mem _ hw), B.notSynchronized⟩
  have hA : ∀ q : Nat, s.heap.size ≤ q → va_A (wl_X12_clearFacts ad cs mod_code mod_shoes mod_claims mod_taped mod_here mod_fault mod_suits mod_doneMany mod_undoneMany mod_open mod_laid mod_isBoth mod_wished mod_bestMany mod_bestRow mod_ringDigits mod_traces mod_facts) s.heap.size q := fun q h => Or.inr h
  have hl := lv_entry ([.ref (ad 41)]) (n := 2) (Nat.le_of_ble_eq_true rfl)
  rw [lg_entry_eq]
  generalize (lg_sl ([.ref (ad 41)]) ++ List.replicate (2 - (lg_sl ([.ref (ad 41)])).length) Slot.unset).toArray = ls at hl ⊢
  exact L_X12_clearFacts_0 C0 hK hA  ((LG_X12_clearFacts C0 hK hA  n))  mod_facts h s.heap [] ls hP hD va_S.rf hl
theorem kw_46 : Cond.selects RX12 yX12_gives yX12_gives ∈ zW := zwI (i := 46) (by decide +kernel) (by decide +kernel)
theorem kw_1681 : Cond.methodLink RX12 302 yX12_gives ∈ zW := zwC (i := 167) zc_7 rfl rfl
theorem kw_1683 : Cond.instanceMethod yX12_gives ∈ zW := zwC (i := 169) zc_7 rfl rfl
theorem kw_1684 : Cond.code yX12_gives cX12_gives 4 (some .int) ∈ zW := zwC (i := 170) zc_7 rfl rfl
theorem zh_cX12_isSo_0 : zck [16, 8, 27, 104, 28, 96, 62, 42, 180, 0, 89, 29, 46, 158, 0, 17, 42, 29, 182, 1, 46, 153] (zdu 0 cX12_isSo.data.toList) = true := by decide +kernel
theorem dX12_isSo_0 : decode cX12_isSo 0 = .ok (.bipush 8, 2) := zo_p16 zh_cX12_isSo_0 0 8 rfl rfl
theorem dX12_isSo_2 : decode cX12_isSo 2 = .ok (.iload_n 1, 1) := zo_27 zh_cX12_isSo_0 2 rfl
theorem dX12_isSo_3 : decode cX12_isSo 3 = .ok (.imul, 1) := zo_104 zh_cX12_isSo_0 3 rfl
theorem dX12_isSo_4 : decode cX12_isSo 4 = .ok (.iload_n 2, 1) := zo_28 zh_cX12_isSo_0 4 rfl
theorem dX12_isSo_5 : decode cX12_isSo 5 = .ok (.iadd, 1) := zo_96 zh_cX12_isSo_0 5 rfl
theorem dX12_isSo_6 : decode cX12_isSo 6 = .ok (.istore_n 3, 1) := zo_62 zh_cX12_isSo_0 6 rfl
theorem dX12_isSo_7 : decode cX12_isSo 7 = .ok (.aload_n 0, 1) := zo_42 zh_cX12_isSo_0 7 rfl
theorem dX12_isSo_8 : decode cX12_isSo 8 = .ok (.getfield 89, 3) := zo_180 zh_cX12_isSo_0 8 rfl
theorem dX12_isSo_11 : decode cX12_isSo 11 = .ok (.iload_n 3, 1) := zo_29 zh_cX12_isSo_0 11 rfl
theorem dX12_isSo_12 : decode cX12_isSo 12 = .ok (.iaload, 1) := zo_46 zh_cX12_isSo_0 12 rfl
theorem dX12_isSo_13 : decode cX12_isSo 13 = .ok (.ifCond .le 17, 3) := zo_p158 zh_cX12_isSo_0 13 17 rfl rfl
theorem dX12_isSo_16 : decode cX12_isSo 16 = .ok (.aload_n 0, 1) := zo_42 zh_cX12_isSo_0 16 rfl
theorem dX12_isSo_17 : decode cX12_isSo 17 = .ok (.iload_n 3, 1) := zo_29 zh_cX12_isSo_0 17 rfl
theorem dX12_isSo_18 : decode cX12_isSo 18 = .ok (.invokevirtual 302, 3) := zo_182 zh_cX12_isSo_0 18 rfl
theorem zh_cX12_isSo_1 : zck [46, 153, 0, 7, 4, 167, 0, 4, 3, 172, 27, 170, 0, 0, 0, 114, 0, 0, 0, 0, 0, 0] (zdu 20 cX12_isSo.data.toList) = true := by decide +kernel
theorem dX12_isSo_21 : decode cX12_isSo 21 = .ok (.ifCond .eq 7, 3) := zo_p153 zh_cX12_isSo_1 1 7 rfl rfl
theorem dX12_isSo_24 : decode cX12_isSo 24 = .ok (.iconst 1, 1) := zo_4 zh_cX12_isSo_1 4 rfl
theorem dX12_isSo_25 : decode cX12_isSo 25 = .ok (.goto 4, 3) := zo_p167 zh_cX12_isSo_1 5 4 rfl rfl
theorem dX12_isSo_28 : decode cX12_isSo 28 = .ok (.iconst 0, 1) := zo_3 zh_cX12_isSo_1 8 rfl
theorem dX12_isSo_29 : decode cX12_isSo 29 = .ok (.ireturn, 1) := zo_172 zh_cX12_isSo_1 9 rfl
theorem dX12_isSo_30 : decode cX12_isSo 30 = .ok (.iload_n 1, 1) := zo_27 zh_cX12_isSo_1 10 rfl
theorem dX12_isSo_31 : decode cX12_isSo 31 = .ok (.tableswitch 114 0 2 #[25, 71, 97], 25) := by decide +kernel
theorem zh_cX12_isSo_2 : zck [0, 0, 0, 2, 0, 0, 0, 25, 0, 0, 0, 71, 0, 0, 0, 97, 42, 180, 0, 99, 8, 46] (zdu 40 cX12_isSo.data.toList) = true := by decide +kernel
theorem dX12_isSo_56 : decode cX12_isSo 56 = .ok (.aload_n 0, 1) := zo_42 zh_cX12_isSo_2 16 rfl
theorem dX12_isSo_57 : decode cX12_isSo 57 = .ok (.getfield 99, 3) := zo_180 zh_cX12_isSo_2 17 rfl
theorem zh_cX12_isSo_3 : zck [8, 46, 153, 0, 38, 42, 180, 0, 99, 3, 46, 4, 159, 0, 24, 42, 180, 0, 99, 3, 46, 16] (zdu 60 cX12_isSo.data.toList) = true := by decide +kernel
theorem dX12_isSo_60 : decode cX12_isSo 60 = .ok (.iconst 5, 1) := zo_8 zh_cX12_isSo_3 0 rfl
theorem dX12_isSo_61 : decode cX12_isSo 61 = .ok (.iaload, 1) := zo_46 zh_cX12_isSo_3 1 rfl
theorem dX12_isSo_62 : decode cX12_isSo 62 = .ok (.ifCond .eq 38, 3) := zo_p153 zh_cX12_isSo_3 2 38 rfl rfl
theorem dX12_isSo_65 : decode cX12_isSo 65 = .ok (.aload_n 0, 1) := zo_42 zh_cX12_isSo_3 5 rfl
theorem dX12_isSo_66 : decode cX12_isSo 66 = .ok (.getfield 99, 3) := zo_180 zh_cX12_isSo_3 6 rfl
theorem dX12_isSo_69 : decode cX12_isSo 69 = .ok (.iconst 0, 1) := zo_3 zh_cX12_isSo_3 9 rfl
theorem dX12_isSo_70 : decode cX12_isSo 70 = .ok (.iaload, 1) := zo_46 zh_cX12_isSo_3 10 rfl
theorem dX12_isSo_71 : decode cX12_isSo 71 = .ok (.iconst 1, 1) := zo_4 zh_cX12_isSo_3 11 rfl
theorem dX12_isSo_72 : decode cX12_isSo 72 = .ok (.if_icmp .eq 24, 3) := zo_p159 zh_cX12_isSo_3 12 24 rfl rfl
theorem dX12_isSo_75 : decode cX12_isSo 75 = .ok (.aload_n 0, 1) := zo_42 zh_cX12_isSo_3 15 rfl
theorem dX12_isSo_76 : decode cX12_isSo 76 = .ok (.getfield 99, 3) := zo_180 zh_cX12_isSo_3 16 rfl
theorem dX12_isSo_79 : decode cX12_isSo 79 = .ok (.iconst 0, 1) := zo_3 zh_cX12_isSo_3 19 rfl
theorem zh_cX12_isSo_4 : zck [46, 16, 6, 159, 0, 13, 42, 180, 0, 99, 3, 46, 6, 160, 0, 7, 4, 167, 0, 4, 3, 172] (zdu 80 cX12_isSo.data.toList) = true := by decide +kernel
theorem dX12_isSo_80 : decode cX12_isSo 80 = .ok (.iaload, 1) := zo_46 zh_cX12_isSo_4 0 rfl
theorem dX12_isSo_81 : decode cX12_isSo 81 = .ok (.bipush 6, 2) := zo_p16 zh_cX12_isSo_4 1 6 rfl rfl
theorem dX12_isSo_83 : decode cX12_isSo 83 = .ok (.if_icmp .eq 13, 3) := zo_p159 zh_cX12_isSo_4 3 13 rfl rfl
theorem dX12_isSo_86 : decode cX12_isSo 86 = .ok (.aload_n 0, 1) := zo_42 zh_cX12_isSo_4 6 rfl
theorem dX12_isSo_87 : decode cX12_isSo 87 = .ok (.getfield 99, 3) := zo_180 zh_cX12_isSo_4 7 rfl
theorem dX12_isSo_90 : decode cX12_isSo 90 = .ok (.iconst 0, 1) := zo_3 zh_cX12_isSo_4 10 rfl
theorem dX12_isSo_91 : decode cX12_isSo 91 = .ok (.iaload, 1) := zo_46 zh_cX12_isSo_4 11 rfl
theorem dX12_isSo_92 : decode cX12_isSo 92 = .ok (.iconst 3, 1) := zo_6 zh_cX12_isSo_4 12 rfl
theorem dX12_isSo_93 : decode cX12_isSo 93 = .ok (.if_icmp .ne 7, 3) := zo_p160 zh_cX12_isSo_4 13 7 rfl rfl
theorem dX12_isSo_96 : decode cX12_isSo 96 = .ok (.iconst 1, 1) := zo_4 zh_cX12_isSo_4 16 rfl
theorem dX12_isSo_97 : decode cX12_isSo 97 = .ok (.goto 4, 3) := zo_p167 zh_cX12_isSo_4 17 4 rfl rfl
theorem zh_cX12_isSo_5 : zck [3, 172, 42, 180, 0, 99, 16, 9, 46, 153, 0, 17, 42, 180, 0, 99, 16, 10, 46, 153, 0, 7] (zdu 100 cX12_isSo.data.toList) = true := by decide +kernel
theorem dX12_isSo_100 : decode cX12_isSo 100 = .ok (.iconst 0, 1) := zo_3 zh_cX12_isSo_5 0 rfl
theorem dX12_isSo_101 : decode cX12_isSo 101 = .ok (.ireturn, 1) := zo_172 zh_cX12_isSo_5 1 rfl
theorem dX12_isSo_102 : decode cX12_isSo 102 = .ok (.aload_n 0, 1) := zo_42 zh_cX12_isSo_5 2 rfl
theorem dX12_isSo_103 : decode cX12_isSo 103 = .ok (.getfield 99, 3) := zo_180 zh_cX12_isSo_5 3 rfl
theorem dX12_isSo_106 : decode cX12_isSo 106 = .ok (.bipush 9, 2) := zo_p16 zh_cX12_isSo_5 6 9 rfl rfl
theorem dX12_isSo_108 : decode cX12_isSo 108 = .ok (.iaload, 1) := zo_46 zh_cX12_isSo_5 8 rfl
theorem dX12_isSo_109 : decode cX12_isSo 109 = .ok (.ifCond .eq 17, 3) := zo_p153 zh_cX12_isSo_5 9 17 rfl rfl
theorem dX12_isSo_112 : decode cX12_isSo 112 = .ok (.aload_n 0, 1) := zo_42 zh_cX12_isSo_5 12 rfl
theorem dX12_isSo_113 : decode cX12_isSo 113 = .ok (.getfield 99, 3) := zo_180 zh_cX12_isSo_5 13 rfl
theorem dX12_isSo_116 : decode cX12_isSo 116 = .ok (.bipush 10, 2) := zo_p16 zh_cX12_isSo_5 16 10 rfl rfl
theorem dX12_isSo_118 : decode cX12_isSo 118 = .ok (.iaload, 1) := zo_46 zh_cX12_isSo_5 18 rfl
theorem dX12_isSo_119 : decode cX12_isSo 119 = .ok (.ifCond .eq 7, 3) := zo_p153 zh_cX12_isSo_5 19 7 rfl rfl
theorem zh_cX12_isSo_6 : zck [0, 7, 4, 167, 0, 4, 3, 172, 42, 180, 0, 99, 16, 10, 46, 6, 162, 0, 7, 4, 167, 0] (zdu 120 cX12_isSo.data.toList) = true := by decide +kernel
theorem dX12_isSo_122 : decode cX12_isSo 122 = .ok (.iconst 1, 1) := zo_4 zh_cX12_isSo_6 2 rfl
theorem dX12_isSo_123 : decode cX12_isSo 123 = .ok (.goto 4, 3) := zo_p167 zh_cX12_isSo_6 3 4 rfl rfl
theorem dX12_isSo_126 : decode cX12_isSo 126 = .ok (.iconst 0, 1) := zo_3 zh_cX12_isSo_6 6 rfl
theorem dX12_isSo_127 : decode cX12_isSo 127 = .ok (.ireturn, 1) := zo_172 zh_cX12_isSo_6 7 rfl
theorem dX12_isSo_128 : decode cX12_isSo 128 = .ok (.aload_n 0, 1) := zo_42 zh_cX12_isSo_6 8 rfl
theorem dX12_isSo_129 : decode cX12_isSo 129 = .ok (.getfield 99, 3) := zo_180 zh_cX12_isSo_6 9 rfl
theorem dX12_isSo_132 : decode cX12_isSo 132 = .ok (.bipush 10, 2) := zo_p16 zh_cX12_isSo_6 12 10 rfl rfl
theorem dX12_isSo_134 : decode cX12_isSo 134 = .ok (.iaload, 1) := zo_46 zh_cX12_isSo_6 14 rfl
theorem dX12_isSo_135 : decode cX12_isSo 135 = .ok (.iconst 3, 1) := zo_6 zh_cX12_isSo_6 15 rfl
theorem dX12_isSo_136 : decode cX12_isSo 136 = .ok (.if_icmp .ge 7, 3) := zo_p162 zh_cX12_isSo_6 16 7 rfl rfl
theorem dX12_isSo_139 : decode cX12_isSo 139 = .ok (.iconst 1, 1) := zo_4 zh_cX12_isSo_6 19 rfl
theorem zh_cX12_isSo_7 : zck [167, 0, 4, 3, 172, 4, 172] (zdu 140 cX12_isSo.data.toList) = true := by decide +kernel
theorem dX12_isSo_140 : decode cX12_isSo 140 = .ok (.goto 4, 3) := zo_p167 zh_cX12_isSo_7 0 4 rfl rfl
theorem dX12_isSo_143 : decode cX12_isSo 143 = .ok (.iconst 0, 1) := zo_3 zh_cX12_isSo_7 3 rfl
theorem dX12_isSo_144 : decode cX12_isSo 144 = .ok (.ireturn, 1) := zo_172 zh_cX12_isSo_7 4 rfl
theorem dX12_isSo_145 : decode cX12_isSo 145 = .ok (.iconst 1, 1) := zo_4 zh_cX12_isSo_7 5 rfl
theorem dX12_isSo_146 : decode cX12_isSo 146 = .ok (.ireturn, 1) := zo_172 zh_cX12_isSo_7 6 rfl
abbrev z_X12_isSo : List Cond := .code yX12_isSo cX12_isSo 4 (some .boolean) :: zW
abbrev wl_X12_isSo (ad : Nat → Nat) (cs : Nat → ClassId)  (mod_code : Int32) (mod_shoes : Int32) (mod_claims : Int32) (mod_taped : Int32) (mod_here : Int32) (mod_fault : Int32) (mod_suits : Int32) (mod_doneMany : Int32) (mod_undoneMany : Int32) (mod_open : Int32) (mod_laid : Int32) (mod_isBoth : Int32) (mod_wished : Int32) (mod_bestMany : Int32) (mod_bestRow : Int32) (mod_ringDigits : Int32) (mod_traces : Int32) (mod_act : Nat → Int32) (mod_with : Nat → Int32) (mod_lineMany : Nat → Int32) (mod_testEnd : Nat → Int32) (mod_lineEnd : Nat → Int32) (mod_facts : Nat → Int32) (mod_pile : Nat → Int32) : va_W := [((ad 41), .inr (12, [.int mod_code, .int mod_shoes, .ref (ad 42), .ref (ad 43), .ref (ad 44), .ref (ad 45), .int mod_claims, .ref (ad 46), .ref (ad 47), .ref (ad 48), .ref (ad 49), .ref (ad 50), .int mod_taped, .int mod_here, .int mod_fault, .int mod_suits, .ref (ad 51), .ref (ad 52), .ref (ad 53), .ref (ad 54), .ref (ad 55), .ref (ad 56), .ref (ad 57), .ref (ad 58), .ref (ad 59), .ref (ad 60), .ref (ad 61), .int mod_doneMany, .int mod_undoneMany, .ref (ad 62), .ref (ad 63), .ref (ad 64), .ref (ad 65), .int mod_open, .int mod_laid, .ref (ad 66), .ref (ad 67), .ref (ad 68), .ref (ad 69), .ref (ad 70), .ref (ad 71), .ref (ad 72), .ref (ad 73), .ref (ad 74), .ref (ad 75), .int mod_isBoth, .int mod_wished, .ref (ad 76), .ref (ad 77), .int mod_bestMany, .int mod_bestRow, .ref (ad 78), .ref (ad 79), .int mod_ringDigits, .int mod_traces, .ref (ad 80), .ref (ad 81), .ref (ad 82), .ref (ad 83), .ref (ad 84)])), ((ad 66), .inl (cs 2, 4290, .inl mod_act)), ((ad 67), .inl (cs 0, 4290, .inl mod_with)), ((ad 68), .inl (cs 0, 33, .inl mod_lineMany)), ((ad 69), .inl (cs 3, 2013, .inl mod_testEnd)), ((ad 70), .inl (cs 3, 2013, .inl mod_lineEnd)), ((ad 71), .inl (cs 0, 11, .inl mod_facts)), ((ad 72), .inl (cs 0, 130, .inl mod_pile))]
def Q_X12_isSo (D : va_G) (cs : Nat → ClassId) (ad : Nat → Nat)  (mod_code : Int32) (mod_shoes : Int32) (mod_claims : Int32) (mod_taped : Int32) (mod_here : Int32) (mod_fault : Int32) (mod_suits : Int32) (mod_doneMany : Int32) (mod_undoneMany : Int32) (mod_open : Int32) (mod_laid : Int32) (mod_isBoth : Int32) (mod_wished : Int32) (mod_bestMany : Int32) (mod_bestRow : Int32) (mod_ringDigits : Int32) (mod_traces : Int32) (mod_act : Nat → Int32) (mod_with : Nat → Int32) (mod_lineMany : Nat → Int32) (mod_testEnd : Nat → Int32) (mod_lineEnd : Nat → Int32) (mod_facts : Nat → Int32) (A : Nat → Prop) (R : Int32 × (Nat → Int32)) : Array Value → State → Outcome → State → Prop :=
  va_Qi (fun (r : Int32) (u : (Nat → Int32)) => (r, u) = R) (fun (u : (Nat → Int32)) (t : State) => va_P D classes (wl_X12_isSo ad cs mod_code mod_shoes mod_claims mod_taped mod_here mod_fault mod_suits mod_doneMany mod_undoneMany mod_open mod_laid mod_isBoth mod_wished mod_bestMany mod_bestRow mod_ringDigits mod_traces mod_act mod_with mod_lineMany mod_testEnd mod_lineEnd mod_facts u) t.heap ∧ va_D A (wl_X12_isSo ad cs mod_code mod_shoes mod_claims mod_taped mod_here mod_fault mod_suits mod_doneMany mod_undoneMany mod_open mod_laid mod_isBoth mod_wished mod_bestMany mod_bestRow mod_ringDigits mod_traces mod_act mod_with mod_lineMany mod_testEnd mod_lineEnd mod_facts u)) A
abbrev rm_X12_isSo : Room := { frames := 3, cells := 0, slots := 0, locals := 71 }
theorem g_X12_302 : GoodIn zW (wsV RX12 302 RX12 yX12_gives z_X12_gives) := zGV kw_1681 kw_1683 kw_46 kw_95 kw_1684
theorem hd_X12_gives : yX12_gives.cls ≠ "java/lang/invoke/MethodHandle" ∧ yX12_gives.cls ≠ "java/lang/invoke/VarHandle" ∧ (parseMethodDescriptor yX12_gives.desc).map (fun d => d.parameters.length) = some 1 := by decide +kernel
def B_X12_isSo_96    (mod_code : Int32) (mod_shoes : Int32) (mod_claims : Int32) (mod_taped : Int32) (mod_here : Int32) (mod_fault : Int32) (mod_suits : Int32) (mod_doneMany : Int32) (mod_undoneMany : Int32) (mod_open : Int32) (mod_laid : Int32) (mod_isBoth : Int32) (mod_wished : Int32) (mod_bestMany : Int32) (mod_bestRow : Int32) (mod_ringDigits : Int32) (mod_traces : Int32) (mod_act : Nat → Int32) (mod_with : Nat → Int32) (mod_lineMany : Nat → Int32) (mod_testEnd : Nat → Int32) (mod_lineEnd : Nat → Int32) (mod_facts : Nat → Int32) (mod_pile : Nat → Int32) : Option (Int32 × (Nat → Int32)) :=
  (some ((1 : Int32), mod_pile))
def B_X12_isSo_0    (mod_code : Int32) (mod_shoes : Int32) (mod_claims : Int32) (mod_taped : Int32) (mod_here : Int32) (mod_fault : Int32) (mod_suits : Int32) (mod_doneMany : Int32) (mod_undoneMany : Int32) (mod_open : Int32) (mod_laid : Int32) (mod_isBoth : Int32) (mod_wished : Int32) (mod_bestMany : Int32) (mod_bestRow : Int32) (mod_ringDigits : Int32) (mod_traces : Int32) (mod_act : Nat → Int32) (mod_with : Nat → Int32) (mod_lineMany : Nat → Int32) (mod_testEnd : Nat → Int32) (mod_lineEnd : Nat → Int32) (mod_facts : Nat → Int32) (x1 : Int32) (x2 : Int32) (mod_pile : Nat → Int32) : Option (Int32 × (Nat → Int32)) :=
  (zk_let (((8 : Int32) * x1) + x2) (fun v_1 => (if (v_1 < 0 ∨ 33 ≤ v_1.toNatClampNeg) then none else (if (mod_lineMany v_1.toNatClampNeg) ≤ 0 then (if x1 = (0 : Int32) then (if (mod_facts (5 : Int32).toNatClampNeg) = 0 then (some ((0 : Int32), mod_pile)) else (if (mod_facts (0 : Int32).toNatClampNeg) = (1 : Int32) then (B_X12_isSo_96 mod_code mod_shoes mod_claims mod_taped mod_here mod_fault mod_suits mod_doneMany mod_undoneMany mod_open mod_laid mod_isBoth mod_wished mod_bestMany mod_bestRow mod_ringDigits mod_traces mod_act mod_with mod_lineMany mod_testEnd mod_lineEnd mod_facts mod_pile) else (if (mod_facts (0 : Int32).toNatClampNeg) = (6 : Int32) then (B_X12_isSo_96 mod_code mod_shoes mod_claims mod_taped mod_here mod_fault mod_suits mod_doneMany mod_undoneMany mod_open mod_laid mod_isBoth mod_wished mod_bestMany mod_bestRow mod_ringDigits mod_traces mod_act mod_with mod_lineMany mod_testEnd mod_lineEnd mod_facts mod_pile) else (if (mod_facts (0 : Int32).toNatClampNeg) = (3 : Int32) then (B_X12_isSo_96 mod_code mod_shoes mod_claims mod_taped mod_here mod_fault mod_suits mod_doneMany mod_undoneMany mod_open mod_laid mod_isBoth mod_wished mod_bestMany mod_bestRow mod_ringDigits mod_traces mod_act mod_with mod_lineMany mod_testEnd mod_lineEnd mod_facts mod_pile) else (some ((0 : Int32), mod_pile)))))) else (if x1 = (1 : Int32) then (if (mod_facts (9 : Int32).toNatClampNeg) = 0 then (some ((0 : Int32), mod_pile)) else (if (mod_facts (10 : Int32).toNatClampNeg) = 0 then (some ((0 : Int32), mod_pile)) else (some ((1 : Int32), mod_pile)))) else (if x1 = (2 : Int32) then (if (3 : Int32) ≤ (mod_facts (10 : Int32).toNatClampNeg) then (some ((0 : Int32), mod_pile)) else (some ((1 : Int32), mod_pile))) else (some ((1 : Int32), mod_pile))))) else (zk_b2 (f_X12_gives 100000 v_1 mod_code mod_shoes mod_claims mod_taped mod_here mod_fault mod_suits mod_doneMany mod_undoneMany mod_open mod_laid mod_isBoth mod_wished mod_bestMany mod_bestRow mod_ringDigits mod_traces mod_act mod_with mod_lineMany mod_testEnd mod_lineEnd mod_facts mod_pile) (fun r_14 u_15 => (if r_14 = 0 then (some ((0 : Int32), u_15)) else (some ((1 : Int32), u_15)))))))))
def f_X12_isSo   (x1 : Int32) (x2 : Int32) (mod_code : Int32) (mod_shoes : Int32) (mod_claims : Int32) (mod_taped : Int32) (mod_here : Int32) (mod_fault : Int32) (mod_suits : Int32) (mod_doneMany : Int32) (mod_undoneMany : Int32) (mod_open : Int32) (mod_laid : Int32) (mod_isBoth : Int32) (mod_wished : Int32) (mod_bestMany : Int32) (mod_bestRow : Int32) (mod_ringDigits : Int32) (mod_traces : Int32) (mod_act : Nat → Int32) (mod_with : Nat → Int32) (mod_lineMany : Nat → Int32) (mod_testEnd : Nat → Int32) (mod_lineEnd : Nat → Int32) (mod_facts : Nat → Int32) (mod_pile : Nat → Int32) : Option (Int32 × (Nat → Int32)) := B_X12_isSo_0   mod_code mod_shoes mod_claims mod_taped mod_here mod_fault mod_suits mod_doneMany mod_undoneMany mod_open mod_laid mod_isBoth mod_wished mod_bestMany mod_bestRow mod_ringDigits mod_traces mod_act mod_with mod_lineMany mod_testEnd mod_lineEnd mod_facts x1 x2 mod_pile
set_option maxHeartbeats 4000000 in
set_option maxRecDepth 100000 in
theorem L_X12_isSo_96 {p : Program} {l : Launch} {e : Env} {s : State} {m : MethodId} {args : Array Value} {below : List Frame} {meth : Method} {c : Code} {A : Nat → Prop} {D : va_G} {cs : Nat → ClassId} {ad : Nat → Nat} {mod_code : Int32} {mod_shoes : Int32} {mod_claims : Int32} {mod_taped : Int32} {mod_here : Int32} {mod_fault : Int32} {mod_suits : Int32} {mod_doneMany : Int32} {mod_undoneMany : Int32} {mod_open : Int32} {mod_laid : Int32} {mod_isBoth : Int32} {mod_wished : Int32} {mod_bestMany : Int32} {mod_bestRow : Int32} {mod_ringDigits : Int32} {mod_traces : Int32} {mod_act : Nat → Int32} {mod_with : Nat → Int32} {mod_lineMany : Nat → Int32} {mod_testEnd : Nat → Int32} {mod_lineEnd : Nat → Int32} {mod_facts : Nat → Int32} {R : Int32 × (Nat → Int32)} (C0 : zC p s m args meth c cX12_isSo 4 (some .boolean) RX12 zW) (hK : va_K D classes (zT cs) s) (hA : ∀ q : Nat, s.heap.size ≤ q → A q) (mod_pile : Nat → Int32) (h : B_X12_isSo_96 mod_code mod_shoes mod_claims mod_taped mod_here mod_fault mod_suits mod_doneMany mod_undoneMany mod_open mod_laid mod_isBoth mod_wished mod_bestMany mod_bestRow mod_ringDigits mod_traces mod_act mod_with mod_lineMany mod_testEnd mod_lineEnd mod_facts mod_pile = some R) (H : Heap) (locs : List Loc) (ls : Array Slot) (hP : va_P D classes (wl_X12_isSo ad cs mod_code mod_shoes mod_claims mod_taped mod_here mod_fault mod_suits mod_doneMany mod_undoneMany mod_open mod_laid mod_isBoth mod_wished mod_bestMany mod_bestRow mod_ringDigits mod_traces mod_act mod_with mod_lineMany mod_testEnd mod_lineEnd mod_facts mod_pile) H) (hD : va_D A (wl_X12_isSo ad cs mod_code mod_shoes mod_claims mod_taped mod_here mod_fault mod_suits mod_doneMany mod_undoneMany mod_open mod_laid mod_isBoth mod_wished mod_bestMany mod_bestRow mod_ringDigits mod_traces mod_act mod_with mod_lineMany mod_testEnd mod_lineEnd mod_facts mod_pile)) (hS : va_S A s.heap H locs) (hl : lv_has ls 4 []) : W p l e rm_X12_isSo s m args below meth c H locs 0 0 (MQ below (Q_X12_isSo D cs ad mod_code mod_shoes mod_claims mod_taped mod_here mod_fault mod_suits mod_doneMany mod_undoneMany mod_open mod_laid mod_isBoth mod_wished mod_bestMany mod_bestRow mod_ringDigits mod_traces mod_act mod_with mod_lineMany mod_testEnd mod_lineEnd mod_facts A R) args s 0 0 A) (F0 m 96 ls []) := by
  obtain ⟨hx, hb, hr, hml, hown, ht, hlocks⟩ := id C0
  refine lv_iconst (v := (1 : Int32)) hx hb dX12_isSo_96 (by decide) ?_
  refine lv_goto (tgt := 101) hx hb dX12_isSo_97 (by decide) ?_
  exact W.zret (ty := .boolean) (v := (1 : Int32)) hx hb hr rfl (fun t ht2 hW => ⟨⟨(1 : Int32), mod_pile, rfl, Option.some.inj h, by rw [ht2]; exact hP, hD⟩, hS.F ht2⟩) hS.2.2 dX12_isSo_101 hlocks
set_option maxHeartbeats 4000000 in
set_option maxRecDepth 100000 in
theorem L_X12_isSo_0 {p : Program} {l : Launch} {e : Env} {s : State} {m : MethodId} {args : Array Value} {below : List Frame} {meth : Method} {c : Code} {A : Nat → Prop} {D : va_G} {cs : Nat → ClassId} {ad : Nat → Nat} {mod_code : Int32} {mod_shoes : Int32} {mod_claims : Int32} {mod_taped : Int32} {mod_here : Int32} {mod_fault : Int32} {mod_suits : Int32} {mod_doneMany : Int32} {mod_undoneMany : Int32} {mod_open : Int32} {mod_laid : Int32} {mod_isBoth : Int32} {mod_wished : Int32} {mod_bestMany : Int32} {mod_bestRow : Int32} {mod_ringDigits : Int32} {mod_traces : Int32} {mod_act : Nat → Int32} {mod_with : Nat → Int32} {mod_lineMany : Nat → Int32} {mod_testEnd : Nat → Int32} {mod_lineEnd : Nat → Int32} {mod_facts : Nat → Int32} {R : Int32 × (Nat → Int32)} (C0 : zC p s m args meth c cX12_isSo 4 (some .boolean) RX12 zW) (hK : va_K D classes (zT cs) s) (hA : ∀ q : Nat, s.heap.size ≤ q → A q) (x1 : Int32) (x2 : Int32) (mod_pile : Nat → Int32) (h : B_X12_isSo_0 mod_code mod_shoes mod_claims mod_taped mod_here mod_fault mod_suits mod_doneMany mod_undoneMany mod_open mod_laid mod_isBoth mod_wished mod_bestMany mod_bestRow mod_ringDigits mod_traces mod_act mod_with mod_lineMany mod_testEnd mod_lineEnd mod_facts x1 x2 mod_pile = some R) (H : Heap) (locs : List Loc) (ls : Array Slot) (hP : va_P D classes (wl_X12_isSo ad cs mod_code mod_shoes mod_claims mod_taped mod_here mod_fault mod_suits mod_doneMany mod_undoneMany mod_open mod_laid mod_isBoth mod_wished mod_bestMany mod_bestRow mod_ringDigits mod_traces mod_act mod_with mod_lineMany mod_testEnd mod_lineEnd mod_facts mod_pile) H) (hD : va_D A (wl_X12_isSo ad cs mod_code mod_shoes mod_claims mod_taped mod_here mod_fault mod_suits mod_doneMany mod_undoneMany mod_open mod_laid mod_isBoth mod_wished mod_bestMany mod_bestRow mod_ringDigits mod_traces mod_act mod_with mod_lineMany mod_testEnd mod_lineEnd mod_facts mod_pile)) (hS : va_S A s.heap H locs) (hl : lv_has ls 4 [(0, .ref (ad 41)), (1, .int x1), (2, .int x2)]) : W p l e rm_X12_isSo s m args below meth c H locs 0 0 (MQ below (Q_X12_isSo D cs ad mod_code mod_shoes mod_claims mod_taped mod_here mod_fault mod_suits mod_doneMany mod_undoneMany mod_open mod_laid mod_isBoth mod_wished mod_bestMany mod_bestRow mod_ringDigits mod_traces mod_act mod_with mod_lineMany mod_testEnd mod_lineEnd mod_facts A R) args s 0 0 A) (F0 m 0 ls []) := by
  obtain ⟨hx, hb, hr, hml, hown, ht, hlocks⟩ := id C0
  refine lv_bipush (v := (8 : Int32)) hx hb dX12_isSo_0 (by decide) ?_
  refine lv_iload_n hx hb dX12_isSo_2 rfl (lv_at hl 1 rfl) ?_
  refine lv_imul hx hb dX12_isSo_3 ?_
  refine lv_iload_n hx hb dX12_isSo_4 rfl (lv_at hl 2 rfl) ?_
  refine lv_iadd hx hb dX12_isSo_5 ?_
  obtain ⟨v_1, ev_1, h⟩ := zk_lt h
  refine W.eq (g2 := F0 m 6 ls [.int v_1]) (by rw [ev_1]) ?_
  refine lv_istore_n (lv' := [(3, .int v_1), (0, .ref (ad 41)), (1, .int x1), (2, .int x2)]) hx hb dX12_isSo_6 rfl hl (by decide) rfl (fun ls hl => ?_)
  refine lv_aload_n hx hb dX12_isSo_7 rfl (lv_at hl 1 rfl) ?_
  refine va_get (D := D) (ci := 12) (v := .ref (ad 68)) (C := RX12) (T := TX12) (N := 60) hx hb ht iX12 hown hK hP 0 rfl rfl 37 (by decide) (ht _ kw_1332) (fun _ h9 => h9) rfl dX12_isSo_8 ?_
  refine lv_iload_n hx hb dX12_isSo_11 rfl (lv_at hl 0 rfl) ?_
  obtain ⟨g_2, h⟩ := zk_gd h
  refine va_iald hx hb hK hP 3 0 rfl rfl g_2 dX12_isSo_12 ?_
  refine lv_if_le (tgt := 30) hx hb dX12_isSo_13 (by decide) (fun c_3 => ?_) (fun c_3 => ?_)
  · have h := zk_t c_3 h
    refine lv_iload_n hx hb dX12_isSo_30 rfl (lv_at hl 2 rfl) ?_
    by_cases c_11 : x1 = (0 : Int32)
    · have h := zk_t c_11 h
      refine lv_tableIn (tgt := 56) hx hb dX12_isSo_31 (by rw [c_11]; decide) (by rw [c_11]; decide) (by rw [c_11]; rfl) (by decide) ?_
      refine lv_aload_n hx hb dX12_isSo_56 rfl (lv_at hl 1 rfl) ?_
      refine va_get (D := D) (ci := 12) (v := .ref (ad 71)) (C := RX12) (T := TX12) (N := 60) hx hb ht iX12 hown hK hP 0 rfl rfl 40 (by decide) (ht _ kw_1335) (fun _ h9 => h9) rfl dX12_isSo_57 ?_
      refine lv_iconst (v := (5 : Int32)) hx hb dX12_isSo_60 (by decide) ?_
      refine va_iald hx hb hK hP 6 0 rfl rfl (by unfold vp_in; decide) dX12_isSo_61 ?_
      refine lv_if_eq (tgt := 100) hx hb dX12_isSo_62 (by decide) (fun c_4 => ?_) (fun c_4 => ?_)
      · have h := zk_t c_4 h
        refine lv_iconst (v := (0 : Int32)) hx hb dX12_isSo_100 (by decide) ?_
        exact W.zret (ty := .boolean) (v := (0 : Int32)) hx hb hr rfl (fun t ht2 hW => ⟨⟨(0 : Int32), mod_pile, rfl, Option.some.inj h, by rw [ht2]; exact hP, hD⟩, hS.F ht2⟩) hS.2.2 dX12_isSo_101 hlocks
      · have h := zk_f c_4 h
        refine lv_aload_n hx hb dX12_isSo_65 rfl (lv_at hl 1 rfl) ?_
        refine va_get (D := D) (ci := 12) (v := .ref (ad 71)) (C := RX12) (T := TX12) (N := 60) hx hb ht iX12 hown hK hP 0 rfl rfl 40 (by decide) (ht _ kw_1335) (fun _ h9 => h9) rfl dX12_isSo_66 ?_
        refine lv_iconst (v := (0 : Int32)) hx hb dX12_isSo_69 (by decide) ?_
        refine va_iald hx hb hK hP 6 0 rfl rfl (by unfold vp_in; decide) dX12_isSo_70 ?_
        refine lv_iconst (v := (1 : Int32)) hx hb dX12_isSo_71 (by decide) ?_
        refine lv_icmp_eq (tgt := 96) hx hb dX12_isSo_72 (by decide) (fun c_5 => ?_) (fun c_5 => ?_)
        · have h := zk_t c_5 h
          exact L_X12_isSo_96 C0 hK hA   mod_pile h H locs ls hP hD hS (lv_sub hl [] rfl)
        · have h := zk_f c_5 h
          refine lv_aload_n hx hb dX12_isSo_75 rfl (lv_at hl 1 rfl) ?_
          refine va_get (D := D) (ci := 12) (v := .ref (ad 71)) (C := RX12) (T := TX12) (N := 60) hx hb ht iX12 hown hK hP 0 rfl rfl 40 (by decide) (ht _ kw_1335) (fun _ h9 => h9) rfl dX12_isSo_76 ?_
          refine lv_iconst (v := (0 : Int32)) hx hb dX12_isSo_79 (by decide) ?_
          refine va_iald hx hb hK hP 6 0 rfl rfl (by unfold vp_in; decide) dX12_isSo_80 ?_
          refine lv_bipush (v := (6 : Int32)) hx hb dX12_isSo_81 (by decide) ?_
          refine lv_icmp_eq (tgt := 96) hx hb dX12_isSo_83 (by decide) (fun c_6 => ?_) (fun c_6 => ?_)
          · have h := zk_t c_6 h
            exact L_X12_isSo_96 C0 hK hA   mod_pile h H locs ls hP hD hS (lv_sub hl [] rfl)
          · have h := zk_f c_6 h
            refine lv_aload_n hx hb dX12_isSo_86 rfl (lv_at hl 1 rfl) ?_
            refine va_get (D := D) (ci := 12) (v := .ref (ad 71)) (C := RX12) (T := TX12) (N := 60) hx hb ht iX12 hown hK hP 0 rfl rfl 40 (by decide) (ht _ kw_1335) (fun _ h9 => h9) rfl dX12_isSo_87 ?_
            refine lv_iconst (v := (0 : Int32)) hx hb dX12_isSo_90 (by decide) ?_
            refine va_iald hx hb hK hP 6 0 rfl rfl (by unfold vp_in; decide) dX12_isSo_91 ?_
            refine lv_iconst (v := (3 : Int32)) hx hb dX12_isSo_92 (by decide) ?_
            refine lv_icmp_ne (tgt := 100) hx hb dX12_isSo_93 (by decide) (fun c_7 => ?_) (fun c_7 => ?_)
            · have h := zk_f c_7 h
              refine lv_iconst (v := (0 : Int32)) hx hb dX12_isSo_100 (by decide) ?_
              exact W.zret (ty := .boolean) (v := (0 : Int32)) hx hb hr rfl (fun t ht2 hW => ⟨⟨(0 : Int32), mod_pile, rfl, Option.some.inj h, by rw [ht2]; exact hP, hD⟩, hS.F ht2⟩) hS.2.2 dX12_isSo_101 hlocks
            · have h := zk_t c_7 h
              exact L_X12_isSo_96 C0 hK hA   mod_pile h H locs ls hP hD hS (lv_sub hl [] rfl)
    · have h := zk_f c_11 h
      by_cases c_12 : x1 = (1 : Int32)
      · have h := zk_t c_12 h
        refine lv_tableIn (tgt := 102) hx hb dX12_isSo_31 (by rw [c_12]; decide) (by rw [c_12]; decide) (by rw [c_12]; rfl) (by decide) ?_
        refine lv_aload_n hx hb dX12_isSo_102 rfl (lv_at hl 1 rfl) ?_
        refine va_get (D := D) (ci := 12) (v := .ref (ad 71)) (C := RX12) (T := TX12) (N := 60) hx hb ht iX12 hown hK hP 0 rfl rfl 40 (by decide) (ht _ kw_1335) (fun _ h9 => h9) rfl dX12_isSo_103 ?_
        refine lv_bipush (v := (9 : Int32)) hx hb dX12_isSo_106 (by decide) ?_
        refine va_iald hx hb hK hP 6 0 rfl rfl (by unfold vp_in; decide) dX12_isSo_108 ?_
        refine lv_if_eq (tgt := 126) hx hb dX12_isSo_109 (by decide) (fun c_8 => ?_) (fun c_8 => ?_)
        · have h := zk_t c_8 h
          refine lv_iconst (v := (0 : Int32)) hx hb dX12_isSo_126 (by decide) ?_
          exact W.zret (ty := .boolean) (v := (0 : Int32)) hx hb hr rfl (fun t ht2 hW => ⟨⟨(0 : Int32), mod_pile, rfl, Option.some.inj h, by rw [ht2]; exact hP, hD⟩, hS.F ht2⟩) hS.2.2 dX12_isSo_127 hlocks
        · have h := zk_f c_8 h
          refine lv_aload_n hx hb dX12_isSo_112 rfl (lv_at hl 1 rfl) ?_
          refine va_get (D := D) (ci := 12) (v := .ref (ad 71)) (C := RX12) (T := TX12) (N := 60) hx hb ht iX12 hown hK hP 0 rfl rfl 40 (by decide) (ht _ kw_1335) (fun _ h9 => h9) rfl dX12_isSo_113 ?_
          refine lv_bipush (v := (10 : Int32)) hx hb dX12_isSo_116 (by decide) ?_
          refine va_iald hx hb hK hP 6 0 rfl rfl (by unfold vp_in; decide) dX12_isSo_118 ?_
          refine lv_if_eq (tgt := 126) hx hb dX12_isSo_119 (by decide) (fun c_9 => ?_) (fun c_9 => ?_)
          · have h := zk_t c_9 h
            refine lv_iconst (v := (0 : Int32)) hx hb dX12_isSo_126 (by decide) ?_
            exact W.zret (ty := .boolean) (v := (0 : Int32)) hx hb hr rfl (fun t ht2 hW => ⟨⟨(0 : Int32), mod_pile, rfl, Option.some.inj h, by rw [ht2]; exact hP, hD⟩, hS.F ht2⟩) hS.2.2 dX12_isSo_127 hlocks
          · have h := zk_f c_9 h
            refine lv_iconst (v := (1 : Int32)) hx hb dX12_isSo_122 (by decide) ?_
            refine lv_goto (tgt := 127) hx hb dX12_isSo_123 (by decide) ?_
            exact W.zret (ty := .boolean) (v := (1 : Int32)) hx hb hr rfl (fun t ht2 hW => ⟨⟨(1 : Int32), mod_pile, rfl, Option.some.inj h, by rw [ht2]; exact hP, hD⟩, hS.F ht2⟩) hS.2.2 dX12_isSo_127 hlocks
      · have h := zk_f c_12 h
        by_cases c_13 : x1 = (2 : Int32)
        · have h := zk_t c_13 h
          refine lv_tableIn (tgt := 128) hx hb dX12_isSo_31 (by rw [c_13]; decide) (by rw [c_13]; decide) (by rw [c_13]; rfl) (by decide) ?_
          refine lv_aload_n hx hb dX12_isSo_128 rfl (lv_at hl 1 rfl) ?_
          refine va_get (D := D) (ci := 12) (v := .ref (ad 71)) (C := RX12) (T := TX12) (N := 60) hx hb ht iX12 hown hK hP 0 rfl rfl 40 (by decide) (ht _ kw_1335) (fun _ h9 => h9) rfl dX12_isSo_129 ?_
          refine lv_bipush (v := (10 : Int32)) hx hb dX12_isSo_132 (by decide) ?_
          refine va_iald hx hb hK hP 6 0 rfl rfl (by unfold vp_in; decide) dX12_isSo_134 ?_
          refine lv_iconst (v := (3 : Int32)) hx hb dX12_isSo_135 (by decide) ?_
          refine lv_icmp_ge (tgt := 143) hx hb dX12_isSo_136 (by decide) (fun c_10 => ?_) (fun c_10 => ?_)
          · have h := zk_t c_10 h
            refine lv_iconst (v := (0 : Int32)) hx hb dX12_isSo_143 (by decide) ?_
            exact W.zret (ty := .boolean) (v := (0 : Int32)) hx hb hr rfl (fun t ht2 hW => ⟨⟨(0 : Int32), mod_pile, rfl, Option.some.inj h, by rw [ht2]; exact hP, hD⟩, hS.F ht2⟩) hS.2.2 dX12_isSo_144 hlocks
          · have h := zk_f c_10 h
            refine lv_iconst (v := (1 : Int32)) hx hb dX12_isSo_139 (by decide) ?_
            refine lv_goto (tgt := 144) hx hb dX12_isSo_140 (by decide) ?_
            exact W.zret (ty := .boolean) (v := (1 : Int32)) hx hb hr rfl (fun t ht2 hW => ⟨⟨(1 : Int32), mod_pile, rfl, Option.some.inj h, by rw [ht2]; exact hP, hD⟩, hS.F ht2⟩) hS.2.2 dX12_isSo_144 hlocks
        · have h := zk_f c_13 h
          refine lv_tableOut (tgt := 145) hx hb dX12_isSo_31 (zk_out (lo := 0) (hi := 2) [(0 : Int32), (1 : Int32), (2 : Int32)] (by decide +kernel) (List.forall_mem_cons.mpr ⟨c_11, List.forall_mem_cons.mpr ⟨c_12, List.forall_mem_cons.mpr ⟨c_13, fun _ h => absurd h List.not_mem_nil⟩⟩⟩)) (by decide) ?_
          refine lv_iconst (v := (1 : Int32)) hx hb dX12_isSo_145 (by decide) ?_
          exact W.zret (ty := .boolean) (v := (1 : Int32)) hx hb hr rfl (fun t ht2 hW => ⟨⟨(1 : Int32), mod_pile, rfl, Option.some.inj h, by rw [ht2]; exact hP, hD⟩, hS.F ht2⟩) hS.2.2 dX12_isSo_146 hlocks
  · have h := zk_f c_3 h
    refine lv_aload_n hx hb dX12_isSo_16 rfl (lv_at hl 1 rfl) ?_
    refine lv_iload_n hx hb dX12_isSo_17 rfl (lv_at hl 0 rfl) ?_
    obtain ⟨r_14, u_15, hc_16, h⟩ := zk_o2 h
    refine zz_vi (post := (fun r u => (r, u) = (r_14, u_15))) (w1 := fun u => (wl_X12_gives ad cs mod_code mod_shoes mod_claims mod_taped mod_here mod_fault mod_suits mod_doneMany mod_undoneMany mod_open mod_laid mod_isBoth mod_wished mod_bestMany mod_bestRow mod_ringDigits mod_traces mod_act mod_with mod_lineMany mod_testEnd mod_lineEnd mod_facts u)) (As := [.int v_1]) (rest := []) (c_X12_gives l D cs ad  H.size 100000 v_1 mod_code mod_shoes mod_claims mod_taped mod_here mod_fault mod_suits mod_doneMany mod_undoneMany mod_open mod_laid mod_isBoth mod_wished mod_bestMany mod_bestRow mod_ringDigits mod_traces mod_act mod_with mod_lineMany mod_testEnd mod_lineEnd mod_facts mod_pile (r_14, u_15) hc_16) ⟨hx, hb, hml, hown, ht⟩ (cwV 1 ht g_X12_302 rfl rfl rfl ⟨rfl, hd_X12_gives⟩ ⟨Nat.le_of_ble_eq_true rfl, Nat.le_of_ble_eq_true rfl⟩) (va_recv hK hP (ci := 12) (q0 := 0) rfl rfl) hP hD hS hK hA [0, 1, 2, 3, 4, 5, 6, 7] rfl rfl [(ad 41), (ad 66), (ad 67), (ad 68), (ad 69), (ad 70), (ad 71), (ad 72)] rfl (fun _ => rfl) rfl hl.1 (Nat.le_of_ble_eq_true rfl) dX12_isSo_18 ⟨Nat.zero_le _, Nat.zero_le _⟩ (fun r u H locs hq hP hS => ?_)
    cases hq
    have hP : va_P D classes (wl_X12_isSo ad cs mod_code mod_shoes mod_claims mod_taped mod_here mod_fault mod_suits mod_doneMany mod_undoneMany mod_open mod_laid mod_isBoth mod_wished mod_bestMany mod_bestRow mod_ringDigits mod_traces mod_act mod_with mod_lineMany mod_testEnd mod_lineEnd mod_facts u_15) H := hP
    have hD : va_D A (wl_X12_isSo ad cs mod_code mod_shoes mod_claims mod_taped mod_here mod_fault mod_suits mod_doneMany mod_undoneMany mod_open mod_laid mod_isBoth mod_wished mod_bestMany mod_bestRow mod_ringDigits mod_traces mod_act mod_with mod_lineMany mod_testEnd mod_lineEnd mod_facts u_15) := zDk hD [(ad 41), (ad 66), (ad 67), (ad 68), (ad 69), (ad 70), (ad 71), (ad 72)] rfl rfl
    refine lv_if_eq (tgt := 28) hx hb dX12_isSo_21 (by decide) (fun c_17 => ?_) (fun c_17 => ?_)
    · have h := zk_t c_17 h
      refine lv_iconst (v := (0 : Int32)) hx hb dX12_isSo_28 (by decide) ?_
      exact W.zret (ty := .boolean) (v := (0 : Int32)) hx hb hr rfl (fun t ht2 hW => ⟨⟨(0 : Int32), u_15, rfl, Option.some.inj h, by rw [ht2]; exact hP, hD⟩, hS.F ht2⟩) hS.2.2 dX12_isSo_29 hlocks
    · have h := zk_f c_17 h
      refine lv_iconst (v := (1 : Int32)) hx hb dX12_isSo_24 (by decide) ?_
      refine lv_goto (tgt := 29) hx hb dX12_isSo_25 (by decide) ?_
      exact W.zret (ty := .boolean) (v := (1 : Int32)) hx hb hr rfl (fun t ht2 hW => ⟨⟨(1 : Int32), u_15, rfl, Option.some.inj h, by rw [ht2]; exact hP, hD⟩, hS.F ht2⟩) hS.2.2 dX12_isSo_29 hlocks
set_option maxHeartbeats 4000000 in
set_option maxRecDepth 100000 in
theorem c_X12_isSo (l : Launch) (D : va_G) (cs : Nat → ClassId) (ad : Nat → Nat) (sz : Nat) (x1 : Int32) (x2 : Int32) (mod_code : Int32) (mod_shoes : Int32) (mod_claims : Int32) (mod_taped : Int32) (mod_here : Int32) (mod_fault : Int32) (mod_suits : Int32) (mod_doneMany : Int32) (mod_undoneMany : Int32) (mod_open : Int32) (mod_laid : Int32) (mod_isBoth : Int32) (mod_wished : Int32) (mod_bestMany : Int32) (mod_bestRow : Int32) (mod_ringDigits : Int32) (mod_traces : Int32) (mod_act : Nat → Int32) (mod_with : Nat → Int32) (mod_lineMany : Nat → Int32) (mod_testEnd : Nat → Int32) (mod_lineEnd : Nat → Int32) (mod_facts : Nat → Int32) (mod_pile : Nat → Int32) (R : Int32 × (Nat → Int32)) (h : f_X12_isSo   x1 x2 mod_code mod_shoes mod_claims mod_taped mod_here mod_fault mod_suits mod_doneMany mod_undoneMany mod_open mod_laid mod_isBoth mod_wished mod_bestMany mod_bestRow mod_ringDigits mod_traces mod_act mod_with mod_lineMany mod_testEnd mod_lineEnd mod_facts mod_pile = some R) : Met l yX12_isSo (z_X12_isSo) rm_X12_isSo (va_Pc [.ref (ad 41), .int x1, .int x2] (zPre D cs (wl_X12_isSo ad cs mod_code mod_shoes mod_claims mod_taped mod_here mod_fault mod_suits mod_doneMany mod_undoneMany mod_open mod_laid mod_isBoth mod_wished mod_bestMany mod_bestRow mod_ringDigits mod_traces mod_act mod_with mod_lineMany mod_testEnd mod_lineEnd mod_facts mod_pile) sz)) (Q_X12_isSo D cs ad mod_code mod_shoes mod_claims mod_taped mod_here mod_fault mod_suits mod_doneMany mod_undoneMany mod_open mod_laid mod_isBoth mod_wished mod_bestMany mod_bestRow mod_ringDigits mod_traces mod_act mod_with mod_lineMany mod_testEnd mod_lineEnd mod_facts (va_A (wl_X12_isSo ad cs mod_code mod_shoes mod_claims mod_taped mod_here mod_fault mod_suits mod_doneMany mod_undoneMany mod_open mod_laid mod_isBoth mod_wished mod_bestMany mod_bestRow mod_ringDigits mod_traces mod_act mod_with mod_lineMany mod_testEnd mod_lineEnd mod_facts mod_pile) sz) R) 0 0 (va_A (wl_X12_isSo ad cs mod_code mod_shoes mod_claims mod_taped mod_here mod_fault mod_suits mod_doneMany mod_undoneMany mod_open mod_laid mod_isBoth mod_wished mod_bestMany mod_bestRow mod_ringDigits mod_traces mod_act mod_with mod_lineMany mod_testEnd mod_lineEnd mod_facts mod_pile) sz) := by
  refine Met.ofW (cc := cX12_isSo) (maxL := 4) (ret := (some .boolean)) (by decide) rfl ?_
  intro p e s m args below meth c s₁ B hml hv
  obtain ⟨rfl, hsz, hP, hK, hD0⟩ := hv
  subst hsz
  have hD := hD0.self (sz := s.heap.size)
  have C0 : zC p s m _ meth c cX12_isSo 4 (some .boolean) RX12 zW := ⟨B.exec, B.bytes, B.returns, hml, findClass_of_methodNamed B.named, fun w hw => atoms_spec (ws := z_X12_isSo) B.pre w (List.mem_cons_of_mem _ hw), B.notSynchronized⟩
  have hA : ∀ q : Nat, s.heap.size ≤ q → va_A (wl_X12_isSo ad cs mod_code mod_shoes mod_claims mod_taped mod_here mod_fault mod_suits mod_doneMany mod_undoneMany mod_open mod_laid mod_isBoth mod_wished mod_bestMany mod_bestRow mod_ringDigits mod_traces mod_act mod_with mod_lineMany mod_testEnd mod_lineEnd mod_facts mod_pile) s.heap.size q := fun q h => Or.inr h
  have hl := lv_entry ([.ref (ad 41), .int x1, .int x2]) (n := 4) (Nat.le_of_ble_eq_true rfl)
  rw [lg_entry_eq]
  generalize (lg_sl ([.ref (ad 41), .int x1, .int x2]) ++ List.replicate (4 - (lg_sl ([.ref (ad 41), .int x1, .int x2])).length) Slot.unset).toArray = ls at hl ⊢
  exact L_X12_isSo_0 C0 hK hA   x1 x2 mod_pile h s.heap [] ls hP hD va_S.rf hl
