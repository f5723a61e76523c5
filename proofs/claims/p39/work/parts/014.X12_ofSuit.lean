theorem kw_29 : Cond.selects RX12 yX12_isSuit yX12_isSuit ∈ zW := zwI (i := 29) (by decide +kernel) (by decide +kernel)
theorem kw_30 : Cond.selects RX12 yX12_bodyKind yX12_bodyKind ∈ zW := zwI (i := 30) (by decide +kernel) (by decide +kernel)
theorem kw_1579 : Cond.methodLink RX12 234 yX12_isSuit ∈ zW := zwC (i := 65) zc_7 rfl rfl
theorem kw_1581 : Cond.instanceMethod yX12_isSuit ∈ zW := zwC (i := 67) zc_7 rfl rfl
theorem kw_1582 : Cond.code yX12_isSuit cX12_isSuit 2 (some .boolean) ∈ zW := zwC (i := 68) zc_7 rfl rfl
theorem kw_1583 : Cond.methodLink RX12 237 yX12_bodyKind ∈ zW := zwC (i := 69) zc_7 rfl rfl
theorem kw_1585 : Cond.instanceMethod yX12_bodyKind ∈ zW := zwC (i := 71) zc_7 rfl rfl
theorem kw_1586 : Cond.code yX12_bodyKind cX12_bodyKind 2 (some .int) ∈ zW := zwC (i := 72) zc_7 rfl rfl
theorem zh_cX12_ofSuit_0 : zck [42, 27, 182, 0, 234, 154, 0, 5, 2, 172, 28, 16, 50, 16, 81, 184, 0, 147, 153, 0, 18, 42] (zdu 0 cX12_ofSuit.data.toList) = true := by decide +kernel
theorem dX12_ofSuit_0 : decode cX12_ofSuit 0 = .ok (.aload_n 0, 1) := zo_42 zh_cX12_ofSuit_0 0 rfl
theorem dX12_ofSuit_1 : decode cX12_ofSuit 1 = .ok (.iload_n 1, 1) := zo_27 zh_cX12_ofSuit_0 1 rfl
theorem dX12_ofSuit_2 : decode cX12_ofSuit 2 = .ok (.invokevirtual 234, 3) := zo_182 zh_cX12_ofSuit_0 2 rfl
theorem dX12_ofSuit_5 : decode cX12_ofSuit 5 = .ok (.ifCond .ne 5, 3) := zo_p154 zh_cX12_ofSuit_0 5 5 rfl rfl
theorem dX12_ofSuit_8 : decode cX12_ofSuit 8 = .ok (.iconst (-1), 1) := zo_2 zh_cX12_ofSuit_0 8 rfl
theorem dX12_ofSuit_9 : decode cX12_ofSuit 9 = .ok (.ireturn, 1) := zo_172 zh_cX12_ofSuit_0 9 rfl
theorem dX12_ofSuit_10 : decode cX12_ofSuit 10 = .ok (.iload_n 2, 1) := zo_28 zh_cX12_ofSuit_0 10 rfl
theorem dX12_ofSuit_11 : decode cX12_ofSuit 11 = .ok (.bipush 50, 2) := zo_p16 zh_cX12_ofSuit_0 11 50 rfl rfl
theorem dX12_ofSuit_13 : decode cX12_ofSuit 13 = .ok (.bipush 81, 2) := zo_p16 zh_cX12_ofSuit_0 13 81 rfl rfl
theorem dX12_ofSuit_15 : decode cX12_ofSuit 15 = .ok (.invokestatic 147, 3) := zo_184 zh_cX12_ofSuit_0 15 rfl
theorem dX12_ofSuit_18 : decode cX12_ofSuit 18 = .ok (.ifCond .eq 18, 3) := zo_p153 zh_cX12_ofSuit_0 18 18 rfl rfl
theorem zh_cX12_ofSuit_1 : zck [18, 42, 180, 0, 68, 16, 32, 27, 104, 28, 96, 16, 50, 100, 51, 172, 28, 16, 10, 16, 9, 42] (zdu 20 cX12_ofSuit.data.toList) = true := by decide +kernel
theorem dX12_ofSuit_21 : decode cX12_ofSuit 21 = .ok (.aload_n 0, 1) := zo_42 zh_cX12_ofSuit_1 1 rfl
theorem dX12_ofSuit_22 : decode cX12_ofSuit 22 = .ok (.getfield 68, 3) := zo_180 zh_cX12_ofSuit_1 2 rfl
theorem dX12_ofSuit_25 : decode cX12_ofSuit 25 = .ok (.bipush 32, 2) := zo_p16 zh_cX12_ofSuit_1 5 32 rfl rfl
theorem dX12_ofSuit_27 : decode cX12_ofSuit 27 = .ok (.iload_n 1, 1) := zo_27 zh_cX12_ofSuit_1 7 rfl
theorem dX12_ofSuit_28 : decode cX12_ofSuit 28 = .ok (.imul, 1) := zo_104 zh_cX12_ofSuit_1 8 rfl
theorem dX12_ofSuit_29 : decode cX12_ofSuit 29 = .ok (.iload_n 2, 1) := zo_28 zh_cX12_ofSuit_1 9 rfl
theorem dX12_ofSuit_30 : decode cX12_ofSuit 30 = .ok (.iadd, 1) := zo_96 zh_cX12_ofSuit_1 10 rfl
theorem dX12_ofSuit_31 : decode cX12_ofSuit 31 = .ok (.bipush 50, 2) := zo_p16 zh_cX12_ofSuit_1 11 50 rfl rfl
theorem dX12_ofSuit_33 : decode cX12_ofSuit 33 = .ok (.isub, 1) := zo_100 zh_cX12_ofSuit_1 13 rfl
theorem dX12_ofSuit_34 : decode cX12_ofSuit 34 = .ok (.baload, 1) := zo_51 zh_cX12_ofSuit_1 14 rfl
theorem dX12_ofSuit_35 : decode cX12_ofSuit 35 = .ok (.ireturn, 1) := zo_172 zh_cX12_ofSuit_1 15 rfl
theorem dX12_ofSuit_36 : decode cX12_ofSuit 36 = .ok (.iload_n 2, 1) := zo_28 zh_cX12_ofSuit_1 16 rfl
theorem dX12_ofSuit_37 : decode cX12_ofSuit 37 = .ok (.bipush 10, 2) := zo_p16 zh_cX12_ofSuit_1 17 10 rfl rfl
theorem dX12_ofSuit_39 : decode cX12_ofSuit 39 = .ok (.bipush 9, 2) := zo_p16 zh_cX12_ofSuit_1 19 9 rfl rfl
theorem zh_cX12_ofSuit_2 : zck [9, 42, 180, 0, 59, 27, 46, 96, 184, 0, 147, 153, 0, 18, 42, 180, 0, 65, 16, 32, 27, 104] (zdu 40 cX12_ofSuit.data.toList) = true := by decide +kernel
theorem dX12_ofSuit_41 : decode cX12_ofSuit 41 = .ok (.aload_n 0, 1) := zo_42 zh_cX12_ofSuit_2 1 rfl
theorem dX12_ofSuit_42 : decode cX12_ofSuit 42 = .ok (.getfield 59, 3) := zo_180 zh_cX12_ofSuit_2 2 rfl
theorem dX12_ofSuit_45 : decode cX12_ofSuit 45 = .ok (.iload_n 1, 1) := zo_27 zh_cX12_ofSuit_2 5 rfl
theorem dX12_ofSuit_46 : decode cX12_ofSuit 46 = .ok (.iaload, 1) := zo_46 zh_cX12_ofSuit_2 6 rfl
theorem dX12_ofSuit_47 : decode cX12_ofSuit 47 = .ok (.iadd, 1) := zo_96 zh_cX12_ofSuit_2 7 rfl
theorem dX12_ofSuit_48 : decode cX12_ofSuit 48 = .ok (.invokestatic 147, 3) := zo_184 zh_cX12_ofSuit_2 8 rfl
theorem dX12_ofSuit_51 : decode cX12_ofSuit 51 = .ok (.ifCond .eq 18, 3) := zo_p153 zh_cX12_ofSuit_2 11 18 rfl rfl
theorem dX12_ofSuit_54 : decode cX12_ofSuit 54 = .ok (.aload_n 0, 1) := zo_42 zh_cX12_ofSuit_2 14 rfl
theorem dX12_ofSuit_55 : decode cX12_ofSuit 55 = .ok (.getfield 65, 3) := zo_180 zh_cX12_ofSuit_2 15 rfl
theorem dX12_ofSuit_58 : decode cX12_ofSuit 58 = .ok (.bipush 32, 2) := zo_p16 zh_cX12_ofSuit_2 18 32 rfl rfl
theorem zh_cX12_ofSuit_3 : zck [27, 104, 28, 96, 16, 10, 100, 51, 172, 3, 62, 16, 32, 27, 104, 54, 4, 21, 4, 16, 32, 27] (zdu 60 cX12_ofSuit.data.toList) = true := by decide +kernel
theorem dX12_ofSuit_60 : decode cX12_ofSuit 60 = .ok (.iload_n 1, 1) := zo_27 zh_cX12_ofSuit_3 0 rfl
theorem dX12_ofSuit_61 : decode cX12_ofSuit 61 = .ok (.imul, 1) := zo_104 zh_cX12_ofSuit_3 1 rfl
theorem dX12_ofSuit_62 : decode cX12_ofSuit 62 = .ok (.iload_n 2, 1) := zo_28 zh_cX12_ofSuit_3 2 rfl
theorem dX12_ofSuit_63 : decode cX12_ofSuit 63 = .ok (.iadd, 1) := zo_96 zh_cX12_ofSuit_3 3 rfl
theorem dX12_ofSuit_64 : decode cX12_ofSuit 64 = .ok (.bipush 10, 2) := zo_p16 zh_cX12_ofSuit_3 4 10 rfl rfl
theorem dX12_ofSuit_66 : decode cX12_ofSuit 66 = .ok (.isub, 1) := zo_100 zh_cX12_ofSuit_3 6 rfl
theorem dX12_ofSuit_67 : decode cX12_ofSuit 67 = .ok (.baload, 1) := zo_51 zh_cX12_ofSuit_3 7 rfl
theorem dX12_ofSuit_68 : decode cX12_ofSuit 68 = .ok (.ireturn, 1) := zo_172 zh_cX12_ofSuit_3 8 rfl
theorem dX12_ofSuit_69 : decode cX12_ofSuit 69 = .ok (.iconst 0, 1) := zo_3 zh_cX12_ofSuit_3 9 rfl
theorem dX12_ofSuit_70 : decode cX12_ofSuit 70 = .ok (.istore_n 3, 1) := zo_62 zh_cX12_ofSuit_3 10 rfl
theorem dX12_ofSuit_71 : decode cX12_ofSuit 71 = .ok (.bipush 32, 2) := zo_p16 zh_cX12_ofSuit_3 11 32 rfl rfl
theorem dX12_ofSuit_73 : decode cX12_ofSuit 73 = .ok (.iload_n 1, 1) := zo_27 zh_cX12_ofSuit_3 13 rfl
theorem dX12_ofSuit_74 : decode cX12_ofSuit 74 = .ok (.imul, 1) := zo_104 zh_cX12_ofSuit_3 14 rfl
theorem dX12_ofSuit_75 : decode cX12_ofSuit 75 = .ok (.istore 4, 2) := zo_54 zh_cX12_ofSuit_3 15 rfl
theorem dX12_ofSuit_77 : decode cX12_ofSuit 77 = .ok (.iload 4, 2) := zo_21 zh_cX12_ofSuit_3 17 rfl
theorem dX12_ofSuit_79 : decode cX12_ofSuit 79 = .ok (.bipush 32, 2) := zo_p16 zh_cX12_ofSuit_3 19 32 rfl rfl
theorem zh_cX12_ofSuit_4 : zck [32, 27, 104, 16, 32, 96, 162, 0, 27, 29, 42, 180, 0, 68, 21, 4, 51, 158, 0, 7, 4, 167] (zdu 80 cX12_ofSuit.data.toList) = true := by decide +kernel
theorem dX12_ofSuit_81 : decode cX12_ofSuit 81 = .ok (.iload_n 1, 1) := zo_27 zh_cX12_ofSuit_4 1 rfl
theorem dX12_ofSuit_82 : decode cX12_ofSuit 82 = .ok (.imul, 1) := zo_104 zh_cX12_ofSuit_4 2 rfl
theorem dX12_ofSuit_83 : decode cX12_ofSuit 83 = .ok (.bipush 32, 2) := zo_p16 zh_cX12_ofSuit_4 3 32 rfl rfl
theorem dX12_ofSuit_85 : decode cX12_ofSuit 85 = .ok (.iadd, 1) := zo_96 zh_cX12_ofSuit_4 5 rfl
theorem dX12_ofSuit_86 : decode cX12_ofSuit 86 = .ok (.if_icmp .ge 27, 3) := zo_p162 zh_cX12_ofSuit_4 6 27 rfl rfl
theorem dX12_ofSuit_89 : decode cX12_ofSuit 89 = .ok (.iload_n 3, 1) := zo_29 zh_cX12_ofSuit_4 9 rfl
theorem dX12_ofSuit_90 : decode cX12_ofSuit 90 = .ok (.aload_n 0, 1) := zo_42 zh_cX12_ofSuit_4 10 rfl
theorem dX12_ofSuit_91 : decode cX12_ofSuit 91 = .ok (.getfield 68, 3) := zo_180 zh_cX12_ofSuit_4 11 rfl
theorem dX12_ofSuit_94 : decode cX12_ofSuit 94 = .ok (.iload 4, 2) := zo_21 zh_cX12_ofSuit_4 14 rfl
theorem dX12_ofSuit_96 : decode cX12_ofSuit 96 = .ok (.baload, 1) := zo_51 zh_cX12_ofSuit_4 16 rfl
theorem dX12_ofSuit_97 : decode cX12_ofSuit 97 = .ok (.ifCond .le 7, 3) := zo_p158 zh_cX12_ofSuit_4 17 7 rfl rfl
theorem zh_cX12_ofSuit_5 : zck [4, 167, 0, 4, 3, 96, 62, 132, 4, 1, 167, 255, 223, 28, 170, 0, 0, 0, 0, 107, 0, 0] (zdu 100 cX12_ofSuit.data.toList) = true := by decide +kernel
theorem dX12_ofSuit_100 : decode cX12_ofSuit 100 = .ok (.iconst 1, 1) := zo_4 zh_cX12_ofSuit_5 0 rfl
theorem dX12_ofSuit_101 : decode cX12_ofSuit 101 = .ok (.goto 4, 3) := zo_p167 zh_cX12_ofSuit_5 1 4 rfl rfl
theorem dX12_ofSuit_104 : decode cX12_ofSuit 104 = .ok (.iconst 0, 1) := zo_3 zh_cX12_ofSuit_5 4 rfl
theorem dX12_ofSuit_105 : decode cX12_ofSuit 105 = .ok (.iadd, 1) := zo_96 zh_cX12_ofSuit_5 5 rfl
theorem dX12_ofSuit_106 : decode cX12_ofSuit 106 = .ok (.istore_n 3, 1) := zo_62 zh_cX12_ofSuit_5 6 rfl
theorem dX12_ofSuit_107 : decode cX12_ofSuit 107 = .ok (.iinc 4 1, 3) := zo_p132 zh_cX12_ofSuit_5 7 1 rfl rfl
theorem dX12_ofSuit_110 : decode cX12_ofSuit 110 = .ok (.goto (-33), 3) := zo_n167 zh_cX12_ofSuit_5 10 32 rfl rfl
theorem dX12_ofSuit_113 : decode cX12_ofSuit 113 = .ok (.iload_n 2, 1) := zo_28 zh_cX12_ofSuit_5 13 rfl
theorem dX12_ofSuit_114 : decode cX12_ofSuit 114 = .ok (.tableswitch 107 0 8 #[50, 57, 64, 70, 77, 84, 91, 98, 105], 50) := by decide +kernel
theorem zh_cX12_ofSuit_8 : zck [0, 0, 0, 105, 42, 180, 0, 38, 27, 46, 172, 42, 180, 0, 41, 27, 46, 172, 42, 27, 182, 0] (zdu 160 cX12_ofSuit.data.toList) = true := by decide +kernel
theorem dX12_ofSuit_164 : decode cX12_ofSuit 164 = .ok (.aload_n 0, 1) := zo_42 zh_cX12_ofSuit_8 4 rfl
theorem dX12_ofSuit_165 : decode cX12_ofSuit 165 = .ok (.getfield 38, 3) := zo_180 zh_cX12_ofSuit_8 5 rfl
theorem dX12_ofSuit_168 : decode cX12_ofSuit 168 = .ok (.iload_n 1, 1) := zo_27 zh_cX12_ofSuit_8 8 rfl
theorem dX12_ofSuit_169 : decode cX12_ofSuit 169 = .ok (.iaload, 1) := zo_46 zh_cX12_ofSuit_8 9 rfl
theorem dX12_ofSuit_170 : decode cX12_ofSuit 170 = .ok (.ireturn, 1) := zo_172 zh_cX12_ofSuit_8 10 rfl
theorem dX12_ofSuit_171 : decode cX12_ofSuit 171 = .ok (.aload_n 0, 1) := zo_42 zh_cX12_ofSuit_8 11 rfl
theorem dX12_ofSuit_172 : decode cX12_ofSuit 172 = .ok (.getfield 41, 3) := zo_180 zh_cX12_ofSuit_8 12 rfl
theorem dX12_ofSuit_175 : decode cX12_ofSuit 175 = .ok (.iload_n 1, 1) := zo_27 zh_cX12_ofSuit_8 15 rfl
theorem dX12_ofSuit_176 : decode cX12_ofSuit 176 = .ok (.iaload, 1) := zo_46 zh_cX12_ofSuit_8 16 rfl
theorem dX12_ofSuit_177 : decode cX12_ofSuit 177 = .ok (.ireturn, 1) := zo_172 zh_cX12_ofSuit_8 17 rfl
theorem dX12_ofSuit_178 : decode cX12_ofSuit 178 = .ok (.aload_n 0, 1) := zo_42 zh_cX12_ofSuit_8 18 rfl
theorem dX12_ofSuit_179 : decode cX12_ofSuit 179 = .ok (.iload_n 1, 1) := zo_27 zh_cX12_ofSuit_8 19 rfl
theorem zh_cX12_ofSuit_9 : zck [182, 0, 237, 172, 42, 180, 0, 47, 27, 46, 172, 42, 180, 0, 50, 27, 46, 172, 42, 180, 0, 53] (zdu 180 cX12_ofSuit.data.toList) = true := by decide +kernel
theorem dX12_ofSuit_180 : decode cX12_ofSuit 180 = .ok (.invokevirtual 237, 3) := zo_182 zh_cX12_ofSuit_9 0 rfl
theorem dX12_ofSuit_183 : decode cX12_ofSuit 183 = .ok (.ireturn, 1) := zo_172 zh_cX12_ofSuit_9 3 rfl
theorem dX12_ofSuit_184 : decode cX12_ofSuit 184 = .ok (.aload_n 0, 1) := zo_42 zh_cX12_ofSuit_9 4 rfl
theorem dX12_ofSuit_185 : decode cX12_ofSuit 185 = .ok (.getfield 47, 3) := zo_180 zh_cX12_ofSuit_9 5 rfl
theorem dX12_ofSuit_188 : decode cX12_ofSuit 188 = .ok (.iload_n 1, 1) := zo_27 zh_cX12_ofSuit_9 8 rfl
theorem dX12_ofSuit_189 : decode cX12_ofSuit 189 = .ok (.iaload, 1) := zo_46 zh_cX12_ofSuit_9 9 rfl
theorem dX12_ofSuit_190 : decode cX12_ofSuit 190 = .ok (.ireturn, 1) := zo_172 zh_cX12_ofSuit_9 10 rfl
theorem dX12_ofSuit_191 : decode cX12_ofSuit 191 = .ok (.aload_n 0, 1) := zo_42 zh_cX12_ofSuit_9 11 rfl
theorem dX12_ofSuit_192 : decode cX12_ofSuit 192 = .ok (.getfield 50, 3) := zo_180 zh_cX12_ofSuit_9 12 rfl
theorem dX12_ofSuit_195 : decode cX12_ofSuit 195 = .ok (.iload_n 1, 1) := zo_27 zh_cX12_ofSuit_9 15 rfl
theorem dX12_ofSuit_196 : decode cX12_ofSuit 196 = .ok (.iaload, 1) := zo_46 zh_cX12_ofSuit_9 16 rfl
theorem dX12_ofSuit_197 : decode cX12_ofSuit 197 = .ok (.ireturn, 1) := zo_172 zh_cX12_ofSuit_9 17 rfl
theorem dX12_ofSuit_198 : decode cX12_ofSuit 198 = .ok (.aload_n 0, 1) := zo_42 zh_cX12_ofSuit_9 18 rfl
theorem dX12_ofSuit_199 : decode cX12_ofSuit 199 = .ok (.getfield 53, 3) := zo_180 zh_cX12_ofSuit_9 19 rfl
theorem zh_cX12_ofSuit_10 : zck [0, 53, 27, 46, 172, 42, 180, 0, 56, 27, 46, 172, 42, 180, 0, 59, 27, 46, 172, 29, 172, 2] (zdu 200 cX12_ofSuit.data.toList) = true := by decide +kernel
theorem dX12_ofSuit_202 : decode cX12_ofSuit 202 = .ok (.iload_n 1, 1) := zo_27 zh_cX12_ofSuit_10 2 rfl
theorem dX12_ofSuit_203 : decode cX12_ofSuit 203 = .ok (.iaload, 1) := zo_46 zh_cX12_ofSuit_10 3 rfl
theorem dX12_ofSuit_204 : decode cX12_ofSuit 204 = .ok (.ireturn, 1) := zo_172 zh_cX12_ofSuit_10 4 rfl
theorem dX12_ofSuit_205 : decode cX12_ofSuit 205 = .ok (.aload_n 0, 1) := zo_42 zh_cX12_ofSuit_10 5 rfl
theorem dX12_ofSuit_206 : decode cX12_ofSuit 206 = .ok (.getfield 56, 3) := zo_180 zh_cX12_ofSuit_10 6 rfl
theorem dX12_ofSuit_209 : decode cX12_ofSuit 209 = .ok (.iload_n 1, 1) := zo_27 zh_cX12_ofSuit_10 9 rfl
theorem dX12_ofSuit_210 : decode cX12_ofSuit 210 = .ok (.iaload, 1) := zo_46 zh_cX12_ofSuit_10 10 rfl
theorem dX12_ofSuit_211 : decode cX12_ofSuit 211 = .ok (.ireturn, 1) := zo_172 zh_cX12_ofSuit_10 11 rfl
theorem dX12_ofSuit_212 : decode cX12_ofSuit 212 = .ok (.aload_n 0, 1) := zo_42 zh_cX12_ofSuit_10 12 rfl
theorem dX12_ofSuit_213 : decode cX12_ofSuit 213 = .ok (.getfield 59, 3) := zo_180 zh_cX12_ofSuit_10 13 rfl
theorem dX12_ofSuit_216 : decode cX12_ofSuit 216 = .ok (.iload_n 1, 1) := zo_27 zh_cX12_ofSuit_10 16 rfl
theorem dX12_ofSuit_217 : decode cX12_ofSuit 217 = .ok (.iaload, 1) := zo_46 zh_cX12_ofSuit_10 17 rfl
theorem dX12_ofSuit_218 : decode cX12_ofSuit 218 = .ok (.ireturn, 1) := zo_172 zh_cX12_ofSuit_10 18 rfl
theorem dX12_ofSuit_219 : decode cX12_ofSuit 219 = .ok (.iload_n 3, 1) := zo_29 zh_cX12_ofSuit_10 19 rfl
theorem zh_cX12_ofSuit_11 : zck [172, 2, 172] (zdu 220 cX12_ofSuit.data.toList) = true := by decide +kernel
theorem dX12_ofSuit_220 : decode cX12_ofSuit 220 = .ok (.ireturn, 1) := zo_172 zh_cX12_ofSuit_11 0 rfl
theorem dX12_ofSuit_221 : decode cX12_ofSuit 221 = .ok (.iconst (-1), 1) := zo_2 zh_cX12_ofSuit_11 1 rfl
theorem dX12_ofSuit_222 : decode cX12_ofSuit 222 = .ok (.ireturn, 1) := zo_172 zh_cX12_ofSuit_11 2 rfl
abbrev z_X12_ofSuit : List Cond := .code yX12_ofSuit cX12_ofSuit 5 (some .int) :: zW
abbrev wl_X12_ofSuit (ad : Nat → Nat) (cs : Nat → ClassId)  (mod_code : Int32) (mod_shoes : Int32) (mod_claims : Int32) (mod_taped : Int32) (mod_here : Int32) (mod_fault : Int32) (mod_suits : Int32) (mod_doneMany : Int32) (mod_undoneMany : Int32) (mod_open : Int32) (mod_laid : Int32) (mod_isBoth : Int32) (mod_wished : Int32) (mod_bestMany : Int32) (mod_bestRow : Int32) (mod_ringDigits : Int32) (mod_traces : Int32) (mod_suedBy : Nat → Int32) (mod_suedOn : Nat → Int32) (mod_endKind : Nat → Int32) (mod_isWon : Nat → Int32) (mod_suitDay : Nat → Int32) (mod_suitLand : Nat → Int32) (mod_undoneFrom : Nat → Int32) (mod_askedMany : Nat → Int32) (mod_asked : Nat → Int32) (mod_pointIs : Nat → Int32) : va_W := [((ad 41), .inr (12, [.int mod_code, .int mod_shoes, .ref (ad 42), .ref (ad 43), .ref (ad 44), .ref (ad 45), .int mod_claims, .ref (ad 46), .ref (ad 47), .ref (ad 48), .ref (ad 49), .ref (ad 50), .int mod_taped, .int mod_here, .int mod_fault, .int mod_suits, .ref (ad 51), .ref (ad 52), .ref (ad 53), .ref (ad 54), .ref (ad 55), .ref (ad 56), .ref (ad 57), .ref (ad 58), .ref (ad 59), .ref (ad 60), .ref (ad 61), .int mod_doneMany, .int mod_undoneMany, .ref (ad 62), .ref (ad 63), .ref (ad 64), .ref (ad 65), .int mod_open, .int mod_laid, .ref (ad 66), .ref (ad 67), .ref (ad 68), .ref (ad 69), .ref (ad 70), .ref (ad 71), .ref (ad 72), .ref (ad 73), .ref (ad 74), .ref (ad 75), .int mod_isBoth, .int mod_wished, .ref (ad 76), .ref (ad 77), .int mod_bestMany, .int mod_bestRow, .ref (ad 78), .ref (ad 79), .int mod_ringDigits, .int mod_traces, .ref (ad 80), .ref (ad 81), .ref (ad 82), .ref (ad 83), .ref (ad 84)])), ((ad 51), .inl (cs 0, 45, .inl mod_suedBy)), ((ad 52), .inl (cs 0, 45, .inl mod_suedOn)), ((ad 53), .inl (cs 0, 45, .inl mod_endKind)), ((ad 54), .inl (cs 0, 45, .inl mod_isWon)), ((ad 55), .inl (cs 0, 45, .inl mod_suitDay)), ((ad 56), .inl (cs 0, 45, .inl mod_suitLand)), ((ad 57), .inl (cs 0, 45, .inl mod_undoneFrom)), ((ad 58), .inl (cs 0, 45, .inl mod_askedMany)), ((ad 60), .inl (cs 2, 1440, .inl mod_asked)), ((ad 61), .inl (cs 2, 1440, .inl mod_pointIs))]
def Q_X12_ofSuit (D : va_G) (cs : Nat → ClassId) (ad : Nat → Nat)  (mod_code : Int32) (mod_shoes : Int32) (mod_claims : Int32) (mod_taped : Int32) (mod_here : Int32) (mod_fault : Int32) (mod_suits : Int32) (mod_doneMany : Int32) (mod_undoneMany : Int32) (mod_open : Int32) (mod_laid : Int32) (mod_isBoth : Int32) (mod_wished : Int32) (mod_bestMany : Int32) (mod_bestRow : Int32) (mod_ringDigits : Int32) (mod_traces : Int32) (mod_suedBy : Nat → Int32) (mod_suedOn : Nat → Int32) (mod_endKind : Nat → Int32) (mod_isWon : Nat → Int32) (mod_suitDay : Nat → Int32) (mod_suitLand : Nat → Int32) (mod_undoneFrom : Nat → Int32) (mod_askedMany : Nat → Int32) (mod_asked : Nat → Int32) (mod_pointIs : Nat → Int32) (A : Nat → Prop) (R : Int32 × Unit) : Array Value → State → Outcome → State → Prop :=
  va_Qi (fun (r : Int32) (u : Unit) => (r, u) = R) (fun (u : Unit) (t : State) => va_P D classes (wl_X12_ofSuit ad cs mod_code mod_shoes mod_claims mod_taped mod_here mod_fault mod_suits mod_doneMany mod_undoneMany mod_open mod_laid mod_isBoth mod_wished mod_bestMany mod_bestRow mod_ringDigits mod_traces mod_suedBy mod_suedOn mod_endKind mod_isWon mod_suitDay mod_suitLand mod_undoneFrom mod_askedMany mod_asked mod_pointIs) t.heap ∧ va_D A (wl_X12_ofSuit ad cs mod_code mod_shoes mod_claims mod_taped mod_here mod_fault mod_suits mod_doneMany mod_undoneMany mod_open mod_laid mod_isBoth mod_wished mod_bestMany mod_bestRow mod_ringDigits mod_traces mod_suedBy mod_suedOn mod_endKind mod_isWon mod_suitDay mod_suitLand mod_undoneFrom mod_askedMany mod_asked mod_pointIs)) A
abbrev rm_X12_ofSuit : Room := { frames := 2, cells := 0, slots := 0, locals := 43 }
theorem g_X12_234 : GoodIn zW (wsV RX12 234 RX12 yX12_isSuit z_X12_isSuit) := zGV kw_1579 kw_1581 kw_29 kw_95 kw_1582
theorem g_X12_237 : GoodIn zW (wsV RX12 237 RX12 yX12_bodyKind z_X12_bodyKind) := zGV kw_1583 kw_1585 kw_30 kw_95 kw_1586
theorem hd_X12_bodyKind : yX12_bodyKind.cls ≠ "java/lang/invoke/MethodHandle" ∧ yX12_bodyKind.cls ≠ "java/lang/invoke/VarHandle" ∧ (parseMethodDescriptor yX12_bodyKind.desc).map (fun d => d.parameters.length) = some 1 := by decide +kernel
theorem hd_X12_isSuit : yX12_isSuit.cls ≠ "java/lang/invoke/MethodHandle" ∧ yX12_isSuit.cls ≠ "java/lang/invoke/VarHandle" ∧ (parseMethodDescriptor yX12_isSuit.desc).map (fun d => d.parameters.length) = some 1 := by decide +kernel
def B_X12_ofSuit_105   (g77 : Int32 → Int32 → Int32 → Int32 → (Option (Int32 × Unit))) (mod_code : Int32) (mod_shoes : Int32) (mod_claims : Int32) (mod_taped : Int32) (mod_here : Int32) (mod_fault : Int32) (mod_suits : Int32) (mod_doneMany : Int32) (mod_undoneMany : Int32) (mod_open : Int32) (mod_laid : Int32) (mod_isBoth : Int32) (mod_wished : Int32) (mod_bestMany : Int32) (mod_bestRow : Int32) (mod_ringDigits : Int32) (mod_traces : Int32) (mod_suedBy : Nat → Int32) (mod_suedOn : Nat → Int32) (mod_endKind : Nat → Int32) (mod_isWon : Nat → Int32) (mod_suitDay : Nat → Int32) (mod_suitLand : Nat → Int32) (mod_undoneFrom : Nat → Int32) (mod_askedMany : Nat → Int32) (mod_asked : Nat → Int32) (mod_pointIs : Nat → Int32) (x1 : Int32) (x2 : Int32) (x4 : Int32) (s0 : Int32) (s1 : Int32) : Option (Int32 × Unit) :=
  (zk_let (s1 + s0) (fun v_39 => (zk_let (x4 + (1 : Int32)) (fun v_40 => (g77 x1 x2 v_39 v_40)))))
def B_X12_ofSuit_77   (g77 : Int32 → Int32 → Int32 → Int32 → (Option (Int32 × Unit))) (mod_code : Int32) (mod_shoes : Int32) (mod_claims : Int32) (mod_taped : Int32) (mod_here : Int32) (mod_fault : Int32) (mod_suits : Int32) (mod_doneMany : Int32) (mod_undoneMany : Int32) (mod_open : Int32) (mod_laid : Int32) (mod_isBoth : Int32) (mod_wished : Int32) (mod_bestMany : Int32) (mod_bestRow : Int32) (mod_ringDigits : Int32) (mod_traces : Int32) (mod_suedBy : Nat → Int32) (mod_suedOn : Nat → Int32) (mod_endKind : Nat → Int32) (mod_isWon : Nat → Int32) (mod_suitDay : Nat → Int32) (mod_suitLand : Nat → Int32) (mod_undoneFrom : Nat → Int32) (mod_askedMany : Nat → Int32) (mod_asked : Nat → Int32) (mod_pointIs : Nat → Int32) (x1 : Int32) (x2 : Int32) (x3 : Int32) (x4 : Int32) : Option (Int32 × Unit) :=
  (if (((32 : Int32) * x1) + (32 : Int32)) ≤ x4 then (if x2 = (0 : Int32) then (if (x1 < 0 ∨ 45 ≤ x1.toNatClampNeg) then none else (some (mod_suedBy x1.toNatClampNeg, ()))) else (if x2 = (1 : Int32) then (if (x1 < 0 ∨ 45 ≤ x1.toNatClampNeg) then none else (some (mod_suedOn x1.toNatClampNeg, ()))) else (if x2 = (2 : Int32) then (zk_b2 (f_X12_bodyKind x1 mod_code mod_shoes mod_claims mod_taped mod_here mod_fault mod_suits mod_doneMany mod_undoneMany mod_open mod_laid mod_isBoth mod_wished mod_bestMany mod_bestRow mod_ringDigits mod_traces mod_endKind mod_undoneFrom) (fun r_20 u_21 => (some (r_20, ())))) else (if x2 = (3 : Int32) then (if (x1 < 0 ∨ 45 ≤ x1.toNatClampNeg) then none else (some (mod_isWon x1.toNatClampNeg, ()))) else (if x2 = (4 : Int32) then (if (x1 < 0 ∨ 45 ≤ x1.toNatClampNeg) then none else (some (mod_suitDay x1.toNatClampNeg, ()))) else (if x2 = (5 : Int32) then (if (x1 < 0 ∨ 45 ≤ x1.toNatClampNeg) then none else (some (mod_suitLand x1.toNatClampNeg, ()))) else (if x2 = (6 : Int32) then (if (x1 < 0 ∨ 45 ≤ x1.toNatClampNeg) then none else (some (mod_undoneFrom x1.toNatClampNeg, ()))) else (if x2 = (7 : Int32) then (if (x1 < 0 ∨ 45 ≤ x1.toNatClampNeg) then none else (some (mod_askedMany x1.toNatClampNeg, ()))) else (if x2 = (8 : Int32) then (some (x3, ())) else (some ((-1 : Int32), ()))))))))))) else (if (x4 < 0 ∨ 1440 ≤ x4.toNatClampNeg) then none else (if (mod_pointIs x4.toNatClampNeg) ≤ 0 then (B_X12_ofSuit_105 g77 mod_code mod_shoes mod_claims mod_taped mod_here mod_fault mod_suits mod_doneMany mod_undoneMany mod_open mod_laid mod_isBoth mod_wished mod_bestMany mod_bestRow mod_ringDigits mod_traces mod_suedBy mod_suedOn mod_endKind mod_isWon mod_suitDay mod_suitLand mod_undoneFrom mod_askedMany mod_asked mod_pointIs x1 x2 x4 (0 : Int32) x3) else (B_X12_ofSuit_105 g77 mod_code mod_shoes mod_claims mod_taped mod_here mod_fault mod_suits mod_doneMany mod_undoneMany mod_open mod_laid mod_isBoth mod_wished mod_bestMany mod_bestRow mod_ringDigits mod_traces mod_suedBy mod_suedOn mod_endKind mod_isWon mod_suitDay mod_suitLand mod_undoneFrom mod_askedMany mod_asked mod_pointIs x1 x2 x4 (1 : Int32) x3))))
def B_X12_ofSuit_0   (g77 : Int32 → Int32 → Int32 → Int32 → (Option (Int32 × Unit))) (mod_code : Int32) (mod_shoes : Int32) (mod_claims : Int32) (mod_taped : Int32) (mod_here : Int32) (mod_fault : Int32) (mod_suits : Int32) (mod_doneMany : Int32) (mod_undoneMany : Int32) (mod_open : Int32) (mod_laid : Int32) (mod_isBoth : Int32) (mod_wished : Int32) (mod_bestMany : Int32) (mod_bestRow : Int32) (mod_ringDigits : Int32) (mod_traces : Int32) (mod_suedBy : Nat → Int32) (mod_suedOn : Nat → Int32) (mod_endKind : Nat → Int32) (mod_isWon : Nat → Int32) (mod_suitDay : Nat → Int32) (mod_suitLand : Nat → Int32) (mod_undoneFrom : Nat → Int32) (mod_askedMany : Nat → Int32) (mod_asked : Nat → Int32) (mod_pointIs : Nat → Int32) (x1 : Int32) (x2 : Int32) : Option (Int32 × Unit) :=
  (zk_b2 (f_X12_isSuit x1 mod_code mod_shoes mod_claims mod_taped mod_here mod_fault mod_suits mod_doneMany mod_undoneMany mod_open mod_laid mod_isBoth mod_wished mod_bestMany mod_bestRow mod_ringDigits mod_traces) (fun r_1 u_2 => (if r_1 = 0 then (some ((-1 : Int32), ())) else (zk_b2 (f_X12_in x2 (50 : Int32) (81 : Int32)) (fun r_5 u_6 => (if r_5 = 0 then (if (x1 < 0 ∨ 45 ≤ x1.toNatClampNeg) then none else (zk_b2 (f_X12_in x2 (10 : Int32) ((9 : Int32) + (mod_askedMany x1.toNatClampNeg))) (fun r_10 u_11 => (if r_10 = 0 then (zk_let ((32 : Int32) * x1) (fun v_14 => (g77 x1 x2 (0 : Int32) v_14))) else (if (((((32 : Int32) * x1) + x2) - (10 : Int32)) < 0 ∨ 1440 ≤ ((((32 : Int32) * x1) + x2) - (10 : Int32)).toNatClampNeg) then none else (some (mod_asked ((((32 : Int32) * x1) + x2) - (10 : Int32)).toNatClampNeg, ()))))))) else (if (((((32 : Int32) * x1) + x2) - (50 : Int32)) < 0 ∨ 1440 ≤ ((((32 : Int32) * x1) + x2) - (50 : Int32)).toNatClampNeg) then none else (some (mod_pointIs ((((32 : Int32) * x1) + x2) - (50 : Int32)).toNatClampNeg, ())))))))))
def G_X12_ofSuit   (mod_code : Int32) (mod_shoes : Int32) (mod_claims : Int32) (mod_taped : Int32) (mod_here : Int32) (mod_fault : Int32) (mod_suits : Int32) (mod_doneMany : Int32) (mod_undoneMany : Int32) (mod_open : Int32) (mod_laid : Int32) (mod_isBoth : Int32) (mod_wished : Int32) (mod_bestMany : Int32) (mod_bestRow : Int32) (mod_ringDigits : Int32) (mod_traces : Int32) (mod_suedBy : Nat → Int32) (mod_suedOn : Nat → Int32) (mod_endKind : Nat → Int32) (mod_isWon : Nat → Int32) (mod_suitDay : Nat → Int32) (mod_suitLand : Nat → Int32) (mod_undoneFrom : Nat → Int32) (mod_askedMany : Nat → Int32) (mod_asked : Nat → Int32) (mod_pointIs : Nat → Int32) (n : Nat) : (Int32 → Int32 → Int32 → Int32 → (Option (Int32 × Unit))) :=
  Nat.rec (motive := fun _ => (Int32 → Int32 → Int32 → Int32 → (Option (Int32 × Unit)))) ((fun _ _ _ _ => none)) (fun _ ih => (B_X12_ofSuit_77   ih mod_code mod_shoes mod_claims mod_taped mod_here mod_fault mod_suits mod_doneMany mod_undoneMany mod_open mod_laid mod_isBoth mod_wished mod_bestMany mod_bestRow mod_ringDigits mod_traces mod_suedBy mod_suedOn mod_endKind mod_isWon mod_suitDay mod_suitLand mod_undoneFrom mod_askedMany mod_asked mod_pointIs)) n
def f_X12_ofSuit   (n : Nat) (x1 : Int32) (x2 : Int32) (mod_code : Int32) (mod_shoes : Int32) (mod_claims : Int32) (mod_taped : Int32) (mod_here : Int32) (mod_fault : Int32) (mod_suits : Int32) (mod_doneMany : Int32) (mod_undoneMany : Int32) (mod_open : Int32) (mod_laid : Int32) (mod_isBoth : Int32) (mod_wished : Int32) (mod_bestMany : Int32) (mod_bestRow : Int32) (mod_ringDigits : Int32) (mod_traces : Int32) (mod_suedBy : Nat → Int32) (mod_suedOn : Nat → Int32) (mod_endKind : Nat → Int32) (mod_isWon : Nat → Int32) (mod_suitDay : Nat → Int32) (mod_suitLand : Nat → Int32) (mod_undoneFrom : Nat → Int32) (mod_askedMany : Nat → Int32) (mod_asked : Nat → Int32) (mod_pointIs : Nat → Int32) : Option (Int32 × Unit) := B_X12_ofSuit_0   ((G_X12_ofSuit   mod_code mod_shoes mod_claims mod_taped mod_here mod_fault mod_suits mod_doneMany mod_undoneMany mod_open mod_laid mod_isBoth mod_wished mod_bestMany mod_bestRow mod_ringDigits mod_traces mod_suedBy mod_suedOn mod_endKind mod_isWon mod_suitDay mod_suitLand mod_undoneFrom mod_askedMany mod_asked mod_pointIs n)) mod_code mod_shoes mod_claims mod_taped mod_here mod_fault mod_suits mod_doneMany mod_undoneMany mod_open mod_laid mod_isBoth mod_wished mod_bestMany mod_bestRow mod_ringDigits mod_traces mod_suedBy mod_suedOn mod_endKind mod_isWon mod_suitDay mod_suitLand mod_undoneFrom mod_askedMany mod_asked mod_pointIs x1 x2 
set_option maxHeartbeats 4000000 in
set_option maxRecDepth 100000 in
theorem L_X12_ofSuit_105 {p : Program} {l : Launch} {e : Env} {s : State} {m : MethodId} {args : Array Value} {below : List Frame} {meth : Method} {c : Code} {A : Nat → Prop} {D : va_G} {cs : Nat → ClassId} {ad : Nat → Nat} {mod_code : Int32} {mod_shoes : Int32} {mod_claims : Int32} {mod_taped : Int32} {mod_here : Int32} {mod_fault : Int32} {mod_suits : Int32} {mod_doneMany : Int32} {mod_undoneMany : Int32} {mod_open : Int32} {mod_laid : Int32} {mod_isBoth : Int32} {mod_wished : Int32} {mod_bestMany : Int32} {mod_bestRow : Int32} {mod_ringDigits : Int32} {mod_traces : Int32} {mod_suedBy : Nat → Int32} {mod_suedOn : Nat → Int32} {mod_endKind : Nat → Int32} {mod_isWon : Nat → Int32} {mod_suitDay : Nat → Int32} {mod_suitLand : Nat → Int32} {mod_undoneFrom : Nat → Int32} {mod_askedMany : Nat → Int32} {mod_asked : Nat → Int32} {mod_pointIs : Nat → Int32} {R : Int32 × Unit} {g77 : Int32 → Int32 → Int32 → Int32 → (Option (Int32 × Unit))} (C0 : zC p s m args meth c cX12_ofSuit 5 (some .int) RX12 zW) (hK : va_K D classes (zT cs) s) (hA : ∀ q : Nat, s.heap.size ≤ q → A q) (ih77 : ∀ (x1 : Int32) (x2 : Int32) (x3 : Int32) (x4 : Int32) (h : g77 x1 x2 x3 x4 = some R) (H : Heap) (locs : List Loc) (ls : Array Slot) (hP : va_P D classes (wl_X12_ofSuit ad cs mod_code mod_shoes mod_claims mod_taped mod_here mod_fault mod_suits mod_doneMany mod_undoneMany mod_open mod_laid mod_isBoth mod_wished mod_bestMany mod_bestRow mod_ringDigits mod_traces mod_suedBy mod_suedOn mod_endKind mod_isWon mod_suitDay mod_suitLand mod_undoneFrom mod_askedMany mod_asked mod_pointIs) H) (hD : va_D A (wl_X12_ofSuit ad cs mod_code mod_shoes mod_claims mod_taped mod_here mod_fault mod_suits mod_doneMany mod_undoneMany mod_open mod_laid mod_isBoth mod_wished mod_bestMany mod_bestRow mod_ringDigits mod_traces mod_suedBy mod_suedOn mod_endKind mod_isWon mod_suitDay mod_suitLand mod_undoneFrom mod_askedMany mod_asked mod_pointIs)) (hS : va_S A s.heap H locs) (hl : lv_has ls 5 [(0, .ref (ad 41)), (1, .int x1), (2, .int x2), (3, .int x3), (4, .int x4)]), W p l e rm_X12_ofSuit s m args below meth c H locs 0 0 (MQ below (Q_X12_ofSuit D cs ad mod_code mod_shoes mod_claims mod_taped mod_here mod_fault mod_suits mod_doneMany mod_undoneMany mod_open mod_laid mod_isBoth mod_wished mod_bestMany mod_bestRow mod_ringDigits mod_traces mod_suedBy mod_suedOn mod_endKind mod_isWon mod_suitDay mod_suitLand mod_undoneFrom mod_askedMany mod_asked mod_pointIs A R) args s 0 0 A) (F0 m 77 ls [])) (x1 : Int32) (x2 : Int32) (x4 : Int32) (s0 : Int32) (s1 : Int32) (h : B_X12_ofSuit_105 g77 mod_code mod_shoes mod_claims mod_taped mod_here mod_fault mod_suits mod_doneMany mod_undoneMany mod_open mod_laid mod_isBoth mod_wished mod_bestMany mod_bestRow mod_ringDigits mod_traces mod_suedBy mod_suedOn mod_endKind mod_isWon mod_suitDay mod_suitLand mod_undoneFrom mod_askedMany mod_asked mod_pointIs x1 x2 x4 s0 s1 = some R) (H : Heap) (locs : List Loc) (ls : Array Slot) (hP : va_P D classes (wl_X12_ofSuit ad cs mod_code mod_shoes mod_claims mod_taped mod_here mod_fault mod_suits mod_doneMany mod_undoneMany mod_open mod_laid mod_isBoth mod_wished mod_bestMany mod_bestRow mod_ringDigits mod_traces mod_suedBy mod_suedOn mod_endKind mod_isWon mod_suitDay mod_suitLand mod_undoneFrom mod_askedMany mod_asked mod_pointIs) H) (hD : va_D A (wl_X12_ofSuit ad cs mod_code mod_shoes mod_claims mod_taped mod_here mod_fault mod_suits mod_doneMany mod_undoneMany mod_open mod_laid mod_isBoth mod_wished mod_bestMany mod_bestRow mod_ringDigits mod_traces mod_suedBy mod_suedOn mod_endKind mod_isWon mod_suitDay mod_suitLand mod_undoneFrom mod_askedMany mod_asked mod_pointIs)) (hS : va_S A s.heap H locs) (hl : lv_has ls 5 [(0, .ref (ad 41)), (1, .int x1), (2, .int x2), (4, .int x4)]) : W p l e rm_X12_ofSuit s m args below meth c H locs 0 0 (MQ below (Q_X12_ofSuit D cs ad mod_code mod_shoes mod_claims mod_taped mod_here mod_fault mod_suits mod_doneMany mod_undoneMany mod_open mod_laid mod_isBoth mod_wished mod_bestMany mod_bestRow mod_ringDigits mod_traces mod_suedBy mod_suedOn mod_endKind mod_isWon mod_suitDay mod_suitLand mod_undoneFrom mod_askedMany mod_asked mod_pointIs A R) args s 0 0 A) (F0 m 105 ls [.int s0, .int s1]) := by
  obtain ⟨hx, hb, hr, hml, hown, ht, hlocks⟩ := id C0
  refine lv_iadd hx hb dX12_ofSuit_105 ?_
  obtain ⟨v_39, ev_39, h⟩ := zk_lt h
  refine W.eq (g2 := F0 m 106 ls [.int v_39]) (by rw [ev_39]) ?_
  refine lv_istore_n (lv' := [(3, .int v_39), (0, .ref (ad 41)), (1, .int x1), (2, .int x2), (4, .int x4)]) hx hb dX12_ofSuit_106 rfl hl (by decide) rfl (fun ls hl => ?_)
  obtain ⟨v_40, ev_40, h⟩ := zk_lt h
  refine lv_iinc (v := v_40) (lv' := [(4, .int v_40), (3, .int v_39), (0, .ref (ad 41)), (1, .int x1), (2, .int x2)]) hx hb dX12_ofSuit_107 hl (k := 4) rfl (by rw [ev_40]; rfl) (by decide) rfl (fun ls hl => ?_)
  refine lv_goto (tgt := 77) hx hb dX12_ofSuit_110 (by decide) ?_
  exact ih77 x1 x2 v_39 v_40 h H locs ls hP hD hS (lv_sub hl [2, 3, 4, 1, 0] rfl)
set_option maxHeartbeats 4000000 in
set_option maxRecDepth 100000 in
theorem L_X12_ofSuit_77 {p : Program} {l : Launch} {e : Env} {s : State} {m : MethodId} {args : Array Value} {below : List Frame} {meth : Method} {c : Code} {A : Nat → Prop} {D : va_G} {cs : Nat → ClassId} {ad : Nat → Nat} {mod_code : Int32} {mod_shoes : Int32} {mod_claims : Int32} {mod_taped : Int32} {mod_here : Int32} {mod_fault : Int32} {mod_suits : Int32} {mod_doneMany : Int32} {mod_undoneMany : Int32} {mod_open : Int32} {mod_laid : Int32} {mod_isBoth : Int32} {mod_wished : Int32} {mod_bestMany : Int32} {mod_bestRow : Int32} {mod_ringDigits : Int32} {mod_traces : Int32} {mod_suedBy : Nat → Int32} {mod_suedOn : Nat → Int32} {mod_endKind : Nat → Int32} {mod_isWon : Nat → Int32} {mod_suitDay : Nat → Int32} {mod_suitLand : Nat → Int32} {mod_undoneFrom : Nat → Int32} {mod_askedMany : Nat → Int32} {mod_asked : Nat → Int32} {mod_pointIs : Nat → Int32} {R : Int32 × Unit} {g77 : Int32 → Int32 → Int32 → Int32 → (Option (Int32 × Unit))} (C0 : zC p s m args meth c cX12_ofSuit 5 (some .int) RX12 zW) (hK : va_K D classes (zT cs) s) (hA : ∀ q : Nat, s.heap.size ≤ q → A q) (ih77 : ∀ (x1 : Int32) (x2 : Int32) (x3 : Int32) (x4 : Int32) (h : g77 x1 x2 x3 x4 = some R) (H : Heap) (locs : List Loc) (ls : Array Slot) (hP : va_P D classes (wl_X12_ofSuit ad cs mod_code mod_shoes mod_claims mod_taped mod_here mod_fault mod_suits mod_doneMany mod_undoneMany mod_open mod_laid mod_isBoth mod_wished mod_bestMany mod_bestRow mod_ringDigits mod_traces mod_suedBy mod_suedOn mod_endKind mod_isWon mod_suitDay mod_suitLand mod_undoneFrom mod_askedMany mod_asked mod_pointIs) H) (hD : va_D A (wl_X12_ofSuit ad cs mod_code mod_shoes mod_claims mod_taped mod_here mod_fault mod_suits mod_doneMany mod_undoneMany mod_open mod_laid mod_isBoth mod_wished mod_bestMany mod_bestRow mod_ringDigits mod_traces mod_suedBy mod_suedOn mod_endKind mod_isWon mod_suitDay mod_suitLand mod_undoneFrom mod_askedMany mod_asked mod_pointIs)) (hS : va_S A s.heap H locs) (hl : lv_has ls 5 [(0, .ref (ad 41)), (1, .int x1), (2, .int x2), (3, .int x3), (4, .int x4)]), W p l e rm_X12_ofSuit s m args below meth c H locs 0 0 (MQ below (Q_X12_ofSuit D cs ad mod_code mod_shoes mod_claims mod_taped mod_here mod_fault mod_suits mod_doneMany mod_undoneMany mod_open mod_laid mod_isBoth mod_wished mod_bestMany mod_bestRow mod_ringDigits mod_traces mod_suedBy mod_suedOn mod_endKind mod_isWon mod_suitDay mod_suitLand mod_undoneFrom mod_askedMany mod_asked mod_pointIs A R) args s 0 0 A) (F0 m 77 ls [])) (x1 : Int32) (x2 : Int32) (x3 : Int32) (x4 : Int32) (h : B_X12_ofSuit_77 g77 mod_code mod_shoes mod_claims mod_taped mod_here mod_fault mod_suits mod_doneMany mod_undoneMany mod_open mod_laid mod_isBoth mod_wished mod_bestMany mod_bestRow mod_ringDigits mod_traces mod_suedBy mod_suedOn mod_endKind mod_isWon mod_suitDay mod_suitLand mod_undoneFrom mod_askedMany mod_asked mod_pointIs x1 x2 x3 x4 = some R) (H : Heap) (locs : List Loc) (ls : Array Slot) (hP : va_P D classes (wl_X12_ofSuit ad cs mod_code mod_shoes mod_claims mod_taped mod_here mod_fault mod_suits mod_doneMany mod_undoneMany mod_open mod_laid mod_isBoth mod_wished mod_bestMany mod_bestRow mod_ringDigits mod_traces mod_suedBy mod_suedOn mod_endKind mod_isWon mod_suitDay mod_suitLand mod_undoneFrom mod_askedMany mod_asked mod_pointIs) H) (hD : va_D A (wl_X12_ofSuit ad cs mod_code mod_shoes mod_claims mod_taped mod_here mod_fault mod_suits mod_doneMany mod_undoneMany mod_open mod_laid mod_isBoth mod_wished mod_bestMany mod_bestRow mod_ringDigits mod_traces mod_suedBy mod_suedOn mod_endKind mod_isWon mod_suitDay mod_suitLand mod_undoneFrom mod_askedMany mod_asked mod_pointIs)) (hS : va_S A s.heap H locs) (hl : lv_has ls 5 [(0, .ref (ad 41)), (1, .int x1), (2, .int x2), (3, .int x3), (4, .int x4)]) : W p l e rm_X12_ofSuit s m args below meth c H locs 0 0 (MQ below (Q_X12_ofSuit D cs ad mod_code mod_shoes mod_claims mod_taped mod_here mod_fault mod_suits mod_doneMany mod_undoneMany mod_open mod_laid mod_isBoth mod_wished mod_bestMany mod_bestRow mod_ringDigits mod_traces mod_suedBy mod_suedOn mod_endKind mod_isWon mod_suitDay mod_suitLand mod_undoneFrom mod_askedMany mod_asked mod_pointIs A R) args s 0 0 A) (F0 m 77 ls []) := by
  obtain ⟨hx, hb, hr, hml, hown, ht, hlocks⟩ := id C0
  refine lv_iload hx hb dX12_ofSuit_77 (lv_at hl 4 rfl) ?_
  refine lv_bipush (v := (32 : Int32)) hx hb dX12_ofSuit_79 (by decide) ?_
  refine lv_iload_n hx hb dX12_ofSuit_81 rfl (lv_at hl 1 rfl) ?_
  refine lv_imul hx hb dX12_ofSuit_82 ?_
  refine lv_bipush (v := (32 : Int32)) hx hb dX12_ofSuit_83 (by decide) ?_
  refine lv_iadd hx hb dX12_ofSuit_85 ?_
  refine lv_icmp_ge (tgt := 113) hx hb dX12_ofSuit_86 (by decide) (fun c_17 => ?_) (fun c_17 => ?_)
  · have h := zk_t c_17 h
    refine lv_iload_n hx hb dX12_ofSuit_113 rfl (lv_at hl 2 rfl) ?_
    by_cases c_28 : x2 = (0 : Int32)
    · have h := zk_t c_28 h
      refine lv_tableIn (tgt := 164) hx hb dX12_ofSuit_114 (by rw [c_28]; decide) (by rw [c_28]; decide) (by rw [c_28]; rfl) (by decide) ?_
      refine lv_aload_n hx hb dX12_ofSuit_164 rfl (lv_at hl 0 rfl) ?_
      refine va_get (D := D) (ci := 12) (v := .ref (ad 51)) (C := RX12) (T := TX12) (N := 60) hx hb ht iX12 hown hK hP 0 rfl rfl 16 (by decide) (ht _ kw_1311) (fun _ h9 => h9) rfl dX12_ofSuit_165 ?_
      refine lv_iload_n hx hb dX12_ofSuit_168 rfl (lv_at hl 1 rfl) ?_
      obtain ⟨g_18, h⟩ := zk_gd h
      refine va_iald hx hb hK hP 1 0 rfl rfl g_18 dX12_ofSuit_169 ?_
      exact W.iret (v := mod_suedBy x1.toNatClampNeg) hx hb hr (fun t ht2 hW => ⟨⟨mod_suedBy x1.toNatClampNeg, (), rfl, Option.some.inj h, by rw [ht2]; exact hP, hD⟩, hS.F ht2⟩) hS.2.2 dX12_ofSuit_170 hlocks
    · have h := zk_f c_28 h
      by_cases c_29 : x2 = (1 : Int32)
      · have h := zk_t c_29 h
        refine lv_tableIn (tgt := 171) hx hb dX12_ofSuit_114 (by rw [c_29]; decide) (by rw [c_29]; decide) (by rw [c_29]; rfl) (by decide) ?_
        refine lv_aload_n hx hb dX12_ofSuit_171 rfl (lv_at hl 0 rfl) ?_
        refine va_get (D := D) (ci := 12) (v := .ref (ad 52)) (C := RX12) (T := TX12) (N := 60) hx hb ht iX12 hown hK hP 0 rfl rfl 17 (by decide) (ht _ kw_1312) (fun _ h9 => h9) rfl dX12_ofSuit_172 ?_
        refine lv_iload_n hx hb dX12_ofSuit_175 rfl (lv_at hl 1 rfl) ?_
        obtain ⟨g_19, h⟩ := zk_gd h
        refine va_iald hx hb hK hP 2 0 rfl rfl g_19 dX12_ofSuit_176 ?_
        exact W.iret (v := mod_suedOn x1.toNatClampNeg) hx hb hr (fun t ht2 hW => ⟨⟨mod_suedOn x1.toNatClampNeg, (), rfl, Option.some.inj h, by rw [ht2]; exact hP, hD⟩, hS.F ht2⟩) hS.2.2 dX12_ofSuit_177 hlocks
      · have h := zk_f c_29 h
        by_cases c_30 : x2 = (2 : Int32)
        · have h := zk_t c_30 h
          refine lv_tableIn (tgt := 178) hx hb dX12_ofSuit_114 (by rw [c_30]; decide) (by rw [c_30]; decide) (by rw [c_30]; rfl) (by decide) ?_
          refine lv_aload_n hx hb dX12_ofSuit_178 rfl (lv_at hl 0 rfl) ?_
          refine lv_iload_n hx hb dX12_ofSuit_179 rfl (lv_at hl 1 rfl) ?_
          obtain ⟨r_20, u_21, hc_22, h⟩ := zk_o2 h
          refine zz_vi (post := (fun r u => (r, u) = (r_20, u_21))) (w1 := fun u => (wl_X12_bodyKind ad cs mod_code mod_shoes mod_claims mod_taped mod_here mod_fault mod_suits mod_doneMany mod_undoneMany mod_open mod_laid mod_isBoth mod_wished mod_bestMany mod_bestRow mod_ringDigits mod_traces mod_endKind mod_undoneFrom)) (As := [.int x1]) (rest := []) (c_X12_bodyKind l D cs ad  H.size x1 mod_code mod_shoes mod_claims mod_taped mod_here mod_fault mod_suits mod_doneMany mod_undoneMany mod_open mod_laid mod_isBoth mod_wished mod_bestMany mod_bestRow mod_ringDigits mod_traces mod_endKind mod_undoneFrom (r_20, u_21) hc_22) ⟨hx, hb, hml, hown, ht⟩ (cwV 1 ht g_X12_237 rfl rfl rfl ⟨rfl, hd_X12_bodyKind⟩ ⟨Nat.le_of_ble_eq_true rfl, Nat.le_of_ble_eq_true rfl⟩) (va_recv hK hP (ci := 12) (q0 := 0) rfl rfl) hP hD hS hK hA [0, 3, 7] rfl rfl [(ad 41), (ad 53), (ad 57)] rfl (fun _ => rfl) rfl hl.1 (Nat.le_of_ble_eq_true rfl) dX12_ofSuit_180 ⟨Nat.zero_le _, Nat.zero_le _⟩ (fun r u H locs hq hP hS => ?_)
          cases hq
          have hP : va_P D classes (wl_X12_ofSuit ad cs mod_code mod_shoes mod_claims mod_taped mod_here mod_fault mod_suits mod_doneMany mod_undoneMany mod_open mod_laid mod_isBoth mod_wished mod_bestMany mod_bestRow mod_ringDigits mod_traces mod_suedBy mod_suedOn mod_endKind mod_isWon mod_suitDay mod_suitLand mod_undoneFrom mod_askedMany mod_asked mod_pointIs) H := hP
          have hD : va_D A (wl_X12_ofSuit ad cs mod_code mod_shoes mod_claims mod_taped mod_here mod_fault mod_suits mod_doneMany mod_undoneMany mod_open mod_laid mod_isBoth mod_wished mod_bestMany mod_bestRow mod_ringDigits mod_traces mod_suedBy mod_suedOn mod_endKind mod_isWon mod_suitDay mod_suitLand mod_undoneFrom mod_askedMany mod_asked mod_pointIs) := zDk hD [(ad 41), (ad 51), (ad 52), (ad 53), (ad 54), (ad 55), (ad 56), (ad 57), (ad 58), (ad 60), (ad 61)] rfl rfl
          exact W.iret (v := r_20) hx hb hr (fun t ht2 hW => ⟨⟨r_20, (), rfl, Option.some.inj h, by rw [ht2]; exact hP, hD⟩, hS.F ht2⟩) hS.2.2 dX12_ofSuit_183 hlocks
        · have h := zk_f c_30 h
          by_cases c_31 : x2 = (3 : Int32)
          · have h := zk_t c_31 h
            refine lv_tableIn (tgt := 184) hx hb dX12_ofSuit_114 (by rw [c_31]; decide) (by rw [c_31]; decide) (by rw [c_31]; rfl) (by decide) ?_
            refine lv_aload_n hx hb dX12_ofSuit_184 rfl (lv_at hl 0 rfl) ?_
            refine va_get (D := D) (ci := 12) (v := .ref (ad 54)) (C := RX12) (T := TX12) (N := 60) hx hb ht iX12 hown hK hP 0 rfl rfl 19 (by decide) (ht _ kw_1314) (fun _ h9 => h9) rfl dX12_ofSuit_185 ?_
            refine lv_iload_n hx hb dX12_ofSuit_188 rfl (lv_at hl 1 rfl) ?_
            obtain ⟨g_23, h⟩ := zk_gd h
            refine va_iald hx hb hK hP 4 0 rfl rfl g_23 dX12_ofSuit_189 ?_
            exact W.iret (v := mod_isWon x1.toNatClampNeg) hx hb hr (fun t ht2 hW => ⟨⟨mod_isWon x1.toNatClampNeg, (), rfl, Option.some.inj h, by rw [ht2]; exact hP, hD⟩, hS.F ht2⟩) hS.2.2 dX12_ofSuit_190 hlocks
          · have h := zk_f c_31 h
            by_cases c_32 : x2 = (4 : Int32)
            · have h := zk_t c_32 h
              refine lv_tableIn (tgt := 191) hx hb dX12_ofSuit_114 (by rw [c_32]; decide) (by rw [c_32]; decide) (by rw [c_32]; rfl) (by decide) ?_
              refine lv_aload_n hx hb dX12_ofSuit_191 rfl (lv_at hl 0 rfl) ?_
              refine va_get (D := D) (ci := 12) (v := .ref (ad 55)) (C := RX12) (T := TX12) (N := 60) hx hb ht iX12 hown hK hP 0 rfl rfl 20 (by decide) (ht _ kw_1315) (fun _ h9 => h9) rfl dX12_ofSuit_192 ?_
              refine lv_iload_n hx hb dX12_ofSuit_195 rfl (lv_at hl 1 rfl) ?_
              obtain ⟨g_24, h⟩ := zk_gd h
              refine va_iald hx hb hK hP 5 0 rfl rfl g_24 dX12_ofSuit_196 ?_
              exact W.iret (v := mod_suitDay x1.toNatClampNeg) hx hb hr (fun t ht2 hW => ⟨⟨mod_suitDay x1.toNatClampNeg, (), rfl, Option.some.inj h, by rw [ht2]; exact hP, hD⟩, hS.F ht2⟩) hS.2.2 dX12_ofSuit_197 hlocks
            · have h := zk_f c_32 h
              by_cases c_33 : x2 = (5 : Int32)
              · have h := zk_t c_33 h
                refine lv_tableIn (tgt := 198) hx hb dX12_ofSuit_114 (by rw [c_33]; decide) (by rw [c_33]; decide) (by rw [c_33]; rfl) (by decide) ?_
                refine lv_aload_n hx hb dX12_ofSuit_198 rfl (lv_at hl 0 rfl) ?_
                refine va_get (D := D) (ci := 12) (v := .ref (ad 56)) (C := RX12) (T := TX12) (N := 60) hx hb ht iX12 hown hK hP 0 rfl rfl 21 (by decide) (ht _ kw_1316) (fun _ h9 => h9) rfl dX12_ofSuit_199 ?_
                refine lv_iload_n hx hb dX12_ofSuit_202 rfl (lv_at hl 1 rfl) ?_
                obtain ⟨g_25, h⟩ := zk_gd h
                refine va_iald hx hb hK hP 6 0 rfl rfl g_25 dX12_ofSuit_203 ?_
                exact W.iret (v := mod_suitLand x1.toNatClampNeg) hx hb hr (fun t ht2 hW => ⟨⟨mod_suitLand x1.toNatClampNeg, (), rfl, Option.some.inj h, by rw [ht2]; exact hP, hD⟩, hS.F ht2⟩) hS.2.2 dX12_ofSuit_204 hlocks
              · have h := zk_f c_33 h
                by_cases c_34 : x2 = (6 : Int32)
                · have h := zk_t c_34 h
                  refine lv_tableIn (tgt := 205) hx hb dX12_ofSuit_114 (by rw [c_34]; decide) (by rw [c_34]; decide) (by rw [c_34]; rfl) (by decide) ?_
                  refine lv_aload_n hx hb dX12_ofSuit_205 rfl (lv_at hl 0 rfl) ?_
                  refine va_get (D := D) (ci := 12) (v := .ref (ad 57)) (C := RX12) (T := TX12) (N := 60) hx hb ht iX12 hown hK hP 0 rfl rfl 22 (by decide) (ht _ kw_1317) (fun _ h9 => h9) rfl dX12_ofSuit_206 ?_
                  refine lv_iload_n hx hb dX12_ofSuit_209 rfl (lv_at hl 1 rfl) ?_
                  obtain ⟨g_26, h⟩ := zk_gd h
                  refine va_iald hx hb hK hP 7 0 rfl rfl g_26 dX12_ofSuit_210 ?_
                  exact W.iret (v := mod_undoneFrom x1.toNatClampNeg) hx hb hr (fun t ht2 hW => ⟨⟨mod_undoneFrom x1.toNatClampNeg, (), rfl, Option.some.inj h, by rw [ht2]; exact hP, hD⟩, hS.F ht2⟩) hS.2.2 dX12_ofSuit_211 hlocks
                · have h := zk_f c_34 h
                  by_cases c_35 : x2 = (7 : Int32)
                  · have h := zk_t c_35 h
                    refine lv_tableIn (tgt := 212) hx hb dX12_ofSuit_114 (by rw [c_35]; decide) (by rw [c_35]; decide) (by rw [c_35]; rfl) (by decide) ?_
                    refine lv_aload_n hx hb dX12_ofSuit_212 rfl (lv_at hl 0 rfl) ?_
                    refine va_get (D := D) (ci := 12) (v := .ref (ad 58)) (C := RX12) (T := TX12) (N := 60) hx hb ht iX12 hown hK hP 0 rfl rfl 23 (by decide) (ht _ kw_1318) (fun _ h9 => h9) rfl dX12_ofSuit_213 ?_
                    refine lv_iload_n hx hb dX12_ofSuit_216 rfl (lv_at hl 1 rfl) ?_
                    obtain ⟨g_27, h⟩ := zk_gd h
                    refine va_iald hx hb hK hP 8 0 rfl rfl g_27 dX12_ofSuit_217 ?_
                    exact W.iret (v := mod_askedMany x1.toNatClampNeg) hx hb hr (fun t ht2 hW => ⟨⟨mod_askedMany x1.toNatClampNeg, (), rfl, Option.some.inj h, by rw [ht2]; exact hP, hD⟩, hS.F ht2⟩) hS.2.2 dX12_ofSuit_218 hlocks
                  · have h := zk_f c_35 h
                    by_cases c_36 : x2 = (8 : Int32)
                    · have h := zk_t c_36 h
                      refine lv_tableIn (tgt := 219) hx hb dX12_ofSuit_114 (by rw [c_36]; decide) (by rw [c_36]; decide) (by rw [c_36]; rfl) (by decide) ?_
                      refine lv_iload_n hx hb dX12_ofSuit_219 rfl (lv_at hl 3 rfl) ?_
                      exact W.iret (v := x3) hx hb hr (fun t ht2 hW => ⟨⟨x3, (), rfl, Option.some.inj h, by rw [ht2]; exact hP, hD⟩, hS.F ht2⟩) hS.2.2 dX12_ofSuit_220 hlocks
                    · have h := zk_f c_36 h
                      refine lv_tableOut (tgt := 221) hx hb dX12_ofSuit_114 (zk_out (lo := 0) (hi := 8) [(0 : Int32), (1 : Int32), (2 : Int32), (3 : Int32), (4 : Int32), (5 : Int32), (6 : Int32), (7 : Int32), (8 : Int32)] (by decide +kernel) (List.forall_mem_cons.mpr ⟨c_28, List.forall_mem_cons.mpr ⟨c_29, List.forall_mem_cons.mpr ⟨c_30, List.forall_mem_cons.mpr ⟨c_31, List.forall_mem_cons.mpr ⟨c_32, List.forall_mem_cons.mpr ⟨c_33, List.forall_mem_cons.mpr ⟨c_34, List.forall_mem_cons.mpr ⟨c_35, List.forall_mem_cons.mpr ⟨c_36, fun _ h => absurd h List.not_mem_nil⟩⟩⟩⟩⟩⟩⟩⟩⟩)) (by decide) ?_
                      refine lv_iconst (v := (-1 : Int32)) hx hb dX12_ofSuit_221 (by decide) ?_
                      exact W.iret (v := (-1 : Int32)) hx hb hr (fun t ht2 hW => ⟨⟨(-1 : Int32), (), rfl, Option.some.inj h, by rw [ht2]; exact hP, hD⟩, hS.F ht2⟩) hS.2.2 dX12_ofSuit_222 hlocks
  · have h := zk_f c_17 h
    refine lv_iload_n hx hb dX12_ofSuit_89 rfl (lv_at hl 3 rfl) ?_
    refine lv_aload_n hx hb dX12_ofSuit_90 rfl (lv_at hl 0 rfl) ?_
    refine va_get (D := D) (ci := 12) (v := .ref (ad 61)) (C := RX12) (T := TX12) (N := 60) hx hb ht iX12 hown hK hP 0 rfl rfl 26 (by decide) (ht _ kw_1321) (fun _ h9 => h9) rfl dX12_ofSuit_91 ?_
    refine lv_iload hx hb dX12_ofSuit_94 (lv_at hl 4 rfl) ?_
    obtain ⟨g_37, h⟩ := zk_gd h
    refine va_bald hx hb hK hP 10 2 rfl rfl g_37 dX12_ofSuit_96 ?_
    refine lv_if_le (tgt := 104) hx hb dX12_ofSuit_97 (by decide) (fun c_38 => ?_) (fun c_38 => ?_)
    · have h := zk_t c_38 h
      refine lv_iconst (v := (0 : Int32)) hx hb dX12_ofSuit_104 (by decide) ?_
      exact L_X12_ofSuit_105 C0 hK hA  ih77 x1 x2 x4 (0 : Int32) x3 h H locs ls hP hD hS (lv_sub hl [0, 1, 2, 4] rfl)
    · have h := zk_f c_38 h
      refine lv_iconst (v := (1 : Int32)) hx hb dX12_ofSuit_100 (by decide) ?_
      refine lv_goto (tgt := 105) hx hb dX12_ofSuit_101 (by decide) ?_
      exact L_X12_ofSuit_105 C0 hK hA  ih77 x1 x2 x4 (1 : Int32) x3 h H locs ls hP hD hS (lv_sub hl [0, 1, 2, 4] rfl)
set_option maxHeartbeats 4000000 in
set_option maxRecDepth 100000 in
theorem L_X12_ofSuit_0 {p : Program} {l : Launch} {e : Env} {s : State} {m : MethodId} {args : Array Value} {below : List Frame} {meth : Method} {c : Code} {A : Nat → Prop} {D : va_G} {cs : Nat → ClassId} {ad : Nat → Nat} {mod_code : Int32} {mod_shoes : Int32} {mod_claims : Int32} {mod_taped : Int32} {mod_here : Int32} {mod_fault : Int32} {mod_suits : Int32} {mod_doneMany : Int32} {mod_undoneMany : Int32} {mod_open : Int32} {mod_laid : Int32} {mod_isBoth : Int32} {mod_wished : Int32} {mod_bestMany : Int32} {mod_bestRow : Int32} {mod_ringDigits : Int32} {mod_traces : Int32} {mod_suedBy : Nat → Int32} {mod_suedOn : Nat → Int32} {mod_endKind : Nat → Int32} {mod_isWon : Nat → Int32} {mod_suitDay : Nat → Int32} {mod_suitLand : Nat → Int32} {mod_undoneFrom : Nat → Int32} {mod_askedMany : Nat → Int32} {mod_asked : Nat → Int32} {mod_pointIs : Nat → Int32} {R : Int32 × Unit} {g77 : Int32 → Int32 → Int32 → Int32 → (Option (Int32 × Unit))} (C0 : zC p s m args meth c cX12_ofSuit 5 (some .int) RX12 zW) (hK : va_K D classes (zT cs) s) (hA : ∀ q : Nat, s.heap.size ≤ q → A q) (ih77 : ∀ (x1 : Int32) (x2 : Int32) (x3 : Int32) (x4 : Int32) (h : g77 x1 x2 x3 x4 = some R) (H : Heap) (locs : List Loc) (ls : Array Slot) (hP : va_P D classes (wl_X12_ofSuit ad cs mod_code mod_shoes mod_claims mod_taped mod_here mod_fault mod_suits mod_doneMany mod_undoneMany mod_open mod_laid mod_isBoth mod_wished mod_bestMany mod_bestRow mod_ringDigits mod_traces mod_suedBy mod_suedOn mod_endKind mod_isWon mod_suitDay mod_suitLand mod_undoneFrom mod_askedMany mod_asked mod_pointIs) H) (hD : va_D A (wl_X12_ofSuit ad cs mod_code mod_shoes mod_claims mod_taped mod_here mod_fault mod_suits mod_doneMany mod_undoneMany mod_open mod_laid mod_isBoth mod_wished mod_bestMany mod_bestRow mod_ringDigits mod_traces mod_suedBy mod_suedOn mod_endKind mod_isWon mod_suitDay mod_suitLand mod_undoneFrom mod_askedMany mod_asked mod_pointIs)) (hS : va_S A s.heap H locs) (hl : lv_has ls 5 [(0, .ref (ad 41)), (1, .int x1), (2, .int x2), (3, .int x3), (4, .int x4)]), W p l e rm_X12_ofSuit s m args below meth c H locs 0 0 (MQ below (Q_X12_ofSuit D cs ad mod_code mod_shoes mod_claims mod_taped mod_here mod_fault mod_suits mod_doneMany mod_undoneMany mod_open mod_laid mod_isBoth mod_wished mod_bestMany mod_bestRow mod_ringDigits mod_traces mod_suedBy mod_suedOn mod_endKind mod_isWon mod_suitDay mod_suitLand mod_undoneFrom mod_askedMany mod_asked mod_pointIs A R) args s 0 0 A) (F0 m 77 ls [])) (x1 : Int32) (x2 : Int32) (h : B_X12_ofSuit_0 g77 mod_code mod_shoes mod_claims mod_taped mod_here mod_fault mod_suits mod_doneMany mod_undoneMany mod_open mod_laid mod_isBoth mod_wished mod_bestMany mod_bestRow mod_ringDigits mod_traces mod_suedBy mod_suedOn mod_endKind mod_isWon mod_suitDay mod_suitLand mod_undoneFrom mod_askedMany mod_asked mod_pointIs x1 x2 = some R) (H : Heap) (locs : List Loc) (ls : Array Slot) (hP : va_P D classes (wl_X12_ofSuit ad cs mod_code mod_shoes mod_claims mod_taped mod_here mod_fault mod_suits mod_doneMany mod_undoneMany mod_open mod_laid mod_isBoth mod_wished mod_bestMany mod_bestRow mod_ringDigits mod_traces mod_suedBy mod_suedOn mod_endKind mod_isWon mod_suitDay mod_suitLand mod_undoneFrom mod_askedMany mod_asked mod_pointIs) H) (hD : va_D A (wl_X12_ofSuit ad cs mod_code mod_shoes mod_claims mod_taped mod_here mod_fault mod_suits mod_doneMany mod_undoneMany mod_open mod_laid mod_isBoth mod_wished mod_bestMany mod_bestRow mod_ringDigits mod_traces mod_suedBy mod_suedOn mod_endKind mod_isWon mod_suitDay mod_suitLand mod_undoneFrom mod_askedMany mod_asked mod_pointIs)) (hS : va_S A s.heap H locs) (hl : lv_has ls 5 [(0, .ref (ad 41)), (1, .int x1), (2, .int x2)]) : W p l e rm_X12_ofSuit s m args below meth c H locs 0 0 (MQ below (Q_X12_ofSuit D cs ad mod_code mod_shoes mod_claims mod_taped mod_here mod_fault mod_suits mod_doneMany mod_undoneMany mod_open mod_laid mod_isBoth mod_wished mod_bestMany mod_bestRow mod_ringDigits mod_traces mod_suedBy mod_suedOn mod_endKind mod_isWon mod_suitDay mod_suitLand mod_undoneFrom mod_askedMany mod_asked mod_pointIs A R) args s 0 0 A) (F0 m 0 ls []) := by
  obtain ⟨hx, hb, hr, hml, hown, ht, hlocks⟩ := id C0
  refine lv_aload_n hx hb dX12_ofSuit_0 rfl (lv_at hl 0 rfl) ?_
  refine lv_iload_n hx hb dX12_ofSuit_1 rfl (lv_at hl 1 rfl) ?_
  obtain ⟨r_1, u_2, hc_3, h⟩ := zk_o2 h
  refine zz_vi (post := (fun r u => (r, u) = (r_1, u_2))) (w1 := fun u => (wl_X12_isSuit ad cs mod_code mod_shoes mod_claims mod_taped mod_here mod_fault mod_suits mod_doneMany mod_undoneMany mod_open mod_laid mod_isBoth mod_wished mod_bestMany mod_bestRow mod_ringDigits mod_traces)) (As := [.int x1]) (rest := []) (c_X12_isSuit l D cs ad  H.size x1 mod_code mod_shoes mod_claims mod_taped mod_here mod_fault mod_suits mod_doneMany mod_undoneMany mod_open mod_laid mod_isBoth mod_wished mod_bestMany mod_bestRow mod_ringDigits mod_traces (r_1, u_2) hc_3) ⟨hx, hb, hml, hown, ht⟩ (cwV 1 ht g_X12_234 rfl rfl rfl ⟨rfl, hd_X12_isSuit⟩ ⟨Nat.le_of_ble_eq_true rfl, Nat.le_of_ble_eq_true rfl⟩) (va_recv hK hP (ci := 12) (q0 := 0) rfl rfl) hP hD hS hK hA [0] rfl rfl [(ad 41)] rfl (fun _ => rfl) rfl hl.1 (Nat.le_of_ble_eq_true rfl) dX12_ofSuit_2 ⟨Nat.zero_le _, Nat.zero_le _⟩ (fun r u H locs hq hP hS => ?_)
  cases hq
  have hP : va_P D classes (wl_X12_ofSuit ad cs mod_code mod_shoes mod_claims mod_taped mod_here mod_fault mod_suits mod_doneMany mod_undoneMany mod_open mod_laid mod_isBoth mod_wished mod_bestMany mod_bestRow mod_ringDigits mod_traces mod_suedBy mod_suedOn mod_endKind mod_isWon mod_suitDay mod_suitLand mod_undoneFrom mod_askedMany mod_asked mod_pointIs) H := hP
  have hD : va_D A (wl_X12_ofSuit ad cs mod_code mod_shoes mod_claims mod_taped mod_here mod_fault mod_suits mod_doneMany mod_undoneMany mod_open mod_laid mod_isBoth mod_wished mod_bestMany mod_bestRow mod_ringDigits mod_traces mod_suedBy mod_suedOn mod_endKind mod_isWon mod_suitDay mod_suitLand mod_undoneFrom mod_askedMany mod_asked mod_pointIs) := zDk hD [(ad 41), (ad 51), (ad 52), (ad 53), (ad 54), (ad 55), (ad 56), (ad 57), (ad 58), (ad 60), (ad 61)] rfl rfl
  refine lv_if_ne (tgt := 10) hx hb dX12_ofSuit_5 (by decide) (fun c_4 => ?_) (fun c_4 => ?_)
  · have h := zk_f c_4 h
    refine lv_iload_n hx hb dX12_ofSuit_10 rfl (lv_at hl 2 rfl) ?_
    refine lv_bipush (v := (50 : Int32)) hx hb dX12_ofSuit_11 (by decide) ?_
    refine lv_bipush (v := (81 : Int32)) hx hb dX12_ofSuit_13 (by decide) ?_
    obtain ⟨r_5, u_6, hc_7, h⟩ := zk_o2 h
    refine zz_si (post := (fun r u => (r, u) = (r_5, u_6))) (w1 := fun u => (wl_X12_in ad cs )) (As := [.int x2, .int (50 : Int32), .int (81 : Int32)]) (rest := []) (c_X12_in l D cs ad  H.size x2 (50 : Int32) (81 : Int32) (r_5, u_6) hc_7) ⟨hx, hb, hml, hown, ht⟩ (va_cwS 3 ht g_X12_147 rfl rfl rfl hd_X12_in ⟨Nat.le_of_ble_eq_true rfl, Nat.le_of_ble_eq_true rfl⟩) hP hD hS hK hA [] rfl rfl [] rfl (fun _ => rfl) rfl hl.1 (Nat.le_of_ble_eq_true rfl) dX12_ofSuit_15 ⟨Nat.zero_le _, Nat.zero_le _⟩ (fun r u H locs hq hP hS => ?_)
    cases hq
    have hP : va_P D classes (wl_X12_ofSuit ad cs mod_code mod_shoes mod_claims mod_taped mod_here mod_fault mod_suits mod_doneMany mod_undoneMany mod_open mod_laid mod_isBoth mod_wished mod_bestMany mod_bestRow mod_ringDigits mod_traces mod_suedBy mod_suedOn mod_endKind mod_isWon mod_suitDay mod_suitLand mod_undoneFrom mod_askedMany mod_asked mod_pointIs) H := hP
    refine lv_if_eq (tgt := 36) hx hb dX12_ofSuit_18 (by decide) (fun c_8 => ?_) (fun c_8 => ?_)
    · have h := zk_t c_8 h
      refine lv_iload_n hx hb dX12_ofSuit_36 rfl (lv_at hl 2 rfl) ?_
      refine lv_bipush (v := (10 : Int32)) hx hb dX12_ofSuit_37 (by decide) ?_
      refine lv_bipush (v := (9 : Int32)) hx hb dX12_ofSuit_39 (by decide) ?_
      refine lv_aload_n hx hb dX12_ofSuit_41 rfl (lv_at hl 0 rfl) ?_
      refine va_get (D := D) (ci := 12) (v := .ref (ad 58)) (C := RX12) (T := TX12) (N := 60) hx hb ht iX12 hown hK hP 0 rfl rfl 23 (by decide) (ht _ kw_1318) (fun _ h9 => h9) rfl dX12_ofSuit_42 ?_
      refine lv_iload_n hx hb dX12_ofSuit_45 rfl (lv_at hl 1 rfl) ?_
      obtain ⟨g_9, h⟩ := zk_gd h
      refine va_iald hx hb hK hP 8 0 rfl rfl g_9 dX12_ofSuit_46 ?_
      refine lv_iadd hx hb dX12_ofSuit_47 ?_
      obtain ⟨r_10, u_11, hc_12, h⟩ := zk_o2 h
      refine zz_si (post := (fun r u => (r, u) = (r_10, u_11))) (w1 := fun u => (wl_X12_in ad cs )) (As := [.int x2, .int (10 : Int32), .int ((9 : Int32) + (mod_askedMany x1.toNatClampNeg))]) (rest := []) (c_X12_in l D cs ad  H.size x2 (10 : Int32) ((9 : Int32) + (mod_askedMany x1.toNatClampNeg)) (r_10, u_11) hc_12) ⟨hx, hb, hml, hown, ht⟩ (va_cwS 3 ht g_X12_147 rfl rfl rfl hd_X12_in ⟨Nat.le_of_ble_eq_true rfl, Nat.le_of_ble_eq_true rfl⟩) hP hD hS hK hA [] rfl rfl [] rfl (fun _ => rfl) rfl hl.1 (Nat.le_of_ble_eq_true rfl) dX12_ofSuit_48 ⟨Nat.zero_le _, Nat.zero_le _⟩ (fun r u H locs hq hP hS => ?_)
      cases hq
      have hP : va_P D classes (wl_X12_ofSuit ad cs mod_code mod_shoes mod_claims mod_taped mod_here mod_fault mod_suits mod_doneMany mod_undoneMany mod_open mod_laid mod_isBoth mod_wished mod_bestMany mod_bestRow mod_ringDigits mod_traces mod_suedBy mod_suedOn mod_endKind mod_isWon mod_suitDay mod_suitLand mod_undoneFrom mod_askedMany mod_asked mod_pointIs) H := hP
      refine lv_if_eq (tgt := 69) hx hb dX12_ofSuit_51 (by decide) (fun c_13 => ?_) (fun c_13 => ?_)
      · have h := zk_t c_13 h
        refine lv_iconst (v := (0 : Int32)) hx hb dX12_ofSuit_69 (by decide) ?_
        refine lv_istore_n (lv' := [(3, .int (0 : Int32)), (0, .ref (ad 41)), (1, .int x1), (2, .int x2)]) hx hb dX12_ofSuit_70 rfl hl (by decide) rfl (fun ls hl => ?_)
        refine lv_bipush (v := (32 : Int32)) hx hb dX12_ofSuit_71 (by decide) ?_
        refine lv_iload_n hx hb dX12_ofSuit_73 rfl (lv_at hl 2 rfl) ?_
        refine lv_imul hx hb dX12_ofSuit_74 ?_
        obtain ⟨v_14, ev_14, h⟩ := zk_lt h
        refine W.eq (g2 := F0 m 75 ls [.int v_14]) (by rw [ev_14]) ?_
        refine lv_istore (lv' := [(4, .int v_14), (3, .int (0 : Int32)), (0, .ref (ad 41)), (1, .int x1), (2, .int x2)]) hx hb dX12_ofSuit_75 hl (by decide) rfl (fun ls hl => ?_)
        exact ih77 x1 x2 (0 : Int32) v_14 h H locs ls hP hD hS (lv_sub hl [2, 3, 4, 1, 0] rfl)
      · have h := zk_f c_13 h
        refine lv_aload_n hx hb dX12_ofSuit_54 rfl (lv_at hl 0 rfl) ?_
        refine va_get (D := D) (ci := 12) (v := .ref (ad 60)) (C := RX12) (T := TX12) (N := 60) hx hb ht iX12 hown hK hP 0 rfl rfl 25 (by decide) (ht _ kw_1320) (fun _ h9 => h9) rfl dX12_ofSuit_55 ?_
        refine lv_bipush (v := (32 : Int32)) hx hb dX12_ofSuit_58 (by decide) ?_
        refine lv_iload_n hx hb dX12_ofSuit_60 rfl (lv_at hl 1 rfl) ?_
        refine lv_imul hx hb dX12_ofSuit_61 ?_
        refine lv_iload_n hx hb dX12_ofSuit_62 rfl (lv_at hl 2 rfl) ?_
        refine lv_iadd hx hb dX12_ofSuit_63 ?_
        refine lv_bipush (v := (10 : Int32)) hx hb dX12_ofSuit_64 (by decide) ?_
        refine lv_isub hx hb dX12_ofSuit_66 ?_
        obtain ⟨g_15, h⟩ := zk_gd h
        refine va_bald hx hb hK hP 9 2 rfl rfl g_15 dX12_ofSuit_67 ?_
        exact W.iret (v := mod_asked ((((32 : Int32) * x1) + x2) - (10 : Int32)).toNatClampNeg) hx hb hr (fun t ht2 hW => ⟨⟨mod_asked ((((32 : Int32) * x1) + x2) - (10 : Int32)).toNatClampNeg, (), rfl, Option.some.inj h, by rw [ht2]; exact hP, hD⟩, hS.F ht2⟩) hS.2.2 dX12_ofSuit_68 hlocks
    · have h := zk_f c_8 h
      refine lv_aload_n hx hb dX12_ofSuit_21 rfl (lv_at hl 0 rfl) ?_
      refine va_get (D := D) (ci := 12) (v := .ref (ad 61)) (C := RX12) (T := TX12) (N := 60) hx hb ht iX12 hown hK hP 0 rfl rfl 26 (by decide) (ht _ kw_1321) (fun _ h9 => h9) rfl dX12_ofSuit_22 ?_
      refine lv_bipush (v := (32 : Int32)) hx hb dX12_ofSuit_25 (by decide) ?_
      refine lv_iload_n hx hb dX12_ofSuit_27 rfl (lv_at hl 1 rfl) ?_
      refine lv_imul hx hb dX12_ofSuit_28 ?_
      refine lv_iload_n hx hb dX12_ofSuit_29 rfl (lv_at hl 2 rfl) ?_
      refine lv_iadd hx hb dX12_ofSuit_30 ?_
      refine lv_bipush (v := (50 : Int32)) hx hb dX12_ofSuit_31 (by decide) ?_
      refine lv_isub hx hb dX12_ofSuit_33 ?_
      obtain ⟨g_16, h⟩ := zk_gd h
      refine va_bald hx hb hK hP 10 2 rfl rfl g_16 dX12_ofSuit_34 ?_
      exact W.iret (v := mod_pointIs ((((32 : Int32) * x1) + x2) - (50 : Int32)).toNatClampNeg) hx hb hr (fun t ht2 hW => ⟨⟨mod_pointIs ((((32 : Int32) * x1) + x2) - (50 : Int32)).toNatClampNeg, (), rfl, Option.some.inj h, by rw [ht2]; exact hP, hD⟩, hS.F ht2⟩) hS.2.2 dX12_ofSuit_35 hlocks
  · have h := zk_t c_4 h
    refine lv_iconst (v := (-1 : Int32)) hx hb dX12_ofSuit_8 (by decide) ?_
    exact W.iret (v := (-1 : Int32)) hx hb hr (fun t ht2 hW => ⟨⟨(-1 : Int32), (), rfl, Option.some.inj h, by rw [ht2]; exact hP, hD⟩, hS.F ht2⟩) hS.2.2 dX12_ofSuit_9 hlocks
theorem LG_X12_ofSuit {p : Program} {l : Launch} {e : Env} {s : State} {m : MethodId} {args : Array Value} {below : List Frame} {meth : Method} {c : Code} {A : Nat → Prop} {D : va_G} {cs : Nat → ClassId} {ad : Nat → Nat} {mod_code : Int32} {mod_shoes : Int32} {mod_claims : Int32} {mod_taped : Int32} {mod_here : Int32} {mod_fault : Int32} {mod_suits : Int32} {mod_doneMany : Int32} {mod_undoneMany : Int32} {mod_open : Int32} {mod_laid : Int32} {mod_isBoth : Int32} {mod_wished : Int32} {mod_bestMany : Int32} {mod_bestRow : Int32} {mod_ringDigits : Int32} {mod_traces : Int32} {mod_suedBy : Nat → Int32} {mod_suedOn : Nat → Int32} {mod_endKind : Nat → Int32} {mod_isWon : Nat → Int32} {mod_suitDay : Nat → Int32} {mod_suitLand : Nat → Int32} {mod_undoneFrom : Nat → Int32} {mod_askedMany : Nat → Int32} {mod_asked : Nat → Int32} {mod_pointIs : Nat → Int32} {R : Int32 × Unit} (C0 : zC p s m args meth c cX12_ofSuit 5 (some .int) RX12 zW) (hK : va_K D classes (zT cs) s) (hA : ∀ q : Nat, s.heap.size ≤ q → A q) : ∀ n : Nat, (∀ (x1 : Int32) (x2 : Int32) (x3 : Int32) (x4 : Int32) (h : (G_X12_ofSuit   mod_code mod_shoes mod_claims mod_taped mod_here mod_fault mod_suits mod_doneMany mod_undoneMany mod_open mod_laid mod_isBoth mod_wished mod_bestMany mod_bestRow mod_ringDigits mod_traces mod_suedBy mod_suedOn mod_endKind mod_isWon mod_suitDay mod_suitLand mod_undoneFrom mod_askedMany mod_asked mod_pointIs n) x1 x2 x3 x4 = some R) (H : Heap) (locs : List Loc) (ls : Array Slot) (hP : va_P D classes (wl_X12_ofSuit ad cs mod_code mod_shoes mod_claims mod_taped mod_here mod_fault mod_suits mod_doneMany mod_undoneMany mod_open mod_laid mod_isBoth mod_wished mod_bestMany mod_bestRow mod_ringDigits mod_traces mod_suedBy mod_suedOn mod_endKind mod_isWon mod_suitDay mod_suitLand mod_undoneFrom mod_askedMany mod_asked mod_pointIs) H) (hD : va_D A (wl_X12_ofSuit ad cs mod_code mod_shoes mod_claims mod_taped mod_here mod_fault mod_suits mod_doneMany mod_undoneMany mod_open mod_laid mod_isBoth mod_wished mod_bestMany mod_bestRow mod_ringDigits mod_traces mod_suedBy mod_suedOn mod_endKind mod_isWon mod_suitDay mod_suitLand mod_undoneFrom mod_askedMany mod_asked mod_pointIs)) (hS : va_S A s.heap H locs) (hl : lv_has ls 5 [(0, .ref (ad 41)), (1, .int x1), (2, .int x2), (3, .int x3), (4, .int x4)]), W p l e rm_X12_ofSuit s m args below meth c H locs 0 0 (MQ below (Q_X12_ofSuit D cs ad mod_code mod_shoes mod_claims mod_taped mod_here mod_fault mod_suits mod_doneMany mod_undoneMany mod_open mod_laid mod_isBoth mod_wished mod_bestMany mod_bestRow mod_ringDigits mod_traces mod_suedBy mod_suedOn mod_endKind mod_isWon mod_suitDay mod_suitLand mod_undoneFrom mod_askedMany mod_asked mod_pointIs A R) args s 0 0 A) (F0 m 77 ls [])) := by
  intro n
  induction n with
  | zero =>
    refine ?_ <;> (intros; rename_i h _ _ _ _ _ _ _; cases h)
  | succ n ih =>
    exact L_X12_ofSuit_77 C0 hK hA  ih
set_option maxHeartbeats 4000000 in
set_option maxRecDepth 100000 in
theorem c_X12_ofSuit (l : Launch) (D : va_G) (cs : Nat → ClassId) (ad : Nat → Nat) (sz : Nat) (n : Nat) (x1 : Int32) (x2 : Int32) (mod_code : Int32) (mod_shoes : Int32) (mod_claims : Int32) (mod_taped : Int32) (mod_here : Int32) (mod_fault : Int32) (mod_suits : Int32) (mod_doneMany : Int32) (mod_undoneMany : Int32) (mod_open : Int32) (mod_laid : Int32) (mod_isBoth : Int32) (mod_wished : Int32) (mod_bestMany : Int32) (mod_bestRow : Int32) (mod_ringDigits : Int32) (mod_traces : Int32) (mod_suedBy : Nat → Int32) (mod_suedOn : Nat → Int32) (mod_endKind : Nat → Int32) (mod_isWon : Nat → Int32) (mod_suitDay : Nat → Int32) (mod_suitLand : Nat → Int32) (mod_undoneFrom : Nat → Int32) (mod_askedMany : Nat → Int32) (mod_asked : Nat → Int32) (mod_pointIs : Nat → Int32) (R : Int32 × Unit) (h : f_X12_ofSuit   n x1 x2 mod_code mod_shoes mod_claims mod_taped mod_here mod_fault mod_suits mod_doneMany mod_undoneMany mod_open mod_laid mod_isBoth mod_wished mod_bestMany mod_bestRow mod_ringDigits mod_traces mod_suedBy mod_suedOn mod_endKind mod_isWon mod_suitDay mod_suitLand mod_undoneFrom mod_askedMany mod_asked mod_pointIs = some R) : Met l yX12_ofSuit (z_X12_ofSuit) rm_X12_ofSuit (va_Pc [.ref (ad 41), .int x1, .int x2] (zPre D cs (wl_X12_ofSuit ad cs mod_code mod_shoes mod_claims mod_taped mod_here mod_fault mod_suits mod_doneMany mod_undoneMany mod_open mod_laid mod_isBoth mod_wished mod_bestMany mod_bestRow mod_ringDigits mod_traces mod_suedBy mod_suedOn mod_endKind mod_isWon mod_suitDay mod_suitLand mod_undoneFrom mod_askedMany mod_asked mod_pointIs) sz)) (Q_X12_ofSuit D cs ad mod_code mod_shoes mod_claims mod_taped mod_here mod_fault mod_suits mod_doneMany mod_undoneMany mod_open mod_laid mod_isBoth mod_wished mod_bestMany mod_bestRow mod_ringDigits mod_traces mod_suedBy mod_suedOn mod_endKind mod_isWon mod_suitDay mod_suitLand mod_undoneFrom mod_askedMany mod_asked mod_pointIs (va_A (wl_X12_ofSuit ad cs mod_code mod_shoes mod_claims mod_taped mod_here mod_fault mod_suits mod_doneMany mod_undoneMany mod_open mod_laid mod_isBoth mod_wished mod_bestMany mod_bestRow mod_ringDigits mod_traces mod_suedBy mod_suedOn mod_endKind mod_isWon mod_suitDay mod_suitLand mod_undoneFrom mod_askedMany mod_asked mod_pointIs) sz) R) 0 0 (va_A (wl_X12_ofSuit ad cs mod_code mod_shoes mod_claims mod_taped mod_here mod_fault mod_suits mod_doneMany mod_undoneMany mod_open mod_laid mod_isBoth mod_wished mod_bestMany mod_bestRow mod_ringDigits mod_traces mod_suedBy mod_suedOn mod_endKind mod_isWon mod_suitDay mod_suitLand mod_undoneFrom mod_askedMany mod_asked mod_pointIs) sz) := by
  refine Met.ofW (cc := cX12_ofSuit) (maxL := 5) (ret := (some .int)) (by decide) rfl ?_
  intro p e s m args below meth c s₁ B hml hv
  obtain ⟨rfl, hsz, hP, hK, hD0⟩ := hv
  subst hsz
  have hD := hD0.self (sz := s.heap.size)
  have C0 : zC p s m _ meth c cX12_ofSuit 5 (some .int) RX12 zW := ⟨B.exec, B.bytes, B.returns, hml, findClass_of_methodNamed B.named, fun w hw => atoms_spec (ws := z_X12_ofSuit) B.pre w (List.mem_cons_of_mem _ hw), B.notSynchronized⟩
  have hA : ∀ q : Nat, s.heap.size ≤ q → va_A (wl_X12_ofSuit ad cs mod_code mod_shoes mod_claims mod_taped mod_here mod_fault mod_suits mod_doneMany mod_undoneMany mod_open mod_laid mod_isBoth mod_wished mod_bestMany mod_bestRow mod_ringDigits mod_traces mod_suedBy mod_suedOn mod_endKind mod_isWon mod_suitDay mod_suitLand mod_undoneFrom mod_askedMany mod_asked mod_pointIs) s.heap.size q := fun q h => Or.inr h
  have hl := lv_entry ([.ref (ad 41), .int x1, .int x2]) (n := 5) (Nat.le_of_ble_eq_true rfl)
  rw [lg_entry_eq]
  generalize (lg_sl ([.ref (ad 41), .int x1, .int x2]) ++ List.replicate (5 - (lg_sl ([.ref (ad 41), .int x1, .int x2])).length) Slot.unset).toArray = ls at hl ⊢
  exact L_X12_ofSuit_0 C0 hK hA  ((LG_X12_ofSuit C0 hK hA  n)) x1 x2  h s.heap [] ls hP hD va_S.rf hl
theorem zh_cX12_set_0 : zck [27, 154, 0, 13, 42, 180, 0, 47, 28, 29, 79, 167, 0, 25, 27, 4, 160, 0, 13, 42, 180, 0] (zdu 0 cX12_set.data.toList) = true := by decide +kernel
theorem dX12_set_0 : decode cX12_set 0 = .ok (.iload_n 1, 1) := zo_27 zh_cX12_set_0 0 rfl
theorem dX12_set_1 : decode cX12_set 1 = .ok (.ifCond .ne 13, 3) := zo_p154 zh_cX12_set_0 1 13 rfl rfl
theorem dX12_set_4 : decode cX12_set 4 = .ok (.aload_n 0, 1) := zo_42 zh_cX12_set_0 4 rfl
theorem dX12_set_5 : decode cX12_set 5 = .ok (.getfield 47, 3) := zo_180 zh_cX12_set_0 5 rfl
theorem dX12_set_8 : decode cX12_set 8 = .ok (.iload_n 2, 1) := zo_28 zh_cX12_set_0 8 rfl
theorem dX12_set_9 : decode cX12_set 9 = .ok (.iload_n 3, 1) := zo_29 zh_cX12_set_0 9 rfl
theorem dX12_set_10 : decode cX12_set 10 = .ok (.iastore, 1) := zo_79 zh_cX12_set_0 10 rfl
theorem dX12_set_11 : decode cX12_set 11 = .ok (.goto 25, 3) := zo_p167 zh_cX12_set_0 11 25 rfl rfl
theorem dX12_set_14 : decode cX12_set 14 = .ok (.iload_n 1, 1) := zo_27 zh_cX12_set_0 14 rfl
theorem dX12_set_15 : decode cX12_set 15 = .ok (.iconst 1, 1) := zo_4 zh_cX12_set_0 15 rfl
theorem dX12_set_16 : decode cX12_set 16 = .ok (.if_icmp .ne 13, 3) := zo_p160 zh_cX12_set_0 16 13 rfl rfl
theorem dX12_set_19 : decode cX12_set 19 = .ok (.aload_n 0, 1) := zo_42 zh_cX12_set_0 19 rfl
theorem zh_cX12_set_1 : zck [180, 0, 56, 28, 29, 79, 167, 0, 10, 42, 180, 0, 19, 28, 29, 79, 177] (zdu 20 cX12_set.data.toList) = true := by decide +kernel
theorem dX12_set_20 : decode cX12_set 20 = .ok (.getfield 56, 3) := zo_180 zh_cX12_set_1 0 rfl
theorem dX12_set_23 : decode cX12_set 23 = .ok (.iload_n 2, 1) := zo_28 zh_cX12_set_1 3 rfl
theorem dX12_set_24 : decode cX12_set 24 = .ok (.iload_n 3, 1) := zo_29 zh_cX12_set_1 4 rfl
theorem dX12_set_25 : decode cX12_set 25 = .ok (.iastore, 1) := zo_79 zh_cX12_set_1 5 rfl
theorem dX12_set_26 : decode cX12_set 26 = .ok (.goto 10, 3) := zo_p167 zh_cX12_set_1 6 10 rfl rfl
theorem dX12_set_29 : decode cX12_set 29 = .ok (.aload_n 0, 1) := zo_42 zh_cX12_set_1 9 rfl
theorem dX12_set_30 : decode cX12_set 30 = .ok (.getfield 19, 3) := zo_180 zh_cX12_set_1 10 rfl
theorem dX12_set_33 : decode cX12_set 33 = .ok (.iload_n 2, 1) := zo_28 zh_cX12_set_1 13 rfl
theorem dX12_set_34 : decode cX12_set 34 = .ok (.iload_n 3, 1) := zo_29 zh_cX12_set_1 14 rfl
theorem dX12_set_35 : decode cX12_set 35 = .ok (.iastore, 1) := zo_79 zh_cX12_set_1 15 rfl
theorem dX12_set_36 : decode cX12_set 36 = .ok (.return_, 1) := zo_177 zh_cX12_set_1 16 rfl
abbrev z_X12_set : List Cond := .code yX12_set cX12_set 4 none :: zW
abbrev wl_X12_set (ad : Nat → Nat) (cs : Nat → ClassId)  (mod_code : Int32) (mod_shoes : Int32) (mod_claims : Int32) (mod_taped : Int32) (mod_here : Int32) (mod_fault : Int32) (mod_suits : Int32) (mod_doneMany : Int32) (mod_undoneMany : Int32) (mod_open : Int32) (mod_laid : Int32) (mod_isBoth : Int32) (mod_wished : Int32) (mod_bestMany : Int32) (mod_bestRow : Int32) (mod_ringDigits : Int32) (mod_traces : Int32) (mod_shoeDay : Nat → Int32) (mod_isWon : Nat → Int32) (mod_undoneFrom : Nat → Int32) : va_W := [((ad 41), .inr (12, [.int mod_code, .int mod_shoes, .ref (ad 42), .ref (ad 43), .ref (ad 44), .ref (ad 45), .int mod_claims, .ref (ad 46), .ref (ad 47), .ref (ad 48), .ref (ad 49), .ref (ad 50), .int mod_taped, .int mod_here, .int mod_fault, .int mod_suits, .ref (ad 51), .ref (ad 52), .ref (ad 53), .ref (ad 54), .ref (ad 55), .ref (ad 56), .ref (ad 57), .ref (ad 58), .ref (ad 59), .ref (ad 60), .ref (ad 61), .int mod_doneMany, .int mod_undoneMany, .ref (ad 62), .ref (ad 63), .ref (ad 64), .ref (ad 65), .int mod_open, .int mod_laid, .ref (ad 66), .ref (ad 67), .ref (ad 68), .ref (ad 69), .ref (ad 70), .ref (ad 71), .ref (ad 72), .ref (ad 73), .ref (ad 74), .ref (ad 75), .int mod_isBoth, .int mod_wished, .ref (ad 76), .ref (ad 77), .int mod_bestMany, .int mod_bestRow, .ref (ad 78), .ref (ad 79), .int mod_ringDigits, .int mod_traces, .ref (ad 80), .ref (ad 81), .ref (ad 82), .ref (ad 83), .ref (ad 84)])), ((ad 45), .inl (cs 0, 40, .inl mod_shoeDay)), ((ad 54), .inl (cs 0, 45, .inl mod_isWon)), ((ad 57), .inl (cs 0, 45, .inl mod_undoneFrom))]
def Q_X12_set (D : va_G) (cs : Nat → ClassId) (ad : Nat → Nat)  (mod_code : Int32) (mod_shoes : Int32) (mod_claims : Int32) (mod_taped : Int32) (mod_here : Int32) (mod_fault : Int32) (mod_suits : Int32) (mod_doneMany : Int32) (mod_undoneMany : Int32) (mod_open : Int32) (mod_laid : Int32) (mod_isBoth : Int32) (mod_wished : Int32) (mod_bestMany : Int32) (mod_bestRow : Int32) (mod_ringDigits : Int32) (mod_traces : Int32) (A : Nat → Prop) (R : (Nat → Int32) × (Nat → Int32) × (Nat → Int32)) : Array Value → State → Outcome → State → Prop :=
  va_Qv (fun u : (Nat → Int32) × (Nat → Int32) × (Nat → Int32) => u = R) (fun (u : (Nat → Int32) × (Nat → Int32) × (Nat → Int32)) (t : State) => va_P D classes (wl_X12_set ad cs mod_code mod_shoes mod_claims mod_taped mod_here mod_fault mod_suits mod_doneMany mod_undoneMany mod_open mod_laid mod_isBoth mod_wished mod_bestMany mod_bestRow mod_ringDigits mod_traces u.1 u.2.1 u.2.2) t.heap ∧ va_D A (wl_X12_set ad cs mod_code mod_shoes mod_claims mod_taped mod_here mod_fault mod_suits mod_doneMany mod_undoneMany mod_open mod_laid mod_isBoth mod_wished mod_bestMany mod_bestRow mod_ringDigits mod_traces u.1 u.2.1 u.2.2)) A
abbrev rm_X12_set : Room := { frames := 0, cells := 0, slots := 0, locals := 0 }
def B_X12_set_0    (mod_code : Int32) (mod_shoes : Int32) (mod_claims : Int32) (mod_taped : Int32) (mod_here : Int32) (mod_fault : Int32) (mod_suits : Int32) (mod_doneMany : Int32) (mod_undoneMany : Int32) (mod_open : Int32) (mod_laid : Int32) (mod_isBoth : Int32) (mod_wished : Int32) (mod_bestMany : Int32) (mod_bestRow : Int32) (mod_ringDigits : Int32) (mod_traces : Int32) (x1 : Int32) (x2 : Int32) (x3 : Int32) (mod_shoeDay : Nat → Int32) (mod_isWon : Nat → Int32) (mod_undoneFrom : Nat → Int32) : Option ((Nat → Int32) × (Nat → Int32) × (Nat → Int32)) :=
  (if x1 = 0 then (if (x2 < 0 ∨ 45 ≤ x2.toNatClampNeg) then none else (zk_let (upd mod_isWon x2.toNatClampNeg x3) (fun f_8 => (some (mod_shoeDay, f_8, mod_undoneFrom))))) else (if x1 = (1 : Int32) then (if (x2 < 0 ∨ 45 ≤ x2.toNatClampNeg) then none else (zk_let (upd mod_undoneFrom x2.toNatClampNeg x3) (fun f_6 => (some (mod_shoeDay, mod_isWon, f_6))))) else (if (x2 < 0 ∨ 40 ≤ x2.toNatClampNeg) then none else (zk_let (upd mod_shoeDay x2.toNatClampNeg x3) (fun f_4 => (some (f_4, mod_isWon, mod_undoneFrom)))))))
def f_X12_set   (x1 : Int32) (x2 : Int32) (x3 : Int32) (mod_code : Int32) (mod_shoes : Int32) (mod_claims : Int32) (mod_taped : Int32) (mod_here : Int32) (mod_fault : Int32) (mod_suits : Int32) (mod_doneMany : Int32) (mod_undoneMany : Int32) (mod_open : Int32) (mod_laid : Int32) (mod_isBoth : Int32) (mod_wished : Int32) (mod_bestMany : Int32) (mod_bestRow : Int32) (mod_ringDigits : Int32) (mod_traces : Int32) (mod_shoeDay : Nat → Int32) (mod_isWon : Nat → Int32) (mod_undoneFrom : Nat → Int32) : Option ((Nat → Int32) × (Nat → Int32) × (Nat → Int32)) := B_X12_set_0   mod_code mod_shoes mod_claims mod_taped mod_here mod_fault mod_suits mod_doneMany mod_undoneMany mod_open mod_laid mod_isBoth mod_wished mod_bestMany mod_bestRow mod_ringDigits mod_traces x1 x2 x3 mod_shoeDay mod_isWon mod_undoneFrom
set_option maxHeartbeats 4000000 in
set_option maxRecDepth 100000 in
theorem L_X12_set_0 {p : Program} {l : Launch} {e : Env} {s : State} {m : MethodId} {args : Array Value} {below : List Frame} {meth : Method} {c : Code} {A : Nat → Prop} {D : va_G} {cs : Nat → ClassId} {ad : Nat → Nat} {mod_code : Int32} {mod_shoes : Int32} {mod_claims : Int32} {mod_taped : Int32} {mod_here : Int32} {mod_fault : Int32} {mod_suits : Int32} {mod_doneMany : Int32} {mod_undoneMany : Int32} {mod_open : Int32} {mod_laid : Int32} {mod_isBoth : Int32} {mod_wished : Int32} {mod_bestMany : Int32} {mod_bestRow : Int32} {mod_ringDigits : Int32} {mod_traces : Int32} {R : (Nat → Int32) × (Nat → Int32) × (Nat → Int32)} (C0 : zC p s m args meth c cX12_set 4 none RX12 zW) (hK : va_K D classes (zT cs) s) (hA : ∀ q : Nat, s.heap.size ≤ q → A q) (x1 : Int32) (x2 : Int32) (x3 : Int32) (mod_shoeDay : Nat → Int32) (mod_isWon : Nat → Int32) (mod_undoneFrom : Nat → Int32) (h : B_X12_set_0 mod_code mod_shoes mod_claims mod_taped mod_here mod_fault mod_suits mod_doneMany mod_undoneMany mod_open mod_laid mod_isBoth mod_wished mod_bestMany mod_bestRow mod_ringDigits mod_traces x1 x2 x3 mod_shoeDay mod_isWon mod_undoneFrom = some R) (H : Heap) (locs : List Loc) (ls : Array Slot) (hP : va_P D classes (wl_X12_set ad cs mod_code mod_shoes mod_claims mod_taped mod_here mod_fault mod_suits mod_doneMany mod_undoneMany mod_open mod_laid mod_isBoth mod_wished mod_bestMany mod_bestRow mod_ringDigits mod_traces mod_shoeDay mod_isWon mod_undoneFrom) H) (hD : va_D A (wl_X12_set ad cs mod_code mod_shoes mod_claims mod_taped mod_here mod_fault mod_suits mod_doneMany mod_undoneMany mod_open mod_laid mod_isBoth mod_wished mod_bestMany mod_bestRow mod_ringDigits mod_traces mod_shoeDay mod_isWon mod_undoneFrom)) (hS : va_S A s.heap H locs) (hl : lv_has ls 4 [(0, .ref (ad 41)), (1, .int x1), (2, .int x2), (3, .int x3)]) : W p l e rm_X12_set s m args below meth c H locs 0 0 (MQ below (Q_X12_set D cs ad mod_code mod_shoes mod_claims mod_taped mod_here mod_fault mod_suits mod_doneMany mod_undoneMany mod_open mod_laid mod_isBoth mod_wished mod_bestMany mod_bestRow mod_ringDigits mod_traces A R) args s 0 0 A) (F0 m 0 ls []) := by
  obtain ⟨hx, hb, hr, hml, hown, ht, hlocks⟩ := id C0
  refine lv_iload_n hx hb dX12_set_0 rfl (lv_at hl 1 rfl) ?_
  refine lv_if_ne (tgt := 14) hx hb dX12_set_1 (by decide) (fun c_1 => ?_) (fun c_1 => ?_)
  · have h := zk_f c_1 h
    refine lv_iload_n hx hb dX12_set_14 rfl (lv_at hl 1 rfl) ?_
    refine lv_iconst (v := (1 : Int32)) hx hb dX12_set_15 (by decide) ?_
    refine lv_icmp_ne (tgt := 29) hx hb dX12_set_16 (by decide) (fun c_2 => ?_) (fun c_2 => ?_)
    · have h := zk_f c_2 h
      refine lv_aload_n hx hb dX12_set_29 rfl (lv_at hl 0 rfl) ?_
      refine va_get (D := D) (ci := 12) (v := .ref (ad 45)) (C := RX12) (T := TX12) (N := 60) hx hb ht iX12 hown hK hP 0 rfl rfl 5 (by decide) (ht _ kw_1300) (fun _ h9 => h9) rfl dX12_set_30 ?_
      refine lv_iload_n hx hb dX12_set_33 rfl (lv_at hl 2 rfl) ?_
      refine lv_iload_n hx hb dX12_set_34 rfl (lv_at hl 3 rfl) ?_
      obtain ⟨g_3, h⟩ := zk_gd h
      obtain ⟨f_4, ef_4, h⟩ := zk_lt h
      refine va_iast hx hb hK hP hD hS 1 0 rfl rfl g_3 dX12_set_35 (fun H locs hP hD hS => ?_)
      have hP : va_P D classes (wl_X12_set ad cs mod_code mod_shoes mod_claims mod_taped mod_here mod_fault mod_suits mod_doneMany mod_undoneMany mod_open mod_laid mod_isBoth mod_wished mod_bestMany mod_bestRow mod_ringDigits mod_traces f_4 mod_isWon mod_undoneFrom) H := by rw [ef_4]; exact hP
      have hD : va_D A (wl_X12_set ad cs mod_code mod_shoes mod_claims mod_taped mod_here mod_fault mod_suits mod_doneMany mod_undoneMany mod_open mod_laid mod_isBoth mod_wished mod_bestMany mod_bestRow mod_ringDigits mod_traces f_4 mod_isWon mod_undoneFrom) := by rw [ef_4]; exact hD
      exact W.vret hx hb hr (fun t ht2 hW => ⟨⟨(f_4, mod_isWon, mod_undoneFrom), rfl, Option.some.inj h, by rw [ht2]; exact hP, hD⟩, hS.F ht2⟩) hS.2.2 dX12_set_36 hlocks
    · have h := zk_t c_2 h
      refine lv_aload_n hx hb dX12_set_19 rfl (lv_at hl 0 rfl) ?_
      refine va_get (D := D) (ci := 12) (v := .ref (ad 57)) (C := RX12) (T := TX12) (N := 60) hx hb ht iX12 hown hK hP 0 rfl rfl 22 (by decide) (ht _ kw_1317) (fun _ h9 => h9) rfl dX12_set_20 ?_
      refine lv_iload_n hx hb dX12_set_23 rfl (lv_at hl 2 rfl) ?_
      refine lv_iload_n hx hb dX12_set_24 rfl (lv_at hl 3 rfl) ?_
      obtain ⟨g_5, h⟩ := zk_gd h
      obtain ⟨f_6, ef_6, h⟩ := zk_lt h
      refine va_iast hx hb hK hP hD hS 3 0 rfl rfl g_5 dX12_set_25 (fun H locs hP hD hS => ?_)
      have hP : va_P D classes (wl_X12_set ad cs mod_code mod_shoes mod_claims mod_taped mod_here mod_fault mod_suits mod_doneMany mod_undoneMany mod_open mod_laid mod_isBoth mod_wished mod_bestMany mod_bestRow mod_ringDigits mod_traces mod_shoeDay mod_isWon f_6) H := by rw [ef_6]; exact hP
      have hD : va_D A (wl_X12_set ad cs mod_code mod_shoes mod_claims mod_taped mod_here mod_fault mod_suits mod_doneMany mod_undoneMany mod_open mod_laid mod_isBoth mod_wished mod_bestMany mod_bestRow mod_ringDigits mod_traces mod_shoeDay mod_isWon f_6) := by rw [ef_6]; exact hD
      refine lv_goto (tgt := 36) hx hb dX12_set_26 (by decide) ?_
      exact W.vret hx hb hr (fun t ht2 hW => ⟨⟨(mod_shoeDay, mod_isWon, f_6), rfl, Option.some.inj h, by rw [ht2]; exact hP, hD⟩, hS.F ht2⟩) hS.2.2 dX12_set_36 hlocks
  · have h := zk_t c_1 h
    refine lv_aload_n hx hb dX12_set_4 rfl (lv_at hl 0 rfl) ?_
    refine va_get (D := D) (ci := 12) (v := .ref (ad 54)) (C := RX12) (T := TX12) (N := 60) hx hb ht iX12 hown hK hP 0 rfl rfl 19 (by decide) (ht _ kw_1314) (fun _ h9 => h9) rfl dX12_set_5 ?_
    refine lv_iload_n hx hb dX12_set_8 rfl (lv_at hl 2 rfl) ?_
    refine lv_iload_n hx hb dX12_set_9 rfl (lv_at hl 3 rfl) ?_
    obtain ⟨g_7, h⟩ := zk_gd h
    obtain ⟨f_8, ef_8, h⟩ := zk_lt h
    refine va_iast hx hb hK hP hD hS 2 0 rfl rfl g_7 dX12_set_10 (fun H locs hP hD hS => ?_)
    have hP : va_P D classes (wl_X12_set ad cs mod_code mod_shoes mod_claims mod_taped mod_here mod_fault mod_suits mod_doneMany mod_undoneMany mod_open mod_laid mod_isBoth mod_wished mod_bestMany mod_bestRow mod_ringDigits mod_traces mod_shoeDay f_8 mod_undoneFrom) H := by rw [ef_8]; exact hP
    have hD : va_D A (wl_X12_set ad cs mod_code mod_shoes mod_claims mod_taped mod_here mod_fault mod_suits mod_doneMany mod_undoneMany mod_open mod_laid mod_isBoth mod_wished mod_bestMany mod_bestRow mod_ringDigits mod_traces mod_shoeDay f_8 mod_undoneFrom) := by rw [ef_8]; exact hD
    refine lv_goto (tgt := 36) hx hb dX12_set_11 (by decide) ?_
    exact W.vret hx hb hr (fun t ht2 hW => ⟨⟨(mod_shoeDay, f_8, mod_undoneFrom), rfl, Option.some.inj h, by rw [ht2]; exact hP, hD⟩, hS.F ht2⟩) hS.2.2 dX12_set_36 hlocks
set_option maxHeartbeats 4000000 in
set_option maxRecDepth 100000 in
theorem c_X12_set (l : Launch) (D : va_G) (cs : Nat → ClassId) (ad : Nat → Nat) (sz : Nat) (x1 : Int32) (x2 : Int32) (x3 : Int32) (mod_code : Int32) (mod_shoes : Int32) (mod_claims : Int32) (mod_taped : Int32) (mod_here : Int32) (mod_fault : Int32) (mod_suits : Int32) (mod_doneMany : Int32) (mod_undoneMany : Int32) (mod_open : Int32) (mod_laid : Int32) (mod_isBoth : Int32) (mod_wished : Int32) (mod_bestMany : Int32) (mod_bestRow : Int32) (mod_ringDigits : Int32) (mod_traces : Int32) (mod_shoeDay : Nat → Int32) (mod_isWon : Nat → Int32) (mod_undoneFrom : Nat → Int32) (R : (Nat → Int32) × (Nat → Int32) × (Nat → Int32)) (h : f_X12_set   x1 x2 x3 mod_code mod_shoes mod_claims mod_taped mod_here mod_fault mod_suits mod_doneMany mod_undoneMany mod_open mod_laid mod_isBoth mod_wished mod_bestMany mod_bestRow mod_ringDigits mod_traces mod_shoeDay mod_isWon mod_undoneFrom = some R) : Met l yX12_set (z_X12_set) rm_X12_set (va_Pc [.ref (ad 41), .int x1, .int x2, .int x3] (zPre D cs (wl_X12_set ad cs mod_code mod_shoes mod_claims mod_taped mod_here mod_fault mod_suits mod_doneMany mod_undoneMany mod_open mod_laid mod_isBoth mod_wished mod_bestMany mod_bestRow mod_ringDigits mod_traces mod_shoeDay mod_isWon mod_undoneFrom) sz)) (Q_X12_set D cs ad mod_code mod_shoes mod_claims mod_taped mod_here mod_fault mod_suits mod_doneMany mod_undoneMany mod_open mod_laid mod_isBoth mod_wished mod_bestMany mod_bestRow mod_ringDigits mod_traces (va_A (wl_X12_set ad cs mod_code mod_shoes mod_claims mod_taped mod_here mod_fault mod_suits mod_doneMany mod_undoneMany mod_open mod_laid mod_isBoth mod_wished mod_bestMany mod_bestRow mod_ringDigits mod_traces mod_shoeDay mod_isWon mod_undoneFrom) sz) R) 0 0 (va_A (wl_X12_set ad cs mod_code mod_shoes mod_claims mod_taped mod_here mod_fault mod_suits mod_doneMany mod_undoneMany mod_open mod_laid mod_isBoth mod_wished mod_bestMany mod_bestRow mod_ringDigits mod_traces mod_shoeDay mod_isWon mod_undoneFrom) sz) := by
  refine Met.ofW (cc := cX12_set) (maxL := 4) (ret := none) (by decide) rfl ?_
  intro p e s m args below meth c s₁ B hml hv
  obtain ⟨rfl, hsz, hP, hK, hD0⟩ := hv
  subst hsz
  have hD := hD0.self (sz := s.heap.size)
  have C0 : zC p s m _ meth c cX12_set 4 none RX12 zW := ⟨B.exec, B.bytes, B.returns, hml, findClass_of_methodNamed B.named, fun w hw => atoms_spec (ws := z_X12_set) B.pre w (List.mem_cons_of_mem _ hw), B.notSynchronized⟩
  have hA : ∀ q : Nat, s.heap.size ≤ q → va_A (wl_X12_set ad cs mod_code mod_shoes mod_claims mod_taped mod_here mod_fault mod_suits mod_doneMany mod_undoneMany mod_open mod_laid mod_isBoth mod_wished mod_bestMany mod_bestRow mod_ringDigits mod_traces mod_shoeDay mod_isWon mod_undoneFrom) s.heap.size q := fun q h => Or.inr h
  have hl := lv_entry ([.ref (ad 41), .int x1, .int x2, .int x3]) (n := 4) (Nat.le_of_ble_eq_true rfl)
  rw [lg_entry_eq]
  generalize (lg_sl ([.ref (ad 41), .int x1, .int x2, .int x3]) ++ List.replicate (4 - (lg_sl ([.ref (ad 41), .int x1, .int x2, .int x3])).length) Slot.unset).toArray = ls at hl ⊢
  exact L_X12_set_0 C0 hK hA   x1 x2 x3 mod_shoeDay mod_isWon mod_undoneFrom h s.heap [] ls hP hD va_S.rf hl
theorem kw_31 : Cond.selects RX12 yX12_set yX12_set ∈ zW := zwI (i := 31) (by decide +kernel) (by decide +kernel)
theorem kw_1322 : Cond.fieldLink RX12 244 "AlreadyJudgedModel" "doneMany" "I" ∈ zW := zwC (i := 48) zc_6 rfl rfl
theorem kw_1323 : Cond.fieldLink RX12 241 "AlreadyJudgedModel" "undoneMany" "I" ∈ zW := zwC (i := 49) zc_6 rfl rfl
theorem kw_1324 : Cond.fieldLink RX12 71 "AlreadyJudgedModel" "changeOf" "[I" ∈ zW := zwC (i := 50) zc_6 rfl rfl
theorem kw_1325 : Cond.fieldLink RX12 74 "AlreadyJudgedModel" "changeAt" "[I" ∈ zW := zwC (i := 51) zc_6 rfl rfl
theorem kw_1326 : Cond.fieldLink RX12 77 "AlreadyJudgedModel" "before" "[I" ∈ zW := zwC (i := 52) zc_6 rfl rfl
theorem kw_1327 : Cond.fieldLink RX12 80 "AlreadyJudgedModel" "behind" "[I" ∈ zW := zwC (i := 53) zc_6 rfl rfl
theorem kw_1591 : Cond.methodLink RX12 247 yX12_set ∈ zW := zwC (i := 77) zc_7 rfl rfl
theorem kw_1593 : Cond.instanceMethod yX12_set ∈ zW := zwC (i := 79) zc_7 rfl rfl
theorem kw_1594 : Cond.code yX12_set cX12_set 4 none ∈ zW := zwC (i := 80) zc_7 rfl rfl
theorem zh_cX12_changes_0 : zck [27, 154, 0, 12, 42, 180, 0, 47, 28, 46, 167, 0, 23, 27, 4, 160, 0, 12, 42, 180, 0, 56] (zdu 0 cX12_changes.data.toList) = true := by decide +kernel
theorem dX12_changes_0 : decode cX12_changes 0 = .ok (.iload_n 1, 1) := zo_27 zh_cX12_changes_0 0 rfl
theorem dX12_changes_1 : decode cX12_changes 1 = .ok (.ifCond .ne 12, 3) := zo_p154 zh_cX12_changes_0 1 12 rfl rfl
theorem dX12_changes_4 : decode cX12_changes 4 = .ok (.aload_n 0, 1) := zo_42 zh_cX12_changes_0 4 rfl
theorem dX12_changes_5 : decode cX12_changes 5 = .ok (.getfield 47, 3) := zo_180 zh_cX12_changes_0 5 rfl
theorem dX12_changes_8 : decode cX12_changes 8 = .ok (.iload_n 2, 1) := zo_28 zh_cX12_changes_0 8 rfl
theorem dX12_changes_9 : decode cX12_changes 9 = .ok (.iaload, 1) := zo_46 zh_cX12_changes_0 9 rfl
theorem dX12_changes_10 : decode cX12_changes 10 = .ok (.goto 23, 3) := zo_p167 zh_cX12_changes_0 10 23 rfl rfl
theorem dX12_changes_13 : decode cX12_changes 13 = .ok (.iload_n 1, 1) := zo_27 zh_cX12_changes_0 13 rfl
theorem dX12_changes_14 : decode cX12_changes 14 = .ok (.iconst 1, 1) := zo_4 zh_cX12_changes_0 14 rfl
theorem dX12_changes_15 : decode cX12_changes 15 = .ok (.if_icmp .ne 12, 3) := zo_p160 zh_cX12_changes_0 15 12 rfl rfl
theorem dX12_changes_18 : decode cX12_changes 18 = .ok (.aload_n 0, 1) := zo_42 zh_cX12_changes_0 18 rfl
theorem dX12_changes_19 : decode cX12_changes 19 = .ok (.getfield 56, 3) := zo_180 zh_cX12_changes_0 19 rfl
theorem zh_cX12_changes_1 : zck [0, 56, 28, 46, 167, 0, 9, 42, 180, 0, 19, 28, 46, 54, 4, 21, 4, 29, 160, 0, 6, 21] (zdu 20 cX12_changes.data.toList) = true := by decide +kernel
theorem dX12_changes_22 : decode cX12_changes 22 = .ok (.iload_n 2, 1) := zo_28 zh_cX12_changes_1 2 rfl
theorem dX12_changes_23 : decode cX12_changes 23 = .ok (.iaload, 1) := zo_46 zh_cX12_changes_1 3 rfl
theorem dX12_changes_24 : decode cX12_changes 24 = .ok (.goto 9, 3) := zo_p167 zh_cX12_changes_1 4 9 rfl rfl
theorem dX12_changes_27 : decode cX12_changes 27 = .ok (.aload_n 0, 1) := zo_42 zh_cX12_changes_1 7 rfl
theorem dX12_changes_28 : decode cX12_changes 28 = .ok (.getfield 19, 3) := zo_180 zh_cX12_changes_1 8 rfl
theorem dX12_changes_31 : decode cX12_changes 31 = .ok (.iload_n 2, 1) := zo_28 zh_cX12_changes_1 11 rfl
theorem dX12_changes_32 : decode cX12_changes 32 = .ok (.iaload, 1) := zo_46 zh_cX12_changes_1 12 rfl
theorem dX12_changes_33 : decode cX12_changes 33 = .ok (.istore 4, 2) := zo_54 zh_cX12_changes_1 13 rfl
theorem dX12_changes_35 : decode cX12_changes 35 = .ok (.iload 4, 2) := zo_21 zh_cX12_changes_1 15 rfl
theorem dX12_changes_37 : decode cX12_changes 37 = .ok (.iload_n 3, 1) := zo_29 zh_cX12_changes_1 17 rfl
theorem dX12_changes_38 : decode cX12_changes 38 = .ok (.if_icmp .ne 6, 3) := zo_p160 zh_cX12_changes_1 18 6 rfl rfl
theorem zh_cX12_changes_2 : zck [6, 21, 4, 172, 42, 3, 181, 0, 241, 42, 180, 0, 244, 16, 40, 160, 0, 93, 4, 54, 5, 21] (zdu 40 cX12_changes.data.toList) = true := by decide +kernel
theorem dX12_changes_41 : decode cX12_changes 41 = .ok (.iload 4, 2) := zo_21 zh_cX12_changes_2 1 rfl
theorem dX12_changes_43 : decode cX12_changes 43 = .ok (.ireturn, 1) := zo_172 zh_cX12_changes_2 3 rfl
theorem dX12_changes_44 : decode cX12_changes 44 = .ok (.aload_n 0, 1) := zo_42 zh_cX12_changes_2 4 rfl
theorem dX12_changes_45 : decode cX12_changes 45 = .ok (.iconst 0, 1) := zo_3 zh_cX12_changes_2 5 rfl
theorem dX12_changes_46 : decode cX12_changes 46 = .ok (.putfield 241, 3) := zo_181 zh_cX12_changes_2 6 rfl
theorem dX12_changes_49 : decode cX12_changes 49 = .ok (.aload_n 0, 1) := zo_42 zh_cX12_changes_2 9 rfl
theorem dX12_changes_50 : decode cX12_changes 50 = .ok (.getfield 244, 3) := zo_180 zh_cX12_changes_2 10 rfl
theorem dX12_changes_53 : decode cX12_changes 53 = .ok (.bipush 40, 2) := zo_p16 zh_cX12_changes_2 13 40 rfl rfl
theorem dX12_changes_55 : decode cX12_changes 55 = .ok (.if_icmp .ne 93, 3) := zo_p160 zh_cX12_changes_2 15 93 rfl rfl
theorem dX12_changes_58 : decode cX12_changes 58 = .ok (.iconst 1, 1) := zo_4 zh_cX12_changes_2 18 rfl
theorem dX12_changes_59 : decode cX12_changes 59 = .ok (.istore 5, 2) := zo_54 zh_cX12_changes_2 19 rfl
theorem zh_cX12_changes_3 : zck [5, 21, 5, 16, 40, 162, 0, 73, 42, 180, 0, 71, 21, 5, 4, 100, 42, 180, 0, 71, 21, 5] (zdu 60 cX12_changes.data.toList) = true := by decide +kernel
theorem dX12_changes_61 : decode cX12_changes 61 = .ok (.iload 5, 2) := zo_21 zh_cX12_changes_3 1 rfl
theorem dX12_changes_63 : decode cX12_changes 63 = .ok (.bipush 40, 2) := zo_p16 zh_cX12_changes_3 3 40 rfl rfl
theorem dX12_changes_65 : decode cX12_changes 65 = .ok (.if_icmp .ge 73, 3) := zo_p162 zh_cX12_changes_3 5 73 rfl rfl
theorem dX12_changes_68 : decode cX12_changes 68 = .ok (.aload_n 0, 1) := zo_42 zh_cX12_changes_3 8 rfl
theorem dX12_changes_69 : decode cX12_changes 69 = .ok (.getfield 71, 3) := zo_180 zh_cX12_changes_3 9 rfl
theorem dX12_changes_72 : decode cX12_changes 72 = .ok (.iload 5, 2) := zo_21 zh_cX12_changes_3 12 rfl
theorem dX12_changes_74 : decode cX12_changes 74 = .ok (.iconst 1, 1) := zo_4 zh_cX12_changes_3 14 rfl
theorem dX12_changes_75 : decode cX12_changes 75 = .ok (.isub, 1) := zo_100 zh_cX12_changes_3 15 rfl
theorem dX12_changes_76 : decode cX12_changes 76 = .ok (.aload_n 0, 1) := zo_42 zh_cX12_changes_3 16 rfl
theorem dX12_changes_77 : decode cX12_changes 77 = .ok (.getfield 71, 3) := zo_180 zh_cX12_changes_3 17 rfl
theorem zh_cX12_changes_4 : zck [21, 5, 46, 79, 42, 180, 0, 74, 21, 5, 4, 100, 42, 180, 0, 74, 21, 5, 46, 79, 42, 180] (zdu 80 cX12_changes.data.toList) = true := by decide +kernel
theorem dX12_changes_80 : decode cX12_changes 80 = .ok (.iload 5, 2) := zo_21 zh_cX12_changes_4 0 rfl
theorem dX12_changes_82 : decode cX12_changes 82 = .ok (.iaload, 1) := zo_46 zh_cX12_changes_4 2 rfl
theorem dX12_changes_83 : decode cX12_changes 83 = .ok (.iastore, 1) := zo_79 zh_cX12_changes_4 3 rfl
theorem dX12_changes_84 : decode cX12_changes 84 = .ok (.aload_n 0, 1) := zo_42 zh_cX12_changes_4 4 rfl
theorem dX12_changes_85 : decode cX12_changes 85 = .ok (.getfield 74, 3) := zo_180 zh_cX12_changes_4 5 rfl
theorem dX12_changes_88 : decode cX12_changes 88 = .ok (.iload 5, 2) := zo_21 zh_cX12_changes_4 8 rfl
theorem dX12_changes_90 : decode cX12_changes 90 = .ok (.iconst 1, 1) := zo_4 zh_cX12_changes_4 10 rfl
theorem dX12_changes_91 : decode cX12_changes 91 = .ok (.isub, 1) := zo_100 zh_cX12_changes_4 11 rfl
theorem dX12_changes_92 : decode cX12_changes 92 = .ok (.aload_n 0, 1) := zo_42 zh_cX12_changes_4 12 rfl
theorem dX12_changes_93 : decode cX12_changes 93 = .ok (.getfield 74, 3) := zo_180 zh_cX12_changes_4 13 rfl
theorem dX12_changes_96 : decode cX12_changes 96 = .ok (.iload 5, 2) := zo_21 zh_cX12_changes_4 16 rfl
theorem dX12_changes_98 : decode cX12_changes 98 = .ok (.iaload, 1) := zo_46 zh_cX12_changes_4 18 rfl
theorem dX12_changes_99 : decode cX12_changes 99 = .ok (.iastore, 1) := zo_79 zh_cX12_changes_4 19 rfl
theorem zh_cX12_changes_5 : zck [42, 180, 0, 77, 21, 5, 4, 100, 42, 180, 0, 77, 21, 5, 46, 79, 42, 180, 0, 80, 21, 5] (zdu 100 cX12_changes.data.toList) = true := by decide +kernel
theorem dX12_changes_100 : decode cX12_changes 100 = .ok (.aload_n 0, 1) := zo_42 zh_cX12_changes_5 0 rfl
theorem dX12_changes_101 : decode cX12_changes 101 = .ok (.getfield 77, 3) := zo_180 zh_cX12_changes_5 1 rfl
theorem dX12_changes_104 : decode cX12_changes 104 = .ok (.iload 5, 2) := zo_21 zh_cX12_changes_5 4 rfl
theorem dX12_changes_106 : decode cX12_changes 106 = .ok (.iconst 1, 1) := zo_4 zh_cX12_changes_5 6 rfl
theorem dX12_changes_107 : decode cX12_changes 107 = .ok (.isub, 1) := zo_100 zh_cX12_changes_5 7 rfl
theorem dX12_changes_108 : decode cX12_changes 108 = .ok (.aload_n 0, 1) := zo_42 zh_cX12_changes_5 8 rfl
theorem dX12_changes_109 : decode cX12_changes 109 = .ok (.getfield 77, 3) := zo_180 zh_cX12_changes_5 9 rfl
theorem dX12_changes_112 : decode cX12_changes 112 = .ok (.iload 5, 2) := zo_21 zh_cX12_changes_5 12 rfl
theorem dX12_changes_114 : decode cX12_changes 114 = .ok (.iaload, 1) := zo_46 zh_cX12_changes_5 14 rfl
theorem dX12_changes_115 : decode cX12_changes 115 = .ok (.iastore, 1) := zo_79 zh_cX12_changes_5 15 rfl
theorem dX12_changes_116 : decode cX12_changes 116 = .ok (.aload_n 0, 1) := zo_42 zh_cX12_changes_5 16 rfl
theorem dX12_changes_117 : decode cX12_changes 117 = .ok (.getfield 80, 3) := zo_180 zh_cX12_changes_5 17 rfl
theorem zh_cX12_changes_6 : zck [21, 5, 4, 100, 42, 180, 0, 80, 21, 5, 46, 79, 132, 5, 1, 167, 255, 182, 42, 89, 180, 0] (zdu 120 cX12_changes.data.toList) = true := by decide +kernel
theorem dX12_changes_120 : decode cX12_changes 120 = .ok (.iload 5, 2) := zo_21 zh_cX12_changes_6 0 rfl
theorem dX12_changes_122 : decode cX12_changes 122 = .ok (.iconst 1, 1) := zo_4 zh_cX12_changes_6 2 rfl
theorem dX12_changes_123 : decode cX12_changes 123 = .ok (.isub, 1) := zo_100 zh_cX12_changes_6 3 rfl
theorem dX12_changes_124 : decode cX12_changes 124 = .ok (.aload_n 0, 1) := zo_42 zh_cX12_changes_6 4 rfl
theorem dX12_changes_125 : decode cX12_changes 125 = .ok (.getfield 80, 3) := zo_180 zh_cX12_changes_6 5 rfl
theorem dX12_changes_128 : decode cX12_changes 128 = .ok (.iload 5, 2) := zo_21 zh_cX12_changes_6 8 rfl
theorem dX12_changes_130 : decode cX12_changes 130 = .ok (.iaload, 1) := zo_46 zh_cX12_changes_6 10 rfl
theorem dX12_changes_131 : decode cX12_changes 131 = .ok (.iastore, 1) := zo_79 zh_cX12_changes_6 11 rfl
theorem dX12_changes_132 : decode cX12_changes 132 = .ok (.iinc 5 1, 3) := zo_p132 zh_cX12_changes_6 12 1 rfl rfl
theorem dX12_changes_135 : decode cX12_changes 135 = .ok (.goto (-74), 3) := zo_n167 zh_cX12_changes_6 15 73 rfl rfl
theorem dX12_changes_138 : decode cX12_changes 138 = .ok (.aload_n 0, 1) := zo_42 zh_cX12_changes_6 18 rfl
theorem dX12_changes_139 : decode cX12_changes 139 = .ok (.dup, 1) := zo_89 zh_cX12_changes_6 19 rfl
theorem zh_cX12_changes_7 : zck [180, 0, 244, 4, 100, 181, 0, 244, 42, 180, 0, 71, 42, 180, 0, 244, 27, 79, 42, 180, 0, 74] (zdu 140 cX12_changes.data.toList) = true := by decide +kernel
theorem dX12_changes_140 : decode cX12_changes 140 = .ok (.getfield 244, 3) := zo_180 zh_cX12_changes_7 0 rfl
theorem dX12_changes_143 : decode cX12_changes 143 = .ok (.iconst 1, 1) := zo_4 zh_cX12_changes_7 3 rfl
theorem dX12_changes_144 : decode cX12_changes 144 = .ok (.isub, 1) := zo_100 zh_cX12_changes_7 4 rfl
theorem dX12_changes_145 : decode cX12_changes 145 = .ok (.putfield 244, 3) := zo_181 zh_cX12_changes_7 5 rfl
theorem dX12_changes_148 : decode cX12_changes 148 = .ok (.aload_n 0, 1) := zo_42 zh_cX12_changes_7 8 rfl
theorem dX12_changes_149 : decode cX12_changes 149 = .ok (.getfield 71, 3) := zo_180 zh_cX12_changes_7 9 rfl
theorem dX12_changes_152 : decode cX12_changes 152 = .ok (.aload_n 0, 1) := zo_42 zh_cX12_changes_7 12 rfl
theorem dX12_changes_153 : decode cX12_changes 153 = .ok (.getfield 244, 3) := zo_180 zh_cX12_changes_7 13 rfl
theorem dX12_changes_156 : decode cX12_changes 156 = .ok (.iload_n 1, 1) := zo_27 zh_cX12_changes_7 16 rfl
theorem dX12_changes_157 : decode cX12_changes 157 = .ok (.iastore, 1) := zo_79 zh_cX12_changes_7 17 rfl
theorem dX12_changes_158 : decode cX12_changes 158 = .ok (.aload_n 0, 1) := zo_42 zh_cX12_changes_7 18 rfl
theorem dX12_changes_159 : decode cX12_changes 159 = .ok (.getfield 74, 3) := zo_180 zh_cX12_changes_7 19 rfl
theorem zh_cX12_changes_8 : zck [0, 74, 42, 180, 0, 244, 28, 79, 42, 180, 0, 77, 42, 180, 0, 244, 21, 4, 79, 42, 180, 0] (zdu 160 cX12_changes.data.toList) = true := by decide +kernel
theorem dX12_changes_162 : decode cX12_changes 162 = .ok (.aload_n 0, 1) := zo_42 zh_cX12_changes_8 2 rfl
theorem dX12_changes_163 : decode cX12_changes 163 = .ok (.getfield 244, 3) := zo_180 zh_cX12_changes_8 3 rfl
theorem dX12_changes_166 : decode cX12_changes 166 = .ok (.iload_n 2, 1) := zo_28 zh_cX12_changes_8 6 rfl
theorem dX12_changes_167 : decode cX12_changes 167 = .ok (.iastore, 1) := zo_79 zh_cX12_changes_8 7 rfl
theorem dX12_changes_168 : decode cX12_changes 168 = .ok (.aload_n 0, 1) := zo_42 zh_cX12_changes_8 8 rfl
theorem dX12_changes_169 : decode cX12_changes 169 = .ok (.getfield 77, 3) := zo_180 zh_cX12_changes_8 9 rfl
theorem dX12_changes_172 : decode cX12_changes 172 = .ok (.aload_n 0, 1) := zo_42 zh_cX12_changes_8 12 rfl
theorem dX12_changes_173 : decode cX12_changes 173 = .ok (.getfield 244, 3) := zo_180 zh_cX12_changes_8 13 rfl
theorem dX12_changes_176 : decode cX12_changes 176 = .ok (.iload 4, 2) := zo_21 zh_cX12_changes_8 16 rfl
theorem dX12_changes_178 : decode cX12_changes 178 = .ok (.iastore, 1) := zo_79 zh_cX12_changes_8 18 rfl
theorem dX12_changes_179 : decode cX12_changes 179 = .ok (.aload_n 0, 1) := zo_42 zh_cX12_changes_8 19 rfl
theorem zh_cX12_changes_9 : zck [180, 0, 80, 42, 180, 0, 244, 29, 79, 42, 89, 180, 0, 244, 4, 96, 181, 0, 244, 42, 27, 28] (zdu 180 cX12_changes.data.toList) = true := by decide +kernel
theorem dX12_changes_180 : decode cX12_changes 180 = .ok (.getfield 80, 3) := zo_180 zh_cX12_changes_9 0 rfl
theorem dX12_changes_183 : decode cX12_changes 183 = .ok (.aload_n 0, 1) := zo_42 zh_cX12_changes_9 3 rfl
theorem dX12_changes_184 : decode cX12_changes 184 = .ok (.getfield 244, 3) := zo_180 zh_cX12_changes_9 4 rfl
theorem dX12_changes_187 : decode cX12_changes 187 = .ok (.iload_n 3, 1) := zo_29 zh_cX12_changes_9 7 rfl
theorem dX12_changes_188 : decode cX12_changes 188 = .ok (.iastore, 1) := zo_79 zh_cX12_changes_9 8 rfl
theorem dX12_changes_189 : decode cX12_changes 189 = .ok (.aload_n 0, 1) := zo_42 zh_cX12_changes_9 9 rfl
theorem dX12_changes_190 : decode cX12_changes 190 = .ok (.dup, 1) := zo_89 zh_cX12_changes_9 10 rfl
theorem dX12_changes_191 : decode cX12_changes 191 = .ok (.getfield 244, 3) := zo_180 zh_cX12_changes_9 11 rfl
theorem dX12_changes_194 : decode cX12_changes 194 = .ok (.iconst 1, 1) := zo_4 zh_cX12_changes_9 14 rfl
theorem dX12_changes_195 : decode cX12_changes 195 = .ok (.iadd, 1) := zo_96 zh_cX12_changes_9 15 rfl
theorem dX12_changes_196 : decode cX12_changes 196 = .ok (.putfield 244, 3) := zo_181 zh_cX12_changes_9 16 rfl
theorem dX12_changes_199 : decode cX12_changes 199 = .ok (.aload_n 0, 1) := zo_42 zh_cX12_changes_9 19 rfl
theorem zh_cX12_changes_10 : zck [27, 28, 29, 182, 0, 247, 21, 4, 172] (zdu 200 cX12_changes.data.toList) = true := by decide +kernel
theorem dX12_changes_200 : decode cX12_changes 200 = .ok (.iload_n 1, 1) := zo_27 zh_cX12_changes_10 0 rfl
theorem dX12_changes_201 : decode cX12_changes 201 = .ok (.iload_n 2, 1) := zo_28 zh_cX12_changes_10 1 rfl
theorem dX12_changes_202 : decode cX12_changes 202 = .ok (.iload_n 3, 1) := zo_29 zh_cX12_changes_10 2 rfl
theorem dX12_changes_203 : decode cX12_changes 203 = .ok (.invokevirtual 247, 3) := zo_182 zh_cX12_changes_10 3 rfl
theorem dX12_changes_206 : decode cX12_changes 206 = .ok (.iload 4, 2) := zo_21 zh_cX12_changes_10 6 rfl
theorem dX12_changes_208 : decode cX12_changes 208 = .ok (.ireturn, 1) := zo_172 zh_cX12_changes_10 8 rfl
abbrev z_X12_changes : List Cond := .code yX12_changes cX12_changes 6 (some .int) :: zW
abbrev wl_X12_changes (ad : Nat → Nat) (cs : Nat → ClassId)  (mod_code : Int32) (mod_shoes : Int32) (mod_claims : Int32) (mod_taped : Int32) (mod_here : Int32) (mod_fault : Int32) (mod_suits : Int32) (mod_doneMany : Int32) (mod_undoneMany : Int32) (mod_open : Int32) (mod_laid : Int32) (mod_isBoth : Int32) (mod_wished : Int32) (mod_bestMany : Int32) (mod_bestRow : Int32) (mod_ringDigits : Int32) (mod_traces : Int32) (mod_shoeDay : Nat → Int32) (mod_isWon : Nat → Int32) (mod_undoneFrom : Nat → Int32) (mod_changeOf : Nat → Int32) (mod_changeAt : Nat → Int32) (mod_before : Nat → Int32) (mod_behind : Nat → Int32) : va_W := [((ad 41), .inr (12, [.int mod_code, .int mod_shoes, .ref (ad 42), .ref (ad 43), .ref (ad 44), .ref (ad 45), .int mod_claims, .ref (ad 46), .ref (ad 47), .ref (ad 48), .ref (ad 49), .ref (ad 50), .int mod_taped, .int mod_here, .int mod_fault, .int mod_suits, .ref (ad 51), .ref (ad 52), .ref (ad 53), .ref (ad 54), .ref (ad 55), .ref (ad 56), .ref (ad 57), .ref (ad 58), .ref (ad 59), .ref (ad 60), .ref (ad 61), .int mod_doneMany, .int mod_undoneMany, .ref (ad 62), .ref (ad 63), .ref (ad 64), .ref (ad 65), .int mod_open, .int mod_laid, .ref (ad 66), .ref (ad 67), .ref (ad 68), .ref (ad 69), .ref (ad 70), .ref (ad 71), .ref (ad 72), .ref (ad 73), .ref (ad 74), .ref (ad 75), .int mod_isBoth, .int mod_wished, .ref (ad 76), .ref (ad 77), .int mod_bestMany, .int mod_bestRow, .ref (ad 78), .ref (ad 79), .int mod_ringDigits, .int mod_traces, .ref (ad 80), .ref (ad 81), .ref (ad 82), .ref (ad 83), .ref (ad 84)])), ((ad 45), .inl (cs 0, 40, .inl mod_shoeDay)), ((ad 54), .inl (cs 0, 45, .inl mod_isWon)), ((ad 57), .inl (cs 0, 45, .inl mod_undoneFrom)), ((ad 62), .inl (cs 0, 40, .inl mod_changeOf)), ((ad 63), .inl (cs 0, 40, .inl mod_changeAt)), ((ad 64), .inl (cs 0, 40, .inl mod_before)), ((ad 65), .inl (cs 0, 40, .inl mod_behind))]
def Q_X12_changes (D : va_G) (cs : Nat → ClassId) (ad : Nat → Nat)  (mod_code : Int32) (mod_shoes : Int32) (mod_claims : Int32) (mod_taped : Int32) (mod_here : Int32) (mod_fault : Int32) (mod_suits : Int32) (mod_open : Int32) (mod_laid : Int32) (mod_isBoth : Int32) (mod_wished : Int32) (mod_bestMany : Int32) (mod_bestRow : Int32) (mod_ringDigits : Int32) (mod_traces : Int32) (A : Nat → Prop) (R : Int32 × Int32 × Int32 × (Nat → Int32) × (Nat → Int32) × (Nat → Int32) × (Nat → Int32) × (Nat → Int32) × (Nat → Int32) × (Nat → Int32)) : Array Value → State → Outcome → State → Prop :=
  va_Qi (fun (r : Int32) (u : Int32 × Int32 × (Nat → Int32) × (Nat → Int32) × (Nat → Int32) × (Nat → Int32) × (Nat → Int32) × (Nat → Int32) × (Nat → Int32)) => (r, u) = R) (fun (u : Int32 × Int32 × (Nat → Int32) × (Nat → Int32) × (Nat → Int32) × (Nat → Int32) × (Nat → Int32) × (Nat → Int32) × (Nat → Int32)) (t : State) => va_P D classes (wl_X12_changes ad cs mod_code mod_shoes mod_claims mod_taped mod_here mod_fault mod_suits u.1 u.2.1 mod_open mod_laid mod_isBoth mod_wished mod_bestMany mod_bestRow mod_ringDigits mod_traces u.2.2.1 u.2.2.2.1 u.2.2.2.2.1 u.2.2.2.2.2.1 u.2.2.2.2.2.2.1 u.2.2.2.2.2.2.2.1 u.2.2.2.2.2.2.2.2) t.heap ∧ va_D A (wl_X12_changes ad cs mod_code mod_shoes mod_claims mod_taped mod_here mod_fault mod_suits u.1 u.2.1 mod_open mod_laid mod_isBoth mod_wished mod_bestMany mod_bestRow mod_ringDigits mod_traces u.2.2.1 u.2.2.2.1 u.2.2.2.2.1 u.2.2.2.2.2.1 u.2.2.2.2.2.2.1 u.2.2.2.2.2.2.2.1 u.2.2.2.2.2.2.2.2)) A
abbrev rm_X12_changes : Room := { frames := 1, cells := 0, slots := 0, locals := 23 }
theorem g_X12_247 : GoodIn zW (wsV RX12 247 RX12 yX12_set z_X12_set) := zGV kw_1591 kw_1593 kw_31 kw_95 kw_1594
theorem hd_X12_set : yX12_set.cls ≠ "java/lang/invoke/MethodHandle" ∧ yX12_set.cls ≠ "java/lang/invoke/VarHandle" ∧ (parseMethodDescriptor yX12_set.desc).map (fun d => d.parameters.length) = some 3 := by decide +kernel
def B_X12_changes_148   (g61 : Int32 → Int32 → Int32 → Int32 → Int32 → Int32 → Int32 → (Nat → Int32) → (Nat → Int32) → (Nat → Int32) → (Nat → Int32) → (Nat → Int32) → (Nat → Int32) → (Nat → Int32) → (Option (Int32 × Int32 × Int32 × (Nat → Int32) × (Nat → Int32) × (Nat → Int32) × (Nat → Int32) × (Nat → Int32) × (Nat → Int32) × (Nat → Int32)))) (mod_code : Int32) (mod_shoes : Int32) (mod_claims : Int32) (mod_taped : Int32) (mod_here : Int32) (mod_fault : Int32) (mod_suits : Int32) (mod_open : Int32) (mod_laid : Int32) (mod_isBoth : Int32) (mod_wished : Int32) (mod_bestMany : Int32) (mod_bestRow : Int32) (mod_ringDigits : Int32) (mod_traces : Int32) (x1 : Int32) (x2 : Int32) (x3 : Int32) (x4 : Int32) (mod_doneMany : Int32) (mod_undoneMany : Int32) (mod_shoeDay : Nat → Int32) (mod_isWon : Nat → Int32) (mod_undoneFrom : Nat → Int32) (mod_changeOf : Nat → Int32) (mod_changeAt : Nat → Int32) (mod_before : Nat → Int32) (mod_behind : Nat → Int32) : Option (Int32 × Int32 × Int32 × (Nat → Int32) × (Nat → Int32) × (Nat → Int32) × (Nat → Int32) × (Nat → Int32) × (Nat → Int32) × (Nat → Int32)) :=
  (if (mod_doneMany < 0 ∨ 40 ≤ mod_doneMany.toNatClampNeg) then none else (zk_let (upd mod_changeOf mod_doneMany.toNatClampNeg x1) (fun f_28 => (if (mod_doneMany < 0 ∨ 40 ≤ mod_doneMany.toNatClampNeg) then none else (zk_let (upd mod_changeAt mod_doneMany.toNatClampNeg x2) (fun f_30 => (if (mod_doneMany < 0 ∨ 40 ≤ mod_doneMany.toNatClampNeg) then none else (zk_let (upd mod_before mod_doneMany.toNatClampNeg x4) (fun f_32 => (if (mod_doneMany < 0 ∨ 40 ≤ mod_doneMany.toNatClampNeg) then none else (zk_let (upd mod_behind mod_doneMany.toNatClampNeg x3) (fun f_34 => (zk_let (mod_doneMany + (1 : Int32)) (fun v_35 => (zk_b3 (f_X12_set x1 x2 x3 mod_code mod_shoes mod_claims mod_taped mod_here mod_fault mod_suits v_35 mod_undoneMany mod_open mod_laid mod_isBoth mod_wished mod_bestMany mod_bestRow mod_ringDigits mod_traces mod_shoeDay mod_isWon mod_undoneFrom) (fun u_36 u_37 u_38 => (some (x4, v_35, mod_undoneMany, u_36, u_37, u_38, f_28, f_30, f_32, f_34))))))))))))))))))
def B_X12_changes_61   (g61 : Int32 → Int32 → Int32 → Int32 → Int32 → Int32 → Int32 → (Nat → Int32) → (Nat → Int32) → (Nat → Int32) → (Nat → Int32) → (Nat → Int32) → (Nat → Int32) → (Nat → Int32) → (Option (Int32 × Int32 × Int32 × (Nat → Int32) × (Nat → Int32) × (Nat → Int32) × (Nat → Int32) × (Nat → Int32) × (Nat → Int32) × (Nat → Int32)))) (mod_code : Int32) (mod_shoes : Int32) (mod_claims : Int32) (mod_taped : Int32) (mod_here : Int32) (mod_fault : Int32) (mod_suits : Int32) (mod_open : Int32) (mod_laid : Int32) (mod_isBoth : Int32) (mod_wished : Int32) (mod_bestMany : Int32) (mod_bestRow : Int32) (mod_ringDigits : Int32) (mod_traces : Int32) (x1 : Int32) (x2 : Int32) (x3 : Int32) (x4 : Int32) (x5 : Int32) (mod_doneMany : Int32) (mod_undoneMany : Int32) (mod_shoeDay : Nat → Int32) (mod_isWon : Nat → Int32) (mod_undoneFrom : Nat → Int32) (mod_changeOf : Nat → Int32) (mod_changeAt : Nat → Int32) (mod_before : Nat → Int32) (mod_behind : Nat → Int32) : Option (Int32 × Int32 × Int32 × (Nat → Int32) × (Nat → Int32) × (Nat → Int32) × (Nat → Int32) × (Nat → Int32) × (Nat → Int32) × (Nat → Int32)) :=
  (if (40 : Int32) ≤ x5 then (zk_let (mod_doneMany - (1 : Int32)) (fun v_9 => (B_X12_changes_148 g61 mod_code mod_shoes mod_claims mod_taped mod_here mod_fault mod_suits mod_open mod_laid mod_isBoth mod_wished mod_bestMany mod_bestRow mod_ringDigits mod_traces x1 x2 x3 x4 v_9 mod_undoneMany mod_shoeDay mod_isWon mod_undoneFrom mod_changeOf mod_changeAt mod_before mod_behind))) else (if (x5 < 0 ∨ 40 ≤ x5.toNatClampNeg) then none else (zk_let (mod_changeOf x5.toNatClampNeg) (fun v_11 => (if ((x5 - (1 : Int32)) < 0 ∨ 40 ≤ (x5 - (1 : Int32)).toNatClampNeg) then none else (zk_let (upd mod_changeOf (x5 - (1 : Int32)).toNatClampNeg v_11) (fun f_13 => (if (x5 < 0 ∨ 40 ≤ x5.toNatClampNeg) then none else (zk_let (mod_changeAt x5.toNatClampNeg) (fun v_15 => (if ((x5 - (1 : Int32)) < 0 ∨ 40 ≤ (x5 - (1 : Int32)).toNatClampNeg) then none else (zk_let (upd mod_changeAt (x5 - (1 : Int32)).toNatClampNeg v_15) (fun f_17 => (if (x5 < 0 ∨ 40 ≤ x5.toNatClampNeg) then none else (zk_let (mod_before x5.toNatClampNeg) (fun v_19 => (if ((x5 - (1 : Int32)) < 0 ∨ 40 ≤ (x5 - (1 : Int32)).toNatClampNeg) then none else (zk_let (upd mod_before (x5 - (1 : Int32)).toNatClampNeg v_19) (fun f_21 => (if (x5 < 0 ∨ 40 ≤ x5.toNatClampNeg) then none else (zk_let (mod_behind x5.toNatClampNeg) (fun v_23 => (if ((x5 - (1 : Int32)) < 0 ∨ 40 ≤ (x5 - (1 : Int32)).toNatClampNeg) then none else (zk_let (upd mod_behind (x5 - (1 : Int32)).toNatClampNeg v_23) (fun f_25 => (zk_let (x5 + (1 : Int32)) (fun v_26 => (g61 x1 x2 x3 x4 v_26 mod_doneMany mod_undoneMany mod_shoeDay mod_isWon mod_undoneFrom f_13 f_17 f_21 f_25))))))))))))))))))))))))))))
def B_X12_changes_33   (g61 : Int32 → Int32 → Int32 → Int32 → Int32 → Int32 → Int32 → (Nat → Int32) → (Nat → Int32) → (Nat → Int32) → (Nat → Int32) → (Nat → Int32) → (Nat → Int32) → (Nat → Int32) → (Option (Int32 × Int32 × Int32 × (Nat → Int32) × (Nat → Int32) × (Nat → Int32) × (Nat → Int32) × (Nat → Int32) × (Nat → Int32) × (Nat → Int32)))) (mod_code : Int32) (mod_shoes : Int32) (mod_claims : Int32) (mod_taped : Int32) (mod_here : Int32) (mod_fault : Int32) (mod_suits : Int32) (mod_open : Int32) (mod_laid : Int32) (mod_isBoth : Int32) (mod_wished : Int32) (mod_bestMany : Int32) (mod_bestRow : Int32) (mod_ringDigits : Int32) (mod_traces : Int32) (x1 : Int32) (x2 : Int32) (x3 : Int32) (s0 : Int32) (mod_doneMany : Int32) (mod_undoneMany : Int32) (mod_shoeDay : Nat → Int32) (mod_isWon : Nat → Int32) (mod_undoneFrom : Nat → Int32) (mod_changeOf : Nat → Int32) (mod_changeAt : Nat → Int32) (mod_before : Nat → Int32) (mod_behind : Nat → Int32) : Option (Int32 × Int32 × Int32 × (Nat → Int32) × (Nat → Int32) × (Nat → Int32) × (Nat → Int32) × (Nat → Int32) × (Nat → Int32) × (Nat → Int32)) :=
  (if s0 = x3 then (some (s0, mod_doneMany, mod_undoneMany, mod_shoeDay, mod_isWon, mod_undoneFrom, mod_changeOf, mod_changeAt, mod_before, mod_behind)) else (if mod_doneMany = (40 : Int32) then (g61 x1 x2 x3 s0 (1 : Int32) mod_doneMany (0 : Int32) mod_shoeDay mod_isWon mod_undoneFrom mod_changeOf mod_changeAt mod_before mod_behind) else (B_X12_changes_148 g61 mod_code mod_shoes mod_claims mod_taped mod_here mod_fault mod_suits mod_open mod_laid mod_isBoth mod_wished mod_bestMany mod_bestRow mod_ringDigits mod_traces x1 x2 x3 s0 mod_doneMany (0 : Int32) mod_shoeDay mod_isWon mod_undoneFrom mod_changeOf mod_changeAt mod_before mod_behind)))
def B_X12_changes_0   (g61 : Int32 → Int32 → Int32 → Int32 → Int32 → Int32 → Int32 → (Nat → Int32) → (Nat → Int32) → (Nat → Int32) → (Nat → Int32) → (Nat → Int32) → (Nat → Int32) → (Nat → Int32) → (Option (Int32 × Int32 × Int32 × (Nat → Int32) × (Nat → Int32) × (Nat → Int32) × (Nat → Int32) × (Nat → Int32) × (Nat → Int32) × (Nat → Int32)))) (mod_code : Int32) (mod_shoes : Int32) (mod_claims : Int32) (mod_taped : Int32) (mod_here : Int32) (mod_fault : Int32) (mod_suits : Int32) (mod_open : Int32) (mod_laid : Int32) (mod_isBoth : Int32) (mod_wished : Int32) (mod_bestMany : Int32) (mod_bestRow : Int32) (mod_ringDigits : Int32) (mod_traces : Int32) (x1 : Int32) (x2 : Int32) (x3 : Int32) (mod_doneMany : Int32) (mod_undoneMany : Int32) (mod_shoeDay : Nat → Int32) (mod_isWon : Nat → Int32) (mod_undoneFrom : Nat → Int32) (mod_changeOf : Nat → Int32) (mod_changeAt : Nat → Int32) (mod_before : Nat → Int32) (mod_behind : Nat → Int32) : Option (Int32 × Int32 × Int32 × (Nat → Int32) × (Nat → Int32) × (Nat → Int32) × (Nat → Int32) × (Nat → Int32) × (Nat → Int32) × (Nat → Int32)) :=
  (if x1 = 0 then (if (x2 < 0 ∨ 45 ≤ x2.toNatClampNeg) then none else (B_X12_changes_33 g61 mod_code mod_shoes mod_claims mod_taped mod_here mod_fault mod_suits mod_open mod_laid mod_isBoth mod_wished mod_bestMany mod_bestRow mod_ringDigits mod_traces x1 x2 x3 (mod_isWon x2.toNatClampNeg) mod_doneMany mod_undoneMany mod_shoeDay mod_isWon mod_undoneFrom mod_changeOf mod_changeAt mod_before mod_behind)) else (if x1 = (1 : Int32) then (if (x2 < 0 ∨ 45 ≤ x2.toNatClampNeg) then none else (B_X12_changes_33 g61 mod_code mod_shoes mod_claims mod_taped mod_here mod_fault mod_suits mod_open mod_laid mod_isBoth mod_wished mod_bestMany mod_bestRow mod_ringDigits mod_traces x1 x2 x3 (mod_undoneFrom x2.toNatClampNeg) mod_doneMany mod_undoneMany mod_shoeDay mod_isWon mod_undoneFrom mod_changeOf mod_changeAt mod_before mod_behind)) else (if (x2 < 0 ∨ 40 ≤ x2.toNatClampNeg) then none else (B_X12_changes_33 g61 mod_code mod_shoes mod_claims mod_taped mod_here mod_fault mod_suits mod_open mod_laid mod_isBoth mod_wished mod_bestMany mod_bestRow mod_ringDigits mod_traces x1 x2 x3 (mod_shoeDay x2.toNatClampNeg) mod_doneMany mod_undoneMany mod_shoeDay mod_isWon mod_undoneFrom mod_changeOf mod_changeAt mod_before mod_behind))))
def G_X12_changes   (mod_code : Int32) (mod_shoes : Int32) (mod_claims : Int32) (mod_taped : Int32) (mod_here : Int32) (mod_fault : Int32) (mod_suits : Int32) (mod_open : Int32) (mod_laid : Int32) (mod_isBoth : Int32) (mod_wished : Int32) (mod_bestMany : Int32) (mod_bestRow : Int32) (mod_ringDigits : Int32) (mod_traces : Int32) (n : Nat) : (Int32 → Int32 → Int32 → Int32 → Int32 → Int32 → Int32 → (Nat → Int32) → (Nat → Int32) → (Nat → Int32) → (Nat → Int32) → (Nat → Int32) → (Nat → Int32) → (Nat → Int32) → (Option (Int32 × Int32 × Int32 × (Nat → Int32) × (Nat → Int32) × (Nat → Int32) × (Nat → Int32) × (Nat → Int32) × (Nat → Int32) × (Nat → Int32)))) :=
  Nat.rec (motive := fun _ => (Int32 → Int32 → Int32 → Int32 → Int32 → Int32 → Int32 → (Nat → Int32) → (Nat → Int32) → (Nat → Int32) → (Nat → Int32) → (Nat → Int32) → (Nat → Int32) → (Nat → Int32) → (Option (Int32 × Int32 × Int32 × (Nat → Int32) × (Nat → Int32) × (Nat → Int32) × (Nat → Int32) × (Nat → Int32) × (Nat → Int32) × (Nat → Int32))))) ((fun _ _ _ _ _ _ _ _ _ _ _ _ _ _ => none)) (fun _ ih => (B_X12_changes_61   ih mod_code mod_shoes mod_claims mod_taped mod_here mod_fault mod_suits mod_open mod_laid mod_isBoth mod_wished mod_bestMany mod_bestRow mod_ringDigits mod_traces)) n
def f_X12_changes   (n : Nat) (x1 : Int32) (x2 : Int32) (x3 : Int32) (mod_code : Int32) (mod_shoes : Int32) (mod_claims : Int32) (mod_taped : Int32) (mod_here : Int32) (mod_fault : Int32) (mod_suits : Int32) (mod_doneMany : Int32) (mod_undoneMany : Int32) (mod_open : Int32) (mod_laid : Int32) (mod_isBoth : Int32) (mod_wished : Int32) (mod_bestMany : Int32) (mod_bestRow : Int32) (mod_ringDigits : Int32) (mod_traces : Int32) (mod_shoeDay : Nat → Int32) (mod_isWon : Nat → Int32) (mod_undoneFrom : Nat → Int32) (mod_changeOf : Nat → Int32) (mod_changeAt : Nat → Int32) (mod_before : Nat → Int32) (mod_behind : Nat → Int32) : Option (Int32 × Int32 × Int32 × (Nat → Int32) × (Nat → Int32) × (Nat → Int32) × (Nat → Int32) × (Nat → Int32) × (Nat → Int32) × (Nat → Int32)) := B_X12_changes_0   ((G_X12_changes   mod_code mod_shoes mod_claims mod_taped mod_here mod_fault mod_suits mod_open mod_laid mod_isBoth mod_wished mod_bestMany mod_bestRow mod_ringDigits mod_traces n)) mod_code mod_shoes mod_claims mod_taped mod_here mod_fault mod_suits mod_open mod_laid mod_isBoth mod_wished mod_bestMany mod_bestRow mod_ringDigits mod_traces x1 x2 x3 mod_doneMany mod_undoneMany mod_shoeDay mod_isWon mod_undoneFrom mod_changeOf mod_changeAt mod_before mod_behind
set_option maxHeartbeats 4000000 in
set_option maxRecDepth 100000 in
theorem L_X12_changes_148 {p : Program} {l : Launch} {e : Env} {s : State} {m : MethodId} {args : Array Value} {below : List Frame} {meth : Method} {c : Code} {A : Nat → Prop} {D : va_G} {cs : Nat → ClassId} {ad : Nat → Nat} {mod_code : Int32} {mod_shoes : Int32} {mod_claims : Int32} {mod_taped : Int32} {mod_here : Int32} {mod_fault : Int32} {mod_suits : Int32} {mod_open : Int32} {mod_laid : Int32} {mod_isBoth : Int32} {mod_wished : Int32} {mod_bestMany : Int32} {mod_bestRow : Int32} {mod_ringDigits : Int32} {mod_traces : Int32} {R : Int32 × Int32 × Int32 × (Nat → Int32) × (Nat → Int32) × (Nat → Int32) × (Nat → Int32) × (Nat → Int32) × (Nat → Int32) × (Nat → Int32)} {g61 : Int32 → Int32 → Int32 → Int32 → Int32 → Int32 → Int32 → (Nat → Int32) → (Nat → Int32) → (Nat → Int32) → (Nat → Int32) → (Nat → Int32) → (Nat → Int32) → (Nat → Int32) → (Option (Int32 × Int32 × Int32 × (Nat → Int32) × (Nat → Int32) × (Nat → Int32) × (Nat → Int32) × (Nat → Int32) × (Nat → Int32) × (Nat → Int32)))} (C0 : zC p s m args meth c cX12_changes 6 (some .int) RX12 zW) (hK : va_K D classes (zT cs) s) (hA : ∀ q : Nat, s.heap.size ≤ q → A q) (ih61 : ∀ (x1 : Int32) (x2 : Int32) (x3 : Int32) (x4 : Int32) (x5 : Int32) (mod_doneMany : Int32) (mod_undoneMany : Int32) (mod_shoeDay : Nat → Int32) (mod_isWon : Nat → Int32) (mod_undoneFrom : Nat → Int32) (mod_changeOf : Nat → Int32) (mod_changeAt : Nat → Int32) (mod_before : Nat → Int32) (mod_behind : Nat → Int32) (h : g61 x1 x2 x3 x4 x5 mod_doneMany mod_undoneMany mod_shoeDay mod_isWon mod_undoneFrom mod_changeOf mod_changeAt mod_before mod_behind = some R) (H : Heap) (locs : List Loc) (ls : Array Slot) (hP : va_P D classes (wl_X12_changes ad cs mod_code mod_shoes mod_claims mod_taped mod_here mod_fault mod_suits mod_doneMany mod_undoneMany mod_open mod_laid mod_isBoth mod_wished mod_bestMany mod_bestRow mod_ringDigits mod_traces mod_shoeDay mod_isWon mod_undoneFrom mod_changeOf mod_changeAt mod_before mod_behind) H) (hD : va_D A (wl_X12_changes ad cs mod_code mod_shoes mod_claims mod_taped mod_here mod_fault mod_suits mod_doneMany mod_undoneMany mod_open mod_laid mod_isBoth mod_wished mod_bestMany mod_bestRow mod_ringDigits mod_traces mod_shoeDay mod_isWon mod_undoneFrom mod_changeOf mod_changeAt mod_before mod_behind)) (hS : va_S A s.heap H locs) (hl : lv_has ls 6 [(0, .ref (ad 41)), (1, .int x1), (2, .int x2), (3, .int x3), (4, .int x4), (5, .int x5)]), W p l e rm_X12_changes s m args below meth c H locs 0 0 (MQ below (Q_X12_changes D cs ad mod_code mod_shoes mod_claims mod_taped mod_here mod_fault mod_suits mod_open mod_laid mod_isBoth mod_wished mod_bestMany mod_bestRow mod_ringDigits mod_traces A R) args s 0 0 A) (F0 m 61 ls [])) (x1 : Int32) (x2 : Int32) (x3 : Int32) (x4 : Int32) (mod_doneMany : Int32) (mod_undoneMany : Int32) (mod_shoeDay : Nat → Int32) (mod_isWon : Nat → Int32) (mod_undoneFrom : Nat → Int32) (mod_changeOf : Nat → Int32) (mod_changeAt : Nat → Int32) (mod_before : Nat → Int32) (mod_behind : Nat → Int32) (h : B_X12_changes_148 g61 mod_code mod_shoes mod_claims mod_taped mod_here mod_fault mod_suits mod_open mod_laid mod_isBoth mod_wished mod_bestMany mod_bestRow mod_ringDigits mod_traces x1 x2 x3 x4 mod_doneMany mod_undoneMany mod_shoeDay mod_isWon mod_undoneFrom mod_changeOf mod_changeAt mod_before mod_behind = some R) (H : Heap) (locs : List Loc) (ls : Array Slot) (hP : va_P D classes (wl_X12_changes ad cs mod_code mod_shoes mod_claims mod_taped mod_here mod_fault mod_suits mod_doneMany mod_undoneMany mod_open mod_laid mod_isBoth mod_wished mod_bestMany mod_bestRow mod_ringDigits mod_traces mod_shoeDay mod_isWon mod_undoneFrom mod_changeOf mod_changeAt mod_before mod_behind) H) (hD : va_D A (wl_X12_changes ad cs mod_code mod_shoes mod_claims mod_taped mod_here mod_fault mod_suits mod_doneMany mod_undoneMany mod_open mod_laid mod_isBoth mod_wished mod_bestMany mod_bestRow mod_ringDigits mod_traces mod_shoeDay mod_isWon mod_undoneFrom mod_changeOf mod_changeAt mod_before mod_behind)) (hS : va_S A s.heap H locs) (hl : lv_has ls 6 [(0, .ref (ad 41)), (1, .int x1), (2, .int x2), (3, .int x3), (4, .int x4)]) : W p l e rm_X12_changes s m args below meth c H locs 0 0 (MQ below (Q_X12_changes D cs ad mod_code mod_shoes mod_claims mod_taped mod_here mod_fault mod_suits mod_open mod_laid mod_isBoth mod_wished mod_bestMany mod_bestRow mod_ringDigits mod_traces A R) args s 0 0 A) (F0 m 148 ls []) := by
  obtain ⟨hx, hb, hr, hml, hown, ht, hlocks⟩ := id C0
  refine lv_aload_n hx hb dX12_changes_148 rfl (lv_at hl 0 rfl) ?_
  refine va_get (D := D) (ci := 12) (v := .ref (ad 62)) (C := RX12) (T := TX12) (N := 60) hx hb ht iX12 hown hK hP 0 rfl rfl 29 (by decide) (ht _ kw_1324) (fun _ h9 => h9) rfl dX12_changes_149 ?_
  refine lv_aload_n hx hb dX12_changes_152 rfl (lv_at hl 0 rfl) ?_
  refine va_get (D := D) (ci := 12) (v := .int mod_doneMany) (C := RX12) (T := TX12) (N := 60) hx hb ht iX12 hown hK hP 0 rfl rfl 27 (by decide) (ht _ kw_1322) (fun _ h9 => h9) rfl dX12_changes_153 ?_
  refine lv_iload_n hx hb dX12_changes_156 rfl (lv_at hl 1 rfl) ?_
  obtain ⟨g_27, h⟩ := zk_gd h
  obtain ⟨f_28, ef_28, h⟩ := zk_lt h
  refine va_iast hx hb hK hP hD hS 4 0 rfl rfl g_27 dX12_changes_157 (fun H locs hP hD hS => ?_)
  have hP : va_P D classes (wl_X12_changes ad cs mod_code mod_shoes mod_claims mod_taped mod_here mod_fault mod_suits mod_doneMany mod_undoneMany mod_open mod_laid mod_isBoth mod_wished mod_bestMany mod_bestRow mod_ringDigits mod_traces mod_shoeDay mod_isWon mod_undoneFrom f_28 mod_changeAt mod_before mod_behind) H := by rw [ef_28]; exact hP
  have hD : va_D A (wl_X12_changes ad cs mod_code mod_shoes mod_claims mod_taped mod_here mod_fault mod_suits mod_doneMany mod_undoneMany mod_open mod_laid mod_isBoth mod_wished mod_bestMany mod_bestRow mod_ringDigits mod_traces mod_shoeDay mod_isWon mod_undoneFrom f_28 mod_changeAt mod_before mod_behind) := by rw [ef_28]; exact hD
  refine lv_aload_n hx hb dX12_changes_158 rfl (lv_at hl 0 rfl) ?_
  refine va_get (D := D) (ci := 12) (v := .ref (ad 63)) (C := RX12) (T := TX12) (N := 60) hx hb ht iX12 hown hK hP 0 rfl rfl 30 (by decide) (ht _ kw_1325) (fun _ h9 => h9) rfl dX12_changes_159 ?_
  refine lv_aload_n hx hb dX12_changes_162 rfl (lv_at hl 0 rfl) ?_
  refine va_get (D := D) (ci := 12) (v := .int mod_doneMany) (C := RX12) (T := TX12) (N := 60) hx hb ht iX12 hown hK hP 0 rfl rfl 27 (by decide) (ht _ kw_1322) (fun _ h9 => h9) rfl dX12_changes_163 ?_
  refine lv_iload_n hx hb dX12_changes_166 rfl (lv_at hl 2 rfl) ?_
  obtain ⟨g_29, h⟩ := zk_gd h
  obtain ⟨f_30, ef_30, h⟩ := zk_lt h
  refine va_iast hx hb hK hP hD hS 5 0 rfl rfl g_29 dX12_changes_167 (fun H locs hP hD hS => ?_)
  have hP : va_P D classes (wl_X12_changes ad cs mod_code mod_shoes mod_claims mod_taped mod_here mod_fault mod_suits mod_doneMany mod_undoneMany mod_open mod_laid mod_isBoth mod_wished mod_bestMany mod_bestRow mod_ringDigits mod_traces mod_shoeDay mod_isWon mod_undoneFrom f_28 f_30 mod_before mod_behind) H := by rw [ef_30]; exact hP
  have hD : va_D A (wl_X12_changes ad cs mod_code mod_shoes mod_claims mod_taped mod_here mod_fault mod_suits mod_doneMany mod_undoneMany mod_open mod_laid mod_isBoth mod_wished mod_bestMany mod_bestRow mod_ringDigits mod_traces mod_shoeDay mod_isWon mod_undoneFrom f_28 f_30 mod_before mod_behind) := by rw [ef_30]; exact hD
  refine lv_aload_n hx hb dX12_changes_168 rfl (lv_at hl 0 rfl) ?_
  refine va_get (D := D) (ci := 12) (v := .ref (ad 64)) (C := RX12) (T := TX12) (N := 60) hx hb ht iX12 hown hK hP 0 rfl rfl 31 (by decide) (ht _ kw_1326) (fun _ h9 => h9) rfl dX12_changes_169 ?_
  refine lv_aload_n hx hb dX12_changes_172 rfl (lv_at hl 0 rfl) ?_
  refine va_get (D := D) (ci := 12) (v := .int mod_doneMany) (C := RX12) (T := TX12) (N := 60) hx hb ht iX12 hown hK hP 0 rfl rfl 27 (by decide) (ht _ kw_1322) (fun _ h9 => h9) rfl dX12_changes_173 ?_
  refine lv_iload hx hb dX12_changes_176 (lv_at hl 4 rfl) ?_
  obtain ⟨g_31, h⟩ := zk_gd h
  obtain ⟨f_32, ef_32, h⟩ := zk_lt h
  refine va_iast hx hb hK hP hD hS 6 0 rfl rfl g_31 dX12_changes_178 (fun H locs hP hD hS => ?_)
  have hP : va_P D classes (wl_X12_changes ad cs mod_code mod_shoes mod_claims mod_taped mod_here mod_fault mod_suits mod_doneMany mod_undoneMany mod_open mod_laid mod_isBoth mod_wished mod_bestMany mod_bestRow mod_ringDigits mod_traces mod_shoeDay mod_isWon mod_undoneFrom f_28 f_30 f_32 mod_behind) H := by rw [ef_32]; exact hP
  have hD : va_D A (wl_X12_changes ad cs mod_code mod_shoes mod_claims mod_taped mod_here mod_fault mod_suits mod_doneMany mod_undoneMany mod_open mod_laid mod_isBoth mod_wished mod_bestMany mod_bestRow mod_ringDigits mod_traces mod_shoeDay mod_isWon mod_undoneFrom f_28 f_30 f_32 mod_behind) := by rw [ef_32]; exact hD
  refine lv_aload_n hx hb dX12_changes_179 rfl (lv_at hl 0 rfl) ?_
  refine va_get (D := D) (ci := 12) (v := .ref (ad 65)) (C := RX12) (T := TX12) (N := 60) hx hb ht iX12 hown hK hP 0 rfl rfl 32 (by decide) (ht _ kw_1327) (fun _ h9 => h9) rfl dX12_changes_180 ?_
  refine lv_aload_n hx hb dX12_changes_183 rfl (lv_at hl 0 rfl) ?_
  refine va_get (D := D) (ci := 12) (v := .int mod_doneMany) (C := RX12) (T := TX12) (N := 60) hx hb ht iX12 hown hK hP 0 rfl rfl 27 (by decide) (ht _ kw_1322) (fun _ h9 => h9) rfl dX12_changes_184 ?_
  refine lv_iload_n hx hb dX12_changes_187 rfl (lv_at hl 3 rfl) ?_
  obtain ⟨g_33, h⟩ := zk_gd h
  obtain ⟨f_34, ef_34, h⟩ := zk_lt h
  refine va_iast hx hb hK hP hD hS 7 0 rfl rfl g_33 dX12_changes_188 (fun H locs hP hD hS => ?_)
  have hP : va_P D classes (wl_X12_changes ad cs mod_code mod_shoes mod_claims mod_taped mod_here mod_fault mod_suits mod_doneMany mod_undoneMany mod_open mod_laid mod_isBoth mod_wished mod_bestMany mod_bestRow mod_ringDigits mod_traces mod_shoeDay mod_isWon mod_undoneFrom f_28 f_30 f_32 f_34) H := by rw [ef_34]; exact hP
  have hD : va_D A (wl_X12_changes ad cs mod_code mod_shoes mod_claims mod_taped mod_here mod_fault mod_suits mod_doneMany mod_undoneMany mod_open mod_laid mod_isBoth mod_wished mod_bestMany mod_bestRow mod_ringDigits mod_traces mod_shoeDay mod_isWon mod_undoneFrom f_28 f_30 f_32 f_34) := by rw [ef_34]; exact hD
  refine lv_aload_n hx hb dX12_changes_189 rfl (lv_at hl 0 rfl) ?_
  refine lv_dup hx hb dX12_changes_190 rfl ?_
  refine va_get (D := D) (ci := 12) (v := .int mod_doneMany) (C := RX12) (T := TX12) (N := 60) hx hb ht iX12 hown hK hP 0 rfl rfl 27 (by decide) (ht _ kw_1322) (fun _ h9 => h9) rfl dX12_changes_191 ?_
  refine lv_iconst (v := (1 : Int32)) hx hb dX12_changes_194 (by decide) ?_
  refine lv_iadd hx hb dX12_changes_195 ?_
  obtain ⟨v_35, ev_35, h⟩ := zk_lt h
  refine W.eq (g2 := F0 m 196 ls [.int v_35, .ref (ad 41)]) (by rw [ev_35]) ?_
  refine va_put (D := D) (ci := 12) (v := .int v_35) (ty := .int) (C := RX12) (T := TX12) (N := 60) hx hb ht iX12 tyX12 tyX12_ok nmX12 hown hK hP hD hS 0 rfl rfl 27 (by decide) (ht _ kw_1322) (fun _ h9 => h9) rfl (by decide +kernel) rfl rfl (Nat.le_of_ble_eq_true rfl) dX12_changes_196 (fun H locs hP hD hS => ?_)
  have hP : va_P D classes (wl_X12_changes ad cs mod_code mod_shoes mod_claims mod_taped mod_here mod_fault mod_suits v_35 mod_undoneMany mod_open mod_laid mod_isBoth mod_wished mod_bestMany mod_bestRow mod_ringDigits mod_traces mod_shoeDay mod_isWon mod_undoneFrom f_28 f_30 f_32 f_34) H := hP
  have hD : va_D A (wl_X12_changes ad cs mod_code mod_shoes mod_claims mod_taped mod_here mod_fault mod_suits v_35 mod_undoneMany mod_open mod_laid mod_isBoth mod_wished mod_bestMany mod_bestRow mod_ringDigits mod_traces mod_shoeDay mod_isWon mod_undoneFrom f_28 f_30 f_32 f_34) := hD
  refine lv_aload_n hx hb dX12_changes_199 rfl (lv_at hl 0 rfl) ?_
  refine lv_iload_n hx hb dX12_changes_200 rfl (lv_at hl 1 rfl) ?_
  refine lv_iload_n hx hb dX12_changes_201 rfl (lv_at hl 2 rfl) ?_
  refine lv_iload_n hx hb dX12_changes_202 rfl (lv_at hl 3 rfl) ?_
  obtain ⟨u_36, u_37, u_38, hc_39, h⟩ := zk_o3 h
  refine zz_vv (post := (fun u => u = (u_36, u_37, u_38))) (w1 := fun u => (wl_X12_set ad cs mod_code mod_shoes mod_claims mod_taped mod_here mod_fault mod_suits v_35 mod_undoneMany mod_open mod_laid mod_isBoth mod_wished mod_bestMany mod_bestRow mod_ringDigits mod_traces u.1 u.2.1 u.2.2)) (As := [.int x1, .int x2, .int x3]) (rest := []) (c_X12_set l D cs ad  H.size x1 x2 x3 mod_code mod_shoes mod_claims mod_taped mod_here mod_fault mod_suits v_35 mod_undoneMany mod_open mod_laid mod_isBoth mod_wished mod_bestMany mod_bestRow mod_ringDigits mod_traces mod_shoeDay mod_isWon mod_undoneFrom (u_36, u_37, u_38) hc_39) ⟨hx, hb, hml, hown, ht⟩ (cwV 3 ht g_X12_247 rfl rfl rfl ⟨rfl, hd_X12_set⟩ ⟨Nat.le_of_ble_eq_true rfl, Nat.le_of_ble_eq_true rfl⟩) (va_recv hK hP (ci := 12) (q0 := 0) rfl rfl) hP hD hS hK hA [0, 1, 2, 3] rfl rfl [(ad 41), (ad 45), (ad 54), (ad 57)] rfl (fun _ => rfl) rfl hl.1 (Nat.le_of_ble_eq_true rfl) dX12_changes_203 ⟨Nat.zero_le _, Nat.zero_le _⟩ (fun u H locs hq hP hS => ?_)
  cases hq
  have hP : va_P D classes (wl_X12_changes ad cs mod_code mod_shoes mod_claims mod_taped mod_here mod_fault mod_suits v_35 mod_undoneMany mod_open mod_laid mod_isBoth mod_wished mod_bestMany mod_bestRow mod_ringDigits mod_traces u_36 u_37 u_38 f_28 f_30 f_32 f_34) H := hP
  have hD : va_D A (wl_X12_changes ad cs mod_code mod_shoes mod_claims mod_taped mod_here mod_fault mod_suits v_35 mod_undoneMany mod_open mod_laid mod_isBoth mod_wished mod_bestMany mod_bestRow mod_ringDigits mod_traces u_36 u_37 u_38 f_28 f_30 f_32 f_34) := zDk hD [(ad 41), (ad 45), (ad 54), (ad 57), (ad 62), (ad 63), (ad 64), (ad 65)] rfl rfl
  refine lv_iload hx hb dX12_changes_206 (lv_at hl 4 rfl) ?_
  exact W.iret (v := x4) hx hb hr (fun t ht2 hW => ⟨⟨x4, (v_35, mod_undoneMany, u_36, u_37, u_38, f_28, f_30, f_32, f_34), rfl, Option.some.inj h, by rw [ht2]; exact hP, hD⟩, hS.F ht2⟩) hS.2.2 dX12_changes_208 hlocks
set_option maxHeartbeats 4000000 in
set_option maxRecDepth 100000 in
theorem L_X12_changes_61 {p : Program} {l : Launch} {e : Env} {s : State} {m : MethodId} {args : Array Value} {below : List Frame} {meth : Method} {c : Code} {A : Nat → Prop} {D : va_G} {cs : Nat → ClassId} {ad : Nat → Nat} {mod_code : Int32} {mod_shoes : Int32} {mod_claims : Int32} {mod_taped : Int32} {mod_here : Int32} {mod_fault : Int32} {mod_suits : Int32} {mod_open : Int32} {mod_laid : Int32} {mod_isBoth : Int32} {mod_wished : Int32} {mod_bestMany : Int32} {mod_bestRow : Int32} {mod_ringDigits : Int32} {mod_traces : Int32} {R : Int32 × Int32 × Int32 × (Nat → Int32) × (Nat → Int32) × (Nat → Int32) × (Nat → Int32) × (Nat → Int32) × (Nat → Int32) × (Nat → Int32)} {g61 : Int32 → Int32 → Int32 → Int32 → Int32 → Int32 → Int32 → (Nat → Int32) → (Nat → Int32) → (Nat → Int32) → (Nat → Int32) → (Nat → Int32) → (Nat → Int32) → (Nat → Int32) → (Option (Int32 × Int32 × Int32 × (Nat → Int32) × (Nat → Int32) × (Nat → Int32) × (Nat → Int32) × (Nat → Int32) × (Nat → Int32) × (Nat → Int32)))} (C0 : zC p s m args meth c cX12_changes 6 (some .int) RX12 zW) (hK : va_K D classes (zT cs) s) (hA : ∀ q : Nat, s.heap.size ≤ q → A q) (ih61 : ∀ (x1 : Int32) (x2 : Int32) (x3 : Int32) (x4 : Int32) (x5 : Int32) (mod_doneMany : Int32) (mod_undoneMany : Int32) (mod_shoeDay : Nat → Int32) (mod_isWon : Nat → Int32) (mod_undoneFrom : Nat → Int32) (mod_changeOf : Nat → Int32) (mod_changeAt : Nat → Int32) (mod_before : Nat → Int32) (mod_behind : Nat → Int32) (h : g61 x1 x2 x3 x4 x5 mod_doneMany mod_undoneMany mod_shoeDay mod_isWon mod_undoneFrom mod_changeOf mod_changeAt mod_before mod_behind = some R) (H : Heap) (locs : List Loc) (ls : Array Slot) (hP : va_P D classes (wl_X12_changes ad cs mod_code mod_shoes mod_claims mod_taped mod_here mod_fault mod_suits mod_doneMany mod_undoneMany mod_open mod_laid mod_isBoth mod_wished mod_bestMany mod_bestRow mod_ringDigits mod_traces mod_shoeDay mod_isWon mod_undoneFrom mod_changeOf mod_changeAt mod_before mod_behind) H) (hD : va_D A (wl_X12_changes ad cs mod_code mod_shoes mod_claims mod_taped mod_here mod_fault mod_suits mod_doneMany mod_undoneMany mod_open mod_laid mod_isBoth mod_wished mod_bestMany mod_bestRow mod_ringDigits mod_traces mod_shoeDay mod_isWon mod_undoneFrom mod_changeOf mod_changeAt mod_before mod_behind)) (hS : va_S A s.heap H locs) (hl : lv_has ls 6 [(0, .ref (ad 41)), (1, .int x1), (2, .int x2), (3, .int x3), (4, .int x4), (5, .int x5)]), W p l e rm_X12_changes s m args below meth c H locs 0 0 (MQ below (Q_X12_changes D cs ad mod_code mod_shoes mod_claims mod_taped mod_here mod_fault mod_suits mod_open mod_laid mod_isBoth mod_wished mod_bestMany mod_bestRow mod_ringDigits mod_traces A R) args s 0 0 A) (F0 m 61 ls [])) (x1 : Int32) (x2 : Int32) (x3 : Int32) (x4 : Int32) (x5 : Int32) (mod_doneMany : Int32) (mod_undoneMany : Int32) (mod_shoeDay : Nat → Int32) (mod_isWon : Nat → Int32) (mod_undoneFrom : Nat → Int32) (mod_changeOf : Nat → Int32) (mod_changeAt : Nat → Int32) (mod_before : Nat → Int32) (mod_behind : Nat → Int32) (h : B_X12_changes_61 g61 mod_code mod_shoes mod_claims mod_taped mod_here mod_fault mod_suits mod_open mod_laid mod_isBoth mod_wished mod_bestMany mod_bestRow mod_ringDigits mod_traces x1 x2 x3 x4 x5 mod_doneMany mod_undoneMany mod_shoeDay mod_isWon mod_undoneFrom mod_changeOf mod_changeAt mod_before mod_behind = some R) (H : Heap) (locs : List Loc) (ls : Array Slot) (hP : va_P D classes (wl_X12_changes ad cs mod_code mod_shoes mod_claims mod_taped mod_here mod_fault mod_suits mod_doneMany mod_undoneMany mod_open mod_laid mod_isBoth mod_wished mod_bestMany mod_bestRow mod_ringDigits mod_traces mod_shoeDay mod_isWon mod_undoneFrom mod_changeOf mod_changeAt mod_before mod_behind) H) (hD : va_D A (wl_X12_changes ad cs mod_code mod_shoes mod_claims mod_taped mod_here mod_fault mod_suits mod_doneMany mod_undoneMany mod_open mod_laid mod_isBoth mod_wished mod_bestMany mod_bestRow mod_ringDigits mod_traces mod_shoeDay mod_isWon mod_undoneFrom mod_changeOf mod_changeAt mod_before mod_behind)) (hS : va_S A s.heap H locs) (hl : lv_has ls 6 [(0, .ref (ad 41)), (1, .int x1), (2, .int x2), (3, .int x3), (4, .int x4), (5, .int x5)]) : W p l e rm_X12_changes s m args below meth c H locs 0 0 (MQ below (Q_X12_changes D cs ad mod_code mod_shoes mod_claims mod_taped mod_here mod_fault mod_suits mod_open mod_laid mod_isBoth mod_wished mod_bestMany mod_bestRow mod_ringDigits mod_traces A R) args s 0 0 A) (F0 m 61 ls []) := by
  obtain ⟨hx, hb, hr, hml, hown, ht, hlocks⟩ := id C0
  refine lv_iload hx hb dX12_changes_61 (lv_at hl 5 rfl) ?_
  refine lv_bipush (v := (40 : Int32)) hx hb dX12_changes_63 (by decide) ?_
  refine lv_icmp_ge (tgt := 138) hx hb dX12_changes_65 (by decide) (fun c_8 => ?_) (fun c_8 => ?_)
  · have h := zk_t c_8 h
    refine lv_aload_n hx hb dX12_changes_138 rfl (lv_at hl 0 rfl) ?_
    refine lv_dup hx hb dX12_changes_139 rfl ?_
    refine va_get (D := D) (ci := 12) (v := .int mod_doneMany) (C := RX12) (T := TX12) (N := 60) hx hb ht iX12 hown hK hP 0 rfl rfl 27 (by decide) (ht _ kw_1322) (fun _ h9 => h9) rfl dX12_changes_140 ?_
    refine lv_iconst (v := (1 : Int32)) hx hb dX12_changes_143 (by decide) ?_
    refine lv_isub hx hb dX12_changes_144 ?_
    obtain ⟨v_9, ev_9, h⟩ := zk_lt h
    refine W.eq (g2 := F0 m 145 ls [.int v_9, .ref (ad 41)]) (by rw [ev_9]) ?_
    refine va_put (D := D) (ci := 12) (v := .int v_9) (ty := .int) (C := RX12) (T := TX12) (N := 60) hx hb ht iX12 tyX12 tyX12_ok nmX12 hown hK hP hD hS 0 rfl rfl 27 (by decide) (ht _ kw_1322) (fun _ h9 => h9) rfl (by decide +kernel) rfl rfl (Nat.le_of_ble_eq_true rfl) dX12_changes_145 (fun H locs hP hD hS => ?_)
    have hP : va_P D classes (wl_X12_changes ad cs mod_code mod_shoes mod_claims mod_taped mod_here mod_fault mod_suits v_9 mod_undoneMany mod_open mod_laid mod_isBoth mod_wished mod_bestMany mod_bestRow mod_ringDigits mod_traces mod_shoeDay mod_isWon mod_undoneFrom mod_changeOf mod_changeAt mod_before mod_behind) H := hP
    have hD : va_D A (wl_X12_changes ad cs mod_code mod_shoes mod_claims mod_taped mod_here mod_fault mod_suits v_9 mod_undoneMany mod_open mod_laid mod_isBoth mod_wished mod_bestMany mod_bestRow mod_ringDigits mod_traces mod_shoeDay mod_isWon mod_undoneFrom mod_changeOf mod_changeAt mod_before mod_behind) := hD
    exact L_X12_changes_148 C0 hK hA  ih61 x1 x2 x3 x4 v_9 mod_undoneMany mod_shoeDay mod_isWon mod_undoneFrom mod_changeOf mod_changeAt mod_before mod_behind h H locs ls hP hD hS (lv_sub hl [0, 1, 2, 3, 4] rfl)
  · have h := zk_f c_8 h
    refine lv_aload_n hx hb dX12_changes_68 rfl (lv_at hl 0 rfl) ?_
    refine va_get (D := D) (ci := 12) (v := .ref (ad 62)) (C := RX12) (T := TX12) (N := 60) hx hb ht iX12 hown hK hP 0 rfl rfl 29 (by decide) (ht _ kw_1324) (fun _ h9 => h9) rfl dX12_changes_69 ?_
    refine lv_iload hx hb dX12_changes_72 (lv_at hl 5 rfl) ?_
    refine lv_iconst (v := (1 : Int32)) hx hb dX12_changes_74 (by decide) ?_
    refine lv_isub hx hb dX12_changes_75 ?_
    refine lv_aload_n hx hb dX12_changes_76 rfl (lv_at hl 0 rfl) ?_
    refine va_get (D := D) (ci := 12) (v := .ref (ad 62)) (C := RX12) (T := TX12) (N := 60) hx hb ht iX12 hown hK hP 0 rfl rfl 29 (by decide) (ht _ kw_1324) (fun _ h9 => h9) rfl dX12_changes_77 ?_
    refine lv_iload hx hb dX12_changes_80 (lv_at hl 5 rfl) ?_
    obtain ⟨g_10, h⟩ := zk_gd h
    refine va_iald hx hb hK hP 4 0 rfl rfl g_10 dX12_changes_82 ?_
    obtain ⟨v_11, ev_11, h⟩ := zk_lt h
    refine W.eq (g2 := F0 m 83 ls [.int v_11, .int (x5 - (1 : Int32)), .ref (ad 62)]) (by rw [ev_11]) ?_
    obtain ⟨g_12, h⟩ := zk_gd h
    obtain ⟨f_13, ef_13, h⟩ := zk_lt h
    refine va_iast hx hb hK hP hD hS 4 0 rfl rfl g_12 dX12_changes_83 (fun H locs hP hD hS => ?_)
    have hP : va_P D classes (wl_X12_changes ad cs mod_code mod_shoes mod_claims mod_taped mod_here mod_fault mod_suits mod_doneMany mod_undoneMany mod_open mod_laid mod_isBoth mod_wished mod_bestMany mod_bestRow mod_ringDigits mod_traces mod_shoeDay mod_isWon mod_undoneFrom f_13 mod_changeAt mod_before mod_behind) H := by rw [ef_13]; exact hP
    have hD : va_D A (wl_X12_changes ad cs mod_code mod_shoes mod_claims mod_taped mod_here mod_fault mod_suits mod_doneMany mod_undoneMany mod_open mod_laid mod_isBoth mod_wished mod_bestMany mod_bestRow mod_ringDigits mod_traces mod_shoeDay mod_isWon mod_undoneFrom f_13 mod_changeAt mod_before mod_behind) := by rw [ef_13]; exact hD
    refine lv_aload_n hx hb dX12_changes_84 rfl (lv_at hl 0 rfl) ?_
    refine va_get (D := D) (ci := 12) (v := .ref (ad 63)) (C := RX12) (T := TX12) (N := 60) hx hb ht iX12 hown hK hP 0 rfl rfl 30 (by decide) (ht _ kw_1325) (fun _ h9 => h9) rfl dX12_changes_85 ?_
    refine lv_iload hx hb dX12_changes_88 (lv_at hl 5 rfl) ?_
    refine lv_iconst (v := (1 : Int32)) hx hb dX12_changes_90 (by decide) ?_
    refine lv_isub hx hb dX12_changes_91 ?_
    refine lv_aload_n hx hb dX12_changes_92 rfl (lv_at hl 0 rfl) ?_
    refine va_get (D := D) (ci := 12) (v := .ref (ad 63)) (C := RX12) (T := TX12) (N := 60) hx hb ht iX12 hown hK hP 0 rfl rfl 30 (by decide) (ht _ kw_1325) (fun _ h9 => h9) rfl dX12_changes_93 ?_
    refine lv_iload hx hb dX12_changes_96 (lv_at hl 5 rfl) ?_
    obtain ⟨g_14, h⟩ := zk_gd h
    refine va_iald hx hb hK hP 5 0 rfl rfl g_14 dX12_changes_98 ?_
    obtain ⟨v_15, ev_15, h⟩ := zk_lt h
    refine W.eq (g2 := F0 m 99 ls [.int v_15, .int (x5 - (1 : Int32)), .ref (ad 63)]) (by rw [ev_15]) ?_
    obtain ⟨g_16, h⟩ := zk_gd h
    obtain ⟨f_17, ef_17, h⟩ := zk_lt h
    refine va_iast hx hb hK hP hD hS 5 0 rfl rfl g_16 dX12_changes_99 (fun H locs hP hD hS => ?_)
    have hP : va_P D classes (wl_X12_changes ad cs mod_code mod_shoes mod_claims mod_taped mod_here mod_fault mod_suits mod_doneMany mod_undoneMany mod_open mod_laid mod_isBoth mod_wished mod_bestMany mod_bestRow mod_ringDigits mod_traces mod_shoeDay mod_isWon mod_undoneFrom f_13 f_17 mod_before mod_behind) H := by rw [ef_17]; exact hP
    have hD : va_D A (wl_X12_changes ad cs mod_code mod_shoes mod_claims mod_taped mod_here mod_fault mod_suits mod_doneMany mod_undoneMany mod_open mod_laid mod_isBoth mod_wished mod_bestMany mod_bestRow mod_ringDigits mod_traces mod_shoeDay mod_isWon mod_undoneFrom f_13 f_17 mod_before mod_behind) := by rw [ef_17]; exact hD
    refine lv_aload_n hx hb dX12_changes_100 rfl (lv_at hl 0 rfl) ?_
    refine va_get (D := D) (ci := 12) (v := .ref (ad 64)) (C := RX12) (T := TX12) (N := 60) hx hb ht iX12 hown hK hP 0 rfl rfl 31 (by decide) (ht _ kw_1326) (fun _ h9 => h9) rfl dX12_changes_101 ?_
    refine lv_iload hx hb dX12_changes_104 (lv_at hl 5 rfl) ?_
    refine lv_iconst (v := (1 : Int32)) hx hb dX12_changes_106 (by decide) ?_
    refine lv_isub hx hb dX12_changes_107 ?_
    refine lv_aload_n hx hb dX12_changes_108 rfl (lv_at hl 0 rfl) ?_
    refine va_get (D := D) (ci := 12) (v := .ref (ad 64)) (C := RX12) (T := TX12) (N := 60) hx hb ht iX12 hown hK hP 0 rfl rfl 31 (by decide) (ht _ kw_1326) (fun _ h9 => h9) rfl dX12_changes_109 ?_
    refine lv_iload hx hb dX12_changes_112 (lv_at hl 5 rfl) ?_
    obtain ⟨g_18, h⟩ := zk_gd h
    refine va_iald hx hb hK hP 6 0 rfl rfl g_18 dX12_changes_114 ?_
    obtain ⟨v_19, ev_19, h⟩ := zk_lt h
    refine W.eq (g2 := F0 m 115 ls [.int v_19, .int (x5 - (1 : Int32)), .ref (ad 64)]) (by rw [ev_19]) ?_
    obtain ⟨g_20, h⟩ := zk_gd h
    obtain ⟨f_21, ef_21, h⟩ := zk_lt h
    refine va_iast hx hb hK hP hD hS 6 0 rfl rfl g_20 dX12_changes_115 (fun H locs hP hD hS => ?_)
    have hP : va_P D classes (wl_X12_changes ad cs mod_code mod_shoes mod_claims mod_taped mod_here mod_fault mod_suits mod_doneMany mod_undoneMany mod_open mod_laid mod_isBoth mod_wished mod_bestMany mod_bestRow mod_ringDigits mod_traces mod_shoeDay mod_isWon mod_undoneFrom f_13 f_17 f_21 mod_behind) H := by rw [ef_21]; exact hP
    have hD : va_D A (wl_X12_changes ad cs mod_code mod_shoes mod_claims mod_taped mod_here mod_fault mod_suits mod_doneMany mod_undoneMany mod_open mod_laid mod_isBoth mod_wished mod_bestMany mod_bestRow mod_ringDigits mod_traces mod_shoeDay mod_isWon mod_undoneFrom f_13 f_17 f_21 mod_behind) := by rw [ef_21]; exact hD
    refine lv_aload_n hx hb dX12_changes_116 rfl (lv_at hl 0 rfl) ?_
    refine va_get (D := D) (ci := 12) (v := .ref (ad 65)) (C := RX12) (T := TX12) (N := 60) hx hb ht iX12 hown hK hP 0 rfl rfl 32 (by decide) (ht _ kw_1327) (fun _ h9 => h9) rfl dX12_changes_117 ?_
    refine lv_iload hx hb dX12_changes_120 (lv_at hl 5 rfl) ?_
    refine lv_iconst (v := (1 : Int32)) hx hb dX12_changes_122 (by decide) ?_
    refine lv_isub hx hb dX12_changes_123 ?_
    refine lv_aload_n hx hb dX12_changes_124 rfl (lv_at hl 0 rfl) ?_
    refine va_get (D := D) (ci := 12) (v := .ref (ad 65)) (C := RX12) (T := TX12) (N := 60) hx hb ht iX12 hown hK hP 0 rfl rfl 32 (by decide) (ht _ kw_1327) (fun _ h9 => h9) rfl dX12_changes_125 ?_
    refine lv_iload hx hb dX12_changes_128 (lv_at hl 5 rfl) ?_
    obtain ⟨g_22, h⟩ := zk_gd h
    refine va_iald hx hb hK hP 7 0 rfl rfl g_22 dX12_changes_130 ?_
    obtain ⟨v_23, ev_23, h⟩ := zk_lt h
    refine W.eq (g2 := F0 m 131 ls [.int v_23, .int (x5 - (1 : Int32)), .ref (ad 65)]) (by rw [ev_23]) ?_
    obtain ⟨g_24, h⟩ := zk_gd h
    obtain ⟨f_25, ef_25, h⟩ := zk_lt h
    refine va_iast hx hb hK hP hD hS 7 0 rfl rfl g_24 dX12_changes_131 (fun H locs hP hD hS => ?_)
    have hP : va_P D classes (wl_X12_changes ad cs mod_code mod_shoes mod_claims mod_taped mod_here mod_fault mod_suits mod_doneMany mod_undoneMany mod_open mod_laid mod_isBoth mod_wished mod_bestMany mod_bestRow mod_ringDigits mod_traces mod_shoeDay mod_isWon mod_undoneFrom f_13 f_17 f_21 f_25) H := by rw [ef_25]; exact hP
    have hD : va_D A (wl_X12_changes ad cs mod_code mod_shoes mod_claims mod_taped mod_here mod_fault mod_suits mod_doneMany mod_undoneMany mod_open mod_laid mod_isBoth mod_wished mod_bestMany mod_bestRow mod_ringDigits mod_traces mod_shoeDay mod_isWon mod_undoneFrom f_13 f_17 f_21 f_25) := by rw [ef_25]; exact hD
    obtain ⟨v_26, ev_26, h⟩ := zk_lt h
    refine lv_iinc (v := v_26) (lv' := [(5, .int v_26), (0, .ref (ad 41)), (1, .int x1), (2, .int x2), (3, .int x3), (4, .int x4)]) hx hb dX12_changes_132 hl (k := 5) rfl (by rw [ev_26]; rfl) (by decide) rfl (fun ls hl => ?_)
    refine lv_goto (tgt := 61) hx hb dX12_changes_135 (by decide) ?_
    exact ih61 x1 x2 x3 x4 v_26 mod_doneMany mod_undoneMany mod_shoeDay mod_isWon mod_undoneFrom f_13 f_17 f_21 f_25 h H locs ls hP hD hS (lv_sub hl [1, 2, 3, 4, 5, 0] rfl)
set_option maxHeartbeats 4000000 in
set_option maxRecDepth 100000 in
theorem L_X12_changes_33 {p : Program} {l : Launch} {e : Env} {s : State} {m : MethodId} {args : Array Value} {below : List Frame} {meth : Method} {c : Code} {A : Nat → Prop} {D : va_G} {cs : Nat → ClassId} {ad : Nat → Nat} {mod_code : Int32} {mod_shoes : Int32} {mod_claims : Int32} {mod_taped : Int32} {mod_here : Int32} {mod_fault : Int32} {mod_suits : Int32} {mod_open : Int32} {mod_laid : Int32} {mod_isBoth : Int32} {mod_wished : Int32} {mod_bestMany : Int32} {mod_bestRow : Int32} {mod_ringDigits : Int32} {mod_traces : Int32} {R : Int32 × Int32 × Int32 × (Nat → Int32) × (Nat → Int32) × (Nat → Int32) × (Nat → Int32) × (Nat → Int32) × (Nat → Int32) × (Nat → Int32)} {g61 : Int32 → Int32 → Int32 → Int32 → Int32 → Int32 → Int32 → (Nat → Int32) → (Nat → Int32) → (Nat → Int32) → (Nat → Int32) → (Nat → Int32) → (Nat → Int32) → (Nat → Int32) → (Option (Int32 × Int32 × Int32 × (Nat → Int32) × (Nat → Int32) × (Nat → Int32) × (Nat → Int32) × (Nat → Int32) × (Nat → Int32) × (Nat → Int32)))} (C0 : zC p s m args meth c cX12_changes 6 (some .int) RX12 zW) (hK : va_K D classes (zT cs) s) (hA : ∀ q : Nat, s.heap.size ≤ q → A q) (ih61 : ∀ (x1 : Int32) (x2 : Int32) (x3 : Int32) (x4 : Int32) (x5 : Int32) (mod_doneMany : Int32) (mod_undoneMany : Int32) (mod_shoeDay : Nat → Int32) (mod_isWon : Nat → Int32) (mod_undoneFrom : Nat → Int32) (mod_changeOf : Nat → Int32) (mod_changeAt : Nat → Int32) (mod_before : Nat → Int32) (mod_behind : Nat → Int32) (h : g61 x1 x2 x3 x4 x5 mod_doneMany mod_undoneMany mod_shoeDay mod_isWon mod_undoneFrom mod_changeOf mod_changeAt mod_before mod_behind = some R) (H : Heap) (locs : List Loc) (ls : Array Slot) (hP : va_P D classes (wl_X12_changes ad cs mod_code mod_shoes mod_claims mod_taped mod_here mod_fault mod_suits mod_doneMany mod_undoneMany mod_open mod_laid mod_isBoth mod_wished mod_bestMany mod_bestRow mod_ringDigits mod_traces mod_shoeDay mod_isWon mod_undoneFrom mod_changeOf mod_changeAt mod_before mod_behind) H) (hD : va_D A (wl_X12_changes ad cs mod_code mod_shoes mod_claims mod_taped mod_here mod_fault mod_suits mod_doneMany mod_undoneMany mod_open mod_laid mod_isBoth mod_wished mod_bestMany mod_bestRow mod_ringDigits mod_traces mod_shoeDay mod_isWon mod_undoneFrom mod_changeOf mod_changeAt mod_before mod_behind)) (hS : va_S A s.heap H locs) (hl : lv_has ls 6 [(0, .ref (ad 41)), (1, .int x1), (2, .int x2), (3, .int x3), (4, .int x4), (5, .int x5)]), W p l e rm_X12_changes s m args below meth c H locs 0 0 (MQ below (Q_X12_changes D cs ad mod_code mod_shoes mod_claims mod_taped mod_here mod_fault mod_suits mod_open mod_laid mod_isBoth mod_wished mod_bestMany mod_bestRow mod_ringDigits mod_traces A R) args s 0 0 A) (F0 m 61 ls [])) (x1 : Int32) (x2 : Int32) (x3 : Int32) (s0 : Int32) (mod_doneMany : Int32) (mod_undoneMany : Int32) (mod_shoeDay : Nat → Int32) (mod_isWon : Nat → Int32) (mod_undoneFrom : Nat → Int32) (mod_changeOf : Nat → Int32) (mod_changeAt : Nat → Int32) (mod_before : Nat → Int32) (mod_behind : Nat → Int32) (h : B_X12_changes_33 g61 mod_code mod_shoes mod_claims mod_taped mod_here mod_fault mod_suits mod_open mod_laid mod_isBoth mod_wished mod_bestMany mod_bestRow mod_ringDigits mod_traces x1 x2 x3 s0 mod_doneMany mod_undoneMany mod_shoeDay mod_isWon mod_undoneFrom mod_changeOf mod_changeAt mod_before mod_behind = some R) (H : Heap) (locs : List Loc) (ls : Array Slot) (hP : va_P D classes (wl_X12_changes ad cs mod_code mod_shoes mod_claims mod_taped mod_here mod_fault mod_suits mod_doneMany mod_undoneMany mod_open mod_laid mod_isBoth mod_wished mod_bestMany mod_bestRow mod_ringDigits mod_traces mod_shoeDay mod_isWon mod_undoneFrom mod_changeOf mod_changeAt mod_before mod_behind) H) (hD : va_D A (wl_X12_changes ad cs mod_code mod_shoes mod_claims mod_taped mod_here mod_fault mod_suits mod_doneMany mod_undoneMany mod_open mod_laid mod_isBoth mod_wished mod_bestMany mod_bestRow mod_ringDigits mod_traces mod_shoeDay mod_isWon mod_undoneFrom mod_changeOf mod_changeAt mod_before mod_behind)) (hS : va_S A s.heap H locs) (hl : lv_has ls 6 [(0, .ref (ad 41)), (1, .int x1), (2, .int x2), (3, .int x3)]) : W p l e rm_X12_changes s m args below meth c H locs 0 0 (MQ below (Q_X12_changes D cs ad mod_code mod_shoes mod_claims mod_taped mod_here mod_fault mod_suits mod_open mod_laid mod_isBoth mod_wished mod_bestMany mod_bestRow mod_ringDigits mod_traces A R) args s 0 0 A) (F0 m 33 ls [.int s0]) := by
  obtain ⟨hx, hb, hr, hml, hown, ht, hlocks⟩ := id C0
  refine lv_istore (lv' := [(4, .int s0), (0, .ref (ad 41)), (1, .int x1), (2, .int x2), (3, .int x3)]) hx hb dX12_changes_33 hl (by decide) rfl (fun ls hl => ?_)
  refine lv_iload hx hb dX12_changes_35 (lv_at hl 0 rfl) ?_
  refine lv_iload_n hx hb dX12_changes_37 rfl (lv_at hl 4 rfl) ?_
  refine lv_icmp_ne (tgt := 44) hx hb dX12_changes_38 (by decide) (fun c_6 => ?_) (fun c_6 => ?_)
  · have h := zk_f c_6 h
    refine lv_aload_n hx hb dX12_changes_44 rfl (lv_at hl 1 rfl) ?_
    refine lv_iconst (v := (0 : Int32)) hx hb dX12_changes_45 (by decide) ?_
    refine va_put (D := D) (ci := 12) (v := .int (0 : Int32)) (ty := .int) (C := RX12) (T := TX12) (N := 60) hx hb ht iX12 tyX12 tyX12_ok nmX12 hown hK hP hD hS 0 rfl rfl 28 (by decide) (ht _ kw_1323) (fun _ h9 => h9) rfl (by decide +kernel) rfl rfl (Nat.le_of_ble_eq_true rfl) dX12_changes_46 (fun H locs hP hD hS => ?_)
    have hP : va_P D classes (wl_X12_changes ad cs mod_code mod_shoes mod_claims mod_taped mod_here mod_fault mod_suits mod_doneMany (0 : Int32) mod_open mod_laid mod_isBoth mod_wished mod_bestMany mod_bestRow mod_ringDigits mod_traces mod_shoeDay mod_isWon mod_undoneFrom mod_changeOf mod_changeAt mod_before mod_behind) H := hP
    have hD : va_D A (wl_X12_changes ad cs mod_code mod_shoes mod_claims mod_taped mod_here mod_fault mod_suits mod_doneMany (0 : Int32) mod_open mod_laid mod_isBoth mod_wished mod_bestMany mod_bestRow mod_ringDigits mod_traces mod_shoeDay mod_isWon mod_undoneFrom mod_changeOf mod_changeAt mod_before mod_behind) := hD
    refine lv_aload_n hx hb dX12_changes_49 rfl (lv_at hl 1 rfl) ?_
    refine va_get (D := D) (ci := 12) (v := .int mod_doneMany) (C := RX12) (T := TX12) (N := 60) hx hb ht iX12 hown hK hP 0 rfl rfl 27 (by decide) (ht _ kw_1322) (fun _ h9 => h9) rfl dX12_changes_50 ?_
    refine lv_bipush (v := (40 : Int32)) hx hb dX12_changes_53 (by decide) ?_
    refine lv_icmp_ne (tgt := 148) hx hb dX12_changes_55 (by decide) (fun c_7 => ?_) (fun c_7 => ?_)
    · have h := zk_f c_7 h
      exact L_X12_changes_148 C0 hK hA  ih61 x1 x2 x3 s0 mod_doneMany (0 : Int32) mod_shoeDay mod_isWon mod_undoneFrom mod_changeOf mod_changeAt mod_before mod_behind h H locs ls hP hD hS (lv_sub hl [1, 2, 3, 4, 0] rfl)
    · have h := zk_t c_7 h
      refine lv_iconst (v := (1 : Int32)) hx hb dX12_changes_58 (by decide) ?_
      refine lv_istore (lv' := [(5, .int (1 : Int32)), (4, .int s0), (0, .ref (ad 41)), (1, .int x1), (2, .int x2), (3, .int x3)]) hx hb dX12_changes_59 hl (by decide) rfl (fun ls hl => ?_)
      exact ih61 x1 x2 x3 s0 (1 : Int32) mod_doneMany (0 : Int32) mod_shoeDay mod_isWon mod_undoneFrom mod_changeOf mod_changeAt mod_before mod_behind h H locs ls hP hD hS (lv_sub hl [2, 3, 4, 5, 1, 0] rfl)
  · have h := zk_t c_6 h
    refine lv_iload hx hb dX12_changes_41 (lv_at hl 0 rfl) ?_
    exact W.iret (v := s0) hx hb hr (fun t ht2 hW => ⟨⟨s0, (mod_doneMany, mod_undoneMany, mod_shoeDay, mod_isWon, mod_undoneFrom, mod_changeOf, mod_changeAt, mod_before, mod_behind), rfl, Option.some.inj h, by rw [ht2]; exact hP, hD⟩, hS.F ht2⟩) hS.2.2 dX12_changes_43 hlocks
set_option maxHeartbeats 4000000 in
set_option maxRecDepth 100000 in
theorem L_X12_changes_0 {p : Program} {l : Launch} {e : Env} {s : State} {m : MethodId} {args : Array Value} {below : List Frame} {meth : Method} {c : Code} {A : Nat → Prop} {D : va_G} {cs : Nat → ClassId} {ad : Nat → Nat} {mod_code : Int32} {mod_shoes : Int32} {mod_claims : Int32} {mod_taped : Int32} {mod_here : Int32} {mod_fault : Int32} {mod_suits : Int32} {mod_open : Int32} {mod_laid : Int32} {mod_isBoth : Int32} {mod_wished : Int32} {mod_bestMany : Int32} {mod_bestRow : Int32} {mod_ringDigits : Int32} {mod_traces : Int32} {R : Int32 × Int32 × Int32 × (Nat → Int32) × (Nat → Int32) × (Nat → Int32) × (Nat → Int32) × (Nat → Int32) × (Nat → Int32) × (Nat → Int32)} {g61 : Int32 → Int32 → Int32 → Int32 → Int32 → Int32 → Int32 → (Nat → Int32) → (Nat → Int32) → (Nat → Int32) → (Nat → Int32) → (Nat → Int32) → (Nat → Int32) → (Nat → Int32) → (Option (Int32 × Int32 × Int32 × (Nat → Int32) × (Nat → Int32) × (Nat → Int32) × (Nat → Int32) × (Nat → Int32) × (Nat → Int32) × (Nat → Int32)))} (C0 : zC p s m args meth c cX12_changes 6 (some .int) RX12 zW) (hK : va_K D classes (zT cs) s) (hA : ∀ q : Nat, s.heap.size ≤ q → A q) (ih61 : ∀ (x1 : Int32) (x2 : Int32) (x3 : Int32) (x4 : Int32) (x5 : Int32) (mod_doneMany : Int32) (mod_undoneMany : Int32) (mod_shoeDay : Nat → Int32) (mod_isWon : Nat → Int32) (mod_undoneFrom : Nat → Int32) (mod_changeOf : Nat → Int32) (mod_changeAt : Nat → Int32) (mod_before : Nat → Int32) (mod_behind : Nat → Int32) (h : g61 x1 x2 x3 x4 x5 mod_doneMany mod_undoneMany mod_shoeDay mod_isWon mod_undoneFrom mod_changeOf mod_changeAt mod_before mod_behind = some R) (H : Heap) (locs : List Loc) (ls : Array Slot) (hP : va_P D classes (wl_X12_changes ad cs mod_code mod_shoes mod_claims mod_taped mod_here mod_fault mod_suits mod_doneMany mod_undoneMany mod_open mod_laid mod_isBoth mod_wished mod_bestMany mod_bestRow mod_ringDigits mod_traces mod_shoeDay mod_isWon mod_undoneFrom mod_changeOf mod_changeAt mod_before mod_behind) H) (hD : va_D A (wl_X12_changes ad cs mod_code mod_shoes mod_claims mod_taped mod_here mod_fault mod_suits mod_doneMany mod_undoneMany mod_open mod_laid mod_isBoth mod_wished mod_bestMany mod_bestRow mod_ringDigits mod_traces mod_shoeDay mod_isWon mod_undoneFrom mod_changeOf mod_changeAt mod_before mod_behind)) (hS : va_S A s.heap H locs) (hl : lv_has ls 6 [(0, .ref (ad 41)), (1, .int x1), (2, .int x2), (3, .int x3), (4, .int x4), (5, .int x5)]), W p l e rm_X12_changes s m args below meth c H locs 0 0 (MQ below (Q_X12_changes D cs ad mod_code mod_shoes mod_claims mod_taped mod_here mod_fault mod_suits mod_open mod_laid mod_isBoth mod_wished mod_bestMany mod_bestRow mod_ringDigits mod_traces A R) args s 0 0 A) (F0 m 61 ls [])) (x1 : Int32) (x2 : Int32) (x3 : Int32) (mod_doneMany : Int32) (mod_undoneMany : Int32) (mod_shoeDay : Nat → Int32) (mod_isWon : Nat → Int32) (mod_undoneFrom : Nat → Int32) (mod_changeOf : Nat → Int32) (mod_changeAt : Nat → Int32) (mod_before : Nat → Int32) (mod_behind : Nat → Int32) (h : B_X12_changes_0 g61 mod_code mod_shoes mod_claims mod_taped mod_here mod_fault mod_suits mod_open mod_laid mod_isBoth mod_wished mod_bestMany mod_bestRow mod_ringDigits mod_traces x1 x2 x3 mod_doneMany mod_undoneMany mod_shoeDay mod_isWon mod_undoneFrom mod_changeOf mod_changeAt mod_before mod_behind = some R) (H : Heap) (locs : List Loc) (ls : Array Slot) (hP : va_P D classes (wl_X12_changes ad cs mod_code mod_shoes mod_claims mod_taped mod_here mod_fault mod_suits mod_doneMany mod_undoneMany mod_open mod_laid mod_isBoth mod_wished mod_bestMany mod_bestRow mod_ringDigits mod_traces mod_shoeDay mod_isWon mod_undoneFrom mod_changeOf mod_changeAt mod_before mod_behind) H) (hD : va_D A (wl_X12_changes ad cs mod_code mod_shoes mod_claims mod_taped mod_here mod_fault mod_suits mod_doneMany mod_undoneMany mod_open mod_laid mod_isBoth mod_wished mod_bestMany mod_bestRow mod_ringDigits mod_traces mod_shoeDay mod_isWon mod_undoneFrom mod_changeOf mod_changeAt mod_before mod_behind)) (hS : va_S A s.heap H locs) (hl : lv_has ls 6 [(0, .ref (ad 41)), (1, .int x1), (2, .int x2), (3, .int x3)]) : W p l e rm_X12_changes s m args below meth c H locs 0 0 (MQ below (Q_X12_changes D cs ad mod_code mod_shoes mod_claims mod_taped mod_here mod_fault mod_suits mod_open mod_laid mod_isBoth mod_wished mod_bestMany mod_bestRow mod_ringDigits mod_traces A R) args s 0 0 A) (F0 m 0 ls []) := by
  obtain ⟨hx, hb, hr, hml, hown, ht, hlocks⟩ := id C0
  refine lv_iload_n hx hb dX12_changes_0 rfl (lv_at hl 1 rfl) ?_
  refine lv_if_ne (tgt := 13) hx hb dX12_changes_1 (by decide) (fun c_1 => ?_) (fun c_1 => ?_)
  · have h := zk_f c_1 h
    refine lv_iload_n hx hb dX12_changes_13 rfl (lv_at hl 1 rfl) ?_
    refine lv_iconst (v := (1 : Int32)) hx hb dX12_changes_14 (by decide) ?_
    refine lv_icmp_ne (tgt := 27) hx hb dX12_changes_15 (by decide) (fun c_2 => ?_) (fun c_2 => ?_)
    · have h := zk_f c_2 h
      refine lv_aload_n hx hb dX12_changes_27 rfl (lv_at hl 0 rfl) ?_
      refine va_get (D := D) (ci := 12) (v := .ref (ad 45)) (C := RX12) (T := TX12) (N := 60) hx hb ht iX12 hown hK hP 0 rfl rfl 5 (by decide) (ht _ kw_1300) (fun _ h9 => h9) rfl dX12_changes_28 ?_
      refine lv_iload_n hx hb dX12_changes_31 rfl (lv_at hl 2 rfl) ?_
      obtain ⟨g_3, h⟩ := zk_gd h
      refine va_iald hx hb hK hP 1 0 rfl rfl g_3 dX12_changes_32 ?_
      exact L_X12_changes_33 C0 hK hA  ih61 x1 x2 x3 (mod_shoeDay x2.toNatClampNeg) mod_doneMany mod_undoneMany mod_shoeDay mod_isWon mod_undoneFrom mod_changeOf mod_changeAt mod_before mod_behind h H locs ls hP hD hS (lv_sub hl [0, 1, 2, 3] rfl)
    · have h := zk_t c_2 h
      refine lv_aload_n hx hb dX12_changes_18 rfl (lv_at hl 0 rfl) ?_
      refine va_get (D := D) (ci := 12) (v := .ref (ad 57)) (C := RX12) (T := TX12) (N := 60) hx hb ht iX12 hown hK hP 0 rfl rfl 22 (by decide) (ht _ kw_1317) (fun _ h9 => h9) rfl dX12_changes_19 ?_
      refine lv_iload_n hx hb dX12_changes_22 rfl (lv_at hl 2 rfl) ?_
      obtain ⟨g_4, h⟩ := zk_gd h
      refine va_iald hx hb hK hP 3 0 rfl rfl g_4 dX12_changes_23 ?_
      refine lv_goto (tgt := 33) hx hb dX12_changes_24 (by decide) ?_
      exact L_X12_changes_33 C0 hK hA  ih61 x1 x2 x3 (mod_undoneFrom x2.toNatClampNeg) mod_doneMany mod_undoneMany mod_shoeDay mod_isWon mod_undoneFrom mod_changeOf mod_changeAt mod_before mod_behind h H locs ls hP hD hS (lv_sub hl [0, 1, 2, 3] rfl)
  · have h := zk_t c_1 h
    refine lv_aload_n hx hb dX12_changes_4 rfl (lv_at hl 0 rfl) ?_
    refine va_get (D := D) (ci := 12) (v := .ref (ad 54)) (C := RX12) (T := TX12) (N := 60) hx hb ht iX12 hown hK hP 0 rfl rfl 19 (by decide) (ht _ kw_1314) (fun _ h9 => h9) rfl dX12_changes_5 ?_
    refine lv_iload_n hx hb dX12_changes_8 rfl (lv_at hl 2 rfl) ?_
    obtain ⟨g_5, h⟩ := zk_gd h
    refine va_iald hx hb hK hP 2 0 rfl rfl g_5 dX12_changes_9 ?_
    refine lv_goto (tgt := 33) hx hb dX12_changes_10 (by decide) ?_
    exact L_X12_changes_33 C0 hK hA  ih61 x1 x2 x3 (mod_isWon x2.toNatClampNeg) mod_doneMany mod_undoneMany mod_shoeDay mod_isWon mod_undoneFrom mod_changeOf mod_changeAt mod_before mod_behind h H locs ls hP hD hS (lv_sub hl [0, 1, 2, 3] rfl)
theorem LG_X12_changes {p : Program} {l : Launch} {e : Env} {s : State} {m : MethodId} {args : Array Value} {below : List Frame} {meth : Method} {c : Code} {A : Nat → Prop} {D : va_G} {cs : Nat → ClassId} {ad : Nat → Nat} {mod_code : Int32} {mod_shoes : Int32} {mod_claims : Int32} {mod_taped : Int32} {mod_here : Int32} {mod_fault : Int32} {mod_suits : Int32} {mod_open : Int32} {mod_laid : Int32} {mod_isBoth : Int32} {mod_wished : Int32} {mod_bestMany : Int32} {mod_bestRow : Int32} {mod_ringDigits : Int32} {mod_traces : Int32} {R : Int32 × Int32 × Int32 × (Nat → Int32) × (Nat → Int32) × (Nat → Int32) × (Nat → Int32) × (Nat → Int32) × (Nat → Int32) × (Nat → Int32)} (C0 : zC p s m args meth c cX12_changes 6 (some .int) RX12 zW) (hK : va_K D classes (zT cs) s) (hA : ∀ q : Nat, s.heap.size ≤ q → A q) : ∀ n : Nat, (∀ (x1 : Int32) (x2 : Int32) (x3 : Int32) (x4 : Int32) (x5 : Int32) (mod_doneMany : Int32) (mod_undoneMany : Int32) (mod_shoeDay : Nat → Int32) (mod_isWon : Nat → Int32) (mod_undoneFrom : Nat → Int32) (mod_changeOf : Nat → Int32) (mod_changeAt : Nat → Int32) (mod_before : Nat → Int32) (mod_behind : Nat → Int32) (h : (G_X12_changes   mod_code mod_shoes mod_claims mod_taped mod_here mod_fault mod_suits mod_open mod_laid mod_isBoth mod_wished mod_bestMany mod_bestRow mod_ringDigits mod_traces n) x1 x2 x3 x4 x5 mod_doneMany mod_undoneMany mod_shoeDay mod_isWon mod_undoneFrom mod_changeOf mod_changeAt mod_before mod_behind = some R) (H : Heap) (locs : List Loc) (ls : Array Slot) (hP : va_P D classes (wl_X12_changes ad cs mod_code mod_shoes mod_claims mod_taped mod_here mod_fault mod_suits mod_doneMany mod_undoneMany mod_open mod_laid mod_isBoth mod_wished mod_bestMany mod_bestRow mod_ringDigits mod_traces mod_shoeDay mod_isWon mod_undoneFrom mod_changeOf mod_changeAt mod_before mod_behind) H) (hD : va_D A (wl_X12_changes ad cs mod_code mod_shoes mod_claims mod_taped mod_here mod_fault mod_suits mod_doneMany mod_undoneMany mod_open mod_laid mod_isBoth mod_wished mod_bestMany mod_bestRow mod_ringDigits mod_traces mod_shoeDay mod_isWon mod_undoneFrom mod_changeOf mod_changeAt mod_before mod_behind)) (hS : va_S A s.heap H locs) (hl : lv_has ls 6 [(0, .ref (ad 41)), (1, .int x1), (2, .int x2), (3, .int x3), (4, .int x4), (5, .int x5)]), W p l e rm_X12_changes s m args below meth c H locs 0 0 (MQ below (Q_X12_changes D cs ad mod_code mod_shoes mod_claims mod_taped mod_here mod_fault mod_suits mod_open mod_laid mod_isBoth mod_wished mod_bestMany mod_bestRow mod_ringDigits mod_traces A R) args s 0 0 A) (F0 m 61 ls [])) := by
  intro n
  induction n with
  | zero =>
    refine ?_ <;> (intros; rename_i h _ _ _ _ _ _ _; cases h)
  | succ n ih =>
    exact L_X12_changes_61 C0 hK hA  ih
set_option maxHeartbeats 4000000 in
set_option maxRecDepth 100000 in
theorem c_X12_changes (l : Launch) (D : va_G) (cs : Nat → ClassId) (ad : Nat → Nat) (sz : Nat) (n : Nat) (x1 : Int32) (x2 : Int32) (x3 : Int32) (mod_code : Int32) (mod_shoes : Int32) (mod_claims : Int32) (mod_taped : Int32) (mod_here : Int32) (mod_fault : Int32) (mod_suits : Int32) (mod_doneMany : Int32) (mod_undoneMany : Int32) (mod_open : Int32) (mod_laid : Int32) (mod_isBoth : Int32) (mod_wished : Int32) (mod_bestMany : Int32) (mod_bestRow : Int32) (mod_ringDigits : Int32) (mod_traces : Int32) (mod_shoeDay : Nat → Int32) (mod_isWon : Nat → Int32) (mod_undoneFrom : Nat → Int32) (mod_changeOf : Nat → Int32) (mod_changeAt : Nat → Int32) (mod_before : Nat → Int32) (mod_behind : Nat → Int32) (R : Int32 × Int32 × Int32 × (Nat → Int32) × (Nat → Int32) × (Nat → Int32) × (Nat → Int32) × (Nat → Int32) × (Nat → Int32) × (Nat → Int32)) (h : f_X12_changes   n x1 x2 x3 mod_code mod_shoes mod_claims mod_taped mod_here mod_fault mod_suits mod_doneMany mod_undoneMany mod_open mod_laid mod_isBoth mod_wished mod_bestMany mod_bestRow mod_ringDigits mod_traces mod_shoeDay mod_isWon mod_undoneFrom mod_changeOf mod_changeAt mod_before mod_behind = some R) : Met l yX12_changes (z_X12_changes) rm_X12_changes (va_Pc [.ref (ad 41), .int x1, .int x2, .int x3] (zPre D cs (wl_X12_changes ad cs mod_code mod_shoes mod_claims mod_taped mod_here mod_fault mod_suits mod_doneMany mod_undoneMany mod_open mod_laid mod_isBoth mod_wished mod_bestMany mod_bestRow mod_ringDigits mod_traces mod_shoeDay mod_isWon mod_undoneFrom mod_changeOf mod_changeAt mod_before mod_behind) sz)) (Q_X12_changes D cs ad mod_code mod_shoes mod_claims mod_taped mod_here mod_fault mod_suits mod_open mod_laid mod_isBoth mod_wished mod_bestMany mod_bestRow mod_ringDigits mod_traces (va_A (wl_X12_changes ad cs mod_code mod_shoes mod_claims mod_taped mod_here mod_fault mod_suits mod_doneMany mod_undoneMany mod_open mod_laid mod_isBoth mod_wished mod_bestMany mod_bestRow mod_ringDigits mod_traces mod_shoeDay mod_isWon mod_undoneFrom mod_changeOf mod_changeAt mod_before mod_behind) sz) R) 0 0 (va_A (wl_X12_changes ad cs mod_code mod_shoes mod_claims mod_taped mod_here mod_fault mod_suits mod_doneMany mod_undoneMany mod_open mod_laid mod_isBoth mod_wished mod_bestMany mod_bestRow mod_ringDigits mod_traces mod_shoeDay mod_isWon mod_undoneFrom mod_changeOf mod_changeAt mod_before mod_behind) sz) := by
  refine Met.ofW (cc := cX12_changes) (maxL := 6) (ret := (some .int)) (by decide) rfl ?_
  intro p e s m args below meth c s₁ B hml hv
  obtain ⟨rfl, hsz, hP, hK, hD0⟩ := hv
  subst hsz
  have hD := hD0.self (sz := s.heap.size)
  have C0 : zC p s m _ meth c cX12_changes 6 (some .int) RX12 zW := ⟨B.exec, B.bytes, B.returns, hml, findClass_of_methodNamed B.named, fun w hw => atoms_spec (ws := z_X12_changes) B.pre w (List.mem_cons_of_mem _ hw), B.notSynchronized⟩
  have hA : ∀ q : Nat, s.heap.size ≤ q → va_A (wl_X12_changes ad cs mod_code mod_shoes mod_claims mod_taped mod_here mod_fault mod_suits mod_doneMany mod_undoneMany mod_open mod_laid mod_isBoth mod_wished mod_bestMany mod_bestRow mod_ringDigits mod_traces mod_shoeDay mod_isWon mod_undoneFrom mod_changeOf mod_changeAt mod_before mod_behind) s.heap.size q := fun q h => Or.inr h
  have hl := lv_entry ([.ref (ad 41), .int x1, .int x2, .int x3]) (n := 6) (Nat.le_of_ble_eq_true rfl)
  rw [lg_entry_eq]
  generalize (lg_sl ([.ref (ad 41), .int x1, .int x2, .int x3]) ++ List.replicate (6 - (lg_sl ([.ref (ad 41), .int x1, .int x2, .int x3])).length) Slot.unset).toArray = ls at hl ⊢
  exact L_X12_changes_0 C0 hK hA  ((LG_X12_changes C0 hK hA  n)) x1 x2 x3 mod_doneMany mod_undoneMany mod_shoeDay mod_isWon mod_undoneFrom mod_changeOf mod_changeAt mod_before mod_behind h s.heap [] ls hP hD va_S.rf hl
theorem zh_cX12_undo_0 : zck [42, 180, 0, 244, 154, 0, 6, 16, 251, 172, 42, 89, 180, 0, 244, 4, 100, 181, 0, 244, 42, 89] (zdu 0 cX12_undo.data.toList) = true := by decide +kernel
theorem dX12_undo_0 : decode cX12_undo 0 = .ok (.aload_n 0, 1) := zo_42 zh_cX12_undo_0 0 rfl
theorem dX12_undo_1 : decode cX12_undo 1 = .ok (.getfield 244, 3) := zo_180 zh_cX12_undo_0 1 rfl
theorem dX12_undo_4 : decode cX12_undo 4 = .ok (.ifCond .ne 6, 3) := zo_p154 zh_cX12_undo_0 4 6 rfl rfl
theorem dX12_undo_7 : decode cX12_undo 7 = .ok (.bipush (-5), 2) := zo_n16 zh_cX12_undo_0 7 4 rfl rfl
theorem dX12_undo_9 : decode cX12_undo 9 = .ok (.ireturn, 1) := zo_172 zh_cX12_undo_0 9 rfl
theorem dX12_undo_10 : decode cX12_undo 10 = .ok (.aload_n 0, 1) := zo_42 zh_cX12_undo_0 10 rfl
theorem dX12_undo_11 : decode cX12_undo 11 = .ok (.dup, 1) := zo_89 zh_cX12_undo_0 11 rfl
theorem dX12_undo_12 : decode cX12_undo 12 = .ok (.getfield 244, 3) := zo_180 zh_cX12_undo_0 12 rfl
theorem dX12_undo_15 : decode cX12_undo 15 = .ok (.iconst 1, 1) := zo_4 zh_cX12_undo_0 15 rfl
theorem dX12_undo_16 : decode cX12_undo 16 = .ok (.isub, 1) := zo_100 zh_cX12_undo_0 16 rfl
theorem dX12_undo_17 : decode cX12_undo 17 = .ok (.putfield 244, 3) := zo_181 zh_cX12_undo_0 17 rfl
theorem zh_cX12_undo_1 : zck [42, 89, 180, 0, 241, 4, 96, 181, 0, 241, 42, 42, 180, 0, 71, 42, 180, 0, 244, 46, 42, 180] (zdu 20 cX12_undo.data.toList) = true := by decide +kernel
theorem dX12_undo_20 : decode cX12_undo 20 = .ok (.aload_n 0, 1) := zo_42 zh_cX12_undo_1 0 rfl
theorem dX12_undo_21 : decode cX12_undo 21 = .ok (.dup, 1) := zo_89 zh_cX12_undo_1 1 rfl
theorem dX12_undo_22 : decode cX12_undo 22 = .ok (.getfield 241, 3) := zo_180 zh_cX12_undo_1 2 rfl
theorem dX12_undo_25 : decode cX12_undo 25 = .ok (.iconst 1, 1) := zo_4 zh_cX12_undo_1 5 rfl
theorem dX12_undo_26 : decode cX12_undo 26 = .ok (.iadd, 1) := zo_96 zh_cX12_undo_1 6 rfl
theorem dX12_undo_27 : decode cX12_undo 27 = .ok (.putfield 241, 3) := zo_181 zh_cX12_undo_1 7 rfl
theorem dX12_undo_30 : decode cX12_undo 30 = .ok (.aload_n 0, 1) := zo_42 zh_cX12_undo_1 10 rfl
theorem dX12_undo_31 : decode cX12_undo 31 = .ok (.aload_n 0, 1) := zo_42 zh_cX12_undo_1 11 rfl
theorem dX12_undo_32 : decode cX12_undo 32 = .ok (.getfield 71, 3) := zo_180 zh_cX12_undo_1 12 rfl
theorem dX12_undo_35 : decode cX12_undo 35 = .ok (.aload_n 0, 1) := zo_42 zh_cX12_undo_1 15 rfl
theorem dX12_undo_36 : decode cX12_undo 36 = .ok (.getfield 244, 3) := zo_180 zh_cX12_undo_1 16 rfl
theorem dX12_undo_39 : decode cX12_undo 39 = .ok (.iaload, 1) := zo_46 zh_cX12_undo_1 19 rfl
theorem zh_cX12_undo_2 : zck [42, 180, 0, 74, 42, 180, 0, 244, 46, 42, 180, 0, 77, 42, 180, 0, 244, 46, 182, 0, 247, 42] (zdu 40 cX12_undo.data.toList) = true := by decide +kernel
theorem dX12_undo_40 : decode cX12_undo 40 = .ok (.aload_n 0, 1) := zo_42 zh_cX12_undo_2 0 rfl
theorem dX12_undo_41 : decode cX12_undo 41 = .ok (.getfield 74, 3) := zo_180 zh_cX12_undo_2 1 rfl
theorem dX12_undo_44 : decode cX12_undo 44 = .ok (.aload_n 0, 1) := zo_42 zh_cX12_undo_2 4 rfl
theorem dX12_undo_45 : decode cX12_undo 45 = .ok (.getfield 244, 3) := zo_180 zh_cX12_undo_2 5 rfl
theorem dX12_undo_48 : decode cX12_undo 48 = .ok (.iaload, 1) := zo_46 zh_cX12_undo_2 8 rfl
theorem dX12_undo_49 : decode cX12_undo 49 = .ok (.aload_n 0, 1) := zo_42 zh_cX12_undo_2 9 rfl
theorem dX12_undo_50 : decode cX12_undo 50 = .ok (.getfield 77, 3) := zo_180 zh_cX12_undo_2 10 rfl
theorem dX12_undo_53 : decode cX12_undo 53 = .ok (.aload_n 0, 1) := zo_42 zh_cX12_undo_2 13 rfl
theorem dX12_undo_54 : decode cX12_undo 54 = .ok (.getfield 244, 3) := zo_180 zh_cX12_undo_2 14 rfl
theorem dX12_undo_57 : decode cX12_undo 57 = .ok (.iaload, 1) := zo_46 zh_cX12_undo_2 17 rfl
theorem dX12_undo_58 : decode cX12_undo 58 = .ok (.invokevirtual 247, 3) := zo_182 zh_cX12_undo_2 18 rfl
theorem zh_cX12_undo_3 : zck [247, 42, 180, 0, 244, 172] (zdu 60 cX12_undo.data.toList) = true := by decide +kernel
theorem dX12_undo_61 : decode cX12_undo 61 = .ok (.aload_n 0, 1) := zo_42 zh_cX12_undo_3 1 rfl
theorem dX12_undo_62 : decode cX12_undo 62 = .ok (.getfield 244, 3) := zo_180 zh_cX12_undo_3 2 rfl
theorem dX12_undo_65 : decode cX12_undo 65 = .ok (.ireturn, 1) := zo_172 zh_cX12_undo_3 5 rfl
abbrev z_X12_undo : List Cond := .code yX12_undo cX12_undo 1 (some .int) :: zW
abbrev wl_X12_undo (ad : Nat → Nat) (cs : Nat → ClassId)  (mod_code : Int32) (mod_shoes : Int32) (mod_claims : Int32) (mod_taped : Int32) (mod_here : Int32) (mod_fault : Int32) (mod_suits : Int32) (mod_doneMany : Int32) (mod_undoneMany : Int32) (mod_open : Int32) (mod_laid : Int32) (mod_isBoth : Int32) (mod_wished : Int32) (mod_bestMany : Int32) (mod_bestRow : Int32) (mod_ringDigits : Int32) (mod_traces : Int32) (mod_shoeDay : Nat → Int32) (mod_isWon : Nat → Int32) (mod_undoneFrom : Nat → Int32) (mod_changeOf : Nat → Int32) (mod_changeAt : Nat → Int32) (mod_before : Nat → Int32) : va_W := [((ad 41), .inr (12, [.int mod_code, .int mod_shoes, .ref (ad 42), .ref (ad 43), .ref (ad 44), .ref (ad 45), .int mod_claims, .ref (ad 46), .ref (ad 47), .ref (ad 48), .ref (ad 49), .ref (ad 50), .int mod_taped, .int mod_here, .int mod_fault, .int mod_suits, .ref (ad 51), .ref (ad 52), .ref (ad 53), .ref (ad 54), .ref (ad 55), .ref (ad 56), .ref (ad 57), .ref (ad 58), .ref (ad 59), .ref (ad 60), .ref (ad 61), .int mod_doneMany, .int mod_undoneMany, .ref (ad 62), .ref (ad 63), .ref (ad 64), .ref (ad 65), .int mod_open, .int mod_laid, .ref (ad 66), .ref (ad 67), .ref (ad 68), .ref (ad 69), .ref (ad 70), .ref (ad 71), .ref (ad 72), .ref (ad 73), .ref (ad 74), .ref (ad 75), .int mod_isBoth, .int mod_wished, .ref (ad 76), .ref (ad 77), .int mod_bestMany, .int mod_bestRow, .ref (ad 78), .ref (ad 79), .int mod_ringDigits, .int mod_traces, .ref (ad 80), .ref (ad 81), .ref (ad 82), .ref (ad 83), .ref (ad 84)])), ((ad 45), .inl (cs 0, 40, .inl mod_shoeDay)), ((ad 54), .inl (cs 0, 45, .inl mod_isWon)), ((ad 57), .inl (cs 0, 45, .inl mod_undoneFrom)), ((ad 62), .inl (cs 0, 40, .inl mod_changeOf)), ((ad 63), .inl (cs 0, 40, .inl mod_changeAt)), ((ad 64), .inl (cs 0, 40, .inl mod_before))]
def Q_X12_undo (D : va_G) (cs : Nat → ClassId) (ad : Nat → Nat)  (mod_code : Int32) (mod_shoes : Int32) (mod_claims : Int32) (mod_taped : Int32) (mod_here : Int32) (mod_fault : Int32) (mod_suits : Int32) (mod_open : Int32) (mod_laid : Int32) (mod_isBoth : Int32) (mod_wished : Int32) (mod_bestMany : Int32) (mod_bestRow : Int32) (mod_ringDigits : Int32) (mod_traces : Int32) (mod_changeOf : Nat → Int32) (mod_changeAt : Nat → Int32) (mod_before : Nat → Int32) (A : Nat → Prop) (R : Int32 × Int32 × Int32 × (Nat → Int32) × (Nat → Int32) × (Nat → Int32)) : Array Value → State → Outcome → State → Prop :=
  va_Qi (fun (r : Int32) (u : Int32 × Int32 × (Nat → Int32) × (Nat → Int32) × (Nat → Int32)) => (r, u) = R) (fun (u : Int32 × Int32 × (Nat → Int32) × (Nat → Int32) × (Nat → Int32)) (t : State) => va_P D classes (wl_X12_undo ad cs mod_code mod_shoes mod_claims mod_taped mod_here mod_fault mod_suits u.1 u.2.1 mod_open mod_laid mod_isBoth mod_wished mod_bestMany mod_bestRow mod_ringDigits mod_traces u.2.2.1 u.2.2.2.1 u.2.2.2.2 mod_changeOf mod_changeAt mod_before) t.heap ∧ va_D A (wl_X12_undo ad cs mod_code mod_shoes mod_claims mod_taped mod_here mod_fault mod_suits u.1 u.2.1 mod_open mod_laid mod_isBoth mod_wished mod_bestMany mod_bestRow mod_ringDigits mod_traces u.2.2.1 u.2.2.2.1 u.2.2.2.2 mod_changeOf mod_changeAt mod_before)) A
abbrev rm_X12_undo : Room := { frames := 1, cells := 0, slots := 0, locals := 23 }
def B_X12_undo_0    (mod_code : Int32) (mod_shoes : Int32) (mod_claims : Int32) (mod_taped : Int32) (mod_here : Int32) (mod_fault : Int32) (mod_suits : Int32) (mod_open : Int32) (mod_laid : Int32) (mod_isBoth : Int32) (mod_wished : Int32) (mod_bestMany : Int32) (mod_bestRow : Int32) (mod_ringDigits : Int32) (mod_traces : Int32) (mod_changeOf : Nat → Int32) (mod_changeAt : Nat → Int32) (mod_before : Nat → Int32) (mod_doneMany : Int32) (mod_undoneMany : Int32) (mod_shoeDay : Nat → Int32) (mod_isWon : Nat → Int32) (mod_undoneFrom : Nat → Int32) : Option (Int32 × Int32 × Int32 × (Nat → Int32) × (Nat → Int32) × (Nat → Int32)) :=
  (if mod_doneMany = 0 then (some ((-5 : Int32), mod_doneMany, mod_undoneMany, mod_shoeDay, mod_isWon, mod_undoneFrom)) else (zk_let (mod_doneMany - (1 : Int32)) (fun v_2 => (zk_let (mod_undoneMany + (1 : Int32)) (fun v_3 => (if (v_2 < 0 ∨ 40 ≤ v_2.toNatClampNeg) then none else (if (v_2 < 0 ∨ 40 ≤ v_2.toNatClampNeg) then none else (if (v_2 < 0 ∨ 40 ≤ v_2.toNatClampNeg) then none else (zk_b3 (f_X12_set (mod_changeOf v_2.toNatClampNeg) (mod_changeAt v_2.toNatClampNeg) (mod_before v_2.toNatClampNeg) mod_code mod_shoes mod_claims mod_taped mod_here mod_fault mod_suits v_2 v_3 mod_open mod_laid mod_isBoth mod_wished mod_bestMany mod_bestRow mod_ringDigits mod_traces mod_shoeDay mod_isWon mod_undoneFrom) (fun u_7 u_8 u_9 => (some (v_2, v_2, v_3, u_7, u_8, u_9))))))))))))
def f_X12_undo    (mod_code : Int32) (mod_shoes : Int32) (mod_claims : Int32) (mod_taped : Int32) (mod_here : Int32) (mod_fault : Int32) (mod_suits : Int32) (mod_doneMany : Int32) (mod_undoneMany : Int32) (mod_open : Int32) (mod_laid : Int32) (mod_isBoth : Int32) (mod_wished : Int32) (mod_bestMany : Int32) (mod_bestRow : Int32) (mod_ringDigits : Int32) (mod_traces : Int32) (mod_shoeDay : Nat → Int32) (mod_isWon : Nat → Int32) (mod_undoneFrom : Nat → Int32) (mod_changeOf : Nat → Int32) (mod_changeAt : Nat → Int32) (mod_before : Nat → Int32) : Option (Int32 × Int32 × Int32 × (Nat → Int32) × (Nat → Int32) × (Nat → Int32)) := B_X12_undo_0   mod_code mod_shoes mod_claims mod_taped mod_here mod_fault mod_suits mod_open mod_laid mod_isBoth mod_wished mod_bestMany mod_bestRow mod_ringDigits mod_traces mod_changeOf mod_changeAt mod_before  mod_doneMany mod_undoneMany mod_shoeDay mod_isWon mod_undoneFrom
set_option maxHeartbeats 4000000 in
set_option maxRecDepth 100000 in
theorem L_X12_undo_0 {p : Program} {l : Launch} {e : Env} {s : State} {m : MethodId} {args : Array Value} {below : List Frame} {meth : Method} {c : Code} {A : Nat → Prop} {D : va_G} {cs : Nat → ClassId} {ad : Nat → Nat} {mod_code : Int32} {mod_shoes : Int32} {mod_claims : Int32} {mod_taped : Int32} {mod_here : Int32} {mod_fault : Int32} {mod_suits : Int32} {mod_open : Int32} {mod_laid : Int32} {mod_isBoth : Int32} {mod_wished : Int32} {mod_bestMany : Int32} {mod_bestRow : Int32} {mod_ringDigits : Int32} {mod_traces : Int32} {mod_changeOf : Nat → Int32} {mod_changeAt : Nat → Int32} {mod_before : Nat → Int32} {R : Int32 × Int32 × Int32 × (Nat → Int32) × (Nat → Int32) × (Nat → Int32)} (C0 : zC p s m args meth c cX12_undo 1 (some .int) RX12 zW) (hK : va_K D classes (zT cs) s) (hA : ∀ q : Nat, s.heap.size ≤ q → A q) (mod_doneMany : Int32) (mod_undoneMany : Int32) (mod_shoeDay : Nat → Int32) (mod_isWon : Nat → Int32) (mod_undoneFrom : Nat → Int32) (h : B_X12_undo_0 mod_code mod_shoes mod_claims mod_taped mod_here mod_fault mod_suits mod_open mod_laid mod_isBoth mod_wished mod_bestMany mod_bestRow mod_ringDigits mod_traces mod_changeOf mod_changeAt mod_before mod_doneMany mod_undoneMany mod_shoeDay mod_isWon mod_undoneFrom = some R) (H : Heap) (locs : List Loc) (ls : Array Slot) (hP : va_P D classes (wl_X12_undo ad cs mod_code mod_shoes mod_claims mod_taped mod_here mod_fault mod_suits mod_doneMany mod_undoneMany mod_open mod_laid mod_isBoth mod_wished mod_bestMany mod_bestRow mod_ringDigits mod_traces mod_shoeDay mod_isWon mod_undoneFrom mod_changeOf mod_changeAt mod_before) H) (hD : va_D A (wl_X12_undo ad cs mod_code mod_shoes mod_claims mod_taped mod_here mod_fault mod_suits mod_doneMany mod_undoneMany mod_open mod_laid mod_isBoth mod_wished mod_bestMany mod_bestRow mod_ringDigits mod_traces mod_shoeDay mod_isWon mod_undoneFrom mod_changeOf mod_changeAt mod_before)) (hS : va_S A s.heap H locs) (hl : lv_has ls 1 [(0, .ref (ad 41))]) : W p l e rm_X12_undo s m args below meth c H locs 0 0 (MQ below (Q_X12_undo D cs ad mod_code mod_shoes mod_claims mod_taped mod_here mod_fault mod_suits mod_open mod_laid mod_isBoth mod_wished mod_bestMany mod_bestRow mod_ringDigits mod_traces mod_changeOf mod_changeAt mod_before A R) args s 0 0 A) (F0 m 0 ls []) := by
  obtain ⟨hx, hb, hr, hml, hown, ht, hlocks⟩ := id C0
  refine lv_aload_n hx hb dX12_undo_0 rfl (lv_at hl 0 rfl) ?_
  refine va_get (D := D) (ci := 12) (v := .int mod_doneMany) (C := RX12) (T := TX12) (N := 60) hx hb ht iX12 hown hK hP 0 rfl rfl 27 (by decide) (ht _ kw_1322) (fun _ h9 => h9) rfl dX12_undo_1 ?_
  refine lv_if_ne (tgt := 10) hx hb dX12_undo_4 (by decide) (fun c_1 => ?_) (fun c_1 => ?_)
  · have h := zk_f c_1 h
    refine lv_aload_n hx hb dX12_undo_10 rfl (lv_at hl 0 rfl) ?_
    refine lv_dup hx hb dX12_undo_11 rfl ?_
    refine va_get (D := D) (ci := 12) (v := .int mod_doneMany) (C := RX12) (T := TX12) (N := 60) hx hb ht iX12 hown hK hP 0 rfl rfl 27 (by decide) (ht _ kw_1322) (fun _ h9 => h9) rfl dX12_undo_12 ?_
    refine lv_iconst (v := (1 : Int32)) hx hb dX12_undo_15 (by decide) ?_
    refine lv_isub hx hb dX12_undo_16 ?_
    obtain ⟨v_2, ev_2, h⟩ := zk_lt h
    refine W.eq (g2 := F0 m 17 ls [.int v_2, .ref (ad 41)]) (by rw [ev_2]) ?_
    refine va_put (D := D) (ci := 12) (v := .int v_2) (ty := .int) (C := RX12) (T := TX12) (N := 60) hx hb ht iX12 tyX12 tyX12_ok nmX12 hown hK hP hD hS 0 rfl rfl 27 (by decide) (ht _ kw_1322) (fun _ h9 => h9) rfl (by decide +kernel) rfl rfl (Nat.le_of_ble_eq_true rfl) dX12_undo_17 (fun H locs hP hD hS => ?_)
    have hP : va_P D classes (wl_X12_undo ad cs mod_code mod_shoes mod_claims mod_taped mod_here mod_fault mod_suits v_2 mod_undoneMany mod_open mod_laid mod_isBoth mod_wished mod_bestMany mod_bestRow mod_ringDigits mod_traces mod_shoeDay mod_isWon mod_undoneFrom mod_changeOf mod_changeAt mod_before) H := hP
    have hD : va_D A (wl_X12_undo ad cs mod_code mod_shoes mod_claims mod_taped mod_here mod_fault mod_suits v_2 mod_undoneMany mod_open mod_laid mod_isBoth mod_wished mod_bestMany mod_bestRow mod_ringDigits mod_traces mod_shoeDay mod_isWon mod_undoneFrom mod_changeOf mod_changeAt mod_before) := hD
    refine lv_aload_n hx hb dX12_undo_20 rfl (lv_at hl 0 rfl) ?_
    refine lv_dup hx hb dX12_undo_21 rfl ?_
    refine va_get (D := D) (ci := 12) (v := .int mod_undoneMany) (C := RX12) (T := TX12) (N := 60) hx hb ht iX12 hown hK hP 0 rfl rfl 28 (by decide) (ht _ kw_1323) (fun _ h9 => h9) rfl dX12_undo_22 ?_
    refine lv_iconst (v := (1 : Int32)) hx hb dX12_undo_25 (by decide) ?_
    refine lv_iadd hx hb dX12_undo_26 ?_
    obtain ⟨v_3, ev_3, h⟩ := zk_lt h
    refine W.eq (g2 := F0 m 27 ls [.int v_3, .ref (ad 41)]) (by rw [ev_3]) ?_
    refine va_put (D := D) (ci := 12) (v := .int v_3) (ty := .int) (C := RX12) (T := TX12) (N := 60) hx hb ht iX12 tyX12 tyX12_ok nmX12 hown hK hP hD hS 0 rfl rfl 28 (by decide) (ht _ kw_1323) (fun _ h9 => h9) rfl (by decide +kernel) rfl rfl (Nat.le_of_ble_eq_true rfl) dX12_undo_27 (fun H locs hP hD hS => ?_)
    have hP : va_P D classes (wl_X12_undo ad cs mod_code mod_shoes mod_claims mod_taped mod_here mod_fault mod_suits v_2 v_3 mod_open mod_laid mod_isBoth mod_wished mod_bestMany mod_bestRow mod_ringDigits mod_traces mod_shoeDay mod_isWon mod_undoneFrom mod_changeOf mod_changeAt mod_before) H := hP
    have hD : va_D A (wl_X12_undo ad cs mod_code mod_shoes mod_claims mod_taped mod_here mod_fault mod_suits v_2 v_3 mod_open mod_laid mod_isBoth mod_wished mod_bestMany mod_bestRow mod_ringDigits mod_traces mod_shoeDay mod_isWon mod_undoneFrom mod_changeOf mod_changeAt mod_before) := hD
    refine lv_aload_n hx hb dX12_undo_30 rfl (lv_at hl 0 rfl) ?_
    refine lv_aload_n hx hb dX12_undo_31 rfl (lv_at hl 0 rfl) ?_
    refine va_get (D := D) (ci := 12) (v := .ref (ad 62)) (C := RX12) (T := TX12) (N := 60) hx hb ht iX12 hown hK hP 0 rfl rfl 29 (by decide) (ht _ kw_1324) (fun _ h9 => h9) rfl dX12_undo_32 ?_
    refine lv_aload_n hx hb dX12_undo_35 rfl (lv_at hl 0 rfl) ?_
    refine va_get (D := D) (ci := 12) (v := .int v_2) (C := RX12) (T := TX12) (N := 60) hx hb ht iX12 hown hK hP 0 rfl rfl 27 (by decide) (ht _ kw_1322) (fun _ h9 => h9) rfl dX12_undo_36 ?_
    obtain ⟨g_4, h⟩ := zk_gd h
    refine va_iald hx hb hK hP 4 0 rfl rfl g_4 dX12_undo_39 ?_
    refine lv_aload_n hx hb dX12_undo_40 rfl (lv_at hl 0 rfl) ?_
    refine va_get (D := D) (ci := 12) (v := .ref (ad 63)) (C := RX12) (T := TX12) (N := 60) hx hb ht iX12 hown hK hP 0 rfl rfl 30 (by decide) (ht _ kw_1325) (fun _ h9 => h9) rfl dX12_undo_41 ?_
    refine lv_aload_n hx hb dX12_undo_44 rfl (lv_at hl 0 rfl) ?_
    refine va_get (D := D) (ci := 12) (v := .int v_2) (C := RX12) (T := TX12) (N := 60) hx hb ht iX12 hown hK hP 0 rfl rfl 27 (by decide) (ht _ kw_1322) (fun _ h9 => h9) rfl dX12_undo_45 ?_
    obtain ⟨g_5, h⟩ := zk_gd h
    refine va_iald hx hb hK hP 5 0 rfl rfl g_5 dX12_undo_48 ?_
    refine lv_aload_n hx hb dX12_undo_49 rfl (lv_at hl 0 rfl) ?_
    refine va_get (D := D) (ci := 12) (v := .ref (ad 64)) (C := RX12) (T := TX12) (N := 60) hx hb ht iX12 hown hK hP 0 rfl rfl 31 (by decide) (ht _ kw_1326) (fun _ h9 => h9) rfl dX12_undo_50 ?_
    refine lv_aload_n hx hb dX12_undo_53 rfl (lv_at hl 0 rfl) ?_
    refine va_get (D := D) (ci := 12) (v := .int v_2) (C := RX12) (T := TX12) (N := 60) hx hb ht iX12 hown hK hP 0 rfl rfl 27 (by decide) (ht _ kw_1322) (fun _ h9 => h9) rfl dX12_undo_54 ?_
    obtain ⟨g_6, h⟩ := zk_gd h
    refine va_iald hx hb hK hP 6 0 rfl rfl g_6 dX12_undo_57 ?_
    obtain ⟨u_7, u_8, u_9, hc_10, h⟩ := zk_o3 h
    refine zz_vv (post := (fun u => u = (u_7, u_8, u_9))) (w1 := fun u => (wl_X12_set ad cs mod_code mod_shoes mod_claims mod_taped mod_here mod_fault mod_suits v_2 v_3 mod_open mod_laid mod_isBoth mod_wished mod_bestMany mod_bestRow mod_ringDigits mod_traces u.1 u.2.1 u.2.2)) (As := [.int (mod_changeOf v_2.toNatClampNeg), .int (mod_changeAt v_2.toNatClampNeg), .int (mod_before v_2.toNatClampNeg)]) (rest := []) (c_X12_set l D cs ad  H.size (mod_changeOf v_2.toNatClampNeg) (mod_changeAt v_2.toNatClampNeg) (mod_before v_2.toNatClampNeg) mod_code mod_shoes mod_claims mod_taped mod_here mod_fault mod_suits v_2 v_3 mod_open mod_laid mod_isBoth mod_wished mod_bestMany mod_bestRow mod_ringDigits mod_traces mod_shoeDay mod_isWon mod_undoneFrom (u_7, u_8, u_9) hc_10) ⟨hx, hb, hml, hown, ht⟩ (cwV 3 ht g_X12_247 rfl rfl rfl ⟨rfl, hd_X12_set⟩ ⟨Nat.le_of_ble_eq_true rfl, Nat.le_of_ble_eq_true rfl⟩) (va_recv hK hP (ci := 12) (q0 := 0) rfl rfl) hP hD hS hK hA [0, 1, 2, 3] rfl rfl [(ad 41), (ad 45), (ad 54), (ad 57)] rfl (fun _ => rfl) rfl hl.1 (Nat.le_of_ble_eq_true rfl) dX12_undo_58 ⟨Nat.zero_le _, Nat.zero_le _⟩ (fun u H locs hq hP hS => ?_)
    cases hq
    have hP : va_P D classes (wl_X12_undo ad cs mod_code mod_shoes mod_claims mod_taped mod_here mod_fault mod_suits v_2 v_3 mod_open mod_laid mod_isBoth mod_wished mod_bestMany mod_bestRow mod_ringDigits mod_traces u_7 u_8 u_9 mod_changeOf mod_changeAt mod_before) H := hP
    have hD : va_D A (wl_X12_undo ad cs mod_code mod_shoes mod_claims mod_taped mod_here mod_fault mod_suits v_2 v_3 mod_open mod_laid mod_isBoth mod_wished mod_bestMany mod_bestRow mod_ringDigits mod_traces u_7 u_8 u_9 mod_changeOf mod_changeAt mod_before) := zDk hD [(ad 41), (ad 45), (ad 54), (ad 57), (ad 62), (ad 63), (ad 64)] rfl rfl
    refine lv_aload_n hx hb dX12_undo_61 rfl (lv_at hl 0 rfl) ?_
    refine va_get (D := D) (ci := 12) (v := .int v_2) (C := RX12) (T := TX12) (N := 60) hx hb ht iX12 hown hK hP 0 rfl rfl 27 (by decide) (ht _ kw_1322) (fun _ h9 => h9) rfl dX12_undo_62 ?_
    exact W.iret (v := v_2) hx hb hr (fun t ht2 hW => ⟨⟨v_2, (v_2, v_3, u_7, u_8, u_9), rfl, Option.some.inj h, by rw [ht2]; exact hP, hD⟩, hS.F ht2⟩) hS.2.2 dX12_undo_65 hlocks
  · have h := zk_t c_1 h
    refine lv_bipush (v := (-5 : Int32)) hx hb dX12_undo_7 (by decide) ?_
    exact W.iret (v := (-5 : Int32)) hx hb hr (fun t ht2 hW => ⟨⟨(-5 : Int32), (mod_doneMany, mod_undoneMany, mod_shoeDay, mod_isWon, mod_undoneFrom), rfl, Option.some.inj h, by rw [ht2]; exact hP, hD⟩, hS.F ht2⟩) hS.2.2 dX12_undo_9 hlocks
set_option maxHeartbeats 4000000 in
set_option maxRecDepth 100000 in
theorem c_X12_undo (l : Launch) (D : va_G) (cs : Nat → ClassId) (ad : Nat → Nat) (sz : Nat)  (mod_code : Int32) (mod_shoes : Int32) (mod_claims : Int32) (mod_taped : Int32) (mod_here : Int32) (mod_fault : Int32) (mod_suits : Int32) (mod_doneMany : Int32) (mod_undoneMany : Int32) (mod_open : Int32) (mod_laid : Int32) (mod_isBoth : Int32) (mod_wished : Int32) (mod_bestMany : Int32) (mod_bestRow : Int32) (mod_ringDigits : Int32) (mod_traces : Int32) (mod_shoeDay : Nat → Int32) (mod_isWon : Nat → Int32) (mod_undoneFrom : Nat → Int32) (mod_changeOf : Nat → Int32) (mod_changeAt : Nat → Int32) (mod_before : Nat → Int32) (R : Int32 × Int32 × Int32 × (Nat → Int32) × (Nat → Int32) × (Nat → Int32)) (h : f_X12_undo    mod_code mod_shoes mod_claims mod_taped mod_here mod_fault mod_suits mod_doneMany mod_undoneMany mod_open mod_laid mod_isBoth mod_wished mod_bestMany mod_bestRow mod_ringDigits mod_traces mod_shoeDay mod_isWon mod_undoneFrom mod_changeOf mod_changeAt mod_before = some R) : Met l yX12_undo (z_X12_undo) rm_X12_undo (va_Pc [.ref (ad 41)] (zPre D cs (wl_X12_undo ad cs mod_code mod_shoes mod_claims mod_taped mod_here mod_fault mod_suits mod_doneMany mod_undoneMany mod_open mod_laid mod_isBoth mod_wished mod_bestMany mod_bestRow mod_ringDigits mod_traces mod_shoeDay mod_isWon mod_undoneFrom mod_changeOf mod_changeAt mod_before) sz)) (Q_X12_undo D cs ad mod_code mod_shoes mod_claims mod_taped mod_here mod_fault mod_suits mod_open mod_laid mod_isBoth mod_wished mod_bestMany mod_bestRow mod_ringDigits mod_traces mod_changeOf mod_changeAt mod_before (va_A (wl_X12_undo ad cs mod_code mod_shoes mod_claims mod_taped mod_here mod_fault mod_suits mod_doneMany mod_undoneMany mod_open mod_laid mod_isBoth mod_wished mod_bestMany mod_bestRow mod_ringDigits mod_traces mod_shoeDay mod_isWon mod_undoneFrom mod_changeOf mod_changeAt mod_before) sz) R) 0 0 (va_A (wl_X12_undo ad cs mod_code mod_shoes mod_claims mod_taped mod_here mod_fault mod_suits mod_doneMany mod_undoneMany mod_open mod_laid mod_isBoth mod_wished mod_bestMany mod_bestRow mod_ringDigits mod_traces mod_shoeDay mod_isWon mod_undoneFrom mod_changeOf mod_changeAt mod_before) sz) := by
  refine Met.ofW (cc := cX12_undo) (maxL := 1) (ret := (some .int)) (by decide) rfl ?_
  intro p e s m args below meth c s₁ B hml hv
  obtain ⟨rfl, hsz, hP, hK, hD0⟩ := hv
  subst hsz
  have hD := hD0.self (sz := s.heap.size)
  have C0 : zC p s m _ meth c cX12_undo 1 (some .int) RX12 zW := ⟨B.exec, B.bytes, B.returns, hml, findClass_of_methodNamed B.named, fun w hw => atoms_spec (ws := z_X12_undo) B.pre w (List.mem_cons_of_mem _ hw), B.notSynchronized⟩
  have hA : ∀ q : Nat, s.heap.size ≤ q → va_A (wl_X12_undo ad cs mod_code mod_shoes mod_claims mod_taped mod_here mod_fault mod_suits mod_doneMany mod_undoneMany mod_open mod_laid mod_isBoth mod_wished mod_bestMany mod_bestRow mod_ringDigits mod_traces mod_shoeDay mod_isWon mod_undoneFrom mod_changeOf mod_changeAt mod_before) s.heap.size q := fun q h => Or.inr h
  have hl := lv_entry ([.ref (ad 41)]) (n := 1) (Nat.le_of_ble_eq_true rfl)
  rw [lg_entry_eq]
  generalize (lg_sl ([.ref (ad 41)]) ++ List.replicate (1 - (lg_sl ([.ref (ad 41)])).length) Slot.unset).toArray = ls at hl ⊢
  exact L_X12_undo_0 C0 hK hA    mod_doneMany mod_undoneMany mod_shoeDay mod_isWon mod_undoneFrom h s.heap [] ls hP hD va_S.rf hl
theorem zh_cX12_redo_0 : zck [42, 180, 0, 241, 154, 0, 6, 16, 251, 172, 42, 42, 180, 0, 71, 42, 180, 0, 244, 46, 42, 180] (zdu 0 cX12_redo.data.toList) = true := by decide +kernel
theorem dX12_redo_0 : decode cX12_redo 0 = .ok (.aload_n 0, 1) := zo_42 zh_cX12_redo_0 0 rfl
theorem dX12_redo_1 : decode cX12_redo 1 = .ok (.getfield 241, 3) := zo_180 zh_cX12_redo_0 1 rfl
theorem dX12_redo_4 : decode cX12_redo 4 = .ok (.ifCond .ne 6, 3) := zo_p154 zh_cX12_redo_0 4 6 rfl rfl
theorem dX12_redo_7 : decode cX12_redo 7 = .ok (.bipush (-5), 2) := zo_n16 zh_cX12_redo_0 7 4 rfl rfl
theorem dX12_redo_9 : decode cX12_redo 9 = .ok (.ireturn, 1) := zo_172 zh_cX12_redo_0 9 rfl
theorem dX12_redo_10 : decode cX12_redo 10 = .ok (.aload_n 0, 1) := zo_42 zh_cX12_redo_0 10 rfl
theorem dX12_redo_11 : decode cX12_redo 11 = .ok (.aload_n 0, 1) := zo_42 zh_cX12_redo_0 11 rfl
theorem dX12_redo_12 : decode cX12_redo 12 = .ok (.getfield 71, 3) := zo_180 zh_cX12_redo_0 12 rfl
theorem dX12_redo_15 : decode cX12_redo 15 = .ok (.aload_n 0, 1) := zo_42 zh_cX12_redo_0 15 rfl
theorem dX12_redo_16 : decode cX12_redo 16 = .ok (.getfield 244, 3) := zo_180 zh_cX12_redo_0 16 rfl
theorem dX12_redo_19 : decode cX12_redo 19 = .ok (.iaload, 1) := zo_46 zh_cX12_redo_0 19 rfl
theorem zh_cX12_redo_1 : zck [42, 180, 0, 74, 42, 180, 0, 244, 46, 42, 180, 0, 80, 42, 180, 0, 244, 46, 182, 0, 247, 42] (zdu 20 cX12_redo.data.toList) = true := by decide +kernel
theorem dX12_redo_20 : decode cX12_redo 20 = .ok (.aload_n 0, 1) := zo_42 zh_cX12_redo_1 0 rfl
theorem dX12_redo_21 : decode cX12_redo 21 = .ok (.getfield 74, 3) := zo_180 zh_cX12_redo_1 1 rfl
theorem dX12_redo_24 : decode cX12_redo 24 = .ok (.aload_n 0, 1) := zo_42 zh_cX12_redo_1 4 rfl
theorem dX12_redo_25 : decode cX12_redo 25 = .ok (.getfield 244, 3) := zo_180 zh_cX12_redo_1 5 rfl
theorem dX12_redo_28 : decode cX12_redo 28 = .ok (.iaload, 1) := zo_46 zh_cX12_redo_1 8 rfl
theorem dX12_redo_29 : decode cX12_redo 29 = .ok (.aload_n 0, 1) := zo_42 zh_cX12_redo_1 9 rfl
theorem dX12_redo_30 : decode cX12_redo 30 = .ok (.getfield 80, 3) := zo_180 zh_cX12_redo_1 10 rfl
theorem dX12_redo_33 : decode cX12_redo 33 = .ok (.aload_n 0, 1) := zo_42 zh_cX12_redo_1 13 rfl
theorem dX12_redo_34 : decode cX12_redo 34 = .ok (.getfield 244, 3) := zo_180 zh_cX12_redo_1 14 rfl
theorem dX12_redo_37 : decode cX12_redo 37 = .ok (.iaload, 1) := zo_46 zh_cX12_redo_1 17 rfl
theorem dX12_redo_38 : decode cX12_redo 38 = .ok (.invokevirtual 247, 3) := zo_182 zh_cX12_redo_1 18 rfl
theorem zh_cX12_redo_2 : zck [247, 42, 89, 180, 0, 244, 4, 96, 181, 0, 244, 42, 89, 180, 0, 241, 4, 100, 181, 0, 241, 42] (zdu 40 cX12_redo.data.toList) = true := by decide +kernel
theorem dX12_redo_41 : decode cX12_redo 41 = .ok (.aload_n 0, 1) := zo_42 zh_cX12_redo_2 1 rfl
theorem dX12_redo_42 : decode cX12_redo 42 = .ok (.dup, 1) := zo_89 zh_cX12_redo_2 2 rfl
theorem dX12_redo_43 : decode cX12_redo 43 = .ok (.getfield 244, 3) := zo_180 zh_cX12_redo_2 3 rfl
theorem dX12_redo_46 : decode cX12_redo 46 = .ok (.iconst 1, 1) := zo_4 zh_cX12_redo_2 6 rfl
theorem dX12_redo_47 : decode cX12_redo 47 = .ok (.iadd, 1) := zo_96 zh_cX12_redo_2 7 rfl
theorem dX12_redo_48 : decode cX12_redo 48 = .ok (.putfield 244, 3) := zo_181 zh_cX12_redo_2 8 rfl
theorem dX12_redo_51 : decode cX12_redo 51 = .ok (.aload_n 0, 1) := zo_42 zh_cX12_redo_2 11 rfl
theorem dX12_redo_52 : decode cX12_redo 52 = .ok (.dup, 1) := zo_89 zh_cX12_redo_2 12 rfl
theorem dX12_redo_53 : decode cX12_redo 53 = .ok (.getfield 241, 3) := zo_180 zh_cX12_redo_2 13 rfl
theorem dX12_redo_56 : decode cX12_redo 56 = .ok (.iconst 1, 1) := zo_4 zh_cX12_redo_2 16 rfl
theorem dX12_redo_57 : decode cX12_redo 57 = .ok (.isub, 1) := zo_100 zh_cX12_redo_2 17 rfl
theorem dX12_redo_58 : decode cX12_redo 58 = .ok (.putfield 241, 3) := zo_181 zh_cX12_redo_2 18 rfl
theorem zh_cX12_redo_3 : zck [241, 42, 180, 0, 241, 172] (zdu 60 cX12_redo.data.toList) = true := by decide +kernel
theorem dX12_redo_61 : decode cX12_redo 61 = .ok (.aload_n 0, 1) := zo_42 zh_cX12_redo_3 1 rfl
theorem dX12_redo_62 : decode cX12_redo 62 = .ok (.getfield 241, 3) := zo_180 zh_cX12_redo_3 2 rfl
theorem dX12_redo_65 : decode cX12_redo 65 = .ok (.ireturn, 1) := zo_172 zh_cX12_redo_3 5 rfl
abbrev z_X12_redo : List Cond := .code yX12_redo cX12_redo 1 (some .int) :: zW
abbrev wl_X12_redo (ad : Nat → Nat) (cs : Nat → ClassId)  (mod_code : Int32) (mod_shoes : Int32) (mod_claims : Int32) (mod_taped : Int32) (mod_here : Int32) (mod_fault : Int32) (mod_suits : Int32) (mod_doneMany : Int32) (mod_undoneMany : Int32) (mod_open : Int32) (mod_laid : Int32) (mod_isBoth : Int32) (mod_wished : Int32) (mod_bestMany : Int32) (mod_bestRow : Int32) (mod_ringDigits : Int32) (mod_traces : Int32) (mod_shoeDay : Nat → Int32) (mod_isWon : Nat → Int32) (mod_undoneFrom : Nat → Int32) (mod_changeOf : Nat → Int32) (mod_changeAt : Nat → Int32) (mod_behind : Nat → Int32) : va_W := [((ad 41), .inr (12, [.int mod_code, .int mod_shoes, .ref (ad 42), .ref (ad 43), .ref (ad 44), .ref (ad 45), .int mod_claims, .ref (ad 46), .ref (ad 47), .ref (ad 48), .ref (ad 49), .ref (ad 50), .int mod_taped, .int mod_here, .int mod_fault, .int mod_suits, .ref (ad 51), .ref (ad 52), .ref (ad 53), .ref (ad 54), .ref (ad 55), .ref (ad 56), .ref (ad 57), .ref (ad 58), .ref (ad 59), .ref (ad 60), .ref (ad 61), .int mod_doneMany, .int mod_undoneMany, .ref (ad 62), .ref (ad 63), .ref (ad 64), .ref (ad 65), .int mod_open, .int mod_laid, .ref (ad 66), .ref (ad 67), .ref (ad 68), .ref (ad 69), .ref (ad 70), .ref (ad 71), .ref (ad 72), .ref (ad 73), .ref (ad 74), .ref (ad 75), .int mod_isBoth, .int mod_wished, .ref (ad 76), .ref (ad 77), .int mod_bestMany, .int mod_bestRow, .ref (ad 78), .ref (ad 79), .int mod_ringDigits, .int mod_traces, .ref (ad 80), .ref (ad 81), .ref (ad 82), .ref (ad 83), .ref (ad 84)])), ((ad 45), .inl (cs 0, 40, .inl mod_shoeDay)), ((ad 54), .inl (cs 0, 45, .inl mod_isWon)), ((ad 57), .inl (cs 0, 45, .inl mod_undoneFrom)), ((ad 62), .inl (cs 0, 40, .inl mod_changeOf)), ((ad 63), .inl (cs 0, 40, .inl mod_changeAt)), ((ad 65), .inl (cs 0, 40, .inl mod_behind))]
def Q_X12_redo (D : va_G) (cs : Nat → ClassId) (ad : Nat → Nat)  (mod_code : Int32) (mod_shoes : Int32) (mod_claims : Int32) (mod_taped : Int32) (mod_here : Int32) (mod_fault : Int32) (mod_suits : Int32) (mod_open : Int32) (mod_laid : Int32) (mod_isBoth : Int32) (mod_wished : Int32) (mod_bestMany : Int32) (mod_bestRow : Int32) (mod_ringDigits : Int32) (mod_traces : Int32) (mod_changeOf : Nat → Int32) (mod_changeAt : Nat → Int32) (mod_behind : Nat → Int32) (A : Nat → Prop) (R : Int32 × Int32 × Int32 × (Nat → Int32) × (Nat → Int32) × (Nat → Int32)) : Array Value → State → Outcome → State → Prop :=
  va_Qi (fun (r : Int32) (u : Int32 × Int32 × (Nat → Int32) × (Nat → Int32) × (Nat → Int32)) => (r, u) = R) (fun (u : Int32 × Int32 × (Nat → Int32) × (Nat → Int32) × (Nat → Int32)) (t : State) => va_P D classes (wl_X12_redo ad cs mod_code mod_shoes mod_claims mod_taped mod_here mod_fault mod_suits u.1 u.2.1 mod_open mod_laid mod_isBoth mod_wished mod_bestMany mod_bestRow mod_ringDigits mod_traces u.2.2.1 u.2.2.2.1 u.2.2.2.2 mod_changeOf mod_changeAt mod_behind) t.heap ∧ va_D A (wl_X12_redo ad cs mod_code mod_shoes mod_claims mod_taped mod_here mod_fault mod_suits u.1 u.2.1 mod_open mod_laid mod_isBoth mod_wished mod_bestMany mod_bestRow mod_ringDigits mod_traces u.2.2.1 u.2.2.2.1 u.2.2.2.2 mod_changeOf mod_changeAt mod_behind)) A
abbrev rm_X12_redo : Room := { frames := 1, cells := 0, slots := 0, locals := 23 }
def B_X12_redo_0    (mod_code : Int32) (mod_shoes : Int32) (mod_claims : Int32) (mod_taped : Int32) (mod_here : Int32) (mod_fault : Int32) (mod_suits : Int32) (mod_open : Int32) (mod_laid : Int32) (mod_isBoth : Int32) (mod_wished : Int32) (mod_bestMany : Int32) (mod_bestRow : Int32) (mod_ringDigits : Int32) (mod_traces : Int32) (mod_changeOf : Nat → Int32) (mod_changeAt : Nat → Int32) (mod_behind : Nat → Int32) (mod_doneMany : Int32) (mod_undoneMany : Int32) (mod_shoeDay : Nat → Int32) (mod_isWon : Nat → Int32) (mod_undoneFrom : Nat → Int32) : Option (Int32 × Int32 × Int32 × (Nat → Int32) × (Nat → Int32) × (Nat → Int32)) :=
  (if mod_undoneMany = 0 then (some ((-5 : Int32), mod_doneMany, mod_undoneMany, mod_shoeDay, mod_isWon, mod_undoneFrom)) else (if (mod_doneMany < 0 ∨ 40 ≤ mod_doneMany.toNatClampNeg) then none else (if (mod_doneMany < 0 ∨ 40 ≤ mod_doneMany.toNatClampNeg) then none else (if (mod_doneMany < 0 ∨ 40 ≤ mod_doneMany.toNatClampNeg) then none else (zk_b3 (f_X12_set (mod_changeOf mod_doneMany.toNatClampNeg) (mod_changeAt mod_doneMany.toNatClampNeg) (mod_behind mod_doneMany.toNatClampNeg) mod_code mod_shoes mod_claims mod_taped mod_here mod_fault mod_suits mod_doneMany mod_undoneMany mod_open mod_laid mod_isBoth mod_wished mod_bestMany mod_bestRow mod_ringDigits mod_traces mod_shoeDay mod_isWon mod_undoneFrom) (fun u_5 u_6 u_7 => (zk_let (mod_doneMany + (1 : Int32)) (fun v_9 => (zk_let (mod_undoneMany - (1 : Int32)) (fun v_10 => (some (v_10, v_9, v_10, u_5, u_6, u_7))))))))))))
def f_X12_redo    (mod_code : Int32) (mod_shoes : Int32) (mod_claims : Int32) (mod_taped : Int32) (mod_here : Int32) (mod_fault : Int32) (mod_suits : Int32) (mod_doneMany : Int32) (mod_undoneMany : Int32) (mod_open : Int32) (mod_laid : Int32) (mod_isBoth : Int32) (mod_wished : Int32) (mod_bestMany : Int32) (mod_bestRow : Int32) (mod_ringDigits : Int32) (mod_traces : Int32) (mod_shoeDay : Nat → Int32) (mod_isWon : Nat → Int32) (mod_undoneFrom : Nat → Int32) (mod_changeOf : Nat → Int32) (mod_changeAt : Nat → Int32) (mod_behind : Nat → Int32) : Option (Int32 × Int32 × Int32 × (Nat → Int32) × (Nat → Int32) × (Nat → Int32)) := B_X12_redo_0   mod_code mod_shoes mod_claims mod_taped mod_here mod_fault mod_suits mod_open mod_laid mod_isBoth mod_wished mod_bestMany mod_bestRow mod_ringDigits mod_traces mod_changeOf mod_changeAt mod_behind  mod_doneMany mod_undoneMany mod_shoeDay mod_isWon mod_undoneFrom
set_option maxHeartbeats 4000000 in
set_option maxRecDepth 100000 in
theorem L_X12_redo_0 {p : Program} {l : Launch} {e : Env} {s : State} {m : MethodId} {args : Array Value} {below : List Frame} {meth : Method} {c : Code} {A : Nat → Prop} {D : va_G} {cs : Nat → ClassId} {ad : Nat → Nat} {mod_code : Int32} {mod_shoes : Int32} {mod_claims : Int32} {mod_taped : Int32} {mod_here : Int32} {mod_fault : Int32} {mod_suits : Int32} {mod_open : Int32} {mod_laid : Int32} {mod_isBoth : Int32} {mod_wished : Int32} {mod_bestMany : Int32} {mod_bestRow : Int32} {mod_ringDigits : Int32} {mod_traces : Int32} {mod_changeOf : Nat → Int32} {mod_changeAt : Nat → Int32} {mod_behind : Nat → Int32} {R : Int32 × Int32 × Int32 × (Nat → Int32) × (Nat → Int32) × (Nat → Int32)} (C0 : zC p s m args meth c cX12_redo 1 (some .int) RX12 zW) (hK : va_K D classes (zT cs) s) (hA : ∀ q : Nat, s.heap.size ≤ q → A q) (mod_doneMany : Int32) (mod_undoneMany : Int32) (mod_shoeDay : Nat → Int32) (mod_isWon : Nat → Int32) (mod_undoneFrom : Nat → Int32) (h : B_X12_redo_0 mod_code mod_shoes mod_claims mod_taped mod_here mod_fault mod_suits mod_open mod_laid mod_isBoth mod_wished mod_bestMany mod_bestRow mod_ringDigits mod_traces mod_changeOf mod_changeAt mod_behind mod_doneMany mod_undoneMany mod_shoeDay mod_isWon mod_undoneFrom = some R) (H : Heap) (locs : List Loc) (ls : Array Slot) (hP : va_P D classes (wl_X12_redo ad cs mod_code mod_shoes mod_claims mod_taped mod_here mod_fault mod_suits mod_doneMany mod_undoneMany mod_open mod_laid mod_isBoth mod_wished mod_bestMany mod_bestRow mod_ringDigits mod_traces mod_shoeDay mod_isWon mod_undoneFrom mod_changeOf mod_changeAt mod_behind) H) (hD : va_D A (wl_X12_redo ad cs mod_code mod_shoes mod_claims mod_taped mod_here mod_fault mod_suits mod_doneMany mod_undoneMany mod_open mod_laid mod_isBoth mod_wished mod_bestMany mod_bestRow mod_ringDigits mod_traces mod_shoeDay mod_isWon mod_undoneFrom mod_changeOf mod_changeAt mod_behind)) (hS : va_S A s.heap H locs) (hl : lv_has ls 1 [(0, .ref (ad 41))]) : W p l e rm_X12_redo s m args below meth c H locs 0 0 (MQ below (Q_X12_redo D cs ad mod_code mod_shoes mod_claims mod_taped mod_here mod_fault mod_suits mod_open mod_laid mod_isBoth mod_wished mod_bestMany mod_bestRow mod_ringDigits mod_traces mod_changeOf mod_changeAt mod_behind A R) args s 0 0 A) (F0 m 0 ls []) := by
  obtain ⟨hx, hb, hr, hml, hown, ht, hlocks⟩ := id C0
  refine lv_aload_n hx hb dX12_redo_0 rfl (lv_at hl 0 rfl) ?_
  refine va_get (D := D) (ci := 12) (v := .int mod_undoneMany) (C := RX12) (T := TX12) (N := 60) hx hb ht iX12 hown hK hP 0 rfl rfl 28 (by decide) (ht _ kw_1323) (fun _ h9 => h9) rfl dX12_redo_1 ?_
  refine lv_if_ne (tgt := 10) hx hb dX12_redo_4 (by decide) (fun c_1 => ?_) (fun c_1 => ?_)
  · have h := zk_f c_1 h
    refine lv_aload_n hx hb dX12_redo_10 rfl (lv_at hl 0 rfl) ?_
    refine lv_aload_n hx hb dX12_redo_11 rfl (lv_at hl 0 rfl) ?_
    refine va_get (D := D) (ci := 12) (v := .ref (ad 62)) (C := RX12) (T := TX12) (N := 60) hx hb ht iX12 hown hK hP 0 rfl rfl 29 (by decide) (ht _ kw_1324) (fun _ h9 => h9) rfl dX12_redo_12 ?_
    refine lv_aload_n hx hb dX12_redo_15 rfl (lv_at hl 0 rfl) ?_
    refine va_get (D := D) (ci := 12) (v := .int mod_doneMany) (C := RX12) (T := TX12) (N := 60) hx hb ht iX12 hown hK hP 0 rfl rfl 27 (by decide) (ht _ kw_1322) (fun _ h9 => h9) rfl dX12_redo_16 ?_
    obtain ⟨g_2, h⟩ := zk_gd h
    refine va_iald hx hb hK hP 4 0 rfl rfl g_2 dX12_redo_19 ?_
    refine lv_aload_n hx hb dX12_redo_20 rfl (lv_at hl 0 rfl) ?_
    refine va_get (D := D) (ci := 12) (v := .ref (ad 63)) (C := RX12) (T := TX12) (N := 60) hx hb ht iX12 hown hK hP 0 rfl rfl 30 (by decide) (ht _ kw_1325) (fun _ h9 => h9) rfl dX12_redo_21 ?_
    refine lv_aload_n hx hb dX12_redo_24 rfl (lv_at hl 0 rfl) ?_
    refine va_get (D := D) (ci := 12) (v := .int mod_doneMany) (C := RX12) (T := TX12) (N := 60) hx hb ht iX12 hown hK hP 0 rfl rfl 27 (by decide) (ht _ kw_1322) (fun _ h9 => h9) rfl dX12_redo_25 ?_
    obtain ⟨g_3, h⟩ := zk_gd h
    refine va_iald hx hb hK hP 5 0 rfl rfl g_3 dX12_redo_28 ?_
    refine lv_aload_n hx hb dX12_redo_29 rfl (lv_at hl 0 rfl) ?_
    refine va_get (D := D) (ci := 12) (v := .ref (ad 65)) (C := RX12) (T := TX12) (N := 60) hx hb ht iX12 hown hK hP 0 rfl rfl 32 (by decide) (ht _ kw_1327) (fun _ h9 => h9) rfl dX12_redo_30 ?_
    refine lv_aload_n hx hb dX12_redo_33 rfl (lv_at hl 0 rfl) ?_
    refine va_get (D := D) (ci := 12) (v := .int mod_doneMany) (C := RX12) (T := TX12) (N := 60) hx hb ht iX12 hown hK hP 0 rfl rfl 27 (by decide) (ht _ kw_1322) (fun _ h9 => h9) rfl dX12_redo_34 ?_
    obtain ⟨g_4, h⟩ := zk_gd h
    refine va_iald hx hb hK hP 6 0 rfl rfl g_4 dX12_redo_37 ?_
    obtain ⟨u_5, u_6, u_7, hc_8, h⟩ := zk_o3 h
    refine zz_vv (post := (fun u => u = (u_5, u_6, u_7))) (w1 := fun u => (wl_X12_set ad cs mod_code mod_shoes mod_claims mod_taped mod_here mod_fault mod_suits mod_doneMany mod_undoneMany mod_open mod_laid mod_isBoth mod_wished mod_bestMany mod_bestRow mod_ringDigits mod_traces u.1 u.2.1 u.2.2)) (As := [.int (mod_changeOf mod_doneMany.toNatClampNeg), .int (mod_changeAt mod_doneMany.toNatClampNeg), .int (mod_behind mod_doneMany.toNatClampNeg)]) (rest := []) (c_X12_set l D cs ad  H.size (mod_changeOf mod_doneMany.toNatClampNeg) (mod_changeAt mod_doneMany.toNatClampNeg) (mod_behind mod_doneMany.toNatClampNeg) mod_code mod_shoes mod_claims mod_taped mod_here mod_fault mod_suits mod_doneMany mod_undoneMany mod_open mod_laid mod_isBoth mod_wished mod_bestMany mod_bestRow mod_ringDigits mod_traces mod_shoeDay mod_isWon mod_undoneFrom (u_5, u_6, u_7) hc_8) ⟨hx, hb, hml, hown, ht⟩ (cwV 3 ht g_X12_247 rfl rfl rfl ⟨rfl, hd_X12_set⟩ ⟨Nat.le_of_ble_eq_true rfl, Nat.le_of_ble_eq_true rfl⟩) (va_recv hK hP (ci := 12) (q0 := 0) rfl rfl) hP hD hS hK hA [0, 1, 2, 3] rfl rfl [(ad 41), (ad 45), (ad 54), (ad 57)] rfl (fun _ => rfl) rfl hl.1 (Nat.le_of_ble_eq_true rfl) dX12_redo_38 ⟨Nat.zero_le _, Nat.zero_le _⟩ (fun u H locs hq hP hS => ?_)
    cases hq
    have hP : va_P D classes (wl_X12_redo ad cs mod_code mod_shoes mod_claims mod_taped mod_here mod_fault mod_suits mod_doneMany mod_undoneMany mod_open mod_laid mod_isBoth mod_wished mod_bestMany mod_bestRow mod_ringDigits mod_traces u_5 u_6 u_7 mod_changeOf mod_changeAt mod_behind) H := hP
    have hD : va_D A (wl_X12_redo ad cs mod_code mod_shoes mod_claims mod_taped mod_here mod_fault mod_suits mod_doneMany mod_undoneMany mod_open mod_laid mod_isBoth mod_wished mod_bestMany mod_bestRow mod_ringDigits mod_traces u_5 u_6 u_7 mod_changeOf mod_changeAt mod_behind) := zDk hD [(ad 41), (ad 45), (ad 54), (ad 57), (ad 62), (ad 63), (ad 65)] rfl rfl
    refine lv_aload_n hx hb dX12_redo_41 rfl (lv_at hl 0 rfl) ?_
    refine lv_dup hx hb dX12_redo_42 rfl ?_
    refine va_get (D := D) (ci := 12) (v := .int mod_doneMany) (C := RX12) (T := TX12) (N := 60) hx hb ht iX12 hown hK hP 0 rfl rfl 27 (by decide) (ht _ kw_1322) (fun _ h9 => h9) rfl dX12_redo_43 ?_
    refine lv_iconst (v := (1 : Int32)) hx hb dX12_redo_46 (by decide) ?_
    refine lv_iadd hx hb dX12_redo_47 ?_
    obtain ⟨v_9, ev_9, h⟩ := zk_lt h
    refine W.eq (g2 := F0 m 48 ls [.int v_9, .ref (ad 41)]) (by rw [ev_9]) ?_
    refine va_put (D := D) (ci := 12) (v := .int v_9) (ty := .int) (C := RX12) (T := TX12) (N := 60) hx hb ht iX12 tyX12 tyX12_ok nmX12 hown hK hP hD hS 0 rfl rfl 27 (by decide) (ht _ kw_1322) (fun _ h9 => h9) rfl (by decide +kernel) rfl rfl (Nat.le_of_ble_eq_true rfl) dX12_redo_48 (fun H locs hP hD hS => ?_)
    have hP : va_P D classes (wl_X12_redo ad cs mod_code mod_shoes mod_claims mod_taped mod_here mod_fault mod_suits v_9 mod_undoneMany mod_open mod_laid mod_isBoth mod_wished mod_bestMany mod_bestRow mod_ringDigits mod_traces u_5 u_6 u_7 mod_changeOf mod_changeAt mod_behind) H := hP
    have hD : va_D A (wl_X12_redo ad cs mod_code mod_shoes mod_claims mod_taped mod_here mod_fault mod_suits v_9 mod_undoneMany mod_open mod_laid mod_isBoth mod_wished mod_bestMany mod_bestRow mod_ringDigits mod_traces u_5 u_6 u_7 mod_changeOf mod_changeAt mod_behind) := hD
    refine lv_aload_n hx hb dX12_redo_51 rfl (lv_at hl 0 rfl) ?_
    refine lv_dup hx hb dX12_redo_52 rfl ?_
    refine va_get (D := D) (ci := 12) (v := .int mod_undoneMany) (C := RX12) (T := TX12) (N := 60) hx hb ht iX12 hown hK hP 0 rfl rfl 28 (by decide) (ht _ kw_1323) (fun _ h9 => h9) rfl dX12_redo_53 ?_
    refine lv_iconst (v := (1 : Int32)) hx hb dX12_redo_56 (by decide) ?_
    refine lv_isub hx hb dX12_redo_57 ?_
    obtain ⟨v_10, ev_10, h⟩ := zk_lt h
    refine W.eq (g2 := F0 m 58 ls [.int v_10, .ref (ad 41)]) (by rw [ev_10]) ?_
    refine va_put (D := D) (ci := 12) (v := .int v_10) (ty := .int) (C := RX12) (T := TX12) (N := 60) hx hb ht iX12 tyX12 tyX12_ok nmX12 hown hK hP hD hS 0 rfl rfl 28 (by decide) (ht _ kw_1323) (fun _ h9 => h9) rfl (by decide +kernel) rfl rfl (Nat.le_of_ble_eq_true rfl) dX12_redo_58 (fun H locs hP hD hS => ?_)
    have hP : va_P D classes (wl_X12_redo ad cs mod_code mod_shoes mod_claims mod_taped mod_here mod_fault mod_suits v_9 v_10 mod_open mod_laid mod_isBoth mod_wished mod_bestMany mod_bestRow mod_ringDigits mod_traces u_5 u_6 u_7 mod_changeOf mod_changeAt mod_behind) H := hP
    have hD : va_D A (wl_X12_redo ad cs mod_code mod_shoes mod_claims mod_taped mod_here mod_fault mod_suits v_9 v_10 mod_open mod_laid mod_isBoth mod_wished mod_bestMany mod_bestRow mod_ringDigits mod_traces u_5 u_6 u_7 mod_changeOf mod_changeAt mod_behind) := hD
    refine lv_aload_n hx hb dX12_redo_61 rfl (lv_at hl 0 rfl) ?_
    refine va_get (D := D) (ci := 12) (v := .int v_10) (C := RX12) (T := TX12) (N := 60) hx hb ht iX12 hown hK hP 0 rfl rfl 28 (by decide) (ht _ kw_1323) (fun _ h9 => h9) rfl dX12_redo_62 ?_
    exact W.iret (v := v_10) hx hb hr (fun t ht2 hW => ⟨⟨v_10, (v_9, v_10, u_5, u_6, u_7), rfl, Option.some.inj h, by rw [ht2]; exact hP, hD⟩, hS.F ht2⟩) hS.2.2 dX12_redo_65 hlocks
  · have h := zk_t c_1 h
    refine lv_bipush (v := (-5 : Int32)) hx hb dX12_redo_7 (by decide) ?_
    exact W.iret (v := (-5 : Int32)) hx hb hr (fun t ht2 hW => ⟨⟨(-5 : Int32), (mod_doneMany, mod_undoneMany, mod_shoeDay, mod_isWon, mod_undoneFrom), rfl, Option.some.inj h, by rw [ht2]; exact hP, hD⟩, hS.F ht2⟩) hS.2.2 dX12_redo_9 hlocks
set_option maxHeartbeats 4000000 in
set_option maxRecDepth 100000 in
theorem c_X12_redo (l : Launch) (D : va_G) (cs : Nat → ClassId) (ad : Nat → Nat) (sz : Nat)  (mod_code : Int32) (mod_shoes : Int32) (mod_claims : Int32) (mod_taped : Int32) (mod_here : Int32) (mod_fault : Int32) (mod_suits : Int32) (mod_doneMany : Int32) (mod_undoneMany : Int32) (mod_open : Int32) (mod_laid : Int32) (mod_isBoth : Int32) (mod_wished : Int32) (mod_bestMany : Int32) (mod_bestRow : Int32) (mod_ringDigits : Int32) (mod_traces : Int32) (mod_shoeDay : Nat → Int32) (mod_isWon : Nat → Int32) (mod_undoneFrom : Nat → Int32) (mod_changeOf : Nat → Int32) (mod_changeAt : Nat → Int32) (mod_behind : Nat → Int32) (R : Int32 × Int32 × Int32 × (Nat → Int32) × (Nat → Int32) × (Nat → Int32)) (h : f_X12_redo    mod_code mod_shoes mod_claims mod_taped mod_here mod_fault mod_suits mod_doneMany mod_undoneMany mod_open mod_laid mod_isBoth mod_wished mod_bestMany mod_bestRow mod_ringDigits mod_traces mod_shoeDay mod_isWon mod_undoneFrom mod_changeOf mod_changeAt mod_behind = some R) : Met l yX12_redo (z_X12_redo) rm_X12_redo (va_Pc [.ref (ad 41)] (zPre D cs (wl_X12_redo ad cs mod_code mod_shoes mod_claims mod_taped mod_here mod_fault mod_suits mod_doneMany mod_undoneMany mod_open mod_laid mod_isBoth mod_wished mod_bestMany mod_bestRow mod_ringDigits mod_traces mod_shoeDay mod_isWon mod_undoneFrom mod_changeOf mod_changeAt mod_behind) sz)) (Q_X12_redo D cs ad mod_code mod_shoes mod_claims mod_taped mod_here mod_fault mod_suits mod_open mod_laid mod_isBoth mod_wished mod_bestMany mod_bestRow mod_ringDigits mod_traces mod_changeOf mod_changeAt mod_behind (va_A (wl_X12_redo ad cs mod_code mod_shoes mod_claims mod_taped mod_here mod_fault mod_suits mod_doneMany mod_undoneMany mod_open mod_laid mod_isBoth mod_wished mod_bestMany mod_bestRow mod_ringDigits mod_traces mod_shoeDay mod_isWon mod_undoneFrom mod_changeOf mod_changeAt mod_behind) sz) R) 0 0 (va_A (wl_X12_redo ad cs mod_code mod_shoes mod_claims mod_taped mod_here mod_fault mod_suits mod_doneMany mod_undoneMany mod_open mod_laid mod_isBoth mod_wished mod_bestMany mod_bestRow mod_ringDigits mod_traces mod_shoeDay mod_isWon mod_undoneFrom mod_changeOf mod_changeAt mod_behind) sz) := by
  refine Met.ofW (cc := cX12_redo) (maxL := 1) (ret := (some .int)) (by decide) rfl ?_
  intro p e s m args below meth c s₁ B hml hv
  obtain ⟨rfl, hsz, hP, hK, hD0⟩ := hv
  subst hsz
  have hD := hD0.self (sz := s.heap.size)
  have C0 : zC p s m _ meth c cX12_redo 1 (some .int) RX12 zW := ⟨B.exec, B.bytes, B.returns, hml, findClass_of_methodNamed B.named, fun w hw => atoms_spec (ws := z_X12_redo) B.pre w (List.mem_cons_of_mem _ hw), B.notSynchronized⟩
  have hA : ∀ q : Nat, s.heap.size ≤ q → va_A (wl_X12_redo ad cs mod_code mod_shoes mod_claims mod_taped mod_here mod_fault mod_suits mod_doneMany mod_undoneMany mod_open mod_laid mod_isBoth mod_wished mod_bestMany mod_bestRow mod_ringDigits mod_traces mod_shoeDay mod_isWon mod_undoneFrom mod_changeOf mod_changeAt mod_behind) s.heap.size q := fun q h => Or.inr h
  have hl := lv_entry ([.ref (ad 41)]) (n := 1) (Nat.le_of_ble_eq_true rfl)
  rw [lg_entry_eq]
  generalize (lg_sl ([.ref (ad 41)]) ++ List.replicate (1 - (lg_sl ([.ref (ad 41)])).length) Slot.unset).toArray = ls at hl ⊢
  exact L_X12_redo_0 C0 hK hA    mod_doneMany mod_undoneMany mod_shoeDay mod_isWon mod_undoneFrom h s.heap [] ls hP hD va_S.rf hl
theorem kw_32 : Cond.selects RX12 yX12_changes yX12_changes ∈ zW := zwI (i := 32) (by decide +kernel) (by decide +kernel)
theorem kw_1603 : Cond.methodLink RX12 251 yX12_changes ∈ zW := zwC (i := 89) zc_7 rfl rfl
theorem kw_1605 : Cond.instanceMethod yX12_changes ∈ zW := zwC (i := 91) zc_7 rfl rfl
theorem kw_1606 : Cond.code yX12_changes cX12_changes 6 (some .int) ∈ zW := zwC (i := 92) zc_7 rfl rfl
theorem zh_cX12_moveShoe_0 : zck [42, 27, 182, 0, 176, 153, 0, 20, 28, 184, 0, 151, 153, 0, 13, 42, 5, 27, 28, 182, 0, 251] (zdu 0 cX12_moveShoe.data.toList) = true := by decide +kernel
theorem dX12_moveShoe_0 : decode cX12_moveShoe 0 = .ok (.aload_n 0, 1) := zo_42 zh_cX12_moveShoe_0 0 rfl
theorem dX12_moveShoe_1 : decode cX12_moveShoe 1 = .ok (.iload_n 1, 1) := zo_27 zh_cX12_moveShoe_0 1 rfl
theorem dX12_moveShoe_2 : decode cX12_moveShoe 2 = .ok (.invokevirtual 176, 3) := zo_182 zh_cX12_moveShoe_0 2 rfl
theorem dX12_moveShoe_5 : decode cX12_moveShoe 5 = .ok (.ifCond .eq 20, 3) := zo_p153 zh_cX12_moveShoe_0 5 20 rfl rfl
theorem dX12_moveShoe_8 : decode cX12_moveShoe 8 = .ok (.iload_n 2, 1) := zo_28 zh_cX12_moveShoe_0 8 rfl
theorem dX12_moveShoe_9 : decode cX12_moveShoe 9 = .ok (.invokestatic 151, 3) := zo_184 zh_cX12_moveShoe_0 9 rfl
theorem dX12_moveShoe_12 : decode cX12_moveShoe 12 = .ok (.ifCond .eq 13, 3) := zo_p153 zh_cX12_moveShoe_0 12 13 rfl rfl
theorem dX12_moveShoe_15 : decode cX12_moveShoe 15 = .ok (.aload_n 0, 1) := zo_42 zh_cX12_moveShoe_0 15 rfl
theorem dX12_moveShoe_16 : decode cX12_moveShoe 16 = .ok (.iconst 2, 1) := zo_5 zh_cX12_moveShoe_0 16 rfl
theorem dX12_moveShoe_17 : decode cX12_moveShoe 17 = .ok (.iload_n 1, 1) := zo_27 zh_cX12_moveShoe_0 17 rfl
theorem dX12_moveShoe_18 : decode cX12_moveShoe 18 = .ok (.iload_n 2, 1) := zo_28 zh_cX12_moveShoe_0 18 rfl
theorem dX12_moveShoe_19 : decode cX12_moveShoe 19 = .ok (.invokevirtual 251, 3) := zo_182 zh_cX12_moveShoe_0 19 rfl
theorem zh_cX12_moveShoe_1 : zck [0, 251, 167, 0, 4, 2, 172] (zdu 20 cX12_moveShoe.data.toList) = true := by decide +kernel
theorem dX12_moveShoe_22 : decode cX12_moveShoe 22 = .ok (.goto 4, 3) := zo_p167 zh_cX12_moveShoe_1 2 4 rfl rfl
theorem dX12_moveShoe_25 : decode cX12_moveShoe 25 = .ok (.iconst (-1), 1) := zo_2 zh_cX12_moveShoe_1 5 rfl
theorem dX12_moveShoe_26 : decode cX12_moveShoe 26 = .ok (.ireturn, 1) := zo_172 zh_cX12_moveShoe_1 6 rfl
abbrev z_X12_moveShoe : List Cond := .code yX12_moveShoe cX12_moveShoe 3 (some .int) :: zW
abbrev wl_X12_moveShoe (ad : Nat → Nat) (cs : Nat → ClassId)  (mod_code : Int32) (mod_shoes : Int32) (mod_claims : Int32) (mod_taped : Int32) (mod_here : Int32) (mod_fault : Int32) (mod_suits : Int32) (mod_doneMany : Int32) (mod_undoneMany : Int32) (mod_open : Int32) (mod_laid : Int32) (mod_isBoth : Int32) (mod_wished : Int32) (mod_bestMany : Int32) (mod_bestRow : Int32) (mod_ringDigits : Int32) (mod_traces : Int32) (mod_shoeDay : Nat → Int32) (mod_isWon : Nat → Int32) (mod_undoneFrom : Nat → Int32) (mod_changeOf : Nat → Int32) (mod_changeAt : Nat → Int32) (mod_before : Nat → Int32) (mod_behind : Nat → Int32) : va_W := [((ad 41), .inr (12, [.int mod_code, .int mod_shoes, .ref (ad 42), .ref (ad 43), .ref (ad 44), .ref (ad 45), .int mod_claims, .ref (ad 46), .ref (ad 47), .ref (ad 48), .ref (ad 49), .ref (ad 50), .int mod_taped, .int mod_here, .int mod_fault, .int mod_suits, .ref (ad 51), .ref (ad 52), .ref (ad 53), .ref (ad 54), .ref (ad 55), .ref (ad 56), .ref (ad 57), .ref (ad 58), .ref (ad 59), .ref (ad 60), .ref (ad 61), .int mod_doneMany, .int mod_undoneMany, .ref (ad 62), .ref (ad 63), .ref (ad 64), .ref (ad 65), .int mod_open, .int mod_laid, .ref (ad 66), .ref (ad 67), .ref (ad 68), .ref (ad 69), .ref (ad 70), .ref (ad 71), .ref (ad 72), .ref (ad 73), .ref (ad 74), .ref (ad 75), .int mod_isBoth, .int mod_wished, .ref (ad 76), .ref (ad 77), .int mod_bestMany, .int mod_bestRow, .ref (ad 78), .ref (ad 79), .int mod_ringDigits, .int mod_traces, .ref (ad 80), .ref (ad 81), .ref (ad 82), .ref (ad 83), .ref (ad 84)])), ((ad 45), .inl (cs 0, 40, .inl mod_shoeDay)), ((ad 54), .inl (cs 0, 45, .inl mod_isWon)), ((ad 57), .inl (cs 0, 45, .inl mod_undoneFrom)), ((ad 62), .inl (cs 0, 40, .inl mod_changeOf)), ((ad 63), .inl (cs 0, 40, .inl mod_changeAt)), ((ad 64), .inl (cs 0, 40, .inl mod_before)), ((ad 65), .inl (cs 0, 40, .inl mod_behind))]
def Q_X12_moveShoe (D : va_G) (cs : Nat → ClassId) (ad : Nat → Nat)  (mod_code : Int32) (mod_shoes : Int32) (mod_claims : Int32) (mod_taped : Int32) (mod_here : Int32) (mod_fault : Int32) (mod_suits : Int32) (mod_open : Int32) (mod_laid : Int32) (mod_isBoth : Int32) (mod_wished : Int32) (mod_bestMany : Int32) (mod_bestRow : Int32) (mod_ringDigits : Int32) (mod_traces : Int32) (A : Nat → Prop) (R : Int32 × Int32 × Int32 × (Nat → Int32) × (Nat → Int32) × (Nat → Int32) × (Nat → Int32) × (Nat → Int32) × (Nat → Int32) × (Nat → Int32)) : Array Value → State → Outcome → State → Prop :=
  va_Qi (fun (r : Int32) (u : Int32 × Int32 × (Nat → Int32) × (Nat → Int32) × (Nat → Int32) × (Nat → Int32) × (Nat → Int32) × (Nat → Int32) × (Nat → Int32)) => (r, u) = R) (fun (u : Int32 × Int32 × (Nat → Int32) × (Nat → Int32) × (Nat → Int32) × (Nat → Int32) × (Nat → Int32) × (Nat → Int32) × (Nat → Int32)) (t : State) => va_P D classes (wl_X12_moveShoe ad cs mod_code mod_shoes mod_claims mod_taped mod_here mod_fault mod_suits u.1 u.2.1 mod_open mod_laid mod_isBoth mod_wished mod_bestMany mod_bestRow mod_ringDigits mod_traces u.2.2.1 u.2.2.2.1 u.2.2.2.2.1 u.2.2.2.2.2.1 u.2.2.2.2.2.2.1 u.2.2.2.2.2.2.2.1 u.2.2.2.2.2.2.2.2) t.heap ∧ va_D A (wl_X12_moveShoe ad cs mod_code mod_shoes mod_claims mod_taped mod_here mod_fault mod_suits u.1 u.2.1 mod_open mod_laid mod_isBoth mod_wished mod_bestMany mod_bestRow mod_ringDigits mod_traces u.2.2.1 u.2.2.2.1 u.2.2.2.2.1 u.2.2.2.2.2.1 u.2.2.2.2.2.2.1 u.2.2.2.2.2.2.2.1 u.2.2.2.2.2.2.2.2)) A
abbrev rm_X12_moveShoe : Room := { frames := 2, cells := 0, slots := 0, locals := 48 }
theorem g_X12_251 : GoodIn zW (wsV RX12 251 RX12 yX12_changes z_X12_changes) := zGV kw_1603 kw_1605 kw_32 kw_95 kw_1606
theorem hd_X12_changes : yX12_changes.cls ≠ "java/lang/invoke/MethodHandle" ∧ yX12_changes.cls ≠ "java/lang/invoke/VarHandle" ∧ (parseMethodDescriptor yX12_changes.desc).map (fun d => d.parameters.length) = some 3 := by decide +kernel
def B_X12_moveShoe_0    (mod_code : Int32) (mod_shoes : Int32) (mod_claims : Int32) (mod_taped : Int32) (mod_here : Int32) (mod_fault : Int32) (mod_suits : Int32) (mod_open : Int32) (mod_laid : Int32) (mod_isBoth : Int32) (mod_wished : Int32) (mod_bestMany : Int32) (mod_bestRow : Int32) (mod_ringDigits : Int32) (mod_traces : Int32) (x1 : Int32) (x2 : Int32) (mod_doneMany : Int32) (mod_undoneMany : Int32) (mod_shoeDay : Nat → Int32) (mod_isWon : Nat → Int32) (mod_undoneFrom : Nat → Int32) (mod_changeOf : Nat → Int32) (mod_changeAt : Nat → Int32) (mod_before : Nat → Int32) (mod_behind : Nat → Int32) : Option (Int32 × Int32 × Int32 × (Nat → Int32) × (Nat → Int32) × (Nat → Int32) × (Nat → Int32) × (Nat → Int32) × (Nat → Int32) × (Nat → Int32)) :=
  (zk_b2 (f_X12_isShoe x1 mod_code mod_shoes mod_claims mod_taped mod_here mod_fault mod_suits mod_doneMany mod_undoneMany mod_open mod_laid mod_isBoth mod_wished mod_bestMany mod_bestRow mod_ringDigits mod_traces) (fun r_1 u_2 => (if r_1 = 0 then (some ((-1 : Int32), mod_doneMany, mod_undoneMany, mod_shoeDay, mod_isWon, mod_undoneFrom, mod_changeOf, mod_changeAt, mod_before, mod_behind)) else (zk_b2 (f_X12_isDay x2) (fun r_5 u_6 => (if r_5 = 0 then (some ((-1 : Int32), mod_doneMany, mod_undoneMany, mod_shoeDay, mod_isWon, mod_undoneFrom, mod_changeOf, mod_changeAt, mod_before, mod_behind)) else (zk_b10 (f_X12_changes 100000 (2 : Int32) x1 x2 mod_code mod_shoes mod_claims mod_taped mod_here mod_fault mod_suits mod_doneMany mod_undoneMany mod_open mod_laid mod_isBoth mod_wished mod_bestMany mod_bestRow mod_ringDigits mod_traces mod_shoeDay mod_isWon mod_undoneFrom mod_changeOf mod_changeAt mod_before mod_behind) (fun r_9 u_10 u_11 u_12 u_13 u_14 u_15 u_16 u_17 u_18 => (some (r_9, u_10, u_11, u_12, u_13, u_14, u_15, u_16, u_17, u_18))))))))))
def f_X12_moveShoe   (x1 : Int32) (x2 : Int32) (mod_code : Int32) (mod_shoes : Int32) (mod_claims : Int32) (mod_taped : Int32) (mod_here : Int32) (mod_fault : Int32) (mod_suits : Int32) (mod_doneMany : Int32) (mod_undoneMany : Int32) (mod_open : Int32) (mod_laid : Int32) (mod_isBoth : Int32) (mod_wished : Int32) (mod_bestMany : Int32) (mod_bestRow : Int32) (mod_ringDigits : Int32) (mod_traces : Int32) (mod_shoeDay : Nat → Int32) (mod_isWon : Nat → Int32) (mod_undoneFrom : Nat → Int32) (mod_changeOf : Nat → Int32) (mod_changeAt : Nat → Int32) (mod_before : Nat → Int32) (mod_behind : Nat → Int32) : Option (Int32 × Int32 × Int32 × (Nat → Int32) × (Nat → Int32) × (Nat → Int32) × (Nat → Int32) × (Nat → Int32) × (Nat → Int32) × (Nat → Int32)) := B_X12_moveShoe_0   mod_code mod_shoes mod_claims mod_taped mod_here mod_fault mod_suits mod_open mod_laid mod_isBoth mod_wished mod_bestMany mod_bestRow mod_ringDigits mod_traces x1 x2 mod_doneMany mod_undoneMany mod_shoeDay mod_isWon mod_undoneFrom mod_changeOf mod_changeAt mod_before mod_behind
set_option maxHeartbeats 4000000 in
set_option maxRecDepth 100000 in
theorem L_X12_moveShoe_0 {p : Program} {l : Launch} {e : Env} {s : State} {m : MethodId} {args : Array Value} {below : List Frame} {meth : Method} {c : Code} {A : Nat → Prop} {D : va_G} {cs : Nat → ClassId} {ad : Nat → Nat} {mod_code : Int32} {mod_shoes : Int32} {mod_claims : Int32} {mod_taped : Int32} {mod_here : Int32} {mod_fault : Int32} {mod_suits : Int32} {mod_open : Int32} {mod_laid : Int32} {mod_isBoth : Int32} {mod_wished : Int32} {mod_bestMany : Int32} {mod_bestRow : Int32} {mod_ringDigits : Int32} {mod_traces : Int32} {R : Int32 × Int32 × Int32 × (Nat → Int32) × (Nat → Int32) × (Nat → Int32) × (Nat → Int32) × (Nat → Int32) × (Nat → Int32) × (Nat → Int32)} (C0 : zC p s m args meth c cX12_moveShoe 3 (some .int) RX12 zW) (hK : va_K D classes (zT cs) s) (hA : ∀ q : Nat, s.heap.size ≤ q → A q) (x1 : Int32) (x2 : Int32) (mod_doneMany : Int32) (mod_undoneMany : Int32) (mod_shoeDay : Nat → Int32) (mod_isWon : Nat → Int32) (mod_undoneFrom : Nat → Int32) (mod_changeOf : Nat → Int32) (mod_changeAt : Nat → Int32) (mod_before : Nat → Int32) (mod_behind : Nat → Int32) (h : B_X12_moveShoe_0 mod_code mod_shoes mod_claims mod_taped mod_here mod_fault mod_suits mod_open mod_laid mod_isBoth mod_wished mod_bestMany mod_bestRow mod_ringDigits mod_traces x1 x2 mod_doneMany mod_undoneMany mod_shoeDay mod_isWon mod_undoneFrom mod_changeOf mod_changeAt mod_before mod_behind = some R) (H : Heap) (locs : List Loc) (ls : Array Slot) (hP : va_P D classes (wl_X12_moveShoe ad cs mod_code mod_shoes mod_claims mod_taped mod_here mod_fault mod_suits mod_doneMany mod_undoneMany mod_open mod_laid mod_isBoth mod_wished mod_bestMany mod_bestRow mod_ringDigits mod_traces mod_shoeDay mod_isWon mod_undoneFrom mod_changeOf mod_changeAt mod_before mod_behind) H) (hD : va_D A (wl_X12_moveShoe ad cs mod_code mod_shoes mod_claims mod_taped mod_here mod_fault mod_suits mod_doneMany mod_undoneMany mod_open mod_laid mod_isBoth mod_wished mod_bestMany mod_bestRow mod_ringDigits mod_traces mod_shoeDay mod_isWon mod_undoneFrom mod_changeOf mod_changeAt mod_before mod_behind)) (hS : va_S A s.heap H locs) (hl : lv_has ls 3 [(0, .ref (ad 41)), (1, .int x1), (2, .int x2)]) : W p l e rm_X12_moveShoe s m args below meth c H locs 0 0 (MQ below (Q_X12_moveShoe D cs ad mod_code mod_shoes mod_claims mod_taped mod_here mod_fault mod_suits mod_open mod_laid mod_isBoth mod_wished mod_bestMany mod_bestRow mod_ringDigits mod_traces A R) args s 0 0 A) (F0 m 0 ls []) := by
  obtain ⟨hx, hb, hr, hml, hown, ht, hlocks⟩ := id C0
  refine lv_aload_n hx hb dX12_moveShoe_0 rfl (lv_at hl 0 rfl) ?_
  refine lv_iload_n hx hb dX12_moveShoe_1 rfl (lv_at hl 1 rfl) ?_
  obtain ⟨r_1, u_2, hc_3, h⟩ := zk_o2 h
  refine zz_vi (post := (fun r u => (r, u) = (r_1, u_2))) (w1 := fun u => (wl_X12_isShoe ad cs mod_code mod_shoes mod_claims mod_taped mod_here mod_fault mod_suits mod_doneMany mod_undoneMany mod_open mod_laid mod_isBoth mod_wished mod_bestMany mod_bestRow mod_ringDigits mod_traces)) (As := [.int x1]) (rest := []) (c_X12_isShoe l D cs ad  H.size x1 mod_code mod_shoes mod_claims mod_taped mod_here mod_fault mod_suits mod_doneMany mod_undoneMany mod_open mod_laid mod_isBoth mod_wished mod_bestMany mod_bestRow mod_ringDigits mod_traces (r_1, u_2) hc_3) ⟨hx, hb, hml, hown, ht⟩ (cwV 1 ht g_X12_176 rfl rfl rfl ⟨rfl, hd_X12_isShoe⟩ ⟨Nat.le_of_ble_eq_true rfl, Nat.le_of_ble_eq_true rfl⟩) (va_recv hK hP (ci := 12) (q0 := 0) rfl rfl) hP hD hS hK hA [0] rfl rfl [(ad 41)] rfl (fun _ => rfl) rfl hl.1 (Nat.le_of_ble_eq_true rfl) dX12_moveShoe_2 ⟨Nat.zero_le _, Nat.zero_le _⟩ (fun r u H locs hq hP hS => ?_)
  cases hq
  have hP : va_P D classes (wl_X12_moveShoe ad cs mod_code mod_shoes mod_claims mod_taped mod_here mod_fault mod_suits mod_doneMany mod_undoneMany mod_open mod_laid mod_isBoth mod_wished mod_bestMany mod_bestRow mod_ringDigits mod_traces mod_shoeDay mod_isWon mod_undoneFrom mod_changeOf mod_changeAt mod_before mod_behind) H := hP
  have hD : va_D A (wl_X12_moveShoe ad cs mod_code mod_shoes mod_claims mod_taped mod_here mod_fault mod_suits mod_doneMany mod_undoneMany mod_open mod_laid mod_isBoth mod_wished mod_bestMany mod_bestRow mod_ringDigits mod_traces mod_shoeDay mod_isWon mod_undoneFrom mod_changeOf mod_changeAt mod_before mod_behind) := zDk hD [(ad 41), (ad 45), (ad 54), (ad 57), (ad 62), (ad 63), (ad 64), (ad 65)] rfl rfl
  refine lv_if_eq (tgt := 25) hx hb dX12_moveShoe_5 (by decide) (fun c_4 => ?_) (fun c_4 => ?_)
  · have h := zk_t c_4 h
    refine lv_iconst (v := (-1 : Int32)) hx hb dX12_moveShoe_25 (by decide) ?_
    exact W.iret (v := (-1 : Int32)) hx hb hr (fun t ht2 hW => ⟨⟨(-1 : Int32), (mod_doneMany, mod_undoneMany, mod_shoeDay, mod_isWon, mod_undoneFrom, mod_changeOf, mod_changeAt, mod_before, mod_behind), rfl, Option.some.inj h, by rw [ht2]; exact hP, hD⟩, hS.F ht2⟩) hS.2.2 dX12_moveShoe_26 hlocks
  · have h := zk_f c_4 h
    refine lv_iload_n hx hb dX12_moveShoe_8 rfl (lv_at hl 2 rfl) ?_
    obtain ⟨r_5, u_6, hc_7, h⟩ := zk_o2 h
    refine zz_si (post := (fun r u => (r, u) = (r_5, u_6))) (w1 := fun u => (wl_X12_isDay ad cs )) (As := [.int x2]) (rest := []) (c_X12_isDay l D cs ad  H.size x2 (r_5, u_6) hc_7) ⟨hx, hb, hml, hown, ht⟩ (va_cwS 1 ht g_X12_151 rfl rfl rfl hd_X12_isDay ⟨Nat.le_of_ble_eq_true rfl, Nat.le_of_ble_eq_true rfl⟩) hP hD hS hK hA [] rfl rfl [] rfl (fun _ => rfl) rfl hl.1 (Nat.le_of_ble_eq_true rfl) dX12_moveShoe_9 ⟨Nat.zero_le _, Nat.zero_le _⟩ (fun r u H locs hq hP hS => ?_)
    cases hq
    have hP : va_P D classes (wl_X12_moveShoe ad cs mod_code mod_shoes mod_claims mod_taped mod_here mod_fault mod_suits mod_doneMany mod_undoneMany mod_open mod_laid mod_isBoth mod_wished mod_bestMany mod_bestRow mod_ringDigits mod_traces mod_shoeDay mod_isWon mod_undoneFrom mod_changeOf mod_changeAt mod_before mod_behind) H := hP
    refine lv_if_eq (tgt := 25) hx hb dX12_moveShoe_12 (by decide) (fun c_8 => ?_) (fun c_8 => ?_)
    · have h := zk_t c_8 h
      refine lv_iconst (v := (-1 : Int32)) hx hb dX12_moveShoe_25 (by decide) ?_
      exact W.iret (v := (-1 : Int32)) hx hb hr (fun t ht2 hW => ⟨⟨(-1 : Int32), (mod_doneMany, mod_undoneMany, mod_shoeDay, mod_isWon, mod_undoneFrom, mod_changeOf, mod_changeAt, mod_before, mod_behind), rfl, Option.some.inj h, by rw [ht2]; exact hP, hD⟩, hS.F ht2⟩) hS.2.2 dX12_moveShoe_26 hlocks
    · have h := zk_f c_8 h
      refine lv_aload_n hx hb dX12_moveShoe_15 rfl (lv_at hl 0 rfl) ?_
      refine lv_iconst (v := (2 : Int32)) hx hb dX12_moveShoe_16 (by decide) ?_
      refine lv_iload_n hx hb dX12_moveShoe_17 rfl (lv_at hl 1 rfl) ?_
      refine lv_iload_n hx hb dX12_moveShoe_18 rfl (lv_at hl 2 rfl) ?_
      obtain ⟨r_9, u_10, u_11, u_12, u_13, u_14, u_15, u_16, u_17, u_18, hc_19, h⟩ := zk_o10 h
      refine zz_vi (post := (fun r u => (r, u) = (r_9, u_10, u_11, u_12, u_13, u_14, u_15, u_16, u_17, u_18))) (w1 := fun u => (wl_X12_changes ad cs mod_code mod_shoes mod_claims mod_taped mod_here mod_fault mod_suits u.1 u.2.1 mod_open mod_laid mod_isBoth mod_wished mod_bestMany mod_bestRow mod_ringDigits mod_traces u.2.2.1 u.2.2.2.1 u.2.2.2.2.1 u.2.2.2.2.2.1 u.2.2.2.2.2.2.1 u.2.2.2.2.2.2.2.1 u.2.2.2.2.2.2.2.2)) (As := [.int (2 : Int32), .int x1, .int x2]) (rest := []) (c_X12_changes l D cs ad  H.size 100000 (2 : Int32) x1 x2 mod_code mod_shoes mod_claims mod_taped mod_here mod_fault mod_suits mod_doneMany mod_undoneMany mod_open mod_laid mod_isBoth mod_wished mod_bestMany mod_bestRow mod_ringDigits mod_traces mod_shoeDay mod_isWon mod_undoneFrom mod_changeOf mod_changeAt mod_before mod_behind (r_9, u_10, u_11, u_12, u_13, u_14, u_15, u_16, u_17, u_18) hc_19) ⟨hx, hb, hml, hown, ht⟩ (cwV 3 ht g_X12_251 rfl rfl rfl ⟨rfl, hd_X12_changes⟩ ⟨Nat.le_of_ble_eq_true rfl, Nat.le_of_ble_eq_true rfl⟩) (va_recv hK hP (ci := 12) (q0 := 0) rfl rfl) hP hD hS hK hA [0, 1, 2, 3, 4, 5, 6, 7] rfl rfl [(ad 41), (ad 45), (ad 54), (ad 57), (ad 62), (ad 63), (ad 64), (ad 65)] rfl (fun _ => rfl) rfl hl.1 (Nat.le_of_ble_eq_true rfl) dX12_moveShoe_19 ⟨Nat.zero_le _, Nat.zero_le _⟩ (fun r u H locs hq hP hS => ?_)
      cases hq
      have hP : va_P D classes (wl_X12_moveShoe ad cs mod_code mod_shoes mod_claims mod_taped mod_here mod_fault mod_suits u_10 u_11 mod_open mod_laid mod_isBoth mod_wished mod_bestMany mod_bestRow mod_ringDigits mod_traces u_12 u_13 u_14 u_15 u_16 u_17 u_18) H := hP
      have hD : va_D A (wl_X12_moveShoe ad cs mod_code mod_shoes mod_claims mod_taped mod_here mod_fault mod_suits u_10 u_11 mod_open mod_laid mod_isBoth mod_wished mod_bestMany mod_bestRow mod_ringDigits mod_traces u_12 u_13 u_14 u_15 u_16 u_17 u_18) := zDk hD [(ad 41), (ad 45), (ad 54), (ad 57), (ad 62), (ad 63), (ad 64), (ad 65)] rfl rfl
      refine lv_goto (tgt := 26) hx hb dX12_moveShoe_22 (by decide) ?_
      exact W.iret (v := r_9) hx hb hr (fun t ht2 hW => ⟨⟨r_9, (u_10, u_11, u_12, u_13, u_14, u_15, u_16, u_17, u_18), rfl, Option.some.inj h, by rw [ht2]; exact hP, hD⟩, hS.F ht2⟩) hS.2.2 dX12_moveShoe_26 hlocks
set_option maxHeartbeats 4000000 in
set_option maxRecDepth 100000 in
theorem c_X12_moveShoe (l : Launch) (D : va_G) (cs : Nat → ClassId) (ad : Nat → Nat) (sz : Nat) (x1 : Int32) (x2 : Int32) (mod_code : Int32) (mod_shoes : Int32) (mod_claims : Int32) (mod_taped : Int32) (mod_here : Int32) (mod_fault : Int32) (mod_suits : Int32) (mod_doneMany : Int32) (mod_undoneMany : Int32) (mod_open : Int32) (mod_laid : Int32) (mod_isBoth : Int32) (mod_wished : Int32) (mod_bestMany : Int32) (mod_bestRow : Int32) (mod_ringDigits : Int32) (mod_traces : Int32) (mod_shoeDay : Nat → Int32) (mod_isWon : Nat → Int32) (mod_undoneFrom : Nat → Int32) (mod_changeOf : Nat → Int32) (mod_changeAt : Nat → Int32) (mod_before : Nat → Int32) (mod_behind : Nat → Int32) (R : Int32 × Int32 × Int32 × (Nat → Int32) × (Nat → Int32) × (Nat → Int32) × (Nat → Int32) × (Nat → Int32) × (Nat → Int32) × (Nat → Int32)) (h : f_X12_moveShoe   x1 x2 mod_code mod_shoes mod_claims mod_taped mod_here mod_fault mod_suits mod_doneMany mod_undoneMany mod_open mod_laid mod_isBoth mod_wished mod_bestMany mod_bestRow mod_ringDigits mod_traces mod_shoeDay mod_isWon mod_undoneFrom mod_changeOf mod_changeAt mod_before mod_behind = some R) : Met l yX12_moveShoe (z_X12_moveShoe) rm_X12_moveShoe (va_Pc [.ref (ad 41), .int x1, .int x2] (zPre D cs (wl_X12_moveShoe ad cs mod_code mod_shoes mod_claims mod_taped mod_here mod_fault mod_suits mod_doneMany mod_undoneMany mod_open mod_laid mod_isBoth mod_wished mod_bestMany mod_bestRow mod_ringDigits mod_traces mod_shoeDay mod_isWon mod_undoneFrom mod_changeOf mod_changeAt mod_before mod_behind) sz)) (Q_X12_moveShoe D cs ad mod_code mod_shoes mod_claims mod_taped mod_here mod_fault mod_suits mod_open mod_laid mod_isBoth mod_wished mod_bestMany mod_bestRow mod_ringDigits mod_traces (va_A (wl_X12_moveShoe ad cs mod_code mod_shoes mod_claims mod_taped mod_here mod_fault mod_suits mod_doneMany mod_undoneMany mod_open mod_laid mod_isBoth mod_wished mod_bestMany mod_bestRow mod_ringDigits mod_traces mod_shoeDay mod_isWon mod_undoneFrom mod_changeOf mod_changeAt mod_before mod_behind) sz) R) 0 0 (va_A (wl_X12_moveShoe ad cs mod_code mod_shoes mod_claims mod_taped mod_here mod_fault mod_suits mod_doneMany mod_undoneMany mod_open mod_laid mod_isBoth mod_wished mod_bestMany mod_bestRow mod_ringDigits mod_traces mod_shoeDay mod_isWon mod_undoneFrom mod_changeOf mod_changeAt mod_before mod_behind) sz) := by
  refine Met.ofW (cc := cX12_moveShoe) (maxL := 3) (ret := (some .int)) (by decide) rfl ?_
  intro p e s m args below meth c s₁ B hml hv
  obtain ⟨rfl, hsz, hP, hK, hD0⟩ := hv
  subst hsz
  have hD := hD0.self (sz := s.heap.size)
  have C0 : zC p s m _ meth c cX12_moveShoe 3 (some .int) RX12 zW := ⟨B.exec, B.bytes, B.returns, hml, findClass_of_methodNamed B.named, fun w hw => atoms_spec (ws := z_X12_moveShoe) B.pre w (List.mem_cons_of_mem _ hw), B.notSynchronized⟩
  have hA : ∀ q : Nat, s.heap.size ≤ q → va_A (wl_X12_moveShoe ad cs mod_code mod_shoes mod_claims mod_taped mod_here mod_fault mod_suits mod_doneMany mod_undoneMany mod_open mod_laid mod_isBoth mod_wished mod_bestMany mod_bestRow mod_ringDigits mod_traces mod_shoeDay mod_isWon mod_undoneFrom mod_changeOf mod_changeAt mod_before mod_behind) s.heap.size q := fun q h => Or.inr h
  have hl := lv_entry ([.ref (ad 41), .int x1, .int x2]) (n := 3) (Nat.le_of_ble_eq_true rfl)
  rw [lg_entry_eq]
  generalize (lg_sl ([.ref (ad 41), .int x1, .int x2]) ++ List.replicate (3 - (lg_sl ([.ref (ad 41), .int x1, .int x2])).length) Slot.unset).toArray = ls at hl ⊢
  exact L_X12_moveShoe_0 C0 hK hA   x1 x2 mod_doneMany mod_undoneMany mod_shoeDay mod_isWon mod_undoneFrom mod_changeOf mod_changeAt mod_before mod_behind h s.heap [] ls hP hD va_S.rf hl
