theorem kw_0 : Cond.selects RX5 yX5_readLevel yX5_readLevel ∈ zW := zwI (i := 0) (by decide +kernel) (by decide +kernel)
theorem kw_1 : Cond.selects RX5 yX5_readOperand yX5_readOperand ∈ zW := zwI (i := 1) (by decide +kernel) (by decide +kernel)
theorem kw_545 : Cond.methodLink RX5 53 yX5_readLevel ∈ zW := zwC (i := 231) zc_2 rfl rfl
theorem kw_547 : Cond.instanceMethod yX5_readLevel ∈ zW := zwC (i := 233) zc_2 rfl rfl
theorem kw_548 : Cond.code yX5_readLevel cX5_readLevel 5 none ∈ zW := zwC (i := 234) zc_2 rfl rfl
theorem kw_549 : Cond.methodLink RX5 61 yX5_readOperand ∈ zW := zwC (i := 235) zc_2 rfl rfl
theorem kw_551 : Cond.instanceMethod yX5_readOperand ∈ zW := zwC (i := 237) zc_2 rfl rfl
theorem kw_552 : Cond.code yX5_readOperand cX5_readOperand 3 none ∈ zW := zwC (i := 238) zc_2 rfl rfl
theorem kw_562 : Cond.methodLink RX5 74 yX5_readNumber ∈ zW := zwC (i := 8) zc_3 rfl rfl
theorem kw_563 : Cond.instanceMethod yX5_readNumber ∈ zW := zwC (i := 9) zc_3 rfl rfl
theorem kw_564 : Cond.selects RX5 yX5_readNumber yX5_readNumber ∈ zW := zwC (i := 10) zc_3 rfl rfl
theorem kw_565 : Cond.code yX5_readNumber cX5_readNumber 3 none ∈ zW := zwC (i := 11) zc_3 rfl rfl
theorem kw_570 : Cond.methodLink RX5 77 yX5_mayOpen ∈ zW := zwC (i := 16) zc_3 rfl rfl
theorem kw_571 : Cond.instanceMethod yX5_mayOpen ∈ zW := zwC (i := 17) zc_3 rfl rfl
theorem kw_572 : Cond.selects RX5 yX5_mayOpen yX5_mayOpen ∈ zW := zwC (i := 18) zc_3 rfl rfl
theorem kw_573 : Cond.code yX5_mayOpen cX5_mayOpen 2 (some .boolean) ∈ zW := zwC (i := 19) zc_3 rfl rfl
theorem kw_578 : Cond.methodLink RX5 32 yX5_accept ∈ zW := zwC (i := 24) zc_3 rfl rfl
theorem kw_579 : Cond.instanceMethod yX5_accept ∈ zW := zwC (i := 25) zc_3 rfl rfl
theorem kw_580 : Cond.selects RX5 yX5_accept yX5_accept ∈ zW := zwC (i := 26) zc_3 rfl rfl
theorem kw_581 : Cond.code yX5_accept cX5_accept 2 (some .boolean) ∈ zW := zwC (i := 27) zc_3 rfl rfl
theorem kw_582 : Cond.methodLink RX5 80 yX5_readName ∈ zW := zwC (i := 28) zc_3 rfl rfl
theorem kw_583 : Cond.instanceMethod yX5_readName ∈ zW := zwC (i := 29) zc_3 rfl rfl
theorem kw_584 : Cond.selects RX5 yX5_readName yX5_readName ∈ zW := zwC (i := 30) zc_3 rfl rfl
theorem kw_585 : Cond.code yX5_readName cX5_readName 3 none ∈ zW := zwC (i := 31) zc_3 rfl rfl
theorem kw_646 : Cond.methodLink RX5 64 yX5_operatorAt ∈ zW := zwC (i := 92) zc_3 rfl rfl
theorem kw_647 : Cond.instanceMethod yX5_operatorAt ∈ zW := zwC (i := 93) zc_3 rfl rfl
theorem kw_648 : Cond.selects RX5 yX5_operatorAt yX5_operatorAt ∈ zW := zwC (i := 94) zc_3 rfl rfl
theorem kw_649 : Cond.code yX5_operatorAt cX5_operatorAt 3 (some .int) ∈ zW := zwC (i := 95) zc_3 rfl rfl
theorem zh_cX5_readLevel_0 : zck [27, 7, 164, 0, 9, 42, 28, 182, 0, 61, 177, 42, 27, 4, 96, 28, 182, 0, 53, 3, 62, 29] (zdu 0 cX5_readLevel.data.toList) = true := by decide +kernel
theorem dX5_readLevel_0 : decode cX5_readLevel 0 = .ok (.iload_n 1, 1) := zo_27 zh_cX5_readLevel_0 0 rfl
theorem dX5_readLevel_1 : decode cX5_readLevel 1 = .ok (.iconst 4, 1) := zo_7 zh_cX5_readLevel_0 1 rfl
theorem dX5_readLevel_2 : decode cX5_readLevel 2 = .ok (.if_icmp .le 9, 3) := zo_p164 zh_cX5_readLevel_0 2 9 rfl rfl
theorem dX5_readLevel_5 : decode cX5_readLevel 5 = .ok (.aload_n 0, 1) := zo_42 zh_cX5_readLevel_0 5 rfl
theorem dX5_readLevel_6 : decode cX5_readLevel 6 = .ok (.iload_n 2, 1) := zo_28 zh_cX5_readLevel_0 6 rfl
theorem dX5_readLevel_7 : decode cX5_readLevel 7 = .ok (.invokevirtual 61, 3) := zo_182 zh_cX5_readLevel_0 7 rfl
theorem dX5_readLevel_10 : decode cX5_readLevel 10 = .ok (.return_, 1) := zo_177 zh_cX5_readLevel_0 10 rfl
theorem dX5_readLevel_11 : decode cX5_readLevel 11 = .ok (.aload_n 0, 1) := zo_42 zh_cX5_readLevel_0 11 rfl
theorem dX5_readLevel_12 : decode cX5_readLevel 12 = .ok (.iload_n 1, 1) := zo_27 zh_cX5_readLevel_0 12 rfl
theorem dX5_readLevel_13 : decode cX5_readLevel 13 = .ok (.iconst 1, 1) := zo_4 zh_cX5_readLevel_0 13 rfl
theorem dX5_readLevel_14 : decode cX5_readLevel 14 = .ok (.iadd, 1) := zo_96 zh_cX5_readLevel_0 14 rfl
theorem dX5_readLevel_15 : decode cX5_readLevel 15 = .ok (.iload_n 2, 1) := zo_28 zh_cX5_readLevel_0 15 rfl
theorem dX5_readLevel_16 : decode cX5_readLevel 16 = .ok (.invokevirtual 53, 3) := zo_182 zh_cX5_readLevel_0 16 rfl
theorem dX5_readLevel_19 : decode cX5_readLevel 19 = .ok (.iconst 0, 1) := zo_3 zh_cX5_readLevel_0 19 rfl
theorem zh_cX5_readLevel_1 : zck [62, 29, 16, 120, 162, 0, 59, 42, 180, 0, 26, 156, 0, 52, 42, 27, 182, 0, 64, 54, 4, 21] (zdu 20 cX5_readLevel.data.toList) = true := by decide +kernel
theorem dX5_readLevel_20 : decode cX5_readLevel 20 = .ok (.istore_n 3, 1) := zo_62 zh_cX5_readLevel_1 0 rfl
theorem dX5_readLevel_21 : decode cX5_readLevel 21 = .ok (.iload_n 3, 1) := zo_29 zh_cX5_readLevel_1 1 rfl
theorem dX5_readLevel_22 : decode cX5_readLevel 22 = .ok (.bipush 120, 2) := zo_p16 zh_cX5_readLevel_1 2 120 rfl rfl
theorem dX5_readLevel_24 : decode cX5_readLevel 24 = .ok (.if_icmp .ge 59, 3) := zo_p162 zh_cX5_readLevel_1 4 59 rfl rfl
theorem dX5_readLevel_27 : decode cX5_readLevel 27 = .ok (.aload_n 0, 1) := zo_42 zh_cX5_readLevel_1 7 rfl
theorem dX5_readLevel_28 : decode cX5_readLevel 28 = .ok (.getfield 26, 3) := zo_180 zh_cX5_readLevel_1 8 rfl
theorem dX5_readLevel_31 : decode cX5_readLevel 31 = .ok (.ifCond .ge 52, 3) := zo_p156 zh_cX5_readLevel_1 11 52 rfl rfl
theorem dX5_readLevel_34 : decode cX5_readLevel 34 = .ok (.aload_n 0, 1) := zo_42 zh_cX5_readLevel_1 14 rfl
theorem dX5_readLevel_35 : decode cX5_readLevel 35 = .ok (.iload_n 1, 1) := zo_27 zh_cX5_readLevel_1 15 rfl
theorem dX5_readLevel_36 : decode cX5_readLevel 36 = .ok (.invokevirtual 64, 3) := zo_182 zh_cX5_readLevel_1 16 rfl
theorem dX5_readLevel_39 : decode cX5_readLevel 39 = .ok (.istore 4, 2) := zo_54 zh_cX5_readLevel_1 19 rfl
theorem zh_cX5_readLevel_2 : zck [4, 21, 4, 156, 0, 4, 177, 42, 89, 180, 0, 19, 4, 96, 181, 0, 19, 42, 27, 4, 96, 28] (zdu 40 cX5_readLevel.data.toList) = true := by decide +kernel
theorem dX5_readLevel_41 : decode cX5_readLevel 41 = .ok (.iload 4, 2) := zo_21 zh_cX5_readLevel_2 1 rfl
theorem dX5_readLevel_43 : decode cX5_readLevel 43 = .ok (.ifCond .ge 4, 3) := zo_p156 zh_cX5_readLevel_2 3 4 rfl rfl
theorem dX5_readLevel_46 : decode cX5_readLevel 46 = .ok (.return_, 1) := zo_177 zh_cX5_readLevel_2 6 rfl
theorem dX5_readLevel_47 : decode cX5_readLevel 47 = .ok (.aload_n 0, 1) := zo_42 zh_cX5_readLevel_2 7 rfl
theorem dX5_readLevel_48 : decode cX5_readLevel 48 = .ok (.dup, 1) := zo_89 zh_cX5_readLevel_2 8 rfl
theorem dX5_readLevel_49 : decode cX5_readLevel 49 = .ok (.getfield 19, 3) := zo_180 zh_cX5_readLevel_2 9 rfl
theorem dX5_readLevel_52 : decode cX5_readLevel 52 = .ok (.iconst 1, 1) := zo_4 zh_cX5_readLevel_2 12 rfl
theorem dX5_readLevel_53 : decode cX5_readLevel 53 = .ok (.iadd, 1) := zo_96 zh_cX5_readLevel_2 13 rfl
theorem dX5_readLevel_54 : decode cX5_readLevel 54 = .ok (.putfield 19, 3) := zo_181 zh_cX5_readLevel_2 14 rfl
theorem dX5_readLevel_57 : decode cX5_readLevel 57 = .ok (.aload_n 0, 1) := zo_42 zh_cX5_readLevel_2 17 rfl
theorem dX5_readLevel_58 : decode cX5_readLevel 58 = .ok (.iload_n 1, 1) := zo_27 zh_cX5_readLevel_2 18 rfl
theorem dX5_readLevel_59 : decode cX5_readLevel 59 = .ok (.iconst 1, 1) := zo_4 zh_cX5_readLevel_2 19 rfl
theorem zh_cX5_readLevel_3 : zck [96, 28, 182, 0, 53, 42, 21, 4, 182, 0, 57, 27, 5, 160, 0, 4, 177, 132, 3, 1, 167, 255] (zdu 60 cX5_readLevel.data.toList) = true := by decide +kernel
theorem dX5_readLevel_60 : decode cX5_readLevel 60 = .ok (.iadd, 1) := zo_96 zh_cX5_readLevel_3 0 rfl
theorem dX5_readLevel_61 : decode cX5_readLevel 61 = .ok (.iload_n 2, 1) := zo_28 zh_cX5_readLevel_3 1 rfl
theorem dX5_readLevel_62 : decode cX5_readLevel 62 = .ok (.invokevirtual 53, 3) := zo_182 zh_cX5_readLevel_3 2 rfl
theorem dX5_readLevel_65 : decode cX5_readLevel 65 = .ok (.aload_n 0, 1) := zo_42 zh_cX5_readLevel_3 5 rfl
theorem dX5_readLevel_66 : decode cX5_readLevel 66 = .ok (.iload 4, 2) := zo_21 zh_cX5_readLevel_3 6 rfl
theorem dX5_readLevel_68 : decode cX5_readLevel 68 = .ok (.invokevirtual 57, 3) := zo_182 zh_cX5_readLevel_3 8 rfl
theorem dX5_readLevel_71 : decode cX5_readLevel 71 = .ok (.iload_n 1, 1) := zo_27 zh_cX5_readLevel_3 11 rfl
theorem dX5_readLevel_72 : decode cX5_readLevel 72 = .ok (.iconst 2, 1) := zo_5 zh_cX5_readLevel_3 12 rfl
theorem dX5_readLevel_73 : decode cX5_readLevel 73 = .ok (.if_icmp .ne 4, 3) := zo_p160 zh_cX5_readLevel_3 13 4 rfl rfl
theorem dX5_readLevel_76 : decode cX5_readLevel 76 = .ok (.return_, 1) := zo_177 zh_cX5_readLevel_3 16 rfl
theorem dX5_readLevel_77 : decode cX5_readLevel 77 = .ok (.iinc 3 1, 3) := zo_p132 zh_cX5_readLevel_3 17 1 rfl rfl
theorem zh_cX5_readLevel_4 : zck [167, 255, 197, 177] (zdu 80 cX5_readLevel.data.toList) = true := by decide +kernel
theorem dX5_readLevel_80 : decode cX5_readLevel 80 = .ok (.goto (-59), 3) := zo_n167 zh_cX5_readLevel_4 0 58 rfl rfl
theorem dX5_readLevel_83 : decode cX5_readLevel 83 = .ok (.return_, 1) := zo_177 zh_cX5_readLevel_4 3 rfl
theorem zh_cX5_readOperand_0 : zck [42, 180, 0, 15, 42, 180, 0, 19, 182, 0, 68, 61, 42, 180, 0, 26, 155, 0, 4, 177, 42, 180] (zdu 0 cX5_readOperand.data.toList) = true := by decide +kernel
theorem dX5_readOperand_0 : decode cX5_readOperand 0 = .ok (.aload_n 0, 1) := zo_42 zh_cX5_readOperand_0 0 rfl
theorem dX5_readOperand_1 : decode cX5_readOperand 1 = .ok (.getfield 15, 3) := zo_180 zh_cX5_readOperand_0 1 rfl
theorem dX5_readOperand_4 : decode cX5_readOperand 4 = .ok (.aload_n 0, 1) := zo_42 zh_cX5_readOperand_0 4 rfl
theorem dX5_readOperand_5 : decode cX5_readOperand 5 = .ok (.getfield 19, 3) := zo_180 zh_cX5_readOperand_0 5 rfl
theorem dX5_readOperand_8 : decode cX5_readOperand 8 = .ok (.invokevirtual 68, 3) := zo_182 zh_cX5_readOperand_0 8 rfl
theorem dX5_readOperand_11 : decode cX5_readOperand 11 = .ok (.istore_n 2, 1) := zo_61 zh_cX5_readOperand_0 11 rfl
theorem dX5_readOperand_12 : decode cX5_readOperand 12 = .ok (.aload_n 0, 1) := zo_42 zh_cX5_readOperand_0 12 rfl
theorem dX5_readOperand_13 : decode cX5_readOperand 13 = .ok (.getfield 26, 3) := zo_180 zh_cX5_readOperand_0 13 rfl
theorem dX5_readOperand_16 : decode cX5_readOperand 16 = .ok (.ifCond .lt 4, 3) := zo_p155 zh_cX5_readOperand_0 16 4 rfl rfl
theorem dX5_readOperand_19 : decode cX5_readOperand 19 = .ok (.return_, 1) := zo_177 zh_cX5_readOperand_0 19 rfl
theorem zh_cX5_readOperand_1 : zck [42, 180, 0, 15, 42, 180, 0, 19, 182, 0, 71, 153, 0, 10, 42, 182, 0, 74, 167, 0, 91, 28] (zdu 20 cX5_readOperand.data.toList) = true := by decide +kernel
theorem dX5_readOperand_20 : decode cX5_readOperand 20 = .ok (.aload_n 0, 1) := zo_42 zh_cX5_readOperand_1 0 rfl
theorem dX5_readOperand_21 : decode cX5_readOperand 21 = .ok (.getfield 15, 3) := zo_180 zh_cX5_readOperand_1 1 rfl
theorem dX5_readOperand_24 : decode cX5_readOperand 24 = .ok (.aload_n 0, 1) := zo_42 zh_cX5_readOperand_1 4 rfl
theorem dX5_readOperand_25 : decode cX5_readOperand 25 = .ok (.getfield 19, 3) := zo_180 zh_cX5_readOperand_1 5 rfl
theorem dX5_readOperand_28 : decode cX5_readOperand 28 = .ok (.invokevirtual 71, 3) := zo_182 zh_cX5_readOperand_1 8 rfl
theorem dX5_readOperand_31 : decode cX5_readOperand 31 = .ok (.ifCond .eq 10, 3) := zo_p153 zh_cX5_readOperand_1 11 10 rfl rfl
theorem dX5_readOperand_34 : decode cX5_readOperand 34 = .ok (.aload_n 0, 1) := zo_42 zh_cX5_readOperand_1 14 rfl
theorem dX5_readOperand_35 : decode cX5_readOperand 35 = .ok (.invokevirtual 74, 3) := zo_182 zh_cX5_readOperand_1 15 rfl
theorem dX5_readOperand_38 : decode cX5_readOperand 38 = .ok (.goto 91, 3) := zo_p167 zh_cX5_readOperand_1 18 91 rfl rfl
theorem zh_cX5_readOperand_2 : zck [91, 28, 16, 33, 159, 0, 9, 28, 16, 45, 160, 0, 36, 42, 27, 182, 0, 77, 153, 0, 71, 42] (zdu 40 cX5_readOperand.data.toList) = true := by decide +kernel
theorem dX5_readOperand_41 : decode cX5_readOperand 41 = .ok (.iload_n 2, 1) := zo_28 zh_cX5_readOperand_2 1 rfl
theorem dX5_readOperand_42 : decode cX5_readOperand 42 = .ok (.bipush 33, 2) := zo_p16 zh_cX5_readOperand_2 2 33 rfl rfl
theorem dX5_readOperand_44 : decode cX5_readOperand 44 = .ok (.if_icmp .eq 9, 3) := zo_p159 zh_cX5_readOperand_2 4 9 rfl rfl
theorem dX5_readOperand_47 : decode cX5_readOperand 47 = .ok (.iload_n 2, 1) := zo_28 zh_cX5_readOperand_2 7 rfl
theorem dX5_readOperand_48 : decode cX5_readOperand 48 = .ok (.bipush 45, 2) := zo_p16 zh_cX5_readOperand_2 8 45 rfl rfl
theorem dX5_readOperand_50 : decode cX5_readOperand 50 = .ok (.if_icmp .ne 36, 3) := zo_p160 zh_cX5_readOperand_2 10 36 rfl rfl
theorem dX5_readOperand_53 : decode cX5_readOperand 53 = .ok (.aload_n 0, 1) := zo_42 zh_cX5_readOperand_2 13 rfl
theorem dX5_readOperand_54 : decode cX5_readOperand 54 = .ok (.iload_n 1, 1) := zo_27 zh_cX5_readOperand_2 14 rfl
theorem dX5_readOperand_55 : decode cX5_readOperand 55 = .ok (.invokevirtual 77, 3) := zo_182 zh_cX5_readOperand_2 15 rfl
theorem dX5_readOperand_58 : decode cX5_readOperand 58 = .ok (.ifCond .eq 71, 3) := zo_p153 zh_cX5_readOperand_2 18 71 rfl rfl
theorem zh_cX5_readOperand_3 : zck [71, 42, 27, 4, 96, 182, 0, 61, 42, 28, 16, 33, 160, 0, 7, 7, 167, 0, 4, 8, 182, 0] (zdu 60 cX5_readOperand.data.toList) = true := by decide +kernel
theorem dX5_readOperand_61 : decode cX5_readOperand 61 = .ok (.aload_n 0, 1) := zo_42 zh_cX5_readOperand_3 1 rfl
theorem dX5_readOperand_62 : decode cX5_readOperand 62 = .ok (.iload_n 1, 1) := zo_27 zh_cX5_readOperand_3 2 rfl
theorem dX5_readOperand_63 : decode cX5_readOperand 63 = .ok (.iconst 1, 1) := zo_4 zh_cX5_readOperand_3 3 rfl
theorem dX5_readOperand_64 : decode cX5_readOperand 64 = .ok (.iadd, 1) := zo_96 zh_cX5_readOperand_3 4 rfl
theorem dX5_readOperand_65 : decode cX5_readOperand 65 = .ok (.invokevirtual 61, 3) := zo_182 zh_cX5_readOperand_3 5 rfl
theorem dX5_readOperand_68 : decode cX5_readOperand 68 = .ok (.aload_n 0, 1) := zo_42 zh_cX5_readOperand_3 8 rfl
theorem dX5_readOperand_69 : decode cX5_readOperand 69 = .ok (.iload_n 2, 1) := zo_28 zh_cX5_readOperand_3 9 rfl
theorem dX5_readOperand_70 : decode cX5_readOperand 70 = .ok (.bipush 33, 2) := zo_p16 zh_cX5_readOperand_3 10 33 rfl rfl
theorem dX5_readOperand_72 : decode cX5_readOperand 72 = .ok (.if_icmp .ne 7, 3) := zo_p160 zh_cX5_readOperand_3 12 7 rfl rfl
theorem dX5_readOperand_75 : decode cX5_readOperand 75 = .ok (.iconst 4, 1) := zo_7 zh_cX5_readOperand_3 15 rfl
theorem dX5_readOperand_76 : decode cX5_readOperand 76 = .ok (.goto 4, 3) := zo_p167 zh_cX5_readOperand_3 16 4 rfl rfl
theorem dX5_readOperand_79 : decode cX5_readOperand 79 = .ok (.iconst 5, 1) := zo_8 zh_cX5_readOperand_3 19 rfl
theorem zh_cX5_readOperand_4 : zck [182, 0, 57, 167, 0, 46, 28, 16, 40, 160, 0, 35, 42, 27, 182, 0, 77, 153, 0, 32, 42, 3] (zdu 80 cX5_readOperand.data.toList) = true := by decide +kernel
theorem dX5_readOperand_80 : decode cX5_readOperand 80 = .ok (.invokevirtual 57, 3) := zo_182 zh_cX5_readOperand_4 0 rfl
theorem dX5_readOperand_83 : decode cX5_readOperand 83 = .ok (.goto 46, 3) := zo_p167 zh_cX5_readOperand_4 3 46 rfl rfl
theorem dX5_readOperand_86 : decode cX5_readOperand 86 = .ok (.iload_n 2, 1) := zo_28 zh_cX5_readOperand_4 6 rfl
theorem dX5_readOperand_87 : decode cX5_readOperand 87 = .ok (.bipush 40, 2) := zo_p16 zh_cX5_readOperand_4 7 40 rfl rfl
theorem dX5_readOperand_89 : decode cX5_readOperand 89 = .ok (.if_icmp .ne 35, 3) := zo_p160 zh_cX5_readOperand_4 9 35 rfl rfl
theorem dX5_readOperand_92 : decode cX5_readOperand 92 = .ok (.aload_n 0, 1) := zo_42 zh_cX5_readOperand_4 12 rfl
theorem dX5_readOperand_93 : decode cX5_readOperand 93 = .ok (.iload_n 1, 1) := zo_27 zh_cX5_readOperand_4 13 rfl
theorem dX5_readOperand_94 : decode cX5_readOperand 94 = .ok (.invokevirtual 77, 3) := zo_182 zh_cX5_readOperand_4 14 rfl
theorem dX5_readOperand_97 : decode cX5_readOperand 97 = .ok (.ifCond .eq 32, 3) := zo_p153 zh_cX5_readOperand_4 17 32 rfl rfl
theorem zh_cX5_readOperand_5 : zck [42, 3, 27, 4, 96, 182, 0, 53, 42, 16, 41, 182, 0, 32, 154, 0, 15, 42, 182, 0, 39, 167] (zdu 100 cX5_readOperand.data.toList) = true := by decide +kernel
theorem dX5_readOperand_100 : decode cX5_readOperand 100 = .ok (.aload_n 0, 1) := zo_42 zh_cX5_readOperand_5 0 rfl
theorem dX5_readOperand_101 : decode cX5_readOperand 101 = .ok (.iconst 0, 1) := zo_3 zh_cX5_readOperand_5 1 rfl
theorem dX5_readOperand_102 : decode cX5_readOperand 102 = .ok (.iload_n 1, 1) := zo_27 zh_cX5_readOperand_5 2 rfl
theorem dX5_readOperand_103 : decode cX5_readOperand 103 = .ok (.iconst 1, 1) := zo_4 zh_cX5_readOperand_5 3 rfl
theorem dX5_readOperand_104 : decode cX5_readOperand 104 = .ok (.iadd, 1) := zo_96 zh_cX5_readOperand_5 4 rfl
theorem dX5_readOperand_105 : decode cX5_readOperand 105 = .ok (.invokevirtual 53, 3) := zo_182 zh_cX5_readOperand_5 5 rfl
theorem dX5_readOperand_108 : decode cX5_readOperand 108 = .ok (.aload_n 0, 1) := zo_42 zh_cX5_readOperand_5 8 rfl
theorem dX5_readOperand_109 : decode cX5_readOperand 109 = .ok (.bipush 41, 2) := zo_p16 zh_cX5_readOperand_5 9 41 rfl rfl
theorem dX5_readOperand_111 : decode cX5_readOperand 111 = .ok (.invokevirtual 32, 3) := zo_182 zh_cX5_readOperand_5 11 rfl
theorem dX5_readOperand_114 : decode cX5_readOperand 114 = .ok (.ifCond .ne 15, 3) := zo_p154 zh_cX5_readOperand_5 14 15 rfl rfl
theorem dX5_readOperand_117 : decode cX5_readOperand 117 = .ok (.aload_n 0, 1) := zo_42 zh_cX5_readOperand_5 17 rfl
theorem dX5_readOperand_118 : decode cX5_readOperand 118 = .ok (.invokevirtual 39, 3) := zo_182 zh_cX5_readOperand_5 18 rfl
theorem zh_cX5_readOperand_6 : zck [39, 167, 0, 8, 42, 28, 182, 0, 80, 177] (zdu 120 cX5_readOperand.data.toList) = true := by decide +kernel
theorem dX5_readOperand_121 : decode cX5_readOperand 121 = .ok (.goto 8, 3) := zo_p167 zh_cX5_readOperand_6 1 8 rfl rfl
theorem dX5_readOperand_124 : decode cX5_readOperand 124 = .ok (.aload_n 0, 1) := zo_42 zh_cX5_readOperand_6 4 rfl
theorem dX5_readOperand_125 : decode cX5_readOperand 125 = .ok (.iload_n 2, 1) := zo_28 zh_cX5_readOperand_6 5 rfl
theorem dX5_readOperand_126 : decode cX5_readOperand 126 = .ok (.invokevirtual 80, 3) := zo_182 zh_cX5_readOperand_6 6 rfl
theorem dX5_readOperand_129 : decode cX5_readOperand 129 = .ok (.return_, 1) := zo_177 zh_cX5_readOperand_6 9 rfl
abbrev z_X5_readLevel : List Cond := .code yX5_readLevel cX5_readLevel 5 none :: zW
abbrev wl_X5_readLevel (ad : Nat → Nat) (cs : Nat → ClassId)  (tape_size : Int32) (tape_bytes : Nat → Int32) (lr_size : Int32) (lr_at : Int32) (lr_fault : Int32) (lr_code : Nat → Int32) : va_W := [((ad 23), .inr (9, [.ref (ad 24), .int tape_size])), ((ad 24), .inl (cs 0, 120, .inl tape_bytes)), ((ad 26), .inr (5, [.ref (ad 23), .ref (ad 27), .int lr_size, .int lr_at, .int lr_fault])), ((ad 27), .inl (cs 0, 121, .inl lr_code))]
def Q_X5_readLevel (D : va_G) (cs : Nat → ClassId) (ad : Nat → Nat)  (tape_size : Int32) (tape_bytes : Nat → Int32) (A : Nat → Prop) (R : Int32 × Int32 × Int32 × (Nat → Int32)) : Array Value → State → Outcome → State → Prop :=
  va_Qv (fun u : Int32 × Int32 × Int32 × (Nat → Int32) => u = R) (fun (u : Int32 × Int32 × Int32 × (Nat → Int32)) (t : State) => va_P D classes (wl_X5_readLevel ad cs tape_size tape_bytes u.1 u.2.1 u.2.2.1 u.2.2.2) t.heap ∧ va_D A (wl_X5_readLevel ad cs tape_size tape_bytes u.1 u.2.1 u.2.2.1 u.2.2.2)) A
abbrev z_X5_readOperand : List Cond := .code yX5_readOperand cX5_readOperand 3 none :: zW
abbrev wl_X5_readOperand (ad : Nat → Nat) (cs : Nat → ClassId)  (tape_size : Int32) (tape_bytes : Nat → Int32) (lr_size : Int32) (lr_at : Int32) (lr_fault : Int32) (lr_code : Nat → Int32) : va_W := [((ad 23), .inr (9, [.ref (ad 24), .int tape_size])), ((ad 24), .inl (cs 0, 120, .inl tape_bytes)), ((ad 26), .inr (5, [.ref (ad 23), .ref (ad 27), .int lr_size, .int lr_at, .int lr_fault])), ((ad 27), .inl (cs 0, 121, .inl lr_code))]
def Q_X5_readOperand (D : va_G) (cs : Nat → ClassId) (ad : Nat → Nat)  (tape_size : Int32) (tape_bytes : Nat → Int32) (A : Nat → Prop) (R : Int32 × Int32 × Int32 × (Nat → Int32)) : Array Value → State → Outcome → State → Prop :=
  va_Qv (fun u : Int32 × Int32 × Int32 × (Nat → Int32) => u = R) (fun (u : Int32 × Int32 × Int32 × (Nat → Int32)) (t : State) => va_P D classes (wl_X5_readOperand ad cs tape_size tape_bytes u.1 u.2.1 u.2.2.1 u.2.2.2) t.heap ∧ va_D A (wl_X5_readOperand ad cs tape_size tape_bytes u.1 u.2.1 u.2.2.1 u.2.2.2)) A
theorem g_X5_32 : GoodIn zW (wsV RX5 32 RX5 yX5_accept z_X5_accept) := zGV kw_578 kw_579 kw_580 kw_80 kw_581
theorem g_X5_53 : GoodIn zW (wsV RX5 53 RX5 yX5_readLevel z_X5_readLevel) := zGV kw_545 kw_547 kw_0 kw_80 kw_548
theorem g_X5_61 : GoodIn zW (wsV RX5 61 RX5 yX5_readOperand z_X5_readOperand) := zGV kw_549 kw_551 kw_1 kw_80 kw_552
theorem g_X5_64 : GoodIn zW (wsV RX5 64 RX5 yX5_operatorAt z_X5_operatorAt) := zGV kw_646 kw_647 kw_648 kw_80 kw_649
theorem g_X5_74 : GoodIn zW (wsV RX5 74 RX5 yX5_readNumber z_X5_readNumber) := zGV kw_562 kw_563 kw_564 kw_80 kw_565
theorem g_X5_77 : GoodIn zW (wsV RX5 77 RX5 yX5_mayOpen z_X5_mayOpen) := zGV kw_570 kw_571 kw_572 kw_80 kw_573
theorem g_X5_80 : GoodIn zW (wsV RX5 80 RX5 yX5_readName z_X5_readName) := zGV kw_582 kw_583 kw_584 kw_80 kw_585
theorem hd_X5_accept : yX5_accept.cls ≠ "java/lang/invoke/MethodHandle" ∧ yX5_accept.cls ≠ "java/lang/invoke/VarHandle" ∧ (parseMethodDescriptor yX5_accept.desc).map (fun d => d.parameters.length) = some 1 := by decide +kernel
theorem hd_X5_mayOpen : yX5_mayOpen.cls ≠ "java/lang/invoke/MethodHandle" ∧ yX5_mayOpen.cls ≠ "java/lang/invoke/VarHandle" ∧ (parseMethodDescriptor yX5_mayOpen.desc).map (fun d => d.parameters.length) = some 1 := by decide +kernel
theorem hd_X5_operatorAt : yX5_operatorAt.cls ≠ "java/lang/invoke/MethodHandle" ∧ yX5_operatorAt.cls ≠ "java/lang/invoke/VarHandle" ∧ (parseMethodDescriptor yX5_operatorAt.desc).map (fun d => d.parameters.length) = some 1 := by decide +kernel
theorem hd_X5_readLevel : yX5_readLevel.cls ≠ "java/lang/invoke/MethodHandle" ∧ yX5_readLevel.cls ≠ "java/lang/invoke/VarHandle" ∧ (parseMethodDescriptor yX5_readLevel.desc).map (fun d => d.parameters.length) = some 2 := by decide +kernel
theorem hd_X5_readName : yX5_readName.cls ≠ "java/lang/invoke/MethodHandle" ∧ yX5_readName.cls ≠ "java/lang/invoke/VarHandle" ∧ (parseMethodDescriptor yX5_readName.desc).map (fun d => d.parameters.length) = some 1 := by decide +kernel
theorem hd_X5_readNumber : yX5_readNumber.cls ≠ "java/lang/invoke/MethodHandle" ∧ yX5_readNumber.cls ≠ "java/lang/invoke/VarHandle" ∧ (parseMethodDescriptor yX5_readNumber.desc).map (fun d => d.parameters.length) = some 0 := by decide +kernel
theorem hd_X5_readOperand : yX5_readOperand.cls ≠ "java/lang/invoke/MethodHandle" ∧ yX5_readOperand.cls ≠ "java/lang/invoke/VarHandle" ∧ (parseMethodDescriptor yX5_readOperand.desc).map (fun d => d.parameters.length) = some 1 := by decide +kernel
def B_X5_readLevel_21  (r_X5_readLevel : Int32 → Int32 → Int32 → (Nat → Int32) → Int32 → Int32 → Int32 → (Nat → Int32) → (Option (Int32 × Int32 × Int32 × (Nat → Int32)))) (r_X5_readOperand : Int32 → Int32 → (Nat → Int32) → Int32 → Int32 → Int32 → (Nat → Int32) → (Option (Int32 × Int32 × Int32 × (Nat → Int32)))) (g21 : Int32 → Int32 → Int32 → Int32 → Int32 → Int32 → (Nat → Int32) → (Option (Int32 × Int32 × Int32 × (Nat → Int32)))) (tape_size : Int32) (tape_bytes : Nat → Int32) (x1 : Int32) (x2 : Int32) (x3 : Int32) (lr_size : Int32) (lr_at : Int32) (lr_fault : Int32) (lr_code : Nat → Int32) : Option (Int32 × Int32 × Int32 × (Nat → Int32)) :=
  (if (120 : Int32) ≤ x3 then (some (lr_size, lr_at, lr_fault, lr_code)) else (if 0 ≤ lr_fault then (some (lr_size, lr_at, lr_fault, lr_code)) else (zk_b2 (f_X5_operatorAt x1 tape_size tape_bytes lr_size lr_at lr_fault) (fun r_14 u_15 => (if 0 ≤ r_14 then (zk_let (lr_at + (1 : Int32)) (fun v_18 => (zk_b4 (r_X5_readLevel (x1 + (1 : Int32)) x2 tape_size tape_bytes lr_size v_18 lr_fault lr_code) (fun u_19 u_20 u_21 u_22 => (zk_b2 (f_X5_emit r_14 u_19 u_20 u_21 u_22) (fun u_24 u_25 => (if x1 = (2 : Int32) then (some (u_24, u_20, u_21, u_25)) else (zk_let (x3 + (1 : Int32)) (fun v_28 => (g21 x1 x2 v_28 u_24 u_20 u_21 u_25)))))))))) else (some (lr_size, lr_at, lr_fault, lr_code)))))))
def B_X5_readLevel_0  (r_X5_readLevel : Int32 → Int32 → Int32 → (Nat → Int32) → Int32 → Int32 → Int32 → (Nat → Int32) → (Option (Int32 × Int32 × Int32 × (Nat → Int32)))) (r_X5_readOperand : Int32 → Int32 → (Nat → Int32) → Int32 → Int32 → Int32 → (Nat → Int32) → (Option (Int32 × Int32 × Int32 × (Nat → Int32)))) (g21 : Int32 → Int32 → Int32 → Int32 → Int32 → Int32 → (Nat → Int32) → (Option (Int32 × Int32 × Int32 × (Nat → Int32)))) (tape_size : Int32) (tape_bytes : Nat → Int32) (x1 : Int32) (x2 : Int32) (lr_size : Int32) (lr_at : Int32) (lr_fault : Int32) (lr_code : Nat → Int32) : Option (Int32 × Int32 × Int32 × (Nat → Int32)) :=
  (if x1 ≤ (4 : Int32) then (zk_b4 (r_X5_readLevel (x1 + (1 : Int32)) x2 tape_size tape_bytes lr_size lr_at lr_fault lr_code) (fun u_2 u_3 u_4 u_5 => (g21 x1 x2 (0 : Int32) u_2 u_3 u_4 u_5))) else (zk_b4 (r_X5_readOperand x2 tape_size tape_bytes lr_size lr_at lr_fault lr_code) (fun u_7 u_8 u_9 u_10 => (some (u_7, u_8, u_9, u_10)))))
def G_X5_readLevel  (r_X5_readLevel : Int32 → Int32 → Int32 → (Nat → Int32) → Int32 → Int32 → Int32 → (Nat → Int32) → (Option (Int32 × Int32 × Int32 × (Nat → Int32)))) (r_X5_readOperand : Int32 → Int32 → (Nat → Int32) → Int32 → Int32 → Int32 → (Nat → Int32) → (Option (Int32 × Int32 × Int32 × (Nat → Int32)))) (tape_size : Int32) (tape_bytes : Nat → Int32) (n : Nat) : (Int32 → Int32 → Int32 → Int32 → Int32 → Int32 → (Nat → Int32) → (Option (Int32 × Int32 × Int32 × (Nat → Int32)))) :=
  Nat.rec (motive := fun _ => (Int32 → Int32 → Int32 → Int32 → Int32 → Int32 → (Nat → Int32) → (Option (Int32 × Int32 × Int32 × (Nat → Int32))))) ((fun _ _ _ _ _ _ _ => none)) (fun _ ih => (B_X5_readLevel_21  r_X5_readLevel r_X5_readOperand ih tape_size tape_bytes)) n
def f_X5_readLevel  (r_X5_readLevel : Int32 → Int32 → Int32 → (Nat → Int32) → Int32 → Int32 → Int32 → (Nat → Int32) → (Option (Int32 × Int32 × Int32 × (Nat → Int32)))) (r_X5_readOperand : Int32 → Int32 → (Nat → Int32) → Int32 → Int32 → Int32 → (Nat → Int32) → (Option (Int32 × Int32 × Int32 × (Nat → Int32)))) (n : Nat) (x1 : Int32) (x2 : Int32) (tape_size : Int32) (tape_bytes : Nat → Int32) (lr_size : Int32) (lr_at : Int32) (lr_fault : Int32) (lr_code : Nat → Int32) : Option (Int32 × Int32 × Int32 × (Nat → Int32)) := B_X5_readLevel_0  r_X5_readLevel r_X5_readOperand ((G_X5_readLevel  r_X5_readLevel r_X5_readOperand tape_size tape_bytes n)) tape_size tape_bytes x1 x2 lr_size lr_at lr_fault lr_code
def B_X5_readOperand_80  (r_X5_readLevel : Int32 → Int32 → Int32 → (Nat → Int32) → Int32 → Int32 → Int32 → (Nat → Int32) → (Option (Int32 × Int32 × Int32 × (Nat → Int32)))) (r_X5_readOperand : Int32 → Int32 → (Nat → Int32) → Int32 → Int32 → Int32 → (Nat → Int32) → (Option (Int32 × Int32 × Int32 × (Nat → Int32))))  (tape_size : Int32) (tape_bytes : Nat → Int32) (s0 : Int32) (lr_size : Int32) (lr_at : Int32) (lr_fault : Int32) (lr_code : Nat → Int32) : Option (Int32 × Int32 × Int32 × (Nat → Int32)) :=
  (zk_b2 (f_X5_emit s0 lr_size lr_at lr_fault lr_code) (fun u_48 u_49 => (some (u_48, lr_at, lr_fault, u_49))))
def B_X5_readOperand_53  (r_X5_readLevel : Int32 → Int32 → Int32 → (Nat → Int32) → Int32 → Int32 → Int32 → (Nat → Int32) → (Option (Int32 × Int32 × Int32 × (Nat → Int32)))) (r_X5_readOperand : Int32 → Int32 → (Nat → Int32) → Int32 → Int32 → Int32 → (Nat → Int32) → (Option (Int32 × Int32 × Int32 × (Nat → Int32))))  (tape_size : Int32) (tape_bytes : Nat → Int32) (x1 : Int32) (x2 : Int32) (lr_size : Int32) (lr_at : Int32) (lr_fault : Int32) (lr_code : Nat → Int32) : Option (Int32 × Int32 × Int32 × (Nat → Int32)) :=
  (zk_b3 (f_X5_mayOpen x1 lr_size lr_at lr_fault) (fun r_37 u_38 u_39 => (if r_37 = 0 then (some (lr_size, u_38, u_39, lr_code)) else (zk_b4 (r_X5_readOperand (x1 + (1 : Int32)) tape_size tape_bytes lr_size u_38 u_39 lr_code) (fun u_42 u_43 u_44 u_45 => (if x2 = (33 : Int32) then (B_X5_readOperand_80 r_X5_readLevel r_X5_readOperand tape_size tape_bytes (4 : Int32) u_42 u_43 u_44 u_45) else (B_X5_readOperand_80 r_X5_readLevel r_X5_readOperand tape_size tape_bytes (5 : Int32) u_42 u_43 u_44 u_45)))))))
def B_X5_readOperand_0  (r_X5_readLevel : Int32 → Int32 → Int32 → (Nat → Int32) → Int32 → Int32 → Int32 → (Nat → Int32) → (Option (Int32 × Int32 × Int32 × (Nat → Int32)))) (r_X5_readOperand : Int32 → Int32 → (Nat → Int32) → Int32 → Int32 → Int32 → (Nat → Int32) → (Option (Int32 × Int32 × Int32 × (Nat → Int32))))  (tape_size : Int32) (tape_bytes : Nat → Int32) (x1 : Int32) (lr_size : Int32) (lr_at : Int32) (lr_fault : Int32) (lr_code : Nat → Int32) : Option (Int32 × Int32 × Int32 × (Nat → Int32)) :=
  (zk_b2 (f_X9_byteAt lr_at tape_size tape_bytes) (fun r_1 u_2 => (if lr_fault < 0 then (zk_b2 (f_X9_isDigitAt lr_at tape_size tape_bytes) (fun r_5 u_6 => (if r_5 = 0 then (if r_1 = (33 : Int32) then (B_X5_readOperand_53 r_X5_readLevel r_X5_readOperand tape_size tape_bytes x1 r_1 lr_size lr_at lr_fault lr_code) else (if r_1 = (45 : Int32) then (B_X5_readOperand_53 r_X5_readLevel r_X5_readOperand tape_size tape_bytes x1 r_1 lr_size lr_at lr_fault lr_code) else (if r_1 = (40 : Int32) then (zk_b3 (f_X5_mayOpen x1 lr_size lr_at lr_fault) (fun r_17 u_18 u_19 => (if r_17 = 0 then (some (lr_size, u_18, u_19, lr_code)) else (zk_b4 (r_X5_readLevel (0 : Int32) (x1 + (1 : Int32)) tape_size tape_bytes lr_size u_18 u_19 lr_code) (fun u_22 u_23 u_24 u_25 => (zk_b2 (f_X5_accept (41 : Int32) tape_size tape_bytes u_22 u_23 u_24) (fun r_27 u_28 => (if r_27 = 0 then (zk_b1 (f_X5_fail u_22 u_28 u_24) (fun u_31 => (some (u_22, u_28, u_31, u_25)))) else (some (u_22, u_28, u_24, u_25)))))))))) else (zk_b4 (f_X5_readName r_1 lr_size lr_at lr_fault lr_code) (fun u_12 u_13 u_14 u_15 => (some (u_12, u_13, u_14, u_15))))))) else (zk_b3 (f_X5_readNumber 100000 tape_size tape_bytes lr_size lr_at lr_fault lr_code) (fun u_33 u_34 u_35 => (some (u_33, u_34, lr_fault, u_35))))))) else (some (lr_size, lr_at, lr_fault, lr_code)))))
def f_X5_readOperand  (r_X5_readLevel : Int32 → Int32 → Int32 → (Nat → Int32) → Int32 → Int32 → Int32 → (Nat → Int32) → (Option (Int32 × Int32 × Int32 × (Nat → Int32)))) (r_X5_readOperand : Int32 → Int32 → (Nat → Int32) → Int32 → Int32 → Int32 → (Nat → Int32) → (Option (Int32 × Int32 × Int32 × (Nat → Int32)))) (x1 : Int32) (tape_size : Int32) (tape_bytes : Nat → Int32) (lr_size : Int32) (lr_at : Int32) (lr_fault : Int32) (lr_code : Nat → Int32) : Option (Int32 × Int32 × Int32 × (Nat → Int32)) := B_X5_readOperand_0  r_X5_readLevel r_X5_readOperand tape_size tape_bytes x1 lr_size lr_at lr_fault lr_code
def grp_lawgrp (n : Nat) : (Int32 → Int32 → Int32 → (Nat → Int32) → Int32 → Int32 → Int32 → (Nat → Int32) → (Option (Int32 × Int32 × Int32 × (Nat → Int32)))) × (Int32 → Int32 → (Nat → Int32) → Int32 → Int32 → Int32 → (Nat → Int32) → (Option (Int32 × Int32 × Int32 × (Nat → Int32)))) :=
  Nat.rec (motive := fun _ => (Int32 → Int32 → Int32 → (Nat → Int32) → Int32 → Int32 → Int32 → (Nat → Int32) → (Option (Int32 × Int32 × Int32 × (Nat → Int32)))) × (Int32 → Int32 → (Nat → Int32) → Int32 → Int32 → Int32 → (Nat → Int32) → (Option (Int32 × Int32 × Int32 × (Nat → Int32))))) ((fun _ _ _ _ _ _ _ _ => none), (fun _ _ _ _ _ _ _ => none)) (fun _ ih => (f_X5_readLevel (ih.1) (ih.2) 100000, f_X5_readOperand (ih.1) (ih.2))) n
set_option maxHeartbeats 4000000 in
set_option maxRecDepth 100000 in
theorem L_X5_readLevel_21 {p : Program} {l : Launch} {e : Env} {s : State} {m : MethodId} {args : Array Value} {below : List Frame} {meth : Method} {c : Code} {A : Nat → Prop} {D : va_G} {cs : Nat → ClassId} {ad : Nat → Nat} {tape_size : Int32} {tape_bytes : Nat → Int32} {R : Int32 × Int32 × Int32 × (Nat → Int32)} {g21 : Int32 → Int32 → Int32 → Int32 → Int32 → Int32 → (Nat → Int32) → (Option (Int32 × Int32 × Int32 × (Nat → Int32)))} (C0 : zC p s m args meth c cX5_readLevel 5 none RX5 zW) (hK : va_K D classes (zT cs) s) {k : (Nat → Nat) × (Nat → Nat)} (hO : zO s) (hE : zE k A s) (hA : ∀ q : Nat, s.heap.size ≤ q → A q) {fr lo : Nat} {r_X5_readLevel : Int32 → Int32 → Int32 → (Nat → Int32) → Int32 → Int32 → Int32 → (Nat → Int32) → (Option (Int32 × Int32 × Int32 × (Nat → Int32)))} {r_X5_readOperand : Int32 → Int32 → (Nat → Int32) → Int32 → Int32 → Int32 → (Nat → Int32) → (Option (Int32 × Int32 × Int32 × (Nat → Int32)))} (hr_X5_readLevel : ∀ (D : va_G) (cs : Nat → ClassId) (ad : Nat → Nat) (k : (Nat → Nat) × (Nat → Nat)) (sz : Nat) (x1 : Int32) (x2 : Int32) (tape_size : Int32) (tape_bytes : Nat → Int32) (lr_size : Int32) (lr_at : Int32) (lr_fault : Int32) (lr_code : Nat → Int32) (R : Int32 × Int32 × Int32 × (Nat → Int32)) (h : r_X5_readLevel x1 x2 tape_size tape_bytes lr_size lr_at lr_fault lr_code = some R), Met l yX5_readLevel z_X5_readLevel ({ frames := fr, cells := 0, slots := 0, locals := lo } : Room) (va_Pc [.ref (ad 26), .int x1, .int x2] (zPreE k D cs (wl_X5_readLevel ad cs tape_size tape_bytes lr_size lr_at lr_fault lr_code) sz)) (Q_X5_readLevel D cs ad tape_size tape_bytes (va_A (wl_X5_readLevel ad cs tape_size tape_bytes lr_size lr_at lr_fault lr_code) sz) R) 0 0 (va_A (wl_X5_readLevel ad cs tape_size tape_bytes lr_size lr_at lr_fault lr_code) sz)) (hr_X5_readOperand : ∀ (D : va_G) (cs : Nat → ClassId) (ad : Nat → Nat) (k : (Nat → Nat) × (Nat → Nat)) (sz : Nat) (x1 : Int32) (tape_size : Int32) (tape_bytes : Nat → Int32) (lr_size : Int32) (lr_at : Int32) (lr_fault : Int32) (lr_code : Nat → Int32) (R : Int32 × Int32 × Int32 × (Nat → Int32)) (h : r_X5_readOperand x1 tape_size tape_bytes lr_size lr_at lr_fault lr_code = some R), Met l yX5_readOperand z_X5_readOperand ({ frames := fr, cells := 0, slots := 0, locals := lo } : Room) (va_Pc [.ref (ad 26), .int x1] (zPreE k D cs (wl_X5_readOperand ad cs tape_size tape_bytes lr_size lr_at lr_fault lr_code) sz)) (Q_X5_readOperand D cs ad tape_size tape_bytes (va_A (wl_X5_readOperand ad cs tape_size tape_bytes lr_size lr_at lr_fault lr_code) sz) R) 0 0 (va_A (wl_X5_readOperand ad cs tape_size tape_bytes lr_size lr_at lr_fault lr_code) sz)) (ih21 : ∀ (x1 : Int32) (x2 : Int32) (x3 : Int32) (lr_size : Int32) (lr_at : Int32) (lr_fault : Int32) (lr_code : Nat → Int32) (h : g21 x1 x2 x3 lr_size lr_at lr_fault lr_code = some R) (H : Heap) (locs : List Loc) (ls : Array Slot) (hP : va_P D classes (wl_X5_readLevel ad cs tape_size tape_bytes lr_size lr_at lr_fault lr_code) H) (hD : va_D A (wl_X5_readLevel ad cs tape_size tape_bytes lr_size lr_at lr_fault lr_code)) (hS : va_S A s.heap H locs) (hl : lv_has ls 5 [(0, .ref (ad 26)), (1, .int x1), (2, .int x2), (3, .int x3)]), W p l e ({ frames := fr + 5, cells := 0, slots := 0, locals := lo + 113 } : Room) s m args below meth c H locs 0 0 (MQ below (Q_X5_readLevel D cs ad tape_size tape_bytes A R) args s 0 0 A) (F0 m 21 ls [])) (x1 : Int32) (x2 : Int32) (x3 : Int32) (lr_size : Int32) (lr_at : Int32) (lr_fault : Int32) (lr_code : Nat → Int32) (h : B_X5_readLevel_21 r_X5_readLevel r_X5_readOperand g21 tape_size tape_bytes x1 x2 x3 lr_size lr_at lr_fault lr_code = some R) (H : Heap) (locs : List Loc) (ls : Array Slot) (hP : va_P D classes (wl_X5_readLevel ad cs tape_size tape_bytes lr_size lr_at lr_fault lr_code) H) (hD : va_D A (wl_X5_readLevel ad cs tape_size tape_bytes lr_size lr_at lr_fault lr_code)) (hS : va_S A s.heap H locs) (hl : lv_has ls 5 [(0, .ref (ad 26)), (1, .int x1), (2, .int x2), (3, .int x3)]) : W p l e ({ frames := fr + 5, cells := 0, slots := 0, locals := lo + 113 } : Room) s m args below meth c H locs 0 0 (MQ below (Q_X5_readLevel D cs ad tape_size tape_bytes A R) args s 0 0 A) (F0 m 21 ls []) := by
  obtain ⟨hx, hb, hr, hml, hown, ht, hlocks⟩ := id C0
  refine lv_iload_n hx hb dX5_readLevel_21 rfl (lv_at hl 3 rfl) ?_
  refine lv_bipush (v := (120 : Int32)) hx hb dX5_readLevel_22 (by decide) ?_
  refine lv_icmp_ge (tgt := 83) hx hb dX5_readLevel_24 (by decide) (fun c_12 => ?_) (fun c_12 => ?_)
  · have h := zk_t c_12 h
    exact W.vret hx hb hr (fun t ht2 hW => ⟨⟨(lr_size, lr_at, lr_fault, lr_code), rfl, Option.some.inj h, by rw [ht2]; exact hP, hD⟩, hS.F ht2⟩) hS.2.2 dX5_readLevel_83 hlocks
  · have h := zk_f c_12 h
    refine lv_aload_n hx hb dX5_readLevel_27 rfl (lv_at hl 0 rfl) ?_
    refine va_get (D := D) (ci := 5) (v := .int lr_fault) (C := RX5) (T := TX5) (N := 5) hx hb ht iX5 hown hK hP 2 rfl rfl 4 (by decide) (ht _ kw_278) (fun _ h9 => h9) rfl dX5_readLevel_28 ?_
    refine lv_if_ge (tgt := 83) hx hb dX5_readLevel_31 (by decide) (fun c_13 => ?_) (fun c_13 => ?_)
    · have h := zk_t c_13 h
      exact W.vret hx hb hr (fun t ht2 hW => ⟨⟨(lr_size, lr_at, lr_fault, lr_code), rfl, Option.some.inj h, by rw [ht2]; exact hP, hD⟩, hS.F ht2⟩) hS.2.2 dX5_readLevel_83 hlocks
    · have h := zk_f c_13 h
      refine lv_aload_n hx hb dX5_readLevel_34 rfl (lv_at hl 0 rfl) ?_
      refine lv_iload_n hx hb dX5_readLevel_35 rfl (lv_at hl 1 rfl) ?_
      obtain ⟨r_14, u_15, hc_16, h⟩ := zk_o2 h
      refine zz_vi (post := (fun r u => (r, u) = (r_14, u_15))) (w1 := fun u => (wl_X5_operatorAt ad cs tape_size tape_bytes lr_size lr_at lr_fault)) (As := [.int x1]) (rest := []) (c_X5_operatorAt l D cs ad  H.size x1 tape_size tape_bytes lr_size lr_at lr_fault (r_14, u_15) hc_16) ⟨hx, hb, hml, hown, ht⟩ (cwV 1 ht g_X5_64 rfl rfl rfl ⟨rfl, hd_X5_operatorAt⟩ ⟨(by show 1 + 1 ≤ fr + 5; omega), (by show 8 + (3 + 11) + 21 ≤ lo + 113; omega)⟩) (va_recv hK hP (ci := 5) (q0 := 2) rfl rfl) hP hD hS hK hA [0, 1, 2] rfl rfl [(ad 23), (ad 24), (ad 26)] rfl (fun _ => rfl) rfl hl.1 (Nat.le_of_ble_eq_true rfl) dX5_readLevel_36 ⟨Nat.zero_le _, Nat.zero_le _⟩ (fun r u H locs hq hP hS => ?_)
      cases hq
      have hP : va_P D classes (wl_X5_readLevel ad cs tape_size tape_bytes lr_size lr_at lr_fault lr_code) H := hP
      have hD : va_D A (wl_X5_readLevel ad cs tape_size tape_bytes lr_size lr_at lr_fault lr_code) := zDk hD [(ad 23), (ad 24), (ad 26), (ad 27)] rfl rfl
      refine lv_istore (lv' := [(4, .int r_14), (0, .ref (ad 26)), (1, .int x1), (2, .int x2), (3, .int x3)]) hx hb dX5_readLevel_39 hl (by decide) rfl (fun ls hl => ?_)
      refine lv_iload hx hb dX5_readLevel_41 (lv_at hl 0 rfl) ?_
      refine lv_if_ge (tgt := 47) hx hb dX5_readLevel_43 (by decide) (fun c_17 => ?_) (fun c_17 => ?_)
      · have h := zk_t c_17 h
        refine lv_aload_n hx hb dX5_readLevel_47 rfl (lv_at hl 1 rfl) ?_
        refine lv_dup hx hb dX5_readLevel_48 rfl ?_
        refine va_get (D := D) (ci := 5) (v := .int lr_at) (C := RX5) (T := TX5) (N := 5) hx hb ht iX5 hown hK hP 2 rfl rfl 3 (by decide) (ht _ kw_277) (fun _ h9 => h9) rfl dX5_readLevel_49 ?_
        refine lv_iconst (v := (1 : Int32)) hx hb dX5_readLevel_52 (by decide) ?_
        refine lv_iadd hx hb dX5_readLevel_53 ?_
        obtain ⟨v_18, ev_18, h⟩ := zk_lt h
        refine W.eq (g2 := F0 m 54 ls [.int v_18, .ref (ad 26)]) (by rw [ev_18]) ?_
        refine va_put (D := D) (ci := 5) (v := .int v_18) (ty := .int) (C := RX5) (T := TX5) (N := 5) hx hb ht iX5 tyX5 tyX5_ok nmX5 hown hK hP hD hS 2 rfl rfl 3 (by decide) (ht _ kw_277) (fun _ h9 => h9) rfl (by decide +kernel) rfl rfl (Nat.le_of_ble_eq_true rfl) dX5_readLevel_54 (fun H locs hP hD hS => ?_)
        have hP : va_P D classes (wl_X5_readLevel ad cs tape_size tape_bytes lr_size v_18 lr_fault lr_code) H := hP
        have hD : va_D A (wl_X5_readLevel ad cs tape_size tape_bytes lr_size v_18 lr_fault lr_code) := hD
        refine lv_aload_n hx hb dX5_readLevel_57 rfl (lv_at hl 1 rfl) ?_
        refine lv_iload_n hx hb dX5_readLevel_58 rfl (lv_at hl 2 rfl) ?_
        refine lv_iconst (v := (1 : Int32)) hx hb dX5_readLevel_59 (by decide) ?_
        refine lv_iadd hx hb dX5_readLevel_60 ?_
        refine lv_iload_n hx hb dX5_readLevel_61 rfl (lv_at hl 3 rfl) ?_
        obtain ⟨u_19, u_20, u_21, u_22, hc_23, h⟩ := zk_o4 h
        refine zk_vvE (post := (fun u => u = (u_19, u_20, u_21, u_22))) (w1 := fun u => (wl_X5_readLevel ad cs tape_size tape_bytes u.1 u.2.1 u.2.2.1 u.2.2.2)) (As := [.int (x1 + (1 : Int32)), .int x2]) (rest := []) hE hO (hr_X5_readLevel D cs ad k H.size (x1 + (1 : Int32)) x2 tape_size tape_bytes lr_size v_18 lr_fault lr_code (u_19, u_20, u_21, u_22) hc_23) ⟨hx, hb, hml, hown, ht⟩ (cwV 2 ht g_X5_53 rfl rfl rfl ⟨rfl, hd_X5_readLevel⟩ ⟨(by show fr + 1 ≤ fr + 5; omega), (by show 8 + (5 + 11) + lo ≤ lo + 113; omega)⟩) (va_recv hK hP (ci := 5) (q0 := 2) rfl rfl) hP hD hS hK hA [0, 1, 2, 3] [] rfl rfl rfl rfl (by decide) rfl hl.1 (Nat.le_of_ble_eq_true rfl) dX5_readLevel_62 ⟨Nat.zero_le _, Nat.zero_le _⟩ (fun u H locs hq hP hD hS => ?_)
        cases hq
        have hP : va_P D classes (wl_X5_readLevel ad cs tape_size tape_bytes u_19 u_20 u_21 u_22) H := hP.sub [0, 1, 2, 3] rfl
        have hD : va_D A (wl_X5_readLevel ad cs tape_size tape_bytes u_19 u_20 u_21 u_22) := hD.sub [0, 1, 2, 3] rfl rfl
        refine lv_aload_n hx hb dX5_readLevel_65 rfl (lv_at hl 1 rfl) ?_
        refine lv_iload hx hb dX5_readLevel_66 (lv_at hl 0 rfl) ?_
        obtain ⟨u_24, u_25, hc_26, h⟩ := zk_o2 h
        refine zz_vv (post := (fun u => u = (u_24, u_25))) (w1 := fun u => (wl_X5_emit ad cs u.1 u_20 u_21 u.2)) (As := [.int r_14]) (rest := []) (c_X5_emit l D cs ad  H.size r_14 u_19 u_20 u_21 u_22 (u_24, u_25) hc_26) ⟨hx, hb, hml, hown, ht⟩ (cwV 1 ht g_X5_57 rfl rfl rfl ⟨rfl, hd_X5_emit⟩ ⟨(by show 0 + 1 ≤ fr + 5; omega), (by show 8 + (2 + 11) + 0 ≤ lo + 113; omega)⟩) (va_recv hK hP (ci := 5) (q0 := 2) rfl rfl) hP hD hS hK hA [2, 3] rfl rfl [(ad 26), (ad 27)] rfl (fun _ => rfl) rfl hl.1 (Nat.le_of_ble_eq_true rfl) dX5_readLevel_68 ⟨Nat.zero_le _, Nat.zero_le _⟩ (fun u H locs hq hP hS => ?_)
        cases hq
        have hP : va_P D classes (wl_X5_readLevel ad cs tape_size tape_bytes u_24 u_20 u_21 u_25) H := hP
        have hD : va_D A (wl_X5_readLevel ad cs tape_size tape_bytes u_24 u_20 u_21 u_25) := zDk hD [(ad 23), (ad 24), (ad 26), (ad 27)] rfl rfl
        refine lv_iload_n hx hb dX5_readLevel_71 rfl (lv_at hl 2 rfl) ?_
        refine lv_iconst (v := (2 : Int32)) hx hb dX5_readLevel_72 (by decide) ?_
        refine lv_icmp_ne (tgt := 77) hx hb dX5_readLevel_73 (by decide) (fun c_27 => ?_) (fun c_27 => ?_)
        · have h := zk_f c_27 h
          obtain ⟨v_28, ev_28, h⟩ := zk_lt h
          refine lv_iinc (v := v_28) (lv' := [(3, .int v_28), (4, .int r_14), (0, .ref (ad 26)), (1, .int x1), (2, .int x2)]) hx hb dX5_readLevel_77 hl (k := 4) rfl (by rw [ev_28]; rfl) (by decide) rfl (fun ls hl => ?_)
          refine lv_goto (tgt := 21) hx hb dX5_readLevel_80 (by decide) ?_
          exact ih21 x1 x2 v_28 u_24 u_20 u_21 u_25 h H locs ls hP hD hS (lv_sub hl [2, 3, 4, 0] rfl)
        · have h := zk_t c_27 h
          exact W.vret hx hb hr (fun t ht2 hW => ⟨⟨(u_24, u_20, u_21, u_25), rfl, Option.some.inj h, by rw [ht2]; exact hP, hD⟩, hS.F ht2⟩) hS.2.2 dX5_readLevel_76 hlocks
      · have h := zk_f c_17 h
        exact W.vret hx hb hr (fun t ht2 hW => ⟨⟨(lr_size, lr_at, lr_fault, lr_code), rfl, Option.some.inj h, by rw [ht2]; exact hP, hD⟩, hS.F ht2⟩) hS.2.2 dX5_readLevel_46 hlocks
set_option maxHeartbeats 4000000 in
set_option maxRecDepth 100000 in
theorem L_X5_readLevel_0 {p : Program} {l : Launch} {e : Env} {s : State} {m : MethodId} {args : Array Value} {below : List Frame} {meth : Method} {c : Code} {A : Nat → Prop} {D : va_G} {cs : Nat → ClassId} {ad : Nat → Nat} {tape_size : Int32} {tape_bytes : Nat → Int32} {R : Int32 × Int32 × Int32 × (Nat → Int32)} {g21 : Int32 → Int32 → Int32 → Int32 → Int32 → Int32 → (Nat → Int32) → (Option (Int32 × Int32 × Int32 × (Nat → Int32)))} (C0 : zC p s m args meth c cX5_readLevel 5 none RX5 zW) (hK : va_K D classes (zT cs) s) {k : (Nat → Nat) × (Nat → Nat)} (hO : zO s) (hE : zE k A s) (hA : ∀ q : Nat, s.heap.size ≤ q → A q) {fr lo : Nat} {r_X5_readLevel : Int32 → Int32 → Int32 → (Nat → Int32) → Int32 → Int32 → Int32 → (Nat → Int32) → (Option (Int32 × Int32 × Int32 × (Nat → Int32)))} {r_X5_readOperand : Int32 → Int32 → (Nat → Int32) → Int32 → Int32 → Int32 → (Nat → Int32) → (Option (Int32 × Int32 × Int32 × (Nat → Int32)))} (hr_X5_readLevel : ∀ (D : va_G) (cs : Nat → ClassId) (ad : Nat → Nat) (k : (Nat → Nat) × (Nat → Nat)) (sz : Nat) (x1 : Int32) (x2 : Int32) (tape_size : Int32) (tape_bytes : Nat → Int32) (lr_size : Int32) (lr_at : Int32) (lr_fault : Int32) (lr_code : Nat → Int32) (R : Int32 × Int32 × Int32 × (Nat → Int32)) (h : r_X5_readLevel x1 x2 tape_size tape_bytes lr_size lr_at lr_fault lr_code = some R), Met l yX5_readLevel z_X5_readLevel ({ frames := fr, cells := 0, slots := 0, locals := lo } : Room) (va_Pc [.ref (ad 26), .int x1, .int x2] (zPreE k D cs (wl_X5_readLevel ad cs tape_size tape_bytes lr_size lr_at lr_fault lr_code) sz)) (Q_X5_readLevel D cs ad tape_size tape_bytes (va_A (wl_X5_readLevel ad cs tape_size tape_bytes lr_size lr_at lr_fault lr_code) sz) R) 0 0 (va_A (wl_X5_readLevel ad cs tape_size tape_bytes lr_size lr_at lr_fault lr_code) sz)) (hr_X5_readOperand : ∀ (D : va_G) (cs : Nat → ClassId) (ad : Nat → Nat) (k : (Nat → Nat) × (Nat → Nat)) (sz : Nat) (x1 : Int32) (tape_size : Int32) (tape_bytes : Nat → Int32) (lr_size : Int32) (lr_at : Int32) (lr_fault : Int32) (lr_code : Nat → Int32) (R : Int32 × Int32 × Int32 × (Nat → Int32)) (h : r_X5_readOperand x1 tape_size tape_bytes lr_size lr_at lr_fault lr_code = some R), Met l yX5_readOperand z_X5_readOperand ({ frames := fr, cells := 0, slots := 0, locals := lo } : Room) (va_Pc [.ref (ad 26), .int x1] (zPreE k D cs (wl_X5_readOperand ad cs tape_size tape_bytes lr_size lr_at lr_fault lr_code) sz)) (Q_X5_readOperand D cs ad tape_size tape_bytes (va_A (wl_X5_readOperand ad cs tape_size tape_bytes lr_size lr_at lr_fault lr_code) sz) R) 0 0 (va_A (wl_X5_readOperand ad cs tape_size tape_bytes lr_size lr_at lr_fault lr_code) sz)) (ih21 : ∀ (x1 : Int32) (x2 : Int32) (x3 : Int32) (lr_size : Int32) (lr_at : Int32) (lr_fault : Int32) (lr_code : Nat → Int32) (h : g21 x1 x2 x3 lr_size lr_at lr_fault lr_code = some R) (H : Heap) (locs : List Loc) (ls : Array Slot) (hP : va_P D classes (wl_X5_readLevel ad cs tape_size tape_bytes lr_size lr_at lr_fault lr_code) H) (hD : va_D A (wl_X5_readLevel ad cs tape_size tape_bytes lr_size lr_at lr_fault lr_code)) (hS : va_S A s.heap H locs) (hl : lv_has ls 5 [(0, .ref (ad 26)), (1, .int x1), (2, .int x2), (3, .int x3)]), W p l e ({ frames := fr + 5, cells := 0, slots := 0, locals := lo + 113 } : Room) s m args below meth c H locs 0 0 (MQ below (Q_X5_readLevel D cs ad tape_size tape_bytes A R) args s 0 0 A) (F0 m 21 ls [])) (x1 : Int32) (x2 : Int32) (lr_size : Int32) (lr_at : Int32) (lr_fault : Int32) (lr_code : Nat → Int32) (h : B_X5_readLevel_0 r_X5_readLevel r_X5_readOperand g21 tape_size tape_bytes x1 x2 lr_size lr_at lr_fault lr_code = some R) (H : Heap) (locs : List Loc) (ls : Array Slot) (hP : va_P D classes (wl_X5_readLevel ad cs tape_size tape_bytes lr_size lr_at lr_fault lr_code) H) (hD : va_D A (wl_X5_readLevel ad cs tape_size tape_bytes lr_size lr_at lr_fault lr_code)) (hS : va_S A s.heap H locs) (hl : lv_has ls 5 [(0, .ref (ad 26)), (1, .int x1), (2, .int x2)]) : W p l e ({ frames := fr + 5, cells := 0, slots := 0, locals := lo + 113 } : Room) s m args below meth c H locs 0 0 (MQ below (Q_X5_readLevel D cs ad tape_size tape_bytes A R) args s 0 0 A) (F0 m 0 ls []) := by
  obtain ⟨hx, hb, hr, hml, hown, ht, hlocks⟩ := id C0
  refine lv_iload_n hx hb dX5_readLevel_0 rfl (lv_at hl 1 rfl) ?_
  refine lv_iconst (v := (4 : Int32)) hx hb dX5_readLevel_1 (by decide) ?_
  refine lv_icmp_le (tgt := 11) hx hb dX5_readLevel_2 (by decide) (fun c_1 => ?_) (fun c_1 => ?_)
  · have h := zk_t c_1 h
    refine lv_aload_n hx hb dX5_readLevel_11 rfl (lv_at hl 0 rfl) ?_
    refine lv_iload_n hx hb dX5_readLevel_12 rfl (lv_at hl 1 rfl) ?_
    refine lv_iconst (v := (1 : Int32)) hx hb dX5_readLevel_13 (by decide) ?_
    refine lv_iadd hx hb dX5_readLevel_14 ?_
    refine lv_iload_n hx hb dX5_readLevel_15 rfl (lv_at hl 2 rfl) ?_
    obtain ⟨u_2, u_3, u_4, u_5, hc_6, h⟩ := zk_o4 h
    refine zk_vvE (post := (fun u => u = (u_2, u_3, u_4, u_5))) (w1 := fun u => (wl_X5_readLevel ad cs tape_size tape_bytes u.1 u.2.1 u.2.2.1 u.2.2.2)) (As := [.int (x1 + (1 : Int32)), .int x2]) (rest := []) hE hO (hr_X5_readLevel D cs ad k H.size (x1 + (1 : Int32)) x2 tape_size tape_bytes lr_size lr_at lr_fault lr_code (u_2, u_3, u_4, u_5) hc_6) ⟨hx, hb, hml, hown, ht⟩ (cwV 2 ht g_X5_53 rfl rfl rfl ⟨rfl, hd_X5_readLevel⟩ ⟨(by show fr + 1 ≤ fr + 5; omega), (by show 8 + (5 + 11) + lo ≤ lo + 113; omega)⟩) (va_recv hK hP (ci := 5) (q0 := 2) rfl rfl) hP hD hS hK hA [0, 1, 2, 3] [] rfl rfl rfl rfl (by decide) rfl hl.1 (Nat.le_of_ble_eq_true rfl) dX5_readLevel_16 ⟨Nat.zero_le _, Nat.zero_le _⟩ (fun u H locs hq hP hD hS => ?_)
    cases hq
    have hP : va_P D classes (wl_X5_readLevel ad cs tape_size tape_bytes u_2 u_3 u_4 u_5) H := hP.sub [0, 1, 2, 3] rfl
    have hD : va_D A (wl_X5_readLevel ad cs tape_size tape_bytes u_2 u_3 u_4 u_5) := hD.sub [0, 1, 2, 3] rfl rfl
    refine lv_iconst (v := (0 : Int32)) hx hb dX5_readLevel_19 (by decide) ?_
    refine lv_istore_n (lv' := [(3, .int (0 : Int32)), (0, .ref (ad 26)), (1, .int x1), (2, .int x2)]) hx hb dX5_readLevel_20 rfl hl (by decide) rfl (fun ls hl => ?_)
    exact ih21 x1 x2 (0 : Int32) u_2 u_3 u_4 u_5 h H locs ls hP hD hS (lv_sub hl [1, 2, 3, 0] rfl)
  · have h := zk_f c_1 h
    refine lv_aload_n hx hb dX5_readLevel_5 rfl (lv_at hl 0 rfl) ?_
    refine lv_iload_n hx hb dX5_readLevel_6 rfl (lv_at hl 2 rfl) ?_
    obtain ⟨u_7, u_8, u_9, u_10, hc_11, h⟩ := zk_o4 h
    refine zk_vvE (post := (fun u => u = (u_7, u_8, u_9, u_10))) (w1 := fun u => (wl_X5_readOperand ad cs tape_size tape_bytes u.1 u.2.1 u.2.2.1 u.2.2.2)) (As := [.int x2]) (rest := []) hE hO (hr_X5_readOperand D cs ad k H.size x2 tape_size tape_bytes lr_size lr_at lr_fault lr_code (u_7, u_8, u_9, u_10) hc_11) ⟨hx, hb, hml, hown, ht⟩ (cwV 1 ht g_X5_61 rfl rfl rfl ⟨rfl, hd_X5_readOperand⟩ ⟨(by show fr + 1 ≤ fr + 5; omega), (by show 8 + (3 + 11) + lo ≤ lo + 113; omega)⟩) (va_recv hK hP (ci := 5) (q0 := 2) rfl rfl) hP hD hS hK hA [0, 1, 2, 3] [] rfl rfl rfl rfl (by decide) rfl hl.1 (Nat.le_of_ble_eq_true rfl) dX5_readLevel_7 ⟨Nat.zero_le _, Nat.zero_le _⟩ (fun u H locs hq hP hD hS => ?_)
    cases hq
    have hP : va_P D classes (wl_X5_readLevel ad cs tape_size tape_bytes u_7 u_8 u_9 u_10) H := hP.sub [0, 1, 2, 3] rfl
    have hD : va_D A (wl_X5_readLevel ad cs tape_size tape_bytes u_7 u_8 u_9 u_10) := hD.sub [0, 1, 2, 3] rfl rfl
    exact W.vret hx hb hr (fun t ht2 hW => ⟨⟨(u_7, u_8, u_9, u_10), rfl, Option.some.inj h, by rw [ht2]; exact hP, hD⟩, hS.F ht2⟩) hS.2.2 dX5_readLevel_10 hlocks
theorem LG_X5_readLevel {p : Program} {l : Launch} {e : Env} {s : State} {m : MethodId} {args : Array Value} {below : List Frame} {meth : Method} {c : Code} {A : Nat → Prop} {D : va_G} {cs : Nat → ClassId} {ad : Nat → Nat} {tape_size : Int32} {tape_bytes : Nat → Int32} {R : Int32 × Int32 × Int32 × (Nat → Int32)} (C0 : zC p s m args meth c cX5_readLevel 5 none RX5 zW) (hK : va_K D classes (zT cs) s) {k : (Nat → Nat) × (Nat → Nat)} (hO : zO s) (hE : zE k A s) (hA : ∀ q : Nat, s.heap.size ≤ q → A q) {fr lo : Nat} {r_X5_readLevel : Int32 → Int32 → Int32 → (Nat → Int32) → Int32 → Int32 → Int32 → (Nat → Int32) → (Option (Int32 × Int32 × Int32 × (Nat → Int32)))} {r_X5_readOperand : Int32 → Int32 → (Nat → Int32) → Int32 → Int32 → Int32 → (Nat → Int32) → (Option (Int32 × Int32 × Int32 × (Nat → Int32)))} (hr_X5_readLevel : ∀ (D : va_G) (cs : Nat → ClassId) (ad : Nat → Nat) (k : (Nat → Nat) × (Nat → Nat)) (sz : Nat) (x1 : Int32) (x2 : Int32) (tape_size : Int32) (tape_bytes : Nat → Int32) (lr_size : Int32) (lr_at : Int32) (lr_fault : Int32) (lr_code : Nat → Int32) (R : Int32 × Int32 × Int32 × (Nat → Int32)) (h : r_X5_readLevel x1 x2 tape_size tape_bytes lr_size lr_at lr_fault lr_code = some R), Met l yX5_readLevel z_X5_readLevel ({ frames := fr, cells := 0, slots := 0, locals := lo } : Room) (va_Pc [.ref (ad 26), .int x1, .int x2] (zPreE k D cs (wl_X5_readLevel ad cs tape_size tape_bytes lr_size lr_at lr_fault lr_code) sz)) (Q_X5_readLevel D cs ad tape_size tape_bytes (va_A (wl_X5_readLevel ad cs tape_size tape_bytes lr_size lr_at lr_fault lr_code) sz) R) 0 0 (va_A (wl_X5_readLevel ad cs tape_size tape_bytes lr_size lr_at lr_fault lr_code) sz)) (hr_X5_readOperand : ∀ (D : va_G) (cs : Nat → ClassId) (ad : Nat → Nat) (k : (Nat → Nat) × (Nat → Nat)) (sz : Nat) (x1 : Int32) (tape_size : Int32) (tape_bytes : Nat → Int32) (lr_size : Int32) (lr_at : Int32) (lr_fault : Int32) (lr_code : Nat → Int32) (R : Int32 × Int32 × Int32 × (Nat → Int32)) (h : r_X5_readOperand x1 tape_size tape_bytes lr_size lr_at lr_fault lr_code = some R), Met l yX5_readOperand z_X5_readOperand ({ frames := fr, cells := 0, slots := 0, locals := lo } : Room) (va_Pc [.ref (ad 26), .int x1] (zPreE k D cs (wl_X5_readOperand ad cs tape_size tape_bytes lr_size lr_at lr_fault lr_code) sz)) (Q_X5_readOperand D cs ad tape_size tape_bytes (va_A (wl_X5_readOperand ad cs tape_size tape_bytes lr_size lr_at lr_fault lr_code) sz) R) 0 0 (va_A (wl_X5_readOperand ad cs tape_size tape_bytes lr_size lr_at lr_fault lr_code) sz)) : ∀ n : Nat, (∀ (x1 : Int32) (x2 : Int32) (x3 : Int32) (lr_size : Int32) (lr_at : Int32) (lr_fault : Int32) (lr_code : Nat → Int32) (h : (G_X5_readLevel  r_X5_readLevel r_X5_readOperand tape_size tape_bytes n) x1 x2 x3 lr_size lr_at lr_fault lr_code = some R) (H : Heap) (locs : List Loc) (ls : Array Slot) (hP : va_P D classes (wl_X5_readLevel ad cs tape_size tape_bytes lr_size lr_at lr_fault lr_code) H) (hD : va_D A (wl_X5_readLevel ad cs tape_size tape_bytes lr_size lr_at lr_fault lr_code)) (hS : va_S A s.heap H locs) (hl : lv_has ls 5 [(0, .ref (ad 26)), (1, .int x1), (2, .int x2), (3, .int x3)]), W p l e ({ frames := fr + 5, cells := 0, slots := 0, locals := lo + 113 } : Room) s m args below meth c H locs 0 0 (MQ below (Q_X5_readLevel D cs ad tape_size tape_bytes A R) args s 0 0 A) (F0 m 21 ls [])) := by
  intro n
  induction n with
  | zero =>
    refine ?_ <;> (intros; rename_i h _ _ _ _ _ _ _; cases h)
  | succ n ih =>
    exact L_X5_readLevel_21 C0 hK hO hE hA hr_X5_readLevel hr_X5_readOperand ih
set_option maxHeartbeats 4000000 in
set_option maxRecDepth 100000 in
theorem c_X5_readLevel (l : Launch) (D : va_G) (cs : Nat → ClassId) (ad : Nat → Nat) (k : (Nat → Nat) × (Nat → Nat)) {fr lo : Nat} {r_X5_readLevel : Int32 → Int32 → Int32 → (Nat → Int32) → Int32 → Int32 → Int32 → (Nat → Int32) → (Option (Int32 × Int32 × Int32 × (Nat → Int32)))} {r_X5_readOperand : Int32 → Int32 → (Nat → Int32) → Int32 → Int32 → Int32 → (Nat → Int32) → (Option (Int32 × Int32 × Int32 × (Nat → Int32)))} (hr_X5_readLevel : ∀ (D : va_G) (cs : Nat → ClassId) (ad : Nat → Nat) (k : (Nat → Nat) × (Nat → Nat)) (sz : Nat) (x1 : Int32) (x2 : Int32) (tape_size : Int32) (tape_bytes : Nat → Int32) (lr_size : Int32) (lr_at : Int32) (lr_fault : Int32) (lr_code : Nat → Int32) (R : Int32 × Int32 × Int32 × (Nat → Int32)) (h : r_X5_readLevel x1 x2 tape_size tape_bytes lr_size lr_at lr_fault lr_code = some R), Met l yX5_readLevel z_X5_readLevel ({ frames := fr, cells := 0, slots := 0, locals := lo } : Room) (va_Pc [.ref (ad 26), .int x1, .int x2] (zPreE k D cs (wl_X5_readLevel ad cs tape_size tape_bytes lr_size lr_at lr_fault lr_code) sz)) (Q_X5_readLevel D cs ad tape_size tape_bytes (va_A (wl_X5_readLevel ad cs tape_size tape_bytes lr_size lr_at lr_fault lr_code) sz) R) 0 0 (va_A (wl_X5_readLevel ad cs tape_size tape_bytes lr_size lr_at lr_fault lr_code) sz)) (hr_X5_readOperand : ∀ (D : va_G) (cs : Nat → ClassId) (ad : Nat → Nat) (k : (Nat → Nat) × (Nat → Nat)) (sz : Nat) (x1 : Int32) (tape_size : Int32) (tape_bytes : Nat → Int32) (lr_size : Int32) (lr_at : Int32) (lr_fault : Int32) (lr_code : Nat → Int32) (R : Int32 × Int32 × Int32 × (Nat → Int32)) (h : r_X5_readOperand x1 tape_size tape_bytes lr_size lr_at lr_fault lr_code = some R), Met l yX5_readOperand z_X5_readOperand ({ frames := fr, cells := 0, slots := 0, locals := lo } : Room) (va_Pc [.ref (ad 26), .int x1] (zPreE k D cs (wl_X5_readOperand ad cs tape_size tape_bytes lr_size lr_at lr_fault lr_code) sz)) (Q_X5_readOperand D cs ad tape_size tape_bytes (va_A (wl_X5_readOperand ad cs tape_size tape_bytes lr_size lr_at lr_fault lr_code) sz) R) 0 0 (va_A (wl_X5_readOperand ad cs tape_size tape_bytes lr_size lr_at lr_fault lr_code) sz)) (sz : Nat) (n : Nat) (x1 : Int32) (x2 : Int32) (tape_size : Int32) (tape_bytes : Nat → Int32) (lr_size : Int32) (lr_at : Int32) (lr_fault : Int32) (lr_code : Nat → Int32) (R : Int32 × Int32 × Int32 × (Nat → Int32)) (h : f_X5_readLevel  r_X5_readLevel r_X5_readOperand n x1 x2 tape_size tape_bytes lr_size lr_at lr_fault lr_code = some R) : Met l yX5_readLevel (z_X5_readLevel) ({ frames := fr + 5, cells := 0, slots := 0, locals := lo + 113 } : Room) (va_Pc [.ref (ad 26), .int x1, .int x2] (zPreE k D cs (wl_X5_readLevel ad cs tape_size tape_bytes lr_size lr_at lr_fault lr_code) sz)) (Q_X5_readLevel D cs ad tape_size tape_bytes (va_A (wl_X5_readLevel ad cs tape_size tape_bytes lr_size lr_at lr_fault lr_code) sz) R) 0 0 (va_A (wl_X5_readLevel ad cs tape_size tape_bytes lr_size lr_at lr_fault lr_code) sz) := by
  refine Met.ofW (cc := cX5_readLevel) (maxL := 5) (ret := none) (by decide) rfl ?_
  intro p e s m args below meth c s₁ B hml hv
  obtain ⟨rfl, ⟨⟨hsz, hP, hK, hD0⟩, hO⟩, hE⟩ := hv
  subst hsz
  have hD := hD0.self (sz := s.heap.size)
  have C0 : zC p s m _ meth c cX5_readLevel 5 none RX5 zW := ⟨B.exec, B.bytes, B.returns, hml, findClass_of_methodNamed B.named, fun w hw => atoms_spec (ws := z_X5_readLevel) B.pre w (List.mem_cons_of_mem _ hw), B.notSynchronized⟩
  have hA : ∀ q : Nat, s.heap.size ≤ q → va_A (wl_X5_readLevel ad cs tape_size tape_bytes lr_size lr_at lr_fault lr_code) s.heap.size q := fun q h => Or.inr h
  have hl := lv_entry ([.ref (ad 26), .int x1, .int x2]) (n := 5) (Nat.le_of_ble_eq_true rfl)
  rw [lg_entry_eq]
  generalize (lg_sl ([.ref (ad 26), .int x1, .int x2]) ++ List.replicate (5 - (lg_sl ([.ref (ad 26), .int x1, .int x2])).length) Slot.unset).toArray = ls at hl ⊢
  exact L_X5_readLevel_0 C0 hK hO hE hA hr_X5_readLevel hr_X5_readOperand ((LG_X5_readLevel C0 hK hO hE hA hr_X5_readLevel hr_X5_readOperand n)) x1 x2 lr_size lr_at lr_fault lr_code h s.heap [] ls hP hD va_S.rf hl
set_option maxHeartbeats 4000000 in
set_option maxRecDepth 100000 in
theorem L_X5_readOperand_80 {p : Program} {l : Launch} {e : Env} {s : State} {m : MethodId} {args : Array Value} {below : List Frame} {meth : Method} {c : Code} {A : Nat → Prop} {D : va_G} {cs : Nat → ClassId} {ad : Nat → Nat} {tape_size : Int32} {tape_bytes : Nat → Int32} {R : Int32 × Int32 × Int32 × (Nat → Int32)} (C0 : zC p s m args meth c cX5_readOperand 3 none RX5 zW) (hK : va_K D classes (zT cs) s) {k : (Nat → Nat) × (Nat → Nat)} (hO : zO s) (hE : zE k A s) (hA : ∀ q : Nat, s.heap.size ≤ q → A q) {fr lo : Nat} {r_X5_readLevel : Int32 → Int32 → Int32 → (Nat → Int32) → Int32 → Int32 → Int32 → (Nat → Int32) → (Option (Int32 × Int32 × Int32 × (Nat → Int32)))} {r_X5_readOperand : Int32 → Int32 → (Nat → Int32) → Int32 → Int32 → Int32 → (Nat → Int32) → (Option (Int32 × Int32 × Int32 × (Nat → Int32)))} (hr_X5_readLevel : ∀ (D : va_G) (cs : Nat → ClassId) (ad : Nat → Nat) (k : (Nat → Nat) × (Nat → Nat)) (sz : Nat) (x1 : Int32) (x2 : Int32) (tape_size : Int32) (tape_bytes : Nat → Int32) (lr_size : Int32) (lr_at : Int32) (lr_fault : Int32) (lr_code : Nat → Int32) (R : Int32 × Int32 × Int32 × (Nat → Int32)) (h : r_X5_readLevel x1 x2 tape_size tape_bytes lr_size lr_at lr_fault lr_code = some R), Met l yX5_readLevel z_X5_readLevel ({ frames := fr, cells := 0, slots := 0, locals := lo } : Room) (va_Pc [.ref (ad 26), .int x1, .int x2] (zPreE k D cs (wl_X5_readLevel ad cs tape_size tape_bytes lr_size lr_at lr_fault lr_code) sz)) (Q_X5_readLevel D cs ad tape_size tape_bytes (va_A (wl_X5_readLevel ad cs tape_size tape_bytes lr_size lr_at lr_fault lr_code) sz) R) 0 0 (va_A (wl_X5_readLevel ad cs tape_size tape_bytes lr_size lr_at lr_fault lr_code) sz)) (hr_X5_readOperand : ∀ (D : va_G) (cs : Nat → ClassId) (ad : Nat → Nat) (k : (Nat → Nat) × (Nat → Nat)) (sz : Nat) (x1 : Int32) (tape_size : Int32) (tape_bytes : Nat → Int32) (lr_size : Int32) (lr_at : Int32) (lr_fault : Int32) (lr_code : Nat → Int32) (R : Int32 × Int32 × Int32 × (Nat → Int32)) (h : r_X5_readOperand x1 tape_size tape_bytes lr_size lr_at lr_fault lr_code = some R), Met l yX5_readOperand z_X5_readOperand ({ frames := fr, cells := 0, slots := 0, locals := lo } : Room) (va_Pc [.ref (ad 26), .int x1] (zPreE k D cs (wl_X5_readOperand ad cs tape_size tape_bytes lr_size lr_at lr_fault lr_code) sz)) (Q_X5_readOperand D cs ad tape_size tape_bytes (va_A (wl_X5_readOperand ad cs tape_size tape_bytes lr_size lr_at lr_fault lr_code) sz) R) 0 0 (va_A (wl_X5_readOperand ad cs tape_size tape_bytes lr_size lr_at lr_fault lr_code) sz)) (s0 : Int32) (lr_size : Int32) (lr_at : Int32) (lr_fault : Int32) (lr_code : Nat → Int32) (h : B_X5_readOperand_80 r_X5_readLevel r_X5_readOperand tape_size tape_bytes s0 lr_size lr_at lr_fault lr_code = some R) (H : Heap) (locs : List Loc) (ls : Array Slot) (hP : va_P D classes (wl_X5_readOperand ad cs tape_size tape_bytes lr_size lr_at lr_fault lr_code) H) (hD : va_D A (wl_X5_readOperand ad cs tape_size tape_bytes lr_size lr_at lr_fault lr_code)) (hS : va_S A s.heap H locs) (hl : lv_has ls 3 []) : W p l e ({ frames := fr + 5, cells := 0, slots := 0, locals := lo + 113 } : Room) s m args below meth c H locs 0 0 (MQ below (Q_X5_readOperand D cs ad tape_size tape_bytes A R) args s 0 0 A) (F0 m 80 ls [.int s0, .ref (ad 26)]) := by
  obtain ⟨hx, hb, hr, hml, hown, ht, hlocks⟩ := id C0
  obtain ⟨u_48, u_49, hc_50, h⟩ := zk_o2 h
  refine zz_vv (post := (fun u => u = (u_48, u_49))) (w1 := fun u => (wl_X5_emit ad cs u.1 lr_at lr_fault u.2)) (As := [.int s0]) (rest := []) (c_X5_emit l D cs ad  H.size s0 lr_size lr_at lr_fault lr_code (u_48, u_49) hc_50) ⟨hx, hb, hml, hown, ht⟩ (cwV 1 ht g_X5_57 rfl rfl rfl ⟨rfl, hd_X5_emit⟩ ⟨(by show 0 + 1 ≤ fr + 5; omega), (by show 8 + (2 + 11) + 0 ≤ lo + 113; omega)⟩) (va_recv hK hP (ci := 5) (q0 := 2) rfl rfl) hP hD hS hK hA [2, 3] rfl rfl [(ad 26), (ad 27)] rfl (fun _ => rfl) rfl hl.1 (Nat.le_of_ble_eq_true rfl) dX5_readOperand_80 ⟨Nat.zero_le _, Nat.zero_le _⟩ (fun u H locs hq hP hS => ?_)
  cases hq
  have hP : va_P D classes (wl_X5_readOperand ad cs tape_size tape_bytes u_48 lr_at lr_fault u_49) H := hP
  have hD : va_D A (wl_X5_readOperand ad cs tape_size tape_bytes u_48 lr_at lr_fault u_49) := zDk hD [(ad 23), (ad 24), (ad 26), (ad 27)] rfl rfl
  refine lv_goto (tgt := 129) hx hb dX5_readOperand_83 (by decide) ?_
  exact W.vret hx hb hr (fun t ht2 hW => ⟨⟨(u_48, lr_at, lr_fault, u_49), rfl, Option.some.inj h, by rw [ht2]; exact hP, hD⟩, hS.F ht2⟩) hS.2.2 dX5_readOperand_129 hlocks
set_option maxHeartbeats 4000000 in
set_option maxRecDepth 100000 in
theorem L_X5_readOperand_53 {p : Program} {l : Launch} {e : Env} {s : State} {m : MethodId} {args : Array Value} {below : List Frame} {meth : Method} {c : Code} {A : Nat → Prop} {D : va_G} {cs : Nat → ClassId} {ad : Nat → Nat} {tape_size : Int32} {tape_bytes : Nat → Int32} {R : Int32 × Int32 × Int32 × (Nat → Int32)} (C0 : zC p s m args meth c cX5_readOperand 3 none RX5 zW) (hK : va_K D classes (zT cs) s) {k : (Nat → Nat) × (Nat → Nat)} (hO : zO s) (hE : zE k A s) (hA : ∀ q : Nat, s.heap.size ≤ q → A q) {fr lo : Nat} {r_X5_readLevel : Int32 → Int32 → Int32 → (Nat → Int32) → Int32 → Int32 → Int32 → (Nat → Int32) → (Option (Int32 × Int32 × Int32 × (Nat → Int32)))} {r_X5_readOperand : Int32 → Int32 → (Nat → Int32) → Int32 → Int32 → Int32 → (Nat → Int32) → (Option (Int32 × Int32 × Int32 × (Nat → Int32)))} (hr_X5_readLevel : ∀ (D : va_G) (cs : Nat → ClassId) (ad : Nat → Nat) (k : (Nat → Nat) × (Nat → Nat)) (sz : Nat) (x1 : Int32) (x2 : Int32) (tape_size : Int32) (tape_bytes : Nat → Int32) (lr_size : Int32) (lr_at : Int32) (lr_fault : Int32) (lr_code : Nat → Int32) (R : Int32 × Int32 × Int32 × (Nat → Int32)) (h : r_X5_readLevel x1 x2 tape_size tape_bytes lr_size lr_at lr_fault lr_code = some R), Met l yX5_readLevel z_X5_readLevel ({ frames := fr, cells := 0, slots := 0, locals := lo } : Room) (va_Pc [.ref (ad 26), .int x1, .int x2] (zPreE k D cs (wl_X5_readLevel ad cs tape_size tape_bytes lr_size lr_at lr_fault lr_code) sz)) (Q_X5_readLevel D cs ad tape_size tape_bytes (va_A (wl_X5_readLevel ad cs tape_size tape_bytes lr_size lr_at lr_fault lr_code) sz) R) 0 0 (va_A (wl_X5_readLevel ad cs tape_size tape_bytes lr_size lr_at lr_fault lr_code) sz)) (hr_X5_readOperand : ∀ (D : va_G) (cs : Nat → ClassId) (ad : Nat → Nat) (k : (Nat → Nat) × (Nat → Nat)) (sz : Nat) (x1 : Int32) (tape_size : Int32) (tape_bytes : Nat → Int32) (lr_size : Int32) (lr_at : Int32) (lr_fault : Int32) (lr_code : Nat → Int32) (R : Int32 × Int32 × Int32 × (Nat → Int32)) (h : r_X5_readOperand x1 tape_size tape_bytes lr_size lr_at lr_fault lr_code = some R), Met l yX5_readOperand z_X5_readOperand ({ frames := fr, cells := 0, slots := 0, locals := lo } : Room) (va_Pc [.ref (ad 26), .int x1] (zPreE k D cs (wl_X5_readOperand ad cs tape_size tape_bytes lr_size lr_at lr_fault lr_code) sz)) (Q_X5_readOperand D cs ad tape_size tape_bytes (va_A (wl_X5_readOperand ad cs tape_size tape_bytes lr_size lr_at lr_fault lr_code) sz) R) 0 0 (va_A (wl_X5_readOperand ad cs tape_size tape_bytes lr_size lr_at lr_fault lr_code) sz)) (x1 : Int32) (x2 : Int32) (lr_size : Int32) (lr_at : Int32) (lr_fault : Int32) (lr_code : Nat → Int32) (h : B_X5_readOperand_53 r_X5_readLevel r_X5_readOperand tape_size tape_bytes x1 x2 lr_size lr_at lr_fault lr_code = some R) (H : Heap) (locs : List Loc) (ls : Array Slot) (hP : va_P D classes (wl_X5_readOperand ad cs tape_size tape_bytes lr_size lr_at lr_fault lr_code) H) (hD : va_D A (wl_X5_readOperand ad cs tape_size tape_bytes lr_size lr_at lr_fault lr_code)) (hS : va_S A s.heap H locs) (hl : lv_has ls 3 [(0, .ref (ad 26)), (1, .int x1), (2, .int x2)]) : W p l e ({ frames := fr + 5, cells := 0, slots := 0, locals := lo + 113 } : Room) s m args below meth c H locs 0 0 (MQ below (Q_X5_readOperand D cs ad tape_size tape_bytes A R) args s 0 0 A) (F0 m 53 ls []) := by
  obtain ⟨hx, hb, hr, hml, hown, ht, hlocks⟩ := id C0
  refine lv_aload_n hx hb dX5_readOperand_53 rfl (lv_at hl 0 rfl) ?_
  refine lv_iload_n hx hb dX5_readOperand_54 rfl (lv_at hl 1 rfl) ?_
  obtain ⟨r_37, u_38, u_39, hc_40, h⟩ := zk_o3 h
  refine zz_vi (post := (fun r u => (r, u) = (r_37, u_38, u_39))) (w1 := fun u => (wl_X5_mayOpen ad cs lr_size u.1 u.2)) (As := [.int x1]) (rest := []) (c_X5_mayOpen l D cs ad  H.size x1 lr_size lr_at lr_fault (r_37, u_38, u_39) hc_40) ⟨hx, hb, hml, hown, ht⟩ (cwV 1 ht g_X5_77 rfl rfl rfl ⟨rfl, hd_X5_mayOpen⟩ ⟨(by show 1 + 1 ≤ fr + 5; omega), (by show 8 + (2 + 11) + 20 ≤ lo + 113; omega)⟩) (va_recv hK hP (ci := 5) (q0 := 2) rfl rfl) hP hD hS hK hA [2] rfl rfl [(ad 26)] rfl (fun _ => rfl) rfl hl.1 (Nat.le_of_ble_eq_true rfl) dX5_readOperand_55 ⟨Nat.zero_le _, Nat.zero_le _⟩ (fun r u H locs hq hP hS => ?_)
  cases hq
  have hP : va_P D classes (wl_X5_readOperand ad cs tape_size tape_bytes lr_size u_38 u_39 lr_code) H := hP
  have hD : va_D A (wl_X5_readOperand ad cs tape_size tape_bytes lr_size u_38 u_39 lr_code) := zDk hD [(ad 23), (ad 24), (ad 26), (ad 27)] rfl rfl
  refine lv_if_eq (tgt := 129) hx hb dX5_readOperand_58 (by decide) (fun c_41 => ?_) (fun c_41 => ?_)
  · have h := zk_t c_41 h
    exact W.vret hx hb hr (fun t ht2 hW => ⟨⟨(lr_size, u_38, u_39, lr_code), rfl, Option.some.inj h, by rw [ht2]; exact hP, hD⟩, hS.F ht2⟩) hS.2.2 dX5_readOperand_129 hlocks
  · have h := zk_f c_41 h
    refine lv_aload_n hx hb dX5_readOperand_61 rfl (lv_at hl 0 rfl) ?_
    refine lv_iload_n hx hb dX5_readOperand_62 rfl (lv_at hl 1 rfl) ?_
    refine lv_iconst (v := (1 : Int32)) hx hb dX5_readOperand_63 (by decide) ?_
    refine lv_iadd hx hb dX5_readOperand_64 ?_
    obtain ⟨u_42, u_43, u_44, u_45, hc_46, h⟩ := zk_o4 h
    refine zk_vvE (post := (fun u => u = (u_42, u_43, u_44, u_45))) (w1 := fun u => (wl_X5_readOperand ad cs tape_size tape_bytes u.1 u.2.1 u.2.2.1 u.2.2.2)) (As := [.int (x1 + (1 : Int32))]) (rest := []) hE hO (hr_X5_readOperand D cs ad k H.size (x1 + (1 : Int32)) tape_size tape_bytes lr_size u_38 u_39 lr_code (u_42, u_43, u_44, u_45) hc_46) ⟨hx, hb, hml, hown, ht⟩ (cwV 1 ht g_X5_61 rfl rfl rfl ⟨rfl, hd_X5_readOperand⟩ ⟨(by show fr + 1 ≤ fr + 5; omega), (by show 8 + (3 + 11) + lo ≤ lo + 113; omega)⟩) (va_recv hK hP (ci := 5) (q0 := 2) rfl rfl) hP hD hS hK hA [0, 1, 2, 3] [] rfl rfl rfl rfl (by decide) rfl hl.1 (Nat.le_of_ble_eq_true rfl) dX5_readOperand_65 ⟨Nat.zero_le _, Nat.zero_le _⟩ (fun u H locs hq hP hD hS => ?_)
    cases hq
    have hP : va_P D classes (wl_X5_readOperand ad cs tape_size tape_bytes u_42 u_43 u_44 u_45) H := hP.sub [0, 1, 2, 3] rfl
    have hD : va_D A (wl_X5_readOperand ad cs tape_size tape_bytes u_42 u_43 u_44 u_45) := hD.sub [0, 1, 2, 3] rfl rfl
    refine lv_aload_n hx hb dX5_readOperand_68 rfl (lv_at hl 0 rfl) ?_
    refine lv_iload_n hx hb dX5_readOperand_69 rfl (lv_at hl 2 rfl) ?_
    refine lv_bipush (v := (33 : Int32)) hx hb dX5_readOperand_70 (by decide) ?_
    refine lv_icmp_ne (tgt := 79) hx hb dX5_readOperand_72 (by decide) (fun c_47 => ?_) (fun c_47 => ?_)
    · have h := zk_f c_47 h
      refine lv_iconst (v := (5 : Int32)) hx hb dX5_readOperand_79 (by decide) ?_
      exact L_X5_readOperand_80 C0 hK hO hE hA hr_X5_readLevel hr_X5_readOperand  (5 : Int32) u_42 u_43 u_44 u_45 h H locs ls hP hD hS (lv_sub hl [] rfl)
    · have h := zk_t c_47 h
      refine lv_iconst (v := (4 : Int32)) hx hb dX5_readOperand_75 (by decide) ?_
      refine lv_goto (tgt := 80) hx hb dX5_readOperand_76 (by decide) ?_
      exact L_X5_readOperand_80 C0 hK hO hE hA hr_X5_readLevel hr_X5_readOperand  (4 : Int32) u_42 u_43 u_44 u_45 h H locs ls hP hD hS (lv_sub hl [] rfl)
set_option maxHeartbeats 4000000 in
set_option maxRecDepth 100000 in
theorem L_X5_readOperand_0 {p : Program} {l : Launch} {e : Env} {s : State} {m : MethodId} {args : Array Value} {below : List Frame} {meth : Method} {c : Code} {A : Nat → Prop} {D : va_G} {cs : Nat → ClassId} {ad : Nat → Nat} {tape_size : Int32} {tape_bytes : Nat → Int32} {R : Int32 × Int32 × Int32 × (Nat → Int32)} (C0 : zC p s m args meth c cX5_readOperand 3 none RX5 zW) (hK : va_K D classes (zT cs) s) {k : (Nat → Nat) × (Nat → Nat)} (hO : zO s) (hE : zE k A s) (hA : ∀ q : Nat, s.heap.size ≤ q → A q) {fr lo : Nat} {r_X5_readLevel : Int32 → Int32 → Int32 → (Nat → Int32) → Int32 → Int32 → Int32 → (Nat → Int32) → (Option (Int32 × Int32 × Int32 × (Nat → Int32)))} {r_X5_readOperand : Int32 → Int32 → (Nat → Int32) → Int32 → Int32 → Int32 → (Nat → Int32) → (Option (Int32 × Int32 × Int32 × (Nat → Int32)))} (hr_X5_readLevel : ∀ (D : va_G) (cs : Nat → ClassId) (ad : Nat → Nat) (k : (Nat → Nat) × (Nat → Nat)) (sz : Nat) (x1 : Int32) (x2 : Int32) (tape_size : Int32) (tape_bytes : Nat → Int32) (lr_size : Int32) (lr_at : Int32) (lr_fault : Int32) (lr_code : Nat → Int32) (R : Int32 × Int32 × Int32 × (Nat → Int32)) (h : r_X5_readLevel x1 x2 tape_size tape_bytes lr_size lr_at lr_fault lr_code = some R), Met l yX5_readLevel z_X5_readLevel ({ frames := fr, cells := 0, slots := 0, locals := lo } : Room) (va_Pc [.ref (ad 26), .int x1, .int x2] (zPreE k D cs (wl_X5_readLevel ad cs tape_size tape_bytes lr_size lr_at lr_fault lr_code) sz)) (Q_X5_readLevel D cs ad tape_size tape_bytes (va_A (wl_X5_readLevel ad cs tape_size tape_bytes lr_size lr_at lr_fault lr_code) sz) R) 0 0 (va_A (wl_X5_readLevel ad cs tape_size tape_bytes lr_size lr_at lr_fault lr_code) sz)) (hr_X5_readOperand : ∀ (D : va_G) (cs : Nat → ClassId) (ad : Nat → Nat) (k : (Nat → Nat) × (Nat → Nat)) (sz : Nat) (x1 : Int32) (tape_size : Int32) (tape_bytes : Nat → Int32) (lr_size : Int32) (lr_at : Int32) (lr_fault : Int32) (lr_code : Nat → Int32) (R : Int32 × Int32 × Int32 × (Nat → Int32)) (h : r_X5_readOperand x1 tape_size tape_bytes lr_size lr_at lr_fault lr_code = some R), Met l yX5_readOperand z_X5_readOperand ({ frames := fr, cells := 0, slots := 0, locals := lo } : Room) (va_Pc [.ref (ad 26), .int x1] (zPreE k D cs (wl_X5_readOperand ad cs tape_size tape_bytes lr_size lr_at lr_fault lr_code) sz)) (Q_X5_readOperand D cs ad tape_size tape_bytes (va_A (wl_X5_readOperand ad cs tape_size tape_bytes lr_size lr_at lr_fault lr_code) sz) R) 0 0 (va_A (wl_X5_readOperand ad cs tape_size tape_bytes lr_size lr_at lr_fault lr_code) sz)) (x1 : Int32) (lr_size : Int32) (lr_at : Int32) (lr_fault : Int32) (lr_code : Nat → Int32) (h : B_X5_readOperand_0 r_X5_readLevel r_X5_readOperand tape_size tape_bytes x1 lr_size lr_at lr_fault lr_code = some R) (H : Heap) (locs : List Loc) (ls : Array Slot) (hP : va_P D classes (wl_X5_readOperand ad cs tape_size tape_bytes lr_size lr_at lr_fault lr_code) H) (hD : va_D A (wl_X5_readOperand ad cs tape_size tape_bytes lr_size lr_at lr_fault lr_code)) (hS : va_S A s.heap H locs) (hl : lv_has ls 3 [(0, .ref (ad 26)), (1, .int x1)]) : W p l e ({ frames := fr + 5, cells := 0, slots := 0, locals := lo + 113 } : Room) s m args below meth c H locs 0 0 (MQ below (Q_X5_readOperand D cs ad tape_size tape_bytes A R) args s 0 0 A) (F0 m 0 ls []) := by
  obtain ⟨hx, hb, hr, hml, hown, ht, hlocks⟩ := id C0
  refine lv_aload_n hx hb dX5_readOperand_0 rfl (lv_at hl 0 rfl) ?_
  refine va_get (D := D) (ci := 5) (v := .ref (ad 23)) (C := RX5) (T := TX5) (N := 5) hx hb ht iX5 hown hK hP 2 rfl rfl 0 (by decide) (ht _ kw_274) (fun _ h9 => h9) rfl dX5_readOperand_1 ?_
  refine lv_aload_n hx hb dX5_readOperand_4 rfl (lv_at hl 0 rfl) ?_
  refine va_get (D := D) (ci := 5) (v := .int lr_at) (C := RX5) (T := TX5) (N := 5) hx hb ht iX5 hown hK hP 2 rfl rfl 3 (by decide) (ht _ kw_277) (fun _ h9 => h9) rfl dX5_readOperand_5 ?_
  obtain ⟨r_1, u_2, hc_3, h⟩ := zk_o2 h
  refine zz_vi (post := (fun r u => (r, u) = (r_1, u_2))) (w1 := fun u => (wl_X9_byteAt ad cs tape_size tape_bytes)) (As := [.int lr_at]) (rest := []) (c_X9_byteAt l D cs ad  H.size lr_at tape_size tape_bytes (r_1, u_2) hc_3) ⟨hx, hb, hml, hown, ht⟩ (cwV 1 ht g_X5_68 rfl rfl rfl ⟨rfl, hd_X9_byteAt⟩ ⟨(by show 0 + 1 ≤ fr + 5; omega), (by show 8 + (2 + 11) + 0 ≤ lo + 113; omega)⟩) (va_recv hK hP (ci := 9) (q0 := 0) rfl rfl) hP hD hS hK hA [0, 1] rfl rfl [(ad 23), (ad 24)] rfl (fun _ => rfl) rfl hl.1 (Nat.le_of_ble_eq_true rfl) dX5_readOperand_8 ⟨Nat.zero_le _, Nat.zero_le _⟩ (fun r u H locs hq hP hS => ?_)
  cases hq
  have hP : va_P D classes (wl_X5_readOperand ad cs tape_size tape_bytes lr_size lr_at lr_fault lr_code) H := hP
  have hD : va_D A (wl_X5_readOperand ad cs tape_size tape_bytes lr_size lr_at lr_fault lr_code) := zDk hD [(ad 23), (ad 24), (ad 26), (ad 27)] rfl rfl
  refine lv_istore_n (lv' := [(2, .int r_1), (0, .ref (ad 26)), (1, .int x1)]) hx hb dX5_readOperand_11 rfl hl (by decide) rfl (fun ls hl => ?_)
  refine lv_aload_n hx hb dX5_readOperand_12 rfl (lv_at hl 1 rfl) ?_
  refine va_get (D := D) (ci := 5) (v := .int lr_fault) (C := RX5) (T := TX5) (N := 5) hx hb ht iX5 hown hK hP 2 rfl rfl 4 (by decide) (ht _ kw_278) (fun _ h9 => h9) rfl dX5_readOperand_13 ?_
  refine lv_if_lt (tgt := 20) hx hb dX5_readOperand_16 (by decide) (fun c_4 => ?_) (fun c_4 => ?_)
  · have h := zk_t c_4 h
    refine lv_aload_n hx hb dX5_readOperand_20 rfl (lv_at hl 1 rfl) ?_
    refine va_get (D := D) (ci := 5) (v := .ref (ad 23)) (C := RX5) (T := TX5) (N := 5) hx hb ht iX5 hown hK hP 2 rfl rfl 0 (by decide) (ht _ kw_274) (fun _ h9 => h9) rfl dX5_readOperand_21 ?_
    refine lv_aload_n hx hb dX5_readOperand_24 rfl (lv_at hl 1 rfl) ?_
    refine va_get (D := D) (ci := 5) (v := .int lr_at) (C := RX5) (T := TX5) (N := 5) hx hb ht iX5 hown hK hP 2 rfl rfl 3 (by decide) (ht _ kw_277) (fun _ h9 => h9) rfl dX5_readOperand_25 ?_
    obtain ⟨r_5, u_6, hc_7, h⟩ := zk_o2 h
    refine zz_vi (post := (fun r u => (r, u) = (r_5, u_6))) (w1 := fun u => (wl_X9_isDigitAt ad cs tape_size tape_bytes)) (As := [.int lr_at]) (rest := []) (c_X9_isDigitAt l D cs ad  H.size lr_at tape_size tape_bytes (r_5, u_6) hc_7) ⟨hx, hb, hml, hown, ht⟩ (cwV 1 ht g_X5_71 rfl rfl rfl ⟨rfl, hd_X9_isDigitAt⟩ ⟨(by show 1 + 1 ≤ fr + 5; omega), (by show 8 + (3 + 11) + 21 ≤ lo + 113; omega)⟩) (va_recv hK hP (ci := 9) (q0 := 0) rfl rfl) hP hD hS hK hA [0, 1] rfl rfl [(ad 23), (ad 24)] rfl (fun _ => rfl) rfl hl.1 (Nat.le_of_ble_eq_true rfl) dX5_readOperand_28 ⟨Nat.zero_le _, Nat.zero_le _⟩ (fun r u H locs hq hP hS => ?_)
    cases hq
    have hP : va_P D classes (wl_X5_readOperand ad cs tape_size tape_bytes lr_size lr_at lr_fault lr_code) H := hP
    have hD : va_D A (wl_X5_readOperand ad cs tape_size tape_bytes lr_size lr_at lr_fault lr_code) := zDk hD [(ad 23), (ad 24), (ad 26), (ad 27)] rfl rfl
    refine lv_if_eq (tgt := 41) hx hb dX5_readOperand_31 (by decide) (fun c_8 => ?_) (fun c_8 => ?_)
    · have h := zk_t c_8 h
      refine lv_iload_n hx hb dX5_readOperand_41 rfl (lv_at hl 0 rfl) ?_
      refine lv_bipush (v := (33 : Int32)) hx hb dX5_readOperand_42 (by decide) ?_
      refine lv_icmp_eq (tgt := 53) hx hb dX5_readOperand_44 (by decide) (fun c_9 => ?_) (fun c_9 => ?_)
      · have h := zk_t c_9 h
        exact L_X5_readOperand_53 C0 hK hO hE hA hr_X5_readLevel hr_X5_readOperand  x1 r_1 lr_size lr_at lr_fault lr_code h H locs ls hP hD hS (lv_sub hl [1, 2, 0] rfl)
      · have h := zk_f c_9 h
        refine lv_iload_n hx hb dX5_readOperand_47 rfl (lv_at hl 0 rfl) ?_
        refine lv_bipush (v := (45 : Int32)) hx hb dX5_readOperand_48 (by decide) ?_
        refine lv_icmp_ne (tgt := 86) hx hb dX5_readOperand_50 (by decide) (fun c_10 => ?_) (fun c_10 => ?_)
        · have h := zk_f c_10 h
          refine lv_iload_n hx hb dX5_readOperand_86 rfl (lv_at hl 0 rfl) ?_
          refine lv_bipush (v := (40 : Int32)) hx hb dX5_readOperand_87 (by decide) ?_
          refine lv_icmp_ne (tgt := 124) hx hb dX5_readOperand_89 (by decide) (fun c_11 => ?_) (fun c_11 => ?_)
          · have h := zk_f c_11 h
            refine lv_aload_n hx hb dX5_readOperand_124 rfl (lv_at hl 1 rfl) ?_
            refine lv_iload_n hx hb dX5_readOperand_125 rfl (lv_at hl 0 rfl) ?_
            obtain ⟨u_12, u_13, u_14, u_15, hc_16, h⟩ := zk_o4 h
            refine zk_vvE (post := (fun u => u = (u_12, u_13, u_14, u_15))) (w1 := fun u => (wl_X5_readName ad cs u.1 u.2.1 u.2.2.1 u.2.2.2)) (As := [.int r_1]) (rest := []) hE hO (c_X5_readName l D cs ad k H.size r_1 lr_size lr_at lr_fault lr_code (u_12, u_13, u_14, u_15) hc_16) ⟨hx, hb, hml, hown, ht⟩ (cwV 1 ht g_X5_80 rfl rfl rfl ⟨rfl, hd_X5_readName⟩ ⟨(by show 4 + 1 ≤ fr + 5; omega), (by show 8 + (3 + 11) + 91 ≤ lo + 113; omega)⟩) (va_recv hK hP (ci := 5) (q0 := 2) rfl rfl) hP hD hS hK hA [2, 3] [0, 1] rfl rfl rfl rfl (by decide) rfl hl.1 (Nat.le_of_ble_eq_true rfl) dX5_readOperand_126 ⟨Nat.zero_le _, Nat.zero_le _⟩ (fun u H locs hq hP hD hS => ?_)
            cases hq
            have hP : va_P D classes (wl_X5_readOperand ad cs tape_size tape_bytes u_12 u_13 u_14 u_15) H := hP.sub [0, 1, 2, 3] rfl
            have hD : va_D A (wl_X5_readOperand ad cs tape_size tape_bytes u_12 u_13 u_14 u_15) := hD.sub [0, 1, 2, 3] rfl rfl
            exact W.vret hx hb hr (fun t ht2 hW => ⟨⟨(u_12, u_13, u_14, u_15), rfl, Option.some.inj h, by rw [ht2]; exact hP, hD⟩, hS.F ht2⟩) hS.2.2 dX5_readOperand_129 hlocks
          · have h := zk_t c_11 h
            refine lv_aload_n hx hb dX5_readOperand_92 rfl (lv_at hl 1 rfl) ?_
            refine lv_iload_n hx hb dX5_readOperand_93 rfl (lv_at hl 2 rfl) ?_
            obtain ⟨r_17, u_18, u_19, hc_20, h⟩ := zk_o3 h
            refine zz_vi (post := (fun r u => (r, u) = (r_17, u_18, u_19))) (w1 := fun u => (wl_X5_mayOpen ad cs lr_size u.1 u.2)) (As := [.int x1]) (rest := []) (c_X5_mayOpen l D cs ad  H.size x1 lr_size lr_at lr_fault (r_17, u_18, u_19) hc_20) ⟨hx, hb, hml, hown, ht⟩ (cwV 1 ht g_X5_77 rfl rfl rfl ⟨rfl, hd_X5_mayOpen⟩ ⟨(by show 1 + 1 ≤ fr + 5; omega), (by show 8 + (2 + 11) + 20 ≤ lo + 113; omega)⟩) (va_recv hK hP (ci := 5) (q0 := 2) rfl rfl) hP hD hS hK hA [2] rfl rfl [(ad 26)] rfl (fun _ => rfl) rfl hl.1 (Nat.le_of_ble_eq_true rfl) dX5_readOperand_94 ⟨Nat.zero_le _, Nat.zero_le _⟩ (fun r u H locs hq hP hS => ?_)
            cases hq
            have hP : va_P D classes (wl_X5_readOperand ad cs tape_size tape_bytes lr_size u_18 u_19 lr_code) H := hP
            have hD : va_D A (wl_X5_readOperand ad cs tape_size tape_bytes lr_size u_18 u_19 lr_code) := zDk hD [(ad 23), (ad 24), (ad 26), (ad 27)] rfl rfl
            refine lv_if_eq (tgt := 129) hx hb dX5_readOperand_97 (by decide) (fun c_21 => ?_) (fun c_21 => ?_)
            · have h := zk_t c_21 h
              exact W.vret hx hb hr (fun t ht2 hW => ⟨⟨(lr_size, u_18, u_19, lr_code), rfl, Option.some.inj h, by rw [ht2]; exact hP, hD⟩, hS.F ht2⟩) hS.2.2 dX5_readOperand_129 hlocks
            · have h := zk_f c_21 h
              refine lv_aload_n hx hb dX5_readOperand_100 rfl (lv_at hl 1 rfl) ?_
              refine lv_iconst (v := (0 : Int32)) hx hb dX5_readOperand_101 (by decide) ?_
              refine lv_iload_n hx hb dX5_readOperand_102 rfl (lv_at hl 2 rfl) ?_
              refine lv_iconst (v := (1 : Int32)) hx hb dX5_readOperand_103 (by decide) ?_
              refine lv_iadd hx hb dX5_readOperand_104 ?_
              obtain ⟨u_22, u_23, u_24, u_25, hc_26, h⟩ := zk_o4 h
              refine zk_vvE (post := (fun u => u = (u_22, u_23, u_24, u_25))) (w1 := fun u => (wl_X5_readLevel ad cs tape_size tape_bytes u.1 u.2.1 u.2.2.1 u.2.2.2)) (As := [.int (0 : Int32), .int (x1 + (1 : Int32))]) (rest := []) hE hO (hr_X5_readLevel D cs ad k H.size (0 : Int32) (x1 + (1 : Int32)) tape_size tape_bytes lr_size u_18 u_19 lr_code (u_22, u_23, u_24, u_25) hc_26) ⟨hx, hb, hml, hown, ht⟩ (cwV 2 ht g_X5_53 rfl rfl rfl ⟨rfl, hd_X5_readLevel⟩ ⟨(by show fr + 1 ≤ fr + 5; omega), (by show 8 + (5 + 11) + lo ≤ lo + 113; omega)⟩) (va_recv hK hP (ci := 5) (q0 := 2) rfl rfl) hP hD hS hK hA [0, 1, 2, 3] [] rfl rfl rfl rfl (by decide) rfl hl.1 (Nat.le_of_ble_eq_true rfl) dX5_readOperand_105 ⟨Nat.zero_le _, Nat.zero_le _⟩ (fun u H locs hq hP hD hS => ?_)
              cases hq
              have hP : va_P D classes (wl_X5_readOperand ad cs tape_size tape_bytes u_22 u_23 u_24 u_25) H := hP.sub [0, 1, 2, 3] rfl
              have hD : va_D A (wl_X5_readOperand ad cs tape_size tape_bytes u_22 u_23 u_24 u_25) := hD.sub [0, 1, 2, 3] rfl rfl
              refine lv_aload_n hx hb dX5_readOperand_108 rfl (lv_at hl 1 rfl) ?_
              refine lv_bipush (v := (41 : Int32)) hx hb dX5_readOperand_109 (by decide) ?_
              obtain ⟨r_27, u_28, hc_29, h⟩ := zk_o2 h
              refine zz_vi (post := (fun r u => (r, u) = (r_27, u_28))) (w1 := fun u => (wl_X5_accept ad cs tape_size tape_bytes u_22 u u_24)) (As := [.int (41 : Int32)]) (rest := []) (c_X5_accept l D cs ad  H.size (41 : Int32) tape_size tape_bytes u_22 u_23 u_24 (r_27, u_28) hc_29) ⟨hx, hb, hml, hown, ht⟩ (cwV 1 ht g_X5_32 rfl rfl rfl ⟨rfl, hd_X5_accept⟩ ⟨(by show 1 + 1 ≤ fr + 5; omega), (by show 8 + (2 + 11) + 21 ≤ lo + 113; omega)⟩) (va_recv hK hP (ci := 5) (q0 := 2) rfl rfl) hP hD hS hK hA [0, 1, 2] rfl rfl [(ad 23), (ad 24), (ad 26)] rfl (fun _ => rfl) rfl hl.1 (Nat.le_of_ble_eq_true rfl) dX5_readOperand_111 ⟨Nat.zero_le _, Nat.zero_le _⟩ (fun r u H locs hq hP hS => ?_)
              cases hq
              have hP : va_P D classes (wl_X5_readOperand ad cs tape_size tape_bytes u_22 u_28 u_24 u_25) H := hP
              have hD : va_D A (wl_X5_readOperand ad cs tape_size tape_bytes u_22 u_28 u_24 u_25) := zDk hD [(ad 23), (ad 24), (ad 26), (ad 27)] rfl rfl
              refine lv_if_ne (tgt := 129) hx hb dX5_readOperand_114 (by decide) (fun c_30 => ?_) (fun c_30 => ?_)
              · have h := zk_f c_30 h
                exact W.vret hx hb hr (fun t ht2 hW => ⟨⟨(u_22, u_28, u_24, u_25), rfl, Option.some.inj h, by rw [ht2]; exact hP, hD⟩, hS.F ht2⟩) hS.2.2 dX5_readOperand_129 hlocks
              · have h := zk_t c_30 h
                refine lv_aload_n hx hb dX5_readOperand_117 rfl (lv_at hl 1 rfl) ?_
                obtain ⟨u_31, hc_32, h⟩ := zk_o1 h
                refine zz_vv (post := (fun u => u = u_31)) (w1 := fun u => (wl_X5_fail ad cs u_22 u_28 u)) (As := []) (rest := []) (c_X5_fail l D cs ad  H.size u_22 u_28 u_24 u_31 hc_32) ⟨hx, hb, hml, hown, ht⟩ (cwV 0 ht g_X5_39 rfl rfl rfl ⟨rfl, hd_X5_fail⟩ ⟨(by show 0 + 1 ≤ fr + 5; omega), (by show 8 + (1 + 11) + 0 ≤ lo + 113; omega)⟩) (va_recv hK hP (ci := 5) (q0 := 2) rfl rfl) hP hD hS hK hA [2] rfl rfl [(ad 26)] rfl (fun _ => rfl) rfl hl.1 (Nat.le_of_ble_eq_true rfl) dX5_readOperand_118 ⟨Nat.zero_le _, Nat.zero_le _⟩ (fun u H locs hq hP hS => ?_)
                cases hq
                have hP : va_P D classes (wl_X5_readOperand ad cs tape_size tape_bytes u_22 u_28 u_31 u_25) H := hP
                have hD : va_D A (wl_X5_readOperand ad cs tape_size tape_bytes u_22 u_28 u_31 u_25) := zDk hD [(ad 23), (ad 24), (ad 26), (ad 27)] rfl rfl
                refine lv_goto (tgt := 129) hx hb dX5_readOperand_121 (by decide) ?_
                exact W.vret hx hb hr (fun t ht2 hW => ⟨⟨(u_22, u_28, u_31, u_25), rfl, Option.some.inj h, by rw [ht2]; exact hP, hD⟩, hS.F ht2⟩) hS.2.2 dX5_readOperand_129 hlocks
        · have h := zk_t c_10 h
          exact L_X5_readOperand_53 C0 hK hO hE hA hr_X5_readLevel hr_X5_readOperand  x1 r_1 lr_size lr_at lr_fault lr_code h H locs ls hP hD hS (lv_sub hl [1, 2, 0] rfl)
    · have h := zk_f c_8 h
      refine lv_aload_n hx hb dX5_readOperand_34 rfl (lv_at hl 1 rfl) ?_
      obtain ⟨u_33, u_34, u_35, hc_36, h⟩ := zk_o3 h
      refine zz_vv (post := (fun u => u = (u_33, u_34, u_35))) (w1 := fun u => (wl_X5_readNumber ad cs tape_size tape_bytes u.1 u.2.1 lr_fault u.2.2)) (As := []) (rest := []) (c_X5_readNumber l D cs ad  H.size 100000 tape_size tape_bytes lr_size lr_at lr_fault lr_code (u_33, u_34, u_35) hc_36) ⟨hx, hb, hml, hown, ht⟩ (cwV 0 ht g_X5_74 rfl rfl rfl ⟨rfl, hd_X5_readNumber⟩ ⟨(by show 2 + 1 ≤ fr + 5; omega), (by show 8 + (3 + 11) + 43 ≤ lo + 113; omega)⟩) (va_recv hK hP (ci := 5) (q0 := 2) rfl rfl) hP hD hS hK hA [0, 1, 2, 3] rfl rfl [(ad 23), (ad 24), (ad 26), (ad 27)] rfl (fun _ => rfl) rfl hl.1 (Nat.le_of_ble_eq_true rfl) dX5_readOperand_35 ⟨Nat.zero_le _, Nat.zero_le _⟩ (fun u H locs hq hP hS => ?_)
      cases hq
      have hP : va_P D classes (wl_X5_readOperand ad cs tape_size tape_bytes u_33 u_34 lr_fault u_35) H := hP
      have hD : va_D A (wl_X5_readOperand ad cs tape_size tape_bytes u_33 u_34 lr_fault u_35) := zDk hD [(ad 23), (ad 24), (ad 26), (ad 27)] rfl rfl
      refine lv_goto (tgt := 129) hx hb dX5_readOperand_38 (by decide) ?_
      exact W.vret hx hb hr (fun t ht2 hW => ⟨⟨(u_33, u_34, lr_fault, u_35), rfl, Option.some.inj h, by rw [ht2]; exact hP, hD⟩, hS.F ht2⟩) hS.2.2 dX5_readOperand_129 hlocks
  · have h := zk_f c_4 h
    exact W.vret hx hb hr (fun t ht2 hW => ⟨⟨(lr_size, lr_at, lr_fault, lr_code), rfl, Option.some.inj h, by rw [ht2]; exact hP, hD⟩, hS.F ht2⟩) hS.2.2 dX5_readOperand_19 hlocks
set_option maxHeartbeats 4000000 in
set_option maxRecDepth 100000 in
theorem c_X5_readOperand (l : Launch) (D : va_G) (cs : Nat → ClassId) (ad : Nat → Nat) (k : (Nat → Nat) × (Nat → Nat)) {fr lo : Nat} {r_X5_readLevel : Int32 → Int32 → Int32 → (Nat → Int32) → Int32 → Int32 → Int32 → (Nat → Int32) → (Option (Int32 × Int32 × Int32 × (Nat → Int32)))} {r_X5_readOperand : Int32 → Int32 → (Nat → Int32) → Int32 → Int32 → Int32 → (Nat → Int32) → (Option (Int32 × Int32 × Int32 × (Nat → Int32)))} (hr_X5_readLevel : ∀ (D : va_G) (cs : Nat → ClassId) (ad : Nat → Nat) (k : (Nat → Nat) × (Nat → Nat)) (sz : Nat) (x1 : Int32) (x2 : Int32) (tape_size : Int32) (tape_bytes : Nat → Int32) (lr_size : Int32) (lr_at : Int32) (lr_fault : Int32) (lr_code : Nat → Int32) (R : Int32 × Int32 × Int32 × (Nat → Int32)) (h : r_X5_readLevel x1 x2 tape_size tape_bytes lr_size lr_at lr_fault lr_code = some R), Met l yX5_readLevel z_X5_readLevel ({ frames := fr, cells := 0, slots := 0, locals := lo } : Room) (va_Pc [.ref (ad 26), .int x1, .int x2] (zPreE k D cs (wl_X5_readLevel ad cs tape_size tape_bytes lr_size lr_at lr_fault lr_code) sz)) (Q_X5_readLevel D cs ad tape_size tape_bytes (va_A (wl_X5_readLevel ad cs tape_size tape_bytes lr_size lr_at lr_fault lr_code) sz) R) 0 0 (va_A (wl_X5_readLevel ad cs tape_size tape_bytes lr_size lr_at lr_fault lr_code) sz)) (hr_X5_readOperand : ∀ (D : va_G) (cs : Nat → ClassId) (ad : Nat → Nat) (k : (Nat → Nat) × (Nat → Nat)) (sz : Nat) (x1 : Int32) (tape_size : Int32) (tape_bytes : Nat → Int32) (lr_size : Int32) (lr_at : Int32) (lr_fault : Int32) (lr_code : Nat → Int32) (R : Int32 × Int32 × Int32 × (Nat → Int32)) (h : r_X5_readOperand x1 tape_size tape_bytes lr_size lr_at lr_fault lr_code = some R), Met l yX5_readOperand z_X5_readOperand ({ frames := fr, cells := 0, slots := 0, locals := lo } : Room) (va_Pc [.ref (ad 26), .int x1] (zPreE k D cs (wl_X5_readOperand ad cs tape_size tape_bytes lr_size lr_at lr_fault lr_code) sz)) (Q_X5_readOperand D cs ad tape_size tape_bytes (va_A (wl_X5_readOperand ad cs tape_size tape_bytes lr_size lr_at lr_fault lr_code) sz) R) 0 0 (va_A (wl_X5_readOperand ad cs tape_size tape_bytes lr_size lr_at lr_fault lr_code) sz)) (sz : Nat) (x1 : Int32) (tape_size : Int32) (tape_bytes : Nat → Int32) (lr_size : Int32) (lr_at : Int32) (lr_fault : Int32) (lr_code : Nat → Int32) (R : Int32 × Int32 × Int32 × (Nat → Int32)) (h : f_X5_readOperand  r_X5_readLevel r_X5_readOperand x1 tape_size tape_bytes lr_size lr_at lr_fault lr_code = some R) : Met l yX5_readOperand (z_X5_readOperand) ({ frames := fr + 5, cells := 0, slots := 0, locals := lo + 113 } : Room) (va_Pc [.ref (ad 26), .int x1] (zPreE k D cs (wl_X5_readOperand ad cs tape_size tape_bytes lr_size lr_at lr_fault lr_code) sz)) (Q_X5_readOperand D cs ad tape_size tape_bytes (va_A (wl_X5_readOperand ad cs tape_size tape_bytes lr_size lr_at lr_fault lr_code) sz) R) 0 0 (va_A (wl_X5_readOperand ad cs tape_size tape_bytes lr_size lr_at lr_fault lr_code) sz) := by
  refine Met.ofW (cc := cX5_readOperand) (maxL := 3) (ret := none) (by decide) rfl ?_
  intro p e s m args below meth c s₁ B hml hv
  obtain ⟨rfl, ⟨⟨hsz, hP, hK, hD0⟩, hO⟩, hE⟩ := hv
  subst hsz
  have hD := hD0.self (sz := s.heap.size)
  have C0 : zC p s m _ meth c cX5_readOperand 3 none RX5 zW := ⟨B.exec, B.bytes, B.returns, hml, findClass_of_methodNamed B.named, fun w hw => atoms_spec (ws := z_X5_readOperand) B.pre w (List.mem_cons_of_mem _ hw), B.notSynchronized⟩
  have hA : ∀ q : Nat, s.heap.size ≤ q → va_A (wl_X5_readOperand ad cs tape_size tape_bytes lr_size lr_at lr_fault lr_code) s.heap.size q := fun q h => Or.inr h
  have hl := lv_entry ([.ref (ad 26), .int x1]) (n := 3) (Nat.le_of_ble_eq_true rfl)
  rw [lg_entry_eq]
  generalize (lg_sl ([.ref (ad 26), .int x1]) ++ List.replicate (3 - (lg_sl ([.ref (ad 26), .int x1])).length) Slot.unset).toArray = ls at hl ⊢
  exact L_X5_readOperand_0 C0 hK hO hE hA hr_X5_readLevel hr_X5_readOperand  x1 lr_size lr_at lr_fault lr_code h s.heap [] ls hP hD va_S.rf hl
theorem cg_lawgrp (l : Launch) : ∀ n : Nat, (∀ (D : va_G) (cs : Nat → ClassId) (ad : Nat → Nat) (k : (Nat → Nat) × (Nat → Nat)) (sz : Nat) (x1 : Int32) (x2 : Int32) (tape_size : Int32) (tape_bytes : Nat → Int32) (lr_size : Int32) (lr_at : Int32) (lr_fault : Int32) (lr_code : Nat → Int32) (R : Int32 × Int32 × Int32 × (Nat → Int32)) (h : ((grp_lawgrp n).1) x1 x2 tape_size tape_bytes lr_size lr_at lr_fault lr_code = some R), Met l yX5_readLevel z_X5_readLevel ({ frames := 5 * n, cells := 0, slots := 0, locals := 113 * n } : Room) (va_Pc [.ref (ad 26), .int x1, .int x2] (zPreE k D cs (wl_X5_readLevel ad cs tape_size tape_bytes lr_size lr_at lr_fault lr_code) sz)) (Q_X5_readLevel D cs ad tape_size tape_bytes (va_A (wl_X5_readLevel ad cs tape_size tape_bytes lr_size lr_at lr_fault lr_code) sz) R) 0 0 (va_A (wl_X5_readLevel ad cs tape_size tape_bytes lr_size lr_at lr_fault lr_code) sz)) ∧ (∀ (D : va_G) (cs : Nat → ClassId) (ad : Nat → Nat) (k : (Nat → Nat) × (Nat → Nat)) (sz : Nat) (x1 : Int32) (tape_size : Int32) (tape_bytes : Nat → Int32) (lr_size : Int32) (lr_at : Int32) (lr_fault : Int32) (lr_code : Nat → Int32) (R : Int32 × Int32 × Int32 × (Nat → Int32)) (h : ((grp_lawgrp n).2) x1 tape_size tape_bytes lr_size lr_at lr_fault lr_code = some R), Met l yX5_readOperand z_X5_readOperand ({ frames := 5 * n, cells := 0, slots := 0, locals := 113 * n } : Room) (va_Pc [.ref (ad 26), .int x1] (zPreE k D cs (wl_X5_readOperand ad cs tape_size tape_bytes lr_size lr_at lr_fault lr_code) sz)) (Q_X5_readOperand D cs ad tape_size tape_bytes (va_A (wl_X5_readOperand ad cs tape_size tape_bytes lr_size lr_at lr_fault lr_code) sz) R) 0 0 (va_A (wl_X5_readOperand ad cs tape_size tape_bytes lr_size lr_at lr_fault lr_code) sz)) := by
  intro n
  induction n with
  | zero =>
    refine ⟨?_, ?_⟩ <;> (intros; rename_i h; cases h)
  | succ n ih =>
    exact ⟨(fun D cs ad  k sz x1 x2 tape_size tape_bytes lr_size lr_at lr_fault lr_code R h => c_X5_readLevel l D cs ad  k (ih.1) (ih.2) sz 100000 x1 x2 tape_size tape_bytes lr_size lr_at lr_fault lr_code R h), (fun D cs ad  k sz x1 tape_size tape_bytes lr_size lr_at lr_fault lr_code R h => c_X5_readOperand l D cs ad  k (ih.1) (ih.2) sz x1 tape_size tape_bytes lr_size lr_at lr_fault lr_code R h)⟩
theorem zh_cX5_readLine_0 : zck [42, 3, 3, 182, 0, 53, 42, 16, 63, 182, 0, 32, 153, 0, 50, 42, 180, 0, 23, 60, 42, 6] (zdu 0 cX5_readLine.data.toList) = true := by decide +kernel
theorem dX5_readLine_0 : decode cX5_readLine 0 = .ok (.aload_n 0, 1) := zo_42 zh_cX5_readLine_0 0 rfl
theorem dX5_readLine_1 : decode cX5_readLine 1 = .ok (.iconst 0, 1) := zo_3 zh_cX5_readLine_0 1 rfl
theorem dX5_readLine_2 : decode cX5_readLine 2 = .ok (.iconst 0, 1) := zo_3 zh_cX5_readLine_0 2 rfl
theorem dX5_readLine_3 : decode cX5_readLine 3 = .ok (.invokevirtual 53, 3) := zo_182 zh_cX5_readLine_0 3 rfl
theorem dX5_readLine_6 : decode cX5_readLine 6 = .ok (.aload_n 0, 1) := zo_42 zh_cX5_readLine_0 6 rfl
theorem dX5_readLine_7 : decode cX5_readLine 7 = .ok (.bipush 63, 2) := zo_p16 zh_cX5_readLine_0 7 63 rfl rfl
theorem dX5_readLine_9 : decode cX5_readLine 9 = .ok (.invokevirtual 32, 3) := zo_182 zh_cX5_readLine_0 9 rfl
theorem dX5_readLine_12 : decode cX5_readLine 12 = .ok (.ifCond .eq 50, 3) := zo_p153 zh_cX5_readLine_0 12 50 rfl rfl
theorem dX5_readLine_15 : decode cX5_readLine 15 = .ok (.aload_n 0, 1) := zo_42 zh_cX5_readLine_0 15 rfl
theorem dX5_readLine_16 : decode cX5_readLine 16 = .ok (.getfield 23, 3) := zo_180 zh_cX5_readLine_0 16 rfl
theorem dX5_readLine_19 : decode cX5_readLine 19 = .ok (.istore_n 1, 1) := zo_60 zh_cX5_readLine_0 19 rfl
theorem zh_cX5_readLine_1 : zck [42, 6, 182, 0, 57, 42, 3, 3, 182, 0, 53, 42, 5, 182, 0, 57, 27, 42, 180, 0, 9, 190] (zdu 20 cX5_readLine.data.toList) = true := by decide +kernel
theorem dX5_readLine_20 : decode cX5_readLine 20 = .ok (.aload_n 0, 1) := zo_42 zh_cX5_readLine_1 0 rfl
theorem dX5_readLine_21 : decode cX5_readLine 21 = .ok (.iconst 3, 1) := zo_6 zh_cX5_readLine_1 1 rfl
theorem dX5_readLine_22 : decode cX5_readLine 22 = .ok (.invokevirtual 57, 3) := zo_182 zh_cX5_readLine_1 2 rfl
theorem dX5_readLine_25 : decode cX5_readLine 25 = .ok (.aload_n 0, 1) := zo_42 zh_cX5_readLine_1 5 rfl
theorem dX5_readLine_26 : decode cX5_readLine 26 = .ok (.iconst 0, 1) := zo_3 zh_cX5_readLine_1 6 rfl
theorem dX5_readLine_27 : decode cX5_readLine 27 = .ok (.iconst 0, 1) := zo_3 zh_cX5_readLine_1 7 rfl
theorem dX5_readLine_28 : decode cX5_readLine 28 = .ok (.invokevirtual 53, 3) := zo_182 zh_cX5_readLine_1 8 rfl
theorem dX5_readLine_31 : decode cX5_readLine 31 = .ok (.aload_n 0, 1) := zo_42 zh_cX5_readLine_1 11 rfl
theorem dX5_readLine_32 : decode cX5_readLine 32 = .ok (.iconst 2, 1) := zo_5 zh_cX5_readLine_1 12 rfl
theorem dX5_readLine_33 : decode cX5_readLine 33 = .ok (.invokevirtual 57, 3) := zo_182 zh_cX5_readLine_1 13 rfl
theorem dX5_readLine_36 : decode cX5_readLine 36 = .ok (.iload_n 1, 1) := zo_27 zh_cX5_readLine_1 16 rfl
theorem dX5_readLine_37 : decode cX5_readLine 37 = .ok (.aload_n 0, 1) := zo_42 zh_cX5_readLine_1 17 rfl
theorem dX5_readLine_38 : decode cX5_readLine 38 = .ok (.getfield 9, 3) := zo_180 zh_cX5_readLine_1 18 rfl
theorem zh_cX5_readLine_2 : zck [9, 190, 162, 0, 17, 42, 180, 0, 9, 27, 42, 180, 0, 23, 8, 120, 6, 128, 79, 167, 0, 8] (zdu 40 cX5_readLine.data.toList) = true := by decide +kernel
theorem dX5_readLine_41 : decode cX5_readLine 41 = .ok (.arraylength, 1) := zo_190 zh_cX5_readLine_2 1 rfl
theorem dX5_readLine_42 : decode cX5_readLine 42 = .ok (.if_icmp .ge 17, 3) := zo_p162 zh_cX5_readLine_2 2 17 rfl rfl
theorem dX5_readLine_45 : decode cX5_readLine 45 = .ok (.aload_n 0, 1) := zo_42 zh_cX5_readLine_2 5 rfl
theorem dX5_readLine_46 : decode cX5_readLine 46 = .ok (.getfield 9, 3) := zo_180 zh_cX5_readLine_2 6 rfl
theorem dX5_readLine_49 : decode cX5_readLine 49 = .ok (.iload_n 1, 1) := zo_27 zh_cX5_readLine_2 9 rfl
theorem dX5_readLine_50 : decode cX5_readLine 50 = .ok (.aload_n 0, 1) := zo_42 zh_cX5_readLine_2 10 rfl
theorem dX5_readLine_51 : decode cX5_readLine 51 = .ok (.getfield 23, 3) := zo_180 zh_cX5_readLine_2 11 rfl
theorem dX5_readLine_54 : decode cX5_readLine 54 = .ok (.iconst 5, 1) := zo_8 zh_cX5_readLine_2 14 rfl
theorem dX5_readLine_55 : decode cX5_readLine 55 = .ok (.ishl, 1) := zo_120 zh_cX5_readLine_2 15 rfl
theorem dX5_readLine_56 : decode cX5_readLine 56 = .ok (.iconst 3, 1) := zo_6 zh_cX5_readLine_2 16 rfl
theorem dX5_readLine_57 : decode cX5_readLine 57 = .ok (.ior, 1) := zo_128 zh_cX5_readLine_2 17 rfl
theorem dX5_readLine_58 : decode cX5_readLine 58 = .ok (.iastore, 1) := zo_79 zh_cX5_readLine_2 18 rfl
theorem dX5_readLine_59 : decode cX5_readLine 59 = .ok (.goto 8, 3) := zo_p167 zh_cX5_readLine_2 19 8 rfl rfl
theorem zh_cX5_readLine_3 : zck [0, 8, 42, 5, 182, 0, 57, 177] (zdu 60 cX5_readLine.data.toList) = true := by decide +kernel
theorem dX5_readLine_62 : decode cX5_readLine 62 = .ok (.aload_n 0, 1) := zo_42 zh_cX5_readLine_3 2 rfl
theorem dX5_readLine_63 : decode cX5_readLine 63 = .ok (.iconst 2, 1) := zo_5 zh_cX5_readLine_3 3 rfl
theorem dX5_readLine_64 : decode cX5_readLine 64 = .ok (.invokevirtual 57, 3) := zo_182 zh_cX5_readLine_3 4 rfl
theorem dX5_readLine_67 : decode cX5_readLine 67 = .ok (.return_, 1) := zo_177 zh_cX5_readLine_3 7 rfl
abbrev z_X5_readLine : List Cond := .code yX5_readLine cX5_readLine 2 none :: zW
abbrev wl_X5_readLine (ad : Nat → Nat) (cs : Nat → ClassId)  (tape_size : Int32) (tape_bytes : Nat → Int32) (lr_size : Int32) (lr_at : Int32) (lr_fault : Int32) (lr_code : Nat → Int32) : va_W := [((ad 23), .inr (9, [.ref (ad 24), .int tape_size])), ((ad 24), .inl (cs 0, 120, .inl tape_bytes)), ((ad 26), .inr (5, [.ref (ad 23), .ref (ad 27), .int lr_size, .int lr_at, .int lr_fault])), ((ad 27), .inl (cs 0, 121, .inl lr_code))]
def Q_X5_readLine (D : va_G) (cs : Nat → ClassId) (ad : Nat → Nat)  (tape_size : Int32) (tape_bytes : Nat → Int32) (A : Nat → Prop) (R : Int32 × Int32 × Int32 × (Nat → Int32)) : Array Value → State → Outcome → State → Prop :=
  va_Qv (fun u : Int32 × Int32 × Int32 × (Nat → Int32) => u = R) (fun (u : Int32 × Int32 × Int32 × (Nat → Int32)) (t : State) => va_P D classes (wl_X5_readLine ad cs tape_size tape_bytes u.1 u.2.1 u.2.2.1 u.2.2.2) t.heap ∧ va_D A (wl_X5_readLine ad cs tape_size tape_bytes u.1 u.2.1 u.2.2.1 u.2.2.2)) A
abbrev rm_X5_readLine : Room := { frames := 301, cells := 0, slots := 0, locals := 6804 }
def B_X5_readLine_59    (tape_size : Int32) (tape_bytes : Nat → Int32) (lr_size : Int32) (lr_at : Int32) (lr_fault : Int32) (lr_code : Nat → Int32) : Option (Int32 × Int32 × Int32 × (Nat → Int32)) :=
  (some (lr_size, lr_at, lr_fault, lr_code))
def B_X5_readLine_0    (tape_size : Int32) (tape_bytes : Nat → Int32) (lr_size : Int32) (lr_at : Int32) (lr_fault : Int32) (lr_code : Nat → Int32) : Option (Int32 × Int32 × Int32 × (Nat → Int32)) :=
  (zk_b4 ((grp_lawgrp 60).1 (0 : Int32) (0 : Int32) tape_size tape_bytes lr_size lr_at lr_fault lr_code) (fun u_1 u_2 u_3 u_4 => (zk_b2 (f_X5_accept (63 : Int32) tape_size tape_bytes u_1 u_2 u_3) (fun r_6 u_7 => (if r_6 = 0 then (zk_b2 (f_X5_emit (2 : Int32) u_1 u_7 u_3 u_4) (fun u_10 u_11 => (some (u_10, u_7, u_3, u_11)))) else (zk_b2 (f_X5_emit (3 : Int32) u_1 u_7 u_3 u_4) (fun u_13 u_14 => (zk_b4 ((grp_lawgrp 60).1 (0 : Int32) (0 : Int32) tape_size tape_bytes u_13 u_7 u_3 u_14) (fun u_16 u_17 u_18 u_19 => (zk_b2 (f_X5_emit (2 : Int32) u_16 u_17 u_18 u_19) (fun u_21 u_22 => (if (121 : Int32) ≤ u_1 then (B_X5_readLine_59 tape_size tape_bytes u_21 u_17 u_18 u_22) else (zk_let ((u_21 <<< ((5 : Int32) &&& 31)) ||| (3 : Int32)) (fun v_25 => (if (u_1 < 0 ∨ 121 ≤ u_1.toNatClampNeg) then none else (zk_let (upd u_22 u_1.toNatClampNeg v_25) (fun f_27 => (B_X5_readLine_59 tape_size tape_bytes u_21 u_17 u_18 f_27))))))))))))))))))
def f_X5_readLine    (tape_size : Int32) (tape_bytes : Nat → Int32) (lr_size : Int32) (lr_at : Int32) (lr_fault : Int32) (lr_code : Nat → Int32) : Option (Int32 × Int32 × Int32 × (Nat → Int32)) := B_X5_readLine_0   tape_size tape_bytes  lr_size lr_at lr_fault lr_code
set_option maxHeartbeats 4000000 in
set_option maxRecDepth 100000 in
theorem L_X5_readLine_59 {p : Program} {l : Launch} {e : Env} {s : State} {m : MethodId} {args : Array Value} {below : List Frame} {meth : Method} {c : Code} {A : Nat → Prop} {D : va_G} {cs : Nat → ClassId} {ad : Nat → Nat} {tape_size : Int32} {tape_bytes : Nat → Int32} {R : Int32 × Int32 × Int32 × (Nat → Int32)} (C0 : zC p s m args meth c cX5_readLine 2 none RX5 zW) (hK : va_K D classes (zT cs) s) {k : (Nat → Nat) × (Nat → Nat)} (hO : zO s) (hE : zE k A s) (hA : ∀ q : Nat, s.heap.size ≤ q → A q) (lr_size : Int32) (lr_at : Int32) (lr_fault : Int32) (lr_code : Nat → Int32) (h : B_X5_readLine_59 tape_size tape_bytes lr_size lr_at lr_fault lr_code = some R) (H : Heap) (locs : List Loc) (ls : Array Slot) (hP : va_P D classes (wl_X5_readLine ad cs tape_size tape_bytes lr_size lr_at lr_fault lr_code) H) (hD : va_D A (wl_X5_readLine ad cs tape_size tape_bytes lr_size lr_at lr_fault lr_code)) (hS : va_S A s.heap H locs) (hl : lv_has ls 2 []) : W p l e rm_X5_readLine s m args below meth c H locs 0 0 (MQ below (Q_X5_readLine D cs ad tape_size tape_bytes A R) args s 0 0 A) (F0 m 59 ls []) := by
  obtain ⟨hx, hb, hr, hml, hown, ht, hlocks⟩ := id C0
  refine lv_goto (tgt := 67) hx hb dX5_readLine_59 (by decide) ?_
  exact W.vret hx hb hr (fun t ht2 hW => ⟨⟨(lr_size, lr_at, lr_fault, lr_code), rfl, Option.some.inj h, by rw [ht2]; exact hP, hD⟩, hS.F ht2⟩) hS.2.2 dX5_readLine_67 hlocks
set_option maxHeartbeats 4000000 in
set_option maxRecDepth 100000 in
theorem L_X5_readLine_0 {p : Program} {l : Launch} {e : Env} {s : State} {m : MethodId} {args : Array Value} {below : List Frame} {meth : Method} {c : Code} {A : Nat → Prop} {D : va_G} {cs : Nat → ClassId} {ad : Nat → Nat} {tape_size : Int32} {tape_bytes : Nat → Int32} {R : Int32 × Int32 × Int32 × (Nat → Int32)} (C0 : zC p s m args meth c cX5_readLine 2 none RX5 zW) (hK : va_K D classes (zT cs) s) {k : (Nat → Nat) × (Nat → Nat)} (hO : zO s) (hE : zE k A s) (hA : ∀ q : Nat, s.heap.size ≤ q → A q) (lr_size : Int32) (lr_at : Int32) (lr_fault : Int32) (lr_code : Nat → Int32) (h : B_X5_readLine_0 tape_size tape_bytes lr_size lr_at lr_fault lr_code = some R) (H : Heap) (locs : List Loc) (ls : Array Slot) (hP : va_P D classes (wl_X5_readLine ad cs tape_size tape_bytes lr_size lr_at lr_fault lr_code) H) (hD : va_D A (wl_X5_readLine ad cs tape_size tape_bytes lr_size lr_at lr_fault lr_code)) (hS : va_S A s.heap H locs) (hl : lv_has ls 2 [(0, .ref (ad 26))]) : W p l e rm_X5_readLine s m args below meth c H locs 0 0 (MQ below (Q_X5_readLine D cs ad tape_size tape_bytes A R) args s 0 0 A) (F0 m 0 ls []) := by
  obtain ⟨hx, hb, hr, hml, hown, ht, hlocks⟩ := id C0
  refine lv_aload_n hx hb dX5_readLine_0 rfl (lv_at hl 0 rfl) ?_
  refine lv_iconst (v := (0 : Int32)) hx hb dX5_readLine_1 (by decide) ?_
  refine lv_iconst (v := (0 : Int32)) hx hb dX5_readLine_2 (by decide) ?_
  obtain ⟨u_1, u_2, u_3, u_4, hc_5, h⟩ := zk_o4 h
  refine zk_vvE (post := (fun u => u = (u_1, u_2, u_3, u_4))) (w1 := fun u => (wl_X5_readLevel ad cs tape_size tape_bytes u.1 u.2.1 u.2.2.1 u.2.2.2)) (As := [.int (0 : Int32), .int (0 : Int32)]) (rest := []) hE hO (((cg_lawgrp l 60).1) D cs ad k H.size (0 : Int32) (0 : Int32) tape_size tape_bytes lr_size lr_at lr_fault lr_code (u_1, u_2, u_3, u_4) hc_5) ⟨hx, hb, hml, hown, ht⟩ (cwV 2 ht g_X5_53 rfl rfl rfl ⟨rfl, hd_X5_readLevel⟩ ⟨Nat.le_of_ble_eq_true rfl, Nat.le_of_ble_eq_true rfl⟩) (va_recv hK hP (ci := 5) (q0 := 2) rfl rfl) hP hD hS hK hA [0, 1, 2, 3] [] rfl rfl rfl rfl (by decide) rfl hl.1 (Nat.le_of_ble_eq_true rfl) dX5_readLine_3 ⟨Nat.zero_le _, Nat.zero_le _⟩ (fun u H locs hq hP hD hS => ?_)
  cases hq
  have hP : va_P D classes (wl_X5_readLine ad cs tape_size tape_bytes u_1 u_2 u_3 u_4) H := hP.sub [0, 1, 2, 3] rfl
  have hD : va_D A (wl_X5_readLine ad cs tape_size tape_bytes u_1 u_2 u_3 u_4) := hD.sub [0, 1, 2, 3] rfl rfl
  refine lv_aload_n hx hb dX5_readLine_6 rfl (lv_at hl 0 rfl) ?_
  refine lv_bipush (v := (63 : Int32)) hx hb dX5_readLine_7 (by decide) ?_
  obtain ⟨r_6, u_7, hc_8, h⟩ := zk_o2 h
  refine zz_vi (post := (fun r u => (r, u) = (r_6, u_7))) (w1 := fun u => (wl_X5_accept ad cs tape_size tape_bytes u_1 u u_3)) (As := [.int (63 : Int32)]) (rest := []) (c_X5_accept l D cs ad  H.size (63 : Int32) tape_size tape_bytes u_1 u_2 u_3 (r_6, u_7) hc_8) ⟨hx, hb, hml, hown, ht⟩ (cwV 1 ht g_X5_32 rfl rfl rfl ⟨rfl, hd_X5_accept⟩ ⟨Nat.le_of_ble_eq_true rfl, Nat.le_of_ble_eq_true rfl⟩) (va_recv hK hP (ci := 5) (q0 := 2) rfl rfl) hP hD hS hK hA [0, 1, 2] rfl rfl [(ad 23), (ad 24), (ad 26)] rfl (fun _ => rfl) rfl hl.1 (Nat.le_of_ble_eq_true rfl) dX5_readLine_9 ⟨Nat.zero_le _, Nat.zero_le _⟩ (fun r u H locs hq hP hS => ?_)
  cases hq
  have hP : va_P D classes (wl_X5_readLine ad cs tape_size tape_bytes u_1 u_7 u_3 u_4) H := hP
  have hD : va_D A (wl_X5_readLine ad cs tape_size tape_bytes u_1 u_7 u_3 u_4) := zDk hD [(ad 23), (ad 24), (ad 26), (ad 27)] rfl rfl
  refine lv_if_eq (tgt := 62) hx hb dX5_readLine_12 (by decide) (fun c_9 => ?_) (fun c_9 => ?_)
  · have h := zk_t c_9 h
    refine lv_aload_n hx hb dX5_readLine_62 rfl (lv_at hl 0 rfl) ?_
    refine lv_iconst (v := (2 : Int32)) hx hb dX5_readLine_63 (by decide) ?_
    obtain ⟨u_10, u_11, hc_12, h⟩ := zk_o2 h
    refine zz_vv (post := (fun u => u = (u_10, u_11))) (w1 := fun u => (wl_X5_emit ad cs u.1 u_7 u_3 u.2)) (As := [.int (2 : Int32)]) (rest := []) (c_X5_emit l D cs ad  H.size (2 : Int32) u_1 u_7 u_3 u_4 (u_10, u_11) hc_12) ⟨hx, hb, hml, hown, ht⟩ (cwV 1 ht g_X5_57 rfl rfl rfl ⟨rfl, hd_X5_emit⟩ ⟨Nat.le_of_ble_eq_true rfl, Nat.le_of_ble_eq_true rfl⟩) (va_recv hK hP (ci := 5) (q0 := 2) rfl rfl) hP hD hS hK hA [2, 3] rfl rfl [(ad 26), (ad 27)] rfl (fun _ => rfl) rfl hl.1 (Nat.le_of_ble_eq_true rfl) dX5_readLine_64 ⟨Nat.zero_le _, Nat.zero_le _⟩ (fun u H locs hq hP hS => ?_)
    cases hq
    have hP : va_P D classes (wl_X5_readLine ad cs tape_size tape_bytes u_10 u_7 u_3 u_11) H := hP
    have hD : va_D A (wl_X5_readLine ad cs tape_size tape_bytes u_10 u_7 u_3 u_11) := zDk hD [(ad 23), (ad 24), (ad 26), (ad 27)] rfl rfl
    exact W.vret hx hb hr (fun t ht2 hW => ⟨⟨(u_10, u_7, u_3, u_11), rfl, Option.some.inj h, by rw [ht2]; exact hP, hD⟩, hS.F ht2⟩) hS.2.2 dX5_readLine_67 hlocks
  · have h := zk_f c_9 h
    refine lv_aload_n hx hb dX5_readLine_15 rfl (lv_at hl 0 rfl) ?_
    refine va_get (D := D) (ci := 5) (v := .int u_1) (C := RX5) (T := TX5) (N := 5) hx hb ht iX5 hown hK hP 2 rfl rfl 2 (by decide) (ht _ kw_276) (fun _ h9 => h9) rfl dX5_readLine_16 ?_
    refine lv_istore_n (lv' := [(1, .int u_1), (0, .ref (ad 26))]) hx hb dX5_readLine_19 rfl hl (by decide) rfl (fun ls hl => ?_)
    refine lv_aload_n hx hb dX5_readLine_20 rfl (lv_at hl 1 rfl) ?_
    refine lv_iconst (v := (3 : Int32)) hx hb dX5_readLine_21 (by decide) ?_
    obtain ⟨u_13, u_14, hc_15, h⟩ := zk_o2 h
    refine zz_vv (post := (fun u => u = (u_13, u_14))) (w1 := fun u => (wl_X5_emit ad cs u.1 u_7 u_3 u.2)) (As := [.int (3 : Int32)]) (rest := []) (c_X5_emit l D cs ad  H.size (3 : Int32) u_1 u_7 u_3 u_4 (u_13, u_14) hc_15) ⟨hx, hb, hml, hown, ht⟩ (cwV 1 ht g_X5_57 rfl rfl rfl ⟨rfl, hd_X5_emit⟩ ⟨Nat.le_of_ble_eq_true rfl, Nat.le_of_ble_eq_true rfl⟩) (va_recv hK hP (ci := 5) (q0 := 2) rfl rfl) hP hD hS hK hA [2, 3] rfl rfl [(ad 26), (ad 27)] rfl (fun _ => rfl) rfl hl.1 (Nat.le_of_ble_eq_true rfl) dX5_readLine_22 ⟨Nat.zero_le _, Nat.zero_le _⟩ (fun u H locs hq hP hS => ?_)
    cases hq
    have hP : va_P D classes (wl_X5_readLine ad cs tape_size tape_bytes u_13 u_7 u_3 u_14) H := hP
    have hD : va_D A (wl_X5_readLine ad cs tape_size tape_bytes u_13 u_7 u_3 u_14) := zDk hD [(ad 23), (ad 24), (ad 26), (ad 27)] rfl rfl
    refine lv_aload_n hx hb dX5_readLine_25 rfl (lv_at hl 1 rfl) ?_
    refine lv_iconst (v := (0 : Int32)) hx hb dX5_readLine_26 (by decide) ?_
    refine lv_iconst (v := (0 : Int32)) hx hb dX5_readLine_27 (by decide) ?_
    obtain ⟨u_16, u_17, u_18, u_19, hc_20, h⟩ := zk_o4 h
    refine zk_vvE (post := (fun u => u = (u_16, u_17, u_18, u_19))) (w1 := fun u => (wl_X5_readLevel ad cs tape_size tape_bytes u.1 u.2.1 u.2.2.1 u.2.2.2)) (As := [.int (0 : Int32), .int (0 : Int32)]) (rest := []) hE hO (((cg_lawgrp l 60).1) D cs ad k H.size (0 : Int32) (0 : Int32) tape_size tape_bytes u_13 u_7 u_3 u_14 (u_16, u_17, u_18, u_19) hc_20) ⟨hx, hb, hml, hown, ht⟩ (cwV 2 ht g_X5_53 rfl rfl rfl ⟨rfl, hd_X5_readLevel⟩ ⟨Nat.le_of_ble_eq_true rfl, Nat.le_of_ble_eq_true rfl⟩) (va_recv hK hP (ci := 5) (q0 := 2) rfl rfl) hP hD hS hK hA [0, 1, 2, 3] [] rfl rfl rfl rfl (by decide) rfl hl.1 (Nat.le_of_ble_eq_true rfl) dX5_readLine_28 ⟨Nat.zero_le _, Nat.zero_le _⟩ (fun u H locs hq hP hD hS => ?_)
    cases hq
    have hP : va_P D classes (wl_X5_readLine ad cs tape_size tape_bytes u_16 u_17 u_18 u_19) H := hP.sub [0, 1, 2, 3] rfl
    have hD : va_D A (wl_X5_readLine ad cs tape_size tape_bytes u_16 u_17 u_18 u_19) := hD.sub [0, 1, 2, 3] rfl rfl
    refine lv_aload_n hx hb dX5_readLine_31 rfl (lv_at hl 1 rfl) ?_
    refine lv_iconst (v := (2 : Int32)) hx hb dX5_readLine_32 (by decide) ?_
    obtain ⟨u_21, u_22, hc_23, h⟩ := zk_o2 h
    refine zz_vv (post := (fun u => u = (u_21, u_22))) (w1 := fun u => (wl_X5_emit ad cs u.1 u_17 u_18 u.2)) (As := [.int (2 : Int32)]) (rest := []) (c_X5_emit l D cs ad  H.size (2 : Int32) u_16 u_17 u_18 u_19 (u_21, u_22) hc_23) ⟨hx, hb, hml, hown, ht⟩ (cwV 1 ht g_X5_57 rfl rfl rfl ⟨rfl, hd_X5_emit⟩ ⟨Nat.le_of_ble_eq_true rfl, Nat.le_of_ble_eq_true rfl⟩) (va_recv hK hP (ci := 5) (q0 := 2) rfl rfl) hP hD hS hK hA [2, 3] rfl rfl [(ad 26), (ad 27)] rfl (fun _ => rfl) rfl hl.1 (Nat.le_of_ble_eq_true rfl) dX5_readLine_33 ⟨Nat.zero_le _, Nat.zero_le _⟩ (fun u H locs hq hP hS => ?_)
    cases hq
    have hP : va_P D classes (wl_X5_readLine ad cs tape_size tape_bytes u_21 u_17 u_18 u_22) H := hP
    have hD : va_D A (wl_X5_readLine ad cs tape_size tape_bytes u_21 u_17 u_18 u_22) := zDk hD [(ad 23), (ad 24), (ad 26), (ad 27)] rfl rfl
    refine lv_iload_n hx hb dX5_readLine_36 rfl (lv_at hl 0 rfl) ?_
    refine lv_aload_n hx hb dX5_readLine_37 rfl (lv_at hl 1 rfl) ?_
    refine va_get (D := D) (ci := 5) (v := .ref (ad 27)) (C := RX5) (T := TX5) (N := 5) hx hb ht iX5 hown hK hP 2 rfl rfl 1 (by decide) (ht _ kw_275) (fun _ h9 => h9) rfl dX5_readLine_38 ?_
    refine va_alen (v := (121 : Int32)) hx hb hK hP 3 0 rfl rfl rfl dX5_readLine_41 ?_
    refine lv_icmp_ge (tgt := 59) hx hb dX5_readLine_42 (by decide) (fun c_24 => ?_) (fun c_24 => ?_)
    · have h := zk_t c_24 h
      exact L_X5_readLine_59 C0 hK hO hE hA   u_21 u_17 u_18 u_22 h H locs ls hP hD hS (lv_sub hl [] rfl)
    · have h := zk_f c_24 h
      refine lv_aload_n hx hb dX5_readLine_45 rfl (lv_at hl 1 rfl) ?_
      refine va_get (D := D) (ci := 5) (v := .ref (ad 27)) (C := RX5) (T := TX5) (N := 5) hx hb ht iX5 hown hK hP 2 rfl rfl 1 (by decide) (ht _ kw_275) (fun _ h9 => h9) rfl dX5_readLine_46 ?_
      refine lv_iload_n hx hb dX5_readLine_49 rfl (lv_at hl 0 rfl) ?_
      refine lv_aload_n hx hb dX5_readLine_50 rfl (lv_at hl 1 rfl) ?_
      refine va_get (D := D) (ci := 5) (v := .int u_21) (C := RX5) (T := TX5) (N := 5) hx hb ht iX5 hown hK hP 2 rfl rfl 2 (by decide) (ht _ kw_276) (fun _ h9 => h9) rfl dX5_readLine_51 ?_
      refine lv_iconst (v := (5 : Int32)) hx hb dX5_readLine_54 (by decide) ?_
      refine lv_ishl hx hb dX5_readLine_55 ?_
      refine lv_iconst (v := (3 : Int32)) hx hb dX5_readLine_56 (by decide) ?_
      refine lv_ior hx hb dX5_readLine_57 ?_
      obtain ⟨v_25, ev_25, h⟩ := zk_lt h
      refine W.eq (g2 := F0 m 58 ls [.int v_25, .int u_1, .ref (ad 27)]) (by rw [ev_25]) ?_
      obtain ⟨g_26, h⟩ := zk_gd h
      obtain ⟨f_27, ef_27, h⟩ := zk_lt h
      refine va_iast hx hb hK hP hD hS 3 0 rfl rfl g_26 dX5_readLine_58 (fun H locs hP hD hS => ?_)
      have hP : va_P D classes (wl_X5_readLine ad cs tape_size tape_bytes u_21 u_17 u_18 f_27) H := by rw [ef_27]; exact hP
      have hD : va_D A (wl_X5_readLine ad cs tape_size tape_bytes u_21 u_17 u_18 f_27) := by rw [ef_27]; exact hD
      exact L_X5_readLine_59 C0 hK hO hE hA   u_21 u_17 u_18 f_27 h H locs ls hP hD hS (lv_sub hl [] rfl)
set_option maxHeartbeats 4000000 in
set_option maxRecDepth 100000 in
theorem c_X5_readLine (l : Launch) (D : va_G) (cs : Nat → ClassId) (ad : Nat → Nat) (k : (Nat → Nat) × (Nat → Nat)) (sz : Nat)  (tape_size : Int32) (tape_bytes : Nat → Int32) (lr_size : Int32) (lr_at : Int32) (lr_fault : Int32) (lr_code : Nat → Int32) (R : Int32 × Int32 × Int32 × (Nat → Int32)) (h : f_X5_readLine    tape_size tape_bytes lr_size lr_at lr_fault lr_code = some R) : Met l yX5_readLine (z_X5_readLine) rm_X5_readLine (va_Pc [.ref (ad 26)] (zPreE k D cs (wl_X5_readLine ad cs tape_size tape_bytes lr_size lr_at lr_fault lr_code) sz)) (Q_X5_readLine D cs ad tape_size tape_bytes (va_A (wl_X5_readLine ad cs tape_size tape_bytes lr_size lr_at lr_fault lr_code) sz) R) 0 0 (va_A (wl_X5_readLine ad cs tape_size tape_bytes lr_size lr_at lr_fault lr_code) sz) := by
  refine Met.ofW (cc := cX5_readLine) (maxL := 2) (ret := none) (by decide) rfl ?_
  intro p e s m args below meth c s₁ B hml hv
  obtain ⟨rfl, ⟨⟨hsz, hP, hK, hD0⟩, hO⟩, hE⟩ := hv
  subst hsz
  have hD := hD0.self (sz := s.heap.size)
  have C0 : zC p s m _ meth c cX5_readLine 2 none RX5 zW := ⟨B.exec, B.bytes, B.returns, hml, findClass_of_methodNamed B.named, fun w hw => atoms_spec (ws := z_X5_readLine) B.pre w (List.mem_cons_of_mem _ hw), B.notSynchronized⟩
  have hA : ∀ q : Nat, s.heap.size ≤ q → va_A (wl_X5_readLine ad cs tape_size tape_bytes lr_size lr_at lr_fault lr_code) s.heap.size q := fun q h => Or.inr h
  have hl := lv_entry ([.ref (ad 26)]) (n := 2) (Nat.le_of_ble_eq_true rfl)
  rw [lg_entry_eq]
  generalize (lg_sl ([.ref (ad 26)]) ++ List.replicate (2 - (lg_sl ([.ref (ad 26)])).length) Slot.unset).toArray = ls at hl ⊢
  exact L_X5_readLine_0 C0 hK hO hE hA    lr_size lr_at lr_fault lr_code h s.heap [] ls hP hD va_S.rf hl
