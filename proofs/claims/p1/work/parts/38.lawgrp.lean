theorem kw_0 : Cond.selects RX5 yX5_readLevel yX5_readLevel ∈ zW := zwI (i := 0) (by decide +kernel) (by decide +kernel)
theorem kw_1 : Cond.selects RX5 yX5_readOperand yX5_readOperand ∈ zW := zwI (i := 1) (by decide +kernel) (by decide +kernel)
theorem kw_545 : Cond.methodLink RX5 53 yX5_readLevel ∈ zW := zwI (i := 545) (by decide +kernel) (by decide +kernel)
theorem kw_547 : Cond.instanceMethod yX5_readLevel ∈ zW := zwI (i := 547) (by decide +kernel) (by decide +kernel)
theorem kw_548 : Cond.code yX5_readLevel cX5_readLevel 5 none ∈ zW := zwI (i := 548) (by decide +kernel) (by decide +kernel)
theorem kw_549 : Cond.methodLink RX5 61 yX5_readOperand ∈ zW := zwI (i := 549) (by decide +kernel) (by decide +kernel)
theorem kw_551 : Cond.instanceMethod yX5_readOperand ∈ zW := zwI (i := 551) (by decide +kernel) (by decide +kernel)
theorem kw_552 : Cond.code yX5_readOperand cX5_readOperand 3 none ∈ zW := zwI (i := 552) (by decide +kernel) (by decide +kernel)
theorem kw_562 : Cond.methodLink RX5 74 yX5_readNumber ∈ zW := zwI (i := 562) (by decide +kernel) (by decide +kernel)
theorem kw_563 : Cond.instanceMethod yX5_readNumber ∈ zW := zwI (i := 563) (by decide +kernel) (by decide +kernel)
theorem kw_564 : Cond.selects RX5 yX5_readNumber yX5_readNumber ∈ zW := zwI (i := 564) (by decide +kernel) (by decide +kernel)
theorem kw_565 : Cond.code yX5_readNumber cX5_readNumber 3 none ∈ zW := zwI (i := 565) (by decide +kernel) (by decide +kernel)
theorem kw_570 : Cond.methodLink RX5 77 yX5_mayOpen ∈ zW := zwI (i := 570) (by decide +kernel) (by decide +kernel)
theorem kw_571 : Cond.instanceMethod yX5_mayOpen ∈ zW := zwI (i := 571) (by decide +kernel) (by decide +kernel)
theorem kw_572 : Cond.selects RX5 yX5_mayOpen yX5_mayOpen ∈ zW := zwI (i := 572) (by decide +kernel) (by decide +kernel)
theorem kw_573 : Cond.code yX5_mayOpen cX5_mayOpen 2 (some .boolean) ∈ zW := zwI (i := 573) (by decide +kernel) (by decide +kernel)
theorem kw_578 : Cond.methodLink RX5 32 yX5_accept ∈ zW := zwI (i := 578) (by decide +kernel) (by decide +kernel)
theorem kw_579 : Cond.instanceMethod yX5_accept ∈ zW := zwI (i := 579) (by decide +kernel) (by decide +kernel)
theorem kw_580 : Cond.selects RX5 yX5_accept yX5_accept ∈ zW := zwI (i := 580) (by decide +kernel) (by decide +kernel)
theorem kw_581 : Cond.code yX5_accept cX5_accept 2 (some .boolean) ∈ zW := zwI (i := 581) (by decide +kernel) (by decide +kernel)
theorem kw_582 : Cond.methodLink RX5 80 yX5_readName ∈ zW := zwI (i := 582) (by decide +kernel) (by decide +kernel)
theorem kw_583 : Cond.instanceMethod yX5_readName ∈ zW := zwI (i := 583) (by decide +kernel) (by decide +kernel)
theorem kw_584 : Cond.selects RX5 yX5_readName yX5_readName ∈ zW := zwI (i := 584) (by decide +kernel) (by decide +kernel)
theorem kw_585 : Cond.code yX5_readName cX5_readName 3 none ∈ zW := zwI (i := 585) (by decide +kernel) (by decide +kernel)
theorem kw_646 : Cond.methodLink RX5 64 yX5_operatorAt ∈ zW := zwI (i := 646) (by decide +kernel) (by decide +kernel)
theorem kw_647 : Cond.instanceMethod yX5_operatorAt ∈ zW := zwI (i := 647) (by decide +kernel) (by decide +kernel)
theorem kw_648 : Cond.selects RX5 yX5_operatorAt yX5_operatorAt ∈ zW := zwI (i := 648) (by decide +kernel) (by decide +kernel)
theorem kw_649 : Cond.code yX5_operatorAt cX5_operatorAt 3 (some .int) ∈ zW := zwI (i := 649) (by decide +kernel) (by decide +kernel)
theorem dX5_readLevel_0 : decode cX5_readLevel 0 = .ok (.iload_n 1, 1) := by decide +kernel
theorem dX5_readLevel_1 : decode cX5_readLevel 1 = .ok (.iconst 4, 1) := by decide +kernel
theorem dX5_readLevel_2 : decode cX5_readLevel 2 = .ok (.if_icmp .le 9, 3) := by decide +kernel
theorem dX5_readLevel_5 : decode cX5_readLevel 5 = .ok (.aload_n 0, 1) := by decide +kernel
theorem dX5_readLevel_6 : decode cX5_readLevel 6 = .ok (.iload_n 2, 1) := by decide +kernel
theorem dX5_readLevel_7 : decode cX5_readLevel 7 = .ok (.invokevirtual 61, 3) := by decide +kernel
theorem dX5_readLevel_10 : decode cX5_readLevel 10 = .ok (.return_, 1) := by decide +kernel
theorem dX5_readLevel_11 : decode cX5_readLevel 11 = .ok (.aload_n 0, 1) := by decide +kernel
theorem dX5_readLevel_12 : decode cX5_readLevel 12 = .ok (.iload_n 1, 1) := by decide +kernel
theorem dX5_readLevel_13 : decode cX5_readLevel 13 = .ok (.iconst 1, 1) := by decide +kernel
theorem dX5_readLevel_14 : decode cX5_readLevel 14 = .ok (.iadd, 1) := by decide +kernel
theorem dX5_readLevel_15 : decode cX5_readLevel 15 = .ok (.iload_n 2, 1) := by decide +kernel
theorem dX5_readLevel_16 : decode cX5_readLevel 16 = .ok (.invokevirtual 53, 3) := by decide +kernel
theorem dX5_readLevel_19 : decode cX5_readLevel 19 = .ok (.iconst 0, 1) := by decide +kernel
theorem dX5_readLevel_20 : decode cX5_readLevel 20 = .ok (.istore_n 3, 1) := by decide +kernel
theorem dX5_readLevel_21 : decode cX5_readLevel 21 = .ok (.iload_n 3, 1) := by decide +kernel
theorem dX5_readLevel_22 : decode cX5_readLevel 22 = .ok (.bipush 120, 2) := by decide +kernel
theorem dX5_readLevel_24 : decode cX5_readLevel 24 = .ok (.if_icmp .ge 59, 3) := by decide +kernel
theorem dX5_readLevel_27 : decode cX5_readLevel 27 = .ok (.aload_n 0, 1) := by decide +kernel
theorem dX5_readLevel_28 : decode cX5_readLevel 28 = .ok (.getfield 26, 3) := by decide +kernel
theorem dX5_readLevel_31 : decode cX5_readLevel 31 = .ok (.ifCond .ge 52, 3) := by decide +kernel
theorem dX5_readLevel_34 : decode cX5_readLevel 34 = .ok (.aload_n 0, 1) := by decide +kernel
theorem dX5_readLevel_35 : decode cX5_readLevel 35 = .ok (.iload_n 1, 1) := by decide +kernel
theorem dX5_readLevel_36 : decode cX5_readLevel 36 = .ok (.invokevirtual 64, 3) := by decide +kernel
theorem dX5_readLevel_39 : decode cX5_readLevel 39 = .ok (.istore 4, 2) := by decide +kernel
theorem dX5_readLevel_41 : decode cX5_readLevel 41 = .ok (.iload 4, 2) := by decide +kernel
theorem dX5_readLevel_43 : decode cX5_readLevel 43 = .ok (.ifCond .ge 4, 3) := by decide +kernel
theorem dX5_readLevel_46 : decode cX5_readLevel 46 = .ok (.return_, 1) := by decide +kernel
theorem dX5_readLevel_47 : decode cX5_readLevel 47 = .ok (.aload_n 0, 1) := by decide +kernel
theorem dX5_readLevel_48 : decode cX5_readLevel 48 = .ok (.dup, 1) := by decide +kernel
theorem dX5_readLevel_49 : decode cX5_readLevel 49 = .ok (.getfield 19, 3) := by decide +kernel
theorem dX5_readLevel_52 : decode cX5_readLevel 52 = .ok (.iconst 1, 1) := by decide +kernel
theorem dX5_readLevel_53 : decode cX5_readLevel 53 = .ok (.iadd, 1) := by decide +kernel
theorem dX5_readLevel_54 : decode cX5_readLevel 54 = .ok (.putfield 19, 3) := by decide +kernel
theorem dX5_readLevel_57 : decode cX5_readLevel 57 = .ok (.aload_n 0, 1) := by decide +kernel
theorem dX5_readLevel_58 : decode cX5_readLevel 58 = .ok (.iload_n 1, 1) := by decide +kernel
theorem dX5_readLevel_59 : decode cX5_readLevel 59 = .ok (.iconst 1, 1) := by decide +kernel
theorem dX5_readLevel_60 : decode cX5_readLevel 60 = .ok (.iadd, 1) := by decide +kernel
theorem dX5_readLevel_61 : decode cX5_readLevel 61 = .ok (.iload_n 2, 1) := by decide +kernel
theorem dX5_readLevel_62 : decode cX5_readLevel 62 = .ok (.invokevirtual 53, 3) := by decide +kernel
theorem dX5_readLevel_65 : decode cX5_readLevel 65 = .ok (.aload_n 0, 1) := by decide +kernel
theorem dX5_readLevel_66 : decode cX5_readLevel 66 = .ok (.iload 4, 2) := by decide +kernel
theorem dX5_readLevel_68 : decode cX5_readLevel 68 = .ok (.invokevirtual 57, 3) := by decide +kernel
theorem dX5_readLevel_71 : decode cX5_readLevel 71 = .ok (.iload_n 1, 1) := by decide +kernel
theorem dX5_readLevel_72 : decode cX5_readLevel 72 = .ok (.iconst 2, 1) := by decide +kernel
theorem dX5_readLevel_73 : decode cX5_readLevel 73 = .ok (.if_icmp .ne 4, 3) := by decide +kernel
theorem dX5_readLevel_76 : decode cX5_readLevel 76 = .ok (.return_, 1) := by decide +kernel
theorem dX5_readLevel_77 : decode cX5_readLevel 77 = .ok (.iinc 3 1, 3) := by decide +kernel
theorem dX5_readLevel_80 : decode cX5_readLevel 80 = .ok (.goto (-59), 3) := by decide +kernel
theorem dX5_readLevel_83 : decode cX5_readLevel 83 = .ok (.return_, 1) := by decide +kernel
theorem dX5_readOperand_0 : decode cX5_readOperand 0 = .ok (.aload_n 0, 1) := by decide +kernel
theorem dX5_readOperand_1 : decode cX5_readOperand 1 = .ok (.getfield 15, 3) := by decide +kernel
theorem dX5_readOperand_4 : decode cX5_readOperand 4 = .ok (.aload_n 0, 1) := by decide +kernel
theorem dX5_readOperand_5 : decode cX5_readOperand 5 = .ok (.getfield 19, 3) := by decide +kernel
theorem dX5_readOperand_8 : decode cX5_readOperand 8 = .ok (.invokevirtual 68, 3) := by decide +kernel
theorem dX5_readOperand_11 : decode cX5_readOperand 11 = .ok (.istore_n 2, 1) := by decide +kernel
theorem dX5_readOperand_12 : decode cX5_readOperand 12 = .ok (.aload_n 0, 1) := by decide +kernel
theorem dX5_readOperand_13 : decode cX5_readOperand 13 = .ok (.getfield 26, 3) := by decide +kernel
theorem dX5_readOperand_16 : decode cX5_readOperand 16 = .ok (.ifCond .lt 4, 3) := by decide +kernel
theorem dX5_readOperand_19 : decode cX5_readOperand 19 = .ok (.return_, 1) := by decide +kernel
theorem dX5_readOperand_20 : decode cX5_readOperand 20 = .ok (.aload_n 0, 1) := by decide +kernel
theorem dX5_readOperand_21 : decode cX5_readOperand 21 = .ok (.getfield 15, 3) := by decide +kernel
theorem dX5_readOperand_24 : decode cX5_readOperand 24 = .ok (.aload_n 0, 1) := by decide +kernel
theorem dX5_readOperand_25 : decode cX5_readOperand 25 = .ok (.getfield 19, 3) := by decide +kernel
theorem dX5_readOperand_28 : decode cX5_readOperand 28 = .ok (.invokevirtual 71, 3) := by decide +kernel
theorem dX5_readOperand_31 : decode cX5_readOperand 31 = .ok (.ifCond .eq 10, 3) := by decide +kernel
theorem dX5_readOperand_34 : decode cX5_readOperand 34 = .ok (.aload_n 0, 1) := by decide +kernel
theorem dX5_readOperand_35 : decode cX5_readOperand 35 = .ok (.invokevirtual 74, 3) := by decide +kernel
theorem dX5_readOperand_38 : decode cX5_readOperand 38 = .ok (.goto 91, 3) := by decide +kernel
theorem dX5_readOperand_41 : decode cX5_readOperand 41 = .ok (.iload_n 2, 1) := by decide +kernel
theorem dX5_readOperand_42 : decode cX5_readOperand 42 = .ok (.bipush 33, 2) := by decide +kernel
theorem dX5_readOperand_44 : decode cX5_readOperand 44 = .ok (.if_icmp .eq 9, 3) := by decide +kernel
theorem dX5_readOperand_47 : decode cX5_readOperand 47 = .ok (.iload_n 2, 1) := by decide +kernel
theorem dX5_readOperand_48 : decode cX5_readOperand 48 = .ok (.bipush 45, 2) := by decide +kernel
theorem dX5_readOperand_50 : decode cX5_readOperand 50 = .ok (.if_icmp .ne 36, 3) := by decide +kernel
theorem dX5_readOperand_53 : decode cX5_readOperand 53 = .ok (.aload_n 0, 1) := by decide +kernel
theorem dX5_readOperand_54 : decode cX5_readOperand 54 = .ok (.iload_n 1, 1) := by decide +kernel
theorem dX5_readOperand_55 : decode cX5_readOperand 55 = .ok (.invokevirtual 77, 3) := by decide +kernel
theorem dX5_readOperand_58 : decode cX5_readOperand 58 = .ok (.ifCond .eq 71, 3) := by decide +kernel
theorem dX5_readOperand_61 : decode cX5_readOperand 61 = .ok (.aload_n 0, 1) := by decide +kernel
theorem dX5_readOperand_62 : decode cX5_readOperand 62 = .ok (.iload_n 1, 1) := by decide +kernel
theorem dX5_readOperand_63 : decode cX5_readOperand 63 = .ok (.iconst 1, 1) := by decide +kernel
theorem dX5_readOperand_64 : decode cX5_readOperand 64 = .ok (.iadd, 1) := by decide +kernel
theorem dX5_readOperand_65 : decode cX5_readOperand 65 = .ok (.invokevirtual 61, 3) := by decide +kernel
theorem dX5_readOperand_68 : decode cX5_readOperand 68 = .ok (.aload_n 0, 1) := by decide +kernel
theorem dX5_readOperand_69 : decode cX5_readOperand 69 = .ok (.iload_n 2, 1) := by decide +kernel
theorem dX5_readOperand_70 : decode cX5_readOperand 70 = .ok (.bipush 33, 2) := by decide +kernel
theorem dX5_readOperand_72 : decode cX5_readOperand 72 = .ok (.if_icmp .ne 7, 3) := by decide +kernel
theorem dX5_readOperand_75 : decode cX5_readOperand 75 = .ok (.iconst 4, 1) := by decide +kernel
theorem dX5_readOperand_76 : decode cX5_readOperand 76 = .ok (.goto 4, 3) := by decide +kernel
theorem dX5_readOperand_79 : decode cX5_readOperand 79 = .ok (.iconst 5, 1) := by decide +kernel
theorem dX5_readOperand_80 : decode cX5_readOperand 80 = .ok (.invokevirtual 57, 3) := by decide +kernel
theorem dX5_readOperand_83 : decode cX5_readOperand 83 = .ok (.goto 46, 3) := by decide +kernel
theorem dX5_readOperand_86 : decode cX5_readOperand 86 = .ok (.iload_n 2, 1) := by decide +kernel
theorem dX5_readOperand_87 : decode cX5_readOperand 87 = .ok (.bipush 40, 2) := by decide +kernel
theorem dX5_readOperand_89 : decode cX5_readOperand 89 = .ok (.if_icmp .ne 35, 3) := by decide +kernel
theorem dX5_readOperand_92 : decode cX5_readOperand 92 = .ok (.aload_n 0, 1) := by decide +kernel
theorem dX5_readOperand_93 : decode cX5_readOperand 93 = .ok (.iload_n 1, 1) := by decide +kernel
theorem dX5_readOperand_94 : decode cX5_readOperand 94 = .ok (.invokevirtual 77, 3) := by decide +kernel
theorem dX5_readOperand_97 : decode cX5_readOperand 97 = .ok (.ifCond .eq 32, 3) := by decide +kernel
theorem dX5_readOperand_100 : decode cX5_readOperand 100 = .ok (.aload_n 0, 1) := by decide +kernel
theorem dX5_readOperand_101 : decode cX5_readOperand 101 = .ok (.iconst 0, 1) := by decide +kernel
theorem dX5_readOperand_102 : decode cX5_readOperand 102 = .ok (.iload_n 1, 1) := by decide +kernel
theorem dX5_readOperand_103 : decode cX5_readOperand 103 = .ok (.iconst 1, 1) := by decide +kernel
theorem dX5_readOperand_104 : decode cX5_readOperand 104 = .ok (.iadd, 1) := by decide +kernel
theorem dX5_readOperand_105 : decode cX5_readOperand 105 = .ok (.invokevirtual 53, 3) := by decide +kernel
theorem dX5_readOperand_108 : decode cX5_readOperand 108 = .ok (.aload_n 0, 1) := by decide +kernel
theorem dX5_readOperand_109 : decode cX5_readOperand 109 = .ok (.bipush 41, 2) := by decide +kernel
theorem dX5_readOperand_111 : decode cX5_readOperand 111 = .ok (.invokevirtual 32, 3) := by decide +kernel
theorem dX5_readOperand_114 : decode cX5_readOperand 114 = .ok (.ifCond .ne 15, 3) := by decide +kernel
theorem dX5_readOperand_117 : decode cX5_readOperand 117 = .ok (.aload_n 0, 1) := by decide +kernel
theorem dX5_readOperand_118 : decode cX5_readOperand 118 = .ok (.invokevirtual 39, 3) := by decide +kernel
theorem dX5_readOperand_121 : decode cX5_readOperand 121 = .ok (.goto 8, 3) := by decide +kernel
theorem dX5_readOperand_124 : decode cX5_readOperand 124 = .ok (.aload_n 0, 1) := by decide +kernel
theorem dX5_readOperand_125 : decode cX5_readOperand 125 = .ok (.iload_n 2, 1) := by decide +kernel
theorem dX5_readOperand_126 : decode cX5_readOperand 126 = .ok (.invokevirtual 80, 3) := by decide +kernel
theorem dX5_readOperand_129 : decode cX5_readOperand 129 = .ok (.return_, 1) := by decide +kernel
abbrev z_X5_readLevel : List Cond := .code yX5_readLevel cX5_readLevel 5 none :: zW
abbrev wl_X5_readLevel (ad : Nat → Nat) (cs : Nat → ClassId)  (tape_size : Int32) (tape_bytes : Nat → Int32) (lr_size : Int32) (lr_at : Int32) (lr_fault : Int32) (lr_code : Nat → Int32) : va_W := [((ad 23), .inr (9, [.ref (ad 24), .int tape_size])), ((ad 24), .inl (cs 0, 120, .inl tape_bytes)), ((ad 26), .inr (5, [.ref (ad 23), .ref (ad 27), .int lr_size, .int lr_at, .int lr_fault])), ((ad 27), .inl (cs 0, 121, .inl lr_code))]
def Q_X5_readLevel (D : va_G) (cs : Nat → ClassId) (ad : Nat → Nat)  (tape_size : Int32) (tape_bytes : Nat → Int32) (A : Nat → Prop) (R : Int32 × Int32 × Int32 × (Nat → Int32)) : Array Value → State → Outcome → State → Prop :=
  va_Qv (fun u : Int32 × Int32 × Int32 × (Nat → Int32) => u = R) (fun (u : Int32 × Int32 × Int32 × (Nat → Int32)) (t : State) => va_P D classes (wl_X5_readLevel ad cs tape_size tape_bytes u.1 u.2.1 u.2.2.1 u.2.2.2) t.heap ∧ va_D A (wl_X5_readLevel ad cs tape_size tape_bytes u.1 u.2.1 u.2.2.1 u.2.2.2)) A
abbrev z_X5_readOperand : List Cond := .code yX5_readOperand cX5_readOperand 3 none :: zW
abbrev wl_X5_readOperand (ad : Nat → Nat) (cs : Nat → ClassId)  (tape_size : Int32) (tape_bytes : Nat → Int32) (lr_size : Int32) (lr_at : Int32) (lr_fault : Int32) (lr_code : Nat → Int32) : va_W := [((ad 23), .inr (9, [.ref (ad 24), .int tape_size])), ((ad 24), .inl (cs 0, 120, .inl tape_bytes)), ((ad 26), .inr (5, [.ref (ad 23), .ref (ad 27), .int lr_size, .int lr_at, .int lr_fault])), ((ad 27), .inl (cs 0, 121, .inl lr_code))]
def Q_X5_readOperand (D : va_G) (cs : Nat → ClassId) (ad : Nat → Nat)  (tape_size : Int32) (tape_bytes : Nat → Int32) (A : Nat → Prop) (R : Int32 × Int32 × Int32 × (Nat → Int32)) : Array Value → State → Outcome → State → Prop :=
  va_Qv (fun u : Int32 × Int32 × Int32 × (Nat → Int32) => u = R) (fun (u : Int32 × Int32 × Int32 × (Nat → Int32)) (t : State) => va_P D classes (wl_X5_readOperand ad cs tape_size tape_bytes u.1 u.2.1 u.2.2.1 u.2.2.2) t.heap ∧ va_D A (wl_X5_readOperand ad cs tape_size tape_bytes u.1 u.2.1 u.2.2.1 u.2.2.2)) A
theorem g_X5_32 : GoodIn zW (wsV RX5 32 RX5 yX5_accept z_X5_accept) := zGV kw_578 kw_579 kw_580 kw_80 kw_581
theorem g_X5_53 : GoodIn zW (wsV RX5 53 RX5 yX5_readLevel z_X5_readLevel) := zGV kw_545 kw_547 kw_0 kw_80 kw_548
theorem g_X5_61 : GoodIn zW (wsV RX5 61 RX5 yX5_readOperand z_X5_readOperand) := zGV kw_549 kw_551 kw_1 kw_80 kw_552
theorem g_X5_64 : GoodIn zW (wsV RX5 64 RX5 yX5_operatorAt z_X5_operatorAt) := zGV kw_646 kw_647 kw_648 kw_80 kw_649
theorem g_X5_74 : GoodIn zW (wsV RX5 74 RX5 yX5_readNumber z_X5_readNumber) := zGV kw_562 kw_563 kw_564 kw_80 kw_565
theorem g_X5_77 : GoodIn zW (wsV RX5 77 RX5 yX5_mayOpen z_X5_mayOpen) := zGV kw_570 kw_571 kw_572 kw_80 kw_573
theorem g_X5_80 : GoodIn zW (wsV RX5 80 RX5 yX5_readName z_X5_readName) := zGV kw_582 kw_583 kw_584 kw_80 kw_585
def B_X5_readLevel_21  (r_X5_readLevel : Int32 → Int32 → Int32 → (Nat → Int32) → Int32 → Int32 → Int32 → (Nat → Int32) → (Option (Int32 × Int32 × Int32 × (Nat → Int32)))) (r_X5_readOperand : Int32 → Int32 → (Nat → Int32) → Int32 → Int32 → Int32 → (Nat → Int32) → (Option (Int32 × Int32 × Int32 × (Nat → Int32)))) (g21 : Int32 → Int32 → Int32 → Int32 → Int32 → Int32 → (Nat → Int32) → (Option (Int32 × Int32 × Int32 × (Nat → Int32)))) (tape_size : Int32) (tape_bytes : Nat → Int32) (x1 : Int32) (x2 : Int32) (x3 : Int32) (lr_size : Int32) (lr_at : Int32) (lr_fault : Int32) (lr_code : Nat → Int32) : Option (Int32 × Int32 × Int32 × (Nat → Int32)) :=
  (if (120 : Int32) ≤ x3 then (some (lr_size, lr_at, lr_fault, lr_code)) else (if 0 ≤ lr_fault then (some (lr_size, lr_at, lr_fault, lr_code)) else (zk_b2 (f_X5_operatorAt x1 tape_size tape_bytes lr_size lr_at lr_fault) (fun r_14 u_15 => (if 0 ≤ r_14 then (zk_let (lr_at + (1 : Int32)) (fun v_18 => (zk_b4 (r_X5_readLevel (x1 + (1 : Int32)) x2 tape_size tape_bytes lr_size v_18 lr_fault lr_code) (fun u_19 u_20 u_21 u_22 => (zk_b2 (f_X5_emit r_14 u_19 u_20 u_21 u_22) (fun u_24 u_25 => (if x1 = (2 : Int32) then (some (u_24, u_20, u_21, u_25)) else (zk_let (x3 + (1 : Int32)) (fun v_28 => (g21 x1 x2 v_28 u_24 u_20 u_21 u_25)))))))))) else (some (lr_size, lr_at, lr_fault, lr_code)))))))
def B_X5_readLevel_0  (r_X5_readLevel : Int32 → Int32 → Int32 → (Nat → Int32) → Int32 → Int32 → Int32 → (Nat → Int32) → (Option (Int32 × Int32 × Int32 × (Nat → Int32)))) (r_X5_readOperand : Int32 → Int32 → (Nat → Int32) → Int32 → Int32 → Int32 → (Nat → Int32) → (Option (Int32 × Int32 × Int32 × (Nat → Int32)))) (g21 : Int32 → Int32 → Int32 → Int32 → Int32 → Int32 → (Nat → Int32) → (Option (Int32 × Int32 × Int32 × (Nat → Int32)))) (tape_size : Int32) (tape_bytes : Nat → Int32) (x1 : Int32) (x2 : Int32) (lr_size : Int32) (lr_at : Int32) (lr_fault : Int32) (lr_code : Nat → Int32) : Option (Int32 × Int32 × Int32 × (Nat → Int32)) :=
  (if x1 ≤ (4 : Int32) then (zk_b4 (r_X5_readLevel (x1 + (1 : Int32)) x2 tape_size tape_bytes lr_size lr_at lr_fault lr_code) (fun u_2 u_3 u_4 u_5 => (g21 x1 x2 (0 : Int32) u_2 u_3 u_4 u_5))) else (zk_b4 (r_X5_readOperand x2 tape_size tape_bytes lr_size lr_at lr_fault lr_code) (fun u_7 u_8 u_9 u_10 => (some (u_7, u_8, u_9, u_10)))))
def G_X5_readLevel  (r_X5_readLevel : Int32 → Int32 → Int32 → (Nat → Int32) → Int32 → Int32 → Int32 → (Nat → Int32) → (Option (Int32 × Int32 × Int32 × (Nat → Int32)))) (r_X5_readOperand : Int32 → Int32 → (Nat → Int32) → Int32 → Int32 → Int32 → (Nat → Int32) → (Option (Int32 × Int32 × Int32 × (Nat → Int32)))) (tape_size : Int32) (tape_bytes : Nat → Int32) (n : Nat) : (Int32 → Int32 → Int32 → Int32 → Int32 → Int32 → (Nat → Int32) → (Option (Int32 × Int32 × Int32 × (Nat → Int32)))) :=
  Nat.rec (motive := fun _ => (Int32 → Int32 → Int32 → Int32 → Int32 → Int32 → (Nat → Int32) → (Option (Int32 × Int32 × Int32 × (Nat → Int32))))) ((fun _ _ _ _ _ _ _ => none)) (fun _ ih => (B_X5_readLevel_21  r_X5_readLevel r_X5_readOperand ih tape_size tape_bytes)) n
def f_X5_readLevel  (r_X5_readLevel : Int32 → Int32 → Int32 → (Nat → Int32) → Int32 → Int32 → Int32 → (Nat → Int32) → (Option (Int32 × Int32 × Int32 × (Nat → Int32)))) (r_X5_readOperand : Int32 → Int32 → (Nat → Int32) → Int32 → Int32 → Int32 → (Nat → Int32) → (Option (Int32 × Int32 × Int32 × (Nat → Int32)))) (n : Nat) (x1 : Int32) (x2 : Int32) (tape_size : Int32) (tape_bytes : Nat → Int32) (lr_size : Int32) (lr_at : Int32) (lr_fault : Int32) (lr_code : Nat → Int32) : Option (Int32 × Int32 × Int32 × (Nat → Int32)) := B_X5_readLevel_0  r_X5_readLevel r_X5_readOperand ((G_X5_readLevel  r_X5_readLevel r_X5_readOperand tape_size tape_bytes n)) tape_size tape_bytes x1 x2 lr_size lr_at lr_fault lr_code
def B_X5_readOperand_80  (r_X5_readLevel : Int32 → Int32 → Int32 → (Nat → Int32) → Int32 → Int32 → Int32 → (Nat → Int32) → (Option (Int32 × Int32 × Int32 × (Nat → Int32)))) (r_X5_readOperand : Int32 → Int32 → (Nat → Int32) → Int32 → Int32 → Int32 → (Nat → Int32) → (Option (Int32 × Int32 × Int32 × (Nat → Int32))))  (tape_size : Int32) (tape_bytes : Nat → Int32) (s0 : Int32) (lr_size : Int32) (lr_at : Int32) (lr_fault : Int32) (lr_code : Nat → Int32) : Option (Int32 × Int32 × Int32 × (Nat → Int32)) :=
  (zk_b2 (f_X5_emit s0 lr_size lr_at lr_fault lr_code) (fun u_48 u_49 => (some (u_48, lr_at, lr_fault, u_49))))
def B_X5_readOperand_53  (r_X5_readLevel : Int32 → Int32 → Int32 → (Nat → Int32) → Int32 → Int32 → Int32 → (Nat → Int32) → (Option (Int32 × Int32 × Int32 × (Nat → Int32)))) (r_X5_readOperand : Int32 → Int32 → (Nat → Int32) → Int32 → Int32 → Int32 → (Nat → Int32) → (Option (Int32 × Int32 × Int32 × (Nat → Int32))))  (tape_size : Int32) (tape_bytes : Nat → Int32) (x1 : Int32) (x2 : Int32) (lr_size : Int32) (lr_at : Int32) (lr_fault : Int32) (lr_code : Nat → Int32) : Option (Int32 × Int32 × Int32 × (Nat → Int32)) :=
  (zk_b3 (f_X5_mayOpen x1 lr_size lr_at lr_fault) (fun r_37 u_38 u_39 => (if r_37 = 0 then (some (lr_size, u_38, u_39, lr_code)) else (zk_b4 (r_X5_readOperand (x1 + (1 : Int32)) tape_size tape_bytes lr_size u_38 u_39 lr_code) (fun u_42 u_43 u_44 u_45 => (if x2 = (33 : Int32) then (B_X5_readOperand_80 r_X5_readLevel r_X5_readOperand tape_size tape_bytes (4 : Int32) u_42 u_43 u_44 u_45) else (B_X5_readOperand_80 r_X5_readLevel r_X5_readOperand tape_size tape_bytes (5 : Int32) u_42 u_43 u_44 u_45)))))))
def B_X5_readOperand_0  (r_X5_readLevel : Int32 → Int32 → Int32 → (Nat → Int32) → Int32 → Int32 → Int32 → (Nat → Int32) → (Option (Int32 × Int32 × Int32 × (Nat → Int32)))) (r_X5_readOperand : Int32 → Int32 → (Nat → Int32) → Int32 → Int32 → Int32 → (Nat → Int32) → (Option (Int32 × Int32 × Int32 × (Nat → Int32))))  (tape_size : Int32) (tape_bytes : Nat → Int32) (x1 : Int32) (lr_size : Int32) (lr_at : Int32) (lr_fault : Int32) (lr_code : Nat → Int32) : Option (Int32 × Int32 × Int32 × (Nat → Int32)) :=
  (zk_b2 (f_X9_byteAt lr_at tape_size tape_bytes) (fun r_1 u_2 => (if lr_fault < 0 then (zk_b2 (f_X9_isDigitAt lr_at tape_size tape_bytes) (fun r_5 u_6 => (if r_5 = 0 then (if r_1 = (33 : Int32) then (B_X5_readOperand_53 r_X5_readLevel r_X5_readOperand tape_size tape_bytes x1 r_1 lr_size lr_at lr_fault lr_code) else (if r_1 = (45 : Int32) then (B_X5_readOperand_53 r_X5_readLevel r_X5_readOperand tape_size tape_bytes x1 r_1 lr_size lr_at lr_fault lr_code) else (if r_1 = (40 : Int32) then (zk_b3 (f_X5_mayOpen x1 lr_size lr_at lr_fault) (fun r_17 u_18 u_19 => (if r_17 = 0 then (some (lr_size, u_18, u_19, lr_code)) else (zk_b4 (r_X5_readLevel (0 : Int32) (x1 + (1 : Int32)) tape_size tape_bytes lr_size u_18 u_19 lr_code) (fun u_22 u_23 u_24 u_25 => (zk_b2 (f_X5_accept (41 : Int32) tape_size tape_bytes u_22 u_23 u_24) (fun r_27 u_28 => (if r_27 = 0 then (zk_b1 (f_X5_fail u_22 u_28 u_24) (fun u_31 => (some (u_22, u_28, u_31, u_25)))) else (some (u_22, u_28, u_24, u_25)))))))))) else (zk_b4 (f_X5_readName r_1 lr_size lr_at lr_fault lr_code) (fun u_12 u_13 u_14 u_15 => (some (u_12, u_13, u_14, u_15))))))) else (zk_b3 (f_X5_readNumber 4000 tape_size tape_bytes lr_size lr_at lr_fault lr_code) (fun u_33 u_34 u_35 => (some (u_33, u_34, lr_fault, u_35))))))) else (some (lr_size, lr_at, lr_fault, lr_code)))))
def f_X5_readOperand  (r_X5_readLevel : Int32 → Int32 → Int32 → (Nat → Int32) → Int32 → Int32 → Int32 → (Nat → Int32) → (Option (Int32 × Int32 × Int32 × (Nat → Int32)))) (r_X5_readOperand : Int32 → Int32 → (Nat → Int32) → Int32 → Int32 → Int32 → (Nat → Int32) → (Option (Int32 × Int32 × Int32 × (Nat → Int32)))) (x1 : Int32) (tape_size : Int32) (tape_bytes : Nat → Int32) (lr_size : Int32) (lr_at : Int32) (lr_fault : Int32) (lr_code : Nat → Int32) : Option (Int32 × Int32 × Int32 × (Nat → Int32)) := B_X5_readOperand_0  r_X5_readLevel r_X5_readOperand tape_size tape_bytes x1 lr_size lr_at lr_fault lr_code
def grp_lawgrp (n : Nat) : (Int32 → Int32 → Int32 → (Nat → Int32) → Int32 → Int32 → Int32 → (Nat → Int32) → (Option (Int32 × Int32 × Int32 × (Nat → Int32)))) × (Int32 → Int32 → (Nat → Int32) → Int32 → Int32 → Int32 → (Nat → Int32) → (Option (Int32 × Int32 × Int32 × (Nat → Int32)))) :=
  Nat.rec (motive := fun _ => (Int32 → Int32 → Int32 → (Nat → Int32) → Int32 → Int32 → Int32 → (Nat → Int32) → (Option (Int32 × Int32 × Int32 × (Nat → Int32)))) × (Int32 → Int32 → (Nat → Int32) → Int32 → Int32 → Int32 → (Nat → Int32) → (Option (Int32 × Int32 × Int32 × (Nat → Int32))))) ((fun _ _ _ _ _ _ _ _ => none), (fun _ _ _ _ _ _ _ => none)) (fun _ ih => (f_X5_readLevel (ih.1) (ih.2) 4000, f_X5_readOperand (ih.1) (ih.2))) n
set_option maxHeartbeats 4000000 in
set_option maxRecDepth 100000 in
theorem L_X5_readLevel_21 {p : Program} {l : Launch} {e : Env} {s : State} {m : MethodId} {args : Array Value} {below : List Frame} {meth : Method} {c : Code} {A : Nat → Prop} {D : va_G} {cs : Nat → ClassId} {ad : Nat → Nat} {tape_size : Int32} {tape_bytes : Nat → Int32} {R : Int32 × Int32 × Int32 × (Nat → Int32)} {g21 : Int32 → Int32 → Int32 → Int32 → Int32 → Int32 → (Nat → Int32) → (Option (Int32 × Int32 × Int32 × (Nat → Int32)))} (C0 : zC p s m args meth c cX5_readLevel 5 none RX5 zW) (hK : va_K D classes (zT cs) s) {k : (Nat → Nat) × (Nat → Nat)} (hO : zO s) (hE : zE k A s) (hA : ∀ q : Nat, s.heap.size ≤ q → A q) {fr lo : Nat} {r_X5_readLevel : Int32 → Int32 → Int32 → (Nat → Int32) → Int32 → Int32 → Int32 → (Nat → Int32) → (Option (Int32 × Int32 × Int32 × (Nat → Int32)))} {r_X5_readOperand : Int32 → Int32 → (Nat → Int32) → Int32 → Int32 → Int32 → (Nat → Int32) → (Option (Int32 × Int32 × Int32 × (Nat → Int32)))} (hr_X5_readLevel : ∀ (D : va_G) (cs : Nat → ClassId) (ad : Nat → Nat) (k : (Nat → Nat) × (Nat → Nat)) (sz : Nat) (x1 : Int32) (x2 : Int32) (tape_size : Int32) (tape_bytes : Nat → Int32) (lr_size : Int32) (lr_at : Int32) (lr_fault : Int32) (lr_code : Nat → Int32) (R : Int32 × Int32 × Int32 × (Nat → Int32)) (h : r_X5_readLevel x1 x2 tape_size tape_bytes lr_size lr_at lr_fault lr_code = some R), Met l yX5_readLevel z_X5_readLevel ({ frames := fr, cells := 0, slots := 0, locals := lo } : Room) (va_Pc [.ref (ad 26), .int x1, .int x2] (zPreE k D cs (wl_X5_readLevel ad cs tape_size tape_bytes lr_size lr_at lr_fault lr_code) sz)) (Q_X5_readLevel D cs ad tape_size tape_bytes (va_A (wl_X5_readLevel ad cs tape_size tape_bytes lr_size lr_at lr_fault lr_code) sz) R) 0 0 (va_A (wl_X5_readLevel ad cs tape_size tape_bytes lr_size lr_at lr_fault lr_code) sz)) (hr_X5_readOperand : ∀ (D : va_G) (cs : Nat → ClassId) (ad : Nat → Nat) (k : (Nat → Nat) × (Nat → Nat)) (sz : Nat) (x1 : Int32) (tape_size : Int32) (tape_bytes : Nat → Int32) (lr_size : Int32) (lr_at : Int32) (lr_fault : Int32) (lr_code : Nat → Int32) (R : Int32 × Int32 × Int32 × (Nat → Int32)) (h : r_X5_readOperand x1 tape_size tape_bytes lr_size lr_at lr_fault lr_code = some R), Met l yX5_readOperand z_X5_readOperand ({ frames := fr, cells := 0, slots := 0, locals := lo } : Room) (va_Pc [.ref (ad 26), .int x1] (zPreE k D cs (wl_X5_readOperand ad cs tape_size tape_bytes lr_size lr_at lr_fault lr_code) sz)) (Q_X5_readOperand D cs ad tape_size tape_bytes (va_A (wl_X5_readOperand ad cs tape_size tape_bytes lr_size lr_at lr_fault lr_code) sz) R) 0 0 (va_A (wl_X5_readOperand ad cs tape_size tape_bytes lr_size lr_at lr_fault lr_code) sz)) (ih21 : ∀ (x1 : Int32) (x2 : Int32) (x3 : Int32) (lr_size : Int32) (lr_at : Int32) (lr_fault : Int32) (lr_code : Nat → Int32) (h : g21 x1 x2 x3 lr_size lr_at lr_fault lr_code = some R) (H : Heap) (locs : List Loc) (ls : Array Slot) (hP : va_P D classes (wl_X5_readLevel ad cs tape_size tape_bytes lr_size lr_at lr_fault lr_code) H) (hD : va_D A (wl_X5_readLevel ad cs tape_size tape_bytes lr_size lr_at lr_fault lr_code)) (hS : va_S A s.heap H locs) (hl : lv_has ls 5 [(0, .ref (ad 26)), (1, .int x1), (2, .int x2), (3, .int x3)]), W p l e ({ frames := fr + 5, cells := 0, slots := 0, locals := lo + 113 } : Room) s m args below meth c H locs 0 0 (MQ below (Q_X5_readLevel D cs ad tape_size tape_bytes A R) args s 0 0 A) (F0 m 21 ls [])) (x1 : Int32) (x2 : Int32) (x3 : Int32) (lr_size : Int32) (lr_at : Int32) (lr_fault : Int32) (lr_code : Nat → Int32) (h : B_X5_readLevel_21 r_X5_readLevel r_X5_readOperand g21 tape_size tape_bytes x1 x2 x3 lr_size lr_at lr_fault lr_code = some R) (H : Heap) (locs : List Loc) (ls : Array Slot) (hP : va_P D classes (wl_X5_readLevel ad cs tape_size tape_bytes lr_size lr_at lr_fault lr_code) H) (hD : va_D A (wl_X5_readLevel ad cs tape_size tape_bytes lr_size lr_at lr_fault lr_code)) (hS : va_S A s.heap H locs) (hl : lv_has ls 5 [(0, .ref (ad 26)), (1, .int x1), (2, .int x2), (3, .int x3)]) : W p l e ({ frames := fr + 5, cells := 0, slots := 0, locals := lo + 113 } : Room) s m args below meth c H locs 0 0 (MQ below (Q_X5_readLevel D cs ad tape_size tape_bytes A R) args s 0 0 A) (F0 m 21 ls []) := by
  obtain ⟨hx, hb, hr, hml, hown, ht, hlocks⟩ := id C0
  refine lv_iload_n hx hb dX5_readLevel_21 rfl (lv_at hl 3 rfl) ?_
  refine lv_bipush (v := (120 : Int32)) hx hb dX5_readLevel_22 (by decide) ?_
  refine lv_icmp_ge (tgt := 83) hx hb dX5_readLevel_24 (by decide) (fun c_12 => ?_) (fun c_12 => ?_)
  · have h := zk_t c_12 h
    exact W.vret hx hb hr (fun t ht2 hW => ⟨⟨(lr_size, lr_at, lr_fault, lr_code), rfl, Option.some.inj h, by rw [ht2]; exact hP, hD⟩, hS.F ht2⟩) hS.2.2 dX5_readLevel_83 hlocks
  · have h := zk_f c_12 h
    refine lv_aload_n hx hb dX5_readLevel_27 rfl (lv_at hl 0 rfl) ?_
    refine va_get (D := D) (ci := 5) (v := .int lr_fault) (C := RX5) (T := TX5) (N := 5) hx hb ht iX5 hown hK hP 2 rfl rfl 4 (by decide) (ht _ kw_278) (fun _ h9 => h9) rfl dX5_readLevel_28 ?_
    refine lv_if_ge (tgt := 83) hx hb dX5_readLevel_31 (by decide) (fun c_13 => ?_) (fun c_13 => ?_)
    · have h := zk_t c_13 h
      exact W.vret hx hb hr (fun t ht2 hW => ⟨⟨(lr_size, lr_at, lr_fault, lr_code), rfl, Option.some.inj h, by rw [ht2]; exact hP, hD⟩, hS.F ht2⟩) hS.2.2 dX5_readLevel_83 hlocks
    · have h := zk_f c_13 h
      refine lv_aload_n hx hb dX5_readLevel_34 rfl (lv_at hl 0 rfl) ?_
      refine lv_iload_n hx hb dX5_readLevel_35 rfl (lv_at hl 1 rfl) ?_
      obtain ⟨r_14, u_15, hc_16, h⟩ := zk_o2 h
      refine zk_vi (post := (fun r u => (r, u) = (r_14, u_15))) (w1 := fun u => (wl_X5_operatorAt ad cs tape_size tape_bytes lr_size lr_at lr_fault)) (As := [.int x1]) (rest := []) (c_X5_operatorAt l D cs ad  H.size x1 tape_size tape_bytes lr_size lr_at lr_fault _ hc_16) ⟨hx, hb, hml, hown, ht⟩ (cwV 1 ht g_X5_64 rfl rfl rfl (by decide +kernel) ⟨(by show 1 + 1 ≤ fr + 5; omega), (by show 8 + (3 + 11) + 21 ≤ lo + 113; omega)⟩) (va_recv hK hP (ci := 5) (q0 := 2) rfl rfl) hP hD hS hK hA [0, 1, 2] [3] rfl rfl rfl rfl (by decide) rfl hl.1 (Nat.le_of_ble_eq_true rfl) dX5_readLevel_36 ⟨Nat.zero_le _, Nat.zero_le _⟩ (fun r u H locs hq hP hD hS => ?_)
      cases hq
      have hP : va_P D classes (wl_X5_readLevel ad cs tape_size tape_bytes lr_size lr_at lr_fault lr_code) H := hP.sub [1, 2, 3, 0] rfl
      have hD : va_D A (wl_X5_readLevel ad cs tape_size tape_bytes lr_size lr_at lr_fault lr_code) := hD.sub [1, 2, 3, 0] rfl rfl
      refine lv_istore (lv' := [(4, .int r_14), (0, .ref (ad 26)), (1, .int x1), (2, .int x2), (3, .int x3)]) hx hb dX5_readLevel_39 hl (by decide) rfl (fun ls hl => ?_)
      refine lv_iload hx hb dX5_readLevel_41 (lv_at hl 0 rfl) ?_
      refine lv_if_ge (tgt := 47) hx hb dX5_readLevel_43 (by decide) (fun c_17 => ?_) (fun c_17 => ?_)
      · have h := zk_t c_17 h
        refine lv_aload_n hx hb dX5_readLevel_47 rfl (lv_at hl 1 rfl) ?_
        refine lv_dup hx hb dX5_readLevel_48 rfl ?_
        refine va_get (D := D) (ci := 5) (v := .int lr_at) (C := RX5) (T := TX5) (N := 5) hx hb ht iX5 hown hK hP 2 rfl rfl 3 (by decide) (ht _ kw_277) (fun _ h9 => h9) rfl dX5_readLevel_49 ?_
        refine lv_iconst (v := (1 : Int32)) hx hb dX5_readLevel_52 (by decide) ?_
        refine lv_iadd hx hb dX5_readLevel_53 ?_
        obtain ⟨v_18, ev_18, h⟩ := zk_lt h
        refine W.eq (g2 := F0 m 54 ls [.int v_18, .ref (ad 26)]) (by rw [ev_18]) ?_
        refine va_put (D := D) (ci := 5) (v := .int v_18) (ty := .int) (C := RX5) (T := TX5) (N := 5) hx hb ht iX5 tyX5 tyX5_ok nmX5 hown hK hP hD hS 2 rfl rfl 3 (by decide) (ht _ kw_277) (fun _ h9 => h9) rfl (by decide +kernel) rfl rfl (Nat.le_of_ble_eq_true rfl) dX5_readLevel_54 (fun H locs hP hD hS => ?_)
        have hP : va_P D classes (wl_X5_readLevel ad cs tape_size tape_bytes lr_size v_18 lr_fault lr_code) H := hP
        have hD : va_D A (wl_X5_readLevel ad cs tape_size tape_bytes lr_size v_18 lr_fault lr_code) := hD
        refine lv_aload_n hx hb dX5_readLevel_57 rfl (lv_at hl 1 rfl) ?_
        refine lv_iload_n hx hb dX5_readLevel_58 rfl (lv_at hl 2 rfl) ?_
        refine lv_iconst (v := (1 : Int32)) hx hb dX5_readLevel_59 (by decide) ?_
        refine lv_iadd hx hb dX5_readLevel_60 ?_
        refine lv_iload_n hx hb dX5_readLevel_61 rfl (lv_at hl 3 rfl) ?_
        obtain ⟨u_19, u_20, u_21, u_22, hc_23, h⟩ := zk_o4 h
        refine zk_vvE (post := (fun u => u = (u_19, u_20, u_21, u_22))) (w1 := fun u => (wl_X5_readLevel ad cs tape_size tape_bytes u.1 u.2.1 u.2.2.1 u.2.2.2)) (As := [.int (x1 + (1 : Int32)), .int x2]) (rest := []) hE hO (hr_X5_readLevel D cs ad k H.size (x1 + (1 : Int32)) x2 tape_size tape_bytes lr_size v_18 lr_fault lr_code _ hc_23) ⟨hx, hb, hml, hown, ht⟩ (cwV 2 ht g_X5_53 rfl rfl rfl (by decide +kernel) ⟨(by show fr + 1 ≤ fr + 5; omega), (by show 8 + (5 + 11) + lo ≤ lo + 113; omega)⟩) (va_recv hK hP (ci := 5) (q0 := 2) rfl rfl) hP hD hS hK hA [0, 1, 2, 3] [] rfl rfl rfl rfl (by decide) rfl hl.1 (Nat.le_of_ble_eq_true rfl) dX5_readLevel_62 ⟨Nat.zero_le _, Nat.zero_le _⟩ (fun u H locs hq hP hD hS => ?_)
        cases hq
        have hP : va_P D classes (wl_X5_readLevel ad cs tape_size tape_bytes u_19 u_20 u_21 u_22) H := hP.sub [0, 1, 2, 3] rfl
        have hD : va_D A (wl_X5_readLevel ad cs tape_size tape_bytes u_19 u_20 u_21 u_22) := hD.sub [0, 1, 2, 3] rfl rfl
        refine lv_aload_n hx hb dX5_readLevel_65 rfl (lv_at hl 1 rfl) ?_
        refine lv_iload hx hb dX5_readLevel_66 (lv_at hl 0 rfl) ?_
        obtain ⟨u_24, u_25, hc_26, h⟩ := zk_o2 h
        refine zk_vv (post := (fun u => u = (u_24, u_25))) (w1 := fun u => (wl_X5_emit ad cs u.1 u_20 u_21 u.2)) (As := [.int r_14]) (rest := []) (c_X5_emit l D cs ad  H.size r_14 u_19 u_20 u_21 u_22 _ hc_26) ⟨hx, hb, hml, hown, ht⟩ (cwV 1 ht g_X5_57 rfl rfl rfl (by decide +kernel) ⟨(by show 0 + 1 ≤ fr + 5; omega), (by show 8 + (2 + 11) + 0 ≤ lo + 113; omega)⟩) (va_recv hK hP (ci := 5) (q0 := 2) rfl rfl) hP hD hS hK hA [2, 3] [0, 1] rfl rfl rfl rfl (by decide) rfl hl.1 (Nat.le_of_ble_eq_true rfl) dX5_readLevel_68 ⟨Nat.zero_le _, Nat.zero_le _⟩ (fun u H locs hq hP hD hS => ?_)
        cases hq
        have hP : va_P D classes (wl_X5_readLevel ad cs tape_size tape_bytes u_24 u_20 u_21 u_25) H := hP.sub [0, 1, 2, 3] rfl
        have hD : va_D A (wl_X5_readLevel ad cs tape_size tape_bytes u_24 u_20 u_21 u_25) := hD.sub [0, 1, 2, 3] rfl rfl
        refine lv_iload_n hx hb dX5_readLevel_71 rfl (lv_at hl 2 rfl) ?_
        refine lv_iconst (v := (2 : Int32)) hx hb dX5_readLevel_72 (by decide) ?_
        refine lv_icmp_ne (tgt := 77) hx hb dX5_readLevel_73 (by decide) (fun c_27 => ?_) (fun c_27 => ?_)
        · have h := zk_f c_27 h
          obtain ⟨v_28, ev_28, h⟩ := zk_lt h
          refine lv_iinc (v := v_28) (lv' := [(3, .int v_28), (4, .int r_14), (0, .ref (ad 26)), (1, .int x1), (2, .int x2)]) hx hb dX5_readLevel_77 hl (k := 4) rfl (by rw [ev_28]; rfl) (by decide) rfl (fun ls hl => ?_)
          refine lv_goto (tgt := 21) hx hb dX5_readLevel_80 (by decide) ?_
          exact ih21 x1 x2 v_28 u_24 u_20 u_21 u_25 h H locs ls hP hD hS (lv_sub hl [2, 3, 4, 0] rfl)
        · have h := zk_t c_27 h
          exact W.vret hx hb hr (fun t ht2 hW => ⟨⟨(u_24, u_20, u_21, u_25), rfl, Option.some.inj h, by rw [ht2]; exact hP, hD⟩, hS.F ht2⟩) hS.2.2 dX5_readLevel_76 hlocks
      · have h := zk_f c_17 h
        exact W.vret hx hb hr (fun t ht2 hW => ⟨⟨(lr_size, lr_at, lr_fault, lr_code), rfl, Option.some.inj h, by rw [ht2]; exact hP, hD⟩, hS.F ht2⟩) hS.2.2 dX5_readLevel_46 hlocks
set_option maxHeartbeats 4000000 in
set_option maxRecDepth 100000 in
theorem L_X5_readLevel_0 {p : Program} {l : Launch} {e : Env} {s : State} {m : MethodId} {args : Array Value} {below : List Frame} {meth : Method} {c : Code} {A : Nat → Prop} {D : va_G} {cs : Nat → ClassId} {ad : Nat → Nat} {tape_size : Int32} {tape_bytes : Nat → Int32} {R : Int32 × Int32 × Int32 × (Nat → Int32)} {g21 : Int32 → Int32 → Int32 → Int32 → Int32 → Int32 → (Nat → Int32) → (Option (Int32 × Int32 × Int32 × (Nat → Int32)))} (C0 : zC p s m args meth c cX5_readLevel 5 none RX5 zW) (hK : va_K D classes (zT cs) s) {k : (Nat → Nat) × (Nat → Nat)} (hO : zO s) (hE : zE k A s) (hA : ∀ q : Nat, s.heap.size ≤ q → A q) {fr lo : Nat} {r_X5_readLevel : Int32 → Int32 → Int32 → (Nat → Int32) → Int32 → Int32 → Int32 → (Nat → Int32) → (Option (Int32 × Int32 × Int32 × (Nat → Int32)))} {r_X5_readOperand : Int32 → Int32 → (Nat → Int32) → Int32 → Int32 → Int32 → (Nat → Int32) → (Option (Int32 × Int32 × Int32 × (Nat → Int32)))} (hr_X5_readLevel : ∀ (D : va_G) (cs : Nat → ClassId) (ad : Nat → Nat) (k : (Nat → Nat) × (Nat → Nat)) (sz : Nat) (x1 : Int32) (x2 : Int32) (tape_size : Int32) (tape_bytes : Nat → Int32) (lr_size : Int32) (lr_at : Int32) (lr_fault : Int32) (lr_code : Nat → Int32) (R : Int32 × Int32 × Int32 × (Nat → Int32)) (h : r_X5_readLevel x1 x2 tape_size tape_bytes lr_size lr_at lr_fault lr_code = some R), Met l yX5_readLevel z_X5_readLevel ({ frames := fr, cells := 0, slots := 0, locals := lo } : Room) (va_Pc [.ref (ad 26), .int x1, .int x2] (zPreE k D cs (wl_X5_readLevel ad cs tape_size tape_bytes lr_size lr_at lr_fault lr_code) sz)) (Q_X5_readLevel D cs ad tape_size tape_bytes (va_A (wl_X5_readLevel ad cs tape_size tape_bytes lr_size lr_at lr_fault lr_code) sz) R) 0 0 (va_A (wl_X5_readLevel ad cs tape_size tape_bytes lr_size lr_at lr_fault lr_code) sz)) (hr_X5_readOperand : ∀ (D : va_G) (cs : Nat → ClassId) (ad : Nat → Nat) (k : (Nat → Nat) × (Nat → Nat)) (sz : Nat) (x1 : Int32) (tape_size : Int32) (tape_bytes : Nat → Int32) (lr_size : Int32) (lr_at : Int32) (lr_fault : Int32) (lr_code : Nat → Int32) (R : Int32 × Int32 × Int32 × (Nat → Int32)) (h : r_X5_readOperand x1 tape_size tape_bytes lr_size lr_at lr_fault lr_code = some R), Met l yX5_readOperand z_X5_readOperand ({ frames := fr, cells := 0, slots := 0, locals := lo } : Room) (va_Pc [.ref (ad 26), .int x1] (zPreE k D cs (wl_X5_readOperand ad cs tape_size tape_bytes lr_size lr_at lr_fault lr_code) sz)) (Q_X5_readOperand D cs ad tape_size tape_bytes (va_A (wl_X5_readOperand ad cs tape_size tape_bytes lr_size lr_at lr_fault lr_code) sz) R) 0 0 (va_A (wl_X5_readOperand ad cs tape_size tape_bytes lr_size lr_at lr_fault lr_code) sz)) (ih21 : ∀ (x1 : Int32) (x2 : Int32) (x3 : Int32) (lr_size : Int32) (lr_at : Int32) (lr_fault : Int32) (lr_code : Nat → Int32) (h : g21 x1 x2 x3 lr_size lr_at lr_fault lr_code = some R) (H : Heap) (locs : List Loc) (ls : Array Slot) (hP : va_P D classes (wl_X5_readLevel ad cs tape_size tape_bytes lr_size lr_at lr_fault lr_code) H) (hD : va_D A (wl_X5_readLevel ad cs tape_size tape_bytes lr_size lr_at lr_fault lr_code)) (hS : va_S A s.heap H locs) (hl : lv_has ls 5 [(0, .ref (ad 26)), (1, .int x1), (2, .int x2), (3, .int x3)]), W p l e ({ frames := fr + 5, cells := 0, slots := 0, locals := lo + 113 } : Room) s m args below meth c H locs 0 0 (MQ below (Q_X5_readLevel D cs ad tape_size tape_bytes A R) args s 0 0 A) (F0 m 21 ls [])) (x1 : Int32) (x2 : Int32) (lr_size : Int32) (lr_at : Int32) (lr_fault : Int32) (lr_code : Nat → Int32) (h : B_X5_readLevel_0 r_X5_readLevel r_X5_readOperand g21 tape_size tape_bytes x1 x2 lr_size lr_at lr_fault lr_code = some R) (H : Heap) (locs : List Loc) (ls : Array Slot) (hP : va_P D classes (wl_X5_readLevel ad cs tape_size tape_bytes lr_size lr_at lr_fault lr_code) H) (hD : va_D A (wl_X5_readLevel ad cs tape_size tape_bytes lr_size lr_at lr_fault lr_code)) (hS : va_S A s.heap H locs) (hl : lv_has ls 5 [(0, .ref (ad 26)), (1, .int x1), (2, .int x2)]) : W p l e ({ frames := fr + 5, cells := 0, slots := 0, locals := lo + 113 } : Room) s m args below meth c H locs 0 0 (MQ below (Q_X5_readLevel D cs ad tape_size tape_bytes A R) args s 0 0 A) (F0 m 0 ls []) := by
  obtain ⟨hx, hb, hr, hml, hown, ht, hlocks⟩ := id C0
  refine lv_iload_n hx hb dX5_readLevel_0 rfl (lv_at hl 1 rfl) ?_
  refine lv_iconst (v := (4 : Int32)) hx hb dX5_readLevel_1 (by decide) ?_
  refine lv_icmp_le (tgt := 11) hx hb dX5_readLevel_2 (by decide) (fun c_1 => ?_) (fun c_1 => ?_)
  · have h := zk_t c_1 h
    refine lv_aload_n hx hb dX5_readLevel_11 rfl (lv_at hl 0 rfl) ?_
    refine lv_iload_n hx hb dX5_readLevel_12 rfl (lv_at hl 1 rfl) ?_
    refine lv_iconst (v := (1 : Int32)) hx hb dX5_readLevel_13 (by decide) ?_
    refine lv_iadd hx hb dX5_readLevel_14 ?_
    refine lv_iload_n hx hb dX5_readLevel_15 rfl (lv_at hl 2 rfl) ?_
    obtain ⟨u_2, u_3, u_4, u_5, hc_6, h⟩ := zk_o4 h
    refine zk_vvE (post := (fun u => u = (u_2, u_3, u_4, u_5))) (w1 := fun u => (wl_X5_readLevel ad cs tape_size tape_bytes u.1 u.2.1 u.2.2.1 u.2.2.2)) (As := [.int (x1 + (1 : Int32)), .int x2]) (rest := []) hE hO (hr_X5_readLevel D cs ad k H.size (x1 + (1 : Int32)) x2 tape_size tape_bytes lr_size lr_at lr_fault lr_code _ hc_6) ⟨hx, hb, hml, hown, ht⟩ (cwV 2 ht g_X5_53 rfl rfl rfl (by decide +kernel) ⟨(by show fr + 1 ≤ fr + 5; omega), (by show 8 + (5 + 11) + lo ≤ lo + 113; omega)⟩) (va_recv hK hP (ci := 5) (q0 := 2) rfl rfl) hP hD hS hK hA [0, 1, 2, 3] [] rfl rfl rfl rfl (by decide) rfl hl.1 (Nat.le_of_ble_eq_true rfl) dX5_readLevel_16 ⟨Nat.zero_le _, Nat.zero_le _⟩ (fun u H locs hq hP hD hS => ?_)
    cases hq
    have hP : va_P D classes (wl_X5_readLevel ad cs tape_size tape_bytes u_2 u_3 u_4 u_5) H := hP.sub [0, 1, 2, 3] rfl
    have hD : va_D A (wl_X5_readLevel ad cs tape_size tape_bytes u_2 u_3 u_4 u_5) := hD.sub [0, 1, 2, 3] rfl rfl
    refine lv_iconst (v := (0 : Int32)) hx hb dX5_readLevel_19 (by decide) ?_
    refine lv_istore_n (lv' := [(3, .int (0 : Int32)), (0, .ref (ad 26)), (1, .int x1), (2, .int x2)]) hx hb dX5_readLevel_20 rfl hl (by decide) rfl (fun ls hl => ?_)
    exact ih21 x1 x2 (0 : Int32) u_2 u_3 u_4 u_5 h H locs ls hP hD hS (lv_sub hl [1, 2, 3, 0] rfl)
  · have h := zk_f c_1 h
    refine lv_aload_n hx hb dX5_readLevel_5 rfl (lv_at hl 0 rfl) ?_
    refine lv_iload_n hx hb dX5_readLevel_6 rfl (lv_at hl 2 rfl) ?_
    obtain ⟨u_7, u_8, u_9, u_10, hc_11, h⟩ := zk_o4 h
    refine zk_vvE (post := (fun u => u = (u_7, u_8, u_9, u_10))) (w1 := fun u => (wl_X5_readOperand ad cs tape_size tape_bytes u.1 u.2.1 u.2.2.1 u.2.2.2)) (As := [.int x2]) (rest := []) hE hO (hr_X5_readOperand D cs ad k H.size x2 tape_size tape_bytes lr_size lr_at lr_fault lr_code _ hc_11) ⟨hx, hb, hml, hown, ht⟩ (cwV 1 ht g_X5_61 rfl rfl rfl (by decide +kernel) ⟨(by show fr + 1 ≤ fr + 5; omega), (by show 8 + (3 + 11) + lo ≤ lo + 113; omega)⟩) (va_recv hK hP (ci := 5) (q0 := 2) rfl rfl) hP hD hS hK hA [0, 1, 2, 3] [] rfl rfl rfl rfl (by decide) rfl hl.1 (Nat.le_of_ble_eq_true rfl) dX5_readLevel_7 ⟨Nat.zero_le _, Nat.zero_le _⟩ (fun u H locs hq hP hD hS => ?_)
    cases hq
    have hP : va_P D classes (wl_X5_readLevel ad cs tape_size tape_bytes u_7 u_8 u_9 u_10) H := hP.sub [0, 1, 2, 3] rfl
    have hD : va_D A (wl_X5_readLevel ad cs tape_size tape_bytes u_7 u_8 u_9 u_10) := hD.sub [0, 1, 2, 3] rfl rfl
    exact W.vret hx hb hr (fun t ht2 hW => ⟨⟨(u_7, u_8, u_9, u_10), rfl, Option.some.inj h, by rw [ht2]; exact hP, hD⟩, hS.F ht2⟩) hS.2.2 dX5_readLevel_10 hlocks
theorem LG_X5_readLevel {p : Program} {l : Launch} {e : Env} {s : State} {m : MethodId} {args : Array Value} {below : List Frame} {meth : Method} {c : Code} {A : Nat → Prop} {D : va_G} {cs : Nat → ClassId} {ad : Nat → Nat} {tape_size : Int32} {tape_bytes : Nat → Int32} {R : Int32 × Int32 × Int32 × (Nat → Int32)} (C0 : zC p s m args meth c cX5_readLevel 5 none RX5 zW) (hK : va_K D classes (zT cs) s) {k : (Nat → Nat) × (Nat → Nat)} (hO : zO s) (hE : zE k A s) (hA : ∀ q : Nat, s.heap.size ≤ q → A q) {fr lo : Nat} {r_X5_readLevel : Int32 → Int32 → Int32 → (Nat → Int32) → Int32 → Int32 → Int32 → (Nat → Int32) → (Option (Int32 × Int32 × Int32 × (Nat → Int32)))} {r_X5_readOperand : Int32 → Int32 → (Nat → Int32) → Int32 → Int32 → Int32 → (Nat → Int32) → (Option (Int32 × Int32 × Int32 × (Nat → Int32)))} (hr_X5_readLevel : ∀ (D : va_G) (cs : Nat → ClassId) (ad : Nat → Nat) (k : (Nat → Nat) × (Nat → Nat)) (sz : Nat) (x1 : Int32) (x2 : Int32) (tape_size : Int32) (tape_bytes : Nat → Int32) (lr_size : Int32) (lr_at : Int32) (lr_fault : Int32) (lr_code : Nat → Int32) (R : Int32 × Int32 × Int32 × (Nat → Int32)) (h : r_X5_readLevel x1 x2 tape_size tape_bytes lr_size lr_at lr_fault lr_code = some R), Met l yX5_readLevel z_X5_readLevel ({ frames := fr, cells := 0, slots := 0, locals := lo } : Room) (va_Pc [.ref (ad 26), .int x1, .int x2] (zPreE k D cs (wl_X5_readLevel ad cs tape_size tape_bytes lr_size lr_at lr_fault lr_code) sz)) (Q_X5_readLevel D cs ad tape_size tape_bytes (va_A (wl_X5_readLevel ad cs tape_size tape_bytes lr_size lr_at lr_fault lr_code) sz) R) 0 0 (va_A (wl_X5_readLevel ad cs tape_size tape_bytes lr_size lr_at lr_fault lr_code) sz)) (hr_X5_readOperand : ∀ (D : va_G) (cs : Nat → ClassId) (ad : Nat → Nat) (k : (Nat → Nat) × (Nat → Nat)) (sz : Nat) (x1 : Int32) (tape_size : Int32) (tape_bytes : Nat → Int32) (lr_size : Int32) (lr_at : Int32) (lr_fault : Int32) (lr_code : Nat → Int32) (R : Int32 × Int32 × Int32 × (Nat → Int32)) (h : r_X5_readOperand x1 tape_size tape_bytes lr_size lr_at lr_fault lr_code = some R), Met l yX5_readOperand z_X5_readOperand ({ frames := fr, cells := 0, slots := 0, locals := lo } : Room) (va_Pc [.ref (ad 26), .int x1] (zPreE k D cs (wl_X5_readOperand ad cs tape_size tape_bytes lr_size lr_at lr_fault lr_code) sz)) (Q_X5_readOperand D cs ad tape_size tape_bytes (va_A (wl_X5_readOperand ad cs tape_size tape_bytes lr_size lr_at lr_fault lr_code) sz) R) 0 0 (va_A (wl_X5_readOperand ad cs tape_size tape_bytes lr_size lr_at lr_fault lr_code) sz)) : ∀ n : Nat, (∀ (x1 : Int32) (x2 : Int32) (x3 : Int32) (lr_size : Int32) (lr_at : Int32) (lr_fault : Int32) (lr_code : Nat → Int32) (h : (G_X5_readLevel  r_X5_readLevel r_X5_readOperand tape_size tape_bytes n) x1 x2 x3 lr_size lr_at lr_fault lr_code = some R) (H : Heap) (locs : List Loc) (ls : Array Slot) (hP : va_P D classes (wl_X5_readLevel ad cs tape_size tape_bytes lr_size lr_at lr_fault lr_code) H) (hD : va_D A (wl_X5_readLevel ad cs tape_size tape_bytes lr_size lr_at lr_fault lr_code)) (hS : va_S A s.heap H locs) (hl : lv_has ls 5 [(0, .ref (ad 26)), (1, .int x1), (2, .int x2), (3, .int x3)]), W p l e ({ frames := fr + 5, cells := 0, slots := 0, locals := lo + 113 } : Room) s m args below meth c H locs 0 0 (MQ below (Q_X5_readLevel D cs ad tape_size tape_bytes A R) args s 0 0 A) (F0 m 21 ls [])) := by
  intro n
  induction n with
  | zero =>
    refine ?_ <;> (intros; rename_i h _ _ _ _ _ _ _; cases h)
  | succ n ih =>
    exact L_X5_readLevel_21 C0 hK hO hE hA hr_X5_readLevel hr_X5_readOperand ih
set_option maxHeartbeats 4000000 in
set_option maxRecDepth 100000 in
theorem c_X5_readLevel (l : Launch) (D : va_G) (cs : Nat → ClassId) (ad : Nat → Nat) (k : (Nat → Nat) × (Nat → Nat)) {fr lo : Nat} {r_X5_readLevel : Int32 → Int32 → Int32 → (Nat → Int32) → Int32 → Int32 → Int32 → (Nat → Int32) → (Option (Int32 × Int32 × Int32 × (Nat → Int32)))} {r_X5_readOperand : Int32 → Int32 → (Nat → Int32) → Int32 → Int32 → Int32 → (Nat → Int32) → (Option (Int32 × Int32 × Int32 × (Nat → Int32)))} (hr_X5_readLevel : ∀ (D : va_G) (cs : Nat → ClassId) (ad : Nat → Nat) (k : (Nat → Nat) × (Nat → Nat)) (sz : Nat) (x1 : Int32) (x2 : Int32) (tape_size : Int32) (tape_bytes : Nat → Int32) (lr_size : Int32) (lr_at : Int32) (lr_fault : Int32) (lr_code : Nat → Int32) (R : Int32 × Int32 × Int32 × (Nat → Int32)) (h : r_X5_readLevel x1 x2 tape_size tape_bytes lr_size lr_at lr_fault lr_code = some R), Met l yX5_readLevel z_X5_readLevel ({ frames := fr, cells := 0, slots := 0, locals := lo } : Room) (va_Pc [.ref (ad 26), .int x1, .int x2] (zPreE k D cs (wl_X5_readLevel ad cs tape_size tape_bytes lr_size lr_at lr_fault lr_code) sz)) (Q_X5_readLevel D cs ad tape_size tape_bytes (va_A (wl_X5_readLevel ad cs tape_size tape_bytes lr_size lr_at lr_fault lr_code) sz) R) 0 0 (va_A (wl_X5_readLevel ad cs tape_size tape_bytes lr_size lr_at lr_fault lr_code) sz)) (hr_X5_readOperand : ∀ (D : va_G) (cs : Nat → ClassId) (ad : Nat → Nat) (k : (Nat → Nat) × (Nat → Nat)) (sz : Nat) (x1 : Int32) (tape_size : Int32) (tape_bytes : Nat → Int32) (lr_size : Int32) (lr_at : Int32) (lr_fault : Int32) (lr_code : Nat → Int32) (R : Int32 × Int32 × Int32 × (Nat → Int32)) (h : r_X5_readOperand x1 tape_size tape_bytes lr_size lr_at lr_fault lr_code = some R), Met l yX5_readOperand z_X5_readOperand ({ frames := fr, cells := 0, slots := 0, locals := lo } : Room) (va_Pc [.ref (ad 26), .int x1] (zPreE k D cs (wl_X5_readOperand ad cs tape_size tape_bytes lr_size lr_at lr_fault lr_code) sz)) (Q_X5_readOperand D cs ad tape_size tape_bytes (va_A (wl_X5_readOperand ad cs tape_size tape_bytes lr_size lr_at lr_fault lr_code) sz) R) 0 0 (va_A (wl_X5_readOperand ad cs tape_size tape_bytes lr_size lr_at lr_fault lr_code) sz)) (sz : Nat) (n : Nat) (x1 : Int32) (x2 : Int32) (tape_size : Int32) (tape_bytes : Nat → Int32) (lr_size : Int32) (lr_at : Int32) (lr_fault : Int32) (lr_code : Nat → Int32) (R : Int32 × Int32 × Int32 × (Nat → Int32)) (h : f_X5_readLevel  r_X5_readLevel r_X5_readOperand n x1 x2 tape_size tape_bytes lr_size lr_at lr_fault lr_code = some R) : Met l yX5_readLevel (z_X5_readLevel) ({ frames := fr + 5, cells := 0, slots := 0, locals := lo + 113 } : Room) (va_Pc [.ref (ad 26), .int x1, .int x2] (zPreE k D cs (wl_X5_readLevel ad cs tape_size tape_bytes lr_size lr_at lr_fault lr_code) sz)) (Q_X5_readLevel D cs ad tape_size tape_bytes (va_A (wl_X5_readLevel ad cs tape_size tape_bytes lr_size lr_at lr_fault lr_code) sz) R) 0 0 (va_A (wl_X5_readLevel ad cs tape_size tape_bytes lr_size lr_at lr_fault lr_code) sz) := by
  refine Met.ofW (cc := cX5_readLevel) (maxL := 5) (ret := none) (by decide) rfl ?_
  intro p e s m args below meth c s₁ B hml hv
  obtain ⟨rfl, ⟨⟨hsz, hP, hK, hD0⟩, hO⟩, hE⟩ := hv
  subst hsz
  have hD := hD0.self (sz := s.heap.size)
  have C0 : zC p s m _ meth c cX5_readLevel 5 none RX5 zW := ⟨B.exec, B.bytes, B.returns, hml, findClass_of_methodNamed B.named, fun w hw => atoms_spec (ws := z_X5_readLevel) B.pre w (List.mem_cons_of_mem _ hw), B.notSynchronized⟩
  have hA : ∀ q : Nat, s.heap.size ≤ q → va_A (wl_X5_readLevel ad cs tape_size tape_bytes lr_size lr_at lr_fault lr_code) s.heap.size q := fun q h => Or.inr h
  have hl := lv_entry ([.ref (ad 26), .int x1, .int x2]) (n := 5) (Nat.le_of_ble_eq_true rfl)
  rw [lg_entry_eq]
  generalize (lg_sl ([.ref (ad 26), .int x1, .int x2]) ++ List.replicate (5 - (lg_sl ([.ref (ad 26), .int x1, .int x2])).length) Slot.unset).toArray = ls at hl ⊢
  exact L_X5_readLevel_0 C0 hK hO hE hA hr_X5_readLevel hr_X5_readOperand ((LG_X5_readLevel C0 hK hO hE hA hr_X5_readLevel hr_X5_readOperand n)) x1 x2 lr_size lr_at lr_fault lr_code h s.heap [] ls hP hD va_S.rf hl
set_option maxHeartbeats 4000000 in
set_option maxRecDepth 100000 in
theorem L_X5_readOperand_80 {p : Program} {l : Launch} {e : Env} {s : State} {m : MethodId} {args : Array Value} {below : List Frame} {meth : Method} {c : Code} {A : Nat → Prop} {D : va_G} {cs : Nat → ClassId} {ad : Nat → Nat} {tape_size : Int32} {tape_bytes : Nat → Int32} {R : Int32 × Int32 × Int32 × (Nat → Int32)} (C0 : zC p s m args meth c cX5_readOperand 3 none RX5 zW) (hK : va_K D classes (zT cs) s) {k : (Nat → Nat) × (Nat → Nat)} (hO : zO s) (hE : zE k A s) (hA : ∀ q : Nat, s.heap.size ≤ q → A q) {fr lo : Nat} {r_X5_readLevel : Int32 → Int32 → Int32 → (Nat → Int32) → Int32 → Int32 → Int32 → (Nat → Int32) → (Option (Int32 × Int32 × Int32 × (Nat → Int32)))} {r_X5_readOperand : Int32 → Int32 → (Nat → Int32) → Int32 → Int32 → Int32 → (Nat → Int32) → (Option (Int32 × Int32 × Int32 × (Nat → Int32)))} (hr_X5_readLevel : ∀ (D : va_G) (cs : Nat → ClassId) (ad : Nat → Nat) (k : (Nat → Nat) × (Nat → Nat)) (sz : Nat) (x1 : Int32) (x2 : Int32) (tape_size : Int32) (tape_bytes : Nat → Int32) (lr_size : Int32) (lr_at : Int32) (lr_fault : Int32) (lr_code : Nat → Int32) (R : Int32 × Int32 × Int32 × (Nat → Int32)) (h : r_X5_readLevel x1 x2 tape_size tape_bytes lr_size lr_at lr_fault lr_code = some R), Met l yX5_readLevel z_X5_readLevel ({ frames := fr, cells := 0, slots := 0, locals := lo } : Room) (va_Pc [.ref (ad 26), .int x1, .int x2] (zPreE k D cs (wl_X5_readLevel ad cs tape_size tape_bytes lr_size lr_at lr_fault lr_code) sz)) (Q_X5_readLevel D cs ad tape_size tape_bytes (va_A (wl_X5_readLevel ad cs tape_size tape_bytes lr_size lr_at lr_fault lr_code) sz) R) 0 0 (va_A (wl_X5_readLevel ad cs tape_size tape_bytes lr_size lr_at lr_fault lr_code) sz)) (hr_X5_readOperand : ∀ (D : va_G) (cs : Nat → ClassId) (ad : Nat → Nat) (k : (Nat → Nat) × (Nat → Nat)) (sz : Nat) (x1 : Int32) (tape_size : Int32) (tape_bytes : Nat → Int32) (lr_size : Int32) (lr_at : Int32) (lr_fault : Int32) (lr_code : Nat → Int32) (R : Int32 × Int32 × Int32 × (Nat → Int32)) (h : r_X5_readOperand x1 tape_size tape_bytes lr_size lr_at lr_fault lr_code = some R), Met l yX5_readOperand z_X5_readOperand ({ frames := fr, cells := 0, slots := 0, locals := lo } : Room) (va_Pc [.ref (ad 26), .int x1] (zPreE k D cs (wl_X5_readOperand ad cs tape_size tape_bytes lr_size lr_at lr_fault lr_code) sz)) (Q_X5_readOperand D cs ad tape_size tape_bytes (va_A (wl_X5_readOperand ad cs tape_size tape_bytes lr_size lr_at lr_fault lr_code) sz) R) 0 0 (va_A (wl_X5_readOperand ad cs tape_size tape_bytes lr_size lr_at lr_fault lr_code) sz)) (s0 : Int32) (lr_size : Int32) (lr_at : Int32) (lr_fault : Int32) (lr_code : Nat → Int32) (h : B_X5_readOperand_80 r_X5_readLevel r_X5_readOperand tape_size tape_bytes s0 lr_size lr_at lr_fault lr_code = some R) (H : Heap) (locs : List Loc) (ls : Array Slot) (hP : va_P D classes (wl_X5_readOperand ad cs tape_size tape_bytes lr_size lr_at lr_fault lr_code) H) (hD : va_D A (wl_X5_readOperand ad cs tape_size tape_bytes lr_size lr_at lr_fault lr_code)) (hS : va_S A s.heap H locs) (hl : lv_has ls 3 []) : W p l e ({ frames := fr + 5, cells := 0, slots := 0, locals := lo + 113 } : Room) s m args below meth c H locs 0 0 (MQ below (Q_X5_readOperand D cs ad tape_size tape_bytes A R) args s 0 0 A) (F0 m 80 ls [.int s0, .ref (ad 26)]) := by
  obtain ⟨hx, hb, hr, hml, hown, ht, hlocks⟩ := id C0
  obtain ⟨u_48, u_49, hc_50, h⟩ := zk_o2 h
  refine zk_vv (post := (fun u => u = (u_48, u_49))) (w1 := fun u => (wl_X5_emit ad cs u.1 lr_at lr_fault u.2)) (As := [.int s0]) (rest := []) (c_X5_emit l D cs ad  H.size s0 lr_size lr_at lr_fault lr_code _ hc_50) ⟨hx, hb, hml, hown, ht⟩ (cwV 1 ht g_X5_57 rfl rfl rfl (by decide +kernel) ⟨(by show 0 + 1 ≤ fr + 5; omega), (by show 8 + (2 + 11) + 0 ≤ lo + 113; omega)⟩) (va_recv hK hP (ci := 5) (q0 := 2) rfl rfl) hP hD hS hK hA [2, 3] [0, 1] rfl rfl rfl rfl (by decide) rfl hl.1 (Nat.le_of_ble_eq_true rfl) dX5_readOperand_80 ⟨Nat.zero_le _, Nat.zero_le _⟩ (fun u H locs hq hP hD hS => ?_)
  cases hq
  have hP : va_P D classes (wl_X5_readOperand ad cs tape_size tape_bytes u_48 lr_at lr_fault u_49) H := hP.sub [0, 1, 2, 3] rfl
  have hD : va_D A (wl_X5_readOperand ad cs tape_size tape_bytes u_48 lr_at lr_fault u_49) := hD.sub [0, 1, 2, 3] rfl rfl
  refine lv_goto (tgt := 129) hx hb dX5_readOperand_83 (by decide) ?_
  exact W.vret hx hb hr (fun t ht2 hW => ⟨⟨(u_48, lr_at, lr_fault, u_49), rfl, Option.some.inj h, by rw [ht2]; exact hP, hD⟩, hS.F ht2⟩) hS.2.2 dX5_readOperand_129 hlocks
set_option maxHeartbeats 4000000 in
set_option maxRecDepth 100000 in
theorem L_X5_readOperand_53 {p : Program} {l : Launch} {e : Env} {s : State} {m : MethodId} {args : Array Value} {below : List Frame} {meth : Method} {c : Code} {A : Nat → Prop} {D : va_G} {cs : Nat → ClassId} {ad : Nat → Nat} {tape_size : Int32} {tape_bytes : Nat → Int32} {R : Int32 × Int32 × Int32 × (Nat → Int32)} (C0 : zC p s m args meth c cX5_readOperand 3 none RX5 zW) (hK : va_K D classes (zT cs) s) {k : (Nat → Nat) × (Nat → Nat)} (hO : zO s) (hE : zE k A s) (hA : ∀ q : Nat, s.heap.size ≤ q → A q) {fr lo : Nat} {r_X5_readLevel : Int32 → Int32 → Int32 → (Nat → Int32) → Int32 → Int32 → Int32 → (Nat → Int32) → (Option (Int32 × Int32 × Int32 × (Nat → Int32)))} {r_X5_readOperand : Int32 → Int32 → (Nat → Int32) → Int32 → Int32 → Int32 → (Nat → Int32) → (Option (Int32 × Int32 × Int32 × (Nat → Int32)))} (hr_X5_readLevel : ∀ (D : va_G) (cs : Nat → ClassId) (ad : Nat → Nat) (k : (Nat → Nat) × (Nat → Nat)) (sz : Nat) (x1 : Int32) (x2 : Int32) (tape_size : Int32) (tape_bytes : Nat → Int32) (lr_size : Int32) (lr_at : Int32) (lr_fault : Int32) (lr_code : Nat → Int32) (R : Int32 × Int32 × Int32 × (Nat → Int32)) (h : r_X5_readLevel x1 x2 tape_size tape_bytes lr_size lr_at lr_fault lr_code = some R), Met l yX5_readLevel z_X5_readLevel ({ frames := fr, cells := 0, slots := 0, locals := lo } : Room) (va_Pc [.ref (ad 26), .int x1, .int x2] (zPreE k D cs (wl_X5_readLevel ad cs tape_size tape_bytes lr_size lr_at lr_fault lr_code) sz)) (Q_X5_readLevel D cs ad tape_size tape_bytes (va_A (wl_X5_readLevel ad cs tape_size tape_bytes lr_size lr_at lr_fault lr_code) sz) R) 0 0 (va_A (wl_X5_readLevel ad cs tape_size tape_bytes lr_size lr_at lr_fault lr_code) sz)) (hr_X5_readOperand : ∀ (D : va_G) (cs : Nat → ClassId) (ad : Nat → Nat) (k : (Nat → Nat) × (Nat → Nat)) (sz : Nat) (x1 : Int32) (tape_size : Int32) (tape_bytes : Nat → Int32) (lr_size : Int32) (lr_at : Int32) (lr_fault : Int32) (lr_code : Nat → Int32) (R : Int32 × Int32 × Int32 × (Nat → Int32)) (h : r_X5_readOperand x1 tape_size tape_bytes lr_size lr_at lr_fault lr_code = some R), Met l yX5_readOperand z_X5_readOperand ({ frames := fr, cells := 0, slots := 0, locals := lo } : Room) (va_Pc [.ref (ad 26), .int x1] (zPreE k D cs (wl_X5_readOperand ad cs tape_size tape_bytes lr_size lr_at lr_fault lr_code) sz)) (Q_X5_readOperand D cs ad tape_size tape_bytes (va_A (wl_X5_readOperand ad cs tape_size tape_bytes lr_size lr_at lr_fault lr_code) sz) R) 0 0 (va_A (wl_X5_readOperand ad cs tape_size tape_bytes lr_size lr_at lr_fault lr_code) sz)) (x1 : Int32) (x2 : Int32) (lr_size : Int32) (lr_at : Int32) (lr_fault : Int32) (lr_code : Nat → Int32) (h : B_X5_readOperand_53 r_X5_readLevel r_X5_readOperand tape_size tape_bytes x1 x2 lr_size lr_at lr_fault lr_code = some R) (H : Heap) (locs : List Loc) (ls : Array Slot) (hP : va_P D classes (wl_X5_readOperand ad cs tape_size tape_bytes lr_size lr_at lr_fault lr_code) H) (hD : va_D A (wl_X5_readOperand ad cs tape_size tape_bytes lr_size lr_at lr_fault lr_code)) (hS : va_S A s.heap H locs) (hl : lv_has ls 3 [(0, .ref (ad 26)), (1, .int x1), (2, .int x2)]) : W p l e ({ frames := fr + 5, cells := 0, slots := 0, locals := lo + 113 } : Room) s m args below meth c H locs 0 0 (MQ below (Q_X5_readOperand D cs ad tape_size tape_bytes A R) args s 0 0 A) (F0 m 53 ls []) := by
  obtain ⟨hx, hb, hr, hml, hown, ht, hlocks⟩ := id C0
  refine lv_aload_n hx hb dX5_readOperand_53 rfl (lv_at hl 0 rfl) ?_
  refine lv_iload_n hx hb dX5_readOperand_54 rfl (lv_at hl 1 rfl) ?_
  obtain ⟨r_37, u_38, u_39, hc_40, h⟩ := zk_o3 h
  refine zk_vi (post := (fun r u => (r, u) = (r_37, u_38, u_39))) (w1 := fun u => (wl_X5_mayOpen ad cs lr_size u.1 u.2)) (As := [.int x1]) (rest := []) (c_X5_mayOpen l D cs ad  H.size x1 lr_size lr_at lr_fault _ hc_40) ⟨hx, hb, hml, hown, ht⟩ (cwV 1 ht g_X5_77 rfl rfl rfl (by decide +kernel) ⟨(by show 1 + 1 ≤ fr + 5; omega), (by show 8 + (2 + 11) + 20 ≤ lo + 113; omega)⟩) (va_recv hK hP (ci := 5) (q0 := 2) rfl rfl) hP hD hS hK hA [2] [0, 1, 3] rfl rfl rfl rfl (by decide) rfl hl.1 (Nat.le_of_ble_eq_true rfl) dX5_readOperand_55 ⟨Nat.zero_le _, Nat.zero_le _⟩ (fun r u H locs hq hP hD hS => ?_)
  cases hq
  have hP : va_P D classes (wl_X5_readOperand ad cs tape_size tape_bytes lr_size u_38 u_39 lr_code) H := hP.sub [0, 1, 3, 2] rfl
  have hD : va_D A (wl_X5_readOperand ad cs tape_size tape_bytes lr_size u_38 u_39 lr_code) := hD.sub [0, 1, 3, 2] rfl rfl
  refine lv_if_eq (tgt := 129) hx hb dX5_readOperand_58 (by decide) (fun c_41 => ?_) (fun c_41 => ?_)
  · have h := zk_t c_41 h
    exact W.vret hx hb hr (fun t ht2 hW => ⟨⟨(lr_size, u_38, u_39, lr_code), rfl, Option.some.inj h, by rw [ht2]; exact hP, hD⟩, hS.F ht2⟩) hS.2.2 dX5_readOperand_129 hlocks
  · have h := zk_f c_41 h
    refine lv_aload_n hx hb dX5_readOperand_61 rfl (lv_at hl 0 rfl) ?_
    refine lv_iload_n hx hb dX5_readOperand_62 rfl (lv_at hl 1 rfl) ?_
    refine lv_iconst (v := (1 : Int32)) hx hb dX5_readOperand_63 (by decide) ?_
    refine lv_iadd hx hb dX5_readOperand_64 ?_
    obtain ⟨u_42, u_43, u_44, u_45, hc_46, h⟩ := zk_o4 h
    refine zk_vvE (post := (fun u => u = (u_42, u_43, u_44, u_45))) (w1 := fun u => (wl_X5_readOperand ad cs tape_size tape_bytes u.1 u.2.1 u.2.2.1 u.2.2.2)) (As := [.int (x1 + (1 : Int32))]) (rest := []) hE hO (hr_X5_readOperand D cs ad k H.size (x1 + (1 : Int32)) tape_size tape_bytes lr_size u_38 u_39 lr_code _ hc_46) ⟨hx, hb, hml, hown, ht⟩ (cwV 1 ht g_X5_61 rfl rfl rfl (by decide +kernel) ⟨(by show fr + 1 ≤ fr + 5; omega), (by show 8 + (3 + 11) + lo ≤ lo + 113; omega)⟩) (va_recv hK hP (ci := 5) (q0 := 2) rfl rfl) hP hD hS hK hA [0, 1, 2, 3] [] rfl rfl rfl rfl (by decide) rfl hl.1 (Nat.le_of_ble_eq_true rfl) dX5_readOperand_65 ⟨Nat.zero_le _, Nat.zero_le _⟩ (fun u H locs hq hP hD hS => ?_)
    cases hq
    have hP : va_P D classes (wl_X5_readOperand ad cs tape_size tape_bytes u_42 u_43 u_44 u_45) H := hP.sub [0, 1, 2, 3] rfl
    have hD : va_D A (wl_X5_readOperand ad cs tape_size tape_bytes u_42 u_43 u_44 u_45) := hD.sub [0, 1, 2, 3] rfl rfl
    refine lv_aload_n hx hb dX5_readOperand_68 rfl (lv_at hl 0 rfl) ?_
    refine lv_iload_n hx hb dX5_readOperand_69 rfl (lv_at hl 2 rfl) ?_
    refine lv_bipush (v := (33 : Int32)) hx hb dX5_readOperand_70 (by decide) ?_
    refine lv_icmp_ne (tgt := 79) hx hb dX5_readOperand_72 (by decide) (fun c_47 => ?_) (fun c_47 => ?_)
    · have h := zk_f c_47 h
      refine lv_iconst (v := (5 : Int32)) hx hb dX5_readOperand_79 (by decide) ?_
      exact L_X5_readOperand_80 C0 hK hO hE hA hr_X5_readLevel hr_X5_readOperand  (5 : Int32) u_42 u_43 u_44 u_45 h H locs ls hP hD hS (lv_sub hl [] rfl)
    · have h := zk_t c_47 h
      refine lv_iconst (v := (4 : Int32)) hx hb dX5_readOperand_75 (by decide) ?_
      refine lv_goto (tgt := 80) hx hb dX5_readOperand_76 (by decide) ?_
      exact L_X5_readOperand_80 C0 hK hO hE hA hr_X5_readLevel hr_X5_readOperand  (4 : Int32) u_42 u_43 u_44 u_45 h H locs ls hP hD hS (lv_sub hl [] rfl)
set_option maxHeartbeats 4000000 in
set_option maxRecDepth 100000 in
theorem L_X5_readOperand_0 {p : Program} {l : Launch} {e : Env} {s : State} {m : MethodId} {args : Array Value} {below : List Frame} {meth : Method} {c : Code} {A : Nat → Prop} {D : va_G} {cs : Nat → ClassId} {ad : Nat → Nat} {tape_size : Int32} {tape_bytes : Nat → Int32} {R : Int32 × Int32 × Int32 × (Nat → Int32)} (C0 : zC p s m args meth c cX5_readOperand 3 none RX5 zW) (hK : va_K D classes (zT cs) s) {k : (Nat → Nat) × (Nat → Nat)} (hO : zO s) (hE : zE k A s) (hA : ∀ q : Nat, s.heap.size ≤ q → A q) {fr lo : Nat} {r_X5_readLevel : Int32 → Int32 → Int32 → (Nat → Int32) → Int32 → Int32 → Int32 → (Nat → Int32) → (Option (Int32 × Int32 × Int32 × (Nat → Int32)))} {r_X5_readOperand : Int32 → Int32 → (Nat → Int32) → Int32 → Int32 → Int32 → (Nat → Int32) → (Option (Int32 × Int32 × Int32 × (Nat → Int32)))} (hr_X5_readLevel : ∀ (D : va_G) (cs : Nat → ClassId) (ad : Nat → Nat) (k : (Nat → Nat) × (Nat → Nat)) (sz : Nat) (x1 : Int32) (x2 : Int32) (tape_size : Int32) (tape_bytes : Nat → Int32) (lr_size : Int32) (lr_at : Int32) (lr_fault : Int32) (lr_code : Nat → Int32) (R : Int32 × Int32 × Int32 × (Nat → Int32)) (h : r_X5_readLevel x1 x2 tape_size tape_bytes lr_size lr_at lr_fault lr_code = some R), Met l yX5_readLevel z_X5_readLevel ({ frames := fr, cells := 0, slots := 0, locals := lo } : Room) (va_Pc [.ref (ad 26), .int x1, .int x2] (zPreE k D cs (wl_X5_readLevel ad cs tape_size tape_bytes lr_size lr_at lr_fault lr_code) sz)) (Q_X5_readLevel D cs ad tape_size tape_bytes (va_A (wl_X5_readLevel ad cs tape_size tape_bytes lr_size lr_at lr_fault lr_code) sz) R) 0 0 (va_A (wl_X5_readLevel ad cs tape_size tape_bytes lr_size lr_at lr_fault lr_code) sz)) (hr_X5_readOperand : ∀ (D : va_G) (cs : Nat → ClassId) (ad : Nat → Nat) (k : (Nat → Nat) × (Nat → Nat)) (sz : Nat) (x1 : Int32) (tape_size : Int32) (tape_bytes : Nat → Int32) (lr_size : Int32) (lr_at : Int32) (lr_fault : Int32) (lr_code : Nat → Int32) (R : Int32 × Int32 × Int32 × (Nat → Int32)) (h : r_X5_readOperand x1 tape_size tape_bytes lr_size lr_at lr_fault lr_code = some R), Met l yX5_readOperand z_X5_readOperand ({ frames := fr, cells := 0, slots := 0, locals := lo } : Room) (va_Pc [.ref (ad 26), .int x1] (zPreE k D cs (wl_X5_readOperand ad cs tape_size tape_bytes lr_size lr_at lr_fault lr_code) sz)) (Q_X5_readOperand D cs ad tape_size tape_bytes (va_A (wl_X5_readOperand ad cs tape_size tape_bytes lr_size lr_at lr_fault lr_code) sz) R) 0 0 (va_A (wl_X5_readOperand ad cs tape_size tape_bytes lr_size lr_at lr_fault lr_code) sz)) (x1 : Int32) (lr_size : Int32) (lr_at : Int32) (lr_fault : Int32) (lr_code : Nat → Int32) (h : B_X5_readOperand_0 r_X5_readLevel r_X5_readOperand tape_size tape_bytes x1 lr_size lr_at lr_fault lr_code = some R) (H : Heap) (locs : List Loc) (ls : Array Slot) (hP : va_P D classes (wl_X5_readOperand ad cs tape_size tape_bytes lr_size lr_at lr_fault lr_code) H) (hD : va_D A (wl_X5_readOperand ad cs tape_size tape_bytes lr_size lr_at lr_fault lr_code)) (hS : va_S A s.heap H locs) (hl : lv_has ls 3 [(0, .ref (ad 26)), (1, .int x1)]) : W p l e ({ frames := fr + 5, cells := 0, slots := 0, locals := lo + 113 } : Room) s m args below meth c H locs 0 0 (MQ below (Q_X5_readOperand D cs ad tape_size tape_bytes A R) args s 0 0 A) (F0 m 0 ls []) := by
  obtain ⟨hx, hb, hr, hml, hown, ht, hlocks⟩ := id C0
  refine lv_aload_n hx hb dX5_readOperand_0 rfl (lv_at hl 0 rfl) ?_
  refine va_get (D := D) (ci := 5) (v := .ref (ad 23)) (C := RX5) (T := TX5) (N := 5) hx hb ht iX5 hown hK hP 2 rfl rfl 0 (by decide) (ht _ kw_274) (fun _ h9 => h9) rfl dX5_readOperand_1 ?_
  refine lv_aload_n hx hb dX5_readOperand_4 rfl (lv_at hl 0 rfl) ?_
  refine va_get (D := D) (ci := 5) (v := .int lr_at) (C := RX5) (T := TX5) (N := 5) hx hb ht iX5 hown hK hP 2 rfl rfl 3 (by decide) (ht _ kw_277) (fun _ h9 => h9) rfl dX5_readOperand_5 ?_
  obtain ⟨r_1, u_2, hc_3, h⟩ := zk_o2 h
  refine zk_vi (post := (fun r u => (r, u) = (r_1, u_2))) (w1 := fun u => (wl_X9_byteAt ad cs tape_size tape_bytes)) (As := [.int lr_at]) (rest := []) (c_X9_byteAt l D cs ad  H.size lr_at tape_size tape_bytes _ hc_3) ⟨hx, hb, hml, hown, ht⟩ (cwV 1 ht g_X5_68 rfl rfl rfl (by decide +kernel) ⟨(by show 0 + 1 ≤ fr + 5; omega), (by show 8 + (2 + 11) + 0 ≤ lo + 113; omega)⟩) (va_recv hK hP (ci := 9) (q0 := 0) rfl rfl) hP hD hS hK hA [0, 1] [2, 3] rfl rfl rfl rfl (by decide) rfl hl.1 (Nat.le_of_ble_eq_true rfl) dX5_readOperand_8 ⟨Nat.zero_le _, Nat.zero_le _⟩ (fun r u H locs hq hP hD hS => ?_)
  cases hq
  have hP : va_P D classes (wl_X5_readOperand ad cs tape_size tape_bytes lr_size lr_at lr_fault lr_code) H := hP.sub [2, 3, 0, 1] rfl
  have hD : va_D A (wl_X5_readOperand ad cs tape_size tape_bytes lr_size lr_at lr_fault lr_code) := hD.sub [2, 3, 0, 1] rfl rfl
  refine lv_istore_n (lv' := [(2, .int r_1), (0, .ref (ad 26)), (1, .int x1)]) hx hb dX5_readOperand_11 rfl hl (by decide) rfl (fun ls hl => ?_)
  refine lv_aload_n hx hb dX5_readOperand_12 rfl (lv_at hl 1 rfl) ?_
  refine va_get (D := D) (ci := 5) (v := .int lr_fault) (C := RX5) (T := TX5) (N := 5) hx hb ht iX5 hown hK hP 2 rfl rfl 4 (by decide) (ht _ kw_278) (fun _ h9 => h9) rfl dX5_readOperand_13 ?_
  refine lv_if_lt (tgt := 20) hx hb dX5_readOperand_16 (by decide) (fun c_4 => ?_) (fun c_4 => ?_)
  · have h := zk_t c_4 h
    refine lv_aload_n hx hb dX5_readOperand_20 rfl (lv_at hl 1 rfl) ?_
    refine va_get (D := D) (ci := 5) (v := .ref (ad 23)) (C := RX5) (T := TX5) (N := 5) hx hb ht iX5 hown hK hP 2 rfl rfl 0 (by decide) (ht _ kw_274) (fun _ h9 => h9) rfl dX5_readOperand_21 ?_
    refine lv_aload_n hx hb dX5_readOperand_24 rfl (lv_at hl 1 rfl) ?_
    refine va_get (D := D) (ci := 5) (v := .int lr_at) (C := RX5) (T := TX5) (N := 5) hx hb ht iX5 hown hK hP 2 rfl rfl 3 (by decide) (ht _ kw_277) (fun _ h9 => h9) rfl dX5_readOperand_25 ?_
    obtain ⟨r_5, u_6, hc_7, h⟩ := zk_o2 h
    refine zk_vi (post := (fun r u => (r, u) = (r_5, u_6))) (w1 := fun u => (wl_X9_isDigitAt ad cs tape_size tape_bytes)) (As := [.int lr_at]) (rest := []) (c_X9_isDigitAt l D cs ad  H.size lr_at tape_size tape_bytes _ hc_7) ⟨hx, hb, hml, hown, ht⟩ (cwV 1 ht g_X5_71 rfl rfl rfl (by decide +kernel) ⟨(by show 1 + 1 ≤ fr + 5; omega), (by show 8 + (3 + 11) + 21 ≤ lo + 113; omega)⟩) (va_recv hK hP (ci := 9) (q0 := 0) rfl rfl) hP hD hS hK hA [0, 1] [2, 3] rfl rfl rfl rfl (by decide) rfl hl.1 (Nat.le_of_ble_eq_true rfl) dX5_readOperand_28 ⟨Nat.zero_le _, Nat.zero_le _⟩ (fun r u H locs hq hP hD hS => ?_)
    cases hq
    have hP : va_P D classes (wl_X5_readOperand ad cs tape_size tape_bytes lr_size lr_at lr_fault lr_code) H := hP.sub [2, 3, 0, 1] rfl
    have hD : va_D A (wl_X5_readOperand ad cs tape_size tape_bytes lr_size lr_at lr_fault lr_code) := hD.sub [2, 3, 0, 1] rfl rfl
    refine lv_if_eq (tgt := 41) hx hb dX5_readOperand_31 (by decide) (fun c_8 => ?_) (fun c_8 => ?_)
    · have h := zk_t c_8 h
      refine lv_iload_n hx hb dX5_readOperand_41 rfl (lv_at hl 0 rfl) ?_
      refine lv_bipush (v := (33 : Int32)) hx hb dX5_readOperand_42 (by decide) ?_
      refine lv_icmp_eq (tgt := 53) hx hb dX5_readOperand_44 (by decide) (fun c_9 => ?_) (fun c_9 => ?_)
      · have h := zk_t c_9 h
        exact L_X5_readOperand_53 C0 hK hO hE hA hr_X5_readLevel hr_X5_readOperand  x1 r_1 lr_size lr_at lr_fault lr_code h H locs ls hP hD hS (lv_sub hl [1, 2, 0] rfl)
      · have h := zk_f c_9 h
        refine lv_iload_n hx hb dX5_readOperand_47 rfl (lv_at hl 0 rfl) ?_
        refine lv_bipush (v := (45 : Int32)) hx hb dX5_readOperand_48 (by decide) ?_
        refine lv_icmp_ne (tgt := 86) hx hb dX5_readOperand_50 (by decide) (fun c_10 => ?_) (fun c_10 => ?_)
        · have h := zk_f c_10 h
          refine lv_iload_n hx hb dX5_readOperand_86 rfl (lv_at hl 0 rfl) ?_
          refine lv_bipush (v := (40 : Int32)) hx hb dX5_readOperand_87 (by decide) ?_
          refine lv_icmp_ne (tgt := 124) hx hb dX5_readOperand_89 (by decide) (fun c_11 => ?_) (fun c_11 => ?_)
          · have h := zk_f c_11 h
            refine lv_aload_n hx hb dX5_readOperand_124 rfl (lv_at hl 1 rfl) ?_
            refine lv_iload_n hx hb dX5_readOperand_125 rfl (lv_at hl 0 rfl) ?_
            obtain ⟨u_12, u_13, u_14, u_15, hc_16, h⟩ := zk_o4 h
            refine zk_vvE (post := (fun u => u = (u_12, u_13, u_14, u_15))) (w1 := fun u => (wl_X5_readName ad cs u.1 u.2.1 u.2.2.1 u.2.2.2)) (As := [.int r_1]) (rest := []) hE hO (c_X5_readName l D cs ad k H.size r_1 lr_size lr_at lr_fault lr_code _ hc_16) ⟨hx, hb, hml, hown, ht⟩ (cwV 1 ht g_X5_80 rfl rfl rfl (by decide +kernel) ⟨(by show 4 + 1 ≤ fr + 5; omega), (by show 8 + (3 + 11) + 91 ≤ lo + 113; omega)⟩) (va_recv hK hP (ci := 5) (q0 := 2) rfl rfl) hP hD hS hK hA [2, 3] [0, 1] rfl rfl rfl rfl (by decide) rfl hl.1 (Nat.le_of_ble_eq_true rfl) dX5_readOperand_126 ⟨Nat.zero_le _, Nat.zero_le _⟩ (fun u H locs hq hP hD hS => ?_)
            cases hq
            have hP : va_P D classes (wl_X5_readOperand ad cs tape_size tape_bytes u_12 u_13 u_14 u_15) H := hP.sub [0, 1, 2, 3] rfl
            have hD : va_D A (wl_X5_readOperand ad cs tape_size tape_bytes u_12 u_13 u_14 u_15) := hD.sub [0, 1, 2, 3] rfl rfl
            exact W.vret hx hb hr (fun t ht2 hW => ⟨⟨(u_12, u_13, u_14, u_15), rfl, Option.some.inj h, by rw [ht2]; exact hP, hD⟩, hS.F ht2⟩) hS.2.2 dX5_readOperand_129 hlocks
          · have h := zk_t c_11 h
            refine lv_aload_n hx hb dX5_readOperand_92 rfl (lv_at hl 1 rfl) ?_
            refine lv_iload_n hx hb dX5_readOperand_93 rfl (lv_at hl 2 rfl) ?_
            obtain ⟨r_17, u_18, u_19, hc_20, h⟩ := zk_o3 h
            refine zk_vi (post := (fun r u => (r, u) = (r_17, u_18, u_19))) (w1 := fun u => (wl_X5_mayOpen ad cs lr_size u.1 u.2)) (As := [.int x1]) (rest := []) (c_X5_mayOpen l D cs ad  H.size x1 lr_size lr_at lr_fault _ hc_20) ⟨hx, hb, hml, hown, ht⟩ (cwV 1 ht g_X5_77 rfl rfl rfl (by decide +kernel) ⟨(by show 1 + 1 ≤ fr + 5; omega), (by show 8 + (2 + 11) + 20 ≤ lo + 113; omega)⟩) (va_recv hK hP (ci := 5) (q0 := 2) rfl rfl) hP hD hS hK hA [2] [0, 1, 3] rfl rfl rfl rfl (by decide) rfl hl.1 (Nat.le_of_ble_eq_true rfl) dX5_readOperand_94 ⟨Nat.zero_le _, Nat.zero_le _⟩ (fun r u H locs hq hP hD hS => ?_)
            cases hq
            have hP : va_P D classes (wl_X5_readOperand ad cs tape_size tape_bytes lr_size u_18 u_19 lr_code) H := hP.sub [0, 1, 3, 2] rfl
            have hD : va_D A (wl_X5_readOperand ad cs tape_size tape_bytes lr_size u_18 u_19 lr_code) := hD.sub [0, 1, 3, 2] rfl rfl
            refine lv_if_eq (tgt := 129) hx hb dX5_readOperand_97 (by decide) (fun c_21 => ?_) (fun c_21 => ?_)
            · have h := zk_t c_21 h
              exact W.vret hx hb hr (fun t ht2 hW => ⟨⟨(lr_size, u_18, u_19, lr_code), rfl, Option.some.inj h, by rw [ht2]; exact hP, hD⟩, hS.F ht2⟩) hS.2.2 dX5_readOperand_129 hlocks
            · have h := zk_f c_21 h
              refine lv_aload_n hx hb dX5_readOperand_100 rfl (lv_at hl 1 rfl) ?_
              refine lv_iconst (v := (0 : Int32)) hx hb dX5_readOperand_101 (by decide) ?_
              refine lv_iload_n hx hb dX5_readOperand_102 rfl (lv_at hl 2 rfl) ?_
              refine lv_iconst (v := (1 : Int32)) hx hb dX5_readOperand_103 (by decide) ?_
              refine lv_iadd hx hb dX5_readOperand_104 ?_
              obtain ⟨u_22, u_23, u_24, u_25, hc_26, h⟩ := zk_o4 h
              refine zk_vvE (post := (fun u => u = (u_22, u_23, u_24, u_25))) (w1 := fun u => (wl_X5_readLevel ad cs tape_size tape_bytes u.1 u.2.1 u.2.2.1 u.2.2.2)) (As := [.int (0 : Int32), .int (x1 + (1 : Int32))]) (rest := []) hE hO (hr_X5_readLevel D cs ad k H.size (0 : Int32) (x1 + (1 : Int32)) tape_size tape_bytes lr_size u_18 u_19 lr_code _ hc_26) ⟨hx, hb, hml, hown, ht⟩ (cwV 2 ht g_X5_53 rfl rfl rfl (by decide +kernel) ⟨(by show fr + 1 ≤ fr + 5; omega), (by show 8 + (5 + 11) + lo ≤ lo + 113; omega)⟩) (va_recv hK hP (ci := 5) (q0 := 2) rfl rfl) hP hD hS hK hA [0, 1, 2, 3] [] rfl rfl rfl rfl (by decide) rfl hl.1 (Nat.le_of_ble_eq_true rfl) dX5_readOperand_105 ⟨Nat.zero_le _, Nat.zero_le _⟩ (fun u H locs hq hP hD hS => ?_)
              cases hq
              have hP : va_P D classes (wl_X5_readOperand ad cs tape_size tape_bytes u_22 u_23 u_24 u_25) H := hP.sub [0, 1, 2, 3] rfl
              have hD : va_D A (wl_X5_readOperand ad cs tape_size tape_bytes u_22 u_23 u_24 u_25) := hD.sub [0, 1, 2, 3] rfl rfl
              refine lv_aload_n hx hb dX5_readOperand_108 rfl (lv_at hl 1 rfl) ?_
              refine lv_bipush (v := (41 : Int32)) hx hb dX5_readOperand_109 (by decide) ?_
              obtain ⟨r_27, u_28, hc_29, h⟩ := zk_o2 h
              refine zk_vi (post := (fun r u => (r, u) = (r_27, u_28))) (w1 := fun u => (wl_X5_accept ad cs tape_size tape_bytes u_22 u u_24)) (As := [.int (41 : Int32)]) (rest := []) (c_X5_accept l D cs ad  H.size (41 : Int32) tape_size tape_bytes u_22 u_23 u_24 _ hc_29) ⟨hx, hb, hml, hown, ht⟩ (cwV 1 ht g_X5_32 rfl rfl rfl (by decide +kernel) ⟨(by show 1 + 1 ≤ fr + 5; omega), (by show 8 + (2 + 11) + 21 ≤ lo + 113; omega)⟩) (va_recv hK hP (ci := 5) (q0 := 2) rfl rfl) hP hD hS hK hA [0, 1, 2] [3] rfl rfl rfl rfl (by decide) rfl hl.1 (Nat.le_of_ble_eq_true rfl) dX5_readOperand_111 ⟨Nat.zero_le _, Nat.zero_le _⟩ (fun r u H locs hq hP hD hS => ?_)
              cases hq
              have hP : va_P D classes (wl_X5_readOperand ad cs tape_size tape_bytes u_22 u_28 u_24 u_25) H := hP.sub [1, 2, 3, 0] rfl
              have hD : va_D A (wl_X5_readOperand ad cs tape_size tape_bytes u_22 u_28 u_24 u_25) := hD.sub [1, 2, 3, 0] rfl rfl
              refine lv_if_ne (tgt := 129) hx hb dX5_readOperand_114 (by decide) (fun c_30 => ?_) (fun c_30 => ?_)
              · have h := zk_f c_30 h
                exact W.vret hx hb hr (fun t ht2 hW => ⟨⟨(u_22, u_28, u_24, u_25), rfl, Option.some.inj h, by rw [ht2]; exact hP, hD⟩, hS.F ht2⟩) hS.2.2 dX5_readOperand_129 hlocks
              · have h := zk_t c_30 h
                refine lv_aload_n hx hb dX5_readOperand_117 rfl (lv_at hl 1 rfl) ?_
                obtain ⟨u_31, hc_32, h⟩ := zk_o1 h
                refine zk_vv (post := (fun u => u = u_31)) (w1 := fun u => (wl_X5_fail ad cs u_22 u_28 u)) (As := []) (rest := []) (c_X5_fail l D cs ad  H.size u_22 u_28 u_24 _ hc_32) ⟨hx, hb, hml, hown, ht⟩ (cwV 0 ht g_X5_39 rfl rfl rfl (by decide +kernel) ⟨(by show 0 + 1 ≤ fr + 5; omega), (by show 8 + (1 + 11) + 0 ≤ lo + 113; omega)⟩) (va_recv hK hP (ci := 5) (q0 := 2) rfl rfl) hP hD hS hK hA [2] [0, 1, 3] rfl rfl rfl rfl (by decide) rfl hl.1 (Nat.le_of_ble_eq_true rfl) dX5_readOperand_118 ⟨Nat.zero_le _, Nat.zero_le _⟩ (fun u H locs hq hP hD hS => ?_)
                cases hq
                have hP : va_P D classes (wl_X5_readOperand ad cs tape_size tape_bytes u_22 u_28 u_31 u_25) H := hP.sub [0, 1, 3, 2] rfl
                have hD : va_D A (wl_X5_readOperand ad cs tape_size tape_bytes u_22 u_28 u_31 u_25) := hD.sub [0, 1, 3, 2] rfl rfl
                refine lv_goto (tgt := 129) hx hb dX5_readOperand_121 (by decide) ?_
                exact W.vret hx hb hr (fun t ht2 hW => ⟨⟨(u_22, u_28, u_31, u_25), rfl, Option.some.inj h, by rw [ht2]; exact hP, hD⟩, hS.F ht2⟩) hS.2.2 dX5_readOperand_129 hlocks
        · have h := zk_t c_10 h
          exact L_X5_readOperand_53 C0 hK hO hE hA hr_X5_readLevel hr_X5_readOperand  x1 r_1 lr_size lr_at lr_fault lr_code h H locs ls hP hD hS (lv_sub hl [1, 2, 0] rfl)
    · have h := zk_f c_8 h
      refine lv_aload_n hx hb dX5_readOperand_34 rfl (lv_at hl 1 rfl) ?_
      obtain ⟨u_33, u_34, u_35, hc_36, h⟩ := zk_o3 h
      refine zk_vv (post := (fun u => u = (u_33, u_34, u_35))) (w1 := fun u => (wl_X5_readNumber ad cs tape_size tape_bytes u.1 u.2.1 lr_fault u.2.2)) (As := []) (rest := []) (c_X5_readNumber l D cs ad  H.size 4000 tape_size tape_bytes lr_size lr_at lr_fault lr_code _ hc_36) ⟨hx, hb, hml, hown, ht⟩ (cwV 0 ht g_X5_74 rfl rfl rfl (by decide +kernel) ⟨(by show 2 + 1 ≤ fr + 5; omega), (by show 8 + (3 + 11) + 43 ≤ lo + 113; omega)⟩) (va_recv hK hP (ci := 5) (q0 := 2) rfl rfl) hP hD hS hK hA [0, 1, 2, 3] [] rfl rfl rfl rfl (by decide) rfl hl.1 (Nat.le_of_ble_eq_true rfl) dX5_readOperand_35 ⟨Nat.zero_le _, Nat.zero_le _⟩ (fun u H locs hq hP hD hS => ?_)
      cases hq
      have hP : va_P D classes (wl_X5_readOperand ad cs tape_size tape_bytes u_33 u_34 lr_fault u_35) H := hP.sub [0, 1, 2, 3] rfl
      have hD : va_D A (wl_X5_readOperand ad cs tape_size tape_bytes u_33 u_34 lr_fault u_35) := hD.sub [0, 1, 2, 3] rfl rfl
      refine lv_goto (tgt := 129) hx hb dX5_readOperand_38 (by decide) ?_
      exact W.vret hx hb hr (fun t ht2 hW => ⟨⟨(u_33, u_34, lr_fault, u_35), rfl, Option.some.inj h, by rw [ht2]; exact hP, hD⟩, hS.F ht2⟩) hS.2.2 dX5_readOperand_129 hlocks
  · have h := zk_f c_4 h
    exact W.vret hx hb hr (fun t ht2 hW => ⟨⟨(lr_size, lr_at, lr_fault, lr_code), rfl, Option.some.inj h, by rw [ht2]; exact hP, hD⟩, hS.F ht2⟩) hS.2.2 dX5_readOperand_19 hlocks
set_option maxHeartbeats 4000000 in
set_option maxRecDepth 100000 in
theorem c_X5_readOperand (l : Launch) (D : va_G) (cs : Nat → ClassId) (ad : Nat → Nat) (k : (Nat → Nat) × (Nat → Nat)) {fr lo : Nat} {r_X5_readLevel : Int32 → Int32 → Int32 → (Nat → Int32) → Int32 → Int32 → Int32 → (Nat → Int32) → (Option (Int32 × Int32 × Int32 × (Nat → Int32)))} {r_X5_readOperand : Int32 → Int32 → (Nat → Int32) → Int32 → Int32 → Int32 → (Nat → Int32) → (Option (Int32 × Int32 × Int32 × (Nat → Int32)))} (hr_X5_readLevel : ∀ (D : va_G) (cs : Nat → ClassId) (ad : Nat → Nat) (k : (Nat → Nat) × (Nat → Nat)) (sz : Nat) (x1 : Int32) (x2 : Int32) (tape_size : Int32) (tape_bytes : Nat → Int32) (lr_size : Int32) (lr_at : Int32) (lr_fault : Int32) (lr_code : Nat → Int32) (R : Int32 × Int32 × Int32 × (Nat → Int32)) (h : r_X5_readLevel x1 x2 tape_size tape_bytes lr_size lr_at lr_fault lr_code = some R), Met l yX5_readLevel z_X5_readLevel ({ frames := fr, cells := 0, slots := 0, locals := lo } : Room) (va_Pc [.ref (ad 26), .int x1, .int x2] (zPreE k D cs (wl_X5_readLevel ad cs tape_size tape_bytes lr_size lr_at lr_fault lr_code) sz)) (Q_X5_readLevel D cs ad tape_size tape_bytes (va_A (wl_X5_readLevel ad cs tape_size tape_bytes lr_size lr_at lr_fault lr_code) sz) R) 0 0 (va_A (wl_X5_readLevel ad cs tape_size tape_bytes lr_size lr_at lr_fault lr_code) sz)) (hr_X5_readOperand : ∀ (D : va_G) (cs : Nat → ClassId) (ad : Nat → Nat) (k : (Nat → Nat) × (Nat → Nat)) (sz : Nat) (x1 : Int32) (tape_size : Int32) (tape_bytes : Nat → Int32) (lr_size : Int32) (lr_at : Int32) (lr_fault : Int32) (lr_code : Nat → Int32) (R : Int32 × Int32 × Int32 × (Nat → Int32)) (h : r_X5_readOperand x1 tape_size tape_bytes lr_size lr_at lr_fault lr_code = some R), Met l yX5_readOperand z_X5_readOperand ({ frames := fr, cells := 0, slots := 0, locals := lo } : Room) (va_Pc [.ref (ad 26), .int x1] (zPreE k D cs (wl_X5_readOperand ad cs tape_size tape_bytes lr_size lr_at lr_fault lr_code) sz)) (Q_X5_readOperand D cs ad tape_size tape_bytes (va_A (wl_X5_readOperand ad cs tape_size tape_bytes lr_size lr_at lr_fault lr_code) sz) R) 0 0 (va_A (wl_X5_readOperand ad cs tape_size tape_bytes lr_size lr_at lr_fault lr_code) sz)) (sz : Nat) (x1 : Int32) (tape_size : Int32) (tape_bytes : Nat → Int32) (lr_size : Int32) (lr_at : Int32) (lr_fault : Int32) (lr_code : Nat → Int32) (R : Int32 × Int32 × Int32 × (Nat → Int32)) (h : f_X5_readOperand  r_X5_readLevel r_X5_readOperand x1 tape_size tape_bytes lr_size lr_at lr_fault lr_code = some R) : Met l yX5_readOperand (z_X5_readOperand) ({ frames := fr + 5, cells := 0, slots := 0, locals := lo + 113 } : Room) (va_Pc [.ref (ad 26), .int x1] (zPreE k D cs (wl_X5_readOperand ad cs tape_size tape_bytes lr_size lr_at lr_fault lr_code) sz)) (Q_X5_readOperand D cs ad tape_size tape_bytes (va_A (wl_X5_readOperand ad cs tape_size tape_bytes lr_size lr_at lr_fault lr_code) sz) R) 0 0 (va_A (wl_X5_readOperand ad cs tape_size tape_bytes lr_size lr_at lr_fault lr_code) sz) := by
  refine Met.ofW (cc := cX5_readOperand) (maxL := 3) (ret := none) (by decide) rfl ?_
  intro p e s m args below meth c s₁ B hml hv
  obtain ⟨rfl, ⟨⟨hsz, hP, hK, hD0⟩, hO⟩, hE⟩ := hv
  subst hsz
  have hD := hD0.self (sz := s.heap.size)
  have C0 : zC p s m _ meth c cX5_readOperand 3 none RX5 zW := ⟨B.exec, B.bytes, B.returns, hml, findClass_of_methodNamed B.named, fun w hw => atoms_spec (ws := z_X5_readOperand) B.pre w (List.mem_cons_of_mem _ hw), B.notSynchronized⟩
  have hA : ∀ q : Nat, s.heap.size ≤ q → va_A (wl_X5_readOperand ad cs tape_size tape_bytes lr_size lr_at lr_fault lr_code) s.heap.size q := fun q h => Or.inr h
  have hl := lv_entry ([.ref (ad 26), .int x1]) (n := 3) (Nat.le_of_ble_eq_true rfl)
  rw [lg_entry_eq]
  generalize (lg_sl ([.ref (ad 26), .int x1]) ++ List.replicate (3 - (lg_sl ([.ref (ad 26), .int x1])).length) Slot.unset).toArray = ls at hl ⊢
  exact L_X5_readOperand_0 C0 hK hO hE hA hr_X5_readLevel hr_X5_readOperand  x1 lr_size lr_at lr_fault lr_code h s.heap [] ls hP hD va_S.rf hl
theorem cg_lawgrp (l : Launch) : ∀ n : Nat, (∀ (D : va_G) (cs : Nat → ClassId) (ad : Nat → Nat) (k : (Nat → Nat) × (Nat → Nat)) (sz : Nat) (x1 : Int32) (x2 : Int32) (tape_size : Int32) (tape_bytes : Nat → Int32) (lr_size : Int32) (lr_at : Int32) (lr_fault : Int32) (lr_code : Nat → Int32) (R : Int32 × Int32 × Int32 × (Nat → Int32)) (h : ((grp_lawgrp n).1) x1 x2 tape_size tape_bytes lr_size lr_at lr_fault lr_code = some R), Met l yX5_readLevel z_X5_readLevel ({ frames := 5 * n, cells := 0, slots := 0, locals := 113 * n } : Room) (va_Pc [.ref (ad 26), .int x1, .int x2] (zPreE k D cs (wl_X5_readLevel ad cs tape_size tape_bytes lr_size lr_at lr_fault lr_code) sz)) (Q_X5_readLevel D cs ad tape_size tape_bytes (va_A (wl_X5_readLevel ad cs tape_size tape_bytes lr_size lr_at lr_fault lr_code) sz) R) 0 0 (va_A (wl_X5_readLevel ad cs tape_size tape_bytes lr_size lr_at lr_fault lr_code) sz)) ∧ (∀ (D : va_G) (cs : Nat → ClassId) (ad : Nat → Nat) (k : (Nat → Nat) × (Nat → Nat)) (sz : Nat) (x1 : Int32) (tape_size : Int32) (tape_bytes : Nat → Int32) (lr_size : Int32) (lr_at : Int32) (lr_fault : Int32) (lr_code : Nat → Int32) (R : Int32 × Int32 × Int32 × (Nat → Int32)) (h : ((grp_lawgrp n).2) x1 tape_size tape_bytes lr_size lr_at lr_fault lr_code = some R), Met l yX5_readOperand z_X5_readOperand ({ frames := 5 * n, cells := 0, slots := 0, locals := 113 * n } : Room) (va_Pc [.ref (ad 26), .int x1] (zPreE k D cs (wl_X5_readOperand ad cs tape_size tape_bytes lr_size lr_at lr_fault lr_code) sz)) (Q_X5_readOperand D cs ad tape_size tape_bytes (va_A (wl_X5_readOperand ad cs tape_size tape_bytes lr_size lr_at lr_fault lr_code) sz) R) 0 0 (va_A (wl_X5_readOperand ad cs tape_size tape_bytes lr_size lr_at lr_fault lr_code) sz)) := by
  intro n
  induction n with
  | zero =>
    refine ⟨?_, ?_⟩ <;> (intros; rename_i h; cases h)
  | succ n ih =>
    exact ⟨(fun D cs ad  k sz x1 x2 tape_size tape_bytes lr_size lr_at lr_fault lr_code R h => c_X5_readLevel l D cs ad  k (ih.1) (ih.2) sz 4000 x1 x2 tape_size tape_bytes lr_size lr_at lr_fault lr_code R h), (fun D cs ad  k sz x1 tape_size tape_bytes lr_size lr_at lr_fault lr_code R h => c_X5_readOperand l D cs ad  k (ih.1) (ih.2) sz x1 tape_size tape_bytes lr_size lr_at lr_fault lr_code R h)⟩
theorem dX5_readLine_0 : decode cX5_readLine 0 = .ok (.aload_n 0, 1) := by decide +kernel
theorem dX5_readLine_1 : decode cX5_readLine 1 = .ok (.iconst 0, 1) := by decide +kernel
theorem dX5_readLine_2 : decode cX5_readLine 2 = .ok (.iconst 0, 1) := by decide +kernel
theorem dX5_readLine_3 : decode cX5_readLine 3 = .ok (.invokevirtual 53, 3) := by decide +kernel
theorem dX5_readLine_6 : decode cX5_readLine 6 = .ok (.aload_n 0, 1) := by decide +kernel
theorem dX5_readLine_7 : decode cX5_readLine 7 = .ok (.bipush 63, 2) := by decide +kernel
theorem dX5_readLine_9 : decode cX5_readLine 9 = .ok (.invokevirtual 32, 3) := by decide +kernel
theorem dX5_readLine_12 : decode cX5_readLine 12 = .ok (.ifCond .eq 50, 3) := by decide +kernel
theorem dX5_readLine_15 : decode cX5_readLine 15 = .ok (.aload_n 0, 1) := by decide +kernel
theorem dX5_readLine_16 : decode cX5_readLine 16 = .ok (.getfield 23, 3) := by decide +kernel
theorem dX5_readLine_19 : decode cX5_readLine 19 = .ok (.istore_n 1, 1) := by decide +kernel
theorem dX5_readLine_20 : decode cX5_readLine 20 = .ok (.aload_n 0, 1) := by decide +kernel
theorem dX5_readLine_21 : decode cX5_readLine 21 = .ok (.iconst 3, 1) := by decide +kernel
theorem dX5_readLine_22 : decode cX5_readLine 22 = .ok (.invokevirtual 57, 3) := by decide +kernel
theorem dX5_readLine_25 : decode cX5_readLine 25 = .ok (.aload_n 0, 1) := by decide +kernel
theorem dX5_readLine_26 : decode cX5_readLine 26 = .ok (.iconst 0, 1) := by decide +kernel
theorem dX5_readLine_27 : decode cX5_readLine 27 = .ok (.iconst 0, 1) := by decide +kernel
theorem dX5_readLine_28 : decode cX5_readLine 28 = .ok (.invokevirtual 53, 3) := by decide +kernel
theorem dX5_readLine_31 : decode cX5_readLine 31 = .ok (.aload_n 0, 1) := by decide +kernel
theorem dX5_readLine_32 : decode cX5_readLine 32 = .ok (.iconst 2, 1) := by decide +kernel
theorem dX5_readLine_33 : decode cX5_readLine 33 = .ok (.invokevirtual 57, 3) := by decide +kernel
theorem dX5_readLine_36 : decode cX5_readLine 36 = .ok (.iload_n 1, 1) := by decide +kernel
theorem dX5_readLine_37 : decode cX5_readLine 37 = .ok (.aload_n 0, 1) := by decide +kernel
theorem dX5_readLine_38 : decode cX5_readLine 38 = .ok (.getfield 9, 3) := by decide +kernel
theorem dX5_readLine_41 : decode cX5_readLine 41 = .ok (.arraylength, 1) := by decide +kernel
theorem dX5_readLine_42 : decode cX5_readLine 42 = .ok (.if_icmp .ge 17, 3) := by decide +kernel
theorem dX5_readLine_45 : decode cX5_readLine 45 = .ok (.aload_n 0, 1) := by decide +kernel
theorem dX5_readLine_46 : decode cX5_readLine 46 = .ok (.getfield 9, 3) := by decide +kernel
theorem dX5_readLine_49 : decode cX5_readLine 49 = .ok (.iload_n 1, 1) := by decide +kernel
theorem dX5_readLine_50 : decode cX5_readLine 50 = .ok (.aload_n 0, 1) := by decide +kernel
theorem dX5_readLine_51 : decode cX5_readLine 51 = .ok (.getfield 23, 3) := by decide +kernel
theorem dX5_readLine_54 : decode cX5_readLine 54 = .ok (.iconst 5, 1) := by decide +kernel
theorem dX5_readLine_55 : decode cX5_readLine 55 = .ok (.ishl, 1) := by decide +kernel
theorem dX5_readLine_56 : decode cX5_readLine 56 = .ok (.iconst 3, 1) := by decide +kernel
theorem dX5_readLine_57 : decode cX5_readLine 57 = .ok (.ior, 1) := by decide +kernel
theorem dX5_readLine_58 : decode cX5_readLine 58 = .ok (.iastore, 1) := by decide +kernel
theorem dX5_readLine_59 : decode cX5_readLine 59 = .ok (.goto 8, 3) := by decide +kernel
theorem dX5_readLine_62 : decode cX5_readLine 62 = .ok (.aload_n 0, 1) := by decide +kernel
theorem dX5_readLine_63 : decode cX5_readLine 63 = .ok (.iconst 2, 1) := by decide +kernel
theorem dX5_readLine_64 : decode cX5_readLine 64 = .ok (.invokevirtual 57, 3) := by decide +kernel
theorem dX5_readLine_67 : decode cX5_readLine 67 = .ok (.return_, 1) := by decide +kernel
abbrev z_X5_readLine : List Cond := .code yX5_readLine cX5_readLine 2 none :: zW
abbrev wl_X5_readLine (ad : Nat → Nat) (cs : Nat → ClassId)  (tape_size : Int32) (tape_bytes : Nat → Int32) (lr_size : Int32) (lr_at : Int32) (lr_fault : Int32) (lr_code : Nat → Int32) : va_W := [((ad 23), .inr (9, [.ref (ad 24), .int tape_size])), ((ad 24), .inl (cs 0, 120, .inl tape_bytes)), ((ad 26), .inr (5, [.ref (ad 23), .ref (ad 27), .int lr_size, .int lr_at, .int lr_fault])), ((ad 27), .inl (cs 0, 121, .inl lr_code))]
def Q_X5_readLine (D : va_G) (cs : Nat → ClassId) (ad : Nat → Nat)  (tape_size : Int32) (tape_bytes : Nat → Int32) (A : Nat → Prop) (R : Int32 × Int32 × Int32 × (Nat → Int32)) : Array Value → State → Outcome → State → Prop :=
  va_Qv (fun u : Int32 × Int32 × Int32 × (Nat → Int32) => u = R) (fun (u : Int32 × Int32 × Int32 × (Nat → Int32)) (t : State) => va_P D classes (wl_X5_readLine ad cs tape_size tape_bytes u.1 u.2.1 u.2.2.1 u.2.2.2) t.heap ∧ va_D A (wl_X5_readLine ad cs tape_size tape_bytes u.1 u.2.1 u.2.2.1 u.2.2.2)) A
abbrev rm_X5_readLine : Room := { frames := 301, cells := 0, slots := 0, locals := 6804 }
def B_X5_readLine_59    (tape_size : Int32) (tape_bytes : Nat → Int32) (lr_size : Int32) (lr_at : Int32) (lr_fault : Int32) (lr_code : Nat → Int32) : Option (Int32 × Int32 × Int32 × (Nat → Int32)) :=
  (some (lr_size, lr_at, lr_fault, lr_code))
def B_X5_readLine_0    (tape_size : Int32) (tape_bytes : Nat → Int32) (lr_size : Int32) (lr_at : Int32) (lr_fault : Int32) (lr_code : Nat → Int32) : Option (Int32 × Int32 × Int32 × (Nat → Int32)) :=
  (zk_b4 ((grp_lawgrp 60).1 (0 : Int32) (0 : Int32) tape_size tape_bytes lr_size lr_at lr_fault lr_code) (fun u_1 u_2 u_3 u_4 => (zk_b2 (f_X5_accept (63 : Int32) tape_size tape_bytes u_1 u_2 u_3) (fun r_6 u_7 => (if r_6 = 0 then (zk_b2 (f_X5_emit (2 : Int32) u_1 u_7 u_3 u_4) (fun u_10 u_11 => (some (u_10, u_7, u_3, u_11)))) else (zk_b2 (f_X5_emit (3 : Int32) u_1 u_7 u_3 u_4) (fun u_13 u_14 => (zk_b4 ((grp_lawgrp 60).1 (0 : Int32) (0 : Int32) tape_size tape_bytes u_13 u_7 u_3 u_14) (fun u_16 u_17 u_18 u_19 => (zk_b2 (f_X5_emit (2 : Int32) u_16 u_17 u_18 u_19) (fun u_21 u_22 => (if (121 : Int32) ≤ u_1 then (B_X5_readLine_59 tape_size tape_bytes u_21 u_17 u_18 u_22) else (zk_let ((u_21 <<< ((5 : Int32) &&& 31)) ||| (3 : Int32)) (fun v_25 => (if (u_1 < 0 ∨ 121 ≤ u_1.toNatClampNeg) then none else (zk_let (upd u_22 u_1.toNatClampNeg v_25) (fun f_27 => (B_X5_readLine_59 tape_size tape_bytes u_21 u_17 u_18 f_27))))))))))))))))))
def f_X5_readLine    (tape_size : Int32) (tape_bytes : Nat → Int32) (lr_size : Int32) (lr_at : Int32) (lr_fault : Int32) (lr_code : Nat → Int32) : Option (Int32 × Int32 × Int32 × (Nat → Int32)) := B_X5_readLine_0   tape_size tape_bytes  lr_size lr_at lr_fault lr_code
set_option maxHeartbeats 4000000 in
set_option maxRecDepth 100000 in
theorem L_X5_readLine_59 {p : Program} {l : Launch} {e : Env} {s : State} {m : MethodId} {args : Array Value} {below : List Frame} {meth : Method} {c : Code} {A : Nat → Prop} {D : va_G} {cs : Nat → ClassId} {ad : Nat → Nat} {tape_size : Int32} {tape_bytes : Nat → Int32} {R : Int32 × Int32 × Int32 × (Nat → Int32)} (C0 : zC p s m args meth c cX5_readLine 2 none RX5 zW) (hK : va_K D classes (zT cs) s) {k : (Nat → Nat) × (Nat → Nat)} (hO : zO s) (hE : zE k A s) (hA : ∀ q : Nat, s.heap.size ≤ q → A q) (lr_size : Int32) (lr_at : Int32) (lr_fault : Int32) (lr_code : Nat → Int32) (h : B_X5_readLine_59 tape_size tape_bytes lr_size lr_at lr_fault lr_code = some R) (H : Heap) (locs : List Loc) (ls : Array Slot) (hP : va_P D classes (wl_X5_readLine ad cs tape_size tape_bytes lr_size lr_at lr_fault lr_code) H) (hD : va_D A (wl_X5_readLine ad cs tape_size tape_bytes lr_size lr_at lr_fault lr_code)) (hS : va_S A s.heap H locs) (hl : lv_has ls 2 []) : W p l e rm_X5_readLine s m args below meth c H locs 0 0 (MQ below (Q_X5_readLine D cs ad tape_size tape_bytes A R) args s 0 0 A) (F0 m 59 ls []) := by
  obtain ⟨hx, hb, hr, hml, hown, ht, hlocks⟩ := id C0
  refine lv_goto (tgt := 67) hx hb dX5_readLine_59 (by decide) ?_
  exact W.vret hx hb hr (fun t ht2 hW => ⟨⟨(lr_size, lr_at, lr_fault, lr_code), rfl, Option.some.inj h, by rw [ht2]; exact hP, hD⟩, hS.F ht2⟩) hS.2.2 dX5_readLine_67 hlocks
set_option maxHeartbeats 4000000 in
set_option maxRecDepth 100000 in
theorem L_X5_readLine_0 {p : Program} {l : Launch} {e : Env} {s : State} {m : MethodId} {args : Array Value} {below : List Frame} {meth : Method} {c : Code} {A : Nat → Prop} {D : va_G} {cs : Nat → ClassId} {ad : Nat → Nat} {tape_size : Int32} {tape_bytes : Nat → Int32} {R : Int32 × Int32 × Int32 × (Nat → Int32)} (C0 : zC p s m args meth c cX5_readLine 2 none RX5 zW) (hK : va_K D classes (zT cs) s) {k : (Nat → Nat) × (Nat → Nat)} (hO : zO s) (hE : zE k A s) (hA : ∀ q : Nat, s.heap.size ≤ q → A q) (lr_size : Int32) (lr_at : Int32) (lr_fault : Int32) (lr_code : Nat → Int32) (h : B_X5_readLine_0 tape_size tape_bytes lr_size lr_at lr_fault lr_code = some R) (H : Heap) (locs : List Loc) (ls : Array Slot) (hP : va_P D classes (wl_X5_readLine ad cs tape_size tape_bytes lr_size lr_at lr_fault lr_code) H) (hD : va_D A (wl_X5_readLine ad cs tape_size tape_bytes lr_size lr_at lr_fault lr_code)) (hS : va_S A s.heap H locs) (hl : lv_has ls 2 [(0, .ref (ad 26))]) : W p l e rm_X5_readLine s m args below meth c H locs 0 0 (MQ below (Q_X5_readLine D cs ad tape_size tape_bytes A R) args s 0 0 A) (F0 m 0 ls []) := by
  obtain ⟨hx, hb, hr, hml, hown, ht, hlocks⟩ := id C0
  refine lv_aload_n hx hb dX5_readLine_0 rfl (lv_at hl 0 rfl) ?_
  refine lv_iconst (v := (0 : Int32)) hx hb dX5_readLine_1 (by decide) ?_
  refine lv_iconst (v := (0 : Int32)) hx hb dX5_readLine_2 (by decide) ?_
  obtain ⟨u_1, u_2, u_3, u_4, hc_5, h⟩ := zk_o4 h
  refine zk_vvE (post := (fun u => u = (u_1, u_2, u_3, u_4))) (w1 := fun u => (wl_X5_readLevel ad cs tape_size tape_bytes u.1 u.2.1 u.2.2.1 u.2.2.2)) (As := [.int (0 : Int32), .int (0 : Int32)]) (rest := []) hE hO (((cg_lawgrp l 60).1) D cs ad k H.size (0 : Int32) (0 : Int32) tape_size tape_bytes lr_size lr_at lr_fault lr_code _ hc_5) ⟨hx, hb, hml, hown, ht⟩ (cwV 2 ht g_X5_53 rfl rfl rfl (by decide +kernel) ⟨Nat.le_of_ble_eq_true rfl, Nat.le_of_ble_eq_true rfl⟩) (va_recv hK hP (ci := 5) (q0 := 2) rfl rfl) hP hD hS hK hA [0, 1, 2, 3] [] rfl rfl rfl rfl (by decide) rfl hl.1 (Nat.le_of_ble_eq_true rfl) dX5_readLine_3 ⟨Nat.zero_le _, Nat.zero_le _⟩ (fun u H locs hq hP hD hS => ?_)
  cases hq
  have hP : va_P D classes (wl_X5_readLine ad cs tape_size tape_bytes u_1 u_2 u_3 u_4) H := hP.sub [0, 1, 2, 3] rfl
  have hD : va_D A (wl_X5_readLine ad cs tape_size tape_bytes u_1 u_2 u_3 u_4) := hD.sub [0, 1, 2, 3] rfl rfl
  refine lv_aload_n hx hb dX5_readLine_6 rfl (lv_at hl 0 rfl) ?_
  refine lv_bipush (v := (63 : Int32)) hx hb dX5_readLine_7 (by decide) ?_
  obtain ⟨r_6, u_7, hc_8, h⟩ := zk_o2 h
  refine zk_vi (post := (fun r u => (r, u) = (r_6, u_7))) (w1 := fun u => (wl_X5_accept ad cs tape_size tape_bytes u_1 u u_3)) (As := [.int (63 : Int32)]) (rest := []) (c_X5_accept l D cs ad  H.size (63 : Int32) tape_size tape_bytes u_1 u_2 u_3 _ hc_8) ⟨hx, hb, hml, hown, ht⟩ (cwV 1 ht g_X5_32 rfl rfl rfl (by decide +kernel) ⟨Nat.le_of_ble_eq_true rfl, Nat.le_of_ble_eq_true rfl⟩) (va_recv hK hP (ci := 5) (q0 := 2) rfl rfl) hP hD hS hK hA [0, 1, 2] [3] rfl rfl rfl rfl (by decide) rfl hl.1 (Nat.le_of_ble_eq_true rfl) dX5_readLine_9 ⟨Nat.zero_le _, Nat.zero_le _⟩ (fun r u H locs hq hP hD hS => ?_)
  cases hq
  have hP : va_P D classes (wl_X5_readLine ad cs tape_size tape_bytes u_1 u_7 u_3 u_4) H := hP.sub [1, 2, 3, 0] rfl
  have hD : va_D A (wl_X5_readLine ad cs tape_size tape_bytes u_1 u_7 u_3 u_4) := hD.sub [1, 2, 3, 0] rfl rfl
  refine lv_if_eq (tgt := 62) hx hb dX5_readLine_12 (by decide) (fun c_9 => ?_) (fun c_9 => ?_)
  · have h := zk_t c_9 h
    refine lv_aload_n hx hb dX5_readLine_62 rfl (lv_at hl 0 rfl) ?_
    refine lv_iconst (v := (2 : Int32)) hx hb dX5_readLine_63 (by decide) ?_
    obtain ⟨u_10, u_11, hc_12, h⟩ := zk_o2 h
    refine zk_vv (post := (fun u => u = (u_10, u_11))) (w1 := fun u => (wl_X5_emit ad cs u.1 u_7 u_3 u.2)) (As := [.int (2 : Int32)]) (rest := []) (c_X5_emit l D cs ad  H.size (2 : Int32) u_1 u_7 u_3 u_4 _ hc_12) ⟨hx, hb, hml, hown, ht⟩ (cwV 1 ht g_X5_57 rfl rfl rfl (by decide +kernel) ⟨Nat.le_of_ble_eq_true rfl, Nat.le_of_ble_eq_true rfl⟩) (va_recv hK hP (ci := 5) (q0 := 2) rfl rfl) hP hD hS hK hA [2, 3] [0, 1] rfl rfl rfl rfl (by decide) rfl hl.1 (Nat.le_of_ble_eq_true rfl) dX5_readLine_64 ⟨Nat.zero_le _, Nat.zero_le _⟩ (fun u H locs hq hP hD hS => ?_)
    cases hq
    have hP : va_P D classes (wl_X5_readLine ad cs tape_size tape_bytes u_10 u_7 u_3 u_11) H := hP.sub [0, 1, 2, 3] rfl
    have hD : va_D A (wl_X5_readLine ad cs tape_size tape_bytes u_10 u_7 u_3 u_11) := hD.sub [0, 1, 2, 3] rfl rfl
    exact W.vret hx hb hr (fun t ht2 hW => ⟨⟨(u_10, u_7, u_3, u_11), rfl, Option.some.inj h, by rw [ht2]; exact hP, hD⟩, hS.F ht2⟩) hS.2.2 dX5_readLine_67 hlocks
  · have h := zk_f c_9 h
    refine lv_aload_n hx hb dX5_readLine_15 rfl (lv_at hl 0 rfl) ?_
    refine va_get (D := D) (ci := 5) (v := .int u_1) (C := RX5) (T := TX5) (N := 5) hx hb ht iX5 hown hK hP 2 rfl rfl 2 (by decide) (ht _ kw_276) (fun _ h9 => h9) rfl dX5_readLine_16 ?_
    refine lv_istore_n (lv' := [(1, .int u_1), (0, .ref (ad 26))]) hx hb dX5_readLine_19 rfl hl (by decide) rfl (fun ls hl => ?_)
    refine lv_aload_n hx hb dX5_readLine_20 rfl (lv_at hl 1 rfl) ?_
    refine lv_iconst (v := (3 : Int32)) hx hb dX5_readLine_21 (by decide) ?_
    obtain ⟨u_13, u_14, hc_15, h⟩ := zk_o2 h
    refine zk_vv (post := (fun u => u = (u_13, u_14))) (w1 := fun u => (wl_X5_emit ad cs u.1 u_7 u_3 u.2)) (As := [.int (3 : Int32)]) (rest := []) (c_X5_emit l D cs ad  H.size (3 : Int32) u_1 u_7 u_3 u_4 _ hc_15) ⟨hx, hb, hml, hown, ht⟩ (cwV 1 ht g_X5_57 rfl rfl rfl (by decide +kernel) ⟨Nat.le_of_ble_eq_true rfl, Nat.le_of_ble_eq_true rfl⟩) (va_recv hK hP (ci := 5) (q0 := 2) rfl rfl) hP hD hS hK hA [2, 3] [0, 1] rfl rfl rfl rfl (by decide) rfl hl.1 (Nat.le_of_ble_eq_true rfl) dX5_readLine_22 ⟨Nat.zero_le _, Nat.zero_le _⟩ (fun u H locs hq hP hD hS => ?_)
    cases hq
    have hP : va_P D classes (wl_X5_readLine ad cs tape_size tape_bytes u_13 u_7 u_3 u_14) H := hP.sub [0, 1, 2, 3] rfl
    have hD : va_D A (wl_X5_readLine ad cs tape_size tape_bytes u_13 u_7 u_3 u_14) := hD.sub [0, 1, 2, 3] rfl rfl
    refine lv_aload_n hx hb dX5_readLine_25 rfl (lv_at hl 1 rfl) ?_
    refine lv_iconst (v := (0 : Int32)) hx hb dX5_readLine_26 (by decide) ?_
    refine lv_iconst (v := (0 : Int32)) hx hb dX5_readLine_27 (by decide) ?_
    obtain ⟨u_16, u_17, u_18, u_19, hc_20, h⟩ := zk_o4 h
    refine zk_vvE (post := (fun u => u = (u_16, u_17, u_18, u_19))) (w1 := fun u => (wl_X5_readLevel ad cs tape_size tape_bytes u.1 u.2.1 u.2.2.1 u.2.2.2)) (As := [.int (0 : Int32), .int (0 : Int32)]) (rest := []) hE hO (((cg_lawgrp l 60).1) D cs ad k H.size (0 : Int32) (0 : Int32) tape_size tape_bytes u_13 u_7 u_3 u_14 _ hc_20) ⟨hx, hb, hml, hown, ht⟩ (cwV 2 ht g_X5_53 rfl rfl rfl (by decide +kernel) ⟨Nat.le_of_ble_eq_true rfl, Nat.le_of_ble_eq_true rfl⟩) (va_recv hK hP (ci := 5) (q0 := 2) rfl rfl) hP hD hS hK hA [0, 1, 2, 3] [] rfl rfl rfl rfl (by decide) rfl hl.1 (Nat.le_of_ble_eq_true rfl) dX5_readLine_28 ⟨Nat.zero_le _, Nat.zero_le _⟩ (fun u H locs hq hP hD hS => ?_)
    cases hq
    have hP : va_P D classes (wl_X5_readLine ad cs tape_size tape_bytes u_16 u_17 u_18 u_19) H := hP.sub [0, 1, 2, 3] rfl
    have hD : va_D A (wl_X5_readLine ad cs tape_size tape_bytes u_16 u_17 u_18 u_19) := hD.sub [0, 1, 2, 3] rfl rfl
    refine lv_aload_n hx hb dX5_readLine_31 rfl (lv_at hl 1 rfl) ?_
    refine lv_iconst (v := (2 : Int32)) hx hb dX5_readLine_32 (by decide) ?_
    obtain ⟨u_21, u_22, hc_23, h⟩ := zk_o2 h
    refine zk_vv (post := (fun u => u = (u_21, u_22))) (w1 := fun u => (wl_X5_emit ad cs u.1 u_17 u_18 u.2)) (As := [.int (2 : Int32)]) (rest := []) (c_X5_emit l D cs ad  H.size (2 : Int32) u_16 u_17 u_18 u_19 _ hc_23) ⟨hx, hb, hml, hown, ht⟩ (cwV 1 ht g_X5_57 rfl rfl rfl (by decide +kernel) ⟨Nat.le_of_ble_eq_true rfl, Nat.le_of_ble_eq_true rfl⟩) (va_recv hK hP (ci := 5) (q0 := 2) rfl rfl) hP hD hS hK hA [2, 3] [0, 1] rfl rfl rfl rfl (by decide) rfl hl.1 (Nat.le_of_ble_eq_true rfl) dX5_readLine_33 ⟨Nat.zero_le _, Nat.zero_le _⟩ (fun u H locs hq hP hD hS => ?_)
    cases hq
    have hP : va_P D classes (wl_X5_readLine ad cs tape_size tape_bytes u_21 u_17 u_18 u_22) H := hP.sub [0, 1, 2, 3] rfl
    have hD : va_D A (wl_X5_readLine ad cs tape_size tape_bytes u_21 u_17 u_18 u_22) := hD.sub [0, 1, 2, 3] rfl rfl
    refine lv_iload_n hx hb dX5_readLine_36 rfl (lv_at hl 0 rfl) ?_
    refine lv_aload_n hx hb dX5_readLine_37 rfl (lv_at hl 1 rfl) ?_
    refine va_get (D := D) (ci := 5) (v := .ref (ad 27)) (C := RX5) (T := TX5) (N := 5) hx hb ht iX5 hown hK hP 2 rfl rfl 1 (by decide) (ht _ kw_275) (fun _ h9 => h9) rfl dX5_readLine_38 ?_
    refine va_alen (v := (121 : Int32)) hx hb hK hP 3 0 rfl rfl rfl dX5_readLine_41 ?_
    refine lv_icmp_ge (tgt := 59) hx hb dX5_readLine_42 (by decide) (fun c_24 => ?_) (fun c_24 => ?_)
    · have h := zk_t c_24 h
      exact L_X5_readLine_59 C0 hK hO hE hA   u_21 u_17 u_18 u_22 h H locs ls hP hD hS (lv_sub hl [] rfl)
    · have h := zk_f c_24 h
      refine lv_aload_n hx hb dX5_readLine_45 rfl (lv_at hl 1 rfl) ?_
      refine va_get (D := D) (ci := 5) (v := .ref (ad 27)) (C := RX5) (T := TX5) (N := 5) hx hb ht iX5 hown hK hP 2 rfl rfl 1 (by decide) (ht _ kw_275) (fun _ h9 => h9) rfl dX5_readLine_46 ?_
      refine lv_iload_n hx hb dX5_readLine_49 rfl (lv_at hl 0 rfl) ?_
      refine lv_aload_n hx hb dX5_readLine_50 rfl (lv_at hl 1 rfl) ?_
      refine va_get (D := D) (ci := 5) (v := .int u_21) (C := RX5) (T := TX5) (N := 5) hx hb ht iX5 hown hK hP 2 rfl rfl 2 (by decide) (ht _ kw_276) (fun _ h9 => h9) rfl dX5_readLine_51 ?_
      refine lv_iconst (v := (5 : Int32)) hx hb dX5_readLine_54 (by decide) ?_
      refine lv_ishl hx hb dX5_readLine_55 ?_
      refine lv_iconst (v := (3 : Int32)) hx hb dX5_readLine_56 (by decide) ?_
      refine lv_ior hx hb dX5_readLine_57 ?_
      obtain ⟨v_25, ev_25, h⟩ := zk_lt h
      refine W.eq (g2 := F0 m 58 ls [.int v_25, .int u_1, .ref (ad 27)]) (by rw [ev_25]) ?_
      obtain ⟨g_26, h⟩ := zk_gd h
      obtain ⟨f_27, ef_27, h⟩ := zk_lt h
      refine va_iast hx hb hK hP hD hS 3 0 rfl rfl g_26 dX5_readLine_58 (fun H locs hP hD hS => ?_)
      have hP : va_P D classes (wl_X5_readLine ad cs tape_size tape_bytes u_21 u_17 u_18 f_27) H := by rw [ef_27]; exact hP
      have hD : va_D A (wl_X5_readLine ad cs tape_size tape_bytes u_21 u_17 u_18 f_27) := by rw [ef_27]; exact hD
      exact L_X5_readLine_59 C0 hK hO hE hA   u_21 u_17 u_18 f_27 h H locs ls hP hD hS (lv_sub hl [] rfl)
set_option maxHeartbeats 4000000 in
set_option maxRecDepth 100000 in
theorem c_X5_readLine (l : Launch) (D : va_G) (cs : Nat → ClassId) (ad : Nat → Nat) (k : (Nat → Nat) × (Nat → Nat)) (sz : Nat)  (tape_size : Int32) (tape_bytes : Nat → Int32) (lr_size : Int32) (lr_at : Int32) (lr_fault : Int32) (lr_code : Nat → Int32) (R : Int32 × Int32 × Int32 × (Nat → Int32)) (h : f_X5_readLine    tape_size tape_bytes lr_size lr_at lr_fault lr_code = some R) : Met l yX5_readLine (z_X5_readLine) rm_X5_readLine (va_Pc [.ref (ad 26)] (zPreE k D cs (wl_X5_readLine ad cs tape_size tape_bytes lr_size lr_at lr_fault lr_code) sz)) (Q_X5_readLine D cs ad tape_size tape_bytes (va_A (wl_X5_readLine ad cs tape_size tape_bytes lr_size lr_at lr_fault lr_code) sz) R) 0 0 (va_A (wl_X5_readLine ad cs tape_size tape_bytes lr_size lr_at lr_fault lr_code) sz) := by
  refine Met.ofW (cc := cX5_readLine) (maxL := 2) (ret := none) (by decide) rfl ?_
  intro p e s m args below meth c s₁ B hml hv
  obtain ⟨rfl, ⟨⟨hsz, hP, hK, hD0⟩, hO⟩, hE⟩ := hv
  subst hsz
  have hD := hD0.self (sz := s.heap.size)
  have C0 : zC p s m _ meth c cX5_readLine 2 none RX5 zW := ⟨B.exec, B.bytes, B.returns, hml, findClass_of_methodNamed B.named, fun w hw => atoms_spec (ws := z_X5_readLine) B.pre w (List.mem_cons_of_mem _ hw), B.notSynchronized⟩
  have hA : ∀ q : Nat, s.heap.size ≤ q → va_A (wl_X5_readLine ad cs tape_size tape_bytes lr_size lr_at lr_fault lr_code) s.heap.size q := fun q h => Or.inr h
  have hl := lv_entry ([.ref (ad 26)]) (n := 2) (Nat.le_of_ble_eq_true rfl)
  rw [lg_entry_eq]
  generalize (lg_sl ([.ref (ad 26)]) ++ List.replicate (2 - (lg_sl ([.ref (ad 26)])).length) Slot.unset).toArray = ls at hl ⊢
  exact L_X5_readLine_0 C0 hK hO hE hA    lr_size lr_at lr_fault lr_code h s.heap [] ls hP hD va_S.rf hl
theorem kw_93 : Cond.initialized "java/lang/System" ∈ zW := zwI (i := 93) (by decide +kernel) (by decide +kernel)
theorem kw_239 : Cond.fieldLink RX5 36 "AlreadyJudged$Tape" "size" "I" ∈ zW := zwI (i := 239) (by decide +kernel) (by decide +kernel)
theorem kw_541 : Cond.methodLink RX5 29 yX5_readLine ∈ zW := zwI (i := 541) (by decide +kernel) (by decide +kernel)
theorem kw_542 : Cond.instanceMethod yX5_readLine ∈ zW := zwI (i := 542) (by decide +kernel) (by decide +kernel)
theorem kw_543 : Cond.selects RX5 yX5_readLine yX5_readLine ∈ zW := zwI (i := 543) (by decide +kernel) (by decide +kernel)
theorem kw_544 : Cond.code yX5_readLine cX5_readLine 2 none ∈ zW := zwI (i := 544) (by decide +kernel) (by decide +kernel)
theorem kw_650 : Cond.classLink RX5 42 RX4 ∈ zW := zwI (i := 650) (by decide +kernel) (by decide +kernel)
theorem kw_651 : Cond.instantiable RX4 1 ∈ zW := zwI (i := 651) (by decide +kernel) (by decide +kernel)
theorem kw_652 : Cond.methodLink RX5 44 yJ7_copyOf_59c91 ∈ zW := zwI (i := 652) (by decide +kernel) (by decide +kernel)
theorem kw_653 : Cond.static yJ7_copyOf_59c91 ∈ zW := zwI (i := 653) (by decide +kernel) (by decide +kernel)
theorem kw_654 : Cond.code yJ7_copyOf_59c91 cJ7_copyOf_59c91 3 (some (.array .int)) ∈ zW := zwI (i := 654) (by decide +kernel) (by decide +kernel)
theorem kw_662 : Cond.methodLink RJ7 304 Lib.Math.min.name ∈ zW := zwI (i := 662) (by decide +kernel) (by decide +kernel)
theorem kw_663 : Cond.methodLink RJ7 150 arraycopyName ∈ zW := zwI (i := 663) (by decide +kernel) (by decide +kernel)
theorem kw_664 : Cond.static arraycopyName ∈ zW := zwI (i := 664) (by decide +kernel) (by decide +kernel)
theorem kw_665 : Cond.native arraycopyName ∈ zW := zwI (i := 665) (by decide +kernel) (by decide +kernel)
theorem kw_666 : Cond.methodLink RX5 50 yX4_init ∈ zW := zwI (i := 666) (by decide +kernel) (by decide +kernel)
theorem kw_667 : Cond.instanceMethod yX4_init ∈ zW := zwI (i := 667) (by decide +kernel) (by decide +kernel)
theorem kw_668 : Cond.code yX4_init cX4_init 2 none ∈ zW := zwI (i := 668) (by decide +kernel) (by decide +kernel)
theorem dX5_read_0 : decode cX5_read 0 = .ok (.aload_n 0, 1) := by decide +kernel
theorem dX5_read_1 : decode cX5_read 1 = .ok (.iconst 0, 1) := by decide +kernel
theorem dX5_read_2 : decode cX5_read 2 = .ok (.putfield 19, 3) := by decide +kernel
theorem dX5_read_5 : decode cX5_read 5 = .ok (.aload_n 0, 1) := by decide +kernel
theorem dX5_read_6 : decode cX5_read 6 = .ok (.iconst 0, 1) := by decide +kernel
theorem dX5_read_7 : decode cX5_read 7 = .ok (.putfield 23, 3) := by decide +kernel
theorem dX5_read_10 : decode cX5_read 10 = .ok (.aload_n 0, 1) := by decide +kernel
theorem dX5_read_11 : decode cX5_read 11 = .ok (.iconst (-1), 1) := by decide +kernel
theorem dX5_read_12 : decode cX5_read 12 = .ok (.putfield 26, 3) := by decide +kernel
theorem dX5_read_15 : decode cX5_read 15 = .ok (.aload_n 0, 1) := by decide +kernel
theorem dX5_read_16 : decode cX5_read 16 = .ok (.invokevirtual 29, 3) := by decide +kernel
theorem dX5_read_19 : decode cX5_read 19 = .ok (.iconst 0, 1) := by decide +kernel
theorem dX5_read_20 : decode cX5_read 20 = .ok (.istore_n 1, 1) := by decide +kernel
theorem dX5_read_21 : decode cX5_read 21 = .ok (.iload_n 1, 1) := by decide +kernel
theorem dX5_read_22 : decode cX5_read 22 = .ok (.bipush 120, 2) := by decide +kernel
theorem dX5_read_24 : decode cX5_read 24 = .ok (.if_icmp .ge 22, 3) := by decide +kernel
theorem dX5_read_27 : decode cX5_read 27 = .ok (.aload_n 0, 1) := by decide +kernel
theorem dX5_read_28 : decode cX5_read 28 = .ok (.bipush 59, 2) := by decide +kernel
theorem dX5_read_30 : decode cX5_read 30 = .ok (.invokevirtual 32, 3) := by decide +kernel
theorem dX5_read_33 : decode cX5_read 33 = .ok (.ifCond .eq 13, 3) := by decide +kernel
theorem dX5_read_36 : decode cX5_read 36 = .ok (.aload_n 0, 1) := by decide +kernel
theorem dX5_read_37 : decode cX5_read 37 = .ok (.invokevirtual 29, 3) := by decide +kernel
theorem dX5_read_40 : decode cX5_read 40 = .ok (.iinc 1 1, 3) := by decide +kernel
theorem dX5_read_43 : decode cX5_read 43 = .ok (.goto (-22), 3) := by decide +kernel
theorem dX5_read_46 : decode cX5_read 46 = .ok (.aload_n 0, 1) := by decide +kernel
theorem dX5_read_47 : decode cX5_read 47 = .ok (.getfield 19, 3) := by decide +kernel
theorem dX5_read_50 : decode cX5_read 50 = .ok (.aload_n 0, 1) := by decide +kernel
theorem dX5_read_51 : decode cX5_read 51 = .ok (.getfield 15, 3) := by decide +kernel
theorem dX5_read_54 : decode cX5_read 54 = .ok (.getfield 36, 3) := by decide +kernel
theorem dX5_read_57 : decode cX5_read 57 = .ok (.if_icmp .ge 7, 3) := by decide +kernel
theorem dX5_read_60 : decode cX5_read 60 = .ok (.aload_n 0, 1) := by decide +kernel
theorem dX5_read_61 : decode cX5_read 61 = .ok (.invokevirtual 39, 3) := by decide +kernel
theorem dX5_read_64 : decode cX5_read 64 = .ok (.aload_n 0, 1) := by decide +kernel
theorem dX5_read_65 : decode cX5_read 65 = .ok (.getfield 26, 3) := by decide +kernel
theorem dX5_read_68 : decode cX5_read 68 = .ok (.ifCond .ge 24, 3) := by decide +kernel
theorem dX5_read_71 : decode cX5_read 71 = .ok (.new 42, 3) := by decide +kernel
theorem dX5_read_74 : decode cX5_read 74 = .ok (.dup, 1) := by decide +kernel
theorem dX5_read_75 : decode cX5_read 75 = .ok (.aload_n 0, 1) := by decide +kernel
theorem dX5_read_76 : decode cX5_read 76 = .ok (.getfield 9, 3) := by decide +kernel
theorem dX5_read_79 : decode cX5_read 79 = .ok (.aload_n 0, 1) := by decide +kernel
theorem dX5_read_80 : decode cX5_read 80 = .ok (.getfield 23, 3) := by decide +kernel
theorem dX5_read_83 : decode cX5_read 83 = .ok (.invokestatic 44, 3) := by decide +kernel
theorem dX5_read_86 : decode cX5_read 86 = .ok (.invokespecial 50, 3) := by decide +kernel
theorem dX5_read_89 : decode cX5_read 89 = .ok (.goto 4, 3) := by decide +kernel
theorem dX5_read_92 : decode cX5_read 92 = .ok (.aconst_null, 1) := by decide +kernel
theorem dX5_read_93 : decode cX5_read 93 = .ok (.areturn, 1) := by decide +kernel
theorem dJ7_copyOf_59c91_0 : decode cJ7_copyOf_59c91 0 = .ok (.iload_n 1, 1) := by decide +kernel
theorem dJ7_copyOf_59c91_1 : decode cJ7_copyOf_59c91 1 = .ok (.aload_n 0, 1) := by decide +kernel
theorem dJ7_copyOf_59c91_2 : decode cJ7_copyOf_59c91 2 = .ok (.arraylength, 1) := by decide +kernel
theorem dJ7_copyOf_59c91_3 : decode cJ7_copyOf_59c91 3 = .ok (.if_icmp .ne 11, 3) := by decide +kernel
theorem dJ7_copyOf_59c91_14 : decode cJ7_copyOf_59c91 14 = .ok (.iload_n 1, 1) := by decide +kernel
theorem dJ7_copyOf_59c91_15 : decode cJ7_copyOf_59c91 15 = .ok (.newarray .int, 2) := by decide +kernel
theorem dJ7_copyOf_59c91_17 : decode cJ7_copyOf_59c91 17 = .ok (.astore_n 2, 1) := by decide +kernel
theorem dJ7_copyOf_59c91_18 : decode cJ7_copyOf_59c91 18 = .ok (.aload_n 0, 1) := by decide +kernel
theorem dJ7_copyOf_59c91_19 : decode cJ7_copyOf_59c91 19 = .ok (.iconst 0, 1) := by decide +kernel
theorem dJ7_copyOf_59c91_20 : decode cJ7_copyOf_59c91 20 = .ok (.aload_n 2, 1) := by decide +kernel
theorem dJ7_copyOf_59c91_21 : decode cJ7_copyOf_59c91 21 = .ok (.iconst 0, 1) := by decide +kernel
theorem dJ7_copyOf_59c91_22 : decode cJ7_copyOf_59c91 22 = .ok (.aload_n 0, 1) := by decide +kernel
theorem dJ7_copyOf_59c91_23 : decode cJ7_copyOf_59c91 23 = .ok (.arraylength, 1) := by decide +kernel
theorem dJ7_copyOf_59c91_24 : decode cJ7_copyOf_59c91 24 = .ok (.iload_n 1, 1) := by decide +kernel
theorem dJ7_copyOf_59c91_25 : decode cJ7_copyOf_59c91 25 = .ok (.invokestatic 304, 3) := by decide +kernel
theorem dJ7_copyOf_59c91_28 : decode cJ7_copyOf_59c91 28 = .ok (.invokestatic 150, 3) := by decide +kernel
theorem dJ7_copyOf_59c91_31 : decode cJ7_copyOf_59c91 31 = .ok (.aload_n 2, 1) := by decide +kernel
theorem dJ7_copyOf_59c91_32 : decode cJ7_copyOf_59c91 32 = .ok (.areturn, 1) := by decide +kernel
abbrev z_X5_read : List Cond := .code yX5_read cX5_read 2 (some (.object "AlreadyJudged$Law")) :: zW
abbrev wl_X5_read (ad : Nat → Nat) (cs : Nat → ClassId)  (tape_size : Int32) (tape_bytes : Nat → Int32) (lr_size : Int32) (lr_at : Int32) (lr_fault : Int32) (lr_code : Nat → Int32) : va_W := [((ad 23), .inr (9, [.ref (ad 24), .int tape_size])), ((ad 24), .inl (cs 0, 120, .inl tape_bytes)), ((ad 26), .inr (5, [.ref (ad 23), .ref (ad 27), .int lr_size, .int lr_at, .int lr_fault])), ((ad 27), .inl (cs 0, 121, .inl lr_code))]
def Q_X5_read (D : va_G) (cs : Nat → ClassId) (ad : Nat → Nat) (tape_size : Int32) (tape_bytes : Nat → Int32) (A : Nat → Prop) (R : Bool × Int32 × Int32 × Int32 × (Nat → Int32)) : Array Value → State → Outcome → State → Prop :=
  va_Qq (fun (r : Option Nat) (z : (Int32 × Int32 × Int32 × (Nat → Int32)) × Nat × Nat) => r = (if R.1 = true then some z.2.1 else none) ∧ z.1 = R.2) (fun (z : (Int32 × Int32 × Int32 × (Nat → Int32)) × Nat × Nat) (t : State) => va_P D classes ((wl_X5_read ad cs tape_size tape_bytes z.1.1 z.1.2.1 z.1.2.2.1 z.1.2.2.2) ++ (if R.1 = true then [(z.2.1, .inr (4, [.ref z.2.2])), (z.2.2, .inl (cs 0, z.1.1.toNatClampNeg, .inl (va_cpy z.1.2.2.2 (fun _ => 0) 0 0 z.1.1.toNatClampNeg)))] else [])) t.heap ∧ va_D A ((wl_X5_read ad cs tape_size tape_bytes z.1.1 z.1.2.1 z.1.2.2.1 z.1.2.2.2) ++ (if R.1 = true then [(z.2.1, .inr (4, [.ref z.2.2])), (z.2.2, .inl (cs 0, z.1.1.toNatClampNeg, .inl (va_cpy z.1.2.2.2 (fun _ => 0) 0 0 z.1.1.toNatClampNeg)))] else []))) A
abbrev rm_X5_read : Room := { frames := 302, cells := 2, slots := 122, locals := 6825 }
theorem g_X5_29 : GoodIn zW (wsV RX5 29 RX5 yX5_readLine z_X5_readLine) := zGV kw_541 kw_542 kw_543 kw_80 kw_544

theorem zz_cl {x : Int32} {n : Nat} (g : ¬ (x < 0 ∨ n ≤ x.toNatClampNeg)) (y : Int32) (hy : y.toInt = n) : x < y := by
  have h1 : ¬ n ≤ x.toNatClampNeg := fun z => g (Or.inr z)
  have h2 : x.toNatClampNeg = x.toInt.toNat := rfl
  rw [Int32.lt_iff_toInt_lt]
  omega
abbrev z_J7_copyOf_59c91 : List Cond := .code yJ7_copyOf_59c91 cJ7_copyOf_59c91 3 (some (.array .int)) :: zW
abbrev rm_J7_copyOf_59c91 : Room := { frames := 1, cells := 1, slots := 121, locals := 2000 }
set_option maxHeartbeats 4000000 in
set_option maxRecDepth 100000 in
theorem c_copyOf (l : Launch) (D : va_G) (cs : Nat → ClassId) (h0 : Nat) (sz : Nat) (f : Nat → Int32) (x1 : Int32) (g : ¬ (x1 < 0 ∨ 121 ≤ x1.toNatClampNeg)) : Met l yJ7_copyOf_59c91 z_J7_copyOf_59c91 rm_J7_copyOf_59c91 (va_Pc [.ref h0, .int x1] (zPre D cs [(h0, .inl (cs 0, 121, .inl f))] sz)) (va_Qr (fun (_ : Unit) => True) (fun (_ : Unit) (a : Nat) (t : State) => va_P D classes [(h0, .inl (cs 0, 121, .inl f)), (a, .inl (cs 0, x1.toNatClampNeg, .inl (va_cpy f (fun _ => 0) 0 0 x1.toNatClampNeg)))] t.heap ∧ va_D (va_A [(h0, .inl (cs 0, 121, .inl f))] sz) [(h0, .inl (cs 0, 121, .inl f)), (a, .inl (cs 0, x1.toNatClampNeg, .inl (va_cpy f (fun _ => 0) 0 0 x1.toNatClampNeg)))]) (va_A [(h0, .inl (cs 0, 121, .inl f))] sz)) 1 121 (va_A [(h0, .inl (cs 0, 121, .inl f))] sz) := by
  have hlt : x1 < 121 := zz_cl g 121 (by decide)
  have hn0 : ¬ x1 < 0 := fun z => g (Or.inl z)
  have hn1 : ¬ 121 ≤ x1.toNatClampNeg := fun z => g (Or.inr z)
  refine Met.ofW (cc := cJ7_copyOf_59c91) (maxL := 3) (ret := (some (.array .int))) (by decide) rfl ?_
  intro p e s m args below meth c s₁ B hml hv
  obtain ⟨rfl, hsz, hP, hK, hD0⟩ := hv
  subst hsz
  have hD := hD0.self (sz := s.heap.size)
  have hx := B.exec
  have hb := B.bytes
  have hr := B.returns
  have ht : ∀ w ∈ zW, w.before _ s = true := fun w hw => atoms_spec (ws := z_J7_copyOf_59c91) B.pre w (List.mem_cons_of_mem _ hw)
  have hown : s.vm.findClass RJ7 = some m.cls := findClass_of_methodNamed B.named
  have hlocks := B.notSynchronized
  generalize hAe : va_A [(h0, .inl (cs 0, 121, .inl f))] s.heap.size = A at hD ⊢
  have hA : ∀ q : Nat, s.heap.size ≤ q → A q := fun q h => by rw [← hAe]; exact Or.inr h
  have hS : va_S A s.heap s.heap [] := va_S.rf
  have hl := lv_entry ([.ref h0, .int x1]) (n := 3) (Nat.le_of_ble_eq_true rfl)
  rw [lg_entry_eq]
  generalize (lg_sl ([.ref h0, .int x1]) ++ List.replicate (3 - (lg_sl ([.ref h0, .int x1])).length) Slot.unset).toArray = ls at hl ⊢
  refine lv_iload_n hx hb dJ7_copyOf_59c91_0 rfl (lv_at hl 1 rfl) ?_
  refine lv_aload_n hx hb dJ7_copyOf_59c91_1 rfl (lv_at hl 0 rfl) ?_
  refine va_alen (v := (121 : Int32)) hx hb hK hP 0 0 rfl rfl rfl dJ7_copyOf_59c91_2 ?_
  refine lv_icmp_ne (tgt := 14) hx hb dJ7_copyOf_59c91_3 (by decide) (fun c_1 => ?_) (fun c_1 => absurd hlt (by rw [c_1]; decide))
  refine lv_iload_n hx hb dJ7_copyOf_59c91_14 rfl (lv_at hl 1 rfl) ?_
  refine zk_newa (atype := .int) (ty := .int) (a0 := (x1.toNatClampNeg, .inl (fun _ => 0))) (N' := x1.toNatClampNeg) hx hb (ht _ kw_184) rfl hK 0 rfl (by intro C h; cases h) hP hD hS hA (fun _ => rfl) hn0 rfl (by show x1.toNatClampNeg * 4 ≤ 536870912; omega) (by show 0 + 1 ≤ 1; omega) (by show 0 + x1.toNatClampNeg ≤ 121; omega) dJ7_copyOf_59c91_15 (fun q H hP hD hS => ?_)
  refine W.widen (k := 1) (n := 121) (by omega) (by omega) ?_
  refine lv_astore_n (lv' := [(2, .ref q), (0, .ref h0), (1, .int x1)]) hx hb dJ7_copyOf_59c91_17 rfl hl (by decide) rfl (fun ls hl => ?_)
  refine lv_aload_n hx hb dJ7_copyOf_59c91_18 rfl (lv_at hl 1 rfl) ?_
  refine lv_iconst (v := (0 : Int32)) hx hb dJ7_copyOf_59c91_19 (by decide) ?_
  refine lv_aload_n hx hb dJ7_copyOf_59c91_20 rfl (lv_at hl 0 rfl) ?_
  refine lv_iconst (v := (0 : Int32)) hx hb dJ7_copyOf_59c91_21 (by decide) ?_
  refine lv_aload_n hx hb dJ7_copyOf_59c91_22 rfl (lv_at hl 1 rfl) ?_
  refine va_alen (v := (121 : Int32)) hx hb hK hP 0 0 rfl rfl rfl dJ7_copyOf_59c91_23 ?_
  refine lv_iload_n hx hb dJ7_copyOf_59c91_24 rfl (lv_at hl 2 rfl) ?_
  refine va_mmin hx hb (by rw [hml]; exact hl.1.symm) hown (ht _ kw_662) (ht _ kw_606) (ht _ kw_89) (ht _ kw_607) (Nat.le_of_ble_eq_true rfl) (Nat.le_of_ble_eq_true rfl) (Nat.le_of_ble_eq_true rfl) (Nat.le_of_ble_eq_true rfl) dJ7_copyOf_59c91_25 ?_
  refine W.eq (g2 := F0 m 28 ls [.int x1, .int 0, .ref q, .int 0, .ref h0]) (by rw [if_pos hlt]) ?_
  refine va_copyi hx hb (by rw [hml]; exact hl.1.symm) hown (ht _ kw_663) (ht _ kw_665) (ht _ kw_664) (ht _ kw_93) hK hP hD hS 0 1 0 0 rfl rfl rfl rfl rfl (by decide) (by decide) hn0 (by show 0 + x1.toNatClampNeg ≤ 121; omega) (by show 0 + x1.toNatClampNeg ≤ x1.toNatClampNeg; omega) (fun i hi => rfl) (Nat.le_of_ble_eq_true rfl) (Nat.le_of_ble_eq_true rfl) dJ7_copyOf_59c91_28 (fun H locs hP hD hS => ?_)
  have hP : va_P D classes [(h0, .inl (cs 0, 121, .inl f)), (q, .inl (cs 0, x1.toNatClampNeg, .inl (va_cpy f (fun _ => 0) 0 0 x1.toNatClampNeg)))] H := hP
  have hD : va_D A [(h0, .inl (cs 0, 121, .inl f)), (q, .inl (cs 0, x1.toNatClampNeg, .inl (va_cpy f (fun _ => 0) 0 0 x1.toNatClampNeg)))] := hD
  refine lv_aload_n hx hb dJ7_copyOf_59c91_31 rfl (lv_at hl 0 rfl) ?_
  exact W.aret (v := .ref q) hx hb hr (Or.inr ⟨_, rfl⟩) (Or.inr ⟨_, rfl⟩) (fun t ht2 hW => ⟨⟨(), q, rfl, trivial, by rw [ht2]; exact hP, hD⟩, hS.F ht2⟩) hS.2.2 dJ7_copyOf_59c91_32 hlocks
theorem g_X5_copyOf : GoodIn zW (va_wsS RX5 44 yJ7_copyOf_59c91 z_J7_copyOf_59c91) := zGS kw_652 kw_653 kw_92 kw_654
set_option maxHeartbeats 4000000 in
set_option maxRecDepth 100000 in
theorem zz_law71 {p : Program} {l : Launch} {e : Env} {s : State} {m : MethodId} {args : Array Value} {below : List Frame} {meth : Method} {c : Code} {A : Nat → Prop} {D : va_G} {cs : Nat → ClassId} {ad : Nat → Nat} {tape_size : Int32} {tape_bytes : Nat → Int32} (C0 : zC p s m args meth c cX5_read 2 (some (.object "AlreadyJudged$Law")) RX5 zW) (hK : va_K D classes (zT cs) s) (hA : ∀ q : Nat, s.heap.size ≤ q → A q) (lr_size : Int32) (lr_at : Int32) (lr_fault : Int32) (lr_code : Nat → Int32) (g : ¬ (lr_size < 0 ∨ 121 ≤ lr_size.toNatClampNeg)) (H : Heap) (locs : List Loc) (ls : Array Slot) (hP : va_P D classes (wl_X5_read ad cs tape_size tape_bytes lr_size lr_at lr_fault lr_code) H) (hD : va_D A (wl_X5_read ad cs tape_size tape_bytes lr_size lr_at lr_fault lr_code)) (hS : va_S A s.heap H locs) (hl : lv_has ls 2 [(0, .ref (ad 26))]) : W p l e rm_X5_read s m args below meth c H locs 0 0 (MQ below (Q_X5_read D cs ad tape_size tape_bytes A (true, lr_size, lr_at, lr_fault, lr_code)) args s 2 122 A) (F0 m 71 ls []) := by
  obtain ⟨hx, hb, hr, hml, hown, ht, hlocks⟩ := id C0
  have hn1 : ¬ 121 ≤ lr_size.toNatClampNeg := fun z => g (Or.inr z)
  refine va_new (ci := 4) (fs := [.null]) (C := RX4) (T := TX4) (N := 1) hx hb ht iX4 tyX4 tyX4_ok hown (ht _ kw_650) (ht _ kw_651) (ht _ kw_91) hK hP hD hS hA rfl (zkDX4) (Nat.le_of_ble_eq_true rfl) (Nat.le_of_ble_eq_true rfl) dX5_read_71 (fun qL H hP hD hS => ?_)
  have hP : va_P D classes ((wl_X5_read ad cs tape_size tape_bytes lr_size lr_at lr_fault lr_code) ++ [(qL, .inr (4, [.null]))]) H := hP
  have hD : va_D A ((wl_X5_read ad cs tape_size tape_bytes lr_size lr_at lr_fault lr_code) ++ [(qL, .inr (4, [.null]))]) := hD
  refine lv_dup hx hb dX5_read_74 rfl ?_
  refine lv_aload_n hx hb dX5_read_75 rfl (lv_at hl 0 rfl) ?_
  refine va_get (D := D) (ci := 5) (v := .ref (ad 27)) (C := RX5) (T := TX5) (N := 5) hx hb ht iX5 hown hK hP 2 rfl rfl 1 (by decide) (ht _ kw_275) (fun _ h9 => h9) rfl dX5_read_76 ?_
  refine lv_aload_n hx hb dX5_read_79 rfl (lv_at hl 0 rfl) ?_
  refine va_get (D := D) (ci := 5) (v := .int lr_size) (C := RX5) (T := TX5) (N := 5) hx hb ht iX5 hown hK hP 2 rfl rfl 2 (by decide) (ht _ kw_276) (fun _ h9 => h9) rfl dX5_read_80 ?_
  have hPc : va_P D classes [(ad 27, .inl (cs 0, 121, .inl lr_code))] H := hP.sub [3] rfl
  have hDc : va_D A [(ad 27, .inl (cs 0, 121, .inl lr_code))] := hD.sub [3] rfl rfl
  have hFc := va_free (wc := [(ad 27, .inl (cs 0, 121, .inl lr_code))]) hD hS hA [3] rfl
  refine va_callr (va_runS (As := [.ref (ad 27), .int lr_size]) (rest := [.ref qL, .ref qL]) ⟨hx, hb, hml, hown, ht⟩ (c_copyOf l D cs (ad 27) H.size lr_code lr_size g) (va_cwS 2 ht g_X5_copyOf rfl rfl rfl (by decide +kernel) ⟨Nat.le_of_ble_eq_true rfl, Nat.le_of_ble_eq_true rfl⟩) ⟨zPre_blind, fun U hU hW => ⟨rfl, by rw [hU], by rw [hU]; exact hPc, va_K.moved hW.alike hK, hDc.weaken (fun _ _ _ _ => trivial)⟩⟩ rfl rfl hl.1 rfl (lv_room (Nat.le_of_ble_eq_true rfl)) dX5_read_83 ⟨Nat.le_of_ble_eq_true rfl, Nat.le_of_ble_eq_true rfl⟩) hS (fun q _ h => hFc q h) hFc (fun u qC t H1 locs1 ht2 hvm hw hB hz1 hk1 hS => ?_)
  have hB : va_P D classes [(ad 27, .inl (cs 0, 121, .inl lr_code)), (qC, .inl (cs 0, lr_size.toNatClampNeg, .inl (va_cpy lr_code (fun _ => 0) 0 0 lr_size.toNatClampNeg)))] t.heap ∧ va_D (va_A [(ad 27, .inl (cs 0, 121, .inl lr_code))] H.size) [(ad 27, .inl (cs 0, 121, .inl lr_code)), (qC, .inl (cs 0, lr_size.toNatClampNeg, .inl (va_cpy lr_code (fun _ => 0) 0 0 lr_size.toNatClampNeg)))] := hB
  rw [ht2] at hB
  obtain ⟨hP, hD⟩ := va_join (wr := [((ad 23), .inr (9, [.ref (ad 24), .int tape_size])), ((ad 24), .inl (cs 0, 120, .inl tape_bytes)), ((ad 26), .inr (5, [.ref (ad 23), .ref (ad 27), .int lr_size, .int lr_at, .int lr_fault])), (qL, .inr (4, [.null]))]) hP hD [3] [0, 1, 2, 4] rfl rfl (by decide) (by decide) hk1 hFc hB.1 hB.2
  have hP : va_P D classes ((wl_X5_read ad cs tape_size tape_bytes lr_size lr_at lr_fault lr_code) ++ [(qL, .inr (4, [.null])), (qC, .inl (cs 0, lr_size.toNatClampNeg, .inl (va_cpy lr_code (fun _ => 0) 0 0 lr_size.toNatClampNeg)))]) H1 := hP.sub [0, 1, 2, 4, 3, 5] rfl
  have hD : va_D A ((wl_X5_read ad cs tape_size tape_bytes lr_size lr_at lr_fault lr_code) ++ [(qL, .inr (4, [.null])), (qC, .inl (cs 0, lr_size.toNatClampNeg, .inl (va_cpy lr_code (fun _ => 0) 0 0 lr_size.toNatClampNeg)))]) := hD.sub [0, 1, 2, 4, 3, 5] rfl rfl
  refine zk_iv (post := fun _ => True) (w1 := fun (_ : Nat → Nat) => [(qL, .inr (4, [.ref qC]))]) (As := [.ref qC]) (rest := [.ref qL]) (ci_X4_init l D cs qL qC H1.size) ⟨hx, hb, hml, hown, ht⟩ (cwI 1 ht (zGN kw_668) rfl rfl rfl (ht _ kw_91) (ht _ kw_666) (ht _ kw_667) rfl (by decide +kernel) ⟨Nat.le_of_ble_eq_true rfl, Nat.le_of_ble_eq_true rfl⟩) hP hD hS hK hA [4] [0, 1, 2, 3, 5] rfl rfl rfl rfl (by decide) rfl hl.1 (Nat.le_of_ble_eq_true rfl) dX5_read_86 ⟨Nat.le_of_ble_eq_true rfl, Nat.le_of_ble_eq_true rfl⟩ (fun u H locs hq hP hD hS => ?_)
  have hP : va_P D classes ((wl_X5_read ad cs tape_size tape_bytes lr_size lr_at lr_fault lr_code) ++ [(qL, .inr (4, [.ref qC])), (qC, .inl (cs 0, lr_size.toNatClampNeg, .inl (va_cpy lr_code (fun _ => 0) 0 0 lr_size.toNatClampNeg)))]) H := hP.sub [0, 1, 2, 3, 5, 4] rfl
  have hD : va_D A ((wl_X5_read ad cs tape_size tape_bytes lr_size lr_at lr_fault lr_code) ++ [(qL, .inr (4, [.ref qC])), (qC, .inl (cs 0, lr_size.toNatClampNeg, .inl (va_cpy lr_code (fun _ => 0) 0 0 lr_size.toNatClampNeg)))]) := hD.sub [0, 1, 2, 3, 5, 4] rfl rfl
  refine lv_goto (tgt := 93) hx hb dX5_read_89 (by decide) ?_
  refine W.widen (k := 2) (n := 122) (Nat.le_of_ble_eq_true rfl) (Nat.le_of_ble_eq_true rfl) ?_
  exact W.aret (v := va_rf (some qL)) hx hb hr (Or.inl ⟨_, rfl⟩) (Or.inr ⟨_, rfl⟩) (fun t ht2 hW => ⟨⟨some qL, ((lr_size, lr_at, lr_fault, lr_code), qL, qC), rfl, ⟨rfl, rfl⟩, by rw [ht2]; exact hP, hD⟩, hS.F ht2⟩) hS.2.2 dX5_read_93 hlocks

def B_X5_read_64   (g21 : Int32 → Int32 → Int32 → Int32 → (Nat → Int32) → (Option (Bool × Int32 × Int32 × Int32 × (Nat → Int32)))) (tape_size : Int32) (tape_bytes : Nat → Int32) (lr_size : Int32) (lr_at : Int32) (lr_fault : Int32) (lr_code : Nat → Int32) : Option (Bool × Int32 × Int32 × Int32 × (Nat → Int32)) :=
  (if 0 ≤ lr_fault then (some (false, lr_size, lr_at, lr_fault, lr_code)) else (if (lr_size < 0 ∨ 121 ≤ lr_size.toNatClampNeg) then none else (some (true, lr_size, lr_at, lr_fault, lr_code))))
def B_X5_read_46   (g21 : Int32 → Int32 → Int32 → Int32 → (Nat → Int32) → (Option (Bool × Int32 × Int32 × Int32 × (Nat → Int32)))) (tape_size : Int32) (tape_bytes : Nat → Int32) (lr_size : Int32) (lr_at : Int32) (lr_fault : Int32) (lr_code : Nat → Int32) : Option (Bool × Int32 × Int32 × Int32 × (Nat → Int32)) :=
  (if tape_size ≤ lr_at then (B_X5_read_64 g21 tape_size tape_bytes lr_size lr_at lr_fault lr_code) else (zk_b1 (f_X5_fail lr_size lr_at lr_fault) (fun u_18 => (B_X5_read_64 g21 tape_size tape_bytes lr_size lr_at u_18 lr_code))))
def B_X5_read_21   (g21 : Int32 → Int32 → Int32 → Int32 → (Nat → Int32) → (Option (Bool × Int32 × Int32 × Int32 × (Nat → Int32)))) (tape_size : Int32) (tape_bytes : Nat → Int32) (x1 : Int32) (lr_size : Int32) (lr_at : Int32) (lr_fault : Int32) (lr_code : Nat → Int32) : Option (Bool × Int32 × Int32 × Int32 × (Nat → Int32)) :=
  (if (120 : Int32) ≤ x1 then (B_X5_read_46 g21 tape_size tape_bytes lr_size lr_at lr_fault lr_code) else (zk_b2 (f_X5_accept (59 : Int32) tape_size tape_bytes lr_size lr_at lr_fault) (fun r_7 u_8 => (if r_7 = 0 then (B_X5_read_46 g21 tape_size tape_bytes lr_size u_8 lr_fault lr_code) else (zk_b4 (f_X5_readLine tape_size tape_bytes lr_size u_8 lr_fault lr_code) (fun u_11 u_12 u_13 u_14 => (zk_let (x1 + (1 : Int32)) (fun v_16 => (g21 v_16 u_11 u_12 u_13 u_14)))))))))
def B_X5_read_0   (g21 : Int32 → Int32 → Int32 → Int32 → (Nat → Int32) → (Option (Bool × Int32 × Int32 × Int32 × (Nat → Int32)))) (tape_size : Int32) (tape_bytes : Nat → Int32) (lr_size : Int32) (lr_at : Int32) (lr_fault : Int32) (lr_code : Nat → Int32) : Option (Bool × Int32 × Int32 × Int32 × (Nat → Int32)) :=
  (zk_b4 (f_X5_readLine tape_size tape_bytes (0 : Int32) (0 : Int32) (-1 : Int32) lr_code) (fun u_1 u_2 u_3 u_4 => (g21 (0 : Int32) u_1 u_2 u_3 u_4)))
def G_X5_read   (tape_size : Int32) (tape_bytes : Nat → Int32) (n : Nat) : (Int32 → Int32 → Int32 → Int32 → (Nat → Int32) → (Option (Bool × Int32 × Int32 × Int32 × (Nat → Int32)))) :=
  Nat.rec (motive := fun _ => (Int32 → Int32 → Int32 → Int32 → (Nat → Int32) → (Option (Bool × Int32 × Int32 × Int32 × (Nat → Int32))))) ((fun _ _ _ _ _ => none)) (fun _ ih => (B_X5_read_21   ih tape_size tape_bytes)) n
def f_X5_read   (n : Nat)  (tape_size : Int32) (tape_bytes : Nat → Int32) (lr_size : Int32) (lr_at : Int32) (lr_fault : Int32) (lr_code : Nat → Int32) : Option (Bool × Int32 × Int32 × Int32 × (Nat → Int32)) := B_X5_read_0   ((G_X5_read   tape_size tape_bytes n)) tape_size tape_bytes  lr_size lr_at lr_fault lr_code
set_option maxHeartbeats 4000000 in
set_option maxRecDepth 100000 in
theorem L_X5_read_64 {p : Program} {l : Launch} {e : Env} {s : State} {m : MethodId} {args : Array Value} {below : List Frame} {meth : Method} {c : Code} {A : Nat → Prop} {D : va_G} {cs : Nat → ClassId} {ad : Nat → Nat} {tape_size : Int32} {tape_bytes : Nat → Int32} {R : Bool × Int32 × Int32 × Int32 × (Nat → Int32)} {g21 : Int32 → Int32 → Int32 → Int32 → (Nat → Int32) → (Option (Bool × Int32 × Int32 × Int32 × (Nat → Int32)))} (C0 : zC p s m args meth c cX5_read 2 (some (.object "AlreadyJudged$Law")) RX5 zW) (hK : va_K D classes (zT cs) s) {k : (Nat → Nat) × (Nat → Nat)} (hO : zO s) (hE : zE k A s) (hA : ∀ q : Nat, s.heap.size ≤ q → A q) (ih21 : ∀ (x1 : Int32) (lr_size : Int32) (lr_at : Int32) (lr_fault : Int32) (lr_code : Nat → Int32) (h : g21 x1 lr_size lr_at lr_fault lr_code = some R) (H : Heap) (locs : List Loc) (ls : Array Slot) (hP : va_P D classes (wl_X5_read ad cs tape_size tape_bytes lr_size lr_at lr_fault lr_code) H) (hD : va_D A (wl_X5_read ad cs tape_size tape_bytes lr_size lr_at lr_fault lr_code)) (hS : va_S A s.heap H locs) (hl : lv_has ls 2 [(0, .ref (ad 26)), (1, .int x1)]), W p l e rm_X5_read s m args below meth c H locs 0 0 (MQ below (Q_X5_read D cs ad tape_size tape_bytes A R) args s 2 122 A) (F0 m 21 ls [])) (lr_size : Int32) (lr_at : Int32) (lr_fault : Int32) (lr_code : Nat → Int32) (h : B_X5_read_64 g21 tape_size tape_bytes lr_size lr_at lr_fault lr_code = some R) (H : Heap) (locs : List Loc) (ls : Array Slot) (hP : va_P D classes (wl_X5_read ad cs tape_size tape_bytes lr_size lr_at lr_fault lr_code) H) (hD : va_D A (wl_X5_read ad cs tape_size tape_bytes lr_size lr_at lr_fault lr_code)) (hS : va_S A s.heap H locs) (hl : lv_has ls 2 [(0, .ref (ad 26))]) : W p l e rm_X5_read s m args below meth c H locs 0 0 (MQ below (Q_X5_read D cs ad tape_size tape_bytes A R) args s 2 122 A) (F0 m 64 ls []) := by
  obtain ⟨hx, hb, hr, hml, hown, ht, hlocks⟩ := id C0
  refine lv_aload_n hx hb dX5_read_64 rfl (lv_at hl 0 rfl) ?_
  refine va_get (D := D) (ci := 5) (v := .int lr_fault) (C := RX5) (T := TX5) (N := 5) hx hb ht iX5 hown hK hP 2 rfl rfl 4 (by decide) (ht _ kw_278) (fun _ h9 => h9) rfl dX5_read_65 ?_
  refine lv_if_ge (tgt := 92) hx hb dX5_read_68 (by decide) (fun c_20 => ?_) (fun c_20 => ?_)
  · have h := zk_t c_20 h
    refine lv_null hx hb dX5_read_92 ?_
    have hR := Option.some.inj h
    subst hR
    refine W.widen (k := 2) (n := 122) (Nat.zero_le _) (Nat.zero_le _) ?_
    exact W.aret (v := va_rf none) hx hb hr (Or.inl ⟨_, rfl⟩) (Or.inl rfl) (fun t ht2 hW => ⟨⟨none, ((lr_size, lr_at, lr_fault, lr_code), 0, 0), rfl, ⟨rfl, rfl⟩, by rw [ht2]; exact hP, hD⟩, hS.F ht2⟩) hS.2.2 dX5_read_93 hlocks
  · have h := zk_f c_20 h
    obtain ⟨g_21, h⟩ := zk_gd h
    have hR := Option.some.inj h
    subst hR
    exact zz_law71 C0 hK hA lr_size lr_at lr_fault lr_code g_21 H locs ls hP hD hS (lv_sub hl [0] rfl)
set_option maxHeartbeats 4000000 in
set_option maxRecDepth 100000 in
theorem L_X5_read_46 {p : Program} {l : Launch} {e : Env} {s : State} {m : MethodId} {args : Array Value} {below : List Frame} {meth : Method} {c : Code} {A : Nat → Prop} {D : va_G} {cs : Nat → ClassId} {ad : Nat → Nat} {tape_size : Int32} {tape_bytes : Nat → Int32} {R : Bool × Int32 × Int32 × Int32 × (Nat → Int32)} {g21 : Int32 → Int32 → Int32 → Int32 → (Nat → Int32) → (Option (Bool × Int32 × Int32 × Int32 × (Nat → Int32)))} (C0 : zC p s m args meth c cX5_read 2 (some (.object "AlreadyJudged$Law")) RX5 zW) (hK : va_K D classes (zT cs) s) {k : (Nat → Nat) × (Nat → Nat)} (hO : zO s) (hE : zE k A s) (hA : ∀ q : Nat, s.heap.size ≤ q → A q) (ih21 : ∀ (x1 : Int32) (lr_size : Int32) (lr_at : Int32) (lr_fault : Int32) (lr_code : Nat → Int32) (h : g21 x1 lr_size lr_at lr_fault lr_code = some R) (H : Heap) (locs : List Loc) (ls : Array Slot) (hP : va_P D classes (wl_X5_read ad cs tape_size tape_bytes lr_size lr_at lr_fault lr_code) H) (hD : va_D A (wl_X5_read ad cs tape_size tape_bytes lr_size lr_at lr_fault lr_code)) (hS : va_S A s.heap H locs) (hl : lv_has ls 2 [(0, .ref (ad 26)), (1, .int x1)]), W p l e rm_X5_read s m args below meth c H locs 0 0 (MQ below (Q_X5_read D cs ad tape_size tape_bytes A R) args s 2 122 A) (F0 m 21 ls [])) (lr_size : Int32) (lr_at : Int32) (lr_fault : Int32) (lr_code : Nat → Int32) (h : B_X5_read_46 g21 tape_size tape_bytes lr_size lr_at lr_fault lr_code = some R) (H : Heap) (locs : List Loc) (ls : Array Slot) (hP : va_P D classes (wl_X5_read ad cs tape_size tape_bytes lr_size lr_at lr_fault lr_code) H) (hD : va_D A (wl_X5_read ad cs tape_size tape_bytes lr_size lr_at lr_fault lr_code)) (hS : va_S A s.heap H locs) (hl : lv_has ls 2 [(0, .ref (ad 26))]) : W p l e rm_X5_read s m args below meth c H locs 0 0 (MQ below (Q_X5_read D cs ad tape_size tape_bytes A R) args s 2 122 A) (F0 m 46 ls []) := by
  obtain ⟨hx, hb, hr, hml, hown, ht, hlocks⟩ := id C0
  refine lv_aload_n hx hb dX5_read_46 rfl (lv_at hl 0 rfl) ?_
  refine va_get (D := D) (ci := 5) (v := .int lr_at) (C := RX5) (T := TX5) (N := 5) hx hb ht iX5 hown hK hP 2 rfl rfl 3 (by decide) (ht _ kw_277) (fun _ h9 => h9) rfl dX5_read_47 ?_
  refine lv_aload_n hx hb dX5_read_50 rfl (lv_at hl 0 rfl) ?_
  refine va_get (D := D) (ci := 5) (v := .ref (ad 23)) (C := RX5) (T := TX5) (N := 5) hx hb ht iX5 hown hK hP 2 rfl rfl 0 (by decide) (ht _ kw_274) (fun _ h9 => h9) rfl dX5_read_51 ?_
  refine va_get (D := D) (ci := 9) (v := .int tape_size) (C := RX9) (T := TX9) (N := 2) hx hb ht iX9 hown hK hP 0 rfl rfl 1 (by decide) (ht _ kw_239) (fun _ h9 => h9) rfl dX5_read_54 ?_
  refine lv_icmp_ge (tgt := 64) hx hb dX5_read_57 (by decide) (fun c_17 => ?_) (fun c_17 => ?_)
  · have h := zk_t c_17 h
    exact L_X5_read_64 C0 hK hO hE hA  ih21 lr_size lr_at lr_fault lr_code h H locs ls hP hD hS (lv_sub hl [0] rfl)
  · have h := zk_f c_17 h
    refine lv_aload_n hx hb dX5_read_60 rfl (lv_at hl 0 rfl) ?_
    obtain ⟨u_18, hc_19, h⟩ := zk_o1 h
    refine zk_vv (post := (fun u => u = u_18)) (w1 := fun u => (wl_X5_fail ad cs lr_size lr_at u)) (As := []) (rest := []) (c_X5_fail l D cs ad  H.size lr_size lr_at lr_fault _ hc_19) ⟨hx, hb, hml, hown, ht⟩ (cwV 0 ht g_X5_39 rfl rfl rfl (by decide +kernel) ⟨Nat.le_of_ble_eq_true rfl, Nat.le_of_ble_eq_true rfl⟩) (va_recv hK hP (ci := 5) (q0 := 2) rfl rfl) hP hD hS hK hA [2] [0, 1, 3] rfl rfl rfl rfl (by decide) rfl hl.1 (Nat.le_of_ble_eq_true rfl) dX5_read_61 ⟨Nat.le_of_ble_eq_true rfl, Nat.le_of_ble_eq_true rfl⟩ (fun u H locs hq hP hD hS => ?_)
    cases hq
    have hP : va_P D classes (wl_X5_read ad cs tape_size tape_bytes lr_size lr_at u_18 lr_code) H := hP.sub [0, 1, 3, 2] rfl
    have hD : va_D A (wl_X5_read ad cs tape_size tape_bytes lr_size lr_at u_18 lr_code) := hD.sub [0, 1, 3, 2] rfl rfl
    exact L_X5_read_64 C0 hK hO hE hA  ih21 lr_size lr_at u_18 lr_code h H locs ls hP hD hS (lv_sub hl [0] rfl)
set_option maxHeartbeats 4000000 in
set_option maxRecDepth 100000 in
theorem L_X5_read_21 {p : Program} {l : Launch} {e : Env} {s : State} {m : MethodId} {args : Array Value} {below : List Frame} {meth : Method} {c : Code} {A : Nat → Prop} {D : va_G} {cs : Nat → ClassId} {ad : Nat → Nat} {tape_size : Int32} {tape_bytes : Nat → Int32} {R : Bool × Int32 × Int32 × Int32 × (Nat → Int32)} {g21 : Int32 → Int32 → Int32 → Int32 → (Nat → Int32) → (Option (Bool × Int32 × Int32 × Int32 × (Nat → Int32)))} (C0 : zC p s m args meth c cX5_read 2 (some (.object "AlreadyJudged$Law")) RX5 zW) (hK : va_K D classes (zT cs) s) {k : (Nat → Nat) × (Nat → Nat)} (hO : zO s) (hE : zE k A s) (hA : ∀ q : Nat, s.heap.size ≤ q → A q) (ih21 : ∀ (x1 : Int32) (lr_size : Int32) (lr_at : Int32) (lr_fault : Int32) (lr_code : Nat → Int32) (h : g21 x1 lr_size lr_at lr_fault lr_code = some R) (H : Heap) (locs : List Loc) (ls : Array Slot) (hP : va_P D classes (wl_X5_read ad cs tape_size tape_bytes lr_size lr_at lr_fault lr_code) H) (hD : va_D A (wl_X5_read ad cs tape_size tape_bytes lr_size lr_at lr_fault lr_code)) (hS : va_S A s.heap H locs) (hl : lv_has ls 2 [(0, .ref (ad 26)), (1, .int x1)]), W p l e rm_X5_read s m args below meth c H locs 0 0 (MQ below (Q_X5_read D cs ad tape_size tape_bytes A R) args s 2 122 A) (F0 m 21 ls [])) (x1 : Int32) (lr_size : Int32) (lr_at : Int32) (lr_fault : Int32) (lr_code : Nat → Int32) (h : B_X5_read_21 g21 tape_size tape_bytes x1 lr_size lr_at lr_fault lr_code = some R) (H : Heap) (locs : List Loc) (ls : Array Slot) (hP : va_P D classes (wl_X5_read ad cs tape_size tape_bytes lr_size lr_at lr_fault lr_code) H) (hD : va_D A (wl_X5_read ad cs tape_size tape_bytes lr_size lr_at lr_fault lr_code)) (hS : va_S A s.heap H locs) (hl : lv_has ls 2 [(0, .ref (ad 26)), (1, .int x1)]) : W p l e rm_X5_read s m args below meth c H locs 0 0 (MQ below (Q_X5_read D cs ad tape_size tape_bytes A R) args s 2 122 A) (F0 m 21 ls []) := by
  obtain ⟨hx, hb, hr, hml, hown, ht, hlocks⟩ := id C0
  refine lv_iload_n hx hb dX5_read_21 rfl (lv_at hl 1 rfl) ?_
  refine lv_bipush (v := (120 : Int32)) hx hb dX5_read_22 (by decide) ?_
  refine lv_icmp_ge (tgt := 46) hx hb dX5_read_24 (by decide) (fun c_6 => ?_) (fun c_6 => ?_)
  · have h := zk_t c_6 h
    exact L_X5_read_46 C0 hK hO hE hA  ih21 lr_size lr_at lr_fault lr_code h H locs ls hP hD hS (lv_sub hl [0] rfl)
  · have h := zk_f c_6 h
    refine lv_aload_n hx hb dX5_read_27 rfl (lv_at hl 0 rfl) ?_
    refine lv_bipush (v := (59 : Int32)) hx hb dX5_read_28 (by decide) ?_
    obtain ⟨r_7, u_8, hc_9, h⟩ := zk_o2 h
    refine zk_vi (post := (fun r u => (r, u) = (r_7, u_8))) (w1 := fun u => (wl_X5_accept ad cs tape_size tape_bytes lr_size u lr_fault)) (As := [.int (59 : Int32)]) (rest := []) (c_X5_accept l D cs ad  H.size (59 : Int32) tape_size tape_bytes lr_size lr_at lr_fault _ hc_9) ⟨hx, hb, hml, hown, ht⟩ (cwV 1 ht g_X5_32 rfl rfl rfl (by decide +kernel) ⟨Nat.le_of_ble_eq_true rfl, Nat.le_of_ble_eq_true rfl⟩) (va_recv hK hP (ci := 5) (q0 := 2) rfl rfl) hP hD hS hK hA [0, 1, 2] [3] rfl rfl rfl rfl (by decide) rfl hl.1 (Nat.le_of_ble_eq_true rfl) dX5_read_30 ⟨Nat.le_of_ble_eq_true rfl, Nat.le_of_ble_eq_true rfl⟩ (fun r u H locs hq hP hD hS => ?_)
    cases hq
    have hP : va_P D classes (wl_X5_read ad cs tape_size tape_bytes lr_size u_8 lr_fault lr_code) H := hP.sub [1, 2, 3, 0] rfl
    have hD : va_D A (wl_X5_read ad cs tape_size tape_bytes lr_size u_8 lr_fault lr_code) := hD.sub [1, 2, 3, 0] rfl rfl
    refine lv_if_eq (tgt := 46) hx hb dX5_read_33 (by decide) (fun c_10 => ?_) (fun c_10 => ?_)
    · have h := zk_t c_10 h
      exact L_X5_read_46 C0 hK hO hE hA  ih21 lr_size u_8 lr_fault lr_code h H locs ls hP hD hS (lv_sub hl [0] rfl)
    · have h := zk_f c_10 h
      refine lv_aload_n hx hb dX5_read_36 rfl (lv_at hl 0 rfl) ?_
      obtain ⟨u_11, u_12, u_13, u_14, hc_15, h⟩ := zk_o4 h
      refine zk_vvE (post := (fun u => u = (u_11, u_12, u_13, u_14))) (w1 := fun u => (wl_X5_readLine ad cs tape_size tape_bytes u.1 u.2.1 u.2.2.1 u.2.2.2)) (As := []) (rest := []) hE hO (c_X5_readLine l D cs ad k H.size tape_size tape_bytes lr_size u_8 lr_fault lr_code _ hc_15) ⟨hx, hb, hml, hown, ht⟩ (cwV 0 ht g_X5_29 rfl rfl rfl (by decide +kernel) ⟨Nat.le_of_ble_eq_true rfl, Nat.le_of_ble_eq_true rfl⟩) (va_recv hK hP (ci := 5) (q0 := 2) rfl rfl) hP hD hS hK hA [0, 1, 2, 3] [] rfl rfl rfl rfl (by decide) rfl hl.1 (Nat.le_of_ble_eq_true rfl) dX5_read_37 ⟨Nat.le_of_ble_eq_true rfl, Nat.le_of_ble_eq_true rfl⟩ (fun u H locs hq hP hD hS => ?_)
      cases hq
      have hP : va_P D classes (wl_X5_read ad cs tape_size tape_bytes u_11 u_12 u_13 u_14) H := hP.sub [0, 1, 2, 3] rfl
      have hD : va_D A (wl_X5_read ad cs tape_size tape_bytes u_11 u_12 u_13 u_14) := hD.sub [0, 1, 2, 3] rfl rfl
      obtain ⟨v_16, ev_16, h⟩ := zk_lt h
      refine lv_iinc (v := v_16) (lv' := [(1, .int v_16), (0, .ref (ad 26))]) hx hb dX5_read_40 hl (k := 1) rfl (by rw [ev_16]; rfl) (by decide) rfl (fun ls hl => ?_)
      refine lv_goto (tgt := 21) hx hb dX5_read_43 (by decide) ?_
      exact ih21 v_16 u_11 u_12 u_13 u_14 h H locs ls hP hD hS (lv_sub hl [1, 0] rfl)
set_option maxHeartbeats 4000000 in
set_option maxRecDepth 100000 in
theorem L_X5_read_0 {p : Program} {l : Launch} {e : Env} {s : State} {m : MethodId} {args : Array Value} {below : List Frame} {meth : Method} {c : Code} {A : Nat → Prop} {D : va_G} {cs : Nat → ClassId} {ad : Nat → Nat} {tape_size : Int32} {tape_bytes : Nat → Int32} {R : Bool × Int32 × Int32 × Int32 × (Nat → Int32)} {g21 : Int32 → Int32 → Int32 → Int32 → (Nat → Int32) → (Option (Bool × Int32 × Int32 × Int32 × (Nat → Int32)))} (C0 : zC p s m args meth c cX5_read 2 (some (.object "AlreadyJudged$Law")) RX5 zW) (hK : va_K D classes (zT cs) s) {k : (Nat → Nat) × (Nat → Nat)} (hO : zO s) (hE : zE k A s) (hA : ∀ q : Nat, s.heap.size ≤ q → A q) (ih21 : ∀ (x1 : Int32) (lr_size : Int32) (lr_at : Int32) (lr_fault : Int32) (lr_code : Nat → Int32) (h : g21 x1 lr_size lr_at lr_fault lr_code = some R) (H : Heap) (locs : List Loc) (ls : Array Slot) (hP : va_P D classes (wl_X5_read ad cs tape_size tape_bytes lr_size lr_at lr_fault lr_code) H) (hD : va_D A (wl_X5_read ad cs tape_size tape_bytes lr_size lr_at lr_fault lr_code)) (hS : va_S A s.heap H locs) (hl : lv_has ls 2 [(0, .ref (ad 26)), (1, .int x1)]), W p l e rm_X5_read s m args below meth c H locs 0 0 (MQ below (Q_X5_read D cs ad tape_size tape_bytes A R) args s 2 122 A) (F0 m 21 ls [])) (lr_size : Int32) (lr_at : Int32) (lr_fault : Int32) (lr_code : Nat → Int32) (h : B_X5_read_0 g21 tape_size tape_bytes lr_size lr_at lr_fault lr_code = some R) (H : Heap) (locs : List Loc) (ls : Array Slot) (hP : va_P D classes (wl_X5_read ad cs tape_size tape_bytes lr_size lr_at lr_fault lr_code) H) (hD : va_D A (wl_X5_read ad cs tape_size tape_bytes lr_size lr_at lr_fault lr_code)) (hS : va_S A s.heap H locs) (hl : lv_has ls 2 [(0, .ref (ad 26))]) : W p l e rm_X5_read s m args below meth c H locs 0 0 (MQ below (Q_X5_read D cs ad tape_size tape_bytes A R) args s 2 122 A) (F0 m 0 ls []) := by
  obtain ⟨hx, hb, hr, hml, hown, ht, hlocks⟩ := id C0
  refine lv_aload_n hx hb dX5_read_0 rfl (lv_at hl 0 rfl) ?_
  refine lv_iconst (v := (0 : Int32)) hx hb dX5_read_1 (by decide) ?_
  refine va_put (D := D) (ci := 5) (v := .int (0 : Int32)) (ty := .int) (C := RX5) (T := TX5) (N := 5) hx hb ht iX5 tyX5 tyX5_ok nmX5 hown hK hP hD hS 2 rfl rfl 3 (by decide) (ht _ kw_277) (fun _ h9 => h9) rfl (by decide +kernel) rfl rfl (Nat.le_of_ble_eq_true rfl) dX5_read_2 (fun H locs hP hD hS => ?_)
  have hP : va_P D classes (wl_X5_read ad cs tape_size tape_bytes lr_size (0 : Int32) lr_fault lr_code) H := hP
  have hD : va_D A (wl_X5_read ad cs tape_size tape_bytes lr_size (0 : Int32) lr_fault lr_code) := hD
  refine lv_aload_n hx hb dX5_read_5 rfl (lv_at hl 0 rfl) ?_
  refine lv_iconst (v := (0 : Int32)) hx hb dX5_read_6 (by decide) ?_
  refine va_put (D := D) (ci := 5) (v := .int (0 : Int32)) (ty := .int) (C := RX5) (T := TX5) (N := 5) hx hb ht iX5 tyX5 tyX5_ok nmX5 hown hK hP hD hS 2 rfl rfl 2 (by decide) (ht _ kw_276) (fun _ h9 => h9) rfl (by decide +kernel) rfl rfl (Nat.le_of_ble_eq_true rfl) dX5_read_7 (fun H locs hP hD hS => ?_)
  have hP : va_P D classes (wl_X5_read ad cs tape_size tape_bytes (0 : Int32) (0 : Int32) lr_fault lr_code) H := hP
  have hD : va_D A (wl_X5_read ad cs tape_size tape_bytes (0 : Int32) (0 : Int32) lr_fault lr_code) := hD
  refine lv_aload_n hx hb dX5_read_10 rfl (lv_at hl 0 rfl) ?_
  refine lv_iconst (v := (-1 : Int32)) hx hb dX5_read_11 (by decide) ?_
  refine va_put (D := D) (ci := 5) (v := .int (-1 : Int32)) (ty := .int) (C := RX5) (T := TX5) (N := 5) hx hb ht iX5 tyX5 tyX5_ok nmX5 hown hK hP hD hS 2 rfl rfl 4 (by decide) (ht _ kw_278) (fun _ h9 => h9) rfl (by decide +kernel) rfl rfl (Nat.le_of_ble_eq_true rfl) dX5_read_12 (fun H locs hP hD hS => ?_)
  have hP : va_P D classes (wl_X5_read ad cs tape_size tape_bytes (0 : Int32) (0 : Int32) (-1 : Int32) lr_code) H := hP
  have hD : va_D A (wl_X5_read ad cs tape_size tape_bytes (0 : Int32) (0 : Int32) (-1 : Int32) lr_code) := hD
  refine lv_aload_n hx hb dX5_read_15 rfl (lv_at hl 0 rfl) ?_
  obtain ⟨u_1, u_2, u_3, u_4, hc_5, h⟩ := zk_o4 h
  refine zk_vvE (post := (fun u => u = (u_1, u_2, u_3, u_4))) (w1 := fun u => (wl_X5_readLine ad cs tape_size tape_bytes u.1 u.2.1 u.2.2.1 u.2.2.2)) (As := []) (rest := []) hE hO (c_X5_readLine l D cs ad k H.size tape_size tape_bytes (0 : Int32) (0 : Int32) (-1 : Int32) lr_code _ hc_5) ⟨hx, hb, hml, hown, ht⟩ (cwV 0 ht g_X5_29 rfl rfl rfl (by decide +kernel) ⟨Nat.le_of_ble_eq_true rfl, Nat.le_of_ble_eq_true rfl⟩) (va_recv hK hP (ci := 5) (q0 := 2) rfl rfl) hP hD hS hK hA [0, 1, 2, 3] [] rfl rfl rfl rfl (by decide) rfl hl.1 (Nat.le_of_ble_eq_true rfl) dX5_read_16 ⟨Nat.le_of_ble_eq_true rfl, Nat.le_of_ble_eq_true rfl⟩ (fun u H locs hq hP hD hS => ?_)
  cases hq
  have hP : va_P D classes (wl_X5_read ad cs tape_size tape_bytes u_1 u_2 u_3 u_4) H := hP.sub [0, 1, 2, 3] rfl
  have hD : va_D A (wl_X5_read ad cs tape_size tape_bytes u_1 u_2 u_3 u_4) := hD.sub [0, 1, 2, 3] rfl rfl
  refine lv_iconst (v := (0 : Int32)) hx hb dX5_read_19 (by decide) ?_
  refine lv_istore_n (lv' := [(1, .int (0 : Int32)), (0, .ref (ad 26))]) hx hb dX5_read_20 rfl hl (by decide) rfl (fun ls hl => ?_)
  exact ih21 (0 : Int32) u_1 u_2 u_3 u_4 h H locs ls hP hD hS (lv_sub hl [1, 0] rfl)
theorem LG_X5_read {p : Program} {l : Launch} {e : Env} {s : State} {m : MethodId} {args : Array Value} {below : List Frame} {meth : Method} {c : Code} {A : Nat → Prop} {D : va_G} {cs : Nat → ClassId} {ad : Nat → Nat} {tape_size : Int32} {tape_bytes : Nat → Int32} {R : Bool × Int32 × Int32 × Int32 × (Nat → Int32)} (C0 : zC p s m args meth c cX5_read 2 (some (.object "AlreadyJudged$Law")) RX5 zW) (hK : va_K D classes (zT cs) s) {k : (Nat → Nat) × (Nat → Nat)} (hO : zO s) (hE : zE k A s) (hA : ∀ q : Nat, s.heap.size ≤ q → A q) : ∀ n : Nat, (∀ (x1 : Int32) (lr_size : Int32) (lr_at : Int32) (lr_fault : Int32) (lr_code : Nat → Int32) (h : (G_X5_read   tape_size tape_bytes n) x1 lr_size lr_at lr_fault lr_code = some R) (H : Heap) (locs : List Loc) (ls : Array Slot) (hP : va_P D classes (wl_X5_read ad cs tape_size tape_bytes lr_size lr_at lr_fault lr_code) H) (hD : va_D A (wl_X5_read ad cs tape_size tape_bytes lr_size lr_at lr_fault lr_code)) (hS : va_S A s.heap H locs) (hl : lv_has ls 2 [(0, .ref (ad 26)), (1, .int x1)]), W p l e rm_X5_read s m args below meth c H locs 0 0 (MQ below (Q_X5_read D cs ad tape_size tape_bytes A R) args s 2 122 A) (F0 m 21 ls [])) := by
  intro n
  induction n with
  | zero =>
    refine ?_ <;> (intros; rename_i h _ _ _ _ _ _ _; cases h)
  | succ n ih =>
    exact L_X5_read_21 C0 hK hO hE hA  ih
set_option maxHeartbeats 4000000 in
set_option maxRecDepth 100000 in
theorem c_X5_read (l : Launch) (D : va_G) (cs : Nat → ClassId) (ad : Nat → Nat) (k : (Nat → Nat) × (Nat → Nat)) (sz : Nat) (n : Nat)  (tape_size : Int32) (tape_bytes : Nat → Int32) (lr_size : Int32) (lr_at : Int32) (lr_fault : Int32) (lr_code : Nat → Int32) (R : Bool × Int32 × Int32 × Int32 × (Nat → Int32)) (h : f_X5_read   n  tape_size tape_bytes lr_size lr_at lr_fault lr_code = some R) : Met l yX5_read (z_X5_read) rm_X5_read (va_Pc [.ref (ad 26)] (zPreE k D cs (wl_X5_read ad cs tape_size tape_bytes lr_size lr_at lr_fault lr_code) sz)) (Q_X5_read D cs ad tape_size tape_bytes (va_A (wl_X5_read ad cs tape_size tape_bytes lr_size lr_at lr_fault lr_code) sz) R) 2 122 (va_A (wl_X5_read ad cs tape_size tape_bytes lr_size lr_at lr_fault lr_code) sz) := by
  refine Met.ofW (cc := cX5_read) (maxL := 2) (ret := (some (.object "AlreadyJudged$Law"))) (by decide) rfl ?_
  intro p e s m args below meth c s₁ B hml hv
  obtain ⟨rfl, ⟨⟨hsz, hP, hK, hD0⟩, hO⟩, hE⟩ := hv
  subst hsz
  have hD := hD0.self (sz := s.heap.size)
  have C0 : zC p s m _ meth c cX5_read 2 (some (.object "AlreadyJudged$Law")) RX5 zW := ⟨B.exec, B.bytes, B.returns, hml, findClass_of_methodNamed B.named, fun w hw => atoms_spec (ws := z_X5_read) B.pre w (List.mem_cons_of_mem _ hw), B.notSynchronized⟩
  have hA : ∀ q : Nat, s.heap.size ≤ q → va_A (wl_X5_read ad cs tape_size tape_bytes lr_size lr_at lr_fault lr_code) s.heap.size q := fun q h => Or.inr h
  have hl := lv_entry ([.ref (ad 26)]) (n := 2) (Nat.le_of_ble_eq_true rfl)
  rw [lg_entry_eq]
  generalize (lg_sl ([.ref (ad 26)]) ++ List.replicate (2 - (lg_sl ([.ref (ad 26)])).length) Slot.unset).toArray = ls at hl ⊢
  exact L_X5_read_0 C0 hK hO hE hA  ((LG_X5_read C0 hK hO hE hA  n))  lr_size lr_at lr_fault lr_code h s.heap [] ls hP hD va_S.rf hl
theorem kw_76 : Cond.initialized RX2 ∈ zW := zwI (i := 76) (by decide +kernel) (by decide +kernel)
theorem kw_696 : Cond.fieldLink RX11 10 "AlreadyJudged" "court" "LAlreadyJudged$Court;" ∈ zW := zwI (i := 696) (by decide +kernel) (by decide +kernel)
theorem kw_734 : Cond.methodLink RX11 103 yX2_isShoe ∈ zW := zwI (i := 734) (by decide +kernel) (by decide +kernel)
theorem kw_735 : Cond.static yX2_isShoe ∈ zW := zwI (i := 735) (by decide +kernel) (by decide +kernel)
theorem kw_736 : Cond.code yX2_isShoe cX2_isShoe 4 (some .boolean) ∈ zW := zwI (i := 736) (by decide +kernel) (by decide +kernel)
theorem kw_740 : Cond.methodLink RX11 107 yX2_addShoe ∈ zW := zwI (i := 740) (by decide +kernel) (by decide +kernel)
theorem kw_741 : Cond.instanceMethod yX2_addShoe ∈ zW := zwI (i := 741) (by decide +kernel) (by decide +kernel)
theorem kw_742 : Cond.selects RX2 yX2_addShoe yX2_addShoe ∈ zW := zwI (i := 742) (by decide +kernel) (by decide +kernel)
theorem kw_743 : Cond.code yX2_addShoe cX2_addShoe 5 (some .int) ∈ zW := zwI (i := 743) (by decide +kernel) (by decide +kernel)
theorem dX11_shoe_0 : decode cX11_shoe 0 = .ok (.iload_n 1, 1) := by decide +kernel
theorem dX11_shoe_1 : decode cX11_shoe 1 = .ok (.iload_n 2, 1) := by decide +kernel
theorem dX11_shoe_2 : decode cX11_shoe 2 = .ok (.iload_n 3, 1) := by decide +kernel
theorem dX11_shoe_3 : decode cX11_shoe 3 = .ok (.iload 4, 2) := by decide +kernel
theorem dX11_shoe_5 : decode cX11_shoe 5 = .ok (.invokestatic 103, 3) := by decide +kernel
theorem dX11_shoe_8 : decode cX11_shoe 8 = .ok (.ifCond .ne 5, 3) := by decide +kernel
theorem dX11_shoe_11 : decode cX11_shoe 11 = .ok (.iconst (-1), 1) := by decide +kernel
theorem dX11_shoe_12 : decode cX11_shoe 12 = .ok (.ireturn, 1) := by decide +kernel
theorem dX11_shoe_13 : decode cX11_shoe 13 = .ok (.aload_n 0, 1) := by decide +kernel
theorem dX11_shoe_14 : decode cX11_shoe 14 = .ok (.getfield 10, 3) := by decide +kernel
theorem dX11_shoe_17 : decode cX11_shoe 17 = .ok (.iload_n 1, 1) := by decide +kernel
theorem dX11_shoe_18 : decode cX11_shoe 18 = .ok (.iload_n 2, 1) := by decide +kernel
theorem dX11_shoe_19 : decode cX11_shoe 19 = .ok (.iload_n 3, 1) := by decide +kernel
theorem dX11_shoe_20 : decode cX11_shoe 20 = .ok (.iload 4, 2) := by decide +kernel
theorem dX11_shoe_22 : decode cX11_shoe 22 = .ok (.invokevirtual 107, 3) := by decide +kernel
theorem dX11_shoe_25 : decode cX11_shoe 25 = .ok (.ireturn, 1) := by decide +kernel
abbrev z_X11_shoe : List Cond := .code yX11_shoe cX11_shoe 5 (some .int) :: zW
abbrev wl_X11_shoe (ad : Nat → Nat) (cs : Nat → ClassId)  (court_shoeCount : Int32) (court_claimCount : Int32) (court_suitCount : Int32) (court_shoePerson : Nat → Int32) (court_shoeOther : Nat → Int32) (court_shoeSort : Nat → Int32) (court_shoeDay : Nat → Int32) : va_W := [((ad 0), .inr (11, [.ref (ad 4), .ref (ad 15), .ref (ad 23), .ref (ad 25), .ref (ad 26), .ref (ad 28), .ref (ad 34), .ref (ad 39), .ref (ad 1), .ref (ad 2), .ref (ad 3)])), ((ad 4), .inr (2, [.ref (ad 5), .ref (ad 6), .ref (ad 7), .ref (ad 8), .ref (ad 9), .ref (ad 10), .ref (ad 11), .ref (ad 12), .ref (ad 13), .ref (ad 14), .int court_shoeCount, .int court_claimCount, .int court_suitCount])), ((ad 5), .inl (cs 0, 40, .inl court_shoePerson)), ((ad 6), .inl (cs 0, 40, .inl court_shoeOther)), ((ad 7), .inl (cs 0, 40, .inl court_shoeSort)), ((ad 8), .inl (cs 0, 40, .inl court_shoeDay))]
def Q_X11_shoe (D : va_G) (cs : Nat → ClassId) (ad : Nat → Nat)  (court_claimCount : Int32) (court_suitCount : Int32) (A : Nat → Prop) (R : Int32 × Int32 × (Nat → Int32) × (Nat → Int32) × (Nat → Int32) × (Nat → Int32)) : Array Value → State → Outcome → State → Prop :=
  va_Qi (fun (r : Int32) (u : Int32 × (Nat → Int32) × (Nat → Int32) × (Nat → Int32) × (Nat → Int32)) => (r, u) = R) (fun (u : Int32 × (Nat → Int32) × (Nat → Int32) × (Nat → Int32) × (Nat → Int32)) (t : State) => va_P D classes (wl_X11_shoe ad cs u.1 court_claimCount court_suitCount u.2.1 u.2.2.1 u.2.2.2.1 u.2.2.2.2) t.heap ∧ va_D A (wl_X11_shoe ad cs u.1 court_claimCount court_suitCount u.2.1 u.2.2.1 u.2.2.2.1 u.2.2.2.2)) A
abbrev rm_X11_shoe : Room := { frames := 2, cells := 0, slots := 0, locals := 43 }
theorem g_X11_103 : GoodIn zW (va_wsS RX11 103 yX2_isShoe z_X2_isShoe) := zGS kw_734 kw_735 kw_76 kw_736
theorem g_X11_107 : GoodIn zW (wsV RX11 107 RX2 yX2_addShoe z_X2_addShoe) := zGV kw_740 kw_741 kw_742 kw_76 kw_743
def B_X11_shoe_0    (court_claimCount : Int32) (court_suitCount : Int32) (x1 : Int32) (x2 : Int32) (x3 : Int32) (x4 : Int32) (court_shoeCount : Int32) (court_shoePerson : Nat → Int32) (court_shoeOther : Nat → Int32) (court_shoeSort : Nat → Int32) (court_shoeDay : Nat → Int32) : Option (Int32 × Int32 × (Nat → Int32) × (Nat → Int32) × (Nat → Int32) × (Nat → Int32)) :=
  (zk_b2 (f_X2_isShoe x1 x2 x3 x4) (fun r_1 u_2 => (if r_1 = 0 then (some ((-1 : Int32), court_shoeCount, court_shoePerson, court_shoeOther, court_shoeSort, court_shoeDay)) else (zk_b6 (f_X2_addShoe x1 x2 x3 x4 court_shoeCount court_claimCount court_suitCount court_shoePerson court_shoeOther court_shoeSort court_shoeDay) (fun r_5 u_6 u_7 u_8 u_9 u_10 => (some (r_5, u_6, u_7, u_8, u_9, u_10)))))))
def f_X11_shoe   (x1 : Int32) (x2 : Int32) (x3 : Int32) (x4 : Int32) (court_shoeCount : Int32) (court_claimCount : Int32) (court_suitCount : Int32) (court_shoePerson : Nat → Int32) (court_shoeOther : Nat → Int32) (court_shoeSort : Nat → Int32) (court_shoeDay : Nat → Int32) : Option (Int32 × Int32 × (Nat → Int32) × (Nat → Int32) × (Nat → Int32) × (Nat → Int32)) := B_X11_shoe_0   court_claimCount court_suitCount x1 x2 x3 x4 court_shoeCount court_shoePerson court_shoeOther court_shoeSort court_shoeDay
set_option maxHeartbeats 4000000 in
set_option maxRecDepth 100000 in
theorem L_X11_shoe_0 {p : Program} {l : Launch} {e : Env} {s : State} {m : MethodId} {args : Array Value} {below : List Frame} {meth : Method} {c : Code} {A : Nat → Prop} {D : va_G} {cs : Nat → ClassId} {ad : Nat → Nat} {court_claimCount : Int32} {court_suitCount : Int32} {R : Int32 × Int32 × (Nat → Int32) × (Nat → Int32) × (Nat → Int32) × (Nat → Int32)} (C0 : zC p s m args meth c cX11_shoe 5 (some .int) RX11 zW) (hK : va_K D classes (zT cs) s) (hO : zO s) (hA : ∀ q : Nat, s.heap.size ≤ q → A q) (x1 : Int32) (x2 : Int32) (x3 : Int32) (x4 : Int32) (court_shoeCount : Int32) (court_shoePerson : Nat → Int32) (court_shoeOther : Nat → Int32) (court_shoeSort : Nat → Int32) (court_shoeDay : Nat → Int32) (h : B_X11_shoe_0 court_claimCount court_suitCount x1 x2 x3 x4 court_shoeCount court_shoePerson court_shoeOther court_shoeSort court_shoeDay = some R) (H : Heap) (locs : List Loc) (ls : Array Slot) (hP : va_P D classes (wl_X11_shoe ad cs court_shoeCount court_claimCount court_suitCount court_shoePerson court_shoeOther court_shoeSort court_shoeDay) H) (hD : va_D A (wl_X11_shoe ad cs court_shoeCount court_claimCount court_suitCount court_shoePerson court_shoeOther court_shoeSort court_shoeDay)) (hS : va_S A s.heap H locs) (hl : lv_has ls 5 [(0, .ref (ad 0)), (1, .int x1), (2, .int x2), (3, .int x3), (4, .int x4)]) : W p l e rm_X11_shoe s m args below meth c H locs 0 0 (MQ below (Q_X11_shoe D cs ad court_claimCount court_suitCount A R) args s 0 0 A) (F0 m 0 ls []) := by
  obtain ⟨hx, hb, hr, hml, hown, ht, hlocks⟩ := id C0
  refine lv_iload_n hx hb dX11_shoe_0 rfl (lv_at hl 1 rfl) ?_
  refine lv_iload_n hx hb dX11_shoe_1 rfl (lv_at hl 2 rfl) ?_
  refine lv_iload_n hx hb dX11_shoe_2 rfl (lv_at hl 3 rfl) ?_
  refine lv_iload hx hb dX11_shoe_3 (lv_at hl 4 rfl) ?_
  obtain ⟨r_1, u_2, hc_3, h⟩ := zk_o2 h
  refine zk_siO (post := (fun r u => (r, u) = (r_1, u_2))) (w1 := fun u => (wl_X2_isShoe ad cs )) (As := [.int x1, .int x2, .int x3, .int x4]) (rest := []) hO (c_X2_isShoe l D cs ad  H.size x1 x2 x3 x4 _ hc_3) ⟨hx, hb, hml, hown, ht⟩ (va_cwS 4 ht g_X11_103 rfl rfl rfl (by decide +kernel) ⟨Nat.le_of_ble_eq_true rfl, Nat.le_of_ble_eq_true rfl⟩) hP hD hS hK hA [] [0, 1, 2, 3, 4, 5] rfl rfl rfl rfl (by decide) rfl hl.1 (Nat.le_of_ble_eq_true rfl) dX11_shoe_5 ⟨Nat.zero_le _, Nat.zero_le _⟩ (fun r u H locs hq hP hD hS => ?_)
  cases hq
  have hP : va_P D classes (wl_X11_shoe ad cs court_shoeCount court_claimCount court_suitCount court_shoePerson court_shoeOther court_shoeSort court_shoeDay) H := hP.sub [0, 1, 2, 3, 4, 5] rfl
  have hD : va_D A (wl_X11_shoe ad cs court_shoeCount court_claimCount court_suitCount court_shoePerson court_shoeOther court_shoeSort court_shoeDay) := hD.sub [0, 1, 2, 3, 4, 5] rfl rfl
  refine lv_if_ne (tgt := 13) hx hb dX11_shoe_8 (by decide) (fun c_4 => ?_) (fun c_4 => ?_)
  · have h := zk_f c_4 h
    refine lv_aload_n hx hb dX11_shoe_13 rfl (lv_at hl 0 rfl) ?_
    refine va_get (D := D) (ci := 11) (v := .ref (ad 4)) (C := RX11) (T := TX11) (N := 11) hx hb ht iX11 hown hK hP 0 rfl rfl 0 (by decide) (ht _ kw_696) (fun _ h9 => h9) rfl dX11_shoe_14 ?_
    refine lv_iload_n hx hb dX11_shoe_17 rfl (lv_at hl 1 rfl) ?_
    refine lv_iload_n hx hb dX11_shoe_18 rfl (lv_at hl 2 rfl) ?_
    refine lv_iload_n hx hb dX11_shoe_19 rfl (lv_at hl 3 rfl) ?_
    refine lv_iload hx hb dX11_shoe_20 (lv_at hl 4 rfl) ?_
    obtain ⟨r_5, u_6, u_7, u_8, u_9, u_10, hc_11, h⟩ := zk_o6 h
    refine zk_vi (post := (fun r u => (r, u) = (r_5, u_6, u_7, u_8, u_9, u_10))) (w1 := fun u => (wl_X2_addShoe ad cs u.1 court_claimCount court_suitCount u.2.1 u.2.2.1 u.2.2.2.1 u.2.2.2.2)) (As := [.int x1, .int x2, .int x3, .int x4]) (rest := []) (c_X2_addShoe l D cs ad  H.size x1 x2 x3 x4 court_shoeCount court_claimCount court_suitCount court_shoePerson court_shoeOther court_shoeSort court_shoeDay _ hc_11) ⟨hx, hb, hml, hown, ht⟩ (cwV 4 ht g_X11_107 rfl rfl rfl (by decide +kernel) ⟨Nat.le_of_ble_eq_true rfl, Nat.le_of_ble_eq_true rfl⟩) (va_recv hK hP (ci := 2) (q0 := 1) rfl rfl) hP hD hS hK hA [1, 2, 3, 4, 5] [0] rfl rfl rfl rfl (by decide) rfl hl.1 (Nat.le_of_ble_eq_true rfl) dX11_shoe_22 ⟨Nat.zero_le _, Nat.zero_le _⟩ (fun r u H locs hq hP hD hS => ?_)
    cases hq
    have hP : va_P D classes (wl_X11_shoe ad cs u_6 court_claimCount court_suitCount u_7 u_8 u_9 u_10) H := hP.sub [0, 1, 2, 3, 4, 5] rfl
    have hD : va_D A (wl_X11_shoe ad cs u_6 court_claimCount court_suitCount u_7 u_8 u_9 u_10) := hD.sub [0, 1, 2, 3, 4, 5] rfl rfl
    exact W.iret (v := r_5) hx hb hr (fun t ht2 hW => ⟨⟨r_5, (u_6, u_7, u_8, u_9, u_10), rfl, Option.some.inj h, by rw [ht2]; exact hP, hD⟩, hS.F ht2⟩) hS.2.2 dX11_shoe_25 hlocks
  · have h := zk_t c_4 h
    refine lv_iconst (v := (-1 : Int32)) hx hb dX11_shoe_11 (by decide) ?_
    exact W.iret (v := (-1 : Int32)) hx hb hr (fun t ht2 hW => ⟨⟨(-1 : Int32), (court_shoeCount, court_shoePerson, court_shoeOther, court_shoeSort, court_shoeDay), rfl, Option.some.inj h, by rw [ht2]; exact hP, hD⟩, hS.F ht2⟩) hS.2.2 dX11_shoe_12 hlocks
set_option maxHeartbeats 4000000 in
set_option maxRecDepth 100000 in
theorem c_X11_shoe (l : Launch) (D : va_G) (cs : Nat → ClassId) (ad : Nat → Nat) (sz : Nat) (x1 : Int32) (x2 : Int32) (x3 : Int32) (x4 : Int32) (court_shoeCount : Int32) (court_claimCount : Int32) (court_suitCount : Int32) (court_shoePerson : Nat → Int32) (court_shoeOther : Nat → Int32) (court_shoeSort : Nat → Int32) (court_shoeDay : Nat → Int32) (R : Int32 × Int32 × (Nat → Int32) × (Nat → Int32) × (Nat → Int32) × (Nat → Int32)) (h : f_X11_shoe   x1 x2 x3 x4 court_shoeCount court_claimCount court_suitCount court_shoePerson court_shoeOther court_shoeSort court_shoeDay = some R) : Met l yX11_shoe (z_X11_shoe) rm_X11_shoe (va_Pc [.ref (ad 0), .int x1, .int x2, .int x3, .int x4] (zPreO D cs (wl_X11_shoe ad cs court_shoeCount court_claimCount court_suitCount court_shoePerson court_shoeOther court_shoeSort court_shoeDay) sz)) (Q_X11_shoe D cs ad court_claimCount court_suitCount (va_A (wl_X11_shoe ad cs court_shoeCount court_claimCount court_suitCount court_shoePerson court_shoeOther court_shoeSort court_shoeDay) sz) R) 0 0 (va_A (wl_X11_shoe ad cs court_shoeCount court_claimCount court_suitCount court_shoePerson court_shoeOther court_shoeSort court_shoeDay) sz) := by
  refine Met.ofW (cc := cX11_shoe) (maxL := 5) (ret := (some .int)) (by decide) rfl ?_
  intro p e s m args below meth c s₁ B hml hv
  obtain ⟨rfl, ⟨hsz, hP, hK, hD0⟩, hO⟩ := hv
  subst hsz
  have hD := hD0.self (sz := s.heap.size)
  have C0 : zC p s m _ meth c cX11_shoe 5 (some .int) RX11 zW := ⟨B.exec, B.bytes, B.returns, hml, findClass_of_methodNamed B.named, fun w hw => atoms_spec (ws := z_X11_shoe) B.pre w (List.mem_cons_of_mem _ hw), B.notSynchronized⟩
  have hA : ∀ q : Nat, s.heap.size ≤ q → va_A (wl_X11_shoe ad cs court_shoeCount court_claimCount court_suitCount court_shoePerson court_shoeOther court_shoeSort court_shoeDay) s.heap.size q := fun q h => Or.inr h
  have hl := lv_entry ([.ref (ad 0), .int x1, .int x2, .int x3, .int x4]) (n := 5) (Nat.le_of_ble_eq_true rfl)
  rw [lg_entry_eq]
  generalize (lg_sl ([.ref (ad 0), .int x1, .int x2, .int x3, .int x4]) ++ List.replicate (5 - (lg_sl ([.ref (ad 0), .int x1, .int x2, .int x3, .int x4])).length) Slot.unset).toArray = ls at hl ⊢
  exact L_X11_shoe_0 C0 hK hO hA   x1 x2 x3 x4 court_shoeCount court_shoePerson court_shoeOther court_shoeSort court_shoeDay h s.heap [] ls hP hD va_S.rf hl
theorem kw_704 : Cond.fieldLink RX11 71 "AlreadyJudged" "places" "[LAlreadyJudged$Place;" ∈ zW := zwI (i := 704) (by decide +kernel) (by decide +kernel)
theorem dX11_placeAt_0 : decode cX11_placeAt 0 = .ok (.iload_n 1, 1) := by decide +kernel
theorem dX11_placeAt_1 : decode cX11_placeAt 1 = .ok (.ifCond .lt 18, 3) := by decide +kernel
theorem dX11_placeAt_4 : decode cX11_placeAt 4 = .ok (.iload_n 1, 1) := by decide +kernel
theorem dX11_placeAt_5 : decode cX11_placeAt 5 = .ok (.bipush 6, 2) := by decide +kernel
theorem dX11_placeAt_7 : decode cX11_placeAt 7 = .ok (.if_icmp .ge 12, 3) := by decide +kernel
theorem dX11_placeAt_10 : decode cX11_placeAt 10 = .ok (.aload_n 0, 1) := by decide +kernel
theorem dX11_placeAt_11 : decode cX11_placeAt 11 = .ok (.getfield 71, 3) := by decide +kernel
theorem dX11_placeAt_14 : decode cX11_placeAt 14 = .ok (.iload_n 1, 1) := by decide +kernel
theorem dX11_placeAt_15 : decode cX11_placeAt 15 = .ok (.aaload, 1) := by decide +kernel
theorem dX11_placeAt_16 : decode cX11_placeAt 16 = .ok (.goto 4, 3) := by decide +kernel
theorem dX11_placeAt_19 : decode cX11_placeAt 19 = .ok (.aconst_null, 1) := by decide +kernel
theorem dX11_placeAt_20 : decode cX11_placeAt 20 = .ok (.areturn, 1) := by decide +kernel
abbrev z_X11_placeAt : List Cond := .code yX11_placeAt cX11_placeAt 2 (some (.object "AlreadyJudged$Place")) :: zW
abbrev wl_X11_placeAt (ad : Nat → Nat) (cs : Nat → ClassId) (h_pl : Nat) (h_pl_elements : Nat) (root_places : Nat → Option Nat) (pl_holds : Int32) (pl_suit : Int32) (pl_size : Int32) : va_W := [((ad 0), .inr (11, [.ref (ad 4), .ref (ad 15), .ref (ad 23), .ref (ad 25), .ref (ad 26), .ref (ad 28), .ref (ad 34), .ref (ad 39), .ref (ad 1), .ref (ad 2), .ref (ad 3)])), ((ad 1), .inl (cs 7, 6, .inr (.inr (.inr (.inr root_places))))), (h_pl, .inr (6, [.int pl_holds, .int pl_suit, .int pl_size, .ref h_pl_elements]))]
def Q_X11_placeAt (D : va_G) (cs : Nat → ClassId) (ad : Nat → Nat) (h_pl : Nat) (h_pl_elements : Nat) (root_places : Nat → Option Nat) (pl_holds : Int32) (pl_suit : Int32) (pl_size : Int32) (A : Nat → Prop) (R : Bool × Unit) : Array Value → State → Outcome → State → Prop :=
  va_Qq (fun (r : Option Nat) (u : Unit) => r = (if R.1 = true then some h_pl else none) ∧ u = R.2) (fun (u : Unit) (t : State) => va_P D classes (wl_X11_placeAt ad cs h_pl h_pl_elements root_places pl_holds pl_suit pl_size) t.heap ∧ va_D A (wl_X11_placeAt ad cs h_pl h_pl_elements root_places pl_holds pl_suit pl_size)) A
abbrev rm_X11_placeAt : Room := { frames := 0, cells := 0, slots := 0, locals := 0 }
def B_X11_placeAt_0 (h_pl : Nat)   (root_places : Nat → Option Nat) (pl_holds : Int32) (pl_suit : Int32) (pl_size : Int32) (x1 : Int32) : Option (Bool × Unit) :=
  (if x1 < 0 then (some (false, ())) else (if (6 : Int32) ≤ x1 then (some (false, ())) else (if (x1 < 0 ∨ 6 ≤ x1.toNatClampNeg) then none else (if ¬ (root_places x1.toNatClampNeg = some h_pl) then none else (some (true, ()))))))
def f_X11_placeAt (h_pl : Nat)  (x1 : Int32) (root_places : Nat → Option Nat) (pl_holds : Int32) (pl_suit : Int32) (pl_size : Int32) : Option (Bool × Unit) := B_X11_placeAt_0 h_pl  root_places pl_holds pl_suit pl_size x1 
set_option maxHeartbeats 4000000 in
set_option maxRecDepth 100000 in
theorem L_X11_placeAt_0 {p : Program} {l : Launch} {e : Env} {s : State} {m : MethodId} {args : Array Value} {below : List Frame} {meth : Method} {c : Code} {A : Nat → Prop} {D : va_G} {cs : Nat → ClassId} {ad : Nat → Nat} {h_pl : Nat} {h_pl_elements : Nat} {root_places : Nat → Option Nat} {pl_holds : Int32} {pl_suit : Int32} {pl_size : Int32} {R : Bool × Unit} (C0 : zC p s m args meth c cX11_placeAt 2 (some (.object "AlreadyJudged$Place")) RX11 zW) (hK : va_K D classes (zT cs) s) (hA : ∀ q : Nat, s.heap.size ≤ q → A q) (x1 : Int32) (h : B_X11_placeAt_0 h_pl root_places pl_holds pl_suit pl_size x1 = some R) (H : Heap) (locs : List Loc) (ls : Array Slot) (hP : va_P D classes (wl_X11_placeAt ad cs h_pl h_pl_elements root_places pl_holds pl_suit pl_size) H) (hD : va_D A (wl_X11_placeAt ad cs h_pl h_pl_elements root_places pl_holds pl_suit pl_size)) (hS : va_S A s.heap H locs) (hl : lv_has ls 2 [(0, .ref (ad 0)), (1, .int x1)]) : W p l e rm_X11_placeAt s m args below meth c H locs 0 0 (MQ below (Q_X11_placeAt D cs ad h_pl h_pl_elements root_places pl_holds pl_suit pl_size A R) args s 0 0 A) (F0 m 0 ls []) := by
  obtain ⟨hx, hb, hr, hml, hown, ht, hlocks⟩ := id C0
  refine lv_iload_n hx hb dX11_placeAt_0 rfl (lv_at hl 1 rfl) ?_
  refine lv_if_lt (tgt := 19) hx hb dX11_placeAt_1 (by decide) (fun c_1 => ?_) (fun c_1 => ?_)
  · have h := zk_t c_1 h
    refine lv_null hx hb dX11_placeAt_19 ?_
    exact W.aret (v := va_rf none) hx hb hr (Or.inl ⟨_, rfl⟩) (Or.inl rfl) (fun t ht2 hW => ⟨⟨none, (), rfl, ⟨by rw [← Option.some.inj h]; rfl, by rw [← Option.some.inj h]⟩, by rw [ht2]; exact hP, hD⟩, hS.F ht2⟩) hS.2.2 dX11_placeAt_20 hlocks
  · have h := zk_f c_1 h
    refine lv_iload_n hx hb dX11_placeAt_4 rfl (lv_at hl 1 rfl) ?_
    refine lv_bipush (v := (6 : Int32)) hx hb dX11_placeAt_5 (by decide) ?_
    refine lv_icmp_ge (tgt := 19) hx hb dX11_placeAt_7 (by decide) (fun c_2 => ?_) (fun c_2 => ?_)
    · have h := zk_t c_2 h
      refine lv_null hx hb dX11_placeAt_19 ?_
      exact W.aret (v := va_rf none) hx hb hr (Or.inl ⟨_, rfl⟩) (Or.inl rfl) (fun t ht2 hW => ⟨⟨none, (), rfl, ⟨by rw [← Option.some.inj h]; rfl, by rw [← Option.some.inj h]⟩, by rw [ht2]; exact hP, hD⟩, hS.F ht2⟩) hS.2.2 dX11_placeAt_20 hlocks
    · have h := zk_f c_2 h
      refine lv_aload_n hx hb dX11_placeAt_10 rfl (lv_at hl 0 rfl) ?_
      refine va_get (D := D) (ci := 11) (v := .ref (ad 1)) (C := RX11) (T := TX11) (N := 11) hx hb ht iX11 hown hK hP 0 rfl rfl 8 (by decide) (ht _ kw_704) (fun _ h9 => h9) rfl dX11_placeAt_11 ?_
      refine lv_iload_n hx hb dX11_placeAt_14 rfl (lv_at hl 1 rfl) ?_
      obtain ⟨g_3, h⟩ := zk_gd h
      obtain ⟨g_4, h⟩ := zk_gd h
      refine va_aldq hx hb hK hP 1 7 rfl rfl g_3 dX11_placeAt_15 ?_
      refine W.eq (g2 := F0 m 16 ls [.ref h_pl]) (by rw [Decidable.not_not.mp g_4]; rfl) ?_
      refine lv_goto (tgt := 20) hx hb dX11_placeAt_16 (by decide) ?_
      exact W.aret (v := va_rf (some h_pl)) hx hb hr (Or.inl ⟨_, rfl⟩) (Or.inr ⟨_, rfl⟩) (fun t ht2 hW => ⟨⟨(some h_pl), (), rfl, ⟨by rw [← Option.some.inj h]; rfl, by rw [← Option.some.inj h]⟩, by rw [ht2]; exact hP, hD⟩, hS.F ht2⟩) hS.2.2 dX11_placeAt_20 hlocks
set_option maxHeartbeats 4000000 in
set_option maxRecDepth 100000 in
theorem c_X11_placeAt (l : Launch) (D : va_G) (cs : Nat → ClassId) (ad : Nat → Nat) (h_pl : Nat) (h_pl_elements : Nat) (sz : Nat) (x1 : Int32) (root_places : Nat → Option Nat) (pl_holds : Int32) (pl_suit : Int32) (pl_size : Int32) (R : Bool × Unit) (h : f_X11_placeAt h_pl  x1 root_places pl_holds pl_suit pl_size = some R) : Met l yX11_placeAt (z_X11_placeAt) rm_X11_placeAt (va_Pc [.ref (ad 0), .int x1] (zPre D cs (wl_X11_placeAt ad cs h_pl h_pl_elements root_places pl_holds pl_suit pl_size) sz)) (Q_X11_placeAt D cs ad h_pl h_pl_elements root_places pl_holds pl_suit pl_size (va_A (wl_X11_placeAt ad cs h_pl h_pl_elements root_places pl_holds pl_suit pl_size) sz) R) 0 0 (va_A (wl_X11_placeAt ad cs h_pl h_pl_elements root_places pl_holds pl_suit pl_size) sz) := by
  refine Met.ofW (cc := cX11_placeAt) (maxL := 2) (ret := (some (.object "AlreadyJudged$Place"))) (by decide) rfl ?_
  intro p e s m args below meth c s₁ B hml hv
  obtain ⟨rfl, hsz, hP, hK, hD0⟩ := hv
  subst hsz
  have hD := hD0.self (sz := s.heap.size)
  have C0 : zC p s m _ meth c cX11_placeAt 2 (some (.object "AlreadyJudged$Place")) RX11 zW := ⟨B.exec, B.bytes, B.returns, hml, findClass_of_methodNamed B.named, fun w hw => atoms_spec (ws := z_X11_placeAt) B.pre w (List.mem_cons_of_mem _ hw), B.notSynchronized⟩
  have hA : ∀ q : Nat, s.heap.size ≤ q → va_A (wl_X11_placeAt ad cs h_pl h_pl_elements root_places pl_holds pl_suit pl_size) s.heap.size q := fun q h => Or.inr h
  have hl := lv_entry ([.ref (ad 0), .int x1]) (n := 2) (Nat.le_of_ble_eq_true rfl)
  rw [lg_entry_eq]
  generalize (lg_sl ([.ref (ad 0), .int x1]) ++ List.replicate (2 - (lg_sl ([.ref (ad 0), .int x1])).length) Slot.unset).toArray = ls at hl ⊢
  exact L_X11_placeAt_0 C0 hK hA   x1  h s.heap [] ls hP hD va_S.rf hl
theorem kw_2 : Cond.selects RX11 yX11_placeAt yX11_placeAt ∈ zW := zwI (i := 2) (by decide +kernel) (by decide +kernel)
theorem kw_681 : Cond.fieldLink RX11 115 "AlreadyJudged$Place" "holds" "I" ∈ zW := zwI (i := 681) (by decide +kernel) (by decide +kernel)
theorem kw_684 : Cond.fieldLink RX11 118 "AlreadyJudged$Place" "size" "I" ∈ zW := zwI (i := 684) (by decide +kernel) (by decide +kernel)
theorem kw_748 : Cond.methodLink RX11 111 yX11_placeAt ∈ zW := zwI (i := 748) (by decide +kernel) (by decide +kernel)
theorem kw_750 : Cond.instanceMethod yX11_placeAt ∈ zW := zwI (i := 750) (by decide +kernel) (by decide +kernel)
theorem kw_751 : Cond.code yX11_placeAt cX11_placeAt 2 (some (.object "AlreadyJudged$Place")) ∈ zW := zwI (i := 751) (by decide +kernel) (by decide +kernel)
theorem kw_752 : Cond.constantLong RX11 119 (4 : Int64) ∈ zW := zwI (i := 752) (by decide +kernel) (by decide +kernel)
theorem dX11_shoes_0 : decode cX11_shoes 0 = .ok (.aload_n 0, 1) := by decide +kernel
theorem dX11_shoes_1 : decode cX11_shoes 1 = .ok (.iload_n 1, 1) := by decide +kernel
theorem dX11_shoes_2 : decode cX11_shoes 2 = .ok (.invokevirtual 111, 3) := by decide +kernel
theorem dX11_shoes_5 : decode cX11_shoes 5 = .ok (.astore 4, 2) := by decide +kernel
theorem dX11_shoes_7 : decode cX11_shoes 7 = .ok (.aload 4, 2) := by decide +kernel
theorem dX11_shoes_9 : decode cX11_shoes 9 = .ok (.ifnull 14, 3) := by decide +kernel
theorem dX11_shoes_12 : decode cX11_shoes 12 = .ok (.iload_n 3, 1) := by decide +kernel
theorem dX11_shoes_13 : decode cX11_shoes 13 = .ok (.iconst 1, 1) := by decide +kernel
theorem dX11_shoes_14 : decode cX11_shoes 14 = .ok (.if_icmp .lt 9, 3) := by decide +kernel
theorem dX11_shoes_17 : decode cX11_shoes 17 = .ok (.iload_n 3, 1) := by decide +kernel
theorem dX11_shoes_18 : decode cX11_shoes 18 = .ok (.bipush 15, 2) := by decide +kernel
theorem dX11_shoes_20 : decode cX11_shoes 20 = .ok (.if_icmp .le 5, 3) := by decide +kernel
theorem dX11_shoes_23 : decode cX11_shoes 23 = .ok (.iconst (-1), 1) := by decide +kernel
theorem dX11_shoes_24 : decode cX11_shoes 24 = .ok (.ireturn, 1) := by decide +kernel
theorem dX11_shoes_25 : decode cX11_shoes 25 = .ok (.aload 4, 2) := by decide +kernel
theorem dX11_shoes_27 : decode cX11_shoes 27 = .ok (.getfield 115, 3) := by decide +kernel
theorem dX11_shoes_30 : decode cX11_shoes 30 = .ok (.iconst (-1), 1) := by decide +kernel
theorem dX11_shoes_31 : decode cX11_shoes 31 = .ok (.if_icmp .eq 15, 3) := by decide +kernel
theorem dX11_shoes_34 : decode cX11_shoes 34 = .ok (.aload 4, 2) := by decide +kernel
theorem dX11_shoes_36 : decode cX11_shoes 36 = .ok (.getfield 115, 3) := by decide +kernel
theorem dX11_shoes_39 : decode cX11_shoes 39 = .ok (.iconst 1, 1) := by decide +kernel
theorem dX11_shoes_40 : decode cX11_shoes 40 = .ok (.if_icmp .eq 6, 3) := by decide +kernel
theorem dX11_shoes_43 : decode cX11_shoes 43 = .ok (.bipush (-12), 2) := by decide +kernel
theorem dX11_shoes_45 : decode cX11_shoes 45 = .ok (.ireturn, 1) := by decide +kernel
theorem dX11_shoes_46 : decode cX11_shoes 46 = .ok (.aload 4, 2) := by decide +kernel
theorem dX11_shoes_48 : decode cX11_shoes 48 = .ok (.getfield 115, 3) := by decide +kernel
theorem dX11_shoes_51 : decode cX11_shoes 51 = .ok (.iconst 1, 1) := by decide +kernel
theorem dX11_shoes_52 : decode cX11_shoes 52 = .ok (.if_icmp .ne 11, 3) := by decide +kernel
theorem dX11_shoes_55 : decode cX11_shoes 55 = .ok (.aload 4, 2) := by decide +kernel
theorem dX11_shoes_57 : decode cX11_shoes 57 = .ok (.getfield 118, 3) := by decide +kernel
theorem dX11_shoes_60 : decode cX11_shoes 60 = .ok (.goto 4, 3) := by decide +kernel
theorem dX11_shoes_63 : decode cX11_shoes 63 = .ok (.iconst 0, 1) := by decide +kernel
theorem dX11_shoes_64 : decode cX11_shoes 64 = .ok (.istore 5, 2) := by decide +kernel
theorem dX11_shoes_66 : decode cX11_shoes 66 = .ok (.iconst 0, 1) := by decide +kernel
theorem dX11_shoes_67 : decode cX11_shoes 67 = .ok (.istore 6, 2) := by decide +kernel
theorem dX11_shoes_69 : decode cX11_shoes 69 = .ok (.iload 6, 2) := by decide +kernel
theorem dX11_shoes_71 : decode cX11_shoes 71 = .ok (.iload_n 3, 1) := by decide +kernel
theorem dX11_shoes_72 : decode cX11_shoes 72 = .ok (.if_icmp .ge 49, 3) := by decide +kernel
theorem dX11_shoes_75 : decode cX11_shoes 75 = .ok (.iload_n 2, 1) := by decide +kernel
theorem dX11_shoes_76 : decode cX11_shoes 76 = .ok (.ifCond .lt 45, 3) := by decide +kernel
theorem dX11_shoes_79 : decode cX11_shoes 79 = .ok (.iload_n 2, 1) := by decide +kernel
theorem dX11_shoes_80 : decode cX11_shoes 80 = .ok (.i2l, 1) := by decide +kernel
theorem dX11_shoes_81 : decode cX11_shoes 81 = .ok (.ldc2_w 119, 3) := by decide +kernel
theorem dX11_shoes_84 : decode cX11_shoes 84 = .ok (.iload 6, 2) := by decide +kernel
theorem dX11_shoes_86 : decode cX11_shoes 86 = .ok (.i2l, 1) := by decide +kernel
theorem dX11_shoes_87 : decode cX11_shoes 87 = .ok (.lmul, 1) := by decide +kernel
theorem dX11_shoes_88 : decode cX11_shoes 88 = .ok (.ladd, 1) := by decide +kernel
theorem dX11_shoes_89 : decode cX11_shoes 89 = .ok (.ldc2_w 119, 3) := by decide +kernel
theorem dX11_shoes_92 : decode cX11_shoes 92 = .ok (.ladd, 1) := by decide +kernel
theorem dX11_shoes_93 : decode cX11_shoes 93 = .ok (.iload 5, 2) := by decide +kernel
theorem dX11_shoes_95 : decode cX11_shoes 95 = .ok (.i2l, 1) := by decide +kernel
theorem dX11_shoes_96 : decode cX11_shoes 96 = .ok (.lcmp, 1) := by decide +kernel
theorem dX11_shoes_97 : decode cX11_shoes 97 = .ok (.ifCond .gt 24, 3) := by decide +kernel
theorem dX11_shoes_100 : decode cX11_shoes 100 = .ok (.aload_n 0, 1) := by decide +kernel
theorem dX11_shoes_101 : decode cX11_shoes 101 = .ok (.aload 4, 2) := by decide +kernel
theorem dX11_shoes_103 : decode cX11_shoes 103 = .ok (.iload_n 2, 1) := by decide +kernel
theorem dX11_shoes_104 : decode cX11_shoes 104 = .ok (.iconst 4, 1) := by decide +kernel
theorem dX11_shoes_105 : decode cX11_shoes 105 = .ok (.iload 6, 2) := by decide +kernel
theorem dX11_shoes_107 : decode cX11_shoes 107 = .ok (.imul, 1) := by decide +kernel
theorem dX11_shoes_108 : decode cX11_shoes 108 = .ok (.iadd, 1) := by decide +kernel
theorem dX11_shoes_121 : decode cX11_shoes 121 = .ok (.iload 6, 2) := by decide +kernel
theorem dX11_shoes_123 : decode cX11_shoes 123 = .ok (.ireturn, 1) := by decide +kernel
abbrev z_X11_shoes : List Cond := .code yX11_shoes cX11_shoes 7 (some .int) :: zW
abbrev wl_X11_shoes (ad : Nat → Nat) (cs : Nat → ClassId) (h_pl : Nat) (h_pl_elements : Nat) (root_places : Nat → Option Nat) (pl_holds : Int32) (pl_suit : Int32) (pl_size : Int32) : va_W := [((ad 0), .inr (11, [.ref (ad 4), .ref (ad 15), .ref (ad 23), .ref (ad 25), .ref (ad 26), .ref (ad 28), .ref (ad 34), .ref (ad 39), .ref (ad 1), .ref (ad 2), .ref (ad 3)])), ((ad 1), .inl (cs 7, 6, .inr (.inr (.inr (.inr root_places))))), (h_pl, .inr (6, [.int pl_holds, .int pl_suit, .int pl_size, .ref h_pl_elements]))]
def Q_X11_shoes (D : va_G) (cs : Nat → ClassId) (ad : Nat → Nat) (h_pl : Nat) (h_pl_elements : Nat) (root_places : Nat → Option Nat) (pl_holds : Int32) (pl_suit : Int32) (pl_size : Int32) (A : Nat → Prop) (R : Int32 × Unit) : Array Value → State → Outcome → State → Prop :=
  va_Qi (fun (r : Int32) (u : Unit) => (r, u) = R) (fun (u : Unit) (t : State) => va_P D classes (wl_X11_shoes ad cs h_pl h_pl_elements root_places pl_holds pl_suit pl_size) t.heap ∧ va_D A (wl_X11_shoes ad cs h_pl h_pl_elements root_places pl_holds pl_suit pl_size)) A
abbrev rm_X11_shoes : Room := { frames := 1, cells := 0, slots := 0, locals := 21 }
theorem g_X11_111 : GoodIn zW (wsV RX11 111 RX11 yX11_placeAt z_X11_placeAt) := zGV kw_748 kw_750 kw_2 kw_75 kw_751
def B_X11_shoes_69 (h_pl : Nat)  (g69 : Int32 → Int32 → Int32 → Int32 → (Option (Int32 × Unit))) (root_places : Nat → Option Nat) (pl_holds : Int32) (pl_suit : Int32) (pl_size : Int32) (x2 : Int32) (x3 : Int32) (x5 : Int32) (x6 : Int32) : Option (Int32 × Unit) :=
  (if x3 ≤ x6 then (some (x6, ())) else (if x2 < 0 then (some (x6, ())) else (if 0 < (lg_cmp ((x2.toInt64 + ((4 : Int64) * x6.toInt64)) + (4 : Int64)) x5.toInt64) then (some (x6, ())) else none)))
def B_X11_shoes_64 (h_pl : Nat)  (g69 : Int32 → Int32 → Int32 → Int32 → (Option (Int32 × Unit))) (root_places : Nat → Option Nat) (pl_holds : Int32) (pl_suit : Int32) (pl_size : Int32) (x2 : Int32) (x3 : Int32) (s0 : Int32) : Option (Int32 × Unit) :=
  (g69 x2 x3 s0 (0 : Int32))
def B_X11_shoes_46 (h_pl : Nat)  (g69 : Int32 → Int32 → Int32 → Int32 → (Option (Int32 × Unit))) (root_places : Nat → Option Nat) (pl_holds : Int32) (pl_suit : Int32) (pl_size : Int32) (x2 : Int32) (x3 : Int32) : Option (Int32 × Unit) :=
  (if pl_holds = (1 : Int32) then (B_X11_shoes_64 h_pl g69 root_places pl_holds pl_suit pl_size x2 x3 pl_size) else (B_X11_shoes_64 h_pl g69 root_places pl_holds pl_suit pl_size x2 x3 (0 : Int32)))
def B_X11_shoes_0 (h_pl : Nat)  (g69 : Int32 → Int32 → Int32 → Int32 → (Option (Int32 × Unit))) (root_places : Nat → Option Nat) (pl_holds : Int32) (pl_suit : Int32) (pl_size : Int32) (x1 : Int32) (x2 : Int32) (x3 : Int32) : Option (Int32 × Unit) :=
  (zk_b2 (f_X11_placeAt h_pl x1 root_places pl_holds pl_suit pl_size) (fun r_1 u_2 => (if r_1 = true then (if x3 < (1 : Int32) then (some ((-1 : Int32), ())) else (if x3 ≤ (15 : Int32) then (if pl_holds = (-1 : Int32) then (B_X11_shoes_46 h_pl g69 root_places pl_holds pl_suit pl_size x2 x3) else (if pl_holds = (1 : Int32) then (B_X11_shoes_46 h_pl g69 root_places pl_holds pl_suit pl_size x2 x3) else (some ((-12 : Int32), ())))) else (some ((-1 : Int32), ())))) else (some ((-1 : Int32), ())))))
def G_X11_shoes (h_pl : Nat)  (root_places : Nat → Option Nat) (pl_holds : Int32) (pl_suit : Int32) (pl_size : Int32) (n : Nat) : (Int32 → Int32 → Int32 → Int32 → (Option (Int32 × Unit))) :=
  Nat.rec (motive := fun _ => (Int32 → Int32 → Int32 → Int32 → (Option (Int32 × Unit)))) ((fun _ _ _ _ => none)) (fun _ ih => (B_X11_shoes_69 h_pl  ih root_places pl_holds pl_suit pl_size)) n
def f_X11_shoes (h_pl : Nat)  (n : Nat) (x1 : Int32) (x2 : Int32) (x3 : Int32) (root_places : Nat → Option Nat) (pl_holds : Int32) (pl_suit : Int32) (pl_size : Int32) : Option (Int32 × Unit) := B_X11_shoes_0 h_pl  ((G_X11_shoes h_pl  root_places pl_holds pl_suit pl_size n)) root_places pl_holds pl_suit pl_size x1 x2 x3 
set_option maxHeartbeats 4000000 in
set_option maxRecDepth 100000 in
theorem L_X11_shoes_69 {p : Program} {l : Launch} {e : Env} {s : State} {m : MethodId} {args : Array Value} {below : List Frame} {meth : Method} {c : Code} {A : Nat → Prop} {D : va_G} {cs : Nat → ClassId} {ad : Nat → Nat} {h_pl : Nat} {h_pl_elements : Nat} {root_places : Nat → Option Nat} {pl_holds : Int32} {pl_suit : Int32} {pl_size : Int32} {R : Int32 × Unit} {g69 : Int32 → Int32 → Int32 → Int32 → (Option (Int32 × Unit))} (C0 : zC p s m args meth c cX11_shoes 7 (some .int) RX11 zW) (hK : va_K D classes (zT cs) s) (hA : ∀ q : Nat, s.heap.size ≤ q → A q) (ih69 : ∀ (x2 : Int32) (x3 : Int32) (x5 : Int32) (x6 : Int32) (h : g69 x2 x3 x5 x6 = some R) (H : Heap) (locs : List Loc) (ls : Array Slot) (hP : va_P D classes (wl_X11_shoes ad cs h_pl h_pl_elements root_places pl_holds pl_suit pl_size) H) (hD : va_D A (wl_X11_shoes ad cs h_pl h_pl_elements root_places pl_holds pl_suit pl_size)) (hS : va_S A s.heap H locs) (hl : lv_has ls 7 [(0, .ref (ad 0)), (2, .int x2), (3, .int x3), (4, .ref h_pl), (5, .int x5), (6, .int x6)]), W p l e rm_X11_shoes s m args below meth c H locs 0 0 (MQ below (Q_X11_shoes D cs ad h_pl h_pl_elements root_places pl_holds pl_suit pl_size A R) args s 0 0 A) (F0 m 69 ls [])) (x2 : Int32) (x3 : Int32) (x5 : Int32) (x6 : Int32) (h : B_X11_shoes_69 h_pl g69 root_places pl_holds pl_suit pl_size x2 x3 x5 x6 = some R) (H : Heap) (locs : List Loc) (ls : Array Slot) (hP : va_P D classes (wl_X11_shoes ad cs h_pl h_pl_elements root_places pl_holds pl_suit pl_size) H) (hD : va_D A (wl_X11_shoes ad cs h_pl h_pl_elements root_places pl_holds pl_suit pl_size)) (hS : va_S A s.heap H locs) (hl : lv_has ls 7 [(0, .ref (ad 0)), (2, .int x2), (3, .int x3), (4, .ref h_pl), (5, .int x5), (6, .int x6)]) : W p l e rm_X11_shoes s m args below meth c H locs 0 0 (MQ below (Q_X11_shoes D cs ad h_pl h_pl_elements root_places pl_holds pl_suit pl_size A R) args s 0 0 A) (F0 m 69 ls []) := by
  obtain ⟨hx, hb, hr, hml, hown, ht, hlocks⟩ := id C0
  refine lv_iload hx hb dX11_shoes_69 (lv_at hl 5 rfl) ?_
  refine lv_iload_n hx hb dX11_shoes_71 rfl (lv_at hl 2 rfl) ?_
  refine lv_icmp_ge (tgt := 121) hx hb dX11_shoes_72 (by decide) (fun c_10 => ?_) (fun c_10 => ?_)
  · have h := zk_t c_10 h
    refine lv_iload hx hb dX11_shoes_121 (lv_at hl 5 rfl) ?_
    exact W.iret (v := x6) hx hb hr (fun t ht2 hW => ⟨⟨x6, (), rfl, Option.some.inj h, by rw [ht2]; exact hP, hD⟩, hS.F ht2⟩) hS.2.2 dX11_shoes_123 hlocks
  · have h := zk_f c_10 h
    refine lv_iload_n hx hb dX11_shoes_75 rfl (lv_at hl 1 rfl) ?_
    refine lv_if_lt (tgt := 121) hx hb dX11_shoes_76 (by decide) (fun c_11 => ?_) (fun c_11 => ?_)
    · have h := zk_t c_11 h
      refine lv_iload hx hb dX11_shoes_121 (lv_at hl 5 rfl) ?_
      exact W.iret (v := x6) hx hb hr (fun t ht2 hW => ⟨⟨x6, (), rfl, Option.some.inj h, by rw [ht2]; exact hP, hD⟩, hS.F ht2⟩) hS.2.2 dX11_shoes_123 hlocks
    · have h := zk_f c_11 h
      refine lv_iload_n hx hb dX11_shoes_79 rfl (lv_at hl 1 rfl) ?_
      refine lv_i2l (v := x2.toInt64) hx hb dX11_shoes_80 rfl ?_
      refine lv_ldc2 (v := (4 : Int64)) hx hb hown (ht _ kw_752) dX11_shoes_81 ?_
      refine lv_iload hx hb dX11_shoes_84 (lv_at hl 5 rfl) ?_
      refine lv_i2l (v := x6.toInt64) hx hb dX11_shoes_86 rfl ?_
      refine lv_lmul hx hb dX11_shoes_87 ?_
      refine lv_ladd hx hb dX11_shoes_88 ?_
      refine lv_ldc2 (v := (4 : Int64)) hx hb hown (ht _ kw_752) dX11_shoes_89 ?_
      refine lv_ladd hx hb dX11_shoes_92 ?_
      refine lv_iload hx hb dX11_shoes_93 (lv_at hl 4 rfl) ?_
      refine lv_i2l (v := x5.toInt64) hx hb dX11_shoes_95 rfl ?_
      refine W.lcmp hx hb dX11_shoes_96 ?_
      refine lv_if_gt (tgt := 121) hx hb dX11_shoes_97 (by decide) (fun c_12 => ?_) (fun c_12 => ?_)
      · have h := zk_t c_12 h
        refine lv_iload hx hb dX11_shoes_121 (lv_at hl 5 rfl) ?_
        exact W.iret (v := x6) hx hb hr (fun t ht2 hW => ⟨⟨x6, (), rfl, Option.some.inj h, by rw [ht2]; exact hP, hD⟩, hS.F ht2⟩) hS.2.2 dX11_shoes_123 hlocks
      · have h := zk_f c_12 h
        refine lv_aload_n hx hb dX11_shoes_100 rfl (lv_at hl 0 rfl) ?_
        refine lv_aload hx hb dX11_shoes_101 (lv_at hl 3 rfl) ?_
        refine lv_iload_n hx hb dX11_shoes_103 rfl (lv_at hl 1 rfl) ?_
        refine lv_iconst (v := (4 : Int32)) hx hb dX11_shoes_104 (by decide) ?_
        refine lv_iload hx hb dX11_shoes_105 (lv_at hl 5 rfl) ?_
        refine lv_imul hx hb dX11_shoes_107 ?_
        refine lv_iadd hx hb dX11_shoes_108 ?_
        cases h
set_option maxHeartbeats 4000000 in
set_option maxRecDepth 100000 in
theorem L_X11_shoes_64 {p : Program} {l : Launch} {e : Env} {s : State} {m : MethodId} {args : Array Value} {below : List Frame} {meth : Method} {c : Code} {A : Nat → Prop} {D : va_G} {cs : Nat → ClassId} {ad : Nat → Nat} {h_pl : Nat} {h_pl_elements : Nat} {root_places : Nat → Option Nat} {pl_holds : Int32} {pl_suit : Int32} {pl_size : Int32} {R : Int32 × Unit} {g69 : Int32 → Int32 → Int32 → Int32 → (Option (Int32 × Unit))} (C0 : zC p s m args meth c cX11_shoes 7 (some .int) RX11 zW) (hK : va_K D classes (zT cs) s) (hA : ∀ q : Nat, s.heap.size ≤ q → A q) (ih69 : ∀ (x2 : Int32) (x3 : Int32) (x5 : Int32) (x6 : Int32) (h : g69 x2 x3 x5 x6 = some R) (H : Heap) (locs : List Loc) (ls : Array Slot) (hP : va_P D classes (wl_X11_shoes ad cs h_pl h_pl_elements root_places pl_holds pl_suit pl_size) H) (hD : va_D A (wl_X11_shoes ad cs h_pl h_pl_elements root_places pl_holds pl_suit pl_size)) (hS : va_S A s.heap H locs) (hl : lv_has ls 7 [(0, .ref (ad 0)), (2, .int x2), (3, .int x3), (4, .ref h_pl), (5, .int x5), (6, .int x6)]), W p l e rm_X11_shoes s m args below meth c H locs 0 0 (MQ below (Q_X11_shoes D cs ad h_pl h_pl_elements root_places pl_holds pl_suit pl_size A R) args s 0 0 A) (F0 m 69 ls [])) (x2 : Int32) (x3 : Int32) (s0 : Int32) (h : B_X11_shoes_64 h_pl g69 root_places pl_holds pl_suit pl_size x2 x3 s0 = some R) (H : Heap) (locs : List Loc) (ls : Array Slot) (hP : va_P D classes (wl_X11_shoes ad cs h_pl h_pl_elements root_places pl_holds pl_suit pl_size) H) (hD : va_D A (wl_X11_shoes ad cs h_pl h_pl_elements root_places pl_holds pl_suit pl_size)) (hS : va_S A s.heap H locs) (hl : lv_has ls 7 [(0, .ref (ad 0)), (2, .int x2), (3, .int x3), (4, .ref h_pl)]) : W p l e rm_X11_shoes s m args below meth c H locs 0 0 (MQ below (Q_X11_shoes D cs ad h_pl h_pl_elements root_places pl_holds pl_suit pl_size A R) args s 0 0 A) (F0 m 64 ls [.int s0]) := by
  obtain ⟨hx, hb, hr, hml, hown, ht, hlocks⟩ := id C0
  refine lv_istore (lv' := [(5, .int s0), (0, .ref (ad 0)), (2, .int x2), (3, .int x3), (4, .ref h_pl)]) hx hb dX11_shoes_64 hl (by decide) rfl (fun ls hl => ?_)
  refine lv_iconst (v := (0 : Int32)) hx hb dX11_shoes_66 (by decide) ?_
  refine lv_istore (lv' := [(6, .int (0 : Int32)), (5, .int s0), (0, .ref (ad 0)), (2, .int x2), (3, .int x3), (4, .ref h_pl)]) hx hb dX11_shoes_67 hl (by decide) rfl (fun ls hl => ?_)
  exact ih69 x2 x3 s0 (0 : Int32) h H locs ls hP hD hS (lv_sub hl [2, 3, 4, 5, 1, 0] rfl)
set_option maxHeartbeats 4000000 in
set_option maxRecDepth 100000 in
theorem L_X11_shoes_46 {p : Program} {l : Launch} {e : Env} {s : State} {m : MethodId} {args : Array Value} {below : List Frame} {meth : Method} {c : Code} {A : Nat → Prop} {D : va_G} {cs : Nat → ClassId} {ad : Nat → Nat} {h_pl : Nat} {h_pl_elements : Nat} {root_places : Nat → Option Nat} {pl_holds : Int32} {pl_suit : Int32} {pl_size : Int32} {R : Int32 × Unit} {g69 : Int32 → Int32 → Int32 → Int32 → (Option (Int32 × Unit))} (C0 : zC p s m args meth c cX11_shoes 7 (some .int) RX11 zW) (hK : va_K D classes (zT cs) s) (hA : ∀ q : Nat, s.heap.size ≤ q → A q) (ih69 : ∀ (x2 : Int32) (x3 : Int32) (x5 : Int32) (x6 : Int32) (h : g69 x2 x3 x5 x6 = some R) (H : Heap) (locs : List Loc) (ls : Array Slot) (hP : va_P D classes (wl_X11_shoes ad cs h_pl h_pl_elements root_places pl_holds pl_suit pl_size) H) (hD : va_D A (wl_X11_shoes ad cs h_pl h_pl_elements root_places pl_holds pl_suit pl_size)) (hS : va_S A s.heap H locs) (hl : lv_has ls 7 [(0, .ref (ad 0)), (2, .int x2), (3, .int x3), (4, .ref h_pl), (5, .int x5), (6, .int x6)]), W p l e rm_X11_shoes s m args below meth c H locs 0 0 (MQ below (Q_X11_shoes D cs ad h_pl h_pl_elements root_places pl_holds pl_suit pl_size A R) args s 0 0 A) (F0 m 69 ls [])) (x2 : Int32) (x3 : Int32) (h : B_X11_shoes_46 h_pl g69 root_places pl_holds pl_suit pl_size x2 x3 = some R) (H : Heap) (locs : List Loc) (ls : Array Slot) (hP : va_P D classes (wl_X11_shoes ad cs h_pl h_pl_elements root_places pl_holds pl_suit pl_size) H) (hD : va_D A (wl_X11_shoes ad cs h_pl h_pl_elements root_places pl_holds pl_suit pl_size)) (hS : va_S A s.heap H locs) (hl : lv_has ls 7 [(0, .ref (ad 0)), (2, .int x2), (3, .int x3), (4, .ref h_pl)]) : W p l e rm_X11_shoes s m args below meth c H locs 0 0 (MQ below (Q_X11_shoes D cs ad h_pl h_pl_elements root_places pl_holds pl_suit pl_size A R) args s 0 0 A) (F0 m 46 ls []) := by
  obtain ⟨hx, hb, hr, hml, hown, ht, hlocks⟩ := id C0
  refine lv_aload hx hb dX11_shoes_46 (lv_at hl 3 rfl) ?_
  refine va_get (D := D) (ci := 6) (v := .int pl_holds) (C := RX6) (T := TX6) (N := 4) hx hb ht iX6 hown hK hP 2 rfl rfl 0 (by decide) (ht _ kw_681) (fun _ h9 => h9) rfl dX11_shoes_48 ?_
  refine lv_iconst (v := (1 : Int32)) hx hb dX11_shoes_51 (by decide) ?_
  refine lv_icmp_ne (tgt := 63) hx hb dX11_shoes_52 (by decide) (fun c_9 => ?_) (fun c_9 => ?_)
  · have h := zk_f c_9 h
    refine lv_iconst (v := (0 : Int32)) hx hb dX11_shoes_63 (by decide) ?_
    exact L_X11_shoes_64 C0 hK hA  ih69 x2 x3 (0 : Int32) h H locs ls hP hD hS (lv_sub hl [0, 1, 2, 3] rfl)
  · have h := zk_t c_9 h
    refine lv_aload hx hb dX11_shoes_55 (lv_at hl 3 rfl) ?_
    refine va_get (D := D) (ci := 6) (v := .int pl_size) (C := RX6) (T := TX6) (N := 4) hx hb ht iX6 hown hK hP 2 rfl rfl 2 (by decide) (ht _ kw_684) (fun _ h9 => h9) rfl dX11_shoes_57 ?_
    refine lv_goto (tgt := 64) hx hb dX11_shoes_60 (by decide) ?_
    exact L_X11_shoes_64 C0 hK hA  ih69 x2 x3 pl_size h H locs ls hP hD hS (lv_sub hl [0, 1, 2, 3] rfl)
set_option maxHeartbeats 4000000 in
set_option maxRecDepth 100000 in
theorem L_X11_shoes_0 {p : Program} {l : Launch} {e : Env} {s : State} {m : MethodId} {args : Array Value} {below : List Frame} {meth : Method} {c : Code} {A : Nat → Prop} {D : va_G} {cs : Nat → ClassId} {ad : Nat → Nat} {h_pl : Nat} {h_pl_elements : Nat} {root_places : Nat → Option Nat} {pl_holds : Int32} {pl_suit : Int32} {pl_size : Int32} {R : Int32 × Unit} {g69 : Int32 → Int32 → Int32 → Int32 → (Option (Int32 × Unit))} (C0 : zC p s m args meth c cX11_shoes 7 (some .int) RX11 zW) (hK : va_K D classes (zT cs) s) (hA : ∀ q : Nat, s.heap.size ≤ q → A q) (ih69 : ∀ (x2 : Int32) (x3 : Int32) (x5 : Int32) (x6 : Int32) (h : g69 x2 x3 x5 x6 = some R) (H : Heap) (locs : List Loc) (ls : Array Slot) (hP : va_P D classes (wl_X11_shoes ad cs h_pl h_pl_elements root_places pl_holds pl_suit pl_size) H) (hD : va_D A (wl_X11_shoes ad cs h_pl h_pl_elements root_places pl_holds pl_suit pl_size)) (hS : va_S A s.heap H locs) (hl : lv_has ls 7 [(0, .ref (ad 0)), (2, .int x2), (3, .int x3), (4, .ref h_pl), (5, .int x5), (6, .int x6)]), W p l e rm_X11_shoes s m args below meth c H locs 0 0 (MQ below (Q_X11_shoes D cs ad h_pl h_pl_elements root_places pl_holds pl_suit pl_size A R) args s 0 0 A) (F0 m 69 ls [])) (x1 : Int32) (x2 : Int32) (x3 : Int32) (h : B_X11_shoes_0 h_pl g69 root_places pl_holds pl_suit pl_size x1 x2 x3 = some R) (H : Heap) (locs : List Loc) (ls : Array Slot) (hP : va_P D classes (wl_X11_shoes ad cs h_pl h_pl_elements root_places pl_holds pl_suit pl_size) H) (hD : va_D A (wl_X11_shoes ad cs h_pl h_pl_elements root_places pl_holds pl_suit pl_size)) (hS : va_S A s.heap H locs) (hl : lv_has ls 7 [(0, .ref (ad 0)), (1, .int x1), (2, .int x2), (3, .int x3)]) : W p l e rm_X11_shoes s m args below meth c H locs 0 0 (MQ below (Q_X11_shoes D cs ad h_pl h_pl_elements root_places pl_holds pl_suit pl_size A R) args s 0 0 A) (F0 m 0 ls []) := by
  obtain ⟨hx, hb, hr, hml, hown, ht, hlocks⟩ := id C0
  refine lv_aload_n hx hb dX11_shoes_0 rfl (lv_at hl 0 rfl) ?_
  refine lv_iload_n hx hb dX11_shoes_1 rfl (lv_at hl 1 rfl) ?_
  obtain ⟨r_1, u_2, hc_3, h⟩ := zk_o2 h
  refine zk_vq (post := (fun r u => r = (if r_1 = true then some h_pl else none) ∧ u = (u_2))) (w1 := fun u => (wl_X11_placeAt ad cs h_pl h_pl_elements root_places pl_holds pl_suit pl_size)) (As := [.int x1]) (rest := []) (c_X11_placeAt l D cs ad h_pl h_pl_elements H.size x1 root_places pl_holds pl_suit pl_size _ hc_3) ⟨hx, hb, hml, hown, ht⟩ (cwV 1 ht g_X11_111 rfl rfl rfl (by decide +kernel) ⟨Nat.le_of_ble_eq_true rfl, Nat.le_of_ble_eq_true rfl⟩) (va_recv hK hP (ci := 11) (q0 := 0) rfl rfl) hP hD hS hK hA [0, 1, 2] [] rfl rfl rfl rfl (by decide) rfl hl.1 (Nat.le_of_ble_eq_true rfl) dX11_shoes_2 ⟨Nat.zero_le _, Nat.zero_le _⟩ (fun r u H locs hq hP hD hS => ?_)
  obtain ⟨hq1, hq2⟩ := hq; cases hq2; subst hq1
  have hP : va_P D classes (wl_X11_shoes ad cs h_pl h_pl_elements root_places pl_holds pl_suit pl_size) H := hP.sub [0, 1, 2] rfl
  have hD : va_D A (wl_X11_shoes ad cs h_pl h_pl_elements root_places pl_holds pl_suit pl_size) := hD.sub [0, 1, 2] rfl rfl
  by_cases c_4 : r_1 = true
  · have h := zk_t c_4 h
    refine W.eq (g2 := F0 m 5 ls [.ref h_pl]) (by rw [if_pos c_4]; rfl) ?_
    refine lv_astore (lv' := [(4, .ref h_pl), (0, .ref (ad 0)), (1, .int x1), (2, .int x2), (3, .int x3)]) hx hb dX11_shoes_5 hl (by decide) rfl (fun ls hl => ?_)
    refine lv_aload hx hb dX11_shoes_7 (lv_at hl 0 rfl) ?_
    refine lv_ifnull hx hb dX11_shoes_9 ?_
    refine lv_iload_n hx hb dX11_shoes_12 rfl (lv_at hl 4 rfl) ?_
    refine lv_iconst (v := (1 : Int32)) hx hb dX11_shoes_13 (by decide) ?_
    refine lv_icmp_lt (tgt := 23) hx hb dX11_shoes_14 (by decide) (fun c_5 => ?_) (fun c_5 => ?_)
    · have h := zk_t c_5 h
      refine lv_iconst (v := (-1 : Int32)) hx hb dX11_shoes_23 (by decide) ?_
      exact W.iret (v := (-1 : Int32)) hx hb hr (fun t ht2 hW => ⟨⟨(-1 : Int32), (), rfl, Option.some.inj h, by rw [ht2]; exact hP, hD⟩, hS.F ht2⟩) hS.2.2 dX11_shoes_24 hlocks
    · have h := zk_f c_5 h
      refine lv_iload_n hx hb dX11_shoes_17 rfl (lv_at hl 4 rfl) ?_
      refine lv_bipush (v := (15 : Int32)) hx hb dX11_shoes_18 (by decide) ?_
      refine lv_icmp_le (tgt := 25) hx hb dX11_shoes_20 (by decide) (fun c_6 => ?_) (fun c_6 => ?_)
      · have h := zk_t c_6 h
        refine lv_aload hx hb dX11_shoes_25 (lv_at hl 0 rfl) ?_
        refine va_get (D := D) (ci := 6) (v := .int pl_holds) (C := RX6) (T := TX6) (N := 4) hx hb ht iX6 hown hK hP 2 rfl rfl 0 (by decide) (ht _ kw_681) (fun _ h9 => h9) rfl dX11_shoes_27 ?_
        refine lv_iconst (v := (-1 : Int32)) hx hb dX11_shoes_30 (by decide) ?_
        refine lv_icmp_eq (tgt := 46) hx hb dX11_shoes_31 (by decide) (fun c_7 => ?_) (fun c_7 => ?_)
        · have h := zk_t c_7 h
          exact L_X11_shoes_46 C0 hK hA  ih69 x2 x3 h H locs ls hP hD hS (lv_sub hl [1, 3, 4, 0] rfl)
        · have h := zk_f c_7 h
          refine lv_aload hx hb dX11_shoes_34 (lv_at hl 0 rfl) ?_
          refine va_get (D := D) (ci := 6) (v := .int pl_holds) (C := RX6) (T := TX6) (N := 4) hx hb ht iX6 hown hK hP 2 rfl rfl 0 (by decide) (ht _ kw_681) (fun _ h9 => h9) rfl dX11_shoes_36 ?_
          refine lv_iconst (v := (1 : Int32)) hx hb dX11_shoes_39 (by decide) ?_
          refine lv_icmp_eq (tgt := 46) hx hb dX11_shoes_40 (by decide) (fun c_8 => ?_) (fun c_8 => ?_)
          · have h := zk_t c_8 h
            exact L_X11_shoes_46 C0 hK hA  ih69 x2 x3 h H locs ls hP hD hS (lv_sub hl [1, 3, 4, 0] rfl)
          · have h := zk_f c_8 h
            refine lv_bipush (v := (-12 : Int32)) hx hb dX11_shoes_43 (by decide) ?_
            exact W.iret (v := (-12 : Int32)) hx hb hr (fun t ht2 hW => ⟨⟨(-12 : Int32), (), rfl, Option.some.inj h, by rw [ht2]; exact hP, hD⟩, hS.F ht2⟩) hS.2.2 dX11_shoes_45 hlocks
      · have h := zk_f c_6 h
        refine lv_iconst (v := (-1 : Int32)) hx hb dX11_shoes_23 (by decide) ?_
        exact W.iret (v := (-1 : Int32)) hx hb hr (fun t ht2 hW => ⟨⟨(-1 : Int32), (), rfl, Option.some.inj h, by rw [ht2]; exact hP, hD⟩, hS.F ht2⟩) hS.2.2 dX11_shoes_24 hlocks
  · have h := zk_f c_4 h
    refine W.eq (g2 := F0 m 5 ls [.null]) (by rw [if_neg c_4]; rfl) ?_
    refine lv_astoreN (lv' := [(4, .null), (0, .ref (ad 0)), (1, .int x1), (2, .int x2), (3, .int x3)]) hx hb dX11_shoes_5 hl (by decide) rfl (fun ls hl => ?_)
    refine lv_aloadN hx hb dX11_shoes_7 (lv_at hl 0 rfl) ?_
    refine lv_ifnullN (tgt := 23) hx hb dX11_shoes_9 (by decide) ?_
    refine lv_iconst (v := (-1 : Int32)) hx hb dX11_shoes_23 (by decide) ?_
    exact W.iret (v := (-1 : Int32)) hx hb hr (fun t ht2 hW => ⟨⟨(-1 : Int32), (), rfl, Option.some.inj h, by rw [ht2]; exact hP, hD⟩, hS.F ht2⟩) hS.2.2 dX11_shoes_24 hlocks
theorem LG_X11_shoes {p : Program} {l : Launch} {e : Env} {s : State} {m : MethodId} {args : Array Value} {below : List Frame} {meth : Method} {c : Code} {A : Nat → Prop} {D : va_G} {cs : Nat → ClassId} {ad : Nat → Nat} {h_pl : Nat} {h_pl_elements : Nat} {root_places : Nat → Option Nat} {pl_holds : Int32} {pl_suit : Int32} {pl_size : Int32} {R : Int32 × Unit} (C0 : zC p s m args meth c cX11_shoes 7 (some .int) RX11 zW) (hK : va_K D classes (zT cs) s) (hA : ∀ q : Nat, s.heap.size ≤ q → A q) : ∀ n : Nat, (∀ (x2 : Int32) (x3 : Int32) (x5 : Int32) (x6 : Int32) (h : (G_X11_shoes h_pl  root_places pl_holds pl_suit pl_size n) x2 x3 x5 x6 = some R) (H : Heap) (locs : List Loc) (ls : Array Slot) (hP : va_P D classes (wl_X11_shoes ad cs h_pl h_pl_elements root_places pl_holds pl_suit pl_size) H) (hD : va_D A (wl_X11_shoes ad cs h_pl h_pl_elements root_places pl_holds pl_suit pl_size)) (hS : va_S A s.heap H locs) (hl : lv_has ls 7 [(0, .ref (ad 0)), (2, .int x2), (3, .int x3), (4, .ref h_pl), (5, .int x5), (6, .int x6)]), W p l e rm_X11_shoes s m args below meth c H locs 0 0 (MQ below (Q_X11_shoes D cs ad h_pl h_pl_elements root_places pl_holds pl_suit pl_size A R) args s 0 0 A) (F0 m 69 ls [])) := by
  intro n
  induction n with
  | zero =>
    refine ?_ <;> (intros; rename_i h _ _ _ _ _ _ _; cases h)
  | succ n ih =>
    exact L_X11_shoes_69 C0 hK hA  ih
set_option maxHeartbeats 4000000 in
set_option maxRecDepth 100000 in
theorem c_X11_shoes (l : Launch) (D : va_G) (cs : Nat → ClassId) (ad : Nat → Nat) (h_pl : Nat) (h_pl_elements : Nat) (sz : Nat) (n : Nat) (x1 : Int32) (x2 : Int32) (x3 : Int32) (root_places : Nat → Option Nat) (pl_holds : Int32) (pl_suit : Int32) (pl_size : Int32) (R : Int32 × Unit) (h : f_X11_shoes h_pl  n x1 x2 x3 root_places pl_holds pl_suit pl_size = some R) : Met l yX11_shoes (z_X11_shoes) rm_X11_shoes (va_Pc [.ref (ad 0), .int x1, .int x2, .int x3] (zPre D cs (wl_X11_shoes ad cs h_pl h_pl_elements root_places pl_holds pl_suit pl_size) sz)) (Q_X11_shoes D cs ad h_pl h_pl_elements root_places pl_holds pl_suit pl_size (va_A (wl_X11_shoes ad cs h_pl h_pl_elements root_places pl_holds pl_suit pl_size) sz) R) 0 0 (va_A (wl_X11_shoes ad cs h_pl h_pl_elements root_places pl_holds pl_suit pl_size) sz) := by
  refine Met.ofW (cc := cX11_shoes) (maxL := 7) (ret := (some .int)) (by decide) rfl ?_
  intro p e s m args below meth c s₁ B hml hv
  obtain ⟨rfl, hsz, hP, hK, hD0⟩ := hv
  subst hsz
  have hD := hD0.self (sz := s.heap.size)
  have C0 : zC p s m _ meth c cX11_shoes 7 (some .int) RX11 zW := ⟨B.exec, B.bytes, B.returns, hml, findClass_of_methodNamed B.named, fun w hw => atoms_spec (ws := z_X11_shoes) B.pre w (List.mem_cons_of_mem _ hw), B.notSynchronized⟩
  have hA : ∀ q : Nat, s.heap.size ≤ q → va_A (wl_X11_shoes ad cs h_pl h_pl_elements root_places pl_holds pl_suit pl_size) s.heap.size q := fun q h => Or.inr h
  have hl := lv_entry ([.ref (ad 0), .int x1, .int x2, .int x3]) (n := 7) (Nat.le_of_ble_eq_true rfl)
  rw [lg_entry_eq]
  generalize (lg_sl ([.ref (ad 0), .int x1, .int x2, .int x3]) ++ List.replicate (7 - (lg_sl ([.ref (ad 0), .int x1, .int x2, .int x3])).length) Slot.unset).toArray = ls at hl ⊢
  exact L_X11_shoes_0 C0 hK hA  ((LG_X11_shoes C0 hK hA  n)) x1 x2 x3  h s.heap [] ls hP hD va_S.rf hl
theorem kw_151 : Cond.fieldLink RX11 387 "AlreadyJudged$Court" "shoeCount" "I" ∈ zW := zwI (i := 151) (by decide +kernel) (by decide +kernel)
theorem dX11_isShoeNumber_0 : decode cX11_isShoeNumber 0 = .ok (.iload_n 1, 1) := by decide +kernel
theorem dX11_isShoeNumber_1 : decode cX11_isShoeNumber 1 = .ok (.ifCond .lt 18, 3) := by decide +kernel
theorem dX11_isShoeNumber_4 : decode cX11_isShoeNumber 4 = .ok (.iload_n 1, 1) := by decide +kernel
theorem dX11_isShoeNumber_5 : decode cX11_isShoeNumber 5 = .ok (.aload_n 0, 1) := by decide +kernel
theorem dX11_isShoeNumber_6 : decode cX11_isShoeNumber 6 = .ok (.getfield 10, 3) := by decide +kernel
theorem dX11_isShoeNumber_9 : decode cX11_isShoeNumber 9 = .ok (.getfield 387, 3) := by decide +kernel
theorem dX11_isShoeNumber_12 : decode cX11_isShoeNumber 12 = .ok (.if_icmp .ge 7, 3) := by decide +kernel
theorem dX11_isShoeNumber_15 : decode cX11_isShoeNumber 15 = .ok (.iconst 1, 1) := by decide +kernel
theorem dX11_isShoeNumber_16 : decode cX11_isShoeNumber 16 = .ok (.goto 4, 3) := by decide +kernel
theorem dX11_isShoeNumber_19 : decode cX11_isShoeNumber 19 = .ok (.iconst 0, 1) := by decide +kernel
theorem dX11_isShoeNumber_20 : decode cX11_isShoeNumber 20 = .ok (.ireturn, 1) := by decide +kernel
abbrev z_X11_isShoeNumber : List Cond := .code yX11_isShoeNumber cX11_isShoeNumber 2 (some .boolean) :: zW
abbrev wl_X11_isShoeNumber (ad : Nat → Nat) (cs : Nat → ClassId)  (court_shoeCount : Int32) (court_claimCount : Int32) (court_suitCount : Int32) : va_W := [((ad 0), .inr (11, [.ref (ad 4), .ref (ad 15), .ref (ad 23), .ref (ad 25), .ref (ad 26), .ref (ad 28), .ref (ad 34), .ref (ad 39), .ref (ad 1), .ref (ad 2), .ref (ad 3)])), ((ad 4), .inr (2, [.ref (ad 5), .ref (ad 6), .ref (ad 7), .ref (ad 8), .ref (ad 9), .ref (ad 10), .ref (ad 11), .ref (ad 12), .ref (ad 13), .ref (ad 14), .int court_shoeCount, .int court_claimCount, .int court_suitCount]))]
def Q_X11_isShoeNumber (D : va_G) (cs : Nat → ClassId) (ad : Nat → Nat)  (court_shoeCount : Int32) (court_claimCount : Int32) (court_suitCount : Int32) (A : Nat → Prop) (R : Int32 × Unit) : Array Value → State → Outcome → State → Prop :=
  va_Qi (fun (r : Int32) (u : Unit) => (r, u) = R) (fun (u : Unit) (t : State) => va_P D classes (wl_X11_isShoeNumber ad cs court_shoeCount court_claimCount court_suitCount) t.heap ∧ va_D A (wl_X11_isShoeNumber ad cs court_shoeCount court_claimCount court_suitCount)) A
abbrev rm_X11_isShoeNumber : Room := { frames := 0, cells := 0, slots := 0, locals := 0 }
def B_X11_isShoeNumber_0    (court_shoeCount : Int32) (court_claimCount : Int32) (court_suitCount : Int32) (x1 : Int32) : Option (Int32 × Unit) :=
  (if x1 < 0 then (some ((0 : Int32), ())) else (if court_shoeCount ≤ x1 then (some ((0 : Int32), ())) else (some ((1 : Int32), ()))))
def f_X11_isShoeNumber   (x1 : Int32) (court_shoeCount : Int32) (court_claimCount : Int32) (court_suitCount : Int32) : Option (Int32 × Unit) := B_X11_isShoeNumber_0   court_shoeCount court_claimCount court_suitCount x1 
set_option maxHeartbeats 4000000 in
set_option maxRecDepth 100000 in
theorem L_X11_isShoeNumber_0 {p : Program} {l : Launch} {e : Env} {s : State} {m : MethodId} {args : Array Value} {below : List Frame} {meth : Method} {c : Code} {A : Nat → Prop} {D : va_G} {cs : Nat → ClassId} {ad : Nat → Nat} {court_shoeCount : Int32} {court_claimCount : Int32} {court_suitCount : Int32} {R : Int32 × Unit} (C0 : zC p s m args meth c cX11_isShoeNumber 2 (some .boolean) RX11 zW) (hK : va_K D classes (zT cs) s) (hA : ∀ q : Nat, s.heap.size ≤ q → A q) (x1 : Int32) (h : B_X11_isShoeNumber_0 court_shoeCount court_claimCount court_suitCount x1 = some R) (H : Heap) (locs : List Loc) (ls : Array Slot) (hP : va_P D classes (wl_X11_isShoeNumber ad cs court_shoeCount court_claimCount court_suitCount) H) (hD : va_D A (wl_X11_isShoeNumber ad cs court_shoeCount court_claimCount court_suitCount)) (hS : va_S A s.heap H locs) (hl : lv_has ls 2 [(0, .ref (ad 0)), (1, .int x1)]) : W p l e rm_X11_isShoeNumber s m args below meth c H locs 0 0 (MQ below (Q_X11_isShoeNumber D cs ad court_shoeCount court_claimCount court_suitCount A R) args s 0 0 A) (F0 m 0 ls []) := by
  obtain ⟨hx, hb, hr, hml, hown, ht, hlocks⟩ := id C0
  refine lv_iload_n hx hb dX11_isShoeNumber_0 rfl (lv_at hl 1 rfl) ?_
  refine lv_if_lt (tgt := 19) hx hb dX11_isShoeNumber_1 (by decide) (fun c_1 => ?_) (fun c_1 => ?_)
  · have h := zk_t c_1 h
    refine lv_iconst (v := (0 : Int32)) hx hb dX11_isShoeNumber_19 (by decide) ?_
    exact W.zret (ty := .boolean) (v := (0 : Int32)) hx hb hr rfl (fun t ht2 hW => ⟨⟨(0 : Int32), (), rfl, Option.some.inj h, by rw [ht2]; exact hP, hD⟩, hS.F ht2⟩) hS.2.2 dX11_isShoeNumber_20 hlocks
  · have h := zk_f c_1 h
    refine lv_iload_n hx hb dX11_isShoeNumber_4 rfl (lv_at hl 1 rfl) ?_
    refine lv_aload_n hx hb dX11_isShoeNumber_5 rfl (lv_at hl 0 rfl) ?_
    refine va_get (D := D) (ci := 11) (v := .ref (ad 4)) (C := RX11) (T := TX11) (N := 11) hx hb ht iX11 hown hK hP 0 rfl rfl 0 (by decide) (ht _ kw_696) (fun _ h9 => h9) rfl dX11_isShoeNumber_6 ?_
    refine va_get (D := D) (ci := 2) (v := .int court_shoeCount) (C := RX2) (T := TX2) (N := 13) hx hb ht iX2 hown hK hP 1 rfl rfl 10 (by decide) (ht _ kw_151) (fun _ h9 => h9) rfl dX11_isShoeNumber_9 ?_
    refine lv_icmp_ge (tgt := 19) hx hb dX11_isShoeNumber_12 (by decide) (fun c_2 => ?_) (fun c_2 => ?_)
    · have h := zk_t c_2 h
      refine lv_iconst (v := (0 : Int32)) hx hb dX11_isShoeNumber_19 (by decide) ?_
      exact W.zret (ty := .boolean) (v := (0 : Int32)) hx hb hr rfl (fun t ht2 hW => ⟨⟨(0 : Int32), (), rfl, Option.some.inj h, by rw [ht2]; exact hP, hD⟩, hS.F ht2⟩) hS.2.2 dX11_isShoeNumber_20 hlocks
    · have h := zk_f c_2 h
      refine lv_iconst (v := (1 : Int32)) hx hb dX11_isShoeNumber_15 (by decide) ?_
      refine lv_goto (tgt := 20) hx hb dX11_isShoeNumber_16 (by decide) ?_
      exact W.zret (ty := .boolean) (v := (1 : Int32)) hx hb hr rfl (fun t ht2 hW => ⟨⟨(1 : Int32), (), rfl, Option.some.inj h, by rw [ht2]; exact hP, hD⟩, hS.F ht2⟩) hS.2.2 dX11_isShoeNumber_20 hlocks
set_option maxHeartbeats 4000000 in
set_option maxRecDepth 100000 in
theorem c_X11_isShoeNumber (l : Launch) (D : va_G) (cs : Nat → ClassId) (ad : Nat → Nat) (sz : Nat) (x1 : Int32) (court_shoeCount : Int32) (court_claimCount : Int32) (court_suitCount : Int32) (R : Int32 × Unit) (h : f_X11_isShoeNumber   x1 court_shoeCount court_claimCount court_suitCount = some R) : Met l yX11_isShoeNumber (z_X11_isShoeNumber) rm_X11_isShoeNumber (va_Pc [.ref (ad 0), .int x1] (zPre D cs (wl_X11_isShoeNumber ad cs court_shoeCount court_claimCount court_suitCount) sz)) (Q_X11_isShoeNumber D cs ad court_shoeCount court_claimCount court_suitCount (va_A (wl_X11_isShoeNumber ad cs court_shoeCount court_claimCount court_suitCount) sz) R) 0 0 (va_A (wl_X11_isShoeNumber ad cs court_shoeCount court_claimCount court_suitCount) sz) := by
  refine Met.ofW (cc := cX11_isShoeNumber) (maxL := 2) (ret := (some .boolean)) (by decide) rfl ?_
  intro p e s m args below meth c s₁ B hml hv
  obtain ⟨rfl, hsz, hP, hK, hD0⟩ := hv
  subst hsz
  have hD := hD0.self (sz := s.heap.size)
  have C0 : zC p s m _ meth c cX11_isShoeNumber 2 (some .boolean) RX11 zW := ⟨B.exec, B.bytes, B.returns, hml, findClass_of_methodNamed B.named, fun w hw => atoms_spec (ws := z_X11_isShoeNumber) B.pre w (List.mem_cons_of_mem _ hw), B.notSynchronized⟩
  have hA : ∀ q : Nat, s.heap.size ≤ q → va_A (wl_X11_isShoeNumber ad cs court_shoeCount court_claimCount court_suitCount) s.heap.size q := fun q h => Or.inr h
  have hl := lv_entry ([.ref (ad 0), .int x1]) (n := 2) (Nat.le_of_ble_eq_true rfl)
  rw [lg_entry_eq]
  generalize (lg_sl ([.ref (ad 0), .int x1]) ++ List.replicate (2 - (lg_sl ([.ref (ad 0), .int x1])).length) Slot.unset).toArray = ls at hl ⊢
  exact L_X11_isShoeNumber_0 C0 hK hA   x1  h s.heap [] ls hP hD va_S.rf hl
theorem kw_4 : Cond.selects RX11 yX11_isShoeNumber yX11_isShoeNumber ∈ zW := zwI (i := 4) (by decide +kernel) (by decide +kernel)
theorem kw_117 : Cond.fieldLink RX11 129 "AlreadyJudged$Court" "shoePerson" "[I" ∈ zW := zwI (i := 117) (by decide +kernel) (by decide +kernel)
theorem kw_120 : Cond.fieldLink RX11 132 "AlreadyJudged$Court" "shoeOther" "[I" ∈ zW := zwI (i := 120) (by decide +kernel) (by decide +kernel)
theorem kw_123 : Cond.fieldLink RX11 135 "AlreadyJudged$Court" "shoeSort" "[I" ∈ zW := zwI (i := 123) (by decide +kernel) (by decide +kernel)
theorem kw_126 : Cond.fieldLink RX11 138 "AlreadyJudged$Court" "shoeDay" "[I" ∈ zW := zwI (i := 126) (by decide +kernel) (by decide +kernel)
theorem kw_765 : Cond.methodLink RX11 125 yX11_isShoeNumber ∈ zW := zwI (i := 765) (by decide +kernel) (by decide +kernel)
theorem kw_767 : Cond.instanceMethod yX11_isShoeNumber ∈ zW := zwI (i := 767) (by decide +kernel) (by decide +kernel)
theorem kw_768 : Cond.code yX11_isShoeNumber cX11_isShoeNumber 2 (some .boolean) ∈ zW := zwI (i := 768) (by decide +kernel) (by decide +kernel)
theorem dX11_ofShoe_0 : decode cX11_ofShoe 0 = .ok (.aload_n 0, 1) := by decide +kernel
theorem dX11_ofShoe_1 : decode cX11_ofShoe 1 = .ok (.iload_n 1, 1) := by decide +kernel
theorem dX11_ofShoe_2 : decode cX11_ofShoe 2 = .ok (.invokevirtual 125, 3) := by decide +kernel
theorem dX11_ofShoe_5 : decode cX11_ofShoe 5 = .ok (.ifCond .ne 5, 3) := by decide +kernel
theorem dX11_ofShoe_8 : decode cX11_ofShoe 8 = .ok (.iconst (-1), 1) := by decide +kernel
theorem dX11_ofShoe_9 : decode cX11_ofShoe 9 = .ok (.ireturn, 1) := by decide +kernel
theorem dX11_ofShoe_10 : decode cX11_ofShoe 10 = .ok (.iload_n 2, 1) := by decide +kernel
theorem dX11_ofShoe_11 : decode cX11_ofShoe 11 = .ok (.tableswitch 69 0 3 #[29, 39, 49, 59], 29) := by decide +kernel
theorem dX11_ofShoe_40 : decode cX11_ofShoe 40 = .ok (.aload_n 0, 1) := by decide +kernel
theorem dX11_ofShoe_41 : decode cX11_ofShoe 41 = .ok (.getfield 10, 3) := by decide +kernel
theorem dX11_ofShoe_44 : decode cX11_ofShoe 44 = .ok (.getfield 129, 3) := by decide +kernel
theorem dX11_ofShoe_47 : decode cX11_ofShoe 47 = .ok (.iload_n 1, 1) := by decide +kernel
theorem dX11_ofShoe_48 : decode cX11_ofShoe 48 = .ok (.iaload, 1) := by decide +kernel
theorem dX11_ofShoe_49 : decode cX11_ofShoe 49 = .ok (.ireturn, 1) := by decide +kernel
theorem dX11_ofShoe_50 : decode cX11_ofShoe 50 = .ok (.aload_n 0, 1) := by decide +kernel
theorem dX11_ofShoe_51 : decode cX11_ofShoe 51 = .ok (.getfield 10, 3) := by decide +kernel
theorem dX11_ofShoe_54 : decode cX11_ofShoe 54 = .ok (.getfield 132, 3) := by decide +kernel
theorem dX11_ofShoe_57 : decode cX11_ofShoe 57 = .ok (.iload_n 1, 1) := by decide +kernel
theorem dX11_ofShoe_58 : decode cX11_ofShoe 58 = .ok (.iaload, 1) := by decide +kernel
theorem dX11_ofShoe_59 : decode cX11_ofShoe 59 = .ok (.ireturn, 1) := by decide +kernel
theorem dX11_ofShoe_60 : decode cX11_ofShoe 60 = .ok (.aload_n 0, 1) := by decide +kernel
theorem dX11_ofShoe_61 : decode cX11_ofShoe 61 = .ok (.getfield 10, 3) := by decide +kernel
theorem dX11_ofShoe_64 : decode cX11_ofShoe 64 = .ok (.getfield 135, 3) := by decide +kernel
theorem dX11_ofShoe_67 : decode cX11_ofShoe 67 = .ok (.iload_n 1, 1) := by decide +kernel
theorem dX11_ofShoe_68 : decode cX11_ofShoe 68 = .ok (.iaload, 1) := by decide +kernel
theorem dX11_ofShoe_69 : decode cX11_ofShoe 69 = .ok (.ireturn, 1) := by decide +kernel
theorem dX11_ofShoe_70 : decode cX11_ofShoe 70 = .ok (.aload_n 0, 1) := by decide +kernel
theorem dX11_ofShoe_71 : decode cX11_ofShoe 71 = .ok (.getfield 10, 3) := by decide +kernel
theorem dX11_ofShoe_74 : decode cX11_ofShoe 74 = .ok (.getfield 138, 3) := by decide +kernel
theorem dX11_ofShoe_77 : decode cX11_ofShoe 77 = .ok (.iload_n 1, 1) := by decide +kernel
theorem dX11_ofShoe_78 : decode cX11_ofShoe 78 = .ok (.iaload, 1) := by decide +kernel
theorem dX11_ofShoe_79 : decode cX11_ofShoe 79 = .ok (.ireturn, 1) := by decide +kernel
theorem dX11_ofShoe_80 : decode cX11_ofShoe 80 = .ok (.iconst (-1), 1) := by decide +kernel
theorem dX11_ofShoe_81 : decode cX11_ofShoe 81 = .ok (.ireturn, 1) := by decide +kernel
abbrev z_X11_ofShoe : List Cond := .code yX11_ofShoe cX11_ofShoe 3 (some .int) :: zW
abbrev wl_X11_ofShoe (ad : Nat → Nat) (cs : Nat → ClassId)  (court_shoeCount : Int32) (court_claimCount : Int32) (court_suitCount : Int32) (court_shoePerson : Nat → Int32) (court_shoeOther : Nat → Int32) (court_shoeSort : Nat → Int32) (court_shoeDay : Nat → Int32) : va_W := [((ad 0), .inr (11, [.ref (ad 4), .ref (ad 15), .ref (ad 23), .ref (ad 25), .ref (ad 26), .ref (ad 28), .ref (ad 34), .ref (ad 39), .ref (ad 1), .ref (ad 2), .ref (ad 3)])), ((ad 4), .inr (2, [.ref (ad 5), .ref (ad 6), .ref (ad 7), .ref (ad 8), .ref (ad 9), .ref (ad 10), .ref (ad 11), .ref (ad 12), .ref (ad 13), .ref (ad 14), .int court_shoeCount, .int court_claimCount, .int court_suitCount])), ((ad 5), .inl (cs 0, 40, .inl court_shoePerson)), ((ad 6), .inl (cs 0, 40, .inl court_shoeOther)), ((ad 7), .inl (cs 0, 40, .inl court_shoeSort)), ((ad 8), .inl (cs 0, 40, .inl court_shoeDay))]
def Q_X11_ofShoe (D : va_G) (cs : Nat → ClassId) (ad : Nat → Nat)  (court_shoeCount : Int32) (court_claimCount : Int32) (court_suitCount : Int32) (court_shoePerson : Nat → Int32) (court_shoeOther : Nat → Int32) (court_shoeSort : Nat → Int32) (court_shoeDay : Nat → Int32) (A : Nat → Prop) (R : Int32 × Unit) : Array Value → State → Outcome → State → Prop :=
  va_Qi (fun (r : Int32) (u : Unit) => (r, u) = R) (fun (u : Unit) (t : State) => va_P D classes (wl_X11_ofShoe ad cs court_shoeCount court_claimCount court_suitCount court_shoePerson court_shoeOther court_shoeSort court_shoeDay) t.heap ∧ va_D A (wl_X11_ofShoe ad cs court_shoeCount court_claimCount court_suitCount court_shoePerson court_shoeOther court_shoeSort court_shoeDay)) A
abbrev rm_X11_ofShoe : Room := { frames := 1, cells := 0, slots := 0, locals := 21 }
theorem g_X11_125 : GoodIn zW (wsV RX11 125 RX11 yX11_isShoeNumber z_X11_isShoeNumber) := zGV kw_765 kw_767 kw_4 kw_75 kw_768
def B_X11_ofShoe_0    (court_shoeCount : Int32) (court_claimCount : Int32) (court_suitCount : Int32) (court_shoePerson : Nat → Int32) (court_shoeOther : Nat → Int32) (court_shoeSort : Nat → Int32) (court_shoeDay : Nat → Int32) (x1 : Int32) (x2 : Int32) : Option (Int32 × Unit) :=
  (zk_b2 (f_X11_isShoeNumber x1 court_shoeCount court_claimCount court_suitCount) (fun r_1 u_2 => (if r_1 = 0 then (some ((-1 : Int32), ())) else (if x2 = (0 : Int32) then (if (x1 < 0 ∨ 40 ≤ x1.toNatClampNeg) then none else (some (court_shoePerson x1.toNatClampNeg, ()))) else (if x2 = (1 : Int32) then (if (x1 < 0 ∨ 40 ≤ x1.toNatClampNeg) then none else (some (court_shoeOther x1.toNatClampNeg, ()))) else (if x2 = (2 : Int32) then (if (x1 < 0 ∨ 40 ≤ x1.toNatClampNeg) then none else (some (court_shoeSort x1.toNatClampNeg, ()))) else (if x2 = (3 : Int32) then (if (x1 < 0 ∨ 40 ≤ x1.toNatClampNeg) then none else (some (court_shoeDay x1.toNatClampNeg, ()))) else (some ((-1 : Int32), ())))))))))
def f_X11_ofShoe   (x1 : Int32) (x2 : Int32) (court_shoeCount : Int32) (court_claimCount : Int32) (court_suitCount : Int32) (court_shoePerson : Nat → Int32) (court_shoeOther : Nat → Int32) (court_shoeSort : Nat → Int32) (court_shoeDay : Nat → Int32) : Option (Int32 × Unit) := B_X11_ofShoe_0   court_shoeCount court_claimCount court_suitCount court_shoePerson court_shoeOther court_shoeSort court_shoeDay x1 x2 
set_option maxHeartbeats 4000000 in
set_option maxRecDepth 100000 in
theorem L_X11_ofShoe_0 {p : Program} {l : Launch} {e : Env} {s : State} {m : MethodId} {args : Array Value} {below : List Frame} {meth : Method} {c : Code} {A : Nat → Prop} {D : va_G} {cs : Nat → ClassId} {ad : Nat → Nat} {court_shoeCount : Int32} {court_claimCount : Int32} {court_suitCount : Int32} {court_shoePerson : Nat → Int32} {court_shoeOther : Nat → Int32} {court_shoeSort : Nat → Int32} {court_shoeDay : Nat → Int32} {R : Int32 × Unit} (C0 : zC p s m args meth c cX11_ofShoe 3 (some .int) RX11 zW) (hK : va_K D classes (zT cs) s) (hA : ∀ q : Nat, s.heap.size ≤ q → A q) (x1 : Int32) (x2 : Int32) (h : B_X11_ofShoe_0 court_shoeCount court_claimCount court_suitCount court_shoePerson court_shoeOther court_shoeSort court_shoeDay x1 x2 = some R) (H : Heap) (locs : List Loc) (ls : Array Slot) (hP : va_P D classes (wl_X11_ofShoe ad cs court_shoeCount court_claimCount court_suitCount court_shoePerson court_shoeOther court_shoeSort court_shoeDay) H) (hD : va_D A (wl_X11_ofShoe ad cs court_shoeCount court_claimCount court_suitCount court_shoePerson court_shoeOther court_shoeSort court_shoeDay)) (hS : va_S A s.heap H locs) (hl : lv_has ls 3 [(0, .ref (ad 0)), (1, .int x1), (2, .int x2)]) : W p l e rm_X11_ofShoe s m args below meth c H locs 0 0 (MQ below (Q_X11_ofShoe D cs ad court_shoeCount court_claimCount court_suitCount court_shoePerson court_shoeOther court_shoeSort court_shoeDay A R) args s 0 0 A) (F0 m 0 ls []) := by
  obtain ⟨hx, hb, hr, hml, hown, ht, hlocks⟩ := id C0
  refine lv_aload_n hx hb dX11_ofShoe_0 rfl (lv_at hl 0 rfl) ?_
  refine lv_iload_n hx hb dX11_ofShoe_1 rfl (lv_at hl 1 rfl) ?_
  obtain ⟨r_1, u_2, hc_3, h⟩ := zk_o2 h
  refine zk_vi (post := (fun r u => (r, u) = (r_1, u_2))) (w1 := fun u => (wl_X11_isShoeNumber ad cs court_shoeCount court_claimCount court_suitCount)) (As := [.int x1]) (rest := []) (c_X11_isShoeNumber l D cs ad  H.size x1 court_shoeCount court_claimCount court_suitCount _ hc_3) ⟨hx, hb, hml, hown, ht⟩ (cwV 1 ht g_X11_125 rfl rfl rfl (by decide +kernel) ⟨Nat.le_of_ble_eq_true rfl, Nat.le_of_ble_eq_true rfl⟩) (va_recv hK hP (ci := 11) (q0 := 0) rfl rfl) hP hD hS hK hA [0, 1] [2, 3, 4, 5] rfl rfl rfl rfl (by decide) rfl hl.1 (Nat.le_of_ble_eq_true rfl) dX11_ofShoe_2 ⟨Nat.zero_le _, Nat.zero_le _⟩ (fun r u H locs hq hP hD hS => ?_)
  cases hq
  have hP : va_P D classes (wl_X11_ofShoe ad cs court_shoeCount court_claimCount court_suitCount court_shoePerson court_shoeOther court_shoeSort court_shoeDay) H := hP.sub [4, 5, 0, 1, 2, 3] rfl
  have hD : va_D A (wl_X11_ofShoe ad cs court_shoeCount court_claimCount court_suitCount court_shoePerson court_shoeOther court_shoeSort court_shoeDay) := hD.sub [4, 5, 0, 1, 2, 3] rfl rfl
  refine lv_if_ne (tgt := 10) hx hb dX11_ofShoe_5 (by decide) (fun c_4 => ?_) (fun c_4 => ?_)
  · have h := zk_f c_4 h
    refine lv_iload_n hx hb dX11_ofShoe_10 rfl (lv_at hl 2 rfl) ?_
    by_cases c_9 : x2 = (0 : Int32)
    · have h := zk_t c_9 h
      refine lv_tableIn (tgt := 40) hx hb dX11_ofShoe_11 (by rw [c_9]; decide) (by rw [c_9]; decide) (by rw [c_9]; rfl) (by decide) ?_
      refine lv_aload_n hx hb dX11_ofShoe_40 rfl (lv_at hl 0 rfl) ?_
      refine va_get (D := D) (ci := 11) (v := .ref (ad 4)) (C := RX11) (T := TX11) (N := 11) hx hb ht iX11 hown hK hP 0 rfl rfl 0 (by decide) (ht _ kw_696) (fun _ h9 => h9) rfl dX11_ofShoe_41 ?_
      refine va_get (D := D) (ci := 2) (v := .ref (ad 5)) (C := RX2) (T := TX2) (N := 13) hx hb ht iX2 hown hK hP 1 rfl rfl 0 (by decide) (ht _ kw_117) (fun _ h9 => h9) rfl dX11_ofShoe_44 ?_
      refine lv_iload_n hx hb dX11_ofShoe_47 rfl (lv_at hl 1 rfl) ?_
      obtain ⟨g_5, h⟩ := zk_gd h
      refine va_iald hx hb hK hP 2 0 rfl rfl g_5 dX11_ofShoe_48 ?_
      exact W.iret (v := court_shoePerson x1.toNatClampNeg) hx hb hr (fun t ht2 hW => ⟨⟨court_shoePerson x1.toNatClampNeg, (), rfl, Option.some.inj h, by rw [ht2]; exact hP, hD⟩, hS.F ht2⟩) hS.2.2 dX11_ofShoe_49 hlocks
    · have h := zk_f c_9 h
      by_cases c_10 : x2 = (1 : Int32)
      · have h := zk_t c_10 h
        refine lv_tableIn (tgt := 50) hx hb dX11_ofShoe_11 (by rw [c_10]; decide) (by rw [c_10]; decide) (by rw [c_10]; rfl) (by decide) ?_
        refine lv_aload_n hx hb dX11_ofShoe_50 rfl (lv_at hl 0 rfl) ?_
        refine va_get (D := D) (ci := 11) (v := .ref (ad 4)) (C := RX11) (T := TX11) (N := 11) hx hb ht iX11 hown hK hP 0 rfl rfl 0 (by decide) (ht _ kw_696) (fun _ h9 => h9) rfl dX11_ofShoe_51 ?_
        refine va_get (D := D) (ci := 2) (v := .ref (ad 6)) (C := RX2) (T := TX2) (N := 13) hx hb ht iX2 hown hK hP 1 rfl rfl 1 (by decide) (ht _ kw_120) (fun _ h9 => h9) rfl dX11_ofShoe_54 ?_
        refine lv_iload_n hx hb dX11_ofShoe_57 rfl (lv_at hl 1 rfl) ?_
        obtain ⟨g_6, h⟩ := zk_gd h
        refine va_iald hx hb hK hP 3 0 rfl rfl g_6 dX11_ofShoe_58 ?_
        exact W.iret (v := court_shoeOther x1.toNatClampNeg) hx hb hr (fun t ht2 hW => ⟨⟨court_shoeOther x1.toNatClampNeg, (), rfl, Option.some.inj h, by rw [ht2]; exact hP, hD⟩, hS.F ht2⟩) hS.2.2 dX11_ofShoe_59 hlocks
      · have h := zk_f c_10 h
        by_cases c_11 : x2 = (2 : Int32)
        · have h := zk_t c_11 h
          refine lv_tableIn (tgt := 60) hx hb dX11_ofShoe_11 (by rw [c_11]; decide) (by rw [c_11]; decide) (by rw [c_11]; rfl) (by decide) ?_
          refine lv_aload_n hx hb dX11_ofShoe_60 rfl (lv_at hl 0 rfl) ?_
          refine va_get (D := D) (ci := 11) (v := .ref (ad 4)) (C := RX11) (T := TX11) (N := 11) hx hb ht iX11 hown hK hP 0 rfl rfl 0 (by decide) (ht _ kw_696) (fun _ h9 => h9) rfl dX11_ofShoe_61 ?_
          refine va_get (D := D) (ci := 2) (v := .ref (ad 7)) (C := RX2) (T := TX2) (N := 13) hx hb ht iX2 hown hK hP 1 rfl rfl 2 (by decide) (ht _ kw_123) (fun _ h9 => h9) rfl dX11_ofShoe_64 ?_
          refine lv_iload_n hx hb dX11_ofShoe_67 rfl (lv_at hl 1 rfl) ?_
          obtain ⟨g_7, h⟩ := zk_gd h
          refine va_iald hx hb hK hP 4 0 rfl rfl g_7 dX11_ofShoe_68 ?_
          exact W.iret (v := court_shoeSort x1.toNatClampNeg) hx hb hr (fun t ht2 hW => ⟨⟨court_shoeSort x1.toNatClampNeg, (), rfl, Option.some.inj h, by rw [ht2]; exact hP, hD⟩, hS.F ht2⟩) hS.2.2 dX11_ofShoe_69 hlocks
        · have h := zk_f c_11 h
          by_cases c_12 : x2 = (3 : Int32)
          · have h := zk_t c_12 h
            refine lv_tableIn (tgt := 70) hx hb dX11_ofShoe_11 (by rw [c_12]; decide) (by rw [c_12]; decide) (by rw [c_12]; rfl) (by decide) ?_
            refine lv_aload_n hx hb dX11_ofShoe_70 rfl (lv_at hl 0 rfl) ?_
            refine va_get (D := D) (ci := 11) (v := .ref (ad 4)) (C := RX11) (T := TX11) (N := 11) hx hb ht iX11 hown hK hP 0 rfl rfl 0 (by decide) (ht _ kw_696) (fun _ h9 => h9) rfl dX11_ofShoe_71 ?_
            refine va_get (D := D) (ci := 2) (v := .ref (ad 8)) (C := RX2) (T := TX2) (N := 13) hx hb ht iX2 hown hK hP 1 rfl rfl 3 (by decide) (ht _ kw_126) (fun _ h9 => h9) rfl dX11_ofShoe_74 ?_
            refine lv_iload_n hx hb dX11_ofShoe_77 rfl (lv_at hl 1 rfl) ?_
            obtain ⟨g_8, h⟩ := zk_gd h
            refine va_iald hx hb hK hP 5 0 rfl rfl g_8 dX11_ofShoe_78 ?_
            exact W.iret (v := court_shoeDay x1.toNatClampNeg) hx hb hr (fun t ht2 hW => ⟨⟨court_shoeDay x1.toNatClampNeg, (), rfl, Option.some.inj h, by rw [ht2]; exact hP, hD⟩, hS.F ht2⟩) hS.2.2 dX11_ofShoe_79 hlocks
          · have h := zk_f c_12 h
            refine lv_tableOut (tgt := 80) hx hb dX11_ofShoe_11 (zk_out (lo := 0) (hi := 3) [(0 : Int32), (1 : Int32), (2 : Int32), (3 : Int32)] (by decide +kernel) (List.forall_mem_cons.mpr ⟨c_9, List.forall_mem_cons.mpr ⟨c_10, List.forall_mem_cons.mpr ⟨c_11, List.forall_mem_cons.mpr ⟨c_12, fun _ h => absurd h List.not_mem_nil⟩⟩⟩⟩)) (by decide) ?_
            refine lv_iconst (v := (-1 : Int32)) hx hb dX11_ofShoe_80 (by decide) ?_
            exact W.iret (v := (-1 : Int32)) hx hb hr (fun t ht2 hW => ⟨⟨(-1 : Int32), (), rfl, Option.some.inj h, by rw [ht2]; exact hP, hD⟩, hS.F ht2⟩) hS.2.2 dX11_ofShoe_81 hlocks
  · have h := zk_t c_4 h
    refine lv_iconst (v := (-1 : Int32)) hx hb dX11_ofShoe_8 (by decide) ?_
    exact W.iret (v := (-1 : Int32)) hx hb hr (fun t ht2 hW => ⟨⟨(-1 : Int32), (), rfl, Option.some.inj h, by rw [ht2]; exact hP, hD⟩, hS.F ht2⟩) hS.2.2 dX11_ofShoe_9 hlocks
set_option maxHeartbeats 4000000 in
set_option maxRecDepth 100000 in
theorem c_X11_ofShoe (l : Launch) (D : va_G) (cs : Nat → ClassId) (ad : Nat → Nat) (sz : Nat) (x1 : Int32) (x2 : Int32) (court_shoeCount : Int32) (court_claimCount : Int32) (court_suitCount : Int32) (court_shoePerson : Nat → Int32) (court_shoeOther : Nat → Int32) (court_shoeSort : Nat → Int32) (court_shoeDay : Nat → Int32) (R : Int32 × Unit) (h : f_X11_ofShoe   x1 x2 court_shoeCount court_claimCount court_suitCount court_shoePerson court_shoeOther court_shoeSort court_shoeDay = some R) : Met l yX11_ofShoe (z_X11_ofShoe) rm_X11_ofShoe (va_Pc [.ref (ad 0), .int x1, .int x2] (zPre D cs (wl_X11_ofShoe ad cs court_shoeCount court_claimCount court_suitCount court_shoePerson court_shoeOther court_shoeSort court_shoeDay) sz)) (Q_X11_ofShoe D cs ad court_shoeCount court_claimCount court_suitCount court_shoePerson court_shoeOther court_shoeSort court_shoeDay (va_A (wl_X11_ofShoe ad cs court_shoeCount court_claimCount court_suitCount court_shoePerson court_shoeOther court_shoeSort court_shoeDay) sz) R) 0 0 (va_A (wl_X11_ofShoe ad cs court_shoeCount court_claimCount court_suitCount court_shoePerson court_shoeOther court_shoeSort court_shoeDay) sz) := by
  refine Met.ofW (cc := cX11_ofShoe) (maxL := 3) (ret := (some .int)) (by decide) rfl ?_
  intro p e s m args below meth c s₁ B hml hv
  obtain ⟨rfl, hsz, hP, hK, hD0⟩ := hv
  subst hsz
  have hD := hD0.self (sz := s.heap.size)
  have C0 : zC p s m _ meth c cX11_ofShoe 3 (some .int) RX11 zW := ⟨B.exec, B.bytes, B.returns, hml, findClass_of_methodNamed B.named, fun w hw => atoms_spec (ws := z_X11_ofShoe) B.pre w (List.mem_cons_of_mem _ hw), B.notSynchronized⟩
  have hA : ∀ q : Nat, s.heap.size ≤ q → va_A (wl_X11_ofShoe ad cs court_shoeCount court_claimCount court_suitCount court_shoePerson court_shoeOther court_shoeSort court_shoeDay) s.heap.size q := fun q h => Or.inr h
  have hl := lv_entry ([.ref (ad 0), .int x1, .int x2]) (n := 3) (Nat.le_of_ble_eq_true rfl)
  rw [lg_entry_eq]
  generalize (lg_sl ([.ref (ad 0), .int x1, .int x2]) ++ List.replicate (3 - (lg_sl ([.ref (ad 0), .int x1, .int x2])).length) Slot.unset).toArray = ls at hl ⊢
  exact L_X11_ofShoe_0 C0 hK hA   x1 x2  h s.heap [] ls hP hD va_S.rf hl
theorem kw_702 : Cond.fieldLink RX11 58 "AlreadyJudged" "changes" "LAlreadyJudged$Changes;" ∈ zW := zwI (i := 702) (by decide +kernel) (by decide +kernel)
theorem kw_773 : Cond.methodLink RX11 141 yX11_isDay ∈ zW := zwI (i := 773) (by decide +kernel) (by decide +kernel)
theorem dX11_moveShoe_0 : decode cX11_moveShoe 0 = .ok (.aload_n 0, 1) := by decide +kernel
theorem dX11_moveShoe_1 : decode cX11_moveShoe 1 = .ok (.iload_n 1, 1) := by decide +kernel
theorem dX11_moveShoe_2 : decode cX11_moveShoe 2 = .ok (.invokevirtual 125, 3) := by decide +kernel
theorem dX11_moveShoe_5 : decode cX11_moveShoe 5 = .ok (.ifCond .eq 10, 3) := by decide +kernel
theorem dX11_moveShoe_8 : decode cX11_moveShoe 8 = .ok (.iload_n 2, 1) := by decide +kernel
theorem dX11_moveShoe_9 : decode cX11_moveShoe 9 = .ok (.invokestatic 141, 3) := by decide +kernel
theorem dX11_moveShoe_12 : decode cX11_moveShoe 12 = .ok (.ifCond .ne 5, 3) := by decide +kernel
theorem dX11_moveShoe_15 : decode cX11_moveShoe 15 = .ok (.iconst (-1), 1) := by decide +kernel
theorem dX11_moveShoe_16 : decode cX11_moveShoe 16 = .ok (.ireturn, 1) := by decide +kernel
theorem dX11_moveShoe_17 : decode cX11_moveShoe 17 = .ok (.aload_n 0, 1) := by decide +kernel
theorem dX11_moveShoe_18 : decode cX11_moveShoe 18 = .ok (.getfield 10, 3) := by decide +kernel
theorem dX11_moveShoe_21 : decode cX11_moveShoe 21 = .ok (.getfield 138, 3) := by decide +kernel
theorem dX11_moveShoe_24 : decode cX11_moveShoe 24 = .ok (.iload_n 1, 1) := by decide +kernel
theorem dX11_moveShoe_25 : decode cX11_moveShoe 25 = .ok (.iaload, 1) := by decide +kernel
theorem dX11_moveShoe_26 : decode cX11_moveShoe 26 = .ok (.istore_n 3, 1) := by decide +kernel
theorem dX11_moveShoe_27 : decode cX11_moveShoe 27 = .ok (.aload_n 0, 1) := by decide +kernel
theorem dX11_moveShoe_28 : decode cX11_moveShoe 28 = .ok (.getfield 58, 3) := by decide +kernel
theorem dX11_moveShoe_31 : decode cX11_moveShoe 31 = .ok (.iconst 2, 1) := by decide +kernel
theorem dX11_moveShoe_32 : decode cX11_moveShoe 32 = .ok (.iload_n 1, 1) := by decide +kernel
theorem dX11_moveShoe_33 : decode cX11_moveShoe 33 = .ok (.iload_n 3, 1) := by decide +kernel
theorem dX11_moveShoe_34 : decode cX11_moveShoe 34 = .ok (.iload_n 2, 1) := by decide +kernel
abbrev z_X11_moveShoe : List Cond := .code yX11_moveShoe cX11_moveShoe 4 (some .int) :: zW
abbrev wl_X11_moveShoe (ad : Nat → Nat) (cs : Nat → ClassId)  (court_shoeCount : Int32) (court_claimCount : Int32) (court_suitCount : Int32) (court_shoeDay : Nat → Int32) : va_W := [((ad 0), .inr (11, [.ref (ad 4), .ref (ad 15), .ref (ad 23), .ref (ad 25), .ref (ad 26), .ref (ad 28), .ref (ad 34), .ref (ad 39), .ref (ad 1), .ref (ad 2), .ref (ad 3)])), ((ad 4), .inr (2, [.ref (ad 5), .ref (ad 6), .ref (ad 7), .ref (ad 8), .ref (ad 9), .ref (ad 10), .ref (ad 11), .ref (ad 12), .ref (ad 13), .ref (ad 14), .int court_shoeCount, .int court_claimCount, .int court_suitCount])), ((ad 8), .inl (cs 0, 40, .inl court_shoeDay))]
def Q_X11_moveShoe (D : va_G) (cs : Nat → ClassId) (ad : Nat → Nat)  (court_shoeCount : Int32) (court_claimCount : Int32) (court_suitCount : Int32) (court_shoeDay : Nat → Int32) (A : Nat → Prop) (R : Int32 × Unit) : Array Value → State → Outcome → State → Prop :=
  va_Qi (fun (r : Int32) (u : Unit) => (r, u) = R) (fun (u : Unit) (t : State) => va_P D classes (wl_X11_moveShoe ad cs court_shoeCount court_claimCount court_suitCount court_shoeDay) t.heap ∧ va_D A (wl_X11_moveShoe ad cs court_shoeCount court_claimCount court_suitCount court_shoeDay)) A
abbrev rm_X11_moveShoe : Room := { frames := 1, cells := 0, slots := 0, locals := 21 }
theorem g_X11_141 : GoodIn zW (va_wsS RX11 141 yX11_isDay z_X11_isDay) := zGS kw_773 kw_738 kw_75 kw_739
def B_X11_moveShoe_0    (court_shoeCount : Int32) (court_claimCount : Int32) (court_suitCount : Int32) (court_shoeDay : Nat → Int32) (x1 : Int32) (x2 : Int32) : Option (Int32 × Unit) :=
  (zk_b2 (f_X11_isShoeNumber x1 court_shoeCount court_claimCount court_suitCount) (fun r_1 u_2 => (if r_1 = 0 then (some ((-1 : Int32), ())) else (zk_b2 (f_X11_isDay x2) (fun r_5 u_6 => (if r_5 = 0 then (some ((-1 : Int32), ())) else (if (x1 < 0 ∨ 40 ≤ x1.toNatClampNeg) then none else (zk_let (court_shoeDay x1.toNatClampNeg) (fun v_10 => none)))))))))
def f_X11_moveShoe   (x1 : Int32) (x2 : Int32) (court_shoeCount : Int32) (court_claimCount : Int32) (court_suitCount : Int32) (court_shoeDay : Nat → Int32) : Option (Int32 × Unit) := B_X11_moveShoe_0   court_shoeCount court_claimCount court_suitCount court_shoeDay x1 x2 
set_option maxHeartbeats 4000000 in
set_option maxRecDepth 100000 in
theorem L_X11_moveShoe_0 {p : Program} {l : Launch} {e : Env} {s : State} {m : MethodId} {args : Array Value} {below : List Frame} {meth : Method} {c : Code} {A : Nat → Prop} {D : va_G} {cs : Nat → ClassId} {ad : Nat → Nat} {court_shoeCount : Int32} {court_claimCount : Int32} {court_suitCount : Int32} {court_shoeDay : Nat → Int32} {R : Int32 × Unit} (C0 : zC p s m args meth c cX11_moveShoe 4 (some .int) RX11 zW) (hK : va_K D classes (zT cs) s) (hA : ∀ q : Nat, s.heap.size ≤ q → A q) (x1 : Int32) (x2 : Int32) (h : B_X11_moveShoe_0 court_shoeCount court_claimCount court_suitCount court_shoeDay x1 x2 = some R) (H : Heap) (locs : List Loc) (ls : Array Slot) (hP : va_P D classes (wl_X11_moveShoe ad cs court_shoeCount court_claimCount court_suitCount court_shoeDay) H) (hD : va_D A (wl_X11_moveShoe ad cs court_shoeCount court_claimCount court_suitCount court_shoeDay)) (hS : va_S A s.heap H locs) (hl : lv_has ls 4 [(0, .ref (ad 0)), (1, .int x1), (2, .int x2)]) : W p l e rm_X11_moveShoe s m args below meth c H locs 0 0 (MQ below (Q_X11_moveShoe D cs ad court_shoeCount court_claimCount court_suitCount court_shoeDay A R) args s 0 0 A) (F0 m 0 ls []) := by
  obtain ⟨hx, hb, hr, hml, hown, ht, hlocks⟩ := id C0
  refine lv_aload_n hx hb dX11_moveShoe_0 rfl (lv_at hl 0 rfl) ?_
  refine lv_iload_n hx hb dX11_moveShoe_1 rfl (lv_at hl 1 rfl) ?_
  obtain ⟨r_1, u_2, hc_3, h⟩ := zk_o2 h
  refine zk_vi (post := (fun r u => (r, u) = (r_1, u_2))) (w1 := fun u => (wl_X11_isShoeNumber ad cs court_shoeCount court_claimCount court_suitCount)) (As := [.int x1]) (rest := []) (c_X11_isShoeNumber l D cs ad  H.size x1 court_shoeCount court_claimCount court_suitCount _ hc_3) ⟨hx, hb, hml, hown, ht⟩ (cwV 1 ht g_X11_125 rfl rfl rfl (by decide +kernel) ⟨Nat.le_of_ble_eq_true rfl, Nat.le_of_ble_eq_true rfl⟩) (va_recv hK hP (ci := 11) (q0 := 0) rfl rfl) hP hD hS hK hA [0, 1] [2] rfl rfl rfl rfl (by decide) rfl hl.1 (Nat.le_of_ble_eq_true rfl) dX11_moveShoe_2 ⟨Nat.zero_le _, Nat.zero_le _⟩ (fun r u H locs hq hP hD hS => ?_)
  cases hq
  have hP : va_P D classes (wl_X11_moveShoe ad cs court_shoeCount court_claimCount court_suitCount court_shoeDay) H := hP.sub [1, 2, 0] rfl
  have hD : va_D A (wl_X11_moveShoe ad cs court_shoeCount court_claimCount court_suitCount court_shoeDay) := hD.sub [1, 2, 0] rfl rfl
  refine lv_if_eq (tgt := 15) hx hb dX11_moveShoe_5 (by decide) (fun c_4 => ?_) (fun c_4 => ?_)
  · have h := zk_t c_4 h
    refine lv_iconst (v := (-1 : Int32)) hx hb dX11_moveShoe_15 (by decide) ?_
    exact W.iret (v := (-1 : Int32)) hx hb hr (fun t ht2 hW => ⟨⟨(-1 : Int32), (), rfl, Option.some.inj h, by rw [ht2]; exact hP, hD⟩, hS.F ht2⟩) hS.2.2 dX11_moveShoe_16 hlocks
  · have h := zk_f c_4 h
    refine lv_iload_n hx hb dX11_moveShoe_8 rfl (lv_at hl 2 rfl) ?_
    obtain ⟨r_5, u_6, hc_7, h⟩ := zk_o2 h
    refine zk_si (post := (fun r u => (r, u) = (r_5, u_6))) (w1 := fun u => (wl_X11_isDay ad cs )) (As := [.int x2]) (rest := []) (c_X11_isDay l D cs ad  H.size x2 _ hc_7) ⟨hx, hb, hml, hown, ht⟩ (va_cwS 1 ht g_X11_141 rfl rfl rfl (by decide +kernel) ⟨Nat.le_of_ble_eq_true rfl, Nat.le_of_ble_eq_true rfl⟩) hP hD hS hK hA [] [0, 1, 2] rfl rfl rfl rfl (by decide) rfl hl.1 (Nat.le_of_ble_eq_true rfl) dX11_moveShoe_9 ⟨Nat.zero_le _, Nat.zero_le _⟩ (fun r u H locs hq hP hD hS => ?_)
    cases hq
    have hP : va_P D classes (wl_X11_moveShoe ad cs court_shoeCount court_claimCount court_suitCount court_shoeDay) H := hP.sub [0, 1, 2] rfl
    have hD : va_D A (wl_X11_moveShoe ad cs court_shoeCount court_claimCount court_suitCount court_shoeDay) := hD.sub [0, 1, 2] rfl rfl
    refine lv_if_ne (tgt := 17) hx hb dX11_moveShoe_12 (by decide) (fun c_8 => ?_) (fun c_8 => ?_)
    · have h := zk_f c_8 h
      refine lv_aload_n hx hb dX11_moveShoe_17 rfl (lv_at hl 0 rfl) ?_
      refine va_get (D := D) (ci := 11) (v := .ref (ad 4)) (C := RX11) (T := TX11) (N := 11) hx hb ht iX11 hown hK hP 0 rfl rfl 0 (by decide) (ht _ kw_696) (fun _ h9 => h9) rfl dX11_moveShoe_18 ?_
      refine va_get (D := D) (ci := 2) (v := .ref (ad 8)) (C := RX2) (T := TX2) (N := 13) hx hb ht iX2 hown hK hP 1 rfl rfl 3 (by decide) (ht _ kw_126) (fun _ h9 => h9) rfl dX11_moveShoe_21 ?_
      refine lv_iload_n hx hb dX11_moveShoe_24 rfl (lv_at hl 1 rfl) ?_
      obtain ⟨g_9, h⟩ := zk_gd h
      refine va_iald hx hb hK hP 2 0 rfl rfl g_9 dX11_moveShoe_25 ?_
      obtain ⟨v_10, ev_10, h⟩ := zk_lt h
      refine W.eq (g2 := F0 m 26 ls [.int v_10]) (by rw [ev_10]) ?_
      refine lv_istore_n (lv' := [(3, .int v_10), (0, .ref (ad 0)), (1, .int x1), (2, .int x2)]) hx hb dX11_moveShoe_26 rfl hl (by decide) rfl (fun ls hl => ?_)
      refine lv_aload_n hx hb dX11_moveShoe_27 rfl (lv_at hl 1 rfl) ?_
      refine va_get (D := D) (ci := 11) (v := .ref (ad 34)) (C := RX11) (T := TX11) (N := 11) hx hb ht iX11 hown hK hP 0 rfl rfl 6 (by decide) (ht _ kw_702) (fun _ h9 => h9) rfl dX11_moveShoe_28 ?_
      refine lv_iconst (v := (2 : Int32)) hx hb dX11_moveShoe_31 (by decide) ?_
      refine lv_iload_n hx hb dX11_moveShoe_32 rfl (lv_at hl 2 rfl) ?_
      refine lv_iload_n hx hb dX11_moveShoe_33 rfl (lv_at hl 0 rfl) ?_
      refine lv_iload_n hx hb dX11_moveShoe_34 rfl (lv_at hl 3 rfl) ?_
      cases h
    · have h := zk_t c_8 h
      refine lv_iconst (v := (-1 : Int32)) hx hb dX11_moveShoe_15 (by decide) ?_
      exact W.iret (v := (-1 : Int32)) hx hb hr (fun t ht2 hW => ⟨⟨(-1 : Int32), (), rfl, Option.some.inj h, by rw [ht2]; exact hP, hD⟩, hS.F ht2⟩) hS.2.2 dX11_moveShoe_16 hlocks
set_option maxHeartbeats 4000000 in
set_option maxRecDepth 100000 in
theorem c_X11_moveShoe (l : Launch) (D : va_G) (cs : Nat → ClassId) (ad : Nat → Nat) (sz : Nat) (x1 : Int32) (x2 : Int32) (court_shoeCount : Int32) (court_claimCount : Int32) (court_suitCount : Int32) (court_shoeDay : Nat → Int32) (R : Int32 × Unit) (h : f_X11_moveShoe   x1 x2 court_shoeCount court_claimCount court_suitCount court_shoeDay = some R) : Met l yX11_moveShoe (z_X11_moveShoe) rm_X11_moveShoe (va_Pc [.ref (ad 0), .int x1, .int x2] (zPre D cs (wl_X11_moveShoe ad cs court_shoeCount court_claimCount court_suitCount court_shoeDay) sz)) (Q_X11_moveShoe D cs ad court_shoeCount court_claimCount court_suitCount court_shoeDay (va_A (wl_X11_moveShoe ad cs court_shoeCount court_claimCount court_suitCount court_shoeDay) sz) R) 0 0 (va_A (wl_X11_moveShoe ad cs court_shoeCount court_claimCount court_suitCount court_shoeDay) sz) := by
  refine Met.ofW (cc := cX11_moveShoe) (maxL := 4) (ret := (some .int)) (by decide) rfl ?_
  intro p e s m args below meth c s₁ B hml hv
  obtain ⟨rfl, hsz, hP, hK, hD0⟩ := hv
  subst hsz
  have hD := hD0.self (sz := s.heap.size)
  have C0 : zC p s m _ meth c cX11_moveShoe 4 (some .int) RX11 zW := ⟨B.exec, B.bytes, B.returns, hml, findClass_of_methodNamed B.named, fun w hw => atoms_spec (ws := z_X11_moveShoe) B.pre w (List.mem_cons_of_mem _ hw), B.notSynchronized⟩
  have hA : ∀ q : Nat, s.heap.size ≤ q → va_A (wl_X11_moveShoe ad cs court_shoeCount court_claimCount court_suitCount court_shoeDay) s.heap.size q := fun q h => Or.inr h
  have hl := lv_entry ([.ref (ad 0), .int x1, .int x2]) (n := 4) (Nat.le_of_ble_eq_true rfl)
  rw [lg_entry_eq]
  generalize (lg_sl ([.ref (ad 0), .int x1, .int x2]) ++ List.replicate (4 - (lg_sl ([.ref (ad 0), .int x1, .int x2])).length) Slot.unset).toArray = ls at hl ⊢
  exact L_X11_moveShoe_0 C0 hK hA   x1 x2  h s.heap [] ls hP hD va_S.rf hl
theorem dX11_isPair_0 : decode cX11_isPair 0 = .ok (.iload_n 0, 1) := by decide +kernel
theorem dX11_isPair_1 : decode cX11_isPair 1 = .ok (.ifCond .lt 25, 3) := by decide +kernel
theorem dX11_isPair_4 : decode cX11_isPair 4 = .ok (.iload_n 0, 1) := by decide +kernel
theorem dX11_isPair_5 : decode cX11_isPair 5 = .ok (.bipush 100, 2) := by decide +kernel
theorem dX11_isPair_7 : decode cX11_isPair 7 = .ok (.idiv, 1) := by decide +kernel
theorem dX11_isPair_8 : decode cX11_isPair 8 = .ok (.bipush 20, 2) := by decide +kernel
theorem dX11_isPair_10 : decode cX11_isPair 10 = .ok (.if_icmp .ge 16, 3) := by decide +kernel
theorem dX11_isPair_13 : decode cX11_isPair 13 = .ok (.iload_n 0, 1) := by decide +kernel
theorem dX11_isPair_14 : decode cX11_isPair 14 = .ok (.bipush 100, 2) := by decide +kernel
theorem dX11_isPair_16 : decode cX11_isPair 16 = .ok (.irem, 1) := by decide +kernel
theorem dX11_isPair_17 : decode cX11_isPair 17 = .ok (.bipush 20, 2) := by decide +kernel
theorem dX11_isPair_19 : decode cX11_isPair 19 = .ok (.if_icmp .ge 7, 3) := by decide +kernel
theorem dX11_isPair_22 : decode cX11_isPair 22 = .ok (.iconst 1, 1) := by decide +kernel
theorem dX11_isPair_23 : decode cX11_isPair 23 = .ok (.goto 4, 3) := by decide +kernel
theorem dX11_isPair_26 : decode cX11_isPair 26 = .ok (.iconst 0, 1) := by decide +kernel
theorem dX11_isPair_27 : decode cX11_isPair 27 = .ok (.ireturn, 1) := by decide +kernel
abbrev z_X11_isPair : List Cond := .code yX11_isPair cX11_isPair 1 (some .boolean) :: zW
abbrev wl_X11_isPair (ad : Nat → Nat) (cs : Nat → ClassId)   : va_W := []
def Q_X11_isPair (D : va_G) (cs : Nat → ClassId) (ad : Nat → Nat)   (A : Nat → Prop) (R : Int32 × Unit) : Array Value → State → Outcome → State → Prop :=
  va_Qi (fun (r : Int32) (u : Unit) => (r, u) = R) (fun (u : Unit) (t : State) => va_P D classes (wl_X11_isPair ad cs ) t.heap ∧ va_D A (wl_X11_isPair ad cs )) A
abbrev rm_X11_isPair : Room := { frames := 0, cells := 0, slots := 0, locals := 0 }
def B_X11_isPair_0     (x0 : Int32) : Option (Int32 × Unit) :=
  (if x0 < 0 then (some ((0 : Int32), ())) else (if (20 : Int32) ≤ (x0 / (100 : Int32)) then (some ((0 : Int32), ())) else (if (20 : Int32) ≤ (x0 - x0 / (100 : Int32) * (100 : Int32)) then (some ((0 : Int32), ())) else (some ((1 : Int32), ())))))
def f_X11_isPair   (x0 : Int32)  : Option (Int32 × Unit) := B_X11_isPair_0    x0 
set_option maxHeartbeats 4000000 in
set_option maxRecDepth 100000 in
theorem L_X11_isPair_0 {p : Program} {l : Launch} {e : Env} {s : State} {m : MethodId} {args : Array Value} {below : List Frame} {meth : Method} {c : Code} {A : Nat → Prop} {D : va_G} {cs : Nat → ClassId} {ad : Nat → Nat} {R : Int32 × Unit} (C0 : zC p s m args meth c cX11_isPair 1 (some .boolean) RX11 zW) (hK : va_K D classes (zT cs) s) (hA : ∀ q : Nat, s.heap.size ≤ q → A q) (x0 : Int32) (h : B_X11_isPair_0 x0 = some R) (H : Heap) (locs : List Loc) (ls : Array Slot) (hP : va_P D classes (wl_X11_isPair ad cs ) H) (hD : va_D A (wl_X11_isPair ad cs )) (hS : va_S A s.heap H locs) (hl : lv_has ls 1 [(0, .int x0)]) : W p l e rm_X11_isPair s m args below meth c H locs 0 0 (MQ below (Q_X11_isPair D cs ad  A R) args s 0 0 A) (F0 m 0 ls []) := by
  obtain ⟨hx, hb, hr, hml, hown, ht, hlocks⟩ := id C0
  refine lv_iload_n hx hb dX11_isPair_0 rfl (lv_at hl 0 rfl) ?_
  refine lv_if_lt (tgt := 26) hx hb dX11_isPair_1 (by decide) (fun c_1 => ?_) (fun c_1 => ?_)
  · have h := zk_t c_1 h
    refine lv_iconst (v := (0 : Int32)) hx hb dX11_isPair_26 (by decide) ?_
    exact W.zret (ty := .boolean) (v := (0 : Int32)) hx hb hr rfl (fun t ht2 hW => ⟨⟨(0 : Int32), (), rfl, Option.some.inj h, by rw [ht2]; exact hP, hD⟩, hS.F ht2⟩) hS.2.2 dX11_isPair_27 hlocks
  · have h := zk_f c_1 h
    refine lv_iload_n hx hb dX11_isPair_4 rfl (lv_at hl 0 rfl) ?_
    refine lv_bipush (v := (100 : Int32)) hx hb dX11_isPair_5 (by decide) ?_
    refine lv_idiv hx hb dX11_isPair_7 (by decide) ?_
    refine lv_bipush (v := (20 : Int32)) hx hb dX11_isPair_8 (by decide) ?_
    refine lv_icmp_ge (tgt := 26) hx hb dX11_isPair_10 (by decide) (fun c_2 => ?_) (fun c_2 => ?_)
    · have h := zk_t c_2 h
      refine lv_iconst (v := (0 : Int32)) hx hb dX11_isPair_26 (by decide) ?_
      exact W.zret (ty := .boolean) (v := (0 : Int32)) hx hb hr rfl (fun t ht2 hW => ⟨⟨(0 : Int32), (), rfl, Option.some.inj h, by rw [ht2]; exact hP, hD⟩, hS.F ht2⟩) hS.2.2 dX11_isPair_27 hlocks
    · have h := zk_f c_2 h
      refine lv_iload_n hx hb dX11_isPair_13 rfl (lv_at hl 0 rfl) ?_
      refine lv_bipush (v := (100 : Int32)) hx hb dX11_isPair_14 (by decide) ?_
      refine lv_irem hx hb dX11_isPair_16 (by decide) ?_
      refine lv_bipush (v := (20 : Int32)) hx hb dX11_isPair_17 (by decide) ?_
      refine lv_icmp_ge (tgt := 26) hx hb dX11_isPair_19 (by decide) (fun c_3 => ?_) (fun c_3 => ?_)
      · have h := zk_t c_3 h
        refine lv_iconst (v := (0 : Int32)) hx hb dX11_isPair_26 (by decide) ?_
        exact W.zret (ty := .boolean) (v := (0 : Int32)) hx hb hr rfl (fun t ht2 hW => ⟨⟨(0 : Int32), (), rfl, Option.some.inj h, by rw [ht2]; exact hP, hD⟩, hS.F ht2⟩) hS.2.2 dX11_isPair_27 hlocks
      · have h := zk_f c_3 h
        refine lv_iconst (v := (1 : Int32)) hx hb dX11_isPair_22 (by decide) ?_
        refine lv_goto (tgt := 27) hx hb dX11_isPair_23 (by decide) ?_
        exact W.zret (ty := .boolean) (v := (1 : Int32)) hx hb hr rfl (fun t ht2 hW => ⟨⟨(1 : Int32), (), rfl, Option.some.inj h, by rw [ht2]; exact hP, hD⟩, hS.F ht2⟩) hS.2.2 dX11_isPair_27 hlocks
set_option maxHeartbeats 4000000 in
set_option maxRecDepth 100000 in
theorem c_X11_isPair (l : Launch) (D : va_G) (cs : Nat → ClassId) (ad : Nat → Nat) (sz : Nat) (x0 : Int32)  (R : Int32 × Unit) (h : f_X11_isPair   x0  = some R) : Met l yX11_isPair (z_X11_isPair) rm_X11_isPair (va_Pc [.int x0] (zPre D cs (wl_X11_isPair ad cs ) sz)) (Q_X11_isPair D cs ad  (va_A (wl_X11_isPair ad cs ) sz) R) 0 0 (va_A (wl_X11_isPair ad cs ) sz) := by
  refine Met.ofW (cc := cX11_isPair) (maxL := 1) (ret := (some .boolean)) (by decide) rfl ?_
  intro p e s m args below meth c s₁ B hml hv
  obtain ⟨rfl, hsz, hP, hK, hD0⟩ := hv
  subst hsz
  have hD := hD0.self (sz := s.heap.size)
  have C0 : zC p s m _ meth c cX11_isPair 1 (some .boolean) RX11 zW := ⟨B.exec, B.bytes, B.returns, hml, findClass_of_methodNamed B.named, fun w hw => atoms_spec (ws := z_X11_isPair) B.pre w (List.mem_cons_of_mem _ hw), B.notSynchronized⟩
  have hA : ∀ q : Nat, s.heap.size ≤ q → va_A (wl_X11_isPair ad cs ) s.heap.size q := fun q h => Or.inr h
  have hl := lv_entry ([.int x0]) (n := 1) (Nat.le_of_ble_eq_true rfl)
  rw [lg_entry_eq]
  generalize (lg_sl ([.int x0]) ++ List.replicate (1 - (lg_sl ([.int x0])).length) Slot.unset).toArray = ls at hl ⊢
  exact L_X11_isPair_0 C0 hK hA   x0  h s.heap [] ls hP hD va_S.rf hl
