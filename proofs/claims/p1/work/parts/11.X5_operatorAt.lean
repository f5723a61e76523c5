theorem dX5_operatorAt_0 : decode cX5_operatorAt 0 = .ok (.aload_n 0, 1) := by decide +kernel
theorem dX5_operatorAt_1 : decode cX5_operatorAt 1 = .ok (.getfield 15, 3) := by decide +kernel
theorem dX5_operatorAt_4 : decode cX5_operatorAt 4 = .ok (.aload_n 0, 1) := by decide +kernel
theorem dX5_operatorAt_5 : decode cX5_operatorAt 5 = .ok (.getfield 19, 3) := by decide +kernel
theorem dX5_operatorAt_8 : decode cX5_operatorAt 8 = .ok (.invokevirtual 68, 3) := by decide +kernel
theorem dX5_operatorAt_11 : decode cX5_operatorAt 11 = .ok (.istore_n 2, 1) := by decide +kernel
theorem dX5_operatorAt_12 : decode cX5_operatorAt 12 = .ok (.iload_n 1, 1) := by decide +kernel
theorem dX5_operatorAt_13 : decode cX5_operatorAt 13 = .ok (.tableswitch 116 0 3 #[31, 44, 57, 92], 31) := by decide +kernel
theorem dX5_operatorAt_44 : decode cX5_operatorAt 44 = .ok (.iload_n 2, 1) := by decide +kernel
theorem dX5_operatorAt_45 : decode cX5_operatorAt 45 = .ok (.bipush 124, 2) := by decide +kernel
theorem dX5_operatorAt_47 : decode cX5_operatorAt 47 = .ok (.if_icmp .ne 8, 3) := by decide +kernel
theorem dX5_operatorAt_50 : decode cX5_operatorAt 50 = .ok (.bipush 6, 2) := by decide +kernel
theorem dX5_operatorAt_52 : decode cX5_operatorAt 52 = .ok (.goto 4, 3) := by decide +kernel
theorem dX5_operatorAt_55 : decode cX5_operatorAt 55 = .ok (.iconst (-1), 1) := by decide +kernel
theorem dX5_operatorAt_56 : decode cX5_operatorAt 56 = .ok (.ireturn, 1) := by decide +kernel
theorem dX5_operatorAt_57 : decode cX5_operatorAt 57 = .ok (.iload_n 2, 1) := by decide +kernel
theorem dX5_operatorAt_58 : decode cX5_operatorAt 58 = .ok (.bipush 38, 2) := by decide +kernel
theorem dX5_operatorAt_60 : decode cX5_operatorAt 60 = .ok (.if_icmp .ne 8, 3) := by decide +kernel
theorem dX5_operatorAt_63 : decode cX5_operatorAt 63 = .ok (.bipush 7, 2) := by decide +kernel
theorem dX5_operatorAt_65 : decode cX5_operatorAt 65 = .ok (.goto 4, 3) := by decide +kernel
theorem dX5_operatorAt_68 : decode cX5_operatorAt 68 = .ok (.iconst (-1), 1) := by decide +kernel
theorem dX5_operatorAt_69 : decode cX5_operatorAt 69 = .ok (.ireturn, 1) := by decide +kernel
theorem dX5_operatorAt_70 : decode cX5_operatorAt 70 = .ok (.iload_n 2, 1) := by decide +kernel
theorem dX5_operatorAt_71 : decode cX5_operatorAt 71 = .ok (.bipush 60, 2) := by decide +kernel
theorem dX5_operatorAt_73 : decode cX5_operatorAt 73 = .ok (.if_icmp .ne 8, 3) := by decide +kernel
theorem dX5_operatorAt_76 : decode cX5_operatorAt 76 = .ok (.bipush 8, 2) := by decide +kernel
theorem dX5_operatorAt_78 : decode cX5_operatorAt 78 = .ok (.goto 26, 3) := by decide +kernel
theorem dX5_operatorAt_81 : decode cX5_operatorAt 81 = .ok (.iload_n 2, 1) := by decide +kernel
theorem dX5_operatorAt_82 : decode cX5_operatorAt 82 = .ok (.bipush 61, 2) := by decide +kernel
theorem dX5_operatorAt_84 : decode cX5_operatorAt 84 = .ok (.if_icmp .ne 8, 3) := by decide +kernel
theorem dX5_operatorAt_87 : decode cX5_operatorAt 87 = .ok (.bipush 9, 2) := by decide +kernel
theorem dX5_operatorAt_89 : decode cX5_operatorAt 89 = .ok (.goto 15, 3) := by decide +kernel
theorem dX5_operatorAt_92 : decode cX5_operatorAt 92 = .ok (.iload_n 2, 1) := by decide +kernel
theorem dX5_operatorAt_93 : decode cX5_operatorAt 93 = .ok (.bipush 62, 2) := by decide +kernel
theorem dX5_operatorAt_95 : decode cX5_operatorAt 95 = .ok (.if_icmp .ne 8, 3) := by decide +kernel
theorem dX5_operatorAt_98 : decode cX5_operatorAt 98 = .ok (.bipush 10, 2) := by decide +kernel
theorem dX5_operatorAt_100 : decode cX5_operatorAt 100 = .ok (.goto 4, 3) := by decide +kernel
theorem dX5_operatorAt_103 : decode cX5_operatorAt 103 = .ok (.iconst (-1), 1) := by decide +kernel
theorem dX5_operatorAt_104 : decode cX5_operatorAt 104 = .ok (.ireturn, 1) := by decide +kernel
theorem dX5_operatorAt_105 : decode cX5_operatorAt 105 = .ok (.iload_n 2, 1) := by decide +kernel
theorem dX5_operatorAt_106 : decode cX5_operatorAt 106 = .ok (.bipush 43, 2) := by decide +kernel
theorem dX5_operatorAt_108 : decode cX5_operatorAt 108 = .ok (.if_icmp .ne 8, 3) := by decide +kernel
theorem dX5_operatorAt_111 : decode cX5_operatorAt 111 = .ok (.bipush 11, 2) := by decide +kernel
theorem dX5_operatorAt_113 : decode cX5_operatorAt 113 = .ok (.goto 15, 3) := by decide +kernel
theorem dX5_operatorAt_116 : decode cX5_operatorAt 116 = .ok (.iload_n 2, 1) := by decide +kernel
theorem dX5_operatorAt_117 : decode cX5_operatorAt 117 = .ok (.bipush 45, 2) := by decide +kernel
theorem dX5_operatorAt_119 : decode cX5_operatorAt 119 = .ok (.if_icmp .ne 8, 3) := by decide +kernel
theorem dX5_operatorAt_122 : decode cX5_operatorAt 122 = .ok (.bipush 12, 2) := by decide +kernel
theorem dX5_operatorAt_124 : decode cX5_operatorAt 124 = .ok (.goto 4, 3) := by decide +kernel
theorem dX5_operatorAt_127 : decode cX5_operatorAt 127 = .ok (.iconst (-1), 1) := by decide +kernel
theorem dX5_operatorAt_128 : decode cX5_operatorAt 128 = .ok (.ireturn, 1) := by decide +kernel
theorem dX5_operatorAt_129 : decode cX5_operatorAt 129 = .ok (.iload_n 2, 1) := by decide +kernel
theorem dX5_operatorAt_130 : decode cX5_operatorAt 130 = .ok (.bipush 42, 2) := by decide +kernel
theorem dX5_operatorAt_132 : decode cX5_operatorAt 132 = .ok (.if_icmp .ne 8, 3) := by decide +kernel
theorem dX5_operatorAt_135 : decode cX5_operatorAt 135 = .ok (.bipush 13, 2) := by decide +kernel
theorem dX5_operatorAt_137 : decode cX5_operatorAt 137 = .ok (.goto 26, 3) := by decide +kernel
theorem dX5_operatorAt_140 : decode cX5_operatorAt 140 = .ok (.iload_n 2, 1) := by decide +kernel
theorem dX5_operatorAt_141 : decode cX5_operatorAt 141 = .ok (.bipush 47, 2) := by decide +kernel
theorem dX5_operatorAt_143 : decode cX5_operatorAt 143 = .ok (.if_icmp .ne 8, 3) := by decide +kernel
theorem dX5_operatorAt_146 : decode cX5_operatorAt 146 = .ok (.bipush 14, 2) := by decide +kernel
theorem dX5_operatorAt_148 : decode cX5_operatorAt 148 = .ok (.goto 15, 3) := by decide +kernel
theorem dX5_operatorAt_151 : decode cX5_operatorAt 151 = .ok (.iload_n 2, 1) := by decide +kernel
theorem dX5_operatorAt_152 : decode cX5_operatorAt 152 = .ok (.bipush 37, 2) := by decide +kernel
theorem dX5_operatorAt_154 : decode cX5_operatorAt 154 = .ok (.if_icmp .ne 8, 3) := by decide +kernel
theorem dX5_operatorAt_157 : decode cX5_operatorAt 157 = .ok (.bipush 15, 2) := by decide +kernel
theorem dX5_operatorAt_159 : decode cX5_operatorAt 159 = .ok (.goto 4, 3) := by decide +kernel
theorem dX5_operatorAt_162 : decode cX5_operatorAt 162 = .ok (.iconst (-1), 1) := by decide +kernel
theorem dX5_operatorAt_163 : decode cX5_operatorAt 163 = .ok (.ireturn, 1) := by decide +kernel
abbrev z_X5_operatorAt : List Cond := .code yX5_operatorAt cX5_operatorAt 3 (some .int) :: zW
abbrev wl_X5_operatorAt (ad : Nat → Nat) (cs : Nat → ClassId)  (tape_size : Int32) (tape_bytes : Nat → Int32) (lr_size : Int32) (lr_at : Int32) (lr_fault : Int32) : va_W := [((ad 23), .inr (9, [.ref (ad 24), .int tape_size])), ((ad 24), .inl (cs 0, 120, .inl tape_bytes)), ((ad 26), .inr (5, [.ref (ad 23), .ref (ad 27), .int lr_size, .int lr_at, .int lr_fault]))]
def Q_X5_operatorAt (D : va_G) (cs : Nat → ClassId) (ad : Nat → Nat)  (tape_size : Int32) (tape_bytes : Nat → Int32) (lr_size : Int32) (lr_at : Int32) (lr_fault : Int32) (A : Nat → Prop) (R : Int32 × Unit) : Array Value → State → Outcome → State → Prop :=
  va_Qi (fun (r : Int32) (u : Unit) => (r, u) = R) (fun (u : Unit) (t : State) => va_P D classes (wl_X5_operatorAt ad cs tape_size tape_bytes lr_size lr_at lr_fault) t.heap ∧ va_D A (wl_X5_operatorAt ad cs tape_size tape_bytes lr_size lr_at lr_fault)) A
abbrev rm_X5_operatorAt : Room := { frames := 1, cells := 0, slots := 0, locals := 21 }
def B_X5_operatorAt_0   (tape_size : Int32) (tape_bytes : Nat → Int32) (lr_size : Int32) (lr_at : Int32) (lr_fault : Int32) (x1 : Int32) : Option (Int32 × Unit) :=
  (zk_b2 (f_X9_byteAt lr_at tape_size tape_bytes) (fun r_1 u_2 => (if x1 = (0 : Int32) then (if r_1 = (124 : Int32) then (some ((6 : Int32), ())) else (some ((-1 : Int32), ()))) else (if x1 = (1 : Int32) then (if r_1 = (38 : Int32) then (some ((7 : Int32), ())) else (some ((-1 : Int32), ()))) else (if x1 = (2 : Int32) then (if r_1 = (60 : Int32) then (some ((8 : Int32), ())) else (if r_1 = (61 : Int32) then (some ((9 : Int32), ())) else (if r_1 = (62 : Int32) then (some ((10 : Int32), ())) else (some ((-1 : Int32), ()))))) else (if x1 = (3 : Int32) then (if r_1 = (43 : Int32) then (some ((11 : Int32), ())) else (if r_1 = (45 : Int32) then (some ((12 : Int32), ())) else (some ((-1 : Int32), ())))) else (if r_1 = (42 : Int32) then (some ((13 : Int32), ())) else (if r_1 = (47 : Int32) then (some ((14 : Int32), ())) else (if r_1 = (37 : Int32) then (some ((15 : Int32), ())) else (some ((-1 : Int32), ())))))))))))
def f_X5_operatorAt  (x1 : Int32) (tape_size : Int32) (tape_bytes : Nat → Int32) (lr_size : Int32) (lr_at : Int32) (lr_fault : Int32) : Option (Int32 × Unit) := B_X5_operatorAt_0  tape_size tape_bytes lr_size lr_at lr_fault x1 
set_option maxHeartbeats 4000000 in
set_option maxRecDepth 100000 in
theorem L_X5_operatorAt_0 {p : Program} {l : Launch} {e : Env} {s : State} {m : MethodId} {args : Array Value} {below : List Frame} {meth : Method} {c : Code} {A : Nat → Prop} {D : va_G} {cs : Nat → ClassId} {ad : Nat → Nat} {tape_size : Int32} {tape_bytes : Nat → Int32} {lr_size : Int32} {lr_at : Int32} {lr_fault : Int32} {R : Int32 × Unit} (C0 : zC p s m args meth c cX5_operatorAt 3 (some .int) RX5 zW) (hK : va_K D classes (zT cs) s) (hA : ∀ q : Nat, s.heap.size ≤ q → A q) (x1 : Int32) (h : B_X5_operatorAt_0 tape_size tape_bytes lr_size lr_at lr_fault x1 = some R) (H : Heap) (locs : List Loc) (ls : Array Slot) (hP : va_P D classes (wl_X5_operatorAt ad cs tape_size tape_bytes lr_size lr_at lr_fault) H) (hD : va_D A (wl_X5_operatorAt ad cs tape_size tape_bytes lr_size lr_at lr_fault)) (hS : va_S A s.heap H locs) (hl : lv_has ls 3 [(0, .ref (ad 26)), (1, .int x1)]) : W p l e rm_X5_operatorAt s m args below meth c H locs 0 0 (MQ below (Q_X5_operatorAt D cs ad tape_size tape_bytes lr_size lr_at lr_fault A R) args s 0 0 A) (F0 m 0 ls []) := by
  obtain ⟨hx, hb, hr, hml, hown, ht, hlocks⟩ := id C0
  refine lv_aload_n hx hb dX5_operatorAt_0 rfl (lv_at hl 0 rfl) ?_
  refine va_get (D := D) (ci := 5) (v := .ref (ad 23)) (C := RX5) (T := TX5) (N := 5) hx hb ht iX5 hown hK hP 2 rfl rfl 0 (by decide) (ht _ kw_274) (fun _ h9 => h9) rfl dX5_operatorAt_1 ?_
  refine lv_aload_n hx hb dX5_operatorAt_4 rfl (lv_at hl 0 rfl) ?_
  refine va_get (D := D) (ci := 5) (v := .int lr_at) (C := RX5) (T := TX5) (N := 5) hx hb ht iX5 hown hK hP 2 rfl rfl 3 (by decide) (ht _ kw_277) (fun _ h9 => h9) rfl dX5_operatorAt_5 ?_
  obtain ⟨r_1, u_2, hc_3, h⟩ := zk_o2 h
  refine zk_vi (post := (fun r u => (r, u) = (r_1, u_2))) (w1 := fun u => (wl_X9_byteAt ad cs tape_size tape_bytes)) (As := [.int lr_at]) (rest := []) (c_X9_byteAt l D cs ad  H.size lr_at tape_size tape_bytes _ hc_3) ⟨hx, hb, hml, hown, ht⟩ (cwV 1 ht g_X5_68 rfl rfl rfl (by decide +kernel) ⟨Nat.le_of_ble_eq_true rfl, Nat.le_of_ble_eq_true rfl⟩) (va_recv hK hP (ci := 9) (q0 := 0) rfl rfl) hP hD hS hK hA [0, 1] [2] rfl rfl rfl rfl (by decide) rfl hl.1 (Nat.le_of_ble_eq_true rfl) dX5_operatorAt_8 ⟨Nat.zero_le _, Nat.zero_le _⟩ (fun r u H locs hq hP hD hS => ?_)
  cases hq
  have hP : va_P D classes (wl_X5_operatorAt ad cs tape_size tape_bytes lr_size lr_at lr_fault) H := hP.sub [1, 2, 0] rfl
  have hD : va_D A (wl_X5_operatorAt ad cs tape_size tape_bytes lr_size lr_at lr_fault) := hD.sub [1, 2, 0] rfl rfl
  refine lv_istore_n (lv' := [(2, .int r_1), (0, .ref (ad 26)), (1, .int x1)]) hx hb dX5_operatorAt_11 rfl hl (by decide) rfl (fun ls hl => ?_)
  refine lv_iload_n hx hb dX5_operatorAt_12 rfl (lv_at hl 2 rfl) ?_
  by_cases c_14 : x1 = (0 : Int32)
  · have h := zk_t c_14 h
    refine lv_tableIn (tgt := 44) hx hb dX5_operatorAt_13 (by rw [c_14]; decide) (by rw [c_14]; decide) (by rw [c_14]; rfl) (by decide) ?_
    refine lv_iload_n hx hb dX5_operatorAt_44 rfl (lv_at hl 0 rfl) ?_
    refine lv_bipush (v := (124 : Int32)) hx hb dX5_operatorAt_45 (by decide) ?_
    refine lv_icmp_ne (tgt := 55) hx hb dX5_operatorAt_47 (by decide) (fun c_4 => ?_) (fun c_4 => ?_)
    · have h := zk_f c_4 h
      refine lv_iconst (v := (-1 : Int32)) hx hb dX5_operatorAt_55 (by decide) ?_
      exact W.iret (v := (-1 : Int32)) hx hb hr (fun t ht2 hW => ⟨⟨(-1 : Int32), (), rfl, Option.some.inj h, by rw [ht2]; exact hP, hD⟩, hS.F ht2⟩) hS.2.2 dX5_operatorAt_56 hlocks
    · have h := zk_t c_4 h
      refine lv_bipush (v := (6 : Int32)) hx hb dX5_operatorAt_50 (by decide) ?_
      refine lv_goto (tgt := 56) hx hb dX5_operatorAt_52 (by decide) ?_
      exact W.iret (v := (6 : Int32)) hx hb hr (fun t ht2 hW => ⟨⟨(6 : Int32), (), rfl, Option.some.inj h, by rw [ht2]; exact hP, hD⟩, hS.F ht2⟩) hS.2.2 dX5_operatorAt_56 hlocks
  · have h := zk_f c_14 h
    by_cases c_15 : x1 = (1 : Int32)
    · have h := zk_t c_15 h
      refine lv_tableIn (tgt := 57) hx hb dX5_operatorAt_13 (by rw [c_15]; decide) (by rw [c_15]; decide) (by rw [c_15]; rfl) (by decide) ?_
      refine lv_iload_n hx hb dX5_operatorAt_57 rfl (lv_at hl 0 rfl) ?_
      refine lv_bipush (v := (38 : Int32)) hx hb dX5_operatorAt_58 (by decide) ?_
      refine lv_icmp_ne (tgt := 68) hx hb dX5_operatorAt_60 (by decide) (fun c_5 => ?_) (fun c_5 => ?_)
      · have h := zk_f c_5 h
        refine lv_iconst (v := (-1 : Int32)) hx hb dX5_operatorAt_68 (by decide) ?_
        exact W.iret (v := (-1 : Int32)) hx hb hr (fun t ht2 hW => ⟨⟨(-1 : Int32), (), rfl, Option.some.inj h, by rw [ht2]; exact hP, hD⟩, hS.F ht2⟩) hS.2.2 dX5_operatorAt_69 hlocks
      · have h := zk_t c_5 h
        refine lv_bipush (v := (7 : Int32)) hx hb dX5_operatorAt_63 (by decide) ?_
        refine lv_goto (tgt := 69) hx hb dX5_operatorAt_65 (by decide) ?_
        exact W.iret (v := (7 : Int32)) hx hb hr (fun t ht2 hW => ⟨⟨(7 : Int32), (), rfl, Option.some.inj h, by rw [ht2]; exact hP, hD⟩, hS.F ht2⟩) hS.2.2 dX5_operatorAt_69 hlocks
    · have h := zk_f c_15 h
      by_cases c_16 : x1 = (2 : Int32)
      · have h := zk_t c_16 h
        refine lv_tableIn (tgt := 70) hx hb dX5_operatorAt_13 (by rw [c_16]; decide) (by rw [c_16]; decide) (by rw [c_16]; rfl) (by decide) ?_
        refine lv_iload_n hx hb dX5_operatorAt_70 rfl (lv_at hl 0 rfl) ?_
        refine lv_bipush (v := (60 : Int32)) hx hb dX5_operatorAt_71 (by decide) ?_
        refine lv_icmp_ne (tgt := 81) hx hb dX5_operatorAt_73 (by decide) (fun c_6 => ?_) (fun c_6 => ?_)
        · have h := zk_f c_6 h
          refine lv_iload_n hx hb dX5_operatorAt_81 rfl (lv_at hl 0 rfl) ?_
          refine lv_bipush (v := (61 : Int32)) hx hb dX5_operatorAt_82 (by decide) ?_
          refine lv_icmp_ne (tgt := 92) hx hb dX5_operatorAt_84 (by decide) (fun c_7 => ?_) (fun c_7 => ?_)
          · have h := zk_f c_7 h
            refine lv_iload_n hx hb dX5_operatorAt_92 rfl (lv_at hl 0 rfl) ?_
            refine lv_bipush (v := (62 : Int32)) hx hb dX5_operatorAt_93 (by decide) ?_
            refine lv_icmp_ne (tgt := 103) hx hb dX5_operatorAt_95 (by decide) (fun c_8 => ?_) (fun c_8 => ?_)
            · have h := zk_f c_8 h
              refine lv_iconst (v := (-1 : Int32)) hx hb dX5_operatorAt_103 (by decide) ?_
              exact W.iret (v := (-1 : Int32)) hx hb hr (fun t ht2 hW => ⟨⟨(-1 : Int32), (), rfl, Option.some.inj h, by rw [ht2]; exact hP, hD⟩, hS.F ht2⟩) hS.2.2 dX5_operatorAt_104 hlocks
            · have h := zk_t c_8 h
              refine lv_bipush (v := (10 : Int32)) hx hb dX5_operatorAt_98 (by decide) ?_
              refine lv_goto (tgt := 104) hx hb dX5_operatorAt_100 (by decide) ?_
              exact W.iret (v := (10 : Int32)) hx hb hr (fun t ht2 hW => ⟨⟨(10 : Int32), (), rfl, Option.some.inj h, by rw [ht2]; exact hP, hD⟩, hS.F ht2⟩) hS.2.2 dX5_operatorAt_104 hlocks
          · have h := zk_t c_7 h
            refine lv_bipush (v := (9 : Int32)) hx hb dX5_operatorAt_87 (by decide) ?_
            refine lv_goto (tgt := 104) hx hb dX5_operatorAt_89 (by decide) ?_
            exact W.iret (v := (9 : Int32)) hx hb hr (fun t ht2 hW => ⟨⟨(9 : Int32), (), rfl, Option.some.inj h, by rw [ht2]; exact hP, hD⟩, hS.F ht2⟩) hS.2.2 dX5_operatorAt_104 hlocks
        · have h := zk_t c_6 h
          refine lv_bipush (v := (8 : Int32)) hx hb dX5_operatorAt_76 (by decide) ?_
          refine lv_goto (tgt := 104) hx hb dX5_operatorAt_78 (by decide) ?_
          exact W.iret (v := (8 : Int32)) hx hb hr (fun t ht2 hW => ⟨⟨(8 : Int32), (), rfl, Option.some.inj h, by rw [ht2]; exact hP, hD⟩, hS.F ht2⟩) hS.2.2 dX5_operatorAt_104 hlocks
      · have h := zk_f c_16 h
        by_cases c_17 : x1 = (3 : Int32)
        · have h := zk_t c_17 h
          refine lv_tableIn (tgt := 105) hx hb dX5_operatorAt_13 (by rw [c_17]; decide) (by rw [c_17]; decide) (by rw [c_17]; rfl) (by decide) ?_
          refine lv_iload_n hx hb dX5_operatorAt_105 rfl (lv_at hl 0 rfl) ?_
          refine lv_bipush (v := (43 : Int32)) hx hb dX5_operatorAt_106 (by decide) ?_
          refine lv_icmp_ne (tgt := 116) hx hb dX5_operatorAt_108 (by decide) (fun c_9 => ?_) (fun c_9 => ?_)
          · have h := zk_f c_9 h
            refine lv_iload_n hx hb dX5_operatorAt_116 rfl (lv_at hl 0 rfl) ?_
            refine lv_bipush (v := (45 : Int32)) hx hb dX5_operatorAt_117 (by decide) ?_
            refine lv_icmp_ne (tgt := 127) hx hb dX5_operatorAt_119 (by decide) (fun c_10 => ?_) (fun c_10 => ?_)
            · have h := zk_f c_10 h
              refine lv_iconst (v := (-1 : Int32)) hx hb dX5_operatorAt_127 (by decide) ?_
              exact W.iret (v := (-1 : Int32)) hx hb hr (fun t ht2 hW => ⟨⟨(-1 : Int32), (), rfl, Option.some.inj h, by rw [ht2]; exact hP, hD⟩, hS.F ht2⟩) hS.2.2 dX5_operatorAt_128 hlocks
            · have h := zk_t c_10 h
              refine lv_bipush (v := (12 : Int32)) hx hb dX5_operatorAt_122 (by decide) ?_
              refine lv_goto (tgt := 128) hx hb dX5_operatorAt_124 (by decide) ?_
              exact W.iret (v := (12 : Int32)) hx hb hr (fun t ht2 hW => ⟨⟨(12 : Int32), (), rfl, Option.some.inj h, by rw [ht2]; exact hP, hD⟩, hS.F ht2⟩) hS.2.2 dX5_operatorAt_128 hlocks
          · have h := zk_t c_9 h
            refine lv_bipush (v := (11 : Int32)) hx hb dX5_operatorAt_111 (by decide) ?_
            refine lv_goto (tgt := 128) hx hb dX5_operatorAt_113 (by decide) ?_
            exact W.iret (v := (11 : Int32)) hx hb hr (fun t ht2 hW => ⟨⟨(11 : Int32), (), rfl, Option.some.inj h, by rw [ht2]; exact hP, hD⟩, hS.F ht2⟩) hS.2.2 dX5_operatorAt_128 hlocks
        · have h := zk_f c_17 h
          refine lv_tableOut (tgt := 129) hx hb dX5_operatorAt_13 (zk_out (lo := 0) (hi := 3) [(0 : Int32), (1 : Int32), (2 : Int32), (3 : Int32)] (by decide +kernel) (List.forall_mem_cons.mpr ⟨c_14, List.forall_mem_cons.mpr ⟨c_15, List.forall_mem_cons.mpr ⟨c_16, List.forall_mem_cons.mpr ⟨c_17, fun _ h => absurd h List.not_mem_nil⟩⟩⟩⟩)) (by decide) ?_
          refine lv_iload_n hx hb dX5_operatorAt_129 rfl (lv_at hl 0 rfl) ?_
          refine lv_bipush (v := (42 : Int32)) hx hb dX5_operatorAt_130 (by decide) ?_
          refine lv_icmp_ne (tgt := 140) hx hb dX5_operatorAt_132 (by decide) (fun c_11 => ?_) (fun c_11 => ?_)
          · have h := zk_f c_11 h
            refine lv_iload_n hx hb dX5_operatorAt_140 rfl (lv_at hl 0 rfl) ?_
            refine lv_bipush (v := (47 : Int32)) hx hb dX5_operatorAt_141 (by decide) ?_
            refine lv_icmp_ne (tgt := 151) hx hb dX5_operatorAt_143 (by decide) (fun c_12 => ?_) (fun c_12 => ?_)
            · have h := zk_f c_12 h
              refine lv_iload_n hx hb dX5_operatorAt_151 rfl (lv_at hl 0 rfl) ?_
              refine lv_bipush (v := (37 : Int32)) hx hb dX5_operatorAt_152 (by decide) ?_
              refine lv_icmp_ne (tgt := 162) hx hb dX5_operatorAt_154 (by decide) (fun c_13 => ?_) (fun c_13 => ?_)
              · have h := zk_f c_13 h
                refine lv_iconst (v := (-1 : Int32)) hx hb dX5_operatorAt_162 (by decide) ?_
                exact W.iret (v := (-1 : Int32)) hx hb hr (fun t ht2 hW => ⟨⟨(-1 : Int32), (), rfl, Option.some.inj h, by rw [ht2]; exact hP, hD⟩, hS.F ht2⟩) hS.2.2 dX5_operatorAt_163 hlocks
              · have h := zk_t c_13 h
                refine lv_bipush (v := (15 : Int32)) hx hb dX5_operatorAt_157 (by decide) ?_
                refine lv_goto (tgt := 163) hx hb dX5_operatorAt_159 (by decide) ?_
                exact W.iret (v := (15 : Int32)) hx hb hr (fun t ht2 hW => ⟨⟨(15 : Int32), (), rfl, Option.some.inj h, by rw [ht2]; exact hP, hD⟩, hS.F ht2⟩) hS.2.2 dX5_operatorAt_163 hlocks
            · have h := zk_t c_12 h
              refine lv_bipush (v := (14 : Int32)) hx hb dX5_operatorAt_146 (by decide) ?_
              refine lv_goto (tgt := 163) hx hb dX5_operatorAt_148 (by decide) ?_
              exact W.iret (v := (14 : Int32)) hx hb hr (fun t ht2 hW => ⟨⟨(14 : Int32), (), rfl, Option.some.inj h, by rw [ht2]; exact hP, hD⟩, hS.F ht2⟩) hS.2.2 dX5_operatorAt_163 hlocks
          · have h := zk_t c_11 h
            refine lv_bipush (v := (13 : Int32)) hx hb dX5_operatorAt_135 (by decide) ?_
            refine lv_goto (tgt := 163) hx hb dX5_operatorAt_137 (by decide) ?_
            exact W.iret (v := (13 : Int32)) hx hb hr (fun t ht2 hW => ⟨⟨(13 : Int32), (), rfl, Option.some.inj h, by rw [ht2]; exact hP, hD⟩, hS.F ht2⟩) hS.2.2 dX5_operatorAt_163 hlocks
set_option maxHeartbeats 4000000 in
set_option maxRecDepth 100000 in
theorem c_X5_operatorAt (l : Launch) (D : va_G) (cs : Nat → ClassId) (ad : Nat → Nat) (sz : Nat) (x1 : Int32) (tape_size : Int32) (tape_bytes : Nat → Int32) (lr_size : Int32) (lr_at : Int32) (lr_fault : Int32) (R : Int32 × Unit) (h : f_X5_operatorAt  x1 tape_size tape_bytes lr_size lr_at lr_fault = some R) : Met l yX5_operatorAt (z_X5_operatorAt) rm_X5_operatorAt (va_Pc [.ref (ad 26), .int x1] (zPre D cs (wl_X5_operatorAt ad cs tape_size tape_bytes lr_size lr_at lr_fault) sz)) (Q_X5_operatorAt D cs ad tape_size tape_bytes lr_size lr_at lr_fault (va_A (wl_X5_operatorAt ad cs tape_size tape_bytes lr_size lr_at lr_fault) sz) R) 0 0 (va_A (wl_X5_operatorAt ad cs tape_size tape_bytes lr_size lr_at lr_fault) sz) := by
  refine Met.ofW (cc := cX5_operatorAt) (maxL := 3) (ret := (some .int)) (by decide) rfl ?_
  intro p e s m args below meth c s₁ B hml hv
  obtain ⟨rfl, hsz, hP, hK, hD0⟩ := hv
  subst hsz
  have hD := hD0.self (sz := s.heap.size)
  have C0 : zC p s m _ meth c cX5_operatorAt 3 (some .int) RX5 zW := ⟨B.exec, B.bytes, B.returns, hml, findClass_of_methodNamed B.named, fun w hw => atoms_spec (ws := z_X5_operatorAt) B.pre w (List.mem_cons_of_mem _ hw), B.notSynchronized⟩
  have hA : ∀ q : Nat, s.heap.size ≤ q → va_A (wl_X5_operatorAt ad cs tape_size tape_bytes lr_size lr_at lr_fault) s.heap.size q := fun q h => Or.inr h
  have hl := lv_entry ([.ref (ad 26), .int x1]) (n := 3) (Nat.le_of_ble_eq_true rfl)
  rw [lg_entry_eq]
  generalize (lg_sl ([.ref (ad 26), .int x1]) ++ List.replicate (3 - (lg_sl ([.ref (ad 26), .int x1])).length) Slot.unset).toArray = ls at hl ⊢
  exact L_X5_operatorAt_0 C0 hK hA   x1  h s.heap [] ls hP hD va_S.rf hl
theorem kw_557 : Cond.methodLink RX5 71 yX9_isDigitAt ∈ zW := zwI (i := 557) (by decide +kernel) (by decide +kernel)
theorem kw_558 : Cond.instanceMethod yX9_isDigitAt ∈ zW := zwI (i := 558) (by decide +kernel) (by decide +kernel)
theorem kw_559 : Cond.selects RX9 yX9_isDigitAt yX9_isDigitAt ∈ zW := zwI (i := 559) (by decide +kernel) (by decide +kernel)
theorem kw_560 : Cond.code yX9_isDigitAt cX9_isDigitAt 3 (some .boolean) ∈ zW := zwI (i := 560) (by decide +kernel) (by decide +kernel)
theorem kw_566 : Cond.methodLink RX5 57 yX5_emit ∈ zW := zwI (i := 566) (by decide +kernel) (by decide +kernel)
theorem kw_567 : Cond.instanceMethod yX5_emit ∈ zW := zwI (i := 567) (by decide +kernel) (by decide +kernel)
theorem kw_568 : Cond.selects RX5 yX5_emit yX5_emit ∈ zW := zwI (i := 568) (by decide +kernel) (by decide +kernel)
theorem kw_569 : Cond.code yX5_emit cX5_emit 2 none ∈ zW := zwI (i := 569) (by decide +kernel) (by decide +kernel)
theorem dX5_readNumber_0 : decode cX5_readNumber 0 = .ok (.iconst 0, 1) := by decide +kernel
theorem dX5_readNumber_1 : decode cX5_readNumber 1 = .ok (.istore_n 1, 1) := by decide +kernel
theorem dX5_readNumber_2 : decode cX5_readNumber 2 = .ok (.iconst 0, 1) := by decide +kernel
theorem dX5_readNumber_3 : decode cX5_readNumber 3 = .ok (.istore_n 2, 1) := by decide +kernel
theorem dX5_readNumber_4 : decode cX5_readNumber 4 = .ok (.iload_n 2, 1) := by decide +kernel
theorem dX5_readNumber_5 : decode cX5_readNumber 5 = .ok (.iconst 4, 1) := by decide +kernel
theorem dX5_readNumber_6 : decode cX5_readNumber 6 = .ok (.if_icmp .ge 53, 3) := by decide +kernel
theorem dX5_readNumber_9 : decode cX5_readNumber 9 = .ok (.aload_n 0, 1) := by decide +kernel
theorem dX5_readNumber_10 : decode cX5_readNumber 10 = .ok (.getfield 15, 3) := by decide +kernel
theorem dX5_readNumber_13 : decode cX5_readNumber 13 = .ok (.aload_n 0, 1) := by decide +kernel
theorem dX5_readNumber_14 : decode cX5_readNumber 14 = .ok (.getfield 19, 3) := by decide +kernel
theorem dX5_readNumber_17 : decode cX5_readNumber 17 = .ok (.invokevirtual 71, 3) := by decide +kernel
theorem dX5_readNumber_20 : decode cX5_readNumber 20 = .ok (.ifCond .eq 39, 3) := by decide +kernel
theorem dX5_readNumber_23 : decode cX5_readNumber 23 = .ok (.iload_n 1, 1) := by decide +kernel
theorem dX5_readNumber_24 : decode cX5_readNumber 24 = .ok (.bipush 10, 2) := by decide +kernel
theorem dX5_readNumber_26 : decode cX5_readNumber 26 = .ok (.imul, 1) := by decide +kernel
theorem dX5_readNumber_27 : decode cX5_readNumber 27 = .ok (.aload_n 0, 1) := by decide +kernel
theorem dX5_readNumber_28 : decode cX5_readNumber 28 = .ok (.getfield 15, 3) := by decide +kernel
theorem dX5_readNumber_31 : decode cX5_readNumber 31 = .ok (.aload_n 0, 1) := by decide +kernel
theorem dX5_readNumber_32 : decode cX5_readNumber 32 = .ok (.getfield 19, 3) := by decide +kernel
theorem dX5_readNumber_35 : decode cX5_readNumber 35 = .ok (.invokevirtual 68, 3) := by decide +kernel
theorem dX5_readNumber_38 : decode cX5_readNumber 38 = .ok (.iadd, 1) := by decide +kernel
theorem dX5_readNumber_39 : decode cX5_readNumber 39 = .ok (.bipush 48, 2) := by decide +kernel
theorem dX5_readNumber_41 : decode cX5_readNumber 41 = .ok (.isub, 1) := by decide +kernel
theorem dX5_readNumber_42 : decode cX5_readNumber 42 = .ok (.istore_n 1, 1) := by decide +kernel
theorem dX5_readNumber_43 : decode cX5_readNumber 43 = .ok (.aload_n 0, 1) := by decide +kernel
theorem dX5_readNumber_44 : decode cX5_readNumber 44 = .ok (.dup, 1) := by decide +kernel
theorem dX5_readNumber_45 : decode cX5_readNumber 45 = .ok (.getfield 19, 3) := by decide +kernel
theorem dX5_readNumber_48 : decode cX5_readNumber 48 = .ok (.iconst 1, 1) := by decide +kernel
theorem dX5_readNumber_49 : decode cX5_readNumber 49 = .ok (.iadd, 1) := by decide +kernel
theorem dX5_readNumber_50 : decode cX5_readNumber 50 = .ok (.putfield 19, 3) := by decide +kernel
theorem dX5_readNumber_53 : decode cX5_readNumber 53 = .ok (.iinc 2 1, 3) := by decide +kernel
theorem dX5_readNumber_56 : decode cX5_readNumber 56 = .ok (.goto (-52), 3) := by decide +kernel
theorem dX5_readNumber_59 : decode cX5_readNumber 59 = .ok (.aload_n 0, 1) := by decide +kernel
theorem dX5_readNumber_60 : decode cX5_readNumber 60 = .ok (.iload_n 1, 1) := by decide +kernel
theorem dX5_readNumber_61 : decode cX5_readNumber 61 = .ok (.iconst 5, 1) := by decide +kernel
theorem dX5_readNumber_62 : decode cX5_readNumber 62 = .ok (.ishl, 1) := by decide +kernel
theorem dX5_readNumber_63 : decode cX5_readNumber 63 = .ok (.iconst 0, 1) := by decide +kernel
theorem dX5_readNumber_64 : decode cX5_readNumber 64 = .ok (.ior, 1) := by decide +kernel
theorem dX5_readNumber_65 : decode cX5_readNumber 65 = .ok (.invokevirtual 57, 3) := by decide +kernel
theorem dX5_readNumber_68 : decode cX5_readNumber 68 = .ok (.return_, 1) := by decide +kernel
abbrev z_X5_readNumber : List Cond := .code yX5_readNumber cX5_readNumber 3 none :: zW
abbrev wl_X5_readNumber (ad : Nat → Nat) (cs : Nat → ClassId)  (tape_size : Int32) (tape_bytes : Nat → Int32) (lr_size : Int32) (lr_at : Int32) (lr_fault : Int32) (lr_code : Nat → Int32) : va_W := [((ad 23), .inr (9, [.ref (ad 24), .int tape_size])), ((ad 24), .inl (cs 0, 120, .inl tape_bytes)), ((ad 26), .inr (5, [.ref (ad 23), .ref (ad 27), .int lr_size, .int lr_at, .int lr_fault])), ((ad 27), .inl (cs 0, 121, .inl lr_code))]
def Q_X5_readNumber (D : va_G) (cs : Nat → ClassId) (ad : Nat → Nat)  (tape_size : Int32) (tape_bytes : Nat → Int32) (lr_fault : Int32) (A : Nat → Prop) (R : Int32 × Int32 × (Nat → Int32)) : Array Value → State → Outcome → State → Prop :=
  va_Qv (fun u : Int32 × Int32 × (Nat → Int32) => u = R) (fun (u : Int32 × Int32 × (Nat → Int32)) (t : State) => va_P D classes (wl_X5_readNumber ad cs tape_size tape_bytes u.1 u.2.1 lr_fault u.2.2) t.heap ∧ va_D A (wl_X5_readNumber ad cs tape_size tape_bytes u.1 u.2.1 lr_fault u.2.2)) A
abbrev rm_X5_readNumber : Room := { frames := 2, cells := 0, slots := 0, locals := 43 }
theorem g_X5_57 : GoodIn zW (wsV RX5 57 RX5 yX5_emit z_X5_emit) := zGV kw_566 kw_567 kw_568 kw_80 kw_569
theorem g_X5_71 : GoodIn zW (wsV RX5 71 RX9 yX9_isDigitAt z_X9_isDigitAt) := zGV kw_557 kw_558 kw_559 kw_78 kw_560
def B_X5_readNumber_59  (g4 : Int32 → Int32 → Int32 → Int32 → (Nat → Int32) → (Option (Int32 × Int32 × (Nat → Int32)))) (tape_size : Int32) (tape_bytes : Nat → Int32) (lr_fault : Int32) (x1 : Int32) (lr_size : Int32) (lr_at : Int32) (lr_code : Nat → Int32) : Option (Int32 × Int32 × (Nat → Int32)) :=
  (zk_b2 (f_X5_emit ((x1 <<< ((5 : Int32) &&& 31)) ||| (0 : Int32)) lr_size lr_at lr_fault lr_code) (fun u_12 u_13 => (some (u_12, lr_at, u_13))))
def B_X5_readNumber_4  (g4 : Int32 → Int32 → Int32 → Int32 → (Nat → Int32) → (Option (Int32 × Int32 × (Nat → Int32)))) (tape_size : Int32) (tape_bytes : Nat → Int32) (lr_fault : Int32) (x1 : Int32) (x2 : Int32) (lr_size : Int32) (lr_at : Int32) (lr_code : Nat → Int32) : Option (Int32 × Int32 × (Nat → Int32)) :=
  (if (4 : Int32) ≤ x2 then (B_X5_readNumber_59 g4 tape_size tape_bytes lr_fault x1 lr_size lr_at lr_code) else (zk_b2 (f_X9_isDigitAt lr_at tape_size tape_bytes) (fun r_2 u_3 => (if r_2 = 0 then (B_X5_readNumber_59 g4 tape_size tape_bytes lr_fault x1 lr_size lr_at lr_code) else (zk_b2 (f_X9_byteAt lr_at tape_size tape_bytes) (fun r_6 u_7 => (zk_let (((x1 * (10 : Int32)) + r_6) - (48 : Int32)) (fun v_9 => (zk_let (lr_at + (1 : Int32)) (fun v_10 => (zk_let (x2 + (1 : Int32)) (fun v_11 => (g4 v_9 v_11 lr_size v_10 lr_code)))))))))))))
def B_X5_readNumber_0  (g4 : Int32 → Int32 → Int32 → Int32 → (Nat → Int32) → (Option (Int32 × Int32 × (Nat → Int32)))) (tape_size : Int32) (tape_bytes : Nat → Int32) (lr_fault : Int32) (lr_size : Int32) (lr_at : Int32) (lr_code : Nat → Int32) : Option (Int32 × Int32 × (Nat → Int32)) :=
  (g4 (0 : Int32) (0 : Int32) lr_size lr_at lr_code)
def G_X5_readNumber  (tape_size : Int32) (tape_bytes : Nat → Int32) (lr_fault : Int32) (n : Nat) : (Int32 → Int32 → Int32 → Int32 → (Nat → Int32) → (Option (Int32 × Int32 × (Nat → Int32)))) :=
  Nat.rec (motive := fun _ => (Int32 → Int32 → Int32 → Int32 → (Nat → Int32) → (Option (Int32 × Int32 × (Nat → Int32))))) ((fun _ _ _ _ _ => none)) (fun _ ih => (B_X5_readNumber_4  ih tape_size tape_bytes lr_fault)) n
def f_X5_readNumber  (n : Nat)  (tape_size : Int32) (tape_bytes : Nat → Int32) (lr_size : Int32) (lr_at : Int32) (lr_fault : Int32) (lr_code : Nat → Int32) : Option (Int32 × Int32 × (Nat → Int32)) := B_X5_readNumber_0  ((G_X5_readNumber  tape_size tape_bytes lr_fault n)) tape_size tape_bytes lr_fault  lr_size lr_at lr_code
set_option maxHeartbeats 4000000 in
set_option maxRecDepth 100000 in
theorem L_X5_readNumber_59 {p : Program} {l : Launch} {e : Env} {s : State} {m : MethodId} {args : Array Value} {below : List Frame} {meth : Method} {c : Code} {A : Nat → Prop} {D : va_G} {cs : Nat → ClassId} {ad : Nat → Nat} {tape_size : Int32} {tape_bytes : Nat → Int32} {lr_fault : Int32} {R : Int32 × Int32 × (Nat → Int32)} {g4 : Int32 → Int32 → Int32 → Int32 → (Nat → Int32) → (Option (Int32 × Int32 × (Nat → Int32)))} (C0 : zC p s m args meth c cX5_readNumber 3 none RX5 zW) (hK : va_K D classes (zT cs) s) (hA : ∀ q : Nat, s.heap.size ≤ q → A q) (ih4 : ∀ (x1 : Int32) (x2 : Int32) (lr_size : Int32) (lr_at : Int32) (lr_code : Nat → Int32) (h : g4 x1 x2 lr_size lr_at lr_code = some R) (H : Heap) (locs : List Loc) (ls : Array Slot) (hP : va_P D classes (wl_X5_readNumber ad cs tape_size tape_bytes lr_size lr_at lr_fault lr_code) H) (hD : va_D A (wl_X5_readNumber ad cs tape_size tape_bytes lr_size lr_at lr_fault lr_code)) (hS : va_S A s.heap H locs) (hl : lv_has ls 3 [(0, .ref (ad 26)), (1, .int x1), (2, .int x2)]), W p l e rm_X5_readNumber s m args below meth c H locs 0 0 (MQ below (Q_X5_readNumber D cs ad tape_size tape_bytes lr_fault A R) args s 0 0 A) (F0 m 4 ls [])) (x1 : Int32) (lr_size : Int32) (lr_at : Int32) (lr_code : Nat → Int32) (h : B_X5_readNumber_59 g4 tape_size tape_bytes lr_fault x1 lr_size lr_at lr_code = some R) (H : Heap) (locs : List Loc) (ls : Array Slot) (hP : va_P D classes (wl_X5_readNumber ad cs tape_size tape_bytes lr_size lr_at lr_fault lr_code) H) (hD : va_D A (wl_X5_readNumber ad cs tape_size tape_bytes lr_size lr_at lr_fault lr_code)) (hS : va_S A s.heap H locs) (hl : lv_has ls 3 [(0, .ref (ad 26)), (1, .int x1)]) : W p l e rm_X5_readNumber s m args below meth c H locs 0 0 (MQ below (Q_X5_readNumber D cs ad tape_size tape_bytes lr_fault A R) args s 0 0 A) (F0 m 59 ls []) := by
  obtain ⟨hx, hb, hr, hml, hown, ht, hlocks⟩ := id C0
  refine lv_aload_n hx hb dX5_readNumber_59 rfl (lv_at hl 0 rfl) ?_
  refine lv_iload_n hx hb dX5_readNumber_60 rfl (lv_at hl 1 rfl) ?_
  refine lv_iconst (v := (5 : Int32)) hx hb dX5_readNumber_61 (by decide) ?_
  refine lv_ishl hx hb dX5_readNumber_62 ?_
  refine lv_iconst (v := (0 : Int32)) hx hb dX5_readNumber_63 (by decide) ?_
  refine lv_ior hx hb dX5_readNumber_64 ?_
  obtain ⟨u_12, u_13, hc_14, h⟩ := zk_o2 h
  refine zk_vv (post := (fun u => u = (u_12, u_13))) (w1 := fun u => (wl_X5_emit ad cs u.1 lr_at lr_fault u.2)) (As := [.int ((x1 <<< ((5 : Int32) &&& 31)) ||| (0 : Int32))]) (rest := []) (c_X5_emit l D cs ad  H.size ((x1 <<< ((5 : Int32) &&& 31)) ||| (0 : Int32)) lr_size lr_at lr_fault lr_code _ hc_14) ⟨hx, hb, hml, hown, ht⟩ (cwV 1 ht g_X5_57 rfl rfl rfl (by decide +kernel) ⟨Nat.le_of_ble_eq_true rfl, Nat.le_of_ble_eq_true rfl⟩) (va_recv hK hP (ci := 5) (q0 := 2) rfl rfl) hP hD hS hK hA [2, 3] [0, 1] rfl rfl rfl rfl (by decide) rfl hl.1 (Nat.le_of_ble_eq_true rfl) dX5_readNumber_65 ⟨Nat.zero_le _, Nat.zero_le _⟩ (fun u H locs hq hP hD hS => ?_)
  cases hq
  have hP : va_P D classes (wl_X5_readNumber ad cs tape_size tape_bytes u_12 lr_at lr_fault u_13) H := hP.sub [0, 1, 2, 3] rfl
  have hD : va_D A (wl_X5_readNumber ad cs tape_size tape_bytes u_12 lr_at lr_fault u_13) := hD.sub [0, 1, 2, 3] rfl rfl
  exact W.vret hx hb hr (fun t ht2 hW => ⟨⟨(u_12, lr_at, u_13), rfl, Option.some.inj h, by rw [ht2]; exact hP, hD⟩, hS.F ht2⟩) hS.2.2 dX5_readNumber_68 hlocks
set_option maxHeartbeats 4000000 in
set_option maxRecDepth 100000 in
theorem L_X5_readNumber_4 {p : Program} {l : Launch} {e : Env} {s : State} {m : MethodId} {args : Array Value} {below : List Frame} {meth : Method} {c : Code} {A : Nat → Prop} {D : va_G} {cs : Nat → ClassId} {ad : Nat → Nat} {tape_size : Int32} {tape_bytes : Nat → Int32} {lr_fault : Int32} {R : Int32 × Int32 × (Nat → Int32)} {g4 : Int32 → Int32 → Int32 → Int32 → (Nat → Int32) → (Option (Int32 × Int32 × (Nat → Int32)))} (C0 : zC p s m args meth c cX5_readNumber 3 none RX5 zW) (hK : va_K D classes (zT cs) s) (hA : ∀ q : Nat, s.heap.size ≤ q → A q) (ih4 : ∀ (x1 : Int32) (x2 : Int32) (lr_size : Int32) (lr_at : Int32) (lr_code : Nat → Int32) (h : g4 x1 x2 lr_size lr_at lr_code = some R) (H : Heap) (locs : List Loc) (ls : Array Slot) (hP : va_P D classes (wl_X5_readNumber ad cs tape_size tape_bytes lr_size lr_at lr_fault lr_code) H) (hD : va_D A (wl_X5_readNumber ad cs tape_size tape_bytes lr_size lr_at lr_fault lr_code)) (hS : va_S A s.heap H locs) (hl : lv_has ls 3 [(0, .ref (ad 26)), (1, .int x1), (2, .int x2)]), W p l e rm_X5_readNumber s m args below meth c H locs 0 0 (MQ below (Q_X5_readNumber D cs ad tape_size tape_bytes lr_fault A R) args s 0 0 A) (F0 m 4 ls [])) (x1 : Int32) (x2 : Int32) (lr_size : Int32) (lr_at : Int32) (lr_code : Nat → Int32) (h : B_X5_readNumber_4 g4 tape_size tape_bytes lr_fault x1 x2 lr_size lr_at lr_code = some R) (H : Heap) (locs : List Loc) (ls : Array Slot) (hP : va_P D classes (wl_X5_readNumber ad cs tape_size tape_bytes lr_size lr_at lr_fault lr_code) H) (hD : va_D A (wl_X5_readNumber ad cs tape_size tape_bytes lr_size lr_at lr_fault lr_code)) (hS : va_S A s.heap H locs) (hl : lv_has ls 3 [(0, .ref (ad 26)), (1, .int x1), (2, .int x2)]) : W p l e rm_X5_readNumber s m args below meth c H locs 0 0 (MQ below (Q_X5_readNumber D cs ad tape_size tape_bytes lr_fault A R) args s 0 0 A) (F0 m 4 ls []) := by
  obtain ⟨hx, hb, hr, hml, hown, ht, hlocks⟩ := id C0
  refine lv_iload_n hx hb dX5_readNumber_4 rfl (lv_at hl 2 rfl) ?_
  refine lv_iconst (v := (4 : Int32)) hx hb dX5_readNumber_5 (by decide) ?_
  refine lv_icmp_ge (tgt := 59) hx hb dX5_readNumber_6 (by decide) (fun c_1 => ?_) (fun c_1 => ?_)
  · have h := zk_t c_1 h
    exact L_X5_readNumber_59 C0 hK hA  ih4 x1 lr_size lr_at lr_code h H locs ls hP hD hS (lv_sub hl [0, 1] rfl)
  · have h := zk_f c_1 h
    refine lv_aload_n hx hb dX5_readNumber_9 rfl (lv_at hl 0 rfl) ?_
    refine va_get (D := D) (ci := 5) (v := .ref (ad 23)) (C := RX5) (T := TX5) (N := 5) hx hb ht iX5 hown hK hP 2 rfl rfl 0 (by decide) (ht _ kw_274) (fun _ h9 => h9) rfl dX5_readNumber_10 ?_
    refine lv_aload_n hx hb dX5_readNumber_13 rfl (lv_at hl 0 rfl) ?_
    refine va_get (D := D) (ci := 5) (v := .int lr_at) (C := RX5) (T := TX5) (N := 5) hx hb ht iX5 hown hK hP 2 rfl rfl 3 (by decide) (ht _ kw_277) (fun _ h9 => h9) rfl dX5_readNumber_14 ?_
    obtain ⟨r_2, u_3, hc_4, h⟩ := zk_o2 h
    refine zk_vi (post := (fun r u => (r, u) = (r_2, u_3))) (w1 := fun u => (wl_X9_isDigitAt ad cs tape_size tape_bytes)) (As := [.int lr_at]) (rest := []) (c_X9_isDigitAt l D cs ad  H.size lr_at tape_size tape_bytes _ hc_4) ⟨hx, hb, hml, hown, ht⟩ (cwV 1 ht g_X5_71 rfl rfl rfl (by decide +kernel) ⟨Nat.le_of_ble_eq_true rfl, Nat.le_of_ble_eq_true rfl⟩) (va_recv hK hP (ci := 9) (q0 := 0) rfl rfl) hP hD hS hK hA [0, 1] [2, 3] rfl rfl rfl rfl (by decide) rfl hl.1 (Nat.le_of_ble_eq_true rfl) dX5_readNumber_17 ⟨Nat.zero_le _, Nat.zero_le _⟩ (fun r u H locs hq hP hD hS => ?_)
    cases hq
    have hP : va_P D classes (wl_X5_readNumber ad cs tape_size tape_bytes lr_size lr_at lr_fault lr_code) H := hP.sub [2, 3, 0, 1] rfl
    have hD : va_D A (wl_X5_readNumber ad cs tape_size tape_bytes lr_size lr_at lr_fault lr_code) := hD.sub [2, 3, 0, 1] rfl rfl
    refine lv_if_eq (tgt := 59) hx hb dX5_readNumber_20 (by decide) (fun c_5 => ?_) (fun c_5 => ?_)
    · have h := zk_t c_5 h
      exact L_X5_readNumber_59 C0 hK hA  ih4 x1 lr_size lr_at lr_code h H locs ls hP hD hS (lv_sub hl [0, 1] rfl)
    · have h := zk_f c_5 h
      refine lv_iload_n hx hb dX5_readNumber_23 rfl (lv_at hl 1 rfl) ?_
      refine lv_bipush (v := (10 : Int32)) hx hb dX5_readNumber_24 (by decide) ?_
      refine lv_imul hx hb dX5_readNumber_26 ?_
      refine lv_aload_n hx hb dX5_readNumber_27 rfl (lv_at hl 0 rfl) ?_
      refine va_get (D := D) (ci := 5) (v := .ref (ad 23)) (C := RX5) (T := TX5) (N := 5) hx hb ht iX5 hown hK hP 2 rfl rfl 0 (by decide) (ht _ kw_274) (fun _ h9 => h9) rfl dX5_readNumber_28 ?_
      refine lv_aload_n hx hb dX5_readNumber_31 rfl (lv_at hl 0 rfl) ?_
      refine va_get (D := D) (ci := 5) (v := .int lr_at) (C := RX5) (T := TX5) (N := 5) hx hb ht iX5 hown hK hP 2 rfl rfl 3 (by decide) (ht _ kw_277) (fun _ h9 => h9) rfl dX5_readNumber_32 ?_
      obtain ⟨r_6, u_7, hc_8, h⟩ := zk_o2 h
      refine zk_vi (post := (fun r u => (r, u) = (r_6, u_7))) (w1 := fun u => (wl_X9_byteAt ad cs tape_size tape_bytes)) (As := [.int lr_at]) (rest := [.int (x1 * (10 : Int32))]) (c_X9_byteAt l D cs ad  H.size lr_at tape_size tape_bytes _ hc_8) ⟨hx, hb, hml, hown, ht⟩ (cwV 1 ht g_X5_68 rfl rfl rfl (by decide +kernel) ⟨Nat.le_of_ble_eq_true rfl, Nat.le_of_ble_eq_true rfl⟩) (va_recv hK hP (ci := 9) (q0 := 0) rfl rfl) hP hD hS hK hA [0, 1] [2, 3] rfl rfl rfl rfl (by decide) rfl hl.1 (Nat.le_of_ble_eq_true rfl) dX5_readNumber_35 ⟨Nat.zero_le _, Nat.zero_le _⟩ (fun r u H locs hq hP hD hS => ?_)
      cases hq
      have hP : va_P D classes (wl_X5_readNumber ad cs tape_size tape_bytes lr_size lr_at lr_fault lr_code) H := hP.sub [2, 3, 0, 1] rfl
      have hD : va_D A (wl_X5_readNumber ad cs tape_size tape_bytes lr_size lr_at lr_fault lr_code) := hD.sub [2, 3, 0, 1] rfl rfl
      refine lv_iadd hx hb dX5_readNumber_38 ?_
      refine lv_bipush (v := (48 : Int32)) hx hb dX5_readNumber_39 (by decide) ?_
      refine lv_isub hx hb dX5_readNumber_41 ?_
      obtain ⟨v_9, ev_9, h⟩ := zk_lt h
      refine W.eq (g2 := F0 m 42 ls [.int v_9]) (by rw [ev_9]) ?_
      refine lv_istore_n (lv' := [(1, .int v_9), (0, .ref (ad 26)), (2, .int x2)]) hx hb dX5_readNumber_42 rfl hl (by decide) rfl (fun ls hl => ?_)
      refine lv_aload_n hx hb dX5_readNumber_43 rfl (lv_at hl 1 rfl) ?_
      refine lv_dup hx hb dX5_readNumber_44 rfl ?_
      refine va_get (D := D) (ci := 5) (v := .int lr_at) (C := RX5) (T := TX5) (N := 5) hx hb ht iX5 hown hK hP 2 rfl rfl 3 (by decide) (ht _ kw_277) (fun _ h9 => h9) rfl dX5_readNumber_45 ?_
      refine lv_iconst (v := (1 : Int32)) hx hb dX5_readNumber_48 (by decide) ?_
      refine lv_iadd hx hb dX5_readNumber_49 ?_
      obtain ⟨v_10, ev_10, h⟩ := zk_lt h
      refine W.eq (g2 := F0 m 50 ls [.int v_10, .ref (ad 26)]) (by rw [ev_10]) ?_
      refine va_put (D := D) (ci := 5) (v := .int v_10) (ty := .int) (C := RX5) (T := TX5) (N := 5) hx hb ht iX5 tyX5 tyX5_ok nmX5 hown hK hP hD hS 2 rfl rfl 3 (by decide) (ht _ kw_277) (fun _ h9 => h9) rfl (by decide +kernel) rfl rfl (Nat.le_of_ble_eq_true rfl) dX5_readNumber_50 (fun H locs hP hD hS => ?_)
      have hP : va_P D classes (wl_X5_readNumber ad cs tape_size tape_bytes lr_size v_10 lr_fault lr_code) H := hP
      have hD : va_D A (wl_X5_readNumber ad cs tape_size tape_bytes lr_size v_10 lr_fault lr_code) := hD
      obtain ⟨v_11, ev_11, h⟩ := zk_lt h
      refine lv_iinc (v := v_11) (lv' := [(2, .int v_11), (1, .int v_9), (0, .ref (ad 26))]) hx hb dX5_readNumber_53 hl (k := 2) rfl (by rw [ev_11]; rfl) (by decide) rfl (fun ls hl => ?_)
      refine lv_goto (tgt := 4) hx hb dX5_readNumber_56 (by decide) ?_
      exact ih4 v_9 v_11 lr_size v_10 lr_code h H locs ls hP hD hS (lv_sub hl [2, 1, 0] rfl)
set_option maxHeartbeats 4000000 in
set_option maxRecDepth 100000 in
theorem L_X5_readNumber_0 {p : Program} {l : Launch} {e : Env} {s : State} {m : MethodId} {args : Array Value} {below : List Frame} {meth : Method} {c : Code} {A : Nat → Prop} {D : va_G} {cs : Nat → ClassId} {ad : Nat → Nat} {tape_size : Int32} {tape_bytes : Nat → Int32} {lr_fault : Int32} {R : Int32 × Int32 × (Nat → Int32)} {g4 : Int32 → Int32 → Int32 → Int32 → (Nat → Int32) → (Option (Int32 × Int32 × (Nat → Int32)))} (C0 : zC p s m args meth c cX5_readNumber 3 none RX5 zW) (hK : va_K D classes (zT cs) s) (hA : ∀ q : Nat, s.heap.size ≤ q → A q) (ih4 : ∀ (x1 : Int32) (x2 : Int32) (lr_size : Int32) (lr_at : Int32) (lr_code : Nat → Int32) (h : g4 x1 x2 lr_size lr_at lr_code = some R) (H : Heap) (locs : List Loc) (ls : Array Slot) (hP : va_P D classes (wl_X5_readNumber ad cs tape_size tape_bytes lr_size lr_at lr_fault lr_code) H) (hD : va_D A (wl_X5_readNumber ad cs tape_size tape_bytes lr_size lr_at lr_fault lr_code)) (hS : va_S A s.heap H locs) (hl : lv_has ls 3 [(0, .ref (ad 26)), (1, .int x1), (2, .int x2)]), W p l e rm_X5_readNumber s m args below meth c H locs 0 0 (MQ below (Q_X5_readNumber D cs ad tape_size tape_bytes lr_fault A R) args s 0 0 A) (F0 m 4 ls [])) (lr_size : Int32) (lr_at : Int32) (lr_code : Nat → Int32) (h : B_X5_readNumber_0 g4 tape_size tape_bytes lr_fault lr_size lr_at lr_code = some R) (H : Heap) (locs : List Loc) (ls : Array Slot) (hP : va_P D classes (wl_X5_readNumber ad cs tape_size tape_bytes lr_size lr_at lr_fault lr_code) H) (hD : va_D A (wl_X5_readNumber ad cs tape_size tape_bytes lr_size lr_at lr_fault lr_code)) (hS : va_S A s.heap H locs) (hl : lv_has ls 3 [(0, .ref (ad 26))]) : W p l e rm_X5_readNumber s m args below meth c H locs 0 0 (MQ below (Q_X5_readNumber D cs ad tape_size tape_bytes lr_fault A R) args s 0 0 A) (F0 m 0 ls []) := by
  obtain ⟨hx, hb, hr, hml, hown, ht, hlocks⟩ := id C0
  refine lv_iconst (v := (0 : Int32)) hx hb dX5_readNumber_0 (by decide) ?_
  refine lv_istore_n (lv' := [(1, .int (0 : Int32)), (0, .ref (ad 26))]) hx hb dX5_readNumber_1 rfl hl (by decide) rfl (fun ls hl => ?_)
  refine lv_iconst (v := (0 : Int32)) hx hb dX5_readNumber_2 (by decide) ?_
  refine lv_istore_n (lv' := [(2, .int (0 : Int32)), (1, .int (0 : Int32)), (0, .ref (ad 26))]) hx hb dX5_readNumber_3 rfl hl (by decide) rfl (fun ls hl => ?_)
  exact ih4 (0 : Int32) (0 : Int32) lr_size lr_at lr_code h H locs ls hP hD hS (lv_sub hl [2, 1, 0] rfl)
theorem LG_X5_readNumber {p : Program} {l : Launch} {e : Env} {s : State} {m : MethodId} {args : Array Value} {below : List Frame} {meth : Method} {c : Code} {A : Nat → Prop} {D : va_G} {cs : Nat → ClassId} {ad : Nat → Nat} {tape_size : Int32} {tape_bytes : Nat → Int32} {lr_fault : Int32} {R : Int32 × Int32 × (Nat → Int32)} (C0 : zC p s m args meth c cX5_readNumber 3 none RX5 zW) (hK : va_K D classes (zT cs) s) (hA : ∀ q : Nat, s.heap.size ≤ q → A q) : ∀ n : Nat, (∀ (x1 : Int32) (x2 : Int32) (lr_size : Int32) (lr_at : Int32) (lr_code : Nat → Int32) (h : (G_X5_readNumber  tape_size tape_bytes lr_fault n) x1 x2 lr_size lr_at lr_code = some R) (H : Heap) (locs : List Loc) (ls : Array Slot) (hP : va_P D classes (wl_X5_readNumber ad cs tape_size tape_bytes lr_size lr_at lr_fault lr_code) H) (hD : va_D A (wl_X5_readNumber ad cs tape_size tape_bytes lr_size lr_at lr_fault lr_code)) (hS : va_S A s.heap H locs) (hl : lv_has ls 3 [(0, .ref (ad 26)), (1, .int x1), (2, .int x2)]), W p l e rm_X5_readNumber s m args below meth c H locs 0 0 (MQ below (Q_X5_readNumber D cs ad tape_size tape_bytes lr_fault A R) args s 0 0 A) (F0 m 4 ls [])) := by
  intro n
  induction n with
  | zero =>
    refine ?_ <;> (intros; rename_i h _ _ _ _ _ _ _; cases h)
  | succ n ih =>
    exact L_X5_readNumber_4 C0 hK hA  ih
set_option maxHeartbeats 4000000 in
set_option maxRecDepth 100000 in
theorem c_X5_readNumber (l : Launch) (D : va_G) (cs : Nat → ClassId) (ad : Nat → Nat) (sz : Nat) (n : Nat)  (tape_size : Int32) (tape_bytes : Nat → Int32) (lr_size : Int32) (lr_at : Int32) (lr_fault : Int32) (lr_code : Nat → Int32) (R : Int32 × Int32 × (Nat → Int32)) (h : f_X5_readNumber  n  tape_size tape_bytes lr_size lr_at lr_fault lr_code = some R) : Met l yX5_readNumber (z_X5_readNumber) rm_X5_readNumber (va_Pc [.ref (ad 26)] (zPre D cs (wl_X5_readNumber ad cs tape_size tape_bytes lr_size lr_at lr_fault lr_code) sz)) (Q_X5_readNumber D cs ad tape_size tape_bytes lr_fault (va_A (wl_X5_readNumber ad cs tape_size tape_bytes lr_size lr_at lr_fault lr_code) sz) R) 0 0 (va_A (wl_X5_readNumber ad cs tape_size tape_bytes lr_size lr_at lr_fault lr_code) sz) := by
  refine Met.ofW (cc := cX5_readNumber) (maxL := 3) (ret := none) (by decide) rfl ?_
  intro p e s m args below meth c s₁ B hml hv
  obtain ⟨rfl, hsz, hP, hK, hD0⟩ := hv
  subst hsz
  have hD := hD0.self (sz := s.heap.size)
  have C0 : zC p s m _ meth c cX5_readNumber 3 none RX5 zW := ⟨B.exec, B.bytes, B.returns, hml, findClass_of_methodNamed B.named, fun w hw => atoms_spec (ws := z_X5_readNumber) B.pre w (List.mem_cons_of_mem _ hw), B.notSynchronized⟩
  have hA : ∀ q : Nat, s.heap.size ≤ q → va_A (wl_X5_readNumber ad cs tape_size tape_bytes lr_size lr_at lr_fault lr_code) s.heap.size q := fun q h => Or.inr h
  have hl := lv_entry ([.ref (ad 26)]) (n := 3) (Nat.le_of_ble_eq_true rfl)
  rw [lg_entry_eq]
  generalize (lg_sl ([.ref (ad 26)]) ++ List.replicate (3 - (lg_sl ([.ref (ad 26)])).length) Slot.unset).toArray = ls at hl ⊢
  exact L_X5_readNumber_0 C0 hK hA  ((LG_X5_readNumber C0 hK hA  n))  lr_size lr_at lr_code h s.heap [] ls hP hD va_S.rf hl
