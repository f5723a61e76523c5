theorem kw_146 : Cond.fieldLink RX11 94 "AlreadyJudged$Court" "laws" "[LAlreadyJudged$Law;" ∈ zW := zwC (i := 72) zc_1 rfl rfl
theorem kw_279 : Cond.fieldLink RX11 234 "AlreadyJudged$LawReader" "fault" "I" ∈ zW := zwC (i := 205) zc_1 rfl rfl
theorem kw_537 : Cond.methodLink RX11 90 yX5_read ∈ zW := zwC (i := 223) zc_2 rfl rfl
theorem kw_538 : Cond.instanceMethod yX5_read ∈ zW := zwC (i := 224) zc_2 rfl rfl
theorem kw_539 : Cond.selects RX5 yX5_read yX5_read ∈ zW := zwC (i := 225) zc_2 rfl rfl
theorem kw_540 : Cond.code yX5_read cX5_read 2 (some (.object "AlreadyJudged$Law")) ∈ zW := zwC (i := 226) zc_2 rfl rfl
theorem kw_700 : Cond.fieldLink RX11 44 "AlreadyJudged" "lawReader" "LAlreadyJudged$LawReader;" ∈ zW := zwC (i := 146) zc_3 rfl rfl
theorem zh_cX11_law_0 : zck [27, 155, 0, 20, 27, 16, 10, 108, 7, 162, 0, 12, 27, 16, 10, 112, 16, 8, 161, 0, 5, 2] (zdu 0 cX11_law.data.toList) = true := by decide +kernel
theorem dX11_law_0 : decode cX11_law 0 = .ok (.iload_n 1, 1) := zo_27 zh_cX11_law_0 0 rfl
theorem dX11_law_1 : decode cX11_law 1 = .ok (.ifCond .lt 20, 3) := zo_p155 zh_cX11_law_0 1 20 rfl rfl
theorem dX11_law_4 : decode cX11_law 4 = .ok (.iload_n 1, 1) := zo_27 zh_cX11_law_0 4 rfl
theorem dX11_law_5 : decode cX11_law 5 = .ok (.bipush 10, 2) := zo_p16 zh_cX11_law_0 5 10 rfl rfl
theorem dX11_law_7 : decode cX11_law 7 = .ok (.idiv, 1) := zo_108 zh_cX11_law_0 7 rfl
theorem dX11_law_8 : decode cX11_law 8 = .ok (.iconst 4, 1) := zo_7 zh_cX11_law_0 8 rfl
theorem dX11_law_9 : decode cX11_law 9 = .ok (.if_icmp .ge 12, 3) := zo_p162 zh_cX11_law_0 9 12 rfl rfl
theorem dX11_law_12 : decode cX11_law 12 = .ok (.iload_n 1, 1) := zo_27 zh_cX11_law_0 12 rfl
theorem dX11_law_13 : decode cX11_law 13 = .ok (.bipush 10, 2) := zo_p16 zh_cX11_law_0 13 10 rfl rfl
theorem dX11_law_15 : decode cX11_law 15 = .ok (.irem, 1) := zo_112 zh_cX11_law_0 15 rfl
theorem dX11_law_16 : decode cX11_law 16 = .ok (.bipush 8, 2) := zo_p16 zh_cX11_law_0 16 8 rfl rfl
theorem dX11_law_18 : decode cX11_law 18 = .ok (.if_icmp .lt 5, 3) := zo_p161 zh_cX11_law_0 18 5 rfl rfl
theorem zh_cX11_law_1 : zck [5, 2, 172, 42, 180, 0, 44, 182, 0, 90, 77, 42, 180, 0, 28, 3, 181, 0, 98, 44, 199, 0] (zdu 20 cX11_law.data.toList) = true := by decide +kernel
theorem dX11_law_21 : decode cX11_law 21 = .ok (.iconst (-1), 1) := zo_2 zh_cX11_law_1 1 rfl
theorem dX11_law_22 : decode cX11_law 22 = .ok (.ireturn, 1) := zo_172 zh_cX11_law_1 2 rfl
theorem dX11_law_23 : decode cX11_law 23 = .ok (.aload_n 0, 1) := zo_42 zh_cX11_law_1 3 rfl
theorem dX11_law_24 : decode cX11_law 24 = .ok (.getfield 44, 3) := zo_180 zh_cX11_law_1 4 rfl
theorem dX11_law_27 : decode cX11_law 27 = .ok (.invokevirtual 90, 3) := zo_182 zh_cX11_law_1 7 rfl
theorem dX11_law_30 : decode cX11_law 30 = .ok (.astore_n 2, 1) := zo_77 zh_cX11_law_1 10 rfl
theorem dX11_law_31 : decode cX11_law 31 = .ok (.aload_n 0, 1) := zo_42 zh_cX11_law_1 11 rfl
theorem dX11_law_32 : decode cX11_law 32 = .ok (.getfield 28, 3) := zo_180 zh_cX11_law_1 12 rfl
theorem dX11_law_35 : decode cX11_law 35 = .ok (.iconst 0, 1) := zo_3 zh_cX11_law_1 15 rfl
theorem dX11_law_36 : decode cX11_law 36 = .ok (.putfield 98, 3) := zo_181 zh_cX11_law_1 16 rfl
theorem dX11_law_39 : decode cX11_law 39 = .ok (.aload_n 2, 1) := zo_44 zh_cX11_law_1 19 rfl
theorem zh_cX11_law_2 : zck [199, 0, 14, 16, 156, 42, 180, 0, 44, 180, 0, 234, 100, 172, 42, 180, 0, 10, 180, 0, 94, 27] (zdu 40 cX11_law.data.toList) = true := by decide +kernel
theorem dX11_law_40 : decode cX11_law 40 = .ok (.ifnonnull 14, 3) := zo_p199 zh_cX11_law_2 0 14 rfl rfl
theorem dX11_law_43 : decode cX11_law 43 = .ok (.bipush (-100), 2) := zo_n16 zh_cX11_law_2 3 99 rfl rfl
theorem dX11_law_45 : decode cX11_law 45 = .ok (.aload_n 0, 1) := zo_42 zh_cX11_law_2 5 rfl
theorem dX11_law_46 : decode cX11_law 46 = .ok (.getfield 44, 3) := zo_180 zh_cX11_law_2 6 rfl
theorem dX11_law_49 : decode cX11_law 49 = .ok (.getfield 234, 3) := zo_180 zh_cX11_law_2 9 rfl
theorem dX11_law_52 : decode cX11_law 52 = .ok (.isub, 1) := zo_100 zh_cX11_law_2 12 rfl
theorem dX11_law_53 : decode cX11_law 53 = .ok (.ireturn, 1) := zo_172 zh_cX11_law_2 13 rfl
theorem dX11_law_54 : decode cX11_law 54 = .ok (.aload_n 0, 1) := zo_42 zh_cX11_law_2 14 rfl
theorem dX11_law_55 : decode cX11_law 55 = .ok (.getfield 10, 3) := zo_180 zh_cX11_law_2 15 rfl
theorem dX11_law_58 : decode cX11_law 58 = .ok (.getfield 94, 3) := zo_180 zh_cX11_law_2 18 rfl
theorem zh_cX11_law_3 : zck [94, 27, 16, 10, 108, 16, 8, 104, 27, 16, 10, 112, 96, 44, 83, 4, 172] (zdu 60 cX11_law.data.toList) = true := by decide +kernel
theorem dX11_law_61 : decode cX11_law 61 = .ok (.iload_n 1, 1) := zo_27 zh_cX11_law_3 1 rfl
theorem dX11_law_62 : decode cX11_law 62 = .ok (.bipush 10, 2) := zo_p16 zh_cX11_law_3 2 10 rfl rfl
theorem dX11_law_64 : decode cX11_law 64 = .ok (.idiv, 1) := zo_108 zh_cX11_law_3 4 rfl
theorem dX11_law_65 : decode cX11_law 65 = .ok (.bipush 8, 2) := zo_p16 zh_cX11_law_3 5 8 rfl rfl
theorem dX11_law_67 : decode cX11_law 67 = .ok (.imul, 1) := zo_104 zh_cX11_law_3 7 rfl
theorem dX11_law_68 : decode cX11_law 68 = .ok (.iload_n 1, 1) := zo_27 zh_cX11_law_3 8 rfl
theorem dX11_law_69 : decode cX11_law 69 = .ok (.bipush 10, 2) := zo_p16 zh_cX11_law_3 9 10 rfl rfl
theorem dX11_law_71 : decode cX11_law 71 = .ok (.irem, 1) := zo_112 zh_cX11_law_3 11 rfl
theorem dX11_law_72 : decode cX11_law 72 = .ok (.iadd, 1) := zo_96 zh_cX11_law_3 12 rfl
theorem dX11_law_73 : decode cX11_law 73 = .ok (.aload_n 2, 1) := zo_44 zh_cX11_law_3 13 rfl
theorem zo_83 {c : ByteArray} {s : Nat} {K : List Nat} (h : zck K (zdu s c.data.toList) = true) (k : Nat) (hk : zt1 K k 83 = true) : decode c (s + k) = .ok (.aastore, 1) := zde ((zbd (zu1 (zh1 h hk))).trans rfl)
theorem dX11_law_74 : decode cX11_law 74 = .ok (.aastore, 1) := zo_83 zh_cX11_law_3 14 rfl
theorem dX11_law_75 : decode cX11_law 75 = .ok (.iconst 1, 1) := zo_4 zh_cX11_law_3 15 rfl
theorem dX11_law_76 : decode cX11_law 76 = .ok (.ireturn, 1) := zo_172 zh_cX11_law_3 16 rfl
abbrev wLw (ad : Nat → Nat) (cs : Nat → ClassId) (z : ZT) : va_W := [((ad 0), .inr (11, [.ref (ad 4), .ref (ad 15), .ref (ad 23), .ref (ad 25), .ref (ad 26), .ref (ad 28), .ref (ad 34), .ref (ad 39), .ref (ad 1), .ref (ad 2), .ref (ad 3)])), ((ad 4), .inr (2, [.ref (ad 5), .ref (ad 6), .ref (ad 7), .ref (ad 8), .ref (ad 9), .ref (ad 10), .ref (ad 11), .ref (ad 12), .ref (ad 13), .ref (ad 14), .int (z.1 0), .int (z.1 1), .int (z.1 2)])), ((ad 14), .inl (cs 6, 32, .inr (.inr (.inr (.inr (z.2.2.2.1 1)))))), ((ad 23), .inr (9, [.ref (ad 24), .int (z.1 6)])), ((ad 24), .inl (cs 0, 120, .inl (z.2.1 15))), ((ad 26), .inr (5, [.ref (ad 23), .ref (ad 27), .int (z.1 10), .int (z.1 11), .int (z.1 12)])), ((ad 27), .inl (cs 0, 121, .inl (z.2.1 16)))]
abbrev z_X11_law : List Cond := .code yX11_law cX11_law 3 (some .int) :: zW
abbrev rm_X11_law : Room := { frames := 303, cells := 2, slots := 122, locals := 6846 }
theorem g_law_read : GoodIn zW (wsV RX11 90 RX5 yX5_read z_X5_read) := zGV kw_537 kw_538 kw_539 kw_80 kw_540
set_option maxHeartbeats 4000000 in
set_option maxRecDepth 100000 in
theorem c_X11_lawB (l : Launch) (D : va_G) (cs : Nat → ClassId) (k : (Nat → Nat) × (Nat → Nat)) (sz : Nat) (ad : Nat → Nat) (z : ZT) (x1 : Int32) (hbad : (x1 < 0 ∨ 4 ≤ x1 / (10 : Int32) ∨ ¬ (x1 - x1 / (10 : Int32) * (10 : Int32) < 8))) : Met l yX11_law z_X11_law rm_X11_law (va_Pc [.ref (ad 0), .int x1] (zPreE k D cs (wLw ad cs z) sz)) (va_Qi (fun (r : Int32) (_ : Unit) => r = (-1 : Int32)) (fun (u : Unit) (t : State) => va_P D classes (wLw ad cs z) t.heap ∧ va_D (va_A (wLw ad cs z) sz) (wLw ad cs z)) (va_A (wLw ad cs z) sz)) 2 122 (va_A (wLw ad cs z) sz) := by
  refine Met.ofW (cc := cX11_law) (maxL := 3) (ret := (some .int)) (by decide) rfl ?_
  intro p e s m args below meth c s₁ B hml hv
  obtain ⟨rfl, ⟨⟨hsz, hP, hK, hD0⟩, hO⟩, hE⟩ := hv
  subst hsz
  have hD := hD0.self (sz := s.heap.size)
  have C0 : zC p s m _ meth c cX11_law 3 (some .int) RX11 zW := ⟨B.exec, B.bytes, B.returns, hml, findClass_of_methodNamed B.named, fun w hw => atoms_spec (ws := z_X11_law) B.pre w (List.mem_cons_of_mem _ hw), B.notSynchronized⟩
  obtain ⟨hx, hb, hr, hml, hown, ht, hlocks⟩ := id C0
  generalize hAe : va_A (wLw ad cs z) s.heap.size = A at hD hE ⊢
  have hA : ∀ q : Nat, s.heap.size ≤ q → A q := fun q h => by rw [← hAe]; exact Or.inr h
  have hS : va_S A s.heap s.heap [] := va_S.rf
  have hl := lv_entry ([.ref (ad 0), .int x1]) (n := 3) (Nat.le_of_ble_eq_true rfl)
  rw [lg_entry_eq]
  generalize (lg_sl ([.ref (ad 0), .int x1]) ++ List.replicate (3 - (lg_sl ([.ref (ad 0), .int x1])).length) Slot.unset).toArray = ls at hl ⊢
  obtain ⟨H, hH⟩ : ∃ H, H = s.heap := ⟨_, rfl⟩
  have hS : va_S A s.heap H [] := by rw [hH]; exact va_S.rf
  rw [← hH]
  have hP : va_P D classes (wLw ad cs z) H := by rw [hH]; exact hP
  clear hH
  have hl : lv_has ls 3 [(0, .ref (ad 0)), (1, .int x1)] := hl
  refine lv_iload_n hx hb dX11_law_0 rfl (lv_at hl 1 rfl) ?_
  refine lv_if_lt (tgt := 21) hx hb dX11_law_1 (by decide) (fun c1 => ?_) (fun c1 => ?_)
  · refine lv_iconst (v := (-1 : Int32)) hx hb dX11_law_21 (by decide) ?_
    refine W.widen (k := 2) (n := 122) (Nat.le_of_ble_eq_true rfl) (Nat.le_of_ble_eq_true rfl) ?_
    exact W.iret (v := (-1 : Int32)) hx hb hr (fun t ht2 hW => ⟨⟨(-1 : Int32), (), rfl, rfl, by rw [ht2]; exact hP, hD⟩, hS.F ht2⟩) hS.2.2 dX11_law_22 hlocks
  · refine lv_iload_n hx hb dX11_law_4 rfl (lv_at hl 1 rfl) ?_
    refine lv_bipush (v := (10 : Int32)) hx hb dX11_law_5 (by decide) ?_
    refine lv_idiv hx hb dX11_law_7 (by decide) ?_
    refine lv_iconst (v := (4 : Int32)) hx hb dX11_law_8 (by decide) ?_
    refine lv_icmp_ge (tgt := 21) hx hb dX11_law_9 (by decide) (fun c2 => ?_) (fun c2 => ?_)
    · refine lv_iconst (v := (-1 : Int32)) hx hb dX11_law_21 (by decide) ?_
      refine W.widen (k := 2) (n := 122) (Nat.le_of_ble_eq_true rfl) (Nat.le_of_ble_eq_true rfl) ?_
      exact W.iret (v := (-1 : Int32)) hx hb hr (fun t ht2 hW => ⟨⟨(-1 : Int32), (), rfl, rfl, by rw [ht2]; exact hP, hD⟩, hS.F ht2⟩) hS.2.2 dX11_law_22 hlocks
    · refine lv_iload_n hx hb dX11_law_12 rfl (lv_at hl 1 rfl) ?_
      refine lv_bipush (v := (10 : Int32)) hx hb dX11_law_13 (by decide) ?_
      refine lv_irem hx hb dX11_law_15 (by decide) ?_
      refine lv_bipush (v := (8 : Int32)) hx hb dX11_law_16 (by decide) ?_
      refine lv_icmp_lt (tgt := 23) hx hb dX11_law_18 (by decide) (fun c3 => ?_) (fun c3 => ?_)
      · exact absurd hbad (fun z => z.elim c1 (fun z => z.elim c2 (fun z => z c3)))
      · refine lv_iconst (v := (-1 : Int32)) hx hb dX11_law_21 (by decide) ?_
        refine W.widen (k := 2) (n := 122) (Nat.le_of_ble_eq_true rfl) (Nat.le_of_ble_eq_true rfl) ?_
        exact W.iret (v := (-1 : Int32)) hx hb hr (fun t ht2 hW => ⟨⟨(-1 : Int32), (), rfl, rfl, by rw [ht2]; exact hP, hD⟩, hS.F ht2⟩) hS.2.2 dX11_law_22 hlocks
set_option maxHeartbeats 4000000 in
set_option maxRecDepth 100000 in
theorem c_X11_lawF (l : Launch) (D : va_G) (cs : Nat → ClassId) (k : (Nat → Nat) × (Nat → Nat)) (sz : Nat) (ad : Nat → Nat) (z : ZT) (x1 : Int32) (s5 a5 f5 : Int32) (c5 : Nat → Int32) (h5 : f_X5_read 100000 (z.1 6) (z.2.1 15) (z.1 10) (z.1 11) (z.1 12) (z.2.1 16) = some (false, s5, a5, f5, c5)) (h1 : ¬ x1 < 0) (h2 : ¬ 4 ≤ x1 / (10 : Int32)) (h3 : x1 - x1 / (10 : Int32) * (10 : Int32) < 8) : Met l yX11_law z_X11_law rm_X11_law (va_Pc [.ref (ad 0), .int x1] (zPreE k D cs (wLw ad cs z) sz)) (va_Qi (fun (r : Int32) (_ : Unit) => r = (-100 : Int32) - f5) (fun (u : Unit) (t : State) => va_P D classes (wLw ad cs ((fun n => zc n 6 (0 : Int32) (zc n 10 s5 (zc n 11 a5 (zc n 12 f5 (z.1 n))))), (fun n => zc n 16 c5 (z.2.1 n)), z.2.2.1, z.2.2.2.1, z.2.2.2.2.1, z.2.2.2.2.2.1, z.2.2.2.2.2.2.1, z.2.2.2.2.2.2.2)) t.heap ∧ va_D (va_A (wLw ad cs z) sz) (wLw ad cs ((fun n => zc n 6 (0 : Int32) (zc n 10 s5 (zc n 11 a5 (zc n 12 f5 (z.1 n))))), (fun n => zc n 16 c5 (z.2.1 n)), z.2.2.1, z.2.2.2.1, z.2.2.2.2.1, z.2.2.2.2.2.1, z.2.2.2.2.2.2.1, z.2.2.2.2.2.2.2))) (va_A (wLw ad cs z) sz)) 2 122 (va_A (wLw ad cs z) sz) := by
  refine Met.ofW (cc := cX11_law) (maxL := 3) (ret := (some .int)) (by decide) rfl ?_
  intro p e s m args below meth c s₁ B hml hv
  obtain ⟨rfl, ⟨⟨hsz, hP, hK, hD0⟩, hO⟩, hE⟩ := hv
  subst hsz
  have hD := hD0.self (sz := s.heap.size)
  have C0 : zC p s m _ meth c cX11_law 3 (some .int) RX11 zW := ⟨B.exec, B.bytes, B.returns, hml, findClass_of_methodNamed B.named, fun w hw => atoms_spec (ws := z_X11_law) B.pre w (List.mem_cons_of_mem _ hw), B.notSynchronized⟩
  obtain ⟨hx, hb, hr, hml, hown, ht, hlocks⟩ := id C0
  generalize hAe : va_A (wLw ad cs z) s.heap.size = A at hD hE ⊢
  have hA : ∀ q : Nat, s.heap.size ≤ q → A q := fun q h => by rw [← hAe]; exact Or.inr h
  have hS : va_S A s.heap s.heap [] := va_S.rf
  have hl := lv_entry ([.ref (ad 0), .int x1]) (n := 3) (Nat.le_of_ble_eq_true rfl)
  rw [lg_entry_eq]
  generalize (lg_sl ([.ref (ad 0), .int x1]) ++ List.replicate (3 - (lg_sl ([.ref (ad 0), .int x1])).length) Slot.unset).toArray = ls at hl ⊢
  obtain ⟨H, hH⟩ : ∃ H, H = s.heap := ⟨_, rfl⟩
  have hS : va_S A s.heap H [] := by rw [hH]; exact va_S.rf
  rw [← hH]
  have hP : va_P D classes (wLw ad cs z) H := by rw [hH]; exact hP
  clear hH
  have hl : lv_has ls 3 [(0, .ref (ad 0)), (1, .int x1)] := hl
  refine lv_iload_n hx hb dX11_law_0 rfl (lv_at hl 1 rfl) ?_
  refine lv_if_lt (tgt := 21) hx hb dX11_law_1 (by decide) (fun cc => absurd cc h1) (fun cc => ?_)
  refine lv_iload_n hx hb dX11_law_4 rfl (lv_at hl 1 rfl) ?_
  refine lv_bipush (v := (10 : Int32)) hx hb dX11_law_5 (by decide) ?_
  refine lv_idiv hx hb dX11_law_7 (by decide) ?_
  refine lv_iconst (v := (4 : Int32)) hx hb dX11_law_8 (by decide) ?_
  refine lv_icmp_ge (tgt := 21) hx hb dX11_law_9 (by decide) (fun cc => absurd cc h2) (fun cc => ?_)
  refine lv_iload_n hx hb dX11_law_12 rfl (lv_at hl 1 rfl) ?_
  refine lv_bipush (v := (10 : Int32)) hx hb dX11_law_13 (by decide) ?_
  refine lv_irem hx hb dX11_law_15 (by decide) ?_
  refine lv_bipush (v := (8 : Int32)) hx hb dX11_law_16 (by decide) ?_
  refine lv_icmp_lt (tgt := 23) hx hb dX11_law_18 (by decide) (fun cc => ?_) (fun cc => absurd h3 cc)
  refine lv_aload_n hx hb dX11_law_23 rfl (lv_at hl 0 rfl) ?_
  refine va_get (D := D) (ci := 11) (v := .ref (ad 26)) (C := RX11) (T := TX11) (N := 11) hx hb ht iX11 hown hK hP 0 rfl rfl 4 (by decide) (ht _ kw_700) (fun _ h9 => h9) rfl dX11_law_24 ?_
  refine zk_vqE (post := (fun (r : Option Nat) (u : (Int32 × Int32 × Int32 × (Nat → Int32)) × Nat × Nat) => r = (if (false, s5, a5, f5, c5).1 = true then some u.2.1 else none) ∧ u.1 = (false, s5, a5, f5, c5).2)) (w1 := fun (u : (Int32 × Int32 × Int32 × (Nat → Int32)) × Nat × Nat) => (wl_X5_read ad cs (z.1 6) (z.2.1 15) u.1.1 u.1.2.1 u.1.2.2.1 u.1.2.2.2) ++ (if (false, s5, a5, f5, c5).1 = true then [(u.2.1, .inr (4, [.ref u.2.2])), (u.2.2, .inl (cs 0, u.1.1.toNatClampNeg, .inl (va_cpy u.1.2.2.2 (fun _ => 0) 0 0 u.1.1.toNatClampNeg)))] else [])) (As := []) (rest := []) hE hO (c_X5_read l D cs ad k H.size 100000 (z.1 6) (z.2.1 15) (z.1 10) (z.1 11) (z.1 12) (z.2.1 16) (false, s5, a5, f5, c5) h5) ⟨hx, hb, hml, hown, ht⟩ (cwV 0 ht g_law_read rfl rfl rfl (by decide +kernel) ⟨Nat.le_of_ble_eq_true rfl, Nat.le_of_ble_eq_true rfl⟩) (va_recv hK hP (ci := 5) (q0 := 5) rfl rfl) hP hD hS hK hA [3, 4, 5, 6] [0, 1, 2] rfl rfl rfl rfl (by decide) rfl hl.1 (Nat.le_of_ble_eq_true rfl) dX11_law_27 ⟨Nat.le_of_ble_eq_true rfl, Nat.le_of_ble_eq_true rfl⟩ (fun r u H locs hq hP hD hS => ?_)
  obtain ⟨u1, qL, qC⟩ := u
  obtain ⟨hq1, hq2⟩ := hq
  dsimp only at hq1 hq2 hP hD
  subst hq2
  subst hq1
  rw [if_neg (by decide)] at hP hD
  have hP : va_P D classes [((ad 0), .inr (11, [.ref (ad 4), .ref (ad 15), .ref (ad 23), .ref (ad 25), .ref (ad 26), .ref (ad 28), .ref (ad 34), .ref (ad 39), .ref (ad 1), .ref (ad 2), .ref (ad 3)])), ((ad 4), .inr (2, [.ref (ad 5), .ref (ad 6), .ref (ad 7), .ref (ad 8), .ref (ad 9), .ref (ad 10), .ref (ad 11), .ref (ad 12), .ref (ad 13), .ref (ad 14), .int (z.1 0), .int (z.1 1), .int (z.1 2)])), ((ad 14), .inl (cs 6, 32, .inr (.inr (.inr (.inr (z.2.2.2.1 1)))))), ((ad 23), .inr (9, [.ref (ad 24), .int (z.1 6)])), ((ad 24), .inl (cs 0, 120, .inl (z.2.1 15))), ((ad 26), .inr (5, [.ref (ad 23), .ref (ad 27), .int s5, .int a5, .int f5])), ((ad 27), .inl (cs 0, 121, .inl c5))] H := hP.sub [0, 1, 2, 3, 4, 5, 6] rfl
  have hD : va_D A [((ad 0), .inr (11, [.ref (ad 4), .ref (ad 15), .ref (ad 23), .ref (ad 25), .ref (ad 26), .ref (ad 28), .ref (ad 34), .ref (ad 39), .ref (ad 1), .ref (ad 2), .ref (ad 3)])), ((ad 4), .inr (2, [.ref (ad 5), .ref (ad 6), .ref (ad 7), .ref (ad 8), .ref (ad 9), .ref (ad 10), .ref (ad 11), .ref (ad 12), .ref (ad 13), .ref (ad 14), .int (z.1 0), .int (z.1 1), .int (z.1 2)])), ((ad 14), .inl (cs 6, 32, .inr (.inr (.inr (.inr (z.2.2.2.1 1)))))), ((ad 23), .inr (9, [.ref (ad 24), .int (z.1 6)])), ((ad 24), .inl (cs 0, 120, .inl (z.2.1 15))), ((ad 26), .inr (5, [.ref (ad 23), .ref (ad 27), .int s5, .int a5, .int f5])), ((ad 27), .inl (cs 0, 121, .inl c5))] := hD.sub [0, 1, 2, 3, 4, 5, 6] rfl rfl
  refine W.eq (g2 := F0 m 30 ls [.null]) rfl ?_
  refine lv_astore_nN (lv' := [(2, .null), (0, .ref (ad 0)), (1, .int x1)]) hx hb dX11_law_30 rfl hl (by decide) rfl (fun ls hl => ?_)
  refine lv_aload_n hx hb dX11_law_31 rfl (lv_at hl 1 rfl) ?_
  refine va_get (D := D) (ci := 11) (v := .ref (ad 23)) (C := RX11) (T := TX11) (N := 11) hx hb ht iX11 hown hK hP 0 rfl rfl 2 (by decide) (ht _ kw_698) (fun _ h9 => h9) rfl dX11_law_32 ?_
  refine lv_iconst (v := (0 : Int32)) hx hb dX11_law_35 (by decide) ?_
  refine va_put (D := D) (ci := 9) (v := .int (0 : Int32)) (ty := .int) (C := RX9) (T := TX9) (N := 2) hx hb ht iX9 tyX9 tyX9_ok nmX9 hown hK hP hD hS 3 rfl rfl 1 (by decide) (ht _ kw_236) (fun _ h9 => h9) rfl (by decide +kernel) rfl rfl (Nat.le_of_ble_eq_true rfl) dX11_law_36 (fun H locs hP hD hS => ?_)
  have hP : va_P D classes [((ad 0), .inr (11, [.ref (ad 4), .ref (ad 15), .ref (ad 23), .ref (ad 25), .ref (ad 26), .ref (ad 28), .ref (ad 34), .ref (ad 39), .ref (ad 1), .ref (ad 2), .ref (ad 3)])), ((ad 4), .inr (2, [.ref (ad 5), .ref (ad 6), .ref (ad 7), .ref (ad 8), .ref (ad 9), .ref (ad 10), .ref (ad 11), .ref (ad 12), .ref (ad 13), .ref (ad 14), .int (z.1 0), .int (z.1 1), .int (z.1 2)])), ((ad 14), .inl (cs 6, 32, .inr (.inr (.inr (.inr (z.2.2.2.1 1)))))), ((ad 23), .inr (9, [.ref (ad 24), .int (0 : Int32)])), ((ad 24), .inl (cs 0, 120, .inl (z.2.1 15))), ((ad 26), .inr (5, [.ref (ad 23), .ref (ad 27), .int s5, .int a5, .int f5])), ((ad 27), .inl (cs 0, 121, .inl c5))] H := hP
  have hD : va_D A [((ad 0), .inr (11, [.ref (ad 4), .ref (ad 15), .ref (ad 23), .ref (ad 25), .ref (ad 26), .ref (ad 28), .ref (ad 34), .ref (ad 39), .ref (ad 1), .ref (ad 2), .ref (ad 3)])), ((ad 4), .inr (2, [.ref (ad 5), .ref (ad 6), .ref (ad 7), .ref (ad 8), .ref (ad 9), .ref (ad 10), .ref (ad 11), .ref (ad 12), .ref (ad 13), .ref (ad 14), .int (z.1 0), .int (z.1 1), .int (z.1 2)])), ((ad 14), .inl (cs 6, 32, .inr (.inr (.inr (.inr (z.2.2.2.1 1)))))), ((ad 23), .inr (9, [.ref (ad 24), .int (0 : Int32)])), ((ad 24), .inl (cs 0, 120, .inl (z.2.1 15))), ((ad 26), .inr (5, [.ref (ad 23), .ref (ad 27), .int s5, .int a5, .int f5])), ((ad 27), .inl (cs 0, 121, .inl c5))] := hD
  refine lv_aload_nN hx hb dX11_law_39 rfl (lv_at hl 0 rfl) ?_
  refine lv_ifnonnullN hx hb dX11_law_40 ?_
  refine lv_bipush (v := (-100 : Int32)) hx hb dX11_law_43 (by decide) ?_
  refine lv_aload_n hx hb dX11_law_45 rfl (lv_at hl 1 rfl) ?_
  refine va_get (D := D) (ci := 11) (v := .ref (ad 26)) (C := RX11) (T := TX11) (N := 11) hx hb ht iX11 hown hK hP 0 rfl rfl 4 (by decide) (ht _ kw_700) (fun _ h9 => h9) rfl dX11_law_46 ?_
  refine va_get (D := D) (ci := 5) (v := .int f5) (C := RX5) (T := TX5) (N := 5) hx hb ht iX5 hown hK hP 5 rfl rfl 4 (by decide) (ht _ kw_279) (fun _ h9 => h9) rfl dX11_law_49 ?_
  refine lv_isub hx hb dX11_law_52 ?_
  refine W.widen (k := 2) (n := 122) (Nat.le_of_ble_eq_true rfl) (Nat.le_of_ble_eq_true rfl) ?_
  exact W.iret (v := (-100 : Int32) - f5) hx hb hr (fun t ht2 hW => ⟨⟨(-100 : Int32) - f5, (), rfl, rfl, by rw [ht2]; exact hP, hD⟩, hS.F ht2⟩) hS.2.2 dX11_law_53 hlocks
set_option maxHeartbeats 4000000 in
set_option maxRecDepth 100000 in
theorem c_X11_lawT (l : Launch) (D : va_G) (cs : Nat → ClassId) (k : (Nat → Nat) × (Nat → Nat)) (sz : Nat) (ad : Nat → Nat) (z : ZT) (x1 : Int32) (s5 a5 f5 : Int32) (c5 : Nat → Int32) (h5 : f_X5_read 100000 (z.1 6) (z.2.1 15) (z.1 10) (z.1 11) (z.1 12) (z.2.1 16) = some (true, s5, a5, f5, c5)) (h1 : ¬ x1 < 0) (h2 : ¬ 4 ≤ x1 / (10 : Int32)) (h3 : x1 - x1 / (10 : Int32) * (10 : Int32) < 8) (hix : vp_in (((x1 / (10 : Int32)) * (8 : Int32)) + (x1 - x1 / (10 : Int32) * (10 : Int32))) 32) : Met l yX11_law z_X11_law rm_X11_law (va_Pc [.ref (ad 0), .int x1] (zPreE k D cs (wLw ad cs z) sz)) (va_Qi (fun (r : Int32) (_ : Nat × Nat) => r = (1 : Int32)) (fun (u : Nat × Nat) (t : State) => va_P D classes (wLw ad cs ((fun n => zc n 6 (0 : Int32) (zc n 10 s5 (zc n 11 a5 (zc n 12 f5 (z.1 n))))), (fun n => zc n 16 c5 (z.2.1 n)), z.2.2.1, (fun n => zc n 1 (va_up (z.2.2.2.1 1) (((x1 / (10 : Int32)) * (8 : Int32)) + (x1 - x1 / (10 : Int32) * (10 : Int32))).toNatClampNeg (some u.1)) (z.2.2.2.1 n)), z.2.2.2.2.1, z.2.2.2.2.2.1, z.2.2.2.2.2.2.1, z.2.2.2.2.2.2.2) ++ [(u.1, .inr (4, [.ref u.2])), (u.2, .inl (cs 0, s5.toNatClampNeg, .inl (va_cpy c5 (fun _ => 0) 0 0 s5.toNatClampNeg)))]) t.heap ∧ va_D (va_A (wLw ad cs z) sz) (wLw ad cs ((fun n => zc n 6 (0 : Int32) (zc n 10 s5 (zc n 11 a5 (zc n 12 f5 (z.1 n))))), (fun n => zc n 16 c5 (z.2.1 n)), z.2.2.1, (fun n => zc n 1 (va_up (z.2.2.2.1 1) (((x1 / (10 : Int32)) * (8 : Int32)) + (x1 - x1 / (10 : Int32) * (10 : Int32))).toNatClampNeg (some u.1)) (z.2.2.2.1 n)), z.2.2.2.2.1, z.2.2.2.2.2.1, z.2.2.2.2.2.2.1, z.2.2.2.2.2.2.2) ++ [(u.1, .inr (4, [.ref u.2])), (u.2, .inl (cs 0, s5.toNatClampNeg, .inl (va_cpy c5 (fun _ => 0) 0 0 s5.toNatClampNeg)))])) (va_A (wLw ad cs z) sz)) 2 122 (va_A (wLw ad cs z) sz) := by
  refine Met.ofW (cc := cX11_law) (maxL := 3) (ret := (some .int)) (by decide) rfl ?_
  intro p e s m args below meth c s₁ B hml hv
  obtain ⟨rfl, ⟨⟨hsz, hP, hK, hD0⟩, hO⟩, hE⟩ := hv
  subst hsz
  have hD := hD0.self (sz := s.heap.size)
  have C0 : zC p s m _ meth c cX11_law 3 (some .int) RX11 zW := ⟨B.exec, B.bytes, B.returns, hml, findClass_of_methodNamed B.named, fun w hw => atoms_spec (ws := z_X11_law) B.pre w (List.mem_cons_of_mem _ hw), B.notSynchronized⟩
  obtain ⟨hx, hb, hr, hml, hown, ht, hlocks⟩ := id C0
  generalize hAe : va_A (wLw ad cs z) s.heap.size = A at hD hE ⊢
  have hA : ∀ q : Nat, s.heap.size ≤ q → A q := fun q h => by rw [← hAe]; exact Or.inr h
  have hS : va_S A s.heap s.heap [] := va_S.rf
  have hl := lv_entry ([.ref (ad 0), .int x1]) (n := 3) (Nat.le_of_ble_eq_true rfl)
  rw [lg_entry_eq]
  generalize (lg_sl ([.ref (ad 0), .int x1]) ++ List.replicate (3 - (lg_sl ([.ref (ad 0), .int x1])).length) Slot.unset).toArray = ls at hl ⊢
  obtain ⟨H, hH⟩ : ∃ H, H = s.heap := ⟨_, rfl⟩
  have hS : va_S A s.heap H [] := by rw [hH]; exact va_S.rf
  rw [← hH]
  have hP : va_P D classes (wLw ad cs z) H := by rw [hH]; exact hP
  clear hH
  have hl : lv_has ls 3 [(0, .ref (ad 0)), (1, .int x1)] := hl
  refine lv_iload_n hx hb dX11_law_0 rfl (lv_at hl 1 rfl) ?_
  refine lv_if_lt (tgt := 21) hx hb dX11_law_1 (by decide) (fun cc => absurd cc h1) (fun cc => ?_)
  refine lv_iload_n hx hb dX11_law_4 rfl (lv_at hl 1 rfl) ?_
  refine lv_bipush (v := (10 : Int32)) hx hb dX11_law_5 (by decide) ?_
  refine lv_idiv hx hb dX11_law_7 (by decide) ?_
  refine lv_iconst (v := (4 : Int32)) hx hb dX11_law_8 (by decide) ?_
  refine lv_icmp_ge (tgt := 21) hx hb dX11_law_9 (by decide) (fun cc => absurd cc h2) (fun cc => ?_)
  refine lv_iload_n hx hb dX11_law_12 rfl (lv_at hl 1 rfl) ?_
  refine lv_bipush (v := (10 : Int32)) hx hb dX11_law_13 (by decide) ?_
  refine lv_irem hx hb dX11_law_15 (by decide) ?_
  refine lv_bipush (v := (8 : Int32)) hx hb dX11_law_16 (by decide) ?_
  refine lv_icmp_lt (tgt := 23) hx hb dX11_law_18 (by decide) (fun cc => ?_) (fun cc => absurd h3 cc)
  refine lv_aload_n hx hb dX11_law_23 rfl (lv_at hl 0 rfl) ?_
  refine va_get (D := D) (ci := 11) (v := .ref (ad 26)) (C := RX11) (T := TX11) (N := 11) hx hb ht iX11 hown hK hP 0 rfl rfl 4 (by decide) (ht _ kw_700) (fun _ h9 => h9) rfl dX11_law_24 ?_
  refine zk_vqE (post := (fun (r : Option Nat) (u : (Int32 × Int32 × Int32 × (Nat → Int32)) × Nat × Nat) => r = (if (true, s5, a5, f5, c5).1 = true then some u.2.1 else none) ∧ u.1 = (true, s5, a5, f5, c5).2)) (w1 := fun (u : (Int32 × Int32 × Int32 × (Nat → Int32)) × Nat × Nat) => (wl_X5_read ad cs (z.1 6) (z.2.1 15) u.1.1 u.1.2.1 u.1.2.2.1 u.1.2.2.2) ++ (if (true, s5, a5, f5, c5).1 = true then [(u.2.1, .inr (4, [.ref u.2.2])), (u.2.2, .inl (cs 0, u.1.1.toNatClampNeg, .inl (va_cpy u.1.2.2.2 (fun _ => 0) 0 0 u.1.1.toNatClampNeg)))] else [])) (As := []) (rest := []) hE hO (c_X5_read l D cs ad k H.size 100000 (z.1 6) (z.2.1 15) (z.1 10) (z.1 11) (z.1 12) (z.2.1 16) (true, s5, a5, f5, c5) h5) ⟨hx, hb, hml, hown, ht⟩ (cwV 0 ht g_law_read rfl rfl rfl (by decide +kernel) ⟨Nat.le_of_ble_eq_true rfl, Nat.le_of_ble_eq_true rfl⟩) (va_recv hK hP (ci := 5) (q0 := 5) rfl rfl) hP hD hS hK hA [3, 4, 5, 6] [0, 1, 2] rfl rfl rfl rfl (by decide) rfl hl.1 (Nat.le_of_ble_eq_true rfl) dX11_law_27 ⟨Nat.le_of_ble_eq_true rfl, Nat.le_of_ble_eq_true rfl⟩ (fun r u H locs hq hP hD hS => ?_)
  obtain ⟨u1, qL, qC⟩ := u
  obtain ⟨hq1, hq2⟩ := hq
  dsimp only at hq1 hq2 hP hD
  subst hq2
  subst hq1
  rw [if_pos rfl] at hP hD
  have hP : va_P D classes [((ad 0), .inr (11, [.ref (ad 4), .ref (ad 15), .ref (ad 23), .ref (ad 25), .ref (ad 26), .ref (ad 28), .ref (ad 34), .ref (ad 39), .ref (ad 1), .ref (ad 2), .ref (ad 3)])), ((ad 4), .inr (2, [.ref (ad 5), .ref (ad 6), .ref (ad 7), .ref (ad 8), .ref (ad 9), .ref (ad 10), .ref (ad 11), .ref (ad 12), .ref (ad 13), .ref (ad 14), .int (z.1 0), .int (z.1 1), .int (z.1 2)])), ((ad 14), .inl (cs 6, 32, .inr (.inr (.inr (.inr (z.2.2.2.1 1)))))), ((ad 23), .inr (9, [.ref (ad 24), .int (z.1 6)])), ((ad 24), .inl (cs 0, 120, .inl (z.2.1 15))), ((ad 26), .inr (5, [.ref (ad 23), .ref (ad 27), .int s5, .int a5, .int f5])), ((ad 27), .inl (cs 0, 121, .inl c5)), (qL, .inr (4, [.ref qC])), (qC, .inl (cs 0, s5.toNatClampNeg, .inl (va_cpy c5 (fun _ => 0) 0 0 s5.toNatClampNeg)))] H := hP.sub [0, 1, 2, 3, 4, 5, 6, 7, 8] rfl
  have hD : va_D A [((ad 0), .inr (11, [.ref (ad 4), .ref (ad 15), .ref (ad 23), .ref (ad 25), .ref (ad 26), .ref (ad 28), .ref (ad 34), .ref (ad 39), .ref (ad 1), .ref (ad 2), .ref (ad 3)])), ((ad 4), .inr (2, [.ref (ad 5), .ref (ad 6), .ref (ad 7), .ref (ad 8), .ref (ad 9), .ref (ad 10), .ref (ad 11), .ref (ad 12), .ref (ad 13), .ref (ad 14), .int (z.1 0), .int (z.1 1), .int (z.1 2)])), ((ad 14), .inl (cs 6, 32, .inr (.inr (.inr (.inr (z.2.2.2.1 1)))))), ((ad 23), .inr (9, [.ref (ad 24), .int (z.1 6)])), ((ad 24), .inl (cs 0, 120, .inl (z.2.1 15))), ((ad 26), .inr (5, [.ref (ad 23), .ref (ad 27), .int s5, .int a5, .int f5])), ((ad 27), .inl (cs 0, 121, .inl c5)), (qL, .inr (4, [.ref qC])), (qC, .inl (cs 0, s5.toNatClampNeg, .inl (va_cpy c5 (fun _ => 0) 0 0 s5.toNatClampNeg)))] := hD.sub [0, 1, 2, 3, 4, 5, 6, 7, 8] rfl rfl
  refine W.eq (g2 := F0 m 30 ls [.ref qL]) rfl ?_
  refine lv_astore_n (lv' := [(2, .ref qL), (0, .ref (ad 0)), (1, .int x1)]) hx hb dX11_law_30 rfl hl (by decide) rfl (fun ls hl => ?_)
  refine lv_aload_n hx hb dX11_law_31 rfl (lv_at hl 1 rfl) ?_
  refine va_get (D := D) (ci := 11) (v := .ref (ad 23)) (C := RX11) (T := TX11) (N := 11) hx hb ht iX11 hown hK hP 0 rfl rfl 2 (by decide) (ht _ kw_698) (fun _ h9 => h9) rfl dX11_law_32 ?_
  refine lv_iconst (v := (0 : Int32)) hx hb dX11_law_35 (by decide) ?_
  refine va_put (D := D) (ci := 9) (v := .int (0 : Int32)) (ty := .int) (C := RX9) (T := TX9) (N := 2) hx hb ht iX9 tyX9 tyX9_ok nmX9 hown hK hP hD hS 3 rfl rfl 1 (by decide) (ht _ kw_236) (fun _ h9 => h9) rfl (by decide +kernel) rfl rfl (Nat.le_of_ble_eq_true rfl) dX11_law_36 (fun H locs hP hD hS => ?_)
  have hP : va_P D classes [((ad 0), .inr (11, [.ref (ad 4), .ref (ad 15), .ref (ad 23), .ref (ad 25), .ref (ad 26), .ref (ad 28), .ref (ad 34), .ref (ad 39), .ref (ad 1), .ref (ad 2), .ref (ad 3)])), ((ad 4), .inr (2, [.ref (ad 5), .ref (ad 6), .ref (ad 7), .ref (ad 8), .ref (ad 9), .ref (ad 10), .ref (ad 11), .ref (ad 12), .ref (ad 13), .ref (ad 14), .int (z.1 0), .int (z.1 1), .int (z.1 2)])), ((ad 14), .inl (cs 6, 32, .inr (.inr (.inr (.inr (z.2.2.2.1 1)))))), ((ad 23), .inr (9, [.ref (ad 24), .int (0 : Int32)])), ((ad 24), .inl (cs 0, 120, .inl (z.2.1 15))), ((ad 26), .inr (5, [.ref (ad 23), .ref (ad 27), .int s5, .int a5, .int f5])), ((ad 27), .inl (cs 0, 121, .inl c5)), (qL, .inr (4, [.ref qC])), (qC, .inl (cs 0, s5.toNatClampNeg, .inl (va_cpy c5 (fun _ => 0) 0 0 s5.toNatClampNeg)))] H := hP
  have hD : va_D A [((ad 0), .inr (11, [.ref (ad 4), .ref (ad 15), .ref (ad 23), .ref (ad 25), .ref (ad 26), .ref (ad 28), .ref (ad 34), .ref (ad 39), .ref (ad 1), .ref (ad 2), .ref (ad 3)])), ((ad 4), .inr (2, [.ref (ad 5), .ref (ad 6), .ref (ad 7), .ref (ad 8), .ref (ad 9), .ref (ad 10), .ref (ad 11), .ref (ad 12), .ref (ad 13), .ref (ad 14), .int (z.1 0), .int (z.1 1), .int (z.1 2)])), ((ad 14), .inl (cs 6, 32, .inr (.inr (.inr (.inr (z.2.2.2.1 1)))))), ((ad 23), .inr (9, [.ref (ad 24), .int (0 : Int32)])), ((ad 24), .inl (cs 0, 120, .inl (z.2.1 15))), ((ad 26), .inr (5, [.ref (ad 23), .ref (ad 27), .int s5, .int a5, .int f5])), ((ad 27), .inl (cs 0, 121, .inl c5)), (qL, .inr (4, [.ref qC])), (qC, .inl (cs 0, s5.toNatClampNeg, .inl (va_cpy c5 (fun _ => 0) 0 0 s5.toNatClampNeg)))] := hD
  refine lv_aload_n hx hb dX11_law_39 rfl (lv_at hl 0 rfl) ?_
  refine lv_ifnonnull (tgt := 54) hx hb dX11_law_40 (by decide) ?_
  refine lv_aload_n hx hb dX11_law_54 rfl (lv_at hl 1 rfl) ?_
  refine va_get (D := D) (ci := 11) (v := .ref (ad 4)) (C := RX11) (T := TX11) (N := 11) hx hb ht iX11 hown hK hP 0 rfl rfl 0 (by decide) (ht _ kw_696) (fun _ h9 => h9) rfl dX11_law_55 ?_
  refine va_get (D := D) (ci := 2) (v := .ref (ad 14)) (C := RX2) (T := TX2) (N := 13) hx hb ht iX2 hown hK hP 1 rfl rfl 9 (by decide) (ht _ kw_146) (fun _ h9 => h9) rfl dX11_law_58 ?_
  refine lv_iload_n hx hb dX11_law_61 rfl (lv_at hl 2 rfl) ?_
  refine lv_bipush (v := (10 : Int32)) hx hb dX11_law_62 (by decide) ?_
  refine lv_idiv hx hb dX11_law_64 (by decide) ?_
  refine lv_bipush (v := (8 : Int32)) hx hb dX11_law_65 (by decide) ?_
  refine lv_imul hx hb dX11_law_67 ?_
  refine lv_iload_n hx hb dX11_law_68 rfl (lv_at hl 2 rfl) ?_
  refine lv_bipush (v := (10 : Int32)) hx hb dX11_law_69 (by decide) ?_
  refine lv_irem hx hb dX11_law_71 (by decide) ?_
  refine lv_iadd hx hb dX11_law_72 ?_
  refine lv_aload_n hx hb dX11_law_73 rfl (lv_at hl 0 rfl) ?_
  refine va_astq hx hb hK hP hD hS 2 6 7 4 rfl rfl rfl rfl hix dX11_law_74 (fun H locs hP hD hS => ?_)
  have hP : va_P D classes [((ad 0), .inr (11, [.ref (ad 4), .ref (ad 15), .ref (ad 23), .ref (ad 25), .ref (ad 26), .ref (ad 28), .ref (ad 34), .ref (ad 39), .ref (ad 1), .ref (ad 2), .ref (ad 3)])), ((ad 4), .inr (2, [.ref (ad 5), .ref (ad 6), .ref (ad 7), .ref (ad 8), .ref (ad 9), .ref (ad 10), .ref (ad 11), .ref (ad 12), .ref (ad 13), .ref (ad 14), .int (z.1 0), .int (z.1 1), .int (z.1 2)])), ((ad 14), .inl (cs 6, 32, .inr (.inr (.inr (.inr (va_up (z.2.2.2.1 1) (((x1 / (10 : Int32)) * (8 : Int32)) + (x1 - x1 / (10 : Int32) * (10 : Int32))).toNatClampNeg (some qL))))))), ((ad 23), .inr (9, [.ref (ad 24), .int (0 : Int32)])), ((ad 24), .inl (cs 0, 120, .inl (z.2.1 15))), ((ad 26), .inr (5, [.ref (ad 23), .ref (ad 27), .int s5, .int a5, .int f5])), ((ad 27), .inl (cs 0, 121, .inl c5)), (qL, .inr (4, [.ref qC])), (qC, .inl (cs 0, s5.toNatClampNeg, .inl (va_cpy c5 (fun _ => 0) 0 0 s5.toNatClampNeg)))] H := hP
  have hD : va_D A [((ad 0), .inr (11, [.ref (ad 4), .ref (ad 15), .ref (ad 23), .ref (ad 25), .ref (ad 26), .ref (ad 28), .ref (ad 34), .ref (ad 39), .ref (ad 1), .ref (ad 2), .ref (ad 3)])), ((ad 4), .inr (2, [.ref (ad 5), .ref (ad 6), .ref (ad 7), .ref (ad 8), .ref (ad 9), .ref (ad 10), .ref (ad 11), .ref (ad 12), .ref (ad 13), .ref (ad 14), .int (z.1 0), .int (z.1 1), .int (z.1 2)])), ((ad 14), .inl (cs 6, 32, .inr (.inr (.inr (.inr (va_up (z.2.2.2.1 1) (((x1 / (10 : Int32)) * (8 : Int32)) + (x1 - x1 / (10 : Int32) * (10 : Int32))).toNatClampNeg (some qL))))))), ((ad 23), .inr (9, [.ref (ad 24), .int (0 : Int32)])), ((ad 24), .inl (cs 0, 120, .inl (z.2.1 15))), ((ad 26), .inr (5, [.ref (ad 23), .ref (ad 27), .int s5, .int a5, .int f5])), ((ad 27), .inl (cs 0, 121, .inl c5)), (qL, .inr (4, [.ref qC])), (qC, .inl (cs 0, s5.toNatClampNeg, .inl (va_cpy c5 (fun _ => 0) 0 0 s5.toNatClampNeg)))] := hD
  refine lv_iconst (v := (1 : Int32)) hx hb dX11_law_75 (by decide) ?_
  refine W.widen (k := 2) (n := 122) (Nat.le_of_ble_eq_true rfl) (Nat.le_of_ble_eq_true rfl) ?_
  exact W.iret (v := (1 : Int32)) hx hb hr (fun t ht2 hW => ⟨⟨(1 : Int32), (qL, qC), rfl, rfl, by rw [ht2]; exact hP, hD⟩, hS.F ht2⟩) hS.2.2 dX11_law_76 hlocks
