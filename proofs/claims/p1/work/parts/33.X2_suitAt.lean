theorem kw_154 : Cond.fieldLink RX2 59 "AlreadyJudged$Court" "suitCount" "I" ∈ zW := zwI (i := 154) (by decide +kernel) (by decide +kernel)
theorem dX2_suitAt_0 : decode cX2_suitAt 0 = .ok (.iload_n 1, 1) := by decide +kernel
theorem dX2_suitAt_1 : decode cX2_suitAt 1 = .ok (.ifCond .lt 20, 3) := by decide +kernel
theorem dX2_suitAt_4 : decode cX2_suitAt 4 = .ok (.iload_n 1, 1) := by decide +kernel
theorem dX2_suitAt_5 : decode cX2_suitAt 5 = .ok (.aload_n 0, 1) := by decide +kernel
theorem dX2_suitAt_6 : decode cX2_suitAt 6 = .ok (.getfield 59, 3) := by decide +kernel
theorem dX2_suitAt_9 : decode cX2_suitAt 9 = .ok (.if_icmp .ge 12, 3) := by decide +kernel
theorem dX2_suitAt_12 : decode cX2_suitAt 12 = .ok (.aload_n 0, 1) := by decide +kernel
theorem dX2_suitAt_13 : decode cX2_suitAt 13 = .ok (.getfield 38, 3) := by decide +kernel
theorem dX2_suitAt_16 : decode cX2_suitAt 16 = .ok (.iload_n 1, 1) := by decide +kernel
theorem dX2_suitAt_21 : decode cX2_suitAt 21 = .ok (.aconst_null, 1) := by decide +kernel
theorem dX2_suitAt_22 : decode cX2_suitAt 22 = .ok (.areturn, 1) := by decide +kernel
abbrev z_X2_suitAt : List Cond := .code yX2_suitAt cX2_suitAt 2 (some (.object "AlreadyJudged$Suit")) :: zW
abbrev wl_X2_suitAt (ad : Nat → Nat) (cs : Nat → ClassId)  (court_shoeCount : Int32) (court_claimCount : Int32) (court_suitCount : Int32) : va_W := [((ad 4), .inr (2, [.ref (ad 5), .ref (ad 6), .ref (ad 7), .ref (ad 8), .ref (ad 9), .ref (ad 10), .ref (ad 11), .ref (ad 12), .ref (ad 13), .ref (ad 14), .int court_shoeCount, .int court_claimCount, .int court_suitCount]))]
def Q_X2_suitAt (D : va_G) (cs : Nat → ClassId) (ad : Nat → Nat)  (court_shoeCount : Int32) (court_claimCount : Int32) (court_suitCount : Int32) (A : Nat → Prop) (R : Bool × Unit) : Array Value → State → Outcome → State → Prop :=
  va_Qq (fun (r : Option Nat) (u : Unit) => r = (if R.1 = true then some 0 else none) ∧ u = R.2) (fun (u : Unit) (t : State) => va_P D classes (wl_X2_suitAt ad cs court_shoeCount court_claimCount court_suitCount) t.heap ∧ va_D A (wl_X2_suitAt ad cs court_shoeCount court_claimCount court_suitCount)) A
abbrev rm_X2_suitAt : Room := { frames := 0, cells := 0, slots := 0, locals := 0 }
def B_X2_suitAt_0    (court_shoeCount : Int32) (court_claimCount : Int32) (court_suitCount : Int32) (x1 : Int32) : Option (Bool × Unit) :=
  (if x1 < 0 then (some (false, ())) else (if court_suitCount ≤ x1 then (some (false, ())) else none))
def f_X2_suitAt   (x1 : Int32) (court_shoeCount : Int32) (court_claimCount : Int32) (court_suitCount : Int32) : Option (Bool × Unit) := B_X2_suitAt_0   court_shoeCount court_claimCount court_suitCount x1 
set_option maxHeartbeats 4000000 in
set_option maxRecDepth 100000 in
theorem L_X2_suitAt_0 {p : Program} {l : Launch} {e : Env} {s : State} {m : MethodId} {args : Array Value} {below : List Frame} {meth : Method} {c : Code} {A : Nat → Prop} {D : va_G} {cs : Nat → ClassId} {ad : Nat → Nat} {court_shoeCount : Int32} {court_claimCount : Int32} {court_suitCount : Int32} {R : Bool × Unit} (C0 : zC p s m args meth c cX2_suitAt 2 (some (.object "AlreadyJudged$Suit")) RX2 zW) (hK : va_K D classes (zT cs) s) (hA : ∀ q : Nat, s.heap.size ≤ q → A q) (x1 : Int32) (h : B_X2_suitAt_0 court_shoeCount court_claimCount court_suitCount x1 = some R) (H : Heap) (locs : List Loc) (ls : Array Slot) (hP : va_P D classes (wl_X2_suitAt ad cs court_shoeCount court_claimCount court_suitCount) H) (hD : va_D A (wl_X2_suitAt ad cs court_shoeCount court_claimCount court_suitCount)) (hS : va_S A s.heap H locs) (hl : lv_has ls 2 [(0, .ref (ad 4)), (1, .int x1)]) : W p l e rm_X2_suitAt s m args below meth c H locs 0 0 (MQ below (Q_X2_suitAt D cs ad court_shoeCount court_claimCount court_suitCount A R) args s 0 0 A) (F0 m 0 ls []) := by
  obtain ⟨hx, hb, hr, hml, hown, ht, hlocks⟩ := id C0
  refine lv_iload_n hx hb dX2_suitAt_0 rfl (lv_at hl 1 rfl) ?_
  refine lv_if_lt (tgt := 21) hx hb dX2_suitAt_1 (by decide) (fun c_1 => ?_) (fun c_1 => ?_)
  · have h := zk_t c_1 h
    refine lv_null hx hb dX2_suitAt_21 ?_
    exact W.aret (v := va_rf none) hx hb hr (Or.inl ⟨_, rfl⟩) (Or.inl rfl) (fun t ht2 hW => ⟨⟨none, (), rfl, ⟨by rw [← Option.some.inj h]; rfl, by rw [← Option.some.inj h]⟩, by rw [ht2]; exact hP, hD⟩, hS.F ht2⟩) hS.2.2 dX2_suitAt_22 hlocks
  · have h := zk_f c_1 h
    refine lv_iload_n hx hb dX2_suitAt_4 rfl (lv_at hl 1 rfl) ?_
    refine lv_aload_n hx hb dX2_suitAt_5 rfl (lv_at hl 0 rfl) ?_
    refine va_get (D := D) (ci := 2) (v := .int court_suitCount) (C := RX2) (T := TX2) (N := 13) hx hb ht iX2 hown hK hP 0 rfl rfl 12 (by decide) (ht _ kw_154) (fun _ h9 => h9) rfl dX2_suitAt_6 ?_
    refine lv_icmp_ge (tgt := 21) hx hb dX2_suitAt_9 (by decide) (fun c_2 => ?_) (fun c_2 => ?_)
    · have h := zk_t c_2 h
      refine lv_null hx hb dX2_suitAt_21 ?_
      exact W.aret (v := va_rf none) hx hb hr (Or.inl ⟨_, rfl⟩) (Or.inl rfl) (fun t ht2 hW => ⟨⟨none, (), rfl, ⟨by rw [← Option.some.inj h]; rfl, by rw [← Option.some.inj h]⟩, by rw [ht2]; exact hP, hD⟩, hS.F ht2⟩) hS.2.2 dX2_suitAt_22 hlocks
    · have h := zk_f c_2 h
      refine lv_aload_n hx hb dX2_suitAt_12 rfl (lv_at hl 0 rfl) ?_
      refine va_get (D := D) (ci := 2) (v := .ref (ad 13)) (C := RX2) (T := TX2) (N := 13) hx hb ht iX2 hown hK hP 0 rfl rfl 8 (by decide) (ht _ kw_143) (fun _ h9 => h9) rfl dX2_suitAt_13 ?_
      refine lv_iload_n hx hb dX2_suitAt_16 rfl (lv_at hl 1 rfl) ?_
      cases h
set_option maxHeartbeats 4000000 in
set_option maxRecDepth 100000 in
theorem c_X2_suitAt (l : Launch) (D : va_G) (cs : Nat → ClassId) (ad : Nat → Nat) (sz : Nat) (x1 : Int32) (court_shoeCount : Int32) (court_claimCount : Int32) (court_suitCount : Int32) (R : Bool × Unit) (h : f_X2_suitAt   x1 court_shoeCount court_claimCount court_suitCount = some R) : Met l yX2_suitAt (z_X2_suitAt) rm_X2_suitAt (va_Pc [.ref (ad 4), .int x1] (zPre D cs (wl_X2_suitAt ad cs court_shoeCount court_claimCount court_suitCount) sz)) (Q_X2_suitAt D cs ad court_shoeCount court_claimCount court_suitCount (va_A (wl_X2_suitAt ad cs court_shoeCount court_claimCount court_suitCount) sz) R) 0 0 (va_A (wl_X2_suitAt ad cs court_shoeCount court_claimCount court_suitCount) sz) := by
  refine Met.ofW (cc := cX2_suitAt) (maxL := 2) (ret := (some (.object "AlreadyJudged$Suit"))) (by decide) rfl ?_
  intro p e s m args below meth c s₁ B hml hv
  obtain ⟨rfl, hsz, hP, hK, hD0⟩ := hv
  subst hsz
  have hD := hD0.self (sz := s.heap.size)
  have C0 : zC p s m _ meth c cX2_suitAt 2 (some (.object "AlreadyJudged$Suit")) RX2 zW := ⟨B.exec, B.bytes, B.returns, hml, findClass_of_methodNamed B.named, fun w hw => atoms_spec (ws := z_X2_suitAt) B.pre w (List.mem_cons_of_mem _ hw), B.notSynchronized⟩
  have hA : ∀ q : Nat, s.heap.size ≤ q → va_A (wl_X2_suitAt ad cs court_shoeCount court_claimCount court_suitCount) s.heap.size q := fun q h => Or.inr h
  have hl := lv_entry ([.ref (ad 4), .int x1]) (n := 2) (Nat.le_of_ble_eq_true rfl)
  rw [lg_entry_eq]
  generalize (lg_sl ([.ref (ad 4), .int x1]) ++ List.replicate (2 - (lg_sl ([.ref (ad 4), .int x1])).length) Slot.unset).toArray = ls at hl ⊢
  exact L_X2_suitAt_0 C0 hK hA   x1  h s.heap [] ls hP hD va_S.rf hl
theorem kw_337 : Cond.fieldLink RX7 19 "AlreadyJudged$Suit" "askedCount" "I" ∈ zW := zwI (i := 337) (by decide +kernel) (by decide +kernel)
theorem kw_342 : Cond.fieldLink RX7 22 "AlreadyJudged$Suit" "askedBits" "I" ∈ zW := zwI (i := 342) (by decide +kernel) (by decide +kernel)
theorem dX7_ask_0 : decode cX7_ask 0 = .ok (.aload_n 0, 1) := by decide +kernel
theorem dX7_ask_1 : decode cX7_ask 1 = .ok (.getfield 19, 3) := by decide +kernel
theorem dX7_ask_4 : decode cX7_ask 4 = .ok (.bipush 32, 2) := by decide +kernel
theorem dX7_ask_6 : decode cX7_ask 6 = .ok (.if_icmp .ge 35, 3) := by decide +kernel
theorem dX7_ask_9 : decode cX7_ask 9 = .ok (.aload_n 0, 1) := by decide +kernel
theorem dX7_ask_10 : decode cX7_ask 10 = .ok (.getfield 15, 3) := by decide +kernel
theorem dX7_ask_13 : decode cX7_ask 13 = .ok (.aload_n 0, 1) := by decide +kernel
theorem dX7_ask_14 : decode cX7_ask 14 = .ok (.getfield 19, 3) := by decide +kernel
theorem dX7_ask_17 : decode cX7_ask 17 = .ok (.iload_n 1, 1) := by decide +kernel
theorem dX7_ask_18 : decode cX7_ask 18 = .ok (.iastore, 1) := by decide +kernel
theorem dX7_ask_19 : decode cX7_ask 19 = .ok (.aload_n 0, 1) := by decide +kernel
theorem dX7_ask_20 : decode cX7_ask 20 = .ok (.dup, 1) := by decide +kernel
theorem dX7_ask_21 : decode cX7_ask 21 = .ok (.getfield 19, 3) := by decide +kernel
theorem dX7_ask_24 : decode cX7_ask 24 = .ok (.iconst 1, 1) := by decide +kernel
theorem dX7_ask_25 : decode cX7_ask 25 = .ok (.iadd, 1) := by decide +kernel
theorem dX7_ask_26 : decode cX7_ask 26 = .ok (.putfield 19, 3) := by decide +kernel
theorem dX7_ask_29 : decode cX7_ask 29 = .ok (.aload_n 0, 1) := by decide +kernel
theorem dX7_ask_30 : decode cX7_ask 30 = .ok (.dup, 1) := by decide +kernel
theorem dX7_ask_31 : decode cX7_ask 31 = .ok (.getfield 22, 3) := by decide +kernel
theorem dX7_ask_34 : decode cX7_ask 34 = .ok (.iconst 1, 1) := by decide +kernel
theorem dX7_ask_35 : decode cX7_ask 35 = .ok (.iload_n 1, 1) := by decide +kernel
theorem dX7_ask_36 : decode cX7_ask 36 = .ok (.ishl, 1) := by decide +kernel
theorem dX7_ask_37 : decode cX7_ask 37 = .ok (.ior, 1) := by decide +kernel
theorem dX7_ask_38 : decode cX7_ask 38 = .ok (.putfield 22, 3) := by decide +kernel
theorem dX7_ask_41 : decode cX7_ask 41 = .ok (.return_, 1) := by decide +kernel
abbrev z_X7_ask : List Cond := .code yX7_ask cX7_ask 2 none :: zW
abbrev wl_X7_ask (ad : Nat → Nat) (cs : Nat → ClassId) (h_su : Nat) (h_su_asked : Nat) (su_who : Int32) (su_against : Int32) (su_kind : Int32) (su_won : Int32) (su_day : Int32) (su_land : Int32) (su_undoneFrom : Int32) (su_askedCount : Int32) (su_askedBits : Int32) (su_first : Int32) (su_foundSo : Int32) (su_foundNot : Int32) (su_fought : Int32) (su_needed : Int32) (su_asked : Nat → Int32) : va_W := [(h_su, .inr (7, [.int su_who, .int su_against, .int su_kind, .int su_won, .int su_day, .int su_land, .int su_undoneFrom, .ref h_su_asked, .int su_askedCount, .int su_askedBits, .int su_first, .int su_foundSo, .int su_foundNot, .int su_fought, .int su_needed])), (h_su_asked, .inl (cs 0, 32, .inl su_asked))]
def Q_X7_ask (D : va_G) (cs : Nat → ClassId) (ad : Nat → Nat) (h_su : Nat) (h_su_asked : Nat) (su_who : Int32) (su_against : Int32) (su_kind : Int32) (su_won : Int32) (su_day : Int32) (su_land : Int32) (su_undoneFrom : Int32) (su_first : Int32) (su_foundSo : Int32) (su_foundNot : Int32) (su_fought : Int32) (su_needed : Int32) (A : Nat → Prop) (R : Int32 × Int32 × (Nat → Int32)) : Array Value → State → Outcome → State → Prop :=
  va_Qv (fun u : Int32 × Int32 × (Nat → Int32) => u = R) (fun (u : Int32 × Int32 × (Nat → Int32)) (t : State) => va_P D classes (wl_X7_ask ad cs h_su h_su_asked su_who su_against su_kind su_won su_day su_land su_undoneFrom u.1 u.2.1 su_first su_foundSo su_foundNot su_fought su_needed u.2.2) t.heap ∧ va_D A (wl_X7_ask ad cs h_su h_su_asked su_who su_against su_kind su_won su_day su_land su_undoneFrom u.1 u.2.1 su_first su_foundSo su_foundNot su_fought su_needed u.2.2)) A
abbrev rm_X7_ask : Room := { frames := 0, cells := 0, slots := 0, locals := 0 }
def B_X7_ask_0    (su_who : Int32) (su_against : Int32) (su_kind : Int32) (su_won : Int32) (su_day : Int32) (su_land : Int32) (su_undoneFrom : Int32) (su_first : Int32) (su_foundSo : Int32) (su_foundNot : Int32) (su_fought : Int32) (su_needed : Int32) (x1 : Int32) (su_askedCount : Int32) (su_askedBits : Int32) (su_asked : Nat → Int32) : Option (Int32 × Int32 × (Nat → Int32)) :=
  (if (32 : Int32) ≤ su_askedCount then (some (su_askedCount, su_askedBits, su_asked)) else (if (su_askedCount < 0 ∨ 32 ≤ su_askedCount.toNatClampNeg) then none else (zk_let (upd su_asked su_askedCount.toNatClampNeg x1) (fun f_3 => (zk_let (su_askedCount + (1 : Int32)) (fun v_4 => (zk_let (su_askedBits ||| ((1 : Int32) <<< (x1 &&& 31))) (fun v_5 => (some (v_4, v_5, f_3))))))))))
def f_X7_ask   (x1 : Int32) (su_who : Int32) (su_against : Int32) (su_kind : Int32) (su_won : Int32) (su_day : Int32) (su_land : Int32) (su_undoneFrom : Int32) (su_askedCount : Int32) (su_askedBits : Int32) (su_first : Int32) (su_foundSo : Int32) (su_foundNot : Int32) (su_fought : Int32) (su_needed : Int32) (su_asked : Nat → Int32) : Option (Int32 × Int32 × (Nat → Int32)) := B_X7_ask_0   su_who su_against su_kind su_won su_day su_land su_undoneFrom su_first su_foundSo su_foundNot su_fought su_needed x1 su_askedCount su_askedBits su_asked
set_option maxHeartbeats 4000000 in
set_option maxRecDepth 100000 in
theorem L_X7_ask_0 {p : Program} {l : Launch} {e : Env} {s : State} {m : MethodId} {args : Array Value} {below : List Frame} {meth : Method} {c : Code} {A : Nat → Prop} {D : va_G} {cs : Nat → ClassId} {ad : Nat → Nat} {h_su : Nat} {h_su_asked : Nat} {su_who : Int32} {su_against : Int32} {su_kind : Int32} {su_won : Int32} {su_day : Int32} {su_land : Int32} {su_undoneFrom : Int32} {su_first : Int32} {su_foundSo : Int32} {su_foundNot : Int32} {su_fought : Int32} {su_needed : Int32} {R : Int32 × Int32 × (Nat → Int32)} (C0 : zC p s m args meth c cX7_ask 2 none RX7 zW) (hK : va_K D classes (zT cs) s) (hA : ∀ q : Nat, s.heap.size ≤ q → A q) (x1 : Int32) (su_askedCount : Int32) (su_askedBits : Int32) (su_asked : Nat → Int32) (h : B_X7_ask_0 su_who su_against su_kind su_won su_day su_land su_undoneFrom su_first su_foundSo su_foundNot su_fought su_needed x1 su_askedCount su_askedBits su_asked = some R) (H : Heap) (locs : List Loc) (ls : Array Slot) (hP : va_P D classes (wl_X7_ask ad cs h_su h_su_asked su_who su_against su_kind su_won su_day su_land su_undoneFrom su_askedCount su_askedBits su_first su_foundSo su_foundNot su_fought su_needed su_asked) H) (hD : va_D A (wl_X7_ask ad cs h_su h_su_asked su_who su_against su_kind su_won su_day su_land su_undoneFrom su_askedCount su_askedBits su_first su_foundSo su_foundNot su_fought su_needed su_asked)) (hS : va_S A s.heap H locs) (hl : lv_has ls 2 [(0, .ref h_su), (1, .int x1)]) : W p l e rm_X7_ask s m args below meth c H locs 0 0 (MQ below (Q_X7_ask D cs ad h_su h_su_asked su_who su_against su_kind su_won su_day su_land su_undoneFrom su_first su_foundSo su_foundNot su_fought su_needed A R) args s 0 0 A) (F0 m 0 ls []) := by
  obtain ⟨hx, hb, hr, hml, hown, ht, hlocks⟩ := id C0
  refine lv_aload_n hx hb dX7_ask_0 rfl (lv_at hl 0 rfl) ?_
  refine va_get (D := D) (ci := 7) (v := .int su_askedCount) (C := RX7) (T := TX7) (N := 15) hx hb ht iX7 hown hK hP 0 rfl rfl 8 (by decide) (ht _ kw_337) (fun _ h9 => h9) rfl dX7_ask_1 ?_
  refine lv_bipush (v := (32 : Int32)) hx hb dX7_ask_4 (by decide) ?_
  refine lv_icmp_ge (tgt := 41) hx hb dX7_ask_6 (by decide) (fun c_1 => ?_) (fun c_1 => ?_)
  · have h := zk_t c_1 h
    exact W.vret hx hb hr (fun t ht2 hW => ⟨⟨(su_askedCount, su_askedBits, su_asked), rfl, Option.some.inj h, by rw [ht2]; exact hP, hD⟩, hS.F ht2⟩) hS.2.2 dX7_ask_41 hlocks
  · have h := zk_f c_1 h
    refine lv_aload_n hx hb dX7_ask_9 rfl (lv_at hl 0 rfl) ?_
    refine va_get (D := D) (ci := 7) (v := .ref h_su_asked) (C := RX7) (T := TX7) (N := 15) hx hb ht iX7 hown hK hP 0 rfl rfl 7 (by decide) (ht _ kw_333) (fun _ h9 => h9) rfl dX7_ask_10 ?_
    refine lv_aload_n hx hb dX7_ask_13 rfl (lv_at hl 0 rfl) ?_
    refine va_get (D := D) (ci := 7) (v := .int su_askedCount) (C := RX7) (T := TX7) (N := 15) hx hb ht iX7 hown hK hP 0 rfl rfl 8 (by decide) (ht _ kw_337) (fun _ h9 => h9) rfl dX7_ask_14 ?_
    refine lv_iload_n hx hb dX7_ask_17 rfl (lv_at hl 1 rfl) ?_
    obtain ⟨g_2, h⟩ := zk_gd h
    obtain ⟨f_3, ef_3, h⟩ := zk_lt h
    refine va_iast hx hb hK hP hD hS 1 0 rfl rfl g_2 dX7_ask_18 (fun H locs hP hD hS => ?_)
    have hP : va_P D classes (wl_X7_ask ad cs h_su h_su_asked su_who su_against su_kind su_won su_day su_land su_undoneFrom su_askedCount su_askedBits su_first su_foundSo su_foundNot su_fought su_needed f_3) H := by rw [ef_3]; exact hP
    have hD : va_D A (wl_X7_ask ad cs h_su h_su_asked su_who su_against su_kind su_won su_day su_land su_undoneFrom su_askedCount su_askedBits su_first su_foundSo su_foundNot su_fought su_needed f_3) := by rw [ef_3]; exact hD
    refine lv_aload_n hx hb dX7_ask_19 rfl (lv_at hl 0 rfl) ?_
    refine lv_dup hx hb dX7_ask_20 rfl ?_
    refine va_get (D := D) (ci := 7) (v := .int su_askedCount) (C := RX7) (T := TX7) (N := 15) hx hb ht iX7 hown hK hP 0 rfl rfl 8 (by decide) (ht _ kw_337) (fun _ h9 => h9) rfl dX7_ask_21 ?_
    refine lv_iconst (v := (1 : Int32)) hx hb dX7_ask_24 (by decide) ?_
    refine lv_iadd hx hb dX7_ask_25 ?_
    obtain ⟨v_4, ev_4, h⟩ := zk_lt h
    refine W.eq (g2 := F0 m 26 ls [.int v_4, .ref h_su]) (by rw [ev_4]) ?_
    refine va_put (D := D) (ci := 7) (v := .int v_4) (ty := .int) (C := RX7) (T := TX7) (N := 15) hx hb ht iX7 tyX7 tyX7_ok nmX7 hown hK hP hD hS 0 rfl rfl 8 (by decide) (ht _ kw_337) (fun _ h9 => h9) rfl (by decide +kernel) rfl rfl (Nat.le_of_ble_eq_true rfl) dX7_ask_26 (fun H locs hP hD hS => ?_)
    have hP : va_P D classes (wl_X7_ask ad cs h_su h_su_asked su_who su_against su_kind su_won su_day su_land su_undoneFrom v_4 su_askedBits su_first su_foundSo su_foundNot su_fought su_needed f_3) H := hP
    have hD : va_D A (wl_X7_ask ad cs h_su h_su_asked su_who su_against su_kind su_won su_day su_land su_undoneFrom v_4 su_askedBits su_first su_foundSo su_foundNot su_fought su_needed f_3) := hD
    refine lv_aload_n hx hb dX7_ask_29 rfl (lv_at hl 0 rfl) ?_
    refine lv_dup hx hb dX7_ask_30 rfl ?_
    refine va_get (D := D) (ci := 7) (v := .int su_askedBits) (C := RX7) (T := TX7) (N := 15) hx hb ht iX7 hown hK hP 0 rfl rfl 9 (by decide) (ht _ kw_342) (fun _ h9 => h9) rfl dX7_ask_31 ?_
    refine lv_iconst (v := (1 : Int32)) hx hb dX7_ask_34 (by decide) ?_
    refine lv_iload_n hx hb dX7_ask_35 rfl (lv_at hl 1 rfl) ?_
    refine lv_ishl hx hb dX7_ask_36 ?_
    refine lv_ior hx hb dX7_ask_37 ?_
    obtain ⟨v_5, ev_5, h⟩ := zk_lt h
    refine W.eq (g2 := F0 m 38 ls [.int v_5, .ref h_su]) (by rw [ev_5]) ?_
    refine va_put (D := D) (ci := 7) (v := .int v_5) (ty := .int) (C := RX7) (T := TX7) (N := 15) hx hb ht iX7 tyX7 tyX7_ok nmX7 hown hK hP hD hS 0 rfl rfl 9 (by decide) (ht _ kw_342) (fun _ h9 => h9) rfl (by decide +kernel) rfl rfl (Nat.le_of_ble_eq_true rfl) dX7_ask_38 (fun H locs hP hD hS => ?_)
    have hP : va_P D classes (wl_X7_ask ad cs h_su h_su_asked su_who su_against su_kind su_won su_day su_land su_undoneFrom v_4 v_5 su_first su_foundSo su_foundNot su_fought su_needed f_3) H := hP
    have hD : va_D A (wl_X7_ask ad cs h_su h_su_asked su_who su_against su_kind su_won su_day su_land su_undoneFrom v_4 v_5 su_first su_foundSo su_foundNot su_fought su_needed f_3) := hD
    exact W.vret hx hb hr (fun t ht2 hW => ⟨⟨(v_4, v_5, f_3), rfl, Option.some.inj h, by rw [ht2]; exact hP, hD⟩, hS.F ht2⟩) hS.2.2 dX7_ask_41 hlocks
set_option maxHeartbeats 4000000 in
set_option maxRecDepth 100000 in
theorem c_X7_ask (l : Launch) (D : va_G) (cs : Nat → ClassId) (ad : Nat → Nat) (h_su : Nat) (h_su_asked : Nat) (sz : Nat) (x1 : Int32) (su_who : Int32) (su_against : Int32) (su_kind : Int32) (su_won : Int32) (su_day : Int32) (su_land : Int32) (su_undoneFrom : Int32) (su_askedCount : Int32) (su_askedBits : Int32) (su_first : Int32) (su_foundSo : Int32) (su_foundNot : Int32) (su_fought : Int32) (su_needed : Int32) (su_asked : Nat → Int32) (R : Int32 × Int32 × (Nat → Int32)) (h : f_X7_ask   x1 su_who su_against su_kind su_won su_day su_land su_undoneFrom su_askedCount su_askedBits su_first su_foundSo su_foundNot su_fought su_needed su_asked = some R) : Met l yX7_ask (z_X7_ask) rm_X7_ask (va_Pc [.ref h_su, .int x1] (zPre D cs (wl_X7_ask ad cs h_su h_su_asked su_who su_against su_kind su_won su_day su_land su_undoneFrom su_askedCount su_askedBits su_first su_foundSo su_foundNot su_fought su_needed su_asked) sz)) (Q_X7_ask D cs ad h_su h_su_asked su_who su_against su_kind su_won su_day su_land su_undoneFrom su_first su_foundSo su_foundNot su_fought su_needed (va_A (wl_X7_ask ad cs h_su h_su_asked su_who su_against su_kind su_won su_day su_land su_undoneFrom su_askedCount su_askedBits su_first su_foundSo su_foundNot su_fought su_needed su_asked) sz) R) 0 0 (va_A (wl_X7_ask ad cs h_su h_su_asked su_who su_against su_kind su_won su_day su_land su_undoneFrom su_askedCount su_askedBits su_first su_foundSo su_foundNot su_fought su_needed su_asked) sz) := by
  refine Met.ofW (cc := cX7_ask) (maxL := 2) (ret := none) (by decide) rfl ?_
  intro p e s m args below meth c s₁ B hml hv
  obtain ⟨rfl, hsz, hP, hK, hD0⟩ := hv
  subst hsz
  have hD := hD0.self (sz := s.heap.size)
  have C0 : zC p s m _ meth c cX7_ask 2 none RX7 zW := ⟨B.exec, B.bytes, B.returns, hml, findClass_of_methodNamed B.named, fun w hw => atoms_spec (ws := z_X7_ask) B.pre w (List.mem_cons_of_mem _ hw), B.notSynchronized⟩
  have hA : ∀ q : Nat, s.heap.size ≤ q → va_A (wl_X7_ask ad cs h_su h_su_asked su_who su_against su_kind su_won su_day su_land su_undoneFrom su_askedCount su_askedBits su_first su_foundSo su_foundNot su_fought su_needed su_asked) s.heap.size q := fun q h => Or.inr h
  have hl := lv_entry ([.ref h_su, .int x1]) (n := 2) (Nat.le_of_ble_eq_true rfl)
  rw [lg_entry_eq]
  generalize (lg_sl ([.ref h_su, .int x1]) ++ List.replicate (2 - (lg_sl ([.ref h_su, .int x1])).length) Slot.unset).toArray = ls at hl ⊢
  exact L_X7_ask_0 C0 hK hA   x1 su_askedCount su_askedBits su_asked h s.heap [] ls hP hD va_S.rf hl
theorem dX7_hasAsked_0 : decode cX7_hasAsked 0 = .ok (.aload_n 0, 1) := by decide +kernel
theorem dX7_hasAsked_1 : decode cX7_hasAsked 1 = .ok (.getfield 22, 3) := by decide +kernel
theorem dX7_hasAsked_4 : decode cX7_hasAsked 4 = .ok (.iload_n 1, 1) := by decide +kernel
theorem dX7_hasAsked_5 : decode cX7_hasAsked 5 = .ok (.ishr, 1) := by decide +kernel
theorem dX7_hasAsked_6 : decode cX7_hasAsked 6 = .ok (.iconst 1, 1) := by decide +kernel
theorem dX7_hasAsked_7 : decode cX7_hasAsked 7 = .ok (.iand, 1) := by decide +kernel
theorem dX7_hasAsked_8 : decode cX7_hasAsked 8 = .ok (.ifCond .eq 7, 3) := by decide +kernel
theorem dX7_hasAsked_11 : decode cX7_hasAsked 11 = .ok (.iconst 1, 1) := by decide +kernel
theorem dX7_hasAsked_12 : decode cX7_hasAsked 12 = .ok (.goto 4, 3) := by decide +kernel
theorem dX7_hasAsked_15 : decode cX7_hasAsked 15 = .ok (.iconst 0, 1) := by decide +kernel
theorem dX7_hasAsked_16 : decode cX7_hasAsked 16 = .ok (.ireturn, 1) := by decide +kernel
abbrev z_X7_hasAsked : List Cond := .code yX7_hasAsked cX7_hasAsked 2 (some .boolean) :: zW
abbrev wl_X7_hasAsked (ad : Nat → Nat) (cs : Nat → ClassId) (h_su : Nat) (h_su_asked : Nat) (su_who : Int32) (su_against : Int32) (su_kind : Int32) (su_won : Int32) (su_day : Int32) (su_land : Int32) (su_undoneFrom : Int32) (su_askedCount : Int32) (su_askedBits : Int32) (su_first : Int32) (su_foundSo : Int32) (su_foundNot : Int32) (su_fought : Int32) (su_needed : Int32) : va_W := [(h_su, .inr (7, [.int su_who, .int su_against, .int su_kind, .int su_won, .int su_day, .int su_land, .int su_undoneFrom, .ref h_su_asked, .int su_askedCount, .int su_askedBits, .int su_first, .int su_foundSo, .int su_foundNot, .int su_fought, .int su_needed]))]
def Q_X7_hasAsked (D : va_G) (cs : Nat → ClassId) (ad : Nat → Nat) (h_su : Nat) (h_su_asked : Nat) (su_who : Int32) (su_against : Int32) (su_kind : Int32) (su_won : Int32) (su_day : Int32) (su_land : Int32) (su_undoneFrom : Int32) (su_askedCount : Int32) (su_askedBits : Int32) (su_first : Int32) (su_foundSo : Int32) (su_foundNot : Int32) (su_fought : Int32) (su_needed : Int32) (A : Nat → Prop) (R : Int32 × Unit) : Array Value → State → Outcome → State → Prop :=
  va_Qi (fun (r : Int32) (u : Unit) => (r, u) = R) (fun (u : Unit) (t : State) => va_P D classes (wl_X7_hasAsked ad cs h_su h_su_asked su_who su_against su_kind su_won su_day su_land su_undoneFrom su_askedCount su_askedBits su_first su_foundSo su_foundNot su_fought su_needed) t.heap ∧ va_D A (wl_X7_hasAsked ad cs h_su h_su_asked su_who su_against su_kind su_won su_day su_land su_undoneFrom su_askedCount su_askedBits su_first su_foundSo su_foundNot su_fought su_needed)) A
abbrev rm_X7_hasAsked : Room := { frames := 0, cells := 0, slots := 0, locals := 0 }
def B_X7_hasAsked_0    (su_who : Int32) (su_against : Int32) (su_kind : Int32) (su_won : Int32) (su_day : Int32) (su_land : Int32) (su_undoneFrom : Int32) (su_askedCount : Int32) (su_askedBits : Int32) (su_first : Int32) (su_foundSo : Int32) (su_foundNot : Int32) (su_fought : Int32) (su_needed : Int32) (x1 : Int32) : Option (Int32 × Unit) :=
  (if ((su_askedBits >>> (x1 &&& 31)) &&& (1 : Int32)) = 0 then (some ((0 : Int32), ())) else (some ((1 : Int32), ())))
def f_X7_hasAsked   (x1 : Int32) (su_who : Int32) (su_against : Int32) (su_kind : Int32) (su_won : Int32) (su_day : Int32) (su_land : Int32) (su_undoneFrom : Int32) (su_askedCount : Int32) (su_askedBits : Int32) (su_first : Int32) (su_foundSo : Int32) (su_foundNot : Int32) (su_fought : Int32) (su_needed : Int32) : Option (Int32 × Unit) := B_X7_hasAsked_0   su_who su_against su_kind su_won su_day su_land su_undoneFrom su_askedCount su_askedBits su_first su_foundSo su_foundNot su_fought su_needed x1 
set_option maxHeartbeats 4000000 in
set_option maxRecDepth 100000 in
theorem L_X7_hasAsked_0 {p : Program} {l : Launch} {e : Env} {s : State} {m : MethodId} {args : Array Value} {below : List Frame} {meth : Method} {c : Code} {A : Nat → Prop} {D : va_G} {cs : Nat → ClassId} {ad : Nat → Nat} {h_su : Nat} {h_su_asked : Nat} {su_who : Int32} {su_against : Int32} {su_kind : Int32} {su_won : Int32} {su_day : Int32} {su_land : Int32} {su_undoneFrom : Int32} {su_askedCount : Int32} {su_askedBits : Int32} {su_first : Int32} {su_foundSo : Int32} {su_foundNot : Int32} {su_fought : Int32} {su_needed : Int32} {R : Int32 × Unit} (C0 : zC p s m args meth c cX7_hasAsked 2 (some .boolean) RX7 zW) (hK : va_K D classes (zT cs) s) (hA : ∀ q : Nat, s.heap.size ≤ q → A q) (x1 : Int32) (h : B_X7_hasAsked_0 su_who su_against su_kind su_won su_day su_land su_undoneFrom su_askedCount su_askedBits su_first su_foundSo su_foundNot su_fought su_needed x1 = some R) (H : Heap) (locs : List Loc) (ls : Array Slot) (hP : va_P D classes (wl_X7_hasAsked ad cs h_su h_su_asked su_who su_against su_kind su_won su_day su_land su_undoneFrom su_askedCount su_askedBits su_first su_foundSo su_foundNot su_fought su_needed) H) (hD : va_D A (wl_X7_hasAsked ad cs h_su h_su_asked su_who su_against su_kind su_won su_day su_land su_undoneFrom su_askedCount su_askedBits su_first su_foundSo su_foundNot su_fought su_needed)) (hS : va_S A s.heap H locs) (hl : lv_has ls 2 [(0, .ref h_su), (1, .int x1)]) : W p l e rm_X7_hasAsked s m args below meth c H locs 0 0 (MQ below (Q_X7_hasAsked D cs ad h_su h_su_asked su_who su_against su_kind su_won su_day su_land su_undoneFrom su_askedCount su_askedBits su_first su_foundSo su_foundNot su_fought su_needed A R) args s 0 0 A) (F0 m 0 ls []) := by
  obtain ⟨hx, hb, hr, hml, hown, ht, hlocks⟩ := id C0
  refine lv_aload_n hx hb dX7_hasAsked_0 rfl (lv_at hl 0 rfl) ?_
  refine va_get (D := D) (ci := 7) (v := .int su_askedBits) (C := RX7) (T := TX7) (N := 15) hx hb ht iX7 hown hK hP 0 rfl rfl 9 (by decide) (ht _ kw_342) (fun _ h9 => h9) rfl dX7_hasAsked_1 ?_
  refine lv_iload_n hx hb dX7_hasAsked_4 rfl (lv_at hl 1 rfl) ?_
  refine lv_ishr hx hb dX7_hasAsked_5 ?_
  refine lv_iconst (v := (1 : Int32)) hx hb dX7_hasAsked_6 (by decide) ?_
  refine lv_iand hx hb dX7_hasAsked_7 ?_
  refine lv_if_eq (tgt := 15) hx hb dX7_hasAsked_8 (by decide) (fun c_1 => ?_) (fun c_1 => ?_)
  · have h := zk_t c_1 h
    refine lv_iconst (v := (0 : Int32)) hx hb dX7_hasAsked_15 (by decide) ?_
    exact W.zret (ty := .boolean) (v := (0 : Int32)) hx hb hr rfl (fun t ht2 hW => ⟨⟨(0 : Int32), (), rfl, Option.some.inj h, by rw [ht2]; exact hP, hD⟩, hS.F ht2⟩) hS.2.2 dX7_hasAsked_16 hlocks
  · have h := zk_f c_1 h
    refine lv_iconst (v := (1 : Int32)) hx hb dX7_hasAsked_11 (by decide) ?_
    refine lv_goto (tgt := 16) hx hb dX7_hasAsked_12 (by decide) ?_
    exact W.zret (ty := .boolean) (v := (1 : Int32)) hx hb hr rfl (fun t ht2 hW => ⟨⟨(1 : Int32), (), rfl, Option.some.inj h, by rw [ht2]; exact hP, hD⟩, hS.F ht2⟩) hS.2.2 dX7_hasAsked_16 hlocks
set_option maxHeartbeats 4000000 in
set_option maxRecDepth 100000 in
theorem c_X7_hasAsked (l : Launch) (D : va_G) (cs : Nat → ClassId) (ad : Nat → Nat) (h_su : Nat) (h_su_asked : Nat) (sz : Nat) (x1 : Int32) (su_who : Int32) (su_against : Int32) (su_kind : Int32) (su_won : Int32) (su_day : Int32) (su_land : Int32) (su_undoneFrom : Int32) (su_askedCount : Int32) (su_askedBits : Int32) (su_first : Int32) (su_foundSo : Int32) (su_foundNot : Int32) (su_fought : Int32) (su_needed : Int32) (R : Int32 × Unit) (h : f_X7_hasAsked   x1 su_who su_against su_kind su_won su_day su_land su_undoneFrom su_askedCount su_askedBits su_first su_foundSo su_foundNot su_fought su_needed = some R) : Met l yX7_hasAsked (z_X7_hasAsked) rm_X7_hasAsked (va_Pc [.ref h_su, .int x1] (zPre D cs (wl_X7_hasAsked ad cs h_su h_su_asked su_who su_against su_kind su_won su_day su_land su_undoneFrom su_askedCount su_askedBits su_first su_foundSo su_foundNot su_fought su_needed) sz)) (Q_X7_hasAsked D cs ad h_su h_su_asked su_who su_against su_kind su_won su_day su_land su_undoneFrom su_askedCount su_askedBits su_first su_foundSo su_foundNot su_fought su_needed (va_A (wl_X7_hasAsked ad cs h_su h_su_asked su_who su_against su_kind su_won su_day su_land su_undoneFrom su_askedCount su_askedBits su_first su_foundSo su_foundNot su_fought su_needed) sz) R) 0 0 (va_A (wl_X7_hasAsked ad cs h_su h_su_asked su_who su_against su_kind su_won su_day su_land su_undoneFrom su_askedCount su_askedBits su_first su_foundSo su_foundNot su_fought su_needed) sz) := by
  refine Met.ofW (cc := cX7_hasAsked) (maxL := 2) (ret := (some .boolean)) (by decide) rfl ?_
  intro p e s m args below meth c s₁ B hml hv
  obtain ⟨rfl, hsz, hP, hK, hD0⟩ := hv
  subst hsz
  have hD := hD0.self (sz := s.heap.size)
  have C0 : zC p s m _ meth c cX7_hasAsked 2 (some .boolean) RX7 zW := ⟨B.exec, B.bytes, B.returns, hml, findClass_of_methodNamed B.named, fun w hw => atoms_spec (ws := z_X7_hasAsked) B.pre w (List.mem_cons_of_mem _ hw), B.notSynchronized⟩
  have hA : ∀ q : Nat, s.heap.size ≤ q → va_A (wl_X7_hasAsked ad cs h_su h_su_asked su_who su_against su_kind su_won su_day su_land su_undoneFrom su_askedCount su_askedBits su_first su_foundSo su_foundNot su_fought su_needed) s.heap.size q := fun q h => Or.inr h
  have hl := lv_entry ([.ref h_su, .int x1]) (n := 2) (Nat.le_of_ble_eq_true rfl)
  rw [lg_entry_eq]
  generalize (lg_sl ([.ref h_su, .int x1]) ++ List.replicate (2 - (lg_sl ([.ref h_su, .int x1])).length) Slot.unset).toArray = ls at hl ⊢
  exact L_X7_hasAsked_0 C0 hK hA   x1  h s.heap [] ls hP hD va_S.rf hl
theorem kw_346 : Cond.fieldLink RX7 28 "AlreadyJudged$Suit" "foundSo" "I" ∈ zW := zwI (i := 346) (by decide +kernel) (by decide +kernel)
theorem kw_348 : Cond.fieldLink RX7 31 "AlreadyJudged$Suit" "foundNot" "I" ∈ zW := zwI (i := 348) (by decide +kernel) (by decide +kernel)
theorem dX7_hasFound_0 : decode cX7_hasFound 0 = .ok (.aload_n 0, 1) := by decide +kernel
theorem dX7_hasFound_1 : decode cX7_hasFound 1 = .ok (.getfield 28, 3) := by decide +kernel
theorem dX7_hasFound_4 : decode cX7_hasFound 4 = .ok (.aload_n 0, 1) := by decide +kernel
theorem dX7_hasFound_5 : decode cX7_hasFound 5 = .ok (.getfield 31, 3) := by decide +kernel
theorem dX7_hasFound_8 : decode cX7_hasFound 8 = .ok (.ior, 1) := by decide +kernel
theorem dX7_hasFound_9 : decode cX7_hasFound 9 = .ok (.iload_n 1, 1) := by decide +kernel
theorem dX7_hasFound_10 : decode cX7_hasFound 10 = .ok (.ishr, 1) := by decide +kernel
theorem dX7_hasFound_11 : decode cX7_hasFound 11 = .ok (.iconst 1, 1) := by decide +kernel
theorem dX7_hasFound_12 : decode cX7_hasFound 12 = .ok (.iand, 1) := by decide +kernel
theorem dX7_hasFound_13 : decode cX7_hasFound 13 = .ok (.ifCond .eq 7, 3) := by decide +kernel
theorem dX7_hasFound_16 : decode cX7_hasFound 16 = .ok (.iconst 1, 1) := by decide +kernel
theorem dX7_hasFound_17 : decode cX7_hasFound 17 = .ok (.goto 4, 3) := by decide +kernel
theorem dX7_hasFound_20 : decode cX7_hasFound 20 = .ok (.iconst 0, 1) := by decide +kernel
theorem dX7_hasFound_21 : decode cX7_hasFound 21 = .ok (.ireturn, 1) := by decide +kernel
abbrev z_X7_hasFound : List Cond := .code yX7_hasFound cX7_hasFound 2 (some .boolean) :: zW
abbrev wl_X7_hasFound (ad : Nat → Nat) (cs : Nat → ClassId) (h_su : Nat) (h_su_asked : Nat) (su_who : Int32) (su_against : Int32) (su_kind : Int32) (su_won : Int32) (su_day : Int32) (su_land : Int32) (su_undoneFrom : Int32) (su_askedCount : Int32) (su_askedBits : Int32) (su_first : Int32) (su_foundSo : Int32) (su_foundNot : Int32) (su_fought : Int32) (su_needed : Int32) : va_W := [(h_su, .inr (7, [.int su_who, .int su_against, .int su_kind, .int su_won, .int su_day, .int su_land, .int su_undoneFrom, .ref h_su_asked, .int su_askedCount, .int su_askedBits, .int su_first, .int su_foundSo, .int su_foundNot, .int su_fought, .int su_needed]))]
def Q_X7_hasFound (D : va_G) (cs : Nat → ClassId) (ad : Nat → Nat) (h_su : Nat) (h_su_asked : Nat) (su_who : Int32) (su_against : Int32) (su_kind : Int32) (su_won : Int32) (su_day : Int32) (su_land : Int32) (su_undoneFrom : Int32) (su_askedCount : Int32) (su_askedBits : Int32) (su_first : Int32) (su_foundSo : Int32) (su_foundNot : Int32) (su_fought : Int32) (su_needed : Int32) (A : Nat → Prop) (R : Int32 × Unit) : Array Value → State → Outcome → State → Prop :=
  va_Qi (fun (r : Int32) (u : Unit) => (r, u) = R) (fun (u : Unit) (t : State) => va_P D classes (wl_X7_hasFound ad cs h_su h_su_asked su_who su_against su_kind su_won su_day su_land su_undoneFrom su_askedCount su_askedBits su_first su_foundSo su_foundNot su_fought su_needed) t.heap ∧ va_D A (wl_X7_hasFound ad cs h_su h_su_asked su_who su_against su_kind su_won su_day su_land su_undoneFrom su_askedCount su_askedBits su_first su_foundSo su_foundNot su_fought su_needed)) A
abbrev rm_X7_hasFound : Room := { frames := 0, cells := 0, slots := 0, locals := 0 }
def B_X7_hasFound_0    (su_who : Int32) (su_against : Int32) (su_kind : Int32) (su_won : Int32) (su_day : Int32) (su_land : Int32) (su_undoneFrom : Int32) (su_askedCount : Int32) (su_askedBits : Int32) (su_first : Int32) (su_foundSo : Int32) (su_foundNot : Int32) (su_fought : Int32) (su_needed : Int32) (x1 : Int32) : Option (Int32 × Unit) :=
  (if (((su_foundSo ||| su_foundNot) >>> (x1 &&& 31)) &&& (1 : Int32)) = 0 then (some ((0 : Int32), ())) else (some ((1 : Int32), ())))
def f_X7_hasFound   (x1 : Int32) (su_who : Int32) (su_against : Int32) (su_kind : Int32) (su_won : Int32) (su_day : Int32) (su_land : Int32) (su_undoneFrom : Int32) (su_askedCount : Int32) (su_askedBits : Int32) (su_first : Int32) (su_foundSo : Int32) (su_foundNot : Int32) (su_fought : Int32) (su_needed : Int32) : Option (Int32 × Unit) := B_X7_hasFound_0   su_who su_against su_kind su_won su_day su_land su_undoneFrom su_askedCount su_askedBits su_first su_foundSo su_foundNot su_fought su_needed x1 
set_option maxHeartbeats 4000000 in
set_option maxRecDepth 100000 in
theorem L_X7_hasFound_0 {p : Program} {l : Launch} {e : Env} {s : State} {m : MethodId} {args : Array Value} {below : List Frame} {meth : Method} {c : Code} {A : Nat → Prop} {D : va_G} {cs : Nat → ClassId} {ad : Nat → Nat} {h_su : Nat} {h_su_asked : Nat} {su_who : Int32} {su_against : Int32} {su_kind : Int32} {su_won : Int32} {su_day : Int32} {su_land : Int32} {su_undoneFrom : Int32} {su_askedCount : Int32} {su_askedBits : Int32} {su_first : Int32} {su_foundSo : Int32} {su_foundNot : Int32} {su_fought : Int32} {su_needed : Int32} {R : Int32 × Unit} (C0 : zC p s m args meth c cX7_hasFound 2 (some .boolean) RX7 zW) (hK : va_K D classes (zT cs) s) (hA : ∀ q : Nat, s.heap.size ≤ q → A q) (x1 : Int32) (h : B_X7_hasFound_0 su_who su_against su_kind su_won su_day su_land su_undoneFrom su_askedCount su_askedBits su_first su_foundSo su_foundNot su_fought su_needed x1 = some R) (H : Heap) (locs : List Loc) (ls : Array Slot) (hP : va_P D classes (wl_X7_hasFound ad cs h_su h_su_asked su_who su_against su_kind su_won su_day su_land su_undoneFrom su_askedCount su_askedBits su_first su_foundSo su_foundNot su_fought su_needed) H) (hD : va_D A (wl_X7_hasFound ad cs h_su h_su_asked su_who su_against su_kind su_won su_day su_land su_undoneFrom su_askedCount su_askedBits su_first su_foundSo su_foundNot su_fought su_needed)) (hS : va_S A s.heap H locs) (hl : lv_has ls 2 [(0, .ref h_su), (1, .int x1)]) : W p l e rm_X7_hasFound s m args below meth c H locs 0 0 (MQ below (Q_X7_hasFound D cs ad h_su h_su_asked su_who su_against su_kind su_won su_day su_land su_undoneFrom su_askedCount su_askedBits su_first su_foundSo su_foundNot su_fought su_needed A R) args s 0 0 A) (F0 m 0 ls []) := by
  obtain ⟨hx, hb, hr, hml, hown, ht, hlocks⟩ := id C0
  refine lv_aload_n hx hb dX7_hasFound_0 rfl (lv_at hl 0 rfl) ?_
  refine va_get (D := D) (ci := 7) (v := .int su_foundSo) (C := RX7) (T := TX7) (N := 15) hx hb ht iX7 hown hK hP 0 rfl rfl 11 (by decide) (ht _ kw_346) (fun _ h9 => h9) rfl dX7_hasFound_1 ?_
  refine lv_aload_n hx hb dX7_hasFound_4 rfl (lv_at hl 0 rfl) ?_
  refine va_get (D := D) (ci := 7) (v := .int su_foundNot) (C := RX7) (T := TX7) (N := 15) hx hb ht iX7 hown hK hP 0 rfl rfl 12 (by decide) (ht _ kw_348) (fun _ h9 => h9) rfl dX7_hasFound_5 ?_
  refine lv_ior hx hb dX7_hasFound_8 ?_
  refine lv_iload_n hx hb dX7_hasFound_9 rfl (lv_at hl 1 rfl) ?_
  refine lv_ishr hx hb dX7_hasFound_10 ?_
  refine lv_iconst (v := (1 : Int32)) hx hb dX7_hasFound_11 (by decide) ?_
  refine lv_iand hx hb dX7_hasFound_12 ?_
  refine lv_if_eq (tgt := 20) hx hb dX7_hasFound_13 (by decide) (fun c_1 => ?_) (fun c_1 => ?_)
  · have h := zk_t c_1 h
    refine lv_iconst (v := (0 : Int32)) hx hb dX7_hasFound_20 (by decide) ?_
    exact W.zret (ty := .boolean) (v := (0 : Int32)) hx hb hr rfl (fun t ht2 hW => ⟨⟨(0 : Int32), (), rfl, Option.some.inj h, by rw [ht2]; exact hP, hD⟩, hS.F ht2⟩) hS.2.2 dX7_hasFound_21 hlocks
  · have h := zk_f c_1 h
    refine lv_iconst (v := (1 : Int32)) hx hb dX7_hasFound_16 (by decide) ?_
    refine lv_goto (tgt := 21) hx hb dX7_hasFound_17 (by decide) ?_
    exact W.zret (ty := .boolean) (v := (1 : Int32)) hx hb hr rfl (fun t ht2 hW => ⟨⟨(1 : Int32), (), rfl, Option.some.inj h, by rw [ht2]; exact hP, hD⟩, hS.F ht2⟩) hS.2.2 dX7_hasFound_21 hlocks
set_option maxHeartbeats 4000000 in
set_option maxRecDepth 100000 in
theorem c_X7_hasFound (l : Launch) (D : va_G) (cs : Nat → ClassId) (ad : Nat → Nat) (h_su : Nat) (h_su_asked : Nat) (sz : Nat) (x1 : Int32) (su_who : Int32) (su_against : Int32) (su_kind : Int32) (su_won : Int32) (su_day : Int32) (su_land : Int32) (su_undoneFrom : Int32) (su_askedCount : Int32) (su_askedBits : Int32) (su_first : Int32) (su_foundSo : Int32) (su_foundNot : Int32) (su_fought : Int32) (su_needed : Int32) (R : Int32 × Unit) (h : f_X7_hasFound   x1 su_who su_against su_kind su_won su_day su_land su_undoneFrom su_askedCount su_askedBits su_first su_foundSo su_foundNot su_fought su_needed = some R) : Met l yX7_hasFound (z_X7_hasFound) rm_X7_hasFound (va_Pc [.ref h_su, .int x1] (zPre D cs (wl_X7_hasFound ad cs h_su h_su_asked su_who su_against su_kind su_won su_day su_land su_undoneFrom su_askedCount su_askedBits su_first su_foundSo su_foundNot su_fought su_needed) sz)) (Q_X7_hasFound D cs ad h_su h_su_asked su_who su_against su_kind su_won su_day su_land su_undoneFrom su_askedCount su_askedBits su_first su_foundSo su_foundNot su_fought su_needed (va_A (wl_X7_hasFound ad cs h_su h_su_asked su_who su_against su_kind su_won su_day su_land su_undoneFrom su_askedCount su_askedBits su_first su_foundSo su_foundNot su_fought su_needed) sz) R) 0 0 (va_A (wl_X7_hasFound ad cs h_su h_su_asked su_who su_against su_kind su_won su_day su_land su_undoneFrom su_askedCount su_askedBits su_first su_foundSo su_foundNot su_fought su_needed) sz) := by
  refine Met.ofW (cc := cX7_hasFound) (maxL := 2) (ret := (some .boolean)) (by decide) rfl ?_
  intro p e s m args below meth c s₁ B hml hv
  obtain ⟨rfl, hsz, hP, hK, hD0⟩ := hv
  subst hsz
  have hD := hD0.self (sz := s.heap.size)
  have C0 : zC p s m _ meth c cX7_hasFound 2 (some .boolean) RX7 zW := ⟨B.exec, B.bytes, B.returns, hml, findClass_of_methodNamed B.named, fun w hw => atoms_spec (ws := z_X7_hasFound) B.pre w (List.mem_cons_of_mem _ hw), B.notSynchronized⟩
  have hA : ∀ q : Nat, s.heap.size ≤ q → va_A (wl_X7_hasFound ad cs h_su h_su_asked su_who su_against su_kind su_won su_day su_land su_undoneFrom su_askedCount su_askedBits su_first su_foundSo su_foundNot su_fought su_needed) s.heap.size q := fun q h => Or.inr h
  have hl := lv_entry ([.ref h_su, .int x1]) (n := 2) (Nat.le_of_ble_eq_true rfl)
  rw [lg_entry_eq]
  generalize (lg_sl ([.ref h_su, .int x1]) ++ List.replicate (2 - (lg_sl ([.ref h_su, .int x1])).length) Slot.unset).toArray = ls at hl ⊢
  exact L_X7_hasFound_0 C0 hK hA   x1  h s.heap [] ls hP hD va_S.rf hl
theorem kw_353 : Cond.fieldLink RX7 37 "AlreadyJudged$Suit" "needed" "I" ∈ zW := zwI (i := 353) (by decide +kernel) (by decide +kernel)
theorem dX7_hasNeeded_0 : decode cX7_hasNeeded 0 = .ok (.aload_n 0, 1) := by decide +kernel
theorem dX7_hasNeeded_1 : decode cX7_hasNeeded 1 = .ok (.getfield 37, 3) := by decide +kernel
theorem dX7_hasNeeded_4 : decode cX7_hasNeeded 4 = .ok (.iload_n 1, 1) := by decide +kernel
theorem dX7_hasNeeded_5 : decode cX7_hasNeeded 5 = .ok (.ishr, 1) := by decide +kernel
theorem dX7_hasNeeded_6 : decode cX7_hasNeeded 6 = .ok (.iconst 1, 1) := by decide +kernel
theorem dX7_hasNeeded_7 : decode cX7_hasNeeded 7 = .ok (.iand, 1) := by decide +kernel
theorem dX7_hasNeeded_8 : decode cX7_hasNeeded 8 = .ok (.ifCond .eq 7, 3) := by decide +kernel
theorem dX7_hasNeeded_11 : decode cX7_hasNeeded 11 = .ok (.iconst 1, 1) := by decide +kernel
theorem dX7_hasNeeded_12 : decode cX7_hasNeeded 12 = .ok (.goto 4, 3) := by decide +kernel
theorem dX7_hasNeeded_15 : decode cX7_hasNeeded 15 = .ok (.iconst 0, 1) := by decide +kernel
theorem dX7_hasNeeded_16 : decode cX7_hasNeeded 16 = .ok (.ireturn, 1) := by decide +kernel
abbrev z_X7_hasNeeded : List Cond := .code yX7_hasNeeded cX7_hasNeeded 2 (some .boolean) :: zW
abbrev wl_X7_hasNeeded (ad : Nat → Nat) (cs : Nat → ClassId) (h_su : Nat) (h_su_asked : Nat) (su_who : Int32) (su_against : Int32) (su_kind : Int32) (su_won : Int32) (su_day : Int32) (su_land : Int32) (su_undoneFrom : Int32) (su_askedCount : Int32) (su_askedBits : Int32) (su_first : Int32) (su_foundSo : Int32) (su_foundNot : Int32) (su_fought : Int32) (su_needed : Int32) : va_W := [(h_su, .inr (7, [.int su_who, .int su_against, .int su_kind, .int su_won, .int su_day, .int su_land, .int su_undoneFrom, .ref h_su_asked, .int su_askedCount, .int su_askedBits, .int su_first, .int su_foundSo, .int su_foundNot, .int su_fought, .int su_needed]))]
def Q_X7_hasNeeded (D : va_G) (cs : Nat → ClassId) (ad : Nat → Nat) (h_su : Nat) (h_su_asked : Nat) (su_who : Int32) (su_against : Int32) (su_kind : Int32) (su_won : Int32) (su_day : Int32) (su_land : Int32) (su_undoneFrom : Int32) (su_askedCount : Int32) (su_askedBits : Int32) (su_first : Int32) (su_foundSo : Int32) (su_foundNot : Int32) (su_fought : Int32) (su_needed : Int32) (A : Nat → Prop) (R : Int32 × Unit) : Array Value → State → Outcome → State → Prop :=
  va_Qi (fun (r : Int32) (u : Unit) => (r, u) = R) (fun (u : Unit) (t : State) => va_P D classes (wl_X7_hasNeeded ad cs h_su h_su_asked su_who su_against su_kind su_won su_day su_land su_undoneFrom su_askedCount su_askedBits su_first su_foundSo su_foundNot su_fought su_needed) t.heap ∧ va_D A (wl_X7_hasNeeded ad cs h_su h_su_asked su_who su_against su_kind su_won su_day su_land su_undoneFrom su_askedCount su_askedBits su_first su_foundSo su_foundNot su_fought su_needed)) A
abbrev rm_X7_hasNeeded : Room := { frames := 0, cells := 0, slots := 0, locals := 0 }
def B_X7_hasNeeded_0    (su_who : Int32) (su_against : Int32) (su_kind : Int32) (su_won : Int32) (su_day : Int32) (su_land : Int32) (su_undoneFrom : Int32) (su_askedCount : Int32) (su_askedBits : Int32) (su_first : Int32) (su_foundSo : Int32) (su_foundNot : Int32) (su_fought : Int32) (su_needed : Int32) (x1 : Int32) : Option (Int32 × Unit) :=
  (if ((su_needed >>> (x1 &&& 31)) &&& (1 : Int32)) = 0 then (some ((0 : Int32), ())) else (some ((1 : Int32), ())))
def f_X7_hasNeeded   (x1 : Int32) (su_who : Int32) (su_against : Int32) (su_kind : Int32) (su_won : Int32) (su_day : Int32) (su_land : Int32) (su_undoneFrom : Int32) (su_askedCount : Int32) (su_askedBits : Int32) (su_first : Int32) (su_foundSo : Int32) (su_foundNot : Int32) (su_fought : Int32) (su_needed : Int32) : Option (Int32 × Unit) := B_X7_hasNeeded_0   su_who su_against su_kind su_won su_day su_land su_undoneFrom su_askedCount su_askedBits su_first su_foundSo su_foundNot su_fought su_needed x1 
set_option maxHeartbeats 4000000 in
set_option maxRecDepth 100000 in
theorem L_X7_hasNeeded_0 {p : Program} {l : Launch} {e : Env} {s : State} {m : MethodId} {args : Array Value} {below : List Frame} {meth : Method} {c : Code} {A : Nat → Prop} {D : va_G} {cs : Nat → ClassId} {ad : Nat → Nat} {h_su : Nat} {h_su_asked : Nat} {su_who : Int32} {su_against : Int32} {su_kind : Int32} {su_won : Int32} {su_day : Int32} {su_land : Int32} {su_undoneFrom : Int32} {su_askedCount : Int32} {su_askedBits : Int32} {su_first : Int32} {su_foundSo : Int32} {su_foundNot : Int32} {su_fought : Int32} {su_needed : Int32} {R : Int32 × Unit} (C0 : zC p s m args meth c cX7_hasNeeded 2 (some .boolean) RX7 zW) (hK : va_K D classes (zT cs) s) (hA : ∀ q : Nat, s.heap.size ≤ q → A q) (x1 : Int32) (h : B_X7_hasNeeded_0 su_who su_against su_kind su_won su_day su_land su_undoneFrom su_askedCount su_askedBits su_first su_foundSo su_foundNot su_fought su_needed x1 = some R) (H : Heap) (locs : List Loc) (ls : Array Slot) (hP : va_P D classes (wl_X7_hasNeeded ad cs h_su h_su_asked su_who su_against su_kind su_won su_day su_land su_undoneFrom su_askedCount su_askedBits su_first su_foundSo su_foundNot su_fought su_needed) H) (hD : va_D A (wl_X7_hasNeeded ad cs h_su h_su_asked su_who su_against su_kind su_won su_day su_land su_undoneFrom su_askedCount su_askedBits su_first su_foundSo su_foundNot su_fought su_needed)) (hS : va_S A s.heap H locs) (hl : lv_has ls 2 [(0, .ref h_su), (1, .int x1)]) : W p l e rm_X7_hasNeeded s m args below meth c H locs 0 0 (MQ below (Q_X7_hasNeeded D cs ad h_su h_su_asked su_who su_against su_kind su_won su_day su_land su_undoneFrom su_askedCount su_askedBits su_first su_foundSo su_foundNot su_fought su_needed A R) args s 0 0 A) (F0 m 0 ls []) := by
  obtain ⟨hx, hb, hr, hml, hown, ht, hlocks⟩ := id C0
  refine lv_aload_n hx hb dX7_hasNeeded_0 rfl (lv_at hl 0 rfl) ?_
  refine va_get (D := D) (ci := 7) (v := .int su_needed) (C := RX7) (T := TX7) (N := 15) hx hb ht iX7 hown hK hP 0 rfl rfl 14 (by decide) (ht _ kw_353) (fun _ h9 => h9) rfl dX7_hasNeeded_1 ?_
  refine lv_iload_n hx hb dX7_hasNeeded_4 rfl (lv_at hl 1 rfl) ?_
  refine lv_ishr hx hb dX7_hasNeeded_5 ?_
  refine lv_iconst (v := (1 : Int32)) hx hb dX7_hasNeeded_6 (by decide) ?_
  refine lv_iand hx hb dX7_hasNeeded_7 ?_
  refine lv_if_eq (tgt := 15) hx hb dX7_hasNeeded_8 (by decide) (fun c_1 => ?_) (fun c_1 => ?_)
  · have h := zk_t c_1 h
    refine lv_iconst (v := (0 : Int32)) hx hb dX7_hasNeeded_15 (by decide) ?_
    exact W.zret (ty := .boolean) (v := (0 : Int32)) hx hb hr rfl (fun t ht2 hW => ⟨⟨(0 : Int32), (), rfl, Option.some.inj h, by rw [ht2]; exact hP, hD⟩, hS.F ht2⟩) hS.2.2 dX7_hasNeeded_16 hlocks
  · have h := zk_f c_1 h
    refine lv_iconst (v := (1 : Int32)) hx hb dX7_hasNeeded_11 (by decide) ?_
    refine lv_goto (tgt := 16) hx hb dX7_hasNeeded_12 (by decide) ?_
    exact W.zret (ty := .boolean) (v := (1 : Int32)) hx hb hr rfl (fun t ht2 hW => ⟨⟨(1 : Int32), (), rfl, Option.some.inj h, by rw [ht2]; exact hP, hD⟩, hS.F ht2⟩) hS.2.2 dX7_hasNeeded_16 hlocks
set_option maxHeartbeats 4000000 in
set_option maxRecDepth 100000 in
theorem c_X7_hasNeeded (l : Launch) (D : va_G) (cs : Nat → ClassId) (ad : Nat → Nat) (h_su : Nat) (h_su_asked : Nat) (sz : Nat) (x1 : Int32) (su_who : Int32) (su_against : Int32) (su_kind : Int32) (su_won : Int32) (su_day : Int32) (su_land : Int32) (su_undoneFrom : Int32) (su_askedCount : Int32) (su_askedBits : Int32) (su_first : Int32) (su_foundSo : Int32) (su_foundNot : Int32) (su_fought : Int32) (su_needed : Int32) (R : Int32 × Unit) (h : f_X7_hasNeeded   x1 su_who su_against su_kind su_won su_day su_land su_undoneFrom su_askedCount su_askedBits su_first su_foundSo su_foundNot su_fought su_needed = some R) : Met l yX7_hasNeeded (z_X7_hasNeeded) rm_X7_hasNeeded (va_Pc [.ref h_su, .int x1] (zPre D cs (wl_X7_hasNeeded ad cs h_su h_su_asked su_who su_against su_kind su_won su_day su_land su_undoneFrom su_askedCount su_askedBits su_first su_foundSo su_foundNot su_fought su_needed) sz)) (Q_X7_hasNeeded D cs ad h_su h_su_asked su_who su_against su_kind su_won su_day su_land su_undoneFrom su_askedCount su_askedBits su_first su_foundSo su_foundNot su_fought su_needed (va_A (wl_X7_hasNeeded ad cs h_su h_su_asked su_who su_against su_kind su_won su_day su_land su_undoneFrom su_askedCount su_askedBits su_first su_foundSo su_foundNot su_fought su_needed) sz) R) 0 0 (va_A (wl_X7_hasNeeded ad cs h_su h_su_asked su_who su_against su_kind su_won su_day su_land su_undoneFrom su_askedCount su_askedBits su_first su_foundSo su_foundNot su_fought su_needed) sz) := by
  refine Met.ofW (cc := cX7_hasNeeded) (maxL := 2) (ret := (some .boolean)) (by decide) rfl ?_
  intro p e s m args below meth c s₁ B hml hv
  obtain ⟨rfl, hsz, hP, hK, hD0⟩ := hv
  subst hsz
  have hD := hD0.self (sz := s.heap.size)
  have C0 : zC p s m _ meth c cX7_hasNeeded 2 (some .boolean) RX7 zW := ⟨B.exec, B.bytes, B.returns, hml, findClass_of_methodNamed B.named, fun w hw => atoms_spec (ws := z_X7_hasNeeded) B.pre w (List.mem_cons_of_mem _ hw), B.notSynchronized⟩
  have hA : ∀ q : Nat, s.heap.size ≤ q → va_A (wl_X7_hasNeeded ad cs h_su h_su_asked su_who su_against su_kind su_won su_day su_land su_undoneFrom su_askedCount su_askedBits su_first su_foundSo su_foundNot su_fought su_needed) s.heap.size q := fun q h => Or.inr h
  have hl := lv_entry ([.ref h_su, .int x1]) (n := 2) (Nat.le_of_ble_eq_true rfl)
  rw [lg_entry_eq]
  generalize (lg_sl ([.ref h_su, .int x1]) ++ List.replicate (2 - (lg_sl ([.ref h_su, .int x1])).length) Slot.unset).toArray = ls at hl ⊢
  exact L_X7_hasNeeded_0 C0 hK hA   x1  h s.heap [] ls hP hD va_S.rf hl
theorem dX7_wayOf_0 : decode cX7_wayOf 0 = .ok (.aload_n 0, 1) := by decide +kernel
theorem dX7_wayOf_1 : decode cX7_wayOf 1 = .ok (.getfield 28, 3) := by decide +kernel
theorem dX7_wayOf_4 : decode cX7_wayOf 4 = .ok (.iload_n 1, 1) := by decide +kernel
theorem dX7_wayOf_5 : decode cX7_wayOf 5 = .ok (.ishr, 1) := by decide +kernel
theorem dX7_wayOf_6 : decode cX7_wayOf 6 = .ok (.iconst 1, 1) := by decide +kernel
theorem dX7_wayOf_7 : decode cX7_wayOf 7 = .ok (.iand, 1) := by decide +kernel
theorem dX7_wayOf_8 : decode cX7_wayOf 8 = .ok (.iconst 2, 1) := by decide +kernel
theorem dX7_wayOf_9 : decode cX7_wayOf 9 = .ok (.aload_n 0, 1) := by decide +kernel
theorem dX7_wayOf_10 : decode cX7_wayOf 10 = .ok (.getfield 31, 3) := by decide +kernel
theorem dX7_wayOf_13 : decode cX7_wayOf 13 = .ok (.iload_n 1, 1) := by decide +kernel
theorem dX7_wayOf_14 : decode cX7_wayOf 14 = .ok (.ishr, 1) := by decide +kernel
theorem dX7_wayOf_15 : decode cX7_wayOf 15 = .ok (.iconst 1, 1) := by decide +kernel
theorem dX7_wayOf_16 : decode cX7_wayOf 16 = .ok (.iand, 1) := by decide +kernel
theorem dX7_wayOf_17 : decode cX7_wayOf 17 = .ok (.imul, 1) := by decide +kernel
theorem dX7_wayOf_18 : decode cX7_wayOf 18 = .ok (.iadd, 1) := by decide +kernel
theorem dX7_wayOf_19 : decode cX7_wayOf 19 = .ok (.ireturn, 1) := by decide +kernel
abbrev z_X7_wayOf : List Cond := .code yX7_wayOf cX7_wayOf 2 (some .int) :: zW
abbrev wl_X7_wayOf (ad : Nat → Nat) (cs : Nat → ClassId) (h_su : Nat) (h_su_asked : Nat) (su_who : Int32) (su_against : Int32) (su_kind : Int32) (su_won : Int32) (su_day : Int32) (su_land : Int32) (su_undoneFrom : Int32) (su_askedCount : Int32) (su_askedBits : Int32) (su_first : Int32) (su_foundSo : Int32) (su_foundNot : Int32) (su_fought : Int32) (su_needed : Int32) : va_W := [(h_su, .inr (7, [.int su_who, .int su_against, .int su_kind, .int su_won, .int su_day, .int su_land, .int su_undoneFrom, .ref h_su_asked, .int su_askedCount, .int su_askedBits, .int su_first, .int su_foundSo, .int su_foundNot, .int su_fought, .int su_needed]))]
def Q_X7_wayOf (D : va_G) (cs : Nat → ClassId) (ad : Nat → Nat) (h_su : Nat) (h_su_asked : Nat) (su_who : Int32) (su_against : Int32) (su_kind : Int32) (su_won : Int32) (su_day : Int32) (su_land : Int32) (su_undoneFrom : Int32) (su_askedCount : Int32) (su_askedBits : Int32) (su_first : Int32) (su_foundSo : Int32) (su_foundNot : Int32) (su_fought : Int32) (su_needed : Int32) (A : Nat → Prop) (R : Int32 × Unit) : Array Value → State → Outcome → State → Prop :=
  va_Qi (fun (r : Int32) (u : Unit) => (r, u) = R) (fun (u : Unit) (t : State) => va_P D classes (wl_X7_wayOf ad cs h_su h_su_asked su_who su_against su_kind su_won su_day su_land su_undoneFrom su_askedCount su_askedBits su_first su_foundSo su_foundNot su_fought su_needed) t.heap ∧ va_D A (wl_X7_wayOf ad cs h_su h_su_asked su_who su_against su_kind su_won su_day su_land su_undoneFrom su_askedCount su_askedBits su_first su_foundSo su_foundNot su_fought su_needed)) A
abbrev rm_X7_wayOf : Room := { frames := 0, cells := 0, slots := 0, locals := 0 }
def B_X7_wayOf_0    (su_who : Int32) (su_against : Int32) (su_kind : Int32) (su_won : Int32) (su_day : Int32) (su_land : Int32) (su_undoneFrom : Int32) (su_askedCount : Int32) (su_askedBits : Int32) (su_first : Int32) (su_foundSo : Int32) (su_foundNot : Int32) (su_fought : Int32) (su_needed : Int32) (x1 : Int32) : Option (Int32 × Unit) :=
  (some (((su_foundSo >>> (x1 &&& 31)) &&& (1 : Int32)) + ((2 : Int32) * ((su_foundNot >>> (x1 &&& 31)) &&& (1 : Int32))), ()))
def f_X7_wayOf   (x1 : Int32) (su_who : Int32) (su_against : Int32) (su_kind : Int32) (su_won : Int32) (su_day : Int32) (su_land : Int32) (su_undoneFrom : Int32) (su_askedCount : Int32) (su_askedBits : Int32) (su_first : Int32) (su_foundSo : Int32) (su_foundNot : Int32) (su_fought : Int32) (su_needed : Int32) : Option (Int32 × Unit) := B_X7_wayOf_0   su_who su_against su_kind su_won su_day su_land su_undoneFrom su_askedCount su_askedBits su_first su_foundSo su_foundNot su_fought su_needed x1 
set_option maxHeartbeats 4000000 in
set_option maxRecDepth 100000 in
theorem L_X7_wayOf_0 {p : Program} {l : Launch} {e : Env} {s : State} {m : MethodId} {args : Array Value} {below : List Frame} {meth : Method} {c : Code} {A : Nat → Prop} {D : va_G} {cs : Nat → ClassId} {ad : Nat → Nat} {h_su : Nat} {h_su_asked : Nat} {su_who : Int32} {su_against : Int32} {su_kind : Int32} {su_won : Int32} {su_day : Int32} {su_land : Int32} {su_undoneFrom : Int32} {su_askedCount : Int32} {su_askedBits : Int32} {su_first : Int32} {su_foundSo : Int32} {su_foundNot : Int32} {su_fought : Int32} {su_needed : Int32} {R : Int32 × Unit} (C0 : zC p s m args meth c cX7_wayOf 2 (some .int) RX7 zW) (hK : va_K D classes (zT cs) s) (hA : ∀ q : Nat, s.heap.size ≤ q → A q) (x1 : Int32) (h : B_X7_wayOf_0 su_who su_against su_kind su_won su_day su_land su_undoneFrom su_askedCount su_askedBits su_first su_foundSo su_foundNot su_fought su_needed x1 = some R) (H : Heap) (locs : List Loc) (ls : Array Slot) (hP : va_P D classes (wl_X7_wayOf ad cs h_su h_su_asked su_who su_against su_kind su_won su_day su_land su_undoneFrom su_askedCount su_askedBits su_first su_foundSo su_foundNot su_fought su_needed) H) (hD : va_D A (wl_X7_wayOf ad cs h_su h_su_asked su_who su_against su_kind su_won su_day su_land su_undoneFrom su_askedCount su_askedBits su_first su_foundSo su_foundNot su_fought su_needed)) (hS : va_S A s.heap H locs) (hl : lv_has ls 2 [(0, .ref h_su), (1, .int x1)]) : W p l e rm_X7_wayOf s m args below meth c H locs 0 0 (MQ below (Q_X7_wayOf D cs ad h_su h_su_asked su_who su_against su_kind su_won su_day su_land su_undoneFrom su_askedCount su_askedBits su_first su_foundSo su_foundNot su_fought su_needed A R) args s 0 0 A) (F0 m 0 ls []) := by
  obtain ⟨hx, hb, hr, hml, hown, ht, hlocks⟩ := id C0
  refine lv_aload_n hx hb dX7_wayOf_0 rfl (lv_at hl 0 rfl) ?_
  refine va_get (D := D) (ci := 7) (v := .int su_foundSo) (C := RX7) (T := TX7) (N := 15) hx hb ht iX7 hown hK hP 0 rfl rfl 11 (by decide) (ht _ kw_346) (fun _ h9 => h9) rfl dX7_wayOf_1 ?_
  refine lv_iload_n hx hb dX7_wayOf_4 rfl (lv_at hl 1 rfl) ?_
  refine lv_ishr hx hb dX7_wayOf_5 ?_
  refine lv_iconst (v := (1 : Int32)) hx hb dX7_wayOf_6 (by decide) ?_
  refine lv_iand hx hb dX7_wayOf_7 ?_
  refine lv_iconst (v := (2 : Int32)) hx hb dX7_wayOf_8 (by decide) ?_
  refine lv_aload_n hx hb dX7_wayOf_9 rfl (lv_at hl 0 rfl) ?_
  refine va_get (D := D) (ci := 7) (v := .int su_foundNot) (C := RX7) (T := TX7) (N := 15) hx hb ht iX7 hown hK hP 0 rfl rfl 12 (by decide) (ht _ kw_348) (fun _ h9 => h9) rfl dX7_wayOf_10 ?_
  refine lv_iload_n hx hb dX7_wayOf_13 rfl (lv_at hl 1 rfl) ?_
  refine lv_ishr hx hb dX7_wayOf_14 ?_
  refine lv_iconst (v := (1 : Int32)) hx hb dX7_wayOf_15 (by decide) ?_
  refine lv_iand hx hb dX7_wayOf_16 ?_
  refine lv_imul hx hb dX7_wayOf_17 ?_
  refine lv_iadd hx hb dX7_wayOf_18 ?_
  exact W.iret (v := ((su_foundSo >>> (x1 &&& 31)) &&& (1 : Int32)) + ((2 : Int32) * ((su_foundNot >>> (x1 &&& 31)) &&& (1 : Int32)))) hx hb hr (fun t ht2 hW => ⟨⟨((su_foundSo >>> (x1 &&& 31)) &&& (1 : Int32)) + ((2 : Int32) * ((su_foundNot >>> (x1 &&& 31)) &&& (1 : Int32))), (), rfl, Option.some.inj h, by rw [ht2]; exact hP, hD⟩, hS.F ht2⟩) hS.2.2 dX7_wayOf_19 hlocks
set_option maxHeartbeats 4000000 in
set_option maxRecDepth 100000 in
theorem c_X7_wayOf (l : Launch) (D : va_G) (cs : Nat → ClassId) (ad : Nat → Nat) (h_su : Nat) (h_su_asked : Nat) (sz : Nat) (x1 : Int32) (su_who : Int32) (su_against : Int32) (su_kind : Int32) (su_won : Int32) (su_day : Int32) (su_land : Int32) (su_undoneFrom : Int32) (su_askedCount : Int32) (su_askedBits : Int32) (su_first : Int32) (su_foundSo : Int32) (su_foundNot : Int32) (su_fought : Int32) (su_needed : Int32) (R : Int32 × Unit) (h : f_X7_wayOf   x1 su_who su_against su_kind su_won su_day su_land su_undoneFrom su_askedCount su_askedBits su_first su_foundSo su_foundNot su_fought su_needed = some R) : Met l yX7_wayOf (z_X7_wayOf) rm_X7_wayOf (va_Pc [.ref h_su, .int x1] (zPre D cs (wl_X7_wayOf ad cs h_su h_su_asked su_who su_against su_kind su_won su_day su_land su_undoneFrom su_askedCount su_askedBits su_first su_foundSo su_foundNot su_fought su_needed) sz)) (Q_X7_wayOf D cs ad h_su h_su_asked su_who su_against su_kind su_won su_day su_land su_undoneFrom su_askedCount su_askedBits su_first su_foundSo su_foundNot su_fought su_needed (va_A (wl_X7_wayOf ad cs h_su h_su_asked su_who su_against su_kind su_won su_day su_land su_undoneFrom su_askedCount su_askedBits su_first su_foundSo su_foundNot su_fought su_needed) sz) R) 0 0 (va_A (wl_X7_wayOf ad cs h_su h_su_asked su_who su_against su_kind su_won su_day su_land su_undoneFrom su_askedCount su_askedBits su_first su_foundSo su_foundNot su_fought su_needed) sz) := by
  refine Met.ofW (cc := cX7_wayOf) (maxL := 2) (ret := (some .int)) (by decide) rfl ?_
  intro p e s m args below meth c s₁ B hml hv
  obtain ⟨rfl, hsz, hP, hK, hD0⟩ := hv
  subst hsz
  have hD := hD0.self (sz := s.heap.size)
  have C0 : zC p s m _ meth c cX7_wayOf 2 (some .int) RX7 zW := ⟨B.exec, B.bytes, B.returns, hml, findClass_of_methodNamed B.named, fun w hw => atoms_spec (ws := z_X7_wayOf) B.pre w (List.mem_cons_of_mem _ hw), B.notSynchronized⟩
  have hA : ∀ q : Nat, s.heap.size ≤ q → va_A (wl_X7_wayOf ad cs h_su h_su_asked su_who su_against su_kind su_won su_day su_land su_undoneFrom su_askedCount su_askedBits su_first su_foundSo su_foundNot su_fought su_needed) s.heap.size q := fun q h => Or.inr h
  have hl := lv_entry ([.ref h_su, .int x1]) (n := 2) (Nat.le_of_ble_eq_true rfl)
  rw [lg_entry_eq]
  generalize (lg_sl ([.ref h_su, .int x1]) ++ List.replicate (2 - (lg_sl ([.ref h_su, .int x1])).length) Slot.unset).toArray = ls at hl ⊢
  exact L_X7_wayOf_0 C0 hK hA   x1  h s.heap [] ls hP hD va_S.rf hl
theorem kw_350 : Cond.fieldLink RX7 34 "AlreadyJudged$Suit" "fought" "I" ∈ zW := zwI (i := 350) (by decide +kernel) (by decide +kernel)
theorem kw_944 : Cond.methodLink RX7 40 yX7_wayOf ∈ zW := zwI (i := 944) (by decide +kernel) (by decide +kernel)
theorem kw_945 : Cond.instanceMethod yX7_wayOf ∈ zW := zwI (i := 945) (by decide +kernel) (by decide +kernel)
theorem kw_946 : Cond.selects RX7 yX7_wayOf yX7_wayOf ∈ zW := zwI (i := 946) (by decide +kernel) (by decide +kernel)
theorem kw_947 : Cond.code yX7_wayOf cX7_wayOf 2 (some .int) ∈ zW := zwI (i := 947) (by decide +kernel) (by decide +kernel)
theorem dX7_pointBits_0 : decode cX7_pointBits 0 = .ok (.aload_n 0, 1) := by decide +kernel
theorem dX7_pointBits_1 : decode cX7_pointBits 1 = .ok (.iload_n 1, 1) := by decide +kernel
theorem dX7_pointBits_2 : decode cX7_pointBits 2 = .ok (.invokevirtual 40, 3) := by decide +kernel
theorem dX7_pointBits_5 : decode cX7_pointBits 5 = .ok (.iconst 4, 1) := by decide +kernel
theorem dX7_pointBits_6 : decode cX7_pointBits 6 = .ok (.aload_n 0, 1) := by decide +kernel
theorem dX7_pointBits_7 : decode cX7_pointBits 7 = .ok (.getfield 34, 3) := by decide +kernel
theorem dX7_pointBits_10 : decode cX7_pointBits 10 = .ok (.iload_n 1, 1) := by decide +kernel
theorem dX7_pointBits_11 : decode cX7_pointBits 11 = .ok (.ishr, 1) := by decide +kernel
theorem dX7_pointBits_12 : decode cX7_pointBits 12 = .ok (.iconst 1, 1) := by decide +kernel
theorem dX7_pointBits_13 : decode cX7_pointBits 13 = .ok (.iand, 1) := by decide +kernel
theorem dX7_pointBits_14 : decode cX7_pointBits 14 = .ok (.imul, 1) := by decide +kernel
theorem dX7_pointBits_15 : decode cX7_pointBits 15 = .ok (.iadd, 1) := by decide +kernel
theorem dX7_pointBits_16 : decode cX7_pointBits 16 = .ok (.bipush 8, 2) := by decide +kernel
theorem dX7_pointBits_18 : decode cX7_pointBits 18 = .ok (.aload_n 0, 1) := by decide +kernel
theorem dX7_pointBits_19 : decode cX7_pointBits 19 = .ok (.getfield 37, 3) := by decide +kernel
theorem dX7_pointBits_22 : decode cX7_pointBits 22 = .ok (.iload_n 1, 1) := by decide +kernel
theorem dX7_pointBits_23 : decode cX7_pointBits 23 = .ok (.ishr, 1) := by decide +kernel
theorem dX7_pointBits_24 : decode cX7_pointBits 24 = .ok (.iconst 1, 1) := by decide +kernel
theorem dX7_pointBits_25 : decode cX7_pointBits 25 = .ok (.iand, 1) := by decide +kernel
theorem dX7_pointBits_26 : decode cX7_pointBits 26 = .ok (.imul, 1) := by decide +kernel
theorem dX7_pointBits_27 : decode cX7_pointBits 27 = .ok (.iadd, 1) := by decide +kernel
theorem dX7_pointBits_28 : decode cX7_pointBits 28 = .ok (.ireturn, 1) := by decide +kernel
abbrev z_X7_pointBits : List Cond := .code yX7_pointBits cX7_pointBits 2 (some .int) :: zW
abbrev wl_X7_pointBits (ad : Nat → Nat) (cs : Nat → ClassId) (h_su : Nat) (h_su_asked : Nat) (su_who : Int32) (su_against : Int32) (su_kind : Int32) (su_won : Int32) (su_day : Int32) (su_land : Int32) (su_undoneFrom : Int32) (su_askedCount : Int32) (su_askedBits : Int32) (su_first : Int32) (su_foundSo : Int32) (su_foundNot : Int32) (su_fought : Int32) (su_needed : Int32) : va_W := [(h_su, .inr (7, [.int su_who, .int su_against, .int su_kind, .int su_won, .int su_day, .int su_land, .int su_undoneFrom, .ref h_su_asked, .int su_askedCount, .int su_askedBits, .int su_first, .int su_foundSo, .int su_foundNot, .int su_fought, .int su_needed]))]
def Q_X7_pointBits (D : va_G) (cs : Nat → ClassId) (ad : Nat → Nat) (h_su : Nat) (h_su_asked : Nat) (su_who : Int32) (su_against : Int32) (su_kind : Int32) (su_won : Int32) (su_day : Int32) (su_land : Int32) (su_undoneFrom : Int32) (su_askedCount : Int32) (su_askedBits : Int32) (su_first : Int32) (su_foundSo : Int32) (su_foundNot : Int32) (su_fought : Int32) (su_needed : Int32) (A : Nat → Prop) (R : Int32 × Unit) : Array Value → State → Outcome → State → Prop :=
  va_Qi (fun (r : Int32) (u : Unit) => (r, u) = R) (fun (u : Unit) (t : State) => va_P D classes (wl_X7_pointBits ad cs h_su h_su_asked su_who su_against su_kind su_won su_day su_land su_undoneFrom su_askedCount su_askedBits su_first su_foundSo su_foundNot su_fought su_needed) t.heap ∧ va_D A (wl_X7_pointBits ad cs h_su h_su_asked su_who su_against su_kind su_won su_day su_land su_undoneFrom su_askedCount su_askedBits su_first su_foundSo su_foundNot su_fought su_needed)) A
abbrev rm_X7_pointBits : Room := { frames := 1, cells := 0, slots := 0, locals := 21 }
theorem g_X7_40 : GoodIn zW (wsV RX7 40 RX7 yX7_wayOf z_X7_wayOf) := zGV kw_944 kw_945 kw_946 kw_82 kw_947
def B_X7_pointBits_0    (su_who : Int32) (su_against : Int32) (su_kind : Int32) (su_won : Int32) (su_day : Int32) (su_land : Int32) (su_undoneFrom : Int32) (su_askedCount : Int32) (su_askedBits : Int32) (su_first : Int32) (su_foundSo : Int32) (su_foundNot : Int32) (su_fought : Int32) (su_needed : Int32) (x1 : Int32) : Option (Int32 × Unit) :=
  (zk_b2 (f_X7_wayOf x1 su_who su_against su_kind su_won su_day su_land su_undoneFrom su_askedCount su_askedBits su_first su_foundSo su_foundNot su_fought su_needed) (fun r_1 u_2 => (some ((r_1 + ((4 : Int32) * ((su_fought >>> (x1 &&& 31)) &&& (1 : Int32)))) + ((8 : Int32) * ((su_needed >>> (x1 &&& 31)) &&& (1 : Int32))), ()))))
def f_X7_pointBits   (x1 : Int32) (su_who : Int32) (su_against : Int32) (su_kind : Int32) (su_won : Int32) (su_day : Int32) (su_land : Int32) (su_undoneFrom : Int32) (su_askedCount : Int32) (su_askedBits : Int32) (su_first : Int32) (su_foundSo : Int32) (su_foundNot : Int32) (su_fought : Int32) (su_needed : Int32) : Option (Int32 × Unit) := B_X7_pointBits_0   su_who su_against su_kind su_won su_day su_land su_undoneFrom su_askedCount su_askedBits su_first su_foundSo su_foundNot su_fought su_needed x1 
set_option maxHeartbeats 4000000 in
set_option maxRecDepth 100000 in
theorem L_X7_pointBits_0 {p : Program} {l : Launch} {e : Env} {s : State} {m : MethodId} {args : Array Value} {below : List Frame} {meth : Method} {c : Code} {A : Nat → Prop} {D : va_G} {cs : Nat → ClassId} {ad : Nat → Nat} {h_su : Nat} {h_su_asked : Nat} {su_who : Int32} {su_against : Int32} {su_kind : Int32} {su_won : Int32} {su_day : Int32} {su_land : Int32} {su_undoneFrom : Int32} {su_askedCount : Int32} {su_askedBits : Int32} {su_first : Int32} {su_foundSo : Int32} {su_foundNot : Int32} {su_fought : Int32} {su_needed : Int32} {R : Int32 × Unit} (C0 : zC p s m args meth c cX7_pointBits 2 (some .int) RX7 zW) (hK : va_K D classes (zT cs) s) (hA : ∀ q : Nat, s.heap.size ≤ q → A q) (x1 : Int32) (h : B_X7_pointBits_0 su_who su_against su_kind su_won su_day su_land su_undoneFrom su_askedCount su_askedBits su_first su_foundSo su_foundNot su_fought su_needed x1 = some R) (H : Heap) (locs : List Loc) (ls : Array Slot) (hP : va_P D classes (wl_X7_pointBits ad cs h_su h_su_asked su_who su_against su_kind su_won su_day su_land su_undoneFrom su_askedCount su_askedBits su_first su_foundSo su_foundNot su_fought su_needed) H) (hD : va_D A (wl_X7_pointBits ad cs h_su h_su_asked su_who su_against su_kind su_won su_day su_land su_undoneFrom su_askedCount su_askedBits su_first su_foundSo su_foundNot su_fought su_needed)) (hS : va_S A s.heap H locs) (hl : lv_has ls 2 [(0, .ref h_su), (1, .int x1)]) : W p l e rm_X7_pointBits s m args below meth c H locs 0 0 (MQ below (Q_X7_pointBits D cs ad h_su h_su_asked su_who su_against su_kind su_won su_day su_land su_undoneFrom su_askedCount su_askedBits su_first su_foundSo su_foundNot su_fought su_needed A R) args s 0 0 A) (F0 m 0 ls []) := by
  obtain ⟨hx, hb, hr, hml, hown, ht, hlocks⟩ := id C0
  refine lv_aload_n hx hb dX7_pointBits_0 rfl (lv_at hl 0 rfl) ?_
  refine lv_iload_n hx hb dX7_pointBits_1 rfl (lv_at hl 1 rfl) ?_
  obtain ⟨r_1, u_2, hc_3, h⟩ := zk_o2 h
  refine zk_vi (post := (fun r u => (r, u) = (r_1, u_2))) (w1 := fun u => (wl_X7_wayOf ad cs h_su h_su_asked su_who su_against su_kind su_won su_day su_land su_undoneFrom su_askedCount su_askedBits su_first su_foundSo su_foundNot su_fought su_needed)) (As := [.int x1]) (rest := []) (c_X7_wayOf l D cs ad h_su h_su_asked H.size x1 su_who su_against su_kind su_won su_day su_land su_undoneFrom su_askedCount su_askedBits su_first su_foundSo su_foundNot su_fought su_needed _ hc_3) ⟨hx, hb, hml, hown, ht⟩ (cwV 1 ht g_X7_40 rfl rfl rfl (by decide +kernel) ⟨Nat.le_of_ble_eq_true rfl, Nat.le_of_ble_eq_true rfl⟩) (va_recv hK hP (ci := 7) (q0 := 0) rfl rfl) hP hD hS hK hA [0] [] rfl rfl rfl rfl (by decide) rfl hl.1 (Nat.le_of_ble_eq_true rfl) dX7_pointBits_2 ⟨Nat.zero_le _, Nat.zero_le _⟩ (fun r u H locs hq hP hD hS => ?_)
  cases hq
  have hP : va_P D classes (wl_X7_pointBits ad cs h_su h_su_asked su_who su_against su_kind su_won su_day su_land su_undoneFrom su_askedCount su_askedBits su_first su_foundSo su_foundNot su_fought su_needed) H := hP.sub [0] rfl
  have hD : va_D A (wl_X7_pointBits ad cs h_su h_su_asked su_who su_against su_kind su_won su_day su_land su_undoneFrom su_askedCount su_askedBits su_first su_foundSo su_foundNot su_fought su_needed) := hD.sub [0] rfl rfl
  refine lv_iconst (v := (4 : Int32)) hx hb dX7_pointBits_5 (by decide) ?_
  refine lv_aload_n hx hb dX7_pointBits_6 rfl (lv_at hl 0 rfl) ?_
  refine va_get (D := D) (ci := 7) (v := .int su_fought) (C := RX7) (T := TX7) (N := 15) hx hb ht iX7 hown hK hP 0 rfl rfl 13 (by decide) (ht _ kw_350) (fun _ h9 => h9) rfl dX7_pointBits_7 ?_
  refine lv_iload_n hx hb dX7_pointBits_10 rfl (lv_at hl 1 rfl) ?_
  refine lv_ishr hx hb dX7_pointBits_11 ?_
  refine lv_iconst (v := (1 : Int32)) hx hb dX7_pointBits_12 (by decide) ?_
  refine lv_iand hx hb dX7_pointBits_13 ?_
  refine lv_imul hx hb dX7_pointBits_14 ?_
  refine lv_iadd hx hb dX7_pointBits_15 ?_
  refine lv_bipush (v := (8 : Int32)) hx hb dX7_pointBits_16 (by decide) ?_
  refine lv_aload_n hx hb dX7_pointBits_18 rfl (lv_at hl 0 rfl) ?_
  refine va_get (D := D) (ci := 7) (v := .int su_needed) (C := RX7) (T := TX7) (N := 15) hx hb ht iX7 hown hK hP 0 rfl rfl 14 (by decide) (ht _ kw_353) (fun _ h9 => h9) rfl dX7_pointBits_19 ?_
  refine lv_iload_n hx hb dX7_pointBits_22 rfl (lv_at hl 1 rfl) ?_
  refine lv_ishr hx hb dX7_pointBits_23 ?_
  refine lv_iconst (v := (1 : Int32)) hx hb dX7_pointBits_24 (by decide) ?_
  refine lv_iand hx hb dX7_pointBits_25 ?_
  refine lv_imul hx hb dX7_pointBits_26 ?_
  refine lv_iadd hx hb dX7_pointBits_27 ?_
  exact W.iret (v := (r_1 + ((4 : Int32) * ((su_fought >>> (x1 &&& 31)) &&& (1 : Int32)))) + ((8 : Int32) * ((su_needed >>> (x1 &&& 31)) &&& (1 : Int32)))) hx hb hr (fun t ht2 hW => ⟨⟨(r_1 + ((4 : Int32) * ((su_fought >>> (x1 &&& 31)) &&& (1 : Int32)))) + ((8 : Int32) * ((su_needed >>> (x1 &&& 31)) &&& (1 : Int32))), (), rfl, Option.some.inj h, by rw [ht2]; exact hP, hD⟩, hS.F ht2⟩) hS.2.2 dX7_pointBits_28 hlocks
set_option maxHeartbeats 4000000 in
set_option maxRecDepth 100000 in
theorem c_X7_pointBits (l : Launch) (D : va_G) (cs : Nat → ClassId) (ad : Nat → Nat) (h_su : Nat) (h_su_asked : Nat) (sz : Nat) (x1 : Int32) (su_who : Int32) (su_against : Int32) (su_kind : Int32) (su_won : Int32) (su_day : Int32) (su_land : Int32) (su_undoneFrom : Int32) (su_askedCount : Int32) (su_askedBits : Int32) (su_first : Int32) (su_foundSo : Int32) (su_foundNot : Int32) (su_fought : Int32) (su_needed : Int32) (R : Int32 × Unit) (h : f_X7_pointBits   x1 su_who su_against su_kind su_won su_day su_land su_undoneFrom su_askedCount su_askedBits su_first su_foundSo su_foundNot su_fought su_needed = some R) : Met l yX7_pointBits (z_X7_pointBits) rm_X7_pointBits (va_Pc [.ref h_su, .int x1] (zPre D cs (wl_X7_pointBits ad cs h_su h_su_asked su_who su_against su_kind su_won su_day su_land su_undoneFrom su_askedCount su_askedBits su_first su_foundSo su_foundNot su_fought su_needed) sz)) (Q_X7_pointBits D cs ad h_su h_su_asked su_who su_against su_kind su_won su_day su_land su_undoneFrom su_askedCount su_askedBits su_first su_foundSo su_foundNot su_fought su_needed (va_A (wl_X7_pointBits ad cs h_su h_su_asked su_who su_against su_kind su_won su_day su_land su_undoneFrom su_askedCount su_askedBits su_first su_foundSo su_foundNot su_fought su_needed) sz) R) 0 0 (va_A (wl_X7_pointBits ad cs h_su h_su_asked su_who su_against su_kind su_won su_day su_land su_undoneFrom su_askedCount su_askedBits su_first su_foundSo su_foundNot su_fought su_needed) sz) := by
  refine Met.ofW (cc := cX7_pointBits) (maxL := 2) (ret := (some .int)) (by decide) rfl ?_
  intro p e s m args below meth c s₁ B hml hv
  obtain ⟨rfl, hsz, hP, hK, hD0⟩ := hv
  subst hsz
  have hD := hD0.self (sz := s.heap.size)
  have C0 : zC p s m _ meth c cX7_pointBits 2 (some .int) RX7 zW := ⟨B.exec, B.bytes, B.returns, hml, findClass_of_methodNamed B.named, fun w hw => atoms_spec (ws := z_X7_pointBits) B.pre w (List.mem_cons_of_mem _ hw), B.notSynchronized⟩
  have hA : ∀ q : Nat, s.heap.size ≤ q → va_A (wl_X7_pointBits ad cs h_su h_su_asked su_who su_against su_kind su_won su_day su_land su_undoneFrom su_askedCount su_askedBits su_first su_foundSo su_foundNot su_fought su_needed) s.heap.size q := fun q h => Or.inr h
  have hl := lv_entry ([.ref h_su, .int x1]) (n := 2) (Nat.le_of_ble_eq_true rfl)
  rw [lg_entry_eq]
  generalize (lg_sl ([.ref h_su, .int x1]) ++ List.replicate (2 - (lg_sl ([.ref h_su, .int x1])).length) Slot.unset).toArray = ls at hl ⊢
  exact L_X7_pointBits_0 C0 hK hA   x1  h s.heap [] ls hP hD va_S.rf hl
theorem kw_313 : Cond.fieldLink RX7 44 "AlreadyJudged$Suit" "kind" "I" ∈ zW := zwI (i := 313) (by decide +kernel) (by decide +kernel)
theorem dX7_bodyKind_0 : decode cX7_bodyKind 0 = .ok (.aload_n 0, 1) := by decide +kernel
theorem dX7_bodyKind_1 : decode cX7_bodyKind 1 = .ok (.getfield 9, 3) := by decide +kernel
theorem dX7_bodyKind_4 : decode cX7_bodyKind 4 = .ok (.ifCond .lt 7, 3) := by decide +kernel
theorem dX7_bodyKind_7 : decode cX7_bodyKind 7 = .ok (.iconst 5, 1) := by decide +kernel
theorem dX7_bodyKind_8 : decode cX7_bodyKind 8 = .ok (.goto 7, 3) := by decide +kernel
theorem dX7_bodyKind_11 : decode cX7_bodyKind 11 = .ok (.aload_n 0, 1) := by decide +kernel
theorem dX7_bodyKind_12 : decode cX7_bodyKind 12 = .ok (.getfield 44, 3) := by decide +kernel
theorem dX7_bodyKind_15 : decode cX7_bodyKind 15 = .ok (.ireturn, 1) := by decide +kernel
abbrev z_X7_bodyKind : List Cond := .code yX7_bodyKind cX7_bodyKind 1 (some .int) :: zW
abbrev wl_X7_bodyKind (ad : Nat → Nat) (cs : Nat → ClassId) (h_su : Nat) (h_su_asked : Nat) (su_who : Int32) (su_against : Int32) (su_kind : Int32) (su_won : Int32) (su_day : Int32) (su_land : Int32) (su_undoneFrom : Int32) (su_askedCount : Int32) (su_askedBits : Int32) (su_first : Int32) (su_foundSo : Int32) (su_foundNot : Int32) (su_fought : Int32) (su_needed : Int32) : va_W := [(h_su, .inr (7, [.int su_who, .int su_against, .int su_kind, .int su_won, .int su_day, .int su_land, .int su_undoneFrom, .ref h_su_asked, .int su_askedCount, .int su_askedBits, .int su_first, .int su_foundSo, .int su_foundNot, .int su_fought, .int su_needed]))]
def Q_X7_bodyKind (D : va_G) (cs : Nat → ClassId) (ad : Nat → Nat) (h_su : Nat) (h_su_asked : Nat) (su_who : Int32) (su_against : Int32) (su_kind : Int32) (su_won : Int32) (su_day : Int32) (su_land : Int32) (su_undoneFrom : Int32) (su_askedCount : Int32) (su_askedBits : Int32) (su_first : Int32) (su_foundSo : Int32) (su_foundNot : Int32) (su_fought : Int32) (su_needed : Int32) (A : Nat → Prop) (R : Int32 × Unit) : Array Value → State → Outcome → State → Prop :=
  va_Qi (fun (r : Int32) (u : Unit) => (r, u) = R) (fun (u : Unit) (t : State) => va_P D classes (wl_X7_bodyKind ad cs h_su h_su_asked su_who su_against su_kind su_won su_day su_land su_undoneFrom su_askedCount su_askedBits su_first su_foundSo su_foundNot su_fought su_needed) t.heap ∧ va_D A (wl_X7_bodyKind ad cs h_su h_su_asked su_who su_against su_kind su_won su_day su_land su_undoneFrom su_askedCount su_askedBits su_first su_foundSo su_foundNot su_fought su_needed)) A
abbrev rm_X7_bodyKind : Room := { frames := 0, cells := 0, slots := 0, locals := 0 }
def B_X7_bodyKind_0    (su_who : Int32) (su_against : Int32) (su_kind : Int32) (su_won : Int32) (su_day : Int32) (su_land : Int32) (su_undoneFrom : Int32) (su_askedCount : Int32) (su_askedBits : Int32) (su_first : Int32) (su_foundSo : Int32) (su_foundNot : Int32) (su_fought : Int32) (su_needed : Int32)  : Option (Int32 × Unit) :=
  (if su_undoneFrom < 0 then (some (su_kind, ())) else (some ((5 : Int32), ())))
def f_X7_bodyKind    (su_who : Int32) (su_against : Int32) (su_kind : Int32) (su_won : Int32) (su_day : Int32) (su_land : Int32) (su_undoneFrom : Int32) (su_askedCount : Int32) (su_askedBits : Int32) (su_first : Int32) (su_foundSo : Int32) (su_foundNot : Int32) (su_fought : Int32) (su_needed : Int32) : Option (Int32 × Unit) := B_X7_bodyKind_0   su_who su_against su_kind su_won su_day su_land su_undoneFrom su_askedCount su_askedBits su_first su_foundSo su_foundNot su_fought su_needed  
set_option maxHeartbeats 4000000 in
set_option maxRecDepth 100000 in
theorem L_X7_bodyKind_0 {p : Program} {l : Launch} {e : Env} {s : State} {m : MethodId} {args : Array Value} {below : List Frame} {meth : Method} {c : Code} {A : Nat → Prop} {D : va_G} {cs : Nat → ClassId} {ad : Nat → Nat} {h_su : Nat} {h_su_asked : Nat} {su_who : Int32} {su_against : Int32} {su_kind : Int32} {su_won : Int32} {su_day : Int32} {su_land : Int32} {su_undoneFrom : Int32} {su_askedCount : Int32} {su_askedBits : Int32} {su_first : Int32} {su_foundSo : Int32} {su_foundNot : Int32} {su_fought : Int32} {su_needed : Int32} {R : Int32 × Unit} (C0 : zC p s m args meth c cX7_bodyKind 1 (some .int) RX7 zW) (hK : va_K D classes (zT cs) s) (hA : ∀ q : Nat, s.heap.size ≤ q → A q)  (h : B_X7_bodyKind_0 su_who su_against su_kind su_won su_day su_land su_undoneFrom su_askedCount su_askedBits su_first su_foundSo su_foundNot su_fought su_needed = some R) (H : Heap) (locs : List Loc) (ls : Array Slot) (hP : va_P D classes (wl_X7_bodyKind ad cs h_su h_su_asked su_who su_against su_kind su_won su_day su_land su_undoneFrom su_askedCount su_askedBits su_first su_foundSo su_foundNot su_fought su_needed) H) (hD : va_D A (wl_X7_bodyKind ad cs h_su h_su_asked su_who su_against su_kind su_won su_day su_land su_undoneFrom su_askedCount su_askedBits su_first su_foundSo su_foundNot su_fought su_needed)) (hS : va_S A s.heap H locs) (hl : lv_has ls 1 [(0, .ref h_su)]) : W p l e rm_X7_bodyKind s m args below meth c H locs 0 0 (MQ below (Q_X7_bodyKind D cs ad h_su h_su_asked su_who su_against su_kind su_won su_day su_land su_undoneFrom su_askedCount su_askedBits su_first su_foundSo su_foundNot su_fought su_needed A R) args s 0 0 A) (F0 m 0 ls []) := by
  obtain ⟨hx, hb, hr, hml, hown, ht, hlocks⟩ := id C0
  refine lv_aload_n hx hb dX7_bodyKind_0 rfl (lv_at hl 0 rfl) ?_
  refine va_get (D := D) (ci := 7) (v := .int su_undoneFrom) (C := RX7) (T := TX7) (N := 15) hx hb ht iX7 hown hK hP 0 rfl rfl 6 (by decide) (ht _ kw_330) (fun _ h9 => h9) rfl dX7_bodyKind_1 ?_
  refine lv_if_lt (tgt := 11) hx hb dX7_bodyKind_4 (by decide) (fun c_1 => ?_) (fun c_1 => ?_)
  · have h := zk_t c_1 h
    refine lv_aload_n hx hb dX7_bodyKind_11 rfl (lv_at hl 0 rfl) ?_
    refine va_get (D := D) (ci := 7) (v := .int su_kind) (C := RX7) (T := TX7) (N := 15) hx hb ht iX7 hown hK hP 0 rfl rfl 2 (by decide) (ht _ kw_313) (fun _ h9 => h9) rfl dX7_bodyKind_12 ?_
    exact W.iret (v := su_kind) hx hb hr (fun t ht2 hW => ⟨⟨su_kind, (), rfl, Option.some.inj h, by rw [ht2]; exact hP, hD⟩, hS.F ht2⟩) hS.2.2 dX7_bodyKind_15 hlocks
  · have h := zk_f c_1 h
    refine lv_iconst (v := (5 : Int32)) hx hb dX7_bodyKind_7 (by decide) ?_
    refine lv_goto (tgt := 15) hx hb dX7_bodyKind_8 (by decide) ?_
    exact W.iret (v := (5 : Int32)) hx hb hr (fun t ht2 hW => ⟨⟨(5 : Int32), (), rfl, Option.some.inj h, by rw [ht2]; exact hP, hD⟩, hS.F ht2⟩) hS.2.2 dX7_bodyKind_15 hlocks
set_option maxHeartbeats 4000000 in
set_option maxRecDepth 100000 in
theorem c_X7_bodyKind (l : Launch) (D : va_G) (cs : Nat → ClassId) (ad : Nat → Nat) (h_su : Nat) (h_su_asked : Nat) (sz : Nat)  (su_who : Int32) (su_against : Int32) (su_kind : Int32) (su_won : Int32) (su_day : Int32) (su_land : Int32) (su_undoneFrom : Int32) (su_askedCount : Int32) (su_askedBits : Int32) (su_first : Int32) (su_foundSo : Int32) (su_foundNot : Int32) (su_fought : Int32) (su_needed : Int32) (R : Int32 × Unit) (h : f_X7_bodyKind    su_who su_against su_kind su_won su_day su_land su_undoneFrom su_askedCount su_askedBits su_first su_foundSo su_foundNot su_fought su_needed = some R) : Met l yX7_bodyKind (z_X7_bodyKind) rm_X7_bodyKind (va_Pc [.ref h_su] (zPre D cs (wl_X7_bodyKind ad cs h_su h_su_asked su_who su_against su_kind su_won su_day su_land su_undoneFrom su_askedCount su_askedBits su_first su_foundSo su_foundNot su_fought su_needed) sz)) (Q_X7_bodyKind D cs ad h_su h_su_asked su_who su_against su_kind su_won su_day su_land su_undoneFrom su_askedCount su_askedBits su_first su_foundSo su_foundNot su_fought su_needed (va_A (wl_X7_bodyKind ad cs h_su h_su_asked su_who su_against su_kind su_won su_day su_land su_undoneFrom su_askedCount su_askedBits su_first su_foundSo su_foundNot su_fought su_needed) sz) R) 0 0 (va_A (wl_X7_bodyKind ad cs h_su h_su_asked su_who su_against su_kind su_won su_day su_land su_undoneFrom su_askedCount su_askedBits su_first su_foundSo su_foundNot su_fought su_needed) sz) := by
  refine Met.ofW (cc := cX7_bodyKind) (maxL := 1) (ret := (some .int)) (by decide) rfl ?_
  intro p e s m args below meth c s₁ B hml hv
  obtain ⟨rfl, hsz, hP, hK, hD0⟩ := hv
  subst hsz
  have hD := hD0.self (sz := s.heap.size)
  have C0 : zC p s m _ meth c cX7_bodyKind 1 (some .int) RX7 zW := ⟨B.exec, B.bytes, B.returns, hml, findClass_of_methodNamed B.named, fun w hw => atoms_spec (ws := z_X7_bodyKind) B.pre w (List.mem_cons_of_mem _ hw), B.notSynchronized⟩
  have hA : ∀ q : Nat, s.heap.size ≤ q → va_A (wl_X7_bodyKind ad cs h_su h_su_asked su_who su_against su_kind su_won su_day su_land su_undoneFrom su_askedCount su_askedBits su_first su_foundSo su_foundNot su_fought su_needed) s.heap.size q := fun q h => Or.inr h
  have hl := lv_entry ([.ref h_su]) (n := 1) (Nat.le_of_ble_eq_true rfl)
  rw [lg_entry_eq]
  generalize (lg_sl ([.ref h_su]) ++ List.replicate (1 - (lg_sl ([.ref h_su])).length) Slot.unset).toArray = ls at hl ⊢
  exact L_X7_bodyKind_0 C0 hK hA     h s.heap [] ls hP hD va_S.rf hl
theorem kw_92 : Cond.initialized RJ7 ∈ zW := zwI (i := 92) (by decide +kernel) (by decide +kernel)
theorem kw_683 : Cond.fieldLink RX6 19 "AlreadyJudged$Place" "size" "I" ∈ zW := zwI (i := 683) (by decide +kernel) (by decide +kernel)
theorem kw_808 : Cond.static yJ7_fill_d0a16 ∈ zW := zwI (i := 808) (by decide +kernel) (by decide +kernel)
theorem kw_809 : Cond.code yJ7_fill_d0a16 cJ7_fill_d0a16 5 none ∈ zW := zwI (i := 809) (by decide +kernel) (by decide +kernel)
theorem kw_1254 : Cond.methodLink RX6 22 yJ7_fill_d0a16 ∈ zW := zwI (i := 1254) (by decide +kernel) (by decide +kernel)
theorem dX6_becomeRow_0 : decode cX6_becomeRow 0 = .ok (.aload_n 0, 1) := by decide +kernel
theorem dX6_becomeRow_1 : decode cX6_becomeRow 1 = .ok (.iload_n 1, 1) := by decide +kernel
theorem dX6_becomeRow_2 : decode cX6_becomeRow 2 = .ok (.putfield 11, 3) := by decide +kernel
theorem dX6_becomeRow_5 : decode cX6_becomeRow 5 = .ok (.aload_n 0, 1) := by decide +kernel
theorem dX6_becomeRow_6 : decode cX6_becomeRow 6 = .ok (.iload_n 2, 1) := by decide +kernel
theorem dX6_becomeRow_7 : decode cX6_becomeRow 7 = .ok (.putfield 19, 3) := by decide +kernel
theorem dX6_becomeRow_10 : decode cX6_becomeRow 10 = .ok (.aload_n 0, 1) := by decide +kernel
theorem dX6_becomeRow_11 : decode cX6_becomeRow 11 = .ok (.getfield 15, 3) := by decide +kernel
theorem dX6_becomeRow_14 : decode cX6_becomeRow 14 = .ok (.lconst 0, 1) := by decide +kernel
theorem dX6_becomeRow_15 : decode cX6_becomeRow 15 = .ok (.invokestatic 22, 3) := by decide +kernel
theorem dX6_becomeRow_18 : decode cX6_becomeRow 18 = .ok (.return_, 1) := by decide +kernel
abbrev z_X6_becomeRow : List Cond := .code yX6_becomeRow cX6_becomeRow 3 none :: zW
abbrev wl_X6_becomeRow (ad : Nat → Nat) (cs : Nat → ClassId) (h_pl : Nat) (h_pl_elements : Nat) (pl_holds : Int32) (pl_suit : Int32) (pl_size : Int32) (pl_elements : Nat → Int64) : va_W := [(h_pl, .inr (6, [.int pl_holds, .int pl_suit, .int pl_size, .ref h_pl_elements])), (h_pl_elements, .inl (cs 1, 60, .inr (.inl pl_elements)))]
def Q_X6_becomeRow (D : va_G) (cs : Nat → ClassId) (ad : Nat → Nat) (h_pl : Nat) (h_pl_elements : Nat) (pl_suit : Int32) (A : Nat → Prop) (R : Int32 × Int32 × (Nat → Int64)) : Array Value → State → Outcome → State → Prop :=
  va_Qv (fun u : Int32 × Int32 × (Nat → Int64) => u = R) (fun (u : Int32 × Int32 × (Nat → Int64)) (t : State) => va_P D classes (wl_X6_becomeRow ad cs h_pl h_pl_elements u.1 pl_suit u.2.1 u.2.2) t.heap ∧ va_D A (wl_X6_becomeRow ad cs h_pl h_pl_elements u.1 pl_suit u.2.1 u.2.2)) A
abbrev rm_X6_becomeRow : Room := { frames := 1, cells := 0, slots := 0, locals := 24 }
theorem g_X6_22 : GoodIn zW (va_wsS RX6 22 yJ7_fill_d0a16 z_J7_fill_d0a16) := zGS kw_1254 kw_808 kw_92 kw_809
def B_X6_becomeRow_0    (pl_suit : Int32) (x1 : Int32) (x2 : Int32) (pl_holds : Int32) (pl_size : Int32) (pl_elements : Nat → Int64) : Option (Int32 × Int32 × (Nat → Int64)) :=
  (zk_b1 (f_J7_fill_d0a16 4000 (0 : Int64) pl_elements 60) (fun u_1 => (some (x1, x2, u_1))))
def f_X6_becomeRow   (x1 : Int32) (x2 : Int32) (pl_holds : Int32) (pl_suit : Int32) (pl_size : Int32) (pl_elements : Nat → Int64) : Option (Int32 × Int32 × (Nat → Int64)) := B_X6_becomeRow_0   pl_suit x1 x2 pl_holds pl_size pl_elements
set_option maxHeartbeats 4000000 in
set_option maxRecDepth 100000 in
theorem L_X6_becomeRow_0 {p : Program} {l : Launch} {e : Env} {s : State} {m : MethodId} {args : Array Value} {below : List Frame} {meth : Method} {c : Code} {A : Nat → Prop} {D : va_G} {cs : Nat → ClassId} {ad : Nat → Nat} {h_pl : Nat} {h_pl_elements : Nat} {pl_suit : Int32} {R : Int32 × Int32 × (Nat → Int64)} (C0 : zC p s m args meth c cX6_becomeRow 3 none RX6 zW) (hK : va_K D classes (zT cs) s) (hA : ∀ q : Nat, s.heap.size ≤ q → A q) (x1 : Int32) (x2 : Int32) (pl_holds : Int32) (pl_size : Int32) (pl_elements : Nat → Int64) (h : B_X6_becomeRow_0 pl_suit x1 x2 pl_holds pl_size pl_elements = some R) (H : Heap) (locs : List Loc) (ls : Array Slot) (hP : va_P D classes (wl_X6_becomeRow ad cs h_pl h_pl_elements pl_holds pl_suit pl_size pl_elements) H) (hD : va_D A (wl_X6_becomeRow ad cs h_pl h_pl_elements pl_holds pl_suit pl_size pl_elements)) (hS : va_S A s.heap H locs) (hl : lv_has ls 3 [(0, .ref h_pl), (1, .int x1), (2, .int x2)]) : W p l e rm_X6_becomeRow s m args below meth c H locs 0 0 (MQ below (Q_X6_becomeRow D cs ad h_pl h_pl_elements pl_suit A R) args s 0 0 A) (F0 m 0 ls []) := by
  obtain ⟨hx, hb, hr, hml, hown, ht, hlocks⟩ := id C0
  refine lv_aload_n hx hb dX6_becomeRow_0 rfl (lv_at hl 0 rfl) ?_
  refine lv_iload_n hx hb dX6_becomeRow_1 rfl (lv_at hl 1 rfl) ?_
  refine va_put (D := D) (ci := 6) (v := .int x1) (ty := .int) (C := RX6) (T := TX6) (N := 4) hx hb ht iX6 tyX6 tyX6_ok nmX6 hown hK hP hD hS 0 rfl rfl 0 (by decide) (ht _ kw_680) (fun _ h9 => h9) rfl (by decide +kernel) rfl rfl (Nat.le_of_ble_eq_true rfl) dX6_becomeRow_2 (fun H locs hP hD hS => ?_)
  have hP : va_P D classes (wl_X6_becomeRow ad cs h_pl h_pl_elements x1 pl_suit pl_size pl_elements) H := hP
  have hD : va_D A (wl_X6_becomeRow ad cs h_pl h_pl_elements x1 pl_suit pl_size pl_elements) := hD
  refine lv_aload_n hx hb dX6_becomeRow_5 rfl (lv_at hl 0 rfl) ?_
  refine lv_iload_n hx hb dX6_becomeRow_6 rfl (lv_at hl 2 rfl) ?_
  refine va_put (D := D) (ci := 6) (v := .int x2) (ty := .int) (C := RX6) (T := TX6) (N := 4) hx hb ht iX6 tyX6 tyX6_ok nmX6 hown hK hP hD hS 0 rfl rfl 2 (by decide) (ht _ kw_683) (fun _ h9 => h9) rfl (by decide +kernel) rfl rfl (Nat.le_of_ble_eq_true rfl) dX6_becomeRow_7 (fun H locs hP hD hS => ?_)
  have hP : va_P D classes (wl_X6_becomeRow ad cs h_pl h_pl_elements x1 pl_suit x2 pl_elements) H := hP
  have hD : va_D A (wl_X6_becomeRow ad cs h_pl h_pl_elements x1 pl_suit x2 pl_elements) := hD
  refine lv_aload_n hx hb dX6_becomeRow_10 rfl (lv_at hl 0 rfl) ?_
  refine va_get (D := D) (ci := 6) (v := .ref h_pl_elements) (C := RX6) (T := TX6) (N := 4) hx hb ht iX6 hown hK hP 0 rfl rfl 3 (by decide) (ht _ kw_685) (fun _ h9 => h9) rfl dX6_becomeRow_11 ?_
  refine lv_lconst (v := (0 : Int64)) hx hb dX6_becomeRow_14 (by decide) ?_
  obtain ⟨u_1, hc_2, h⟩ := zk_o1 h
  refine zk_sv (post := (fun u => u = u_1)) (w1 := fun u => (wl_J7_fill_d0a16 ad cs h_pl_elements u 60)) (As := [.ref h_pl_elements, .long (0 : Int64)]) (rest := []) (c_J7_fill_d0a16 l D cs ad h_pl_elements H.size 4000 (0 : Int64) pl_elements 60 _ hc_2) ⟨hx, hb, hml, hown, ht⟩ (va_cwS 2 ht g_X6_22 rfl rfl rfl (by decide +kernel) ⟨Nat.le_of_ble_eq_true rfl, Nat.le_of_ble_eq_true rfl⟩) hP hD hS hK hA [1] [0] rfl rfl rfl rfl (by decide) rfl hl.1 (Nat.le_of_ble_eq_true rfl) dX6_becomeRow_15 ⟨Nat.zero_le _, Nat.zero_le _⟩ (fun u H locs hq hP hD hS => ?_)
  cases hq
  have hP : va_P D classes (wl_X6_becomeRow ad cs h_pl h_pl_elements x1 pl_suit x2 u_1) H := hP.sub [0, 1] rfl
  have hD : va_D A (wl_X6_becomeRow ad cs h_pl h_pl_elements x1 pl_suit x2 u_1) := hD.sub [0, 1] rfl rfl
  exact W.vret hx hb hr (fun t ht2 hW => ⟨⟨(x1, x2, u_1), rfl, Option.some.inj h, by rw [ht2]; exact hP, hD⟩, hS.F ht2⟩) hS.2.2 dX6_becomeRow_18 hlocks
set_option maxHeartbeats 4000000 in
set_option maxRecDepth 100000 in
theorem c_X6_becomeRow (l : Launch) (D : va_G) (cs : Nat → ClassId) (ad : Nat → Nat) (h_pl : Nat) (h_pl_elements : Nat) (sz : Nat) (x1 : Int32) (x2 : Int32) (pl_holds : Int32) (pl_suit : Int32) (pl_size : Int32) (pl_elements : Nat → Int64) (R : Int32 × Int32 × (Nat → Int64)) (h : f_X6_becomeRow   x1 x2 pl_holds pl_suit pl_size pl_elements = some R) : Met l yX6_becomeRow (z_X6_becomeRow) rm_X6_becomeRow (va_Pc [.ref h_pl, .int x1, .int x2] (zPre D cs (wl_X6_becomeRow ad cs h_pl h_pl_elements pl_holds pl_suit pl_size pl_elements) sz)) (Q_X6_becomeRow D cs ad h_pl h_pl_elements pl_suit (va_A (wl_X6_becomeRow ad cs h_pl h_pl_elements pl_holds pl_suit pl_size pl_elements) sz) R) 0 0 (va_A (wl_X6_becomeRow ad cs h_pl h_pl_elements pl_holds pl_suit pl_size pl_elements) sz) := by
  refine Met.ofW (cc := cX6_becomeRow) (maxL := 3) (ret := none) (by decide) rfl ?_
  intro p e s m args below meth c s₁ B hml hv
  obtain ⟨rfl, hsz, hP, hK, hD0⟩ := hv
  subst hsz
  have hD := hD0.self (sz := s.heap.size)
  have C0 : zC p s m _ meth c cX6_becomeRow 3 none RX6 zW := ⟨B.exec, B.bytes, B.returns, hml, findClass_of_methodNamed B.named, fun w hw => atoms_spec (ws := z_X6_becomeRow) B.pre w (List.mem_cons_of_mem _ hw), B.notSynchronized⟩
  have hA : ∀ q : Nat, s.heap.size ≤ q → va_A (wl_X6_becomeRow ad cs h_pl h_pl_elements pl_holds pl_suit pl_size pl_elements) s.heap.size q := fun q h => Or.inr h
  have hl := lv_entry ([.ref h_pl, .int x1, .int x2]) (n := 3) (Nat.le_of_ble_eq_true rfl)
  rw [lg_entry_eq]
  generalize (lg_sl ([.ref h_pl, .int x1, .int x2]) ++ List.replicate (3 - (lg_sl ([.ref h_pl, .int x1, .int x2])).length) Slot.unset).toArray = ls at hl ⊢
  exact L_X6_becomeRow_0 C0 hK hA   x1 x2 pl_holds pl_size pl_elements h s.heap [] ls hP hD va_S.rf hl
theorem dX6_hasRange_0 : decode cX6_hasRange 0 = .ok (.iload_n 1, 1) := by decide +kernel
theorem dX6_hasRange_1 : decode cX6_hasRange 1 = .ok (.ifCond .lt 29, 3) := by decide +kernel
theorem dX6_hasRange_4 : decode cX6_hasRange 4 = .ok (.iload_n 2, 1) := by decide +kernel
theorem dX6_hasRange_5 : decode cX6_hasRange 5 = .ok (.ifCond .lt 25, 3) := by decide +kernel
theorem dX6_hasRange_8 : decode cX6_hasRange 8 = .ok (.iload_n 1, 1) := by decide +kernel
theorem dX6_hasRange_9 : decode cX6_hasRange 9 = .ok (.aload_n 0, 1) := by decide +kernel
theorem dX6_hasRange_10 : decode cX6_hasRange 10 = .ok (.getfield 19, 3) := by decide +kernel
theorem dX6_hasRange_13 : decode cX6_hasRange 13 = .ok (.if_icmp .gt 17, 3) := by decide +kernel
theorem dX6_hasRange_16 : decode cX6_hasRange 16 = .ok (.iload_n 2, 1) := by decide +kernel
theorem dX6_hasRange_17 : decode cX6_hasRange 17 = .ok (.aload_n 0, 1) := by decide +kernel
theorem dX6_hasRange_18 : decode cX6_hasRange 18 = .ok (.getfield 19, 3) := by decide +kernel
theorem dX6_hasRange_21 : decode cX6_hasRange 21 = .ok (.iload_n 1, 1) := by decide +kernel
theorem dX6_hasRange_22 : decode cX6_hasRange 22 = .ok (.isub, 1) := by decide +kernel
theorem dX6_hasRange_23 : decode cX6_hasRange 23 = .ok (.if_icmp .gt 7, 3) := by decide +kernel
theorem dX6_hasRange_26 : decode cX6_hasRange 26 = .ok (.iconst 1, 1) := by decide +kernel
theorem dX6_hasRange_27 : decode cX6_hasRange 27 = .ok (.goto 4, 3) := by decide +kernel
theorem dX6_hasRange_30 : decode cX6_hasRange 30 = .ok (.iconst 0, 1) := by decide +kernel
theorem dX6_hasRange_31 : decode cX6_hasRange 31 = .ok (.ireturn, 1) := by decide +kernel
abbrev z_X6_hasRange : List Cond := .code yX6_hasRange cX6_hasRange 3 (some .boolean) :: zW
abbrev wl_X6_hasRange (ad : Nat → Nat) (cs : Nat → ClassId) (h_pl : Nat) (h_pl_elements : Nat) (pl_holds : Int32) (pl_suit : Int32) (pl_size : Int32) : va_W := [(h_pl, .inr (6, [.int pl_holds, .int pl_suit, .int pl_size, .ref h_pl_elements]))]
def Q_X6_hasRange (D : va_G) (cs : Nat → ClassId) (ad : Nat → Nat) (h_pl : Nat) (h_pl_elements : Nat) (pl_holds : Int32) (pl_suit : Int32) (pl_size : Int32) (A : Nat → Prop) (R : Int32 × Unit) : Array Value → State → Outcome → State → Prop :=
  va_Qi (fun (r : Int32) (u : Unit) => (r, u) = R) (fun (u : Unit) (t : State) => va_P D classes (wl_X6_hasRange ad cs h_pl h_pl_elements pl_holds pl_suit pl_size) t.heap ∧ va_D A (wl_X6_hasRange ad cs h_pl h_pl_elements pl_holds pl_suit pl_size)) A
abbrev rm_X6_hasRange : Room := { frames := 0, cells := 0, slots := 0, locals := 0 }
def B_X6_hasRange_0    (pl_holds : Int32) (pl_suit : Int32) (pl_size : Int32) (x1 : Int32) (x2 : Int32) : Option (Int32 × Unit) :=
  (if x1 < 0 then (some ((0 : Int32), ())) else (if x2 < 0 then (some ((0 : Int32), ())) else (if pl_size < x1 then (some ((0 : Int32), ())) else (if (pl_size - x1) < x2 then (some ((0 : Int32), ())) else (some ((1 : Int32), ()))))))
def f_X6_hasRange   (x1 : Int32) (x2 : Int32) (pl_holds : Int32) (pl_suit : Int32) (pl_size : Int32) : Option (Int32 × Unit) := B_X6_hasRange_0   pl_holds pl_suit pl_size x1 x2 
set_option maxHeartbeats 4000000 in
set_option maxRecDepth 100000 in
theorem L_X6_hasRange_0 {p : Program} {l : Launch} {e : Env} {s : State} {m : MethodId} {args : Array Value} {below : List Frame} {meth : Method} {c : Code} {A : Nat → Prop} {D : va_G} {cs : Nat → ClassId} {ad : Nat → Nat} {h_pl : Nat} {h_pl_elements : Nat} {pl_holds : Int32} {pl_suit : Int32} {pl_size : Int32} {R : Int32 × Unit} (C0 : zC p s m args meth c cX6_hasRange 3 (some .boolean) RX6 zW) (hK : va_K D classes (zT cs) s) (hA : ∀ q : Nat, s.heap.size ≤ q → A q) (x1 : Int32) (x2 : Int32) (h : B_X6_hasRange_0 pl_holds pl_suit pl_size x1 x2 = some R) (H : Heap) (locs : List Loc) (ls : Array Slot) (hP : va_P D classes (wl_X6_hasRange ad cs h_pl h_pl_elements pl_holds pl_suit pl_size) H) (hD : va_D A (wl_X6_hasRange ad cs h_pl h_pl_elements pl_holds pl_suit pl_size)) (hS : va_S A s.heap H locs) (hl : lv_has ls 3 [(0, .ref h_pl), (1, .int x1), (2, .int x2)]) : W p l e rm_X6_hasRange s m args below meth c H locs 0 0 (MQ below (Q_X6_hasRange D cs ad h_pl h_pl_elements pl_holds pl_suit pl_size A R) args s 0 0 A) (F0 m 0 ls []) := by
  obtain ⟨hx, hb, hr, hml, hown, ht, hlocks⟩ := id C0
  refine lv_iload_n hx hb dX6_hasRange_0 rfl (lv_at hl 1 rfl) ?_
  refine lv_if_lt (tgt := 30) hx hb dX6_hasRange_1 (by decide) (fun c_1 => ?_) (fun c_1 => ?_)
  · have h := zk_t c_1 h
    refine lv_iconst (v := (0 : Int32)) hx hb dX6_hasRange_30 (by decide) ?_
    exact W.zret (ty := .boolean) (v := (0 : Int32)) hx hb hr rfl (fun t ht2 hW => ⟨⟨(0 : Int32), (), rfl, Option.some.inj h, by rw [ht2]; exact hP, hD⟩, hS.F ht2⟩) hS.2.2 dX6_hasRange_31 hlocks
  · have h := zk_f c_1 h
    refine lv_iload_n hx hb dX6_hasRange_4 rfl (lv_at hl 2 rfl) ?_
    refine lv_if_lt (tgt := 30) hx hb dX6_hasRange_5 (by decide) (fun c_2 => ?_) (fun c_2 => ?_)
    · have h := zk_t c_2 h
      refine lv_iconst (v := (0 : Int32)) hx hb dX6_hasRange_30 (by decide) ?_
      exact W.zret (ty := .boolean) (v := (0 : Int32)) hx hb hr rfl (fun t ht2 hW => ⟨⟨(0 : Int32), (), rfl, Option.some.inj h, by rw [ht2]; exact hP, hD⟩, hS.F ht2⟩) hS.2.2 dX6_hasRange_31 hlocks
    · have h := zk_f c_2 h
      refine lv_iload_n hx hb dX6_hasRange_8 rfl (lv_at hl 1 rfl) ?_
      refine lv_aload_n hx hb dX6_hasRange_9 rfl (lv_at hl 0 rfl) ?_
      refine va_get (D := D) (ci := 6) (v := .int pl_size) (C := RX6) (T := TX6) (N := 4) hx hb ht iX6 hown hK hP 0 rfl rfl 2 (by decide) (ht _ kw_683) (fun _ h9 => h9) rfl dX6_hasRange_10 ?_
      refine lv_icmp_gt (tgt := 30) hx hb dX6_hasRange_13 (by decide) (fun c_3 => ?_) (fun c_3 => ?_)
      · have h := zk_t c_3 h
        refine lv_iconst (v := (0 : Int32)) hx hb dX6_hasRange_30 (by decide) ?_
        exact W.zret (ty := .boolean) (v := (0 : Int32)) hx hb hr rfl (fun t ht2 hW => ⟨⟨(0 : Int32), (), rfl, Option.some.inj h, by rw [ht2]; exact hP, hD⟩, hS.F ht2⟩) hS.2.2 dX6_hasRange_31 hlocks
      · have h := zk_f c_3 h
        refine lv_iload_n hx hb dX6_hasRange_16 rfl (lv_at hl 2 rfl) ?_
        refine lv_aload_n hx hb dX6_hasRange_17 rfl (lv_at hl 0 rfl) ?_
        refine va_get (D := D) (ci := 6) (v := .int pl_size) (C := RX6) (T := TX6) (N := 4) hx hb ht iX6 hown hK hP 0 rfl rfl 2 (by decide) (ht _ kw_683) (fun _ h9 => h9) rfl dX6_hasRange_18 ?_
        refine lv_iload_n hx hb dX6_hasRange_21 rfl (lv_at hl 1 rfl) ?_
        refine lv_isub hx hb dX6_hasRange_22 ?_
        refine lv_icmp_gt (tgt := 30) hx hb dX6_hasRange_23 (by decide) (fun c_4 => ?_) (fun c_4 => ?_)
        · have h := zk_t c_4 h
          refine lv_iconst (v := (0 : Int32)) hx hb dX6_hasRange_30 (by decide) ?_
          exact W.zret (ty := .boolean) (v := (0 : Int32)) hx hb hr rfl (fun t ht2 hW => ⟨⟨(0 : Int32), (), rfl, Option.some.inj h, by rw [ht2]; exact hP, hD⟩, hS.F ht2⟩) hS.2.2 dX6_hasRange_31 hlocks
        · have h := zk_f c_4 h
          refine lv_iconst (v := (1 : Int32)) hx hb dX6_hasRange_26 (by decide) ?_
          refine lv_goto (tgt := 31) hx hb dX6_hasRange_27 (by decide) ?_
          exact W.zret (ty := .boolean) (v := (1 : Int32)) hx hb hr rfl (fun t ht2 hW => ⟨⟨(1 : Int32), (), rfl, Option.some.inj h, by rw [ht2]; exact hP, hD⟩, hS.F ht2⟩) hS.2.2 dX6_hasRange_31 hlocks
set_option maxHeartbeats 4000000 in
set_option maxRecDepth 100000 in
theorem c_X6_hasRange (l : Launch) (D : va_G) (cs : Nat → ClassId) (ad : Nat → Nat) (h_pl : Nat) (h_pl_elements : Nat) (sz : Nat) (x1 : Int32) (x2 : Int32) (pl_holds : Int32) (pl_suit : Int32) (pl_size : Int32) (R : Int32 × Unit) (h : f_X6_hasRange   x1 x2 pl_holds pl_suit pl_size = some R) : Met l yX6_hasRange (z_X6_hasRange) rm_X6_hasRange (va_Pc [.ref h_pl, .int x1, .int x2] (zPre D cs (wl_X6_hasRange ad cs h_pl h_pl_elements pl_holds pl_suit pl_size) sz)) (Q_X6_hasRange D cs ad h_pl h_pl_elements pl_holds pl_suit pl_size (va_A (wl_X6_hasRange ad cs h_pl h_pl_elements pl_holds pl_suit pl_size) sz) R) 0 0 (va_A (wl_X6_hasRange ad cs h_pl h_pl_elements pl_holds pl_suit pl_size) sz) := by
  refine Met.ofW (cc := cX6_hasRange) (maxL := 3) (ret := (some .boolean)) (by decide) rfl ?_
  intro p e s m args below meth c s₁ B hml hv
  obtain ⟨rfl, hsz, hP, hK, hD0⟩ := hv
  subst hsz
  have hD := hD0.self (sz := s.heap.size)
  have C0 : zC p s m _ meth c cX6_hasRange 3 (some .boolean) RX6 zW := ⟨B.exec, B.bytes, B.returns, hml, findClass_of_methodNamed B.named, fun w hw => atoms_spec (ws := z_X6_hasRange) B.pre w (List.mem_cons_of_mem _ hw), B.notSynchronized⟩
  have hA : ∀ q : Nat, s.heap.size ≤ q → va_A (wl_X6_hasRange ad cs h_pl h_pl_elements pl_holds pl_suit pl_size) s.heap.size q := fun q h => Or.inr h
  have hl := lv_entry ([.ref h_pl, .int x1, .int x2]) (n := 3) (Nat.le_of_ble_eq_true rfl)
  rw [lg_entry_eq]
  generalize (lg_sl ([.ref h_pl, .int x1, .int x2]) ++ List.replicate (3 - (lg_sl ([.ref h_pl, .int x1, .int x2])).length) Slot.unset).toArray = ls at hl ⊢
  exact L_X6_hasRange_0 C0 hK hA   x1 x2  h s.heap [] ls hP hD va_S.rf hl
theorem kw_94 : Cond.initialized RX6 ∈ zW := zwI (i := 94) (by decide +kernel) (by decide +kernel)
theorem kw_758 : Cond.instanceMethod yX6_hasRange ∈ zW := zwI (i := 758) (by decide +kernel) (by decide +kernel)
theorem kw_759 : Cond.selects RX6 yX6_hasRange yX6_hasRange ∈ zW := zwI (i := 759) (by decide +kernel) (by decide +kernel)
theorem kw_760 : Cond.code yX6_hasRange cX6_hasRange 3 (some .boolean) ∈ zW := zwI (i := 760) (by decide +kernel) (by decide +kernel)
theorem kw_1263 : Cond.methodLink RX6 28 yX6_hasRange ∈ zW := zwI (i := 1263) (by decide +kernel) (by decide +kernel)
theorem dX6_refusalOf_0 : decode cX6_refusalOf 0 = .ok (.aload_n 0, 1) := by decide +kernel
theorem dX6_refusalOf_1 : decode cX6_refusalOf 1 = .ok (.getfield 11, 3) := by decide +kernel
theorem dX6_refusalOf_4 : decode cX6_refusalOf 4 = .ok (.iconst (-1), 1) := by decide +kernel
theorem dX6_refusalOf_5 : decode cX6_refusalOf 5 = .ok (.if_icmp .ne 6, 3) := by decide +kernel
theorem dX6_refusalOf_8 : decode cX6_refusalOf 8 = .ok (.bipush (-11), 2) := by decide +kernel
theorem dX6_refusalOf_10 : decode cX6_refusalOf 10 = .ok (.ireturn, 1) := by decide +kernel
theorem dX6_refusalOf_11 : decode cX6_refusalOf 11 = .ok (.aload_n 0, 1) := by decide +kernel
theorem dX6_refusalOf_12 : decode cX6_refusalOf 12 = .ok (.getfield 11, 3) := by decide +kernel
theorem dX6_refusalOf_15 : decode cX6_refusalOf 15 = .ok (.iconst 5, 1) := by decide +kernel
theorem dX6_refusalOf_16 : decode cX6_refusalOf 16 = .ok (.if_icmp .ne 6, 3) := by decide +kernel
theorem dX6_refusalOf_19 : decode cX6_refusalOf 19 = .ok (.bipush (-12), 2) := by decide +kernel
theorem dX6_refusalOf_21 : decode cX6_refusalOf 21 = .ok (.ireturn, 1) := by decide +kernel
theorem dX6_refusalOf_22 : decode cX6_refusalOf 22 = .ok (.aload_n 0, 1) := by decide +kernel
theorem dX6_refusalOf_23 : decode cX6_refusalOf 23 = .ok (.iload_n 1, 1) := by decide +kernel
theorem dX6_refusalOf_24 : decode cX6_refusalOf 24 = .ok (.iconst 1, 1) := by decide +kernel
theorem dX6_refusalOf_25 : decode cX6_refusalOf 25 = .ok (.invokevirtual 28, 3) := by decide +kernel
theorem dX6_refusalOf_28 : decode cX6_refusalOf 28 = .ok (.ifCond .eq 7, 3) := by decide +kernel
theorem dX6_refusalOf_31 : decode cX6_refusalOf 31 = .ok (.iconst 0, 1) := by decide +kernel
theorem dX6_refusalOf_32 : decode cX6_refusalOf 32 = .ok (.goto 5, 3) := by decide +kernel
theorem dX6_refusalOf_35 : decode cX6_refusalOf 35 = .ok (.bipush (-13), 2) := by decide +kernel
theorem dX6_refusalOf_37 : decode cX6_refusalOf 37 = .ok (.ireturn, 1) := by decide +kernel
abbrev z_X6_refusalOf : List Cond := .code yX6_refusalOf cX6_refusalOf 2 (some .int) :: zW
abbrev wl_X6_refusalOf (ad : Nat → Nat) (cs : Nat → ClassId) (h_pl : Nat) (h_pl_elements : Nat) (pl_holds : Int32) (pl_suit : Int32) (pl_size : Int32) : va_W := [(h_pl, .inr (6, [.int pl_holds, .int pl_suit, .int pl_size, .ref h_pl_elements]))]
def Q_X6_refusalOf (D : va_G) (cs : Nat → ClassId) (ad : Nat → Nat) (h_pl : Nat) (h_pl_elements : Nat) (pl_holds : Int32) (pl_suit : Int32) (pl_size : Int32) (A : Nat → Prop) (R : Int32 × Unit) : Array Value → State → Outcome → State → Prop :=
  va_Qi (fun (r : Int32) (u : Unit) => (r, u) = R) (fun (u : Unit) (t : State) => va_P D classes (wl_X6_refusalOf ad cs h_pl h_pl_elements pl_holds pl_suit pl_size) t.heap ∧ va_D A (wl_X6_refusalOf ad cs h_pl h_pl_elements pl_holds pl_suit pl_size)) A
abbrev rm_X6_refusalOf : Room := { frames := 1, cells := 0, slots := 0, locals := 22 }
theorem g_X6_28 : GoodIn zW (wsV RX6 28 RX6 yX6_hasRange z_X6_hasRange) := zGV kw_1263 kw_758 kw_759 kw_94 kw_760
def B_X6_refusalOf_0    (pl_holds : Int32) (pl_suit : Int32) (pl_size : Int32) (x1 : Int32) : Option (Int32 × Unit) :=
  (if pl_holds = (-1 : Int32) then (some ((-11 : Int32), ())) else (if pl_holds = (5 : Int32) then (some ((-12 : Int32), ())) else (zk_b2 (f_X6_hasRange x1 (1 : Int32) pl_holds pl_suit pl_size) (fun r_3 u_4 => (if r_3 = 0 then (some ((-13 : Int32), ())) else (some ((0 : Int32), ())))))))
def f_X6_refusalOf   (x1 : Int32) (pl_holds : Int32) (pl_suit : Int32) (pl_size : Int32) : Option (Int32 × Unit) := B_X6_refusalOf_0   pl_holds pl_suit pl_size x1 
set_option maxHeartbeats 4000000 in
set_option maxRecDepth 100000 in
theorem L_X6_refusalOf_0 {p : Program} {l : Launch} {e : Env} {s : State} {m : MethodId} {args : Array Value} {below : List Frame} {meth : Method} {c : Code} {A : Nat → Prop} {D : va_G} {cs : Nat → ClassId} {ad : Nat → Nat} {h_pl : Nat} {h_pl_elements : Nat} {pl_holds : Int32} {pl_suit : Int32} {pl_size : Int32} {R : Int32 × Unit} (C0 : zC p s m args meth c cX6_refusalOf 2 (some .int) RX6 zW) (hK : va_K D classes (zT cs) s) (hA : ∀ q : Nat, s.heap.size ≤ q → A q) (x1 : Int32) (h : B_X6_refusalOf_0 pl_holds pl_suit pl_size x1 = some R) (H : Heap) (locs : List Loc) (ls : Array Slot) (hP : va_P D classes (wl_X6_refusalOf ad cs h_pl h_pl_elements pl_holds pl_suit pl_size) H) (hD : va_D A (wl_X6_refusalOf ad cs h_pl h_pl_elements pl_holds pl_suit pl_size)) (hS : va_S A s.heap H locs) (hl : lv_has ls 2 [(0, .ref h_pl), (1, .int x1)]) : W p l e rm_X6_refusalOf s m args below meth c H locs 0 0 (MQ below (Q_X6_refusalOf D cs ad h_pl h_pl_elements pl_holds pl_suit pl_size A R) args s 0 0 A) (F0 m 0 ls []) := by
  obtain ⟨hx, hb, hr, hml, hown, ht, hlocks⟩ := id C0
  refine lv_aload_n hx hb dX6_refusalOf_0 rfl (lv_at hl 0 rfl) ?_
  refine va_get (D := D) (ci := 6) (v := .int pl_holds) (C := RX6) (T := TX6) (N := 4) hx hb ht iX6 hown hK hP 0 rfl rfl 0 (by decide) (ht _ kw_680) (fun _ h9 => h9) rfl dX6_refusalOf_1 ?_
  refine lv_iconst (v := (-1 : Int32)) hx hb dX6_refusalOf_4 (by decide) ?_
  refine lv_icmp_ne (tgt := 11) hx hb dX6_refusalOf_5 (by decide) (fun c_1 => ?_) (fun c_1 => ?_)
  · have h := zk_f c_1 h
    refine lv_aload_n hx hb dX6_refusalOf_11 rfl (lv_at hl 0 rfl) ?_
    refine va_get (D := D) (ci := 6) (v := .int pl_holds) (C := RX6) (T := TX6) (N := 4) hx hb ht iX6 hown hK hP 0 rfl rfl 0 (by decide) (ht _ kw_680) (fun _ h9 => h9) rfl dX6_refusalOf_12 ?_
    refine lv_iconst (v := (5 : Int32)) hx hb dX6_refusalOf_15 (by decide) ?_
    refine lv_icmp_ne (tgt := 22) hx hb dX6_refusalOf_16 (by decide) (fun c_2 => ?_) (fun c_2 => ?_)
    · have h := zk_f c_2 h
      refine lv_aload_n hx hb dX6_refusalOf_22 rfl (lv_at hl 0 rfl) ?_
      refine lv_iload_n hx hb dX6_refusalOf_23 rfl (lv_at hl 1 rfl) ?_
      refine lv_iconst (v := (1 : Int32)) hx hb dX6_refusalOf_24 (by decide) ?_
      obtain ⟨r_3, u_4, hc_5, h⟩ := zk_o2 h
      refine zk_vi (post := (fun r u => (r, u) = (r_3, u_4))) (w1 := fun u => (wl_X6_hasRange ad cs h_pl h_pl_elements pl_holds pl_suit pl_size)) (As := [.int x1, .int (1 : Int32)]) (rest := []) (c_X6_hasRange l D cs ad h_pl h_pl_elements H.size x1 (1 : Int32) pl_holds pl_suit pl_size _ hc_5) ⟨hx, hb, hml, hown, ht⟩ (cwV 2 ht g_X6_28 rfl rfl rfl (by decide +kernel) ⟨Nat.le_of_ble_eq_true rfl, Nat.le_of_ble_eq_true rfl⟩) (va_recv hK hP (ci := 6) (q0 := 0) rfl rfl) hP hD hS hK hA [0] [] rfl rfl rfl rfl (by decide) rfl hl.1 (Nat.le_of_ble_eq_true rfl) dX6_refusalOf_25 ⟨Nat.zero_le _, Nat.zero_le _⟩ (fun r u H locs hq hP hD hS => ?_)
      cases hq
      have hP : va_P D classes (wl_X6_refusalOf ad cs h_pl h_pl_elements pl_holds pl_suit pl_size) H := hP.sub [0] rfl
      have hD : va_D A (wl_X6_refusalOf ad cs h_pl h_pl_elements pl_holds pl_suit pl_size) := hD.sub [0] rfl rfl
      refine lv_if_eq (tgt := 35) hx hb dX6_refusalOf_28 (by decide) (fun c_6 => ?_) (fun c_6 => ?_)
      · have h := zk_t c_6 h
        refine lv_bipush (v := (-13 : Int32)) hx hb dX6_refusalOf_35 (by decide) ?_
        exact W.iret (v := (-13 : Int32)) hx hb hr (fun t ht2 hW => ⟨⟨(-13 : Int32), (), rfl, Option.some.inj h, by rw [ht2]; exact hP, hD⟩, hS.F ht2⟩) hS.2.2 dX6_refusalOf_37 hlocks
      · have h := zk_f c_6 h
        refine lv_iconst (v := (0 : Int32)) hx hb dX6_refusalOf_31 (by decide) ?_
        refine lv_goto (tgt := 37) hx hb dX6_refusalOf_32 (by decide) ?_
        exact W.iret (v := (0 : Int32)) hx hb hr (fun t ht2 hW => ⟨⟨(0 : Int32), (), rfl, Option.some.inj h, by rw [ht2]; exact hP, hD⟩, hS.F ht2⟩) hS.2.2 dX6_refusalOf_37 hlocks
    · have h := zk_t c_2 h
      refine lv_bipush (v := (-12 : Int32)) hx hb dX6_refusalOf_19 (by decide) ?_
      exact W.iret (v := (-12 : Int32)) hx hb hr (fun t ht2 hW => ⟨⟨(-12 : Int32), (), rfl, Option.some.inj h, by rw [ht2]; exact hP, hD⟩, hS.F ht2⟩) hS.2.2 dX6_refusalOf_21 hlocks
  · have h := zk_t c_1 h
    refine lv_bipush (v := (-11 : Int32)) hx hb dX6_refusalOf_8 (by decide) ?_
    exact W.iret (v := (-11 : Int32)) hx hb hr (fun t ht2 hW => ⟨⟨(-11 : Int32), (), rfl, Option.some.inj h, by rw [ht2]; exact hP, hD⟩, hS.F ht2⟩) hS.2.2 dX6_refusalOf_10 hlocks
set_option maxHeartbeats 4000000 in
set_option maxRecDepth 100000 in
theorem c_X6_refusalOf (l : Launch) (D : va_G) (cs : Nat → ClassId) (ad : Nat → Nat) (h_pl : Nat) (h_pl_elements : Nat) (sz : Nat) (x1 : Int32) (pl_holds : Int32) (pl_suit : Int32) (pl_size : Int32) (R : Int32 × Unit) (h : f_X6_refusalOf   x1 pl_holds pl_suit pl_size = some R) : Met l yX6_refusalOf (z_X6_refusalOf) rm_X6_refusalOf (va_Pc [.ref h_pl, .int x1] (zPre D cs (wl_X6_refusalOf ad cs h_pl h_pl_elements pl_holds pl_suit pl_size) sz)) (Q_X6_refusalOf D cs ad h_pl h_pl_elements pl_holds pl_suit pl_size (va_A (wl_X6_refusalOf ad cs h_pl h_pl_elements pl_holds pl_suit pl_size) sz) R) 0 0 (va_A (wl_X6_refusalOf ad cs h_pl h_pl_elements pl_holds pl_suit pl_size) sz) := by
  refine Met.ofW (cc := cX6_refusalOf) (maxL := 2) (ret := (some .int)) (by decide) rfl ?_
  intro p e s m args below meth c s₁ B hml hv
  obtain ⟨rfl, hsz, hP, hK, hD0⟩ := hv
  subst hsz
  have hD := hD0.self (sz := s.heap.size)
  have C0 : zC p s m _ meth c cX6_refusalOf 2 (some .int) RX6 zW := ⟨B.exec, B.bytes, B.returns, hml, findClass_of_methodNamed B.named, fun w hw => atoms_spec (ws := z_X6_refusalOf) B.pre w (List.mem_cons_of_mem _ hw), B.notSynchronized⟩
  have hA : ∀ q : Nat, s.heap.size ≤ q → va_A (wl_X6_refusalOf ad cs h_pl h_pl_elements pl_holds pl_suit pl_size) s.heap.size q := fun q h => Or.inr h
  have hl := lv_entry ([.ref h_pl, .int x1]) (n := 2) (Nat.le_of_ble_eq_true rfl)
  rw [lg_entry_eq]
  generalize (lg_sl ([.ref h_pl, .int x1]) ++ List.replicate (2 - (lg_sl ([.ref h_pl, .int x1])).length) Slot.unset).toArray = ls at hl ⊢
  exact L_X6_refusalOf_0 C0 hK hA   x1  h s.heap [] ls hP hD va_S.rf hl
theorem dX6_lowestBits_0 : decode cX6_lowestBits 0 = .ok (.aload_n 0, 1) := by decide +kernel
theorem dX6_lowestBits_1 : decode cX6_lowestBits 1 = .ok (.getfield 11, 3) := by decide +kernel
theorem dX6_lowestBits_4 : decode cX6_lowestBits 4 = .ok (.tableswitch 62 0 4 #[36, 41, 46, 62, 50], 36) := by decide +kernel
theorem dX6_lowestBits_40 : decode cX6_lowestBits 40 = .ok (.lload_n 1, 1) := by decide +kernel
theorem dX6_lowestBits_41 : decode cX6_lowestBits 41 = .ok (.l2i, 1) := by decide +kernel
theorem dX6_lowestBits_42 : decode cX6_lowestBits 42 = .ok (.i2b, 1) := by decide +kernel
theorem dX6_lowestBits_43 : decode cX6_lowestBits 43 = .ok (.i2l, 1) := by decide +kernel
theorem dX6_lowestBits_44 : decode cX6_lowestBits 44 = .ok (.lreturn, 1) := by decide +kernel
theorem dX6_lowestBits_45 : decode cX6_lowestBits 45 = .ok (.lload_n 1, 1) := by decide +kernel
theorem dX6_lowestBits_46 : decode cX6_lowestBits 46 = .ok (.l2i, 1) := by decide +kernel
theorem dX6_lowestBits_47 : decode cX6_lowestBits 47 = .ok (.i2s, 1) := by decide +kernel
theorem dX6_lowestBits_48 : decode cX6_lowestBits 48 = .ok (.i2l, 1) := by decide +kernel
theorem dX6_lowestBits_49 : decode cX6_lowestBits 49 = .ok (.lreturn, 1) := by decide +kernel
theorem dX6_lowestBits_50 : decode cX6_lowestBits 50 = .ok (.lload_n 1, 1) := by decide +kernel
theorem dX6_lowestBits_51 : decode cX6_lowestBits 51 = .ok (.l2i, 1) := by decide +kernel
theorem dX6_lowestBits_52 : decode cX6_lowestBits 52 = .ok (.i2l, 1) := by decide +kernel
theorem dX6_lowestBits_53 : decode cX6_lowestBits 53 = .ok (.lreturn, 1) := by decide +kernel
theorem dX6_lowestBits_54 : decode cX6_lowestBits 54 = .ok (.lload_n 1, 1) := by decide +kernel
theorem dX6_lowestBits_55 : decode cX6_lowestBits 55 = .ok (.lconst 0, 1) := by decide +kernel
theorem dX6_lowestBits_56 : decode cX6_lowestBits 56 = .ok (.lcmp, 1) := by decide +kernel
theorem dX6_lowestBits_57 : decode cX6_lowestBits 57 = .ok (.ifCond .eq 7, 3) := by decide +kernel
theorem dX6_lowestBits_60 : decode cX6_lowestBits 60 = .ok (.lconst 1, 1) := by decide +kernel
theorem dX6_lowestBits_61 : decode cX6_lowestBits 61 = .ok (.goto 4, 3) := by decide +kernel
theorem dX6_lowestBits_64 : decode cX6_lowestBits 64 = .ok (.lconst 0, 1) := by decide +kernel
theorem dX6_lowestBits_65 : decode cX6_lowestBits 65 = .ok (.lreturn, 1) := by decide +kernel
theorem dX6_lowestBits_66 : decode cX6_lowestBits 66 = .ok (.lload_n 1, 1) := by decide +kernel
theorem dX6_lowestBits_67 : decode cX6_lowestBits 67 = .ok (.lreturn, 1) := by decide +kernel
abbrev z_X6_lowestBits : List Cond := .code yX6_lowestBits cX6_lowestBits 3 (some .long) :: zW
abbrev wl_X6_lowestBits (ad : Nat → Nat) (cs : Nat → ClassId) (h_pl : Nat) (h_pl_elements : Nat) (pl_holds : Int32) (pl_suit : Int32) (pl_size : Int32) : va_W := [(h_pl, .inr (6, [.int pl_holds, .int pl_suit, .int pl_size, .ref h_pl_elements]))]
def Q_X6_lowestBits (D : va_G) (cs : Nat → ClassId) (ad : Nat → Nat) (h_pl : Nat) (h_pl_elements : Nat) (pl_holds : Int32) (pl_suit : Int32) (pl_size : Int32) (A : Nat → Prop) (R : Int64 × Unit) : Array Value → State → Outcome → State → Prop :=
  va_Ql (fun (r : Int64) (u : Unit) => (r, u) = R) (fun (u : Unit) (t : State) => va_P D classes (wl_X6_lowestBits ad cs h_pl h_pl_elements pl_holds pl_suit pl_size) t.heap ∧ va_D A (wl_X6_lowestBits ad cs h_pl h_pl_elements pl_holds pl_suit pl_size)) A
abbrev rm_X6_lowestBits : Room := { frames := 0, cells := 0, slots := 0, locals := 0 }
def B_X6_lowestBits_0    (pl_holds : Int32) (pl_suit : Int32) (pl_size : Int32) (x1 : Int64) : Option (Int64 × Unit) :=
  (if pl_holds = (0 : Int32) then (some (x1.toInt32.toInt8.toInt32.toInt64, ())) else (if pl_holds = (1 : Int32) then (some (x1.toInt32.toInt16.toInt32.toInt64, ())) else (if pl_holds = (2 : Int32) then (some (x1.toInt32.toInt64, ())) else (if pl_holds = (3 : Int32) then (some (x1, ())) else (if pl_holds = (4 : Int32) then (if (lg_cmp x1 (0 : Int64)) = 0 then (some ((0 : Int64), ())) else (some ((1 : Int64), ()))) else (some (x1, ())))))))
def f_X6_lowestBits   (x1 : Int64) (pl_holds : Int32) (pl_suit : Int32) (pl_size : Int32) : Option (Int64 × Unit) := B_X6_lowestBits_0   pl_holds pl_suit pl_size x1 
set_option maxHeartbeats 4000000 in
set_option maxRecDepth 100000 in
theorem L_X6_lowestBits_0 {p : Program} {l : Launch} {e : Env} {s : State} {m : MethodId} {args : Array Value} {below : List Frame} {meth : Method} {c : Code} {A : Nat → Prop} {D : va_G} {cs : Nat → ClassId} {ad : Nat → Nat} {h_pl : Nat} {h_pl_elements : Nat} {pl_holds : Int32} {pl_suit : Int32} {pl_size : Int32} {R : Int64 × Unit} (C0 : zC p s m args meth c cX6_lowestBits 3 (some .long) RX6 zW) (hK : va_K D classes (zT cs) s) (hA : ∀ q : Nat, s.heap.size ≤ q → A q) (x1 : Int64) (h : B_X6_lowestBits_0 pl_holds pl_suit pl_size x1 = some R) (H : Heap) (locs : List Loc) (ls : Array Slot) (hP : va_P D classes (wl_X6_lowestBits ad cs h_pl h_pl_elements pl_holds pl_suit pl_size) H) (hD : va_D A (wl_X6_lowestBits ad cs h_pl h_pl_elements pl_holds pl_suit pl_size)) (hS : va_S A s.heap H locs) (hl : lv_has ls 3 [(0, .ref h_pl), (1, .long x1)]) : W p l e rm_X6_lowestBits s m args below meth c H locs 0 0 (MQ below (Q_X6_lowestBits D cs ad h_pl h_pl_elements pl_holds pl_suit pl_size A R) args s 0 0 A) (F0 m 0 ls []) := by
  obtain ⟨hx, hb, hr, hml, hown, ht, hlocks⟩ := id C0
  refine lv_aload_n hx hb dX6_lowestBits_0 rfl (lv_at hl 0 rfl) ?_
  refine va_get (D := D) (ci := 6) (v := .int pl_holds) (C := RX6) (T := TX6) (N := 4) hx hb ht iX6 hown hK hP 0 rfl rfl 0 (by decide) (ht _ kw_680) (fun _ h9 => h9) rfl dX6_lowestBits_1 ?_
  by_cases c_2 : pl_holds = (0 : Int32)
  · have h := zk_t c_2 h
    refine lv_tableIn (tgt := 40) hx hb dX6_lowestBits_4 (by rw [c_2]; decide) (by rw [c_2]; decide) (by rw [c_2]; rfl) (by decide) ?_
    refine lv_lload_n hx hb dX6_lowestBits_40 rfl (lv_at hl 1 rfl) ?_
    refine lv_l2i (v := x1.toInt32) hx hb dX6_lowestBits_41 rfl ?_
    refine lv_i2b (v := x1.toInt32.toInt8.toInt32) hx hb dX6_lowestBits_42 rfl ?_
    refine lv_i2l (v := x1.toInt32.toInt8.toInt32.toInt64) hx hb dX6_lowestBits_43 rfl ?_
    exact W.lret (v := x1.toInt32.toInt8.toInt32.toInt64) hx hb hr (fun t ht2 hW => ⟨⟨x1.toInt32.toInt8.toInt32.toInt64, (), rfl, Option.some.inj h, by rw [ht2]; exact hP, hD⟩, hS.F ht2⟩) hS.2.2 dX6_lowestBits_44 hlocks
  · have h := zk_f c_2 h
    by_cases c_3 : pl_holds = (1 : Int32)
    · have h := zk_t c_3 h
      refine lv_tableIn (tgt := 45) hx hb dX6_lowestBits_4 (by rw [c_3]; decide) (by rw [c_3]; decide) (by rw [c_3]; rfl) (by decide) ?_
      refine lv_lload_n hx hb dX6_lowestBits_45 rfl (lv_at hl 1 rfl) ?_
      refine lv_l2i (v := x1.toInt32) hx hb dX6_lowestBits_46 rfl ?_
      refine lv_i2s (v := x1.toInt32.toInt16.toInt32) hx hb dX6_lowestBits_47 rfl ?_
      refine lv_i2l (v := x1.toInt32.toInt16.toInt32.toInt64) hx hb dX6_lowestBits_48 rfl ?_
      exact W.lret (v := x1.toInt32.toInt16.toInt32.toInt64) hx hb hr (fun t ht2 hW => ⟨⟨x1.toInt32.toInt16.toInt32.toInt64, (), rfl, Option.some.inj h, by rw [ht2]; exact hP, hD⟩, hS.F ht2⟩) hS.2.2 dX6_lowestBits_49 hlocks
    · have h := zk_f c_3 h
      by_cases c_4 : pl_holds = (2 : Int32)
      · have h := zk_t c_4 h
        refine lv_tableIn (tgt := 50) hx hb dX6_lowestBits_4 (by rw [c_4]; decide) (by rw [c_4]; decide) (by rw [c_4]; rfl) (by decide) ?_
        refine lv_lload_n hx hb dX6_lowestBits_50 rfl (lv_at hl 1 rfl) ?_
        refine lv_l2i (v := x1.toInt32) hx hb dX6_lowestBits_51 rfl ?_
        refine lv_i2l (v := x1.toInt32.toInt64) hx hb dX6_lowestBits_52 rfl ?_
        exact W.lret (v := x1.toInt32.toInt64) hx hb hr (fun t ht2 hW => ⟨⟨x1.toInt32.toInt64, (), rfl, Option.some.inj h, by rw [ht2]; exact hP, hD⟩, hS.F ht2⟩) hS.2.2 dX6_lowestBits_53 hlocks
      · have h := zk_f c_4 h
        by_cases c_5 : pl_holds = (3 : Int32)
        · have h := zk_t c_5 h
          refine lv_tableIn (tgt := 66) hx hb dX6_lowestBits_4 (by rw [c_5]; decide) (by rw [c_5]; decide) (by rw [c_5]; rfl) (by decide) ?_
          refine lv_lload_n hx hb dX6_lowestBits_66 rfl (lv_at hl 1 rfl) ?_
          exact W.lret (v := x1) hx hb hr (fun t ht2 hW => ⟨⟨x1, (), rfl, Option.some.inj h, by rw [ht2]; exact hP, hD⟩, hS.F ht2⟩) hS.2.2 dX6_lowestBits_67 hlocks
        · have h := zk_f c_5 h
          by_cases c_6 : pl_holds = (4 : Int32)
          · have h := zk_t c_6 h
            refine lv_tableIn (tgt := 54) hx hb dX6_lowestBits_4 (by rw [c_6]; decide) (by rw [c_6]; decide) (by rw [c_6]; rfl) (by decide) ?_
            refine lv_lload_n hx hb dX6_lowestBits_54 rfl (lv_at hl 1 rfl) ?_
            refine lv_lconst (v := (0 : Int64)) hx hb dX6_lowestBits_55 (by decide) ?_
            refine W.lcmp hx hb dX6_lowestBits_56 ?_
            refine lv_if_eq (tgt := 64) hx hb dX6_lowestBits_57 (by decide) (fun c_1 => ?_) (fun c_1 => ?_)
            · have h := zk_t c_1 h
              refine lv_lconst (v := (0 : Int64)) hx hb dX6_lowestBits_64 (by decide) ?_
              exact W.lret (v := (0 : Int64)) hx hb hr (fun t ht2 hW => ⟨⟨(0 : Int64), (), rfl, Option.some.inj h, by rw [ht2]; exact hP, hD⟩, hS.F ht2⟩) hS.2.2 dX6_lowestBits_65 hlocks
            · have h := zk_f c_1 h
              refine lv_lconst (v := (1 : Int64)) hx hb dX6_lowestBits_60 (by decide) ?_
              refine lv_goto (tgt := 65) hx hb dX6_lowestBits_61 (by decide) ?_
              exact W.lret (v := (1 : Int64)) hx hb hr (fun t ht2 hW => ⟨⟨(1 : Int64), (), rfl, Option.some.inj h, by rw [ht2]; exact hP, hD⟩, hS.F ht2⟩) hS.2.2 dX6_lowestBits_65 hlocks
          · have h := zk_f c_6 h
            refine lv_tableOut (tgt := 66) hx hb dX6_lowestBits_4 (zk_out (lo := 0) (hi := 4) [(0 : Int32), (1 : Int32), (2 : Int32), (3 : Int32), (4 : Int32)] (by decide +kernel) (List.forall_mem_cons.mpr ⟨c_2, List.forall_mem_cons.mpr ⟨c_3, List.forall_mem_cons.mpr ⟨c_4, List.forall_mem_cons.mpr ⟨c_5, List.forall_mem_cons.mpr ⟨c_6, fun _ h => absurd h List.not_mem_nil⟩⟩⟩⟩⟩)) (by decide) ?_
            refine lv_lload_n hx hb dX6_lowestBits_66 rfl (lv_at hl 1 rfl) ?_
            exact W.lret (v := x1) hx hb hr (fun t ht2 hW => ⟨⟨x1, (), rfl, Option.some.inj h, by rw [ht2]; exact hP, hD⟩, hS.F ht2⟩) hS.2.2 dX6_lowestBits_67 hlocks
set_option maxHeartbeats 4000000 in
set_option maxRecDepth 100000 in
theorem c_X6_lowestBits (l : Launch) (D : va_G) (cs : Nat → ClassId) (ad : Nat → Nat) (h_pl : Nat) (h_pl_elements : Nat) (sz : Nat) (x1 : Int64) (pl_holds : Int32) (pl_suit : Int32) (pl_size : Int32) (R : Int64 × Unit) (h : f_X6_lowestBits   x1 pl_holds pl_suit pl_size = some R) : Met l yX6_lowestBits (z_X6_lowestBits) rm_X6_lowestBits (va_Pc [.ref h_pl, .long x1] (zPre D cs (wl_X6_lowestBits ad cs h_pl h_pl_elements pl_holds pl_suit pl_size) sz)) (Q_X6_lowestBits D cs ad h_pl h_pl_elements pl_holds pl_suit pl_size (va_A (wl_X6_lowestBits ad cs h_pl h_pl_elements pl_holds pl_suit pl_size) sz) R) 0 0 (va_A (wl_X6_lowestBits ad cs h_pl h_pl_elements pl_holds pl_suit pl_size) sz) := by
  refine Met.ofW (cc := cX6_lowestBits) (maxL := 3) (ret := (some .long)) (by decide) rfl ?_
  intro p e s m args below meth c s₁ B hml hv
  obtain ⟨rfl, hsz, hP, hK, hD0⟩ := hv
  subst hsz
  have hD := hD0.self (sz := s.heap.size)
  have C0 : zC p s m _ meth c cX6_lowestBits 3 (some .long) RX6 zW := ⟨B.exec, B.bytes, B.returns, hml, findClass_of_methodNamed B.named, fun w hw => atoms_spec (ws := z_X6_lowestBits) B.pre w (List.mem_cons_of_mem _ hw), B.notSynchronized⟩
  have hA : ∀ q : Nat, s.heap.size ≤ q → va_A (wl_X6_lowestBits ad cs h_pl h_pl_elements pl_holds pl_suit pl_size) s.heap.size q := fun q h => Or.inr h
  have hl := lv_entry ([.ref h_pl, .long x1]) (n := 3) (Nat.le_of_ble_eq_true rfl)
  rw [lg_entry_eq]
  generalize (lg_sl ([.ref h_pl, .long x1]) ++ List.replicate (3 - (lg_sl ([.ref h_pl, .long x1])).length) Slot.unset).toArray = ls at hl ⊢
  exact L_X6_lowestBits_0 C0 hK hA   x1  h s.heap [] ls hP hD va_S.rf hl
theorem kw_429 : Cond.fieldLink RX1 28 "AlreadyJudged$Changes" "done" "I" ∈ zW := zwI (i := 429) (by decide +kernel) (by decide +kernel)
theorem dX1_back_0 : decode cX1_back 0 = .ok (.aload_n 0, 1) := by decide +kernel
theorem dX1_back_1 : decode cX1_back 1 = .ok (.getfield 28, 3) := by decide +kernel
theorem dX1_back_4 : decode cX1_back 4 = .ok (.ifCond .gt 6, 3) := by decide +kernel
theorem dX1_back_7 : decode cX1_back 7 = .ok (.bipush (-5), 2) := by decide +kernel
theorem dX1_back_9 : decode cX1_back 9 = .ok (.ireturn, 1) := by decide +kernel
theorem dX1_back_10 : decode cX1_back 10 = .ok (.aload_n 0, 1) := by decide +kernel
theorem dX1_back_11 : decode cX1_back 11 = .ok (.dup, 1) := by decide +kernel
theorem dX1_back_12 : decode cX1_back 12 = .ok (.getfield 28, 3) := by decide +kernel
theorem dX1_back_15 : decode cX1_back 15 = .ok (.iconst 1, 1) := by decide +kernel
theorem dX1_back_16 : decode cX1_back 16 = .ok (.isub, 1) := by decide +kernel
theorem dX1_back_17 : decode cX1_back 17 = .ok (.putfield 28, 3) := by decide +kernel
theorem dX1_back_20 : decode cX1_back 20 = .ok (.aload_n 0, 1) := by decide +kernel
theorem dX1_back_21 : decode cX1_back 21 = .ok (.aload_n 0, 1) := by decide +kernel
theorem dX1_back_22 : decode cX1_back 22 = .ok (.getfield 9, 3) := by decide +kernel
theorem dX1_back_25 : decode cX1_back 25 = .ok (.aload_n 0, 1) := by decide +kernel
theorem dX1_back_26 : decode cX1_back 26 = .ok (.getfield 28, 3) := by decide +kernel
theorem dX1_back_29 : decode cX1_back 29 = .ok (.iaload, 1) := by decide +kernel
theorem dX1_back_30 : decode cX1_back 30 = .ok (.aload_n 0, 1) := by decide +kernel
theorem dX1_back_31 : decode cX1_back 31 = .ok (.getfield 15, 3) := by decide +kernel
theorem dX1_back_34 : decode cX1_back 34 = .ok (.aload_n 0, 1) := by decide +kernel
theorem dX1_back_35 : decode cX1_back 35 = .ok (.getfield 28, 3) := by decide +kernel
theorem dX1_back_38 : decode cX1_back 38 = .ok (.iaload, 1) := by decide +kernel
theorem dX1_back_39 : decode cX1_back 39 = .ok (.aload_n 0, 1) := by decide +kernel
theorem dX1_back_40 : decode cX1_back 40 = .ok (.getfield 18, 3) := by decide +kernel
theorem dX1_back_43 : decode cX1_back 43 = .ok (.aload_n 0, 1) := by decide +kernel
theorem dX1_back_44 : decode cX1_back 44 = .ok (.getfield 28, 3) := by decide +kernel
theorem dX1_back_47 : decode cX1_back 47 = .ok (.iaload, 1) := by decide +kernel
abbrev z_X1_back : List Cond := .code yX1_back cX1_back 1 (some .int) :: zW
abbrev wl_X1_back (ad : Nat → Nat) (cs : Nat → ClassId)  (chg_done : Int32) (chg_size : Int32) (chg_sorts : Nat → Int32) (chg_numbers : Nat → Int32) (chg_befores : Nat → Int32) : va_W := [((ad 34), .inr (1, [.ref (ad 4), .ref (ad 35), .ref (ad 36), .ref (ad 37), .ref (ad 38), .int chg_done, .int chg_size])), ((ad 35), .inl (cs 0, 40, .inl chg_sorts)), ((ad 36), .inl (cs 0, 40, .inl chg_numbers)), ((ad 37), .inl (cs 0, 40, .inl chg_befores))]
def Q_X1_back (D : va_G) (cs : Nat → ClassId) (ad : Nat → Nat)  (chg_size : Int32) (chg_sorts : Nat → Int32) (chg_numbers : Nat → Int32) (chg_befores : Nat → Int32) (A : Nat → Prop) (R : Int32 × Int32) : Array Value → State → Outcome → State → Prop :=
  va_Qi (fun (r : Int32) (u : Int32) => (r, u) = R) (fun (u : Int32) (t : State) => va_P D classes (wl_X1_back ad cs u chg_size chg_sorts chg_numbers chg_befores) t.heap ∧ va_D A (wl_X1_back ad cs u chg_size chg_sorts chg_numbers chg_befores)) A
abbrev rm_X1_back : Room := { frames := 0, cells := 0, slots := 0, locals := 0 }
def B_X1_back_0    (chg_size : Int32) (chg_sorts : Nat → Int32) (chg_numbers : Nat → Int32) (chg_befores : Nat → Int32) (chg_done : Int32) : Option (Int32 × Int32) :=
  (if 0 < chg_done then (zk_let (chg_done - (1 : Int32)) (fun v_2 => (if (v_2 < 0 ∨ 40 ≤ v_2.toNatClampNeg) then none else (if (v_2 < 0 ∨ 40 ≤ v_2.toNatClampNeg) then none else (if (v_2 < 0 ∨ 40 ≤ v_2.toNatClampNeg) then none else none))))) else (some ((-5 : Int32), chg_done)))
def f_X1_back    (chg_done : Int32) (chg_size : Int32) (chg_sorts : Nat → Int32) (chg_numbers : Nat → Int32) (chg_befores : Nat → Int32) : Option (Int32 × Int32) := B_X1_back_0   chg_size chg_sorts chg_numbers chg_befores  chg_done
set_option maxHeartbeats 4000000 in
set_option maxRecDepth 100000 in
theorem L_X1_back_0 {p : Program} {l : Launch} {e : Env} {s : State} {m : MethodId} {args : Array Value} {below : List Frame} {meth : Method} {c : Code} {A : Nat → Prop} {D : va_G} {cs : Nat → ClassId} {ad : Nat → Nat} {chg_size : Int32} {chg_sorts : Nat → Int32} {chg_numbers : Nat → Int32} {chg_befores : Nat → Int32} {R : Int32 × Int32} (C0 : zC p s m args meth c cX1_back 1 (some .int) RX1 zW) (hK : va_K D classes (zT cs) s) (hA : ∀ q : Nat, s.heap.size ≤ q → A q) (chg_done : Int32) (h : B_X1_back_0 chg_size chg_sorts chg_numbers chg_befores chg_done = some R) (H : Heap) (locs : List Loc) (ls : Array Slot) (hP : va_P D classes (wl_X1_back ad cs chg_done chg_size chg_sorts chg_numbers chg_befores) H) (hD : va_D A (wl_X1_back ad cs chg_done chg_size chg_sorts chg_numbers chg_befores)) (hS : va_S A s.heap H locs) (hl : lv_has ls 1 [(0, .ref (ad 34))]) : W p l e rm_X1_back s m args below meth c H locs 0 0 (MQ below (Q_X1_back D cs ad chg_size chg_sorts chg_numbers chg_befores A R) args s 0 0 A) (F0 m 0 ls []) := by
  obtain ⟨hx, hb, hr, hml, hown, ht, hlocks⟩ := id C0
  refine lv_aload_n hx hb dX1_back_0 rfl (lv_at hl 0 rfl) ?_
  refine va_get (D := D) (ci := 1) (v := .int chg_done) (C := RX1) (T := TX1) (N := 7) hx hb ht iX1 hown hK hP 0 rfl rfl 5 (by decide) (ht _ kw_429) (fun _ h9 => h9) rfl dX1_back_1 ?_
  refine lv_if_gt (tgt := 10) hx hb dX1_back_4 (by decide) (fun c_1 => ?_) (fun c_1 => ?_)
  · have h := zk_t c_1 h
    refine lv_aload_n hx hb dX1_back_10 rfl (lv_at hl 0 rfl) ?_
    refine lv_dup hx hb dX1_back_11 rfl ?_
    refine va_get (D := D) (ci := 1) (v := .int chg_done) (C := RX1) (T := TX1) (N := 7) hx hb ht iX1 hown hK hP 0 rfl rfl 5 (by decide) (ht _ kw_429) (fun _ h9 => h9) rfl dX1_back_12 ?_
    refine lv_iconst (v := (1 : Int32)) hx hb dX1_back_15 (by decide) ?_
    refine lv_isub hx hb dX1_back_16 ?_
    obtain ⟨v_2, ev_2, h⟩ := zk_lt h
    refine W.eq (g2 := F0 m 17 ls [.int v_2, .ref (ad 34)]) (by rw [ev_2]) ?_
    refine va_put (D := D) (ci := 1) (v := .int v_2) (ty := .int) (C := RX1) (T := TX1) (N := 7) hx hb ht iX1 tyX1 tyX1_ok nmX1 hown hK hP hD hS 0 rfl rfl 5 (by decide) (ht _ kw_429) (fun _ h9 => h9) rfl (by decide +kernel) rfl rfl (Nat.le_of_ble_eq_true rfl) dX1_back_17 (fun H locs hP hD hS => ?_)
    have hP : va_P D classes (wl_X1_back ad cs v_2 chg_size chg_sorts chg_numbers chg_befores) H := hP
    have hD : va_D A (wl_X1_back ad cs v_2 chg_size chg_sorts chg_numbers chg_befores) := hD
    refine lv_aload_n hx hb dX1_back_20 rfl (lv_at hl 0 rfl) ?_
    refine lv_aload_n hx hb dX1_back_21 rfl (lv_at hl 0 rfl) ?_
    refine va_get (D := D) (ci := 1) (v := .ref (ad 35)) (C := RX1) (T := TX1) (N := 7) hx hb ht iX1 hown hK hP 0 rfl rfl 1 (by decide) (ht _ kw_425) (fun _ h9 => h9) rfl dX1_back_22 ?_
    refine lv_aload_n hx hb dX1_back_25 rfl (lv_at hl 0 rfl) ?_
    refine va_get (D := D) (ci := 1) (v := .int v_2) (C := RX1) (T := TX1) (N := 7) hx hb ht iX1 hown hK hP 0 rfl rfl 5 (by decide) (ht _ kw_429) (fun _ h9 => h9) rfl dX1_back_26 ?_
    obtain ⟨g_3, h⟩ := zk_gd h
    refine va_iald hx hb hK hP 1 0 rfl rfl g_3 dX1_back_29 ?_
    refine lv_aload_n hx hb dX1_back_30 rfl (lv_at hl 0 rfl) ?_
    refine va_get (D := D) (ci := 1) (v := .ref (ad 36)) (C := RX1) (T := TX1) (N := 7) hx hb ht iX1 hown hK hP 0 rfl rfl 2 (by decide) (ht _ kw_426) (fun _ h9 => h9) rfl dX1_back_31 ?_
    refine lv_aload_n hx hb dX1_back_34 rfl (lv_at hl 0 rfl) ?_
    refine va_get (D := D) (ci := 1) (v := .int v_2) (C := RX1) (T := TX1) (N := 7) hx hb ht iX1 hown hK hP 0 rfl rfl 5 (by decide) (ht _ kw_429) (fun _ h9 => h9) rfl dX1_back_35 ?_
    obtain ⟨g_4, h⟩ := zk_gd h
    refine va_iald hx hb hK hP 2 0 rfl rfl g_4 dX1_back_38 ?_
    refine lv_aload_n hx hb dX1_back_39 rfl (lv_at hl 0 rfl) ?_
    refine va_get (D := D) (ci := 1) (v := .ref (ad 37)) (C := RX1) (T := TX1) (N := 7) hx hb ht iX1 hown hK hP 0 rfl rfl 3 (by decide) (ht _ kw_427) (fun _ h9 => h9) rfl dX1_back_40 ?_
    refine lv_aload_n hx hb dX1_back_43 rfl (lv_at hl 0 rfl) ?_
    refine va_get (D := D) (ci := 1) (v := .int v_2) (C := RX1) (T := TX1) (N := 7) hx hb ht iX1 hown hK hP 0 rfl rfl 5 (by decide) (ht _ kw_429) (fun _ h9 => h9) rfl dX1_back_44 ?_
    obtain ⟨g_5, h⟩ := zk_gd h
    refine va_iald hx hb hK hP 3 0 rfl rfl g_5 dX1_back_47 ?_
    cases h
  · have h := zk_f c_1 h
    refine lv_bipush (v := (-5 : Int32)) hx hb dX1_back_7 (by decide) ?_
    exact W.iret (v := (-5 : Int32)) hx hb hr (fun t ht2 hW => ⟨⟨(-5 : Int32), chg_done, rfl, Option.some.inj h, by rw [ht2]; exact hP, hD⟩, hS.F ht2⟩) hS.2.2 dX1_back_9 hlocks
set_option maxHeartbeats 4000000 in
set_option maxRecDepth 100000 in
theorem c_X1_back (l : Launch) (D : va_G) (cs : Nat → ClassId) (ad : Nat → Nat) (sz : Nat)  (chg_done : Int32) (chg_size : Int32) (chg_sorts : Nat → Int32) (chg_numbers : Nat → Int32) (chg_befores : Nat → Int32) (R : Int32 × Int32) (h : f_X1_back    chg_done chg_size chg_sorts chg_numbers chg_befores = some R) : Met l yX1_back (z_X1_back) rm_X1_back (va_Pc [.ref (ad 34)] (zPre D cs (wl_X1_back ad cs chg_done chg_size chg_sorts chg_numbers chg_befores) sz)) (Q_X1_back D cs ad chg_size chg_sorts chg_numbers chg_befores (va_A (wl_X1_back ad cs chg_done chg_size chg_sorts chg_numbers chg_befores) sz) R) 0 0 (va_A (wl_X1_back ad cs chg_done chg_size chg_sorts chg_numbers chg_befores) sz) := by
  refine Met.ofW (cc := cX1_back) (maxL := 1) (ret := (some .int)) (by decide) rfl ?_
  intro p e s m args below meth c s₁ B hml hv
  obtain ⟨rfl, hsz, hP, hK, hD0⟩ := hv
  subst hsz
  have hD := hD0.self (sz := s.heap.size)
  have C0 : zC p s m _ meth c cX1_back 1 (some .int) RX1 zW := ⟨B.exec, B.bytes, B.returns, hml, findClass_of_methodNamed B.named, fun w hw => atoms_spec (ws := z_X1_back) B.pre w (List.mem_cons_of_mem _ hw), B.notSynchronized⟩
  have hA : ∀ q : Nat, s.heap.size ≤ q → va_A (wl_X1_back ad cs chg_done chg_size chg_sorts chg_numbers chg_befores) s.heap.size q := fun q h => Or.inr h
  have hl := lv_entry ([.ref (ad 34)]) (n := 1) (Nat.le_of_ble_eq_true rfl)
  rw [lg_entry_eq]
  generalize (lg_sl ([.ref (ad 34)]) ++ List.replicate (1 - (lg_sl ([.ref (ad 34)])).length) Slot.unset).toArray = ls at hl ⊢
  exact L_X1_back_0 C0 hK hA    chg_done h s.heap [] ls hP hD va_S.rf hl
theorem kw_431 : Cond.fieldLink RX1 36 "AlreadyJudged$Changes" "size" "I" ∈ zW := zwI (i := 431) (by decide +kernel) (by decide +kernel)
theorem dX1_again_0 : decode cX1_again 0 = .ok (.aload_n 0, 1) := by decide +kernel
theorem dX1_again_1 : decode cX1_again 1 = .ok (.getfield 28, 3) := by decide +kernel
theorem dX1_again_4 : decode cX1_again 4 = .ok (.aload_n 0, 1) := by decide +kernel
theorem dX1_again_5 : decode cX1_again 5 = .ok (.getfield 36, 3) := by decide +kernel
theorem dX1_again_8 : decode cX1_again 8 = .ok (.if_icmp .lt 6, 3) := by decide +kernel
theorem dX1_again_11 : decode cX1_again 11 = .ok (.bipush (-5), 2) := by decide +kernel
theorem dX1_again_13 : decode cX1_again 13 = .ok (.ireturn, 1) := by decide +kernel
theorem dX1_again_14 : decode cX1_again 14 = .ok (.aload_n 0, 1) := by decide +kernel
theorem dX1_again_15 : decode cX1_again 15 = .ok (.aload_n 0, 1) := by decide +kernel
theorem dX1_again_16 : decode cX1_again 16 = .ok (.getfield 9, 3) := by decide +kernel
theorem dX1_again_19 : decode cX1_again 19 = .ok (.aload_n 0, 1) := by decide +kernel
theorem dX1_again_20 : decode cX1_again 20 = .ok (.getfield 28, 3) := by decide +kernel
theorem dX1_again_23 : decode cX1_again 23 = .ok (.iaload, 1) := by decide +kernel
theorem dX1_again_24 : decode cX1_again 24 = .ok (.aload_n 0, 1) := by decide +kernel
theorem dX1_again_25 : decode cX1_again 25 = .ok (.getfield 15, 3) := by decide +kernel
theorem dX1_again_28 : decode cX1_again 28 = .ok (.aload_n 0, 1) := by decide +kernel
theorem dX1_again_29 : decode cX1_again 29 = .ok (.getfield 28, 3) := by decide +kernel
theorem dX1_again_32 : decode cX1_again 32 = .ok (.iaload, 1) := by decide +kernel
theorem dX1_again_33 : decode cX1_again 33 = .ok (.aload_n 0, 1) := by decide +kernel
theorem dX1_again_34 : decode cX1_again 34 = .ok (.getfield 21, 3) := by decide +kernel
theorem dX1_again_37 : decode cX1_again 37 = .ok (.aload_n 0, 1) := by decide +kernel
theorem dX1_again_38 : decode cX1_again 38 = .ok (.getfield 28, 3) := by decide +kernel
theorem dX1_again_41 : decode cX1_again 41 = .ok (.iaload, 1) := by decide +kernel
abbrev z_X1_again : List Cond := .code yX1_again cX1_again 1 (some .int) :: zW
abbrev wl_X1_again (ad : Nat → Nat) (cs : Nat → ClassId)  (chg_done : Int32) (chg_size : Int32) (chg_sorts : Nat → Int32) (chg_numbers : Nat → Int32) (chg_afters : Nat → Int32) : va_W := [((ad 34), .inr (1, [.ref (ad 4), .ref (ad 35), .ref (ad 36), .ref (ad 37), .ref (ad 38), .int chg_done, .int chg_size])), ((ad 35), .inl (cs 0, 40, .inl chg_sorts)), ((ad 36), .inl (cs 0, 40, .inl chg_numbers)), ((ad 38), .inl (cs 0, 40, .inl chg_afters))]
def Q_X1_again (D : va_G) (cs : Nat → ClassId) (ad : Nat → Nat)  (chg_size : Int32) (chg_sorts : Nat → Int32) (chg_numbers : Nat → Int32) (chg_afters : Nat → Int32) (A : Nat → Prop) (R : Int32 × Int32) : Array Value → State → Outcome → State → Prop :=
  va_Qi (fun (r : Int32) (u : Int32) => (r, u) = R) (fun (u : Int32) (t : State) => va_P D classes (wl_X1_again ad cs u chg_size chg_sorts chg_numbers chg_afters) t.heap ∧ va_D A (wl_X1_again ad cs u chg_size chg_sorts chg_numbers chg_afters)) A
abbrev rm_X1_again : Room := { frames := 0, cells := 0, slots := 0, locals := 0 }
def B_X1_again_0    (chg_size : Int32) (chg_sorts : Nat → Int32) (chg_numbers : Nat → Int32) (chg_afters : Nat → Int32) (chg_done : Int32) : Option (Int32 × Int32) :=
  (if chg_done < chg_size then (if (chg_done < 0 ∨ 40 ≤ chg_done.toNatClampNeg) then none else (if (chg_done < 0 ∨ 40 ≤ chg_done.toNatClampNeg) then none else (if (chg_done < 0 ∨ 40 ≤ chg_done.toNatClampNeg) then none else none))) else (some ((-5 : Int32), chg_done)))
def f_X1_again    (chg_done : Int32) (chg_size : Int32) (chg_sorts : Nat → Int32) (chg_numbers : Nat → Int32) (chg_afters : Nat → Int32) : Option (Int32 × Int32) := B_X1_again_0   chg_size chg_sorts chg_numbers chg_afters  chg_done
set_option maxHeartbeats 4000000 in
set_option maxRecDepth 100000 in
theorem L_X1_again_0 {p : Program} {l : Launch} {e : Env} {s : State} {m : MethodId} {args : Array Value} {below : List Frame} {meth : Method} {c : Code} {A : Nat → Prop} {D : va_G} {cs : Nat → ClassId} {ad : Nat → Nat} {chg_size : Int32} {chg_sorts : Nat → Int32} {chg_numbers : Nat → Int32} {chg_afters : Nat → Int32} {R : Int32 × Int32} (C0 : zC p s m args meth c cX1_again 1 (some .int) RX1 zW) (hK : va_K D classes (zT cs) s) (hA : ∀ q : Nat, s.heap.size ≤ q → A q) (chg_done : Int32) (h : B_X1_again_0 chg_size chg_sorts chg_numbers chg_afters chg_done = some R) (H : Heap) (locs : List Loc) (ls : Array Slot) (hP : va_P D classes (wl_X1_again ad cs chg_done chg_size chg_sorts chg_numbers chg_afters) H) (hD : va_D A (wl_X1_again ad cs chg_done chg_size chg_sorts chg_numbers chg_afters)) (hS : va_S A s.heap H locs) (hl : lv_has ls 1 [(0, .ref (ad 34))]) : W p l e rm_X1_again s m args below meth c H locs 0 0 (MQ below (Q_X1_again D cs ad chg_size chg_sorts chg_numbers chg_afters A R) args s 0 0 A) (F0 m 0 ls []) := by
  obtain ⟨hx, hb, hr, hml, hown, ht, hlocks⟩ := id C0
  refine lv_aload_n hx hb dX1_again_0 rfl (lv_at hl 0 rfl) ?_
  refine va_get (D := D) (ci := 1) (v := .int chg_done) (C := RX1) (T := TX1) (N := 7) hx hb ht iX1 hown hK hP 0 rfl rfl 5 (by decide) (ht _ kw_429) (fun _ h9 => h9) rfl dX1_again_1 ?_
  refine lv_aload_n hx hb dX1_again_4 rfl (lv_at hl 0 rfl) ?_
  refine va_get (D := D) (ci := 1) (v := .int chg_size) (C := RX1) (T := TX1) (N := 7) hx hb ht iX1 hown hK hP 0 rfl rfl 6 (by decide) (ht _ kw_431) (fun _ h9 => h9) rfl dX1_again_5 ?_
  refine lv_icmp_lt (tgt := 14) hx hb dX1_again_8 (by decide) (fun c_1 => ?_) (fun c_1 => ?_)
  · have h := zk_t c_1 h
    refine lv_aload_n hx hb dX1_again_14 rfl (lv_at hl 0 rfl) ?_
    refine lv_aload_n hx hb dX1_again_15 rfl (lv_at hl 0 rfl) ?_
    refine va_get (D := D) (ci := 1) (v := .ref (ad 35)) (C := RX1) (T := TX1) (N := 7) hx hb ht iX1 hown hK hP 0 rfl rfl 1 (by decide) (ht _ kw_425) (fun _ h9 => h9) rfl dX1_again_16 ?_
    refine lv_aload_n hx hb dX1_again_19 rfl (lv_at hl 0 rfl) ?_
    refine va_get (D := D) (ci := 1) (v := .int chg_done) (C := RX1) (T := TX1) (N := 7) hx hb ht iX1 hown hK hP 0 rfl rfl 5 (by decide) (ht _ kw_429) (fun _ h9 => h9) rfl dX1_again_20 ?_
    obtain ⟨g_2, h⟩ := zk_gd h
    refine va_iald hx hb hK hP 1 0 rfl rfl g_2 dX1_again_23 ?_
    refine lv_aload_n hx hb dX1_again_24 rfl (lv_at hl 0 rfl) ?_
    refine va_get (D := D) (ci := 1) (v := .ref (ad 36)) (C := RX1) (T := TX1) (N := 7) hx hb ht iX1 hown hK hP 0 rfl rfl 2 (by decide) (ht _ kw_426) (fun _ h9 => h9) rfl dX1_again_25 ?_
    refine lv_aload_n hx hb dX1_again_28 rfl (lv_at hl 0 rfl) ?_
    refine va_get (D := D) (ci := 1) (v := .int chg_done) (C := RX1) (T := TX1) (N := 7) hx hb ht iX1 hown hK hP 0 rfl rfl 5 (by decide) (ht _ kw_429) (fun _ h9 => h9) rfl dX1_again_29 ?_
    obtain ⟨g_3, h⟩ := zk_gd h
    refine va_iald hx hb hK hP 2 0 rfl rfl g_3 dX1_again_32 ?_
    refine lv_aload_n hx hb dX1_again_33 rfl (lv_at hl 0 rfl) ?_
    refine va_get (D := D) (ci := 1) (v := .ref (ad 38)) (C := RX1) (T := TX1) (N := 7) hx hb ht iX1 hown hK hP 0 rfl rfl 4 (by decide) (ht _ kw_428) (fun _ h9 => h9) rfl dX1_again_34 ?_
    refine lv_aload_n hx hb dX1_again_37 rfl (lv_at hl 0 rfl) ?_
    refine va_get (D := D) (ci := 1) (v := .int chg_done) (C := RX1) (T := TX1) (N := 7) hx hb ht iX1 hown hK hP 0 rfl rfl 5 (by decide) (ht _ kw_429) (fun _ h9 => h9) rfl dX1_again_38 ?_
    obtain ⟨g_4, h⟩ := zk_gd h
    refine va_iald hx hb hK hP 3 0 rfl rfl g_4 dX1_again_41 ?_
    cases h
  · have h := zk_f c_1 h
    refine lv_bipush (v := (-5 : Int32)) hx hb dX1_again_11 (by decide) ?_
    exact W.iret (v := (-5 : Int32)) hx hb hr (fun t ht2 hW => ⟨⟨(-5 : Int32), chg_done, rfl, Option.some.inj h, by rw [ht2]; exact hP, hD⟩, hS.F ht2⟩) hS.2.2 dX1_again_13 hlocks
set_option maxHeartbeats 4000000 in
set_option maxRecDepth 100000 in
theorem c_X1_again (l : Launch) (D : va_G) (cs : Nat → ClassId) (ad : Nat → Nat) (sz : Nat)  (chg_done : Int32) (chg_size : Int32) (chg_sorts : Nat → Int32) (chg_numbers : Nat → Int32) (chg_afters : Nat → Int32) (R : Int32 × Int32) (h : f_X1_again    chg_done chg_size chg_sorts chg_numbers chg_afters = some R) : Met l yX1_again (z_X1_again) rm_X1_again (va_Pc [.ref (ad 34)] (zPre D cs (wl_X1_again ad cs chg_done chg_size chg_sorts chg_numbers chg_afters) sz)) (Q_X1_again D cs ad chg_size chg_sorts chg_numbers chg_afters (va_A (wl_X1_again ad cs chg_done chg_size chg_sorts chg_numbers chg_afters) sz) R) 0 0 (va_A (wl_X1_again ad cs chg_done chg_size chg_sorts chg_numbers chg_afters) sz) := by
  refine Met.ofW (cc := cX1_again) (maxL := 1) (ret := (some .int)) (by decide) rfl ?_
  intro p e s m args below meth c s₁ B hml hv
  obtain ⟨rfl, hsz, hP, hK, hD0⟩ := hv
  subst hsz
  have hD := hD0.self (sz := s.heap.size)
  have C0 : zC p s m _ meth c cX1_again 1 (some .int) RX1 zW := ⟨B.exec, B.bytes, B.returns, hml, findClass_of_methodNamed B.named, fun w hw => atoms_spec (ws := z_X1_again) B.pre w (List.mem_cons_of_mem _ hw), B.notSynchronized⟩
  have hA : ∀ q : Nat, s.heap.size ≤ q → va_A (wl_X1_again ad cs chg_done chg_size chg_sorts chg_numbers chg_afters) s.heap.size q := fun q h => Or.inr h
  have hl := lv_entry ([.ref (ad 34)]) (n := 1) (Nat.le_of_ble_eq_true rfl)
  rw [lg_entry_eq]
  generalize (lg_sl ([.ref (ad 34)]) ++ List.replicate (1 - (lg_sl ([.ref (ad 34)])).length) Slot.unset).toArray = ls at hl ⊢
  exact L_X1_again_0 C0 hK hA    chg_done h s.heap [] ls hP hD va_S.rf hl
theorem kw_89 : Cond.initialized "java/lang/Math" ∈ zW := zwI (i := 89) (by decide +kernel) (by decide +kernel)
theorem kw_603 : Cond.static Lib.Math.max.name ∈ zW := zwI (i := 603) (by decide +kernel) (by decide +kernel)
theorem kw_604 : Cond.code Lib.Math.max.name Lib.Math.max.code 2 (some .int) ∈ zW := zwI (i := 604) (by decide +kernel) (by decide +kernel)
theorem kw_833 : Cond.methodLink RX4 13 Lib.Math.max.name ∈ zW := zwI (i := 833) (by decide +kernel) (by decide +kernel)
theorem dX4_value_0 : decode cX4_value 0 = .ok (.iconst 0, 1) := by decide +kernel
theorem dX4_value_1 : decode cX4_value 1 = .ok (.istore_n 3, 1) := by decide +kernel
theorem dX4_value_2 : decode cX4_value 2 = .ok (.iconst 0, 1) := by decide +kernel
theorem dX4_value_3 : decode cX4_value 3 = .ok (.istore 4, 2) := by decide +kernel
theorem dX4_value_5 : decode cX4_value 5 = .ok (.iload 4, 2) := by decide +kernel
theorem dX4_value_7 : decode cX4_value 7 = .ok (.aload_n 0, 1) := by decide +kernel
theorem dX4_value_8 : decode cX4_value 8 = .ok (.getfield 7, 3) := by decide +kernel
theorem dX4_value_11 : decode cX4_value 11 = .ok (.arraylength, 1) := by decide +kernel
theorem dX4_value_12 : decode cX4_value 12 = .ok (.if_icmp .ge 208, 3) := by decide +kernel
theorem dX4_value_15 : decode cX4_value 15 = .ok (.aload_n 0, 1) := by decide +kernel
theorem dX4_value_16 : decode cX4_value 16 = .ok (.getfield 7, 3) := by decide +kernel
theorem dX4_value_19 : decode cX4_value 19 = .ok (.iload 4, 2) := by decide +kernel
theorem dX4_value_21 : decode cX4_value 21 = .ok (.iaload, 1) := by decide +kernel
theorem dX4_value_22 : decode cX4_value 22 = .ok (.bipush 31, 2) := by decide +kernel
theorem dX4_value_24 : decode cX4_value 24 = .ok (.iand, 1) := by decide +kernel
theorem dX4_value_25 : decode cX4_value 25 = .ok (.istore 5, 2) := by decide +kernel
theorem dX4_value_27 : decode cX4_value 27 = .ok (.aload_n 0, 1) := by decide +kernel
theorem dX4_value_28 : decode cX4_value 28 = .ok (.getfield 7, 3) := by decide +kernel
theorem dX4_value_31 : decode cX4_value 31 = .ok (.iload 4, 2) := by decide +kernel
theorem dX4_value_33 : decode cX4_value 33 = .ok (.iaload, 1) := by decide +kernel
theorem dX4_value_34 : decode cX4_value 34 = .ok (.iconst 5, 1) := by decide +kernel
theorem dX4_value_35 : decode cX4_value 35 = .ok (.ishr, 1) := by decide +kernel
theorem dX4_value_36 : decode cX4_value 36 = .ok (.istore 6, 2) := by decide +kernel
theorem dX4_value_38 : decode cX4_value 38 = .ok (.iload 5, 2) := by decide +kernel
theorem dX4_value_40 : decode cX4_value 40 = .ok (.iconst 1, 1) := by decide +kernel
theorem dX4_value_41 : decode cX4_value 41 = .ok (.if_icmp .gt 45, 3) := by decide +kernel
theorem dX4_value_44 : decode cX4_value 44 = .ok (.iload_n 3, 1) := by decide +kernel
theorem dX4_value_45 : decode cX4_value 45 = .ok (.aload_n 2, 1) := by decide +kernel
theorem dX4_value_46 : decode cX4_value 46 = .ok (.arraylength, 1) := by decide +kernel
theorem dX4_value_47 : decode cX4_value 47 = .ok (.if_icmp .lt 5, 3) := by decide +kernel
theorem dX4_value_50 : decode cX4_value 50 = .ok (.iconst 0, 1) := by decide +kernel
theorem dX4_value_51 : decode cX4_value 51 = .ok (.ireturn, 1) := by decide +kernel
theorem dX4_value_52 : decode cX4_value 52 = .ok (.aload_n 2, 1) := by decide +kernel
theorem dX4_value_53 : decode cX4_value 53 = .ok (.iload_n 3, 1) := by decide +kernel
theorem dX4_value_54 : decode cX4_value 54 = .ok (.iload 5, 2) := by decide +kernel
theorem dX4_value_56 : decode cX4_value 56 = .ok (.ifCond .ne 8, 3) := by decide +kernel
theorem dX4_value_59 : decode cX4_value 59 = .ok (.iload 6, 2) := by decide +kernel
theorem dX4_value_61 : decode cX4_value 61 = .ok (.goto 18, 3) := by decide +kernel
theorem dX4_value_64 : decode cX4_value 64 = .ok (.iload 6, 2) := by decide +kernel
theorem dX4_value_66 : decode cX4_value 66 = .ok (.aload_n 1, 1) := by decide +kernel
theorem dX4_value_67 : decode cX4_value 67 = .ok (.arraylength, 1) := by decide +kernel
theorem dX4_value_68 : decode cX4_value 68 = .ok (.if_icmp .ge 10, 3) := by decide +kernel
theorem dX4_value_71 : decode cX4_value 71 = .ok (.aload_n 1, 1) := by decide +kernel
theorem dX4_value_72 : decode cX4_value 72 = .ok (.iload 6, 2) := by decide +kernel
theorem dX4_value_74 : decode cX4_value 74 = .ok (.iaload, 1) := by decide +kernel
theorem dX4_value_75 : decode cX4_value 75 = .ok (.goto 4, 3) := by decide +kernel
theorem dX4_value_78 : decode cX4_value 78 = .ok (.iconst 0, 1) := by decide +kernel
theorem dX4_value_79 : decode cX4_value 79 = .ok (.iastore, 1) := by decide +kernel
theorem dX4_value_80 : decode cX4_value 80 = .ok (.iinc 3 1, 3) := by decide +kernel
theorem dX4_value_83 : decode cX4_value 83 = .ok (.goto 131, 3) := by decide +kernel
theorem dX4_value_86 : decode cX4_value 86 = .ok (.iload_n 3, 1) := by decide +kernel
theorem dX4_value_87 : decode cX4_value 87 = .ok (.iconst 1, 1) := by decide +kernel
theorem dX4_value_88 : decode cX4_value 88 = .ok (.if_icmp .ge 5, 3) := by decide +kernel
theorem dX4_value_91 : decode cX4_value 91 = .ok (.iconst 0, 1) := by decide +kernel
theorem dX4_value_92 : decode cX4_value 92 = .ok (.ireturn, 1) := by decide +kernel
theorem dX4_value_93 : decode cX4_value 93 = .ok (.iload 5, 2) := by decide +kernel
theorem dX4_value_95 : decode cX4_value 95 = .ok (.iconst 2, 1) := by decide +kernel
theorem dX4_value_96 : decode cX4_value 96 = .ok (.if_icmp .ne 9, 3) := by decide +kernel
theorem dX4_value_99 : decode cX4_value 99 = .ok (.aload_n 2, 1) := by decide +kernel
theorem dX4_value_100 : decode cX4_value 100 = .ok (.iload_n 3, 1) := by decide +kernel
theorem dX4_value_101 : decode cX4_value 101 = .ok (.iconst 1, 1) := by decide +kernel
theorem dX4_value_102 : decode cX4_value 102 = .ok (.isub, 1) := by decide +kernel
theorem dX4_value_103 : decode cX4_value 103 = .ok (.iaload, 1) := by decide +kernel
theorem dX4_value_104 : decode cX4_value 104 = .ok (.ireturn, 1) := by decide +kernel
theorem dX4_value_105 : decode cX4_value 105 = .ok (.iload 5, 2) := by decide +kernel
theorem dX4_value_107 : decode cX4_value 107 = .ok (.iconst 3, 1) := by decide +kernel
theorem dX4_value_108 : decode cX4_value 108 = .ok (.if_icmp .ne 31, 3) := by decide +kernel
theorem dX4_value_111 : decode cX4_value 111 = .ok (.iinc 3 (-1), 3) := by decide +kernel
theorem dX4_value_114 : decode cX4_value 114 = .ok (.aload_n 2, 1) := by decide +kernel
theorem dX4_value_115 : decode cX4_value 115 = .ok (.iload_n 3, 1) := by decide +kernel
theorem dX4_value_116 : decode cX4_value 116 = .ok (.iaload, 1) := by decide +kernel
theorem dX4_value_117 : decode cX4_value 117 = .ok (.ifCond .ne 15, 3) := by decide +kernel
theorem dX4_value_120 : decode cX4_value 120 = .ok (.iload 4, 2) := by decide +kernel
theorem dX4_value_122 : decode cX4_value 122 = .ok (.iload 6, 2) := by decide +kernel
theorem dX4_value_124 : decode cX4_value 124 = .ok (.iconst 1, 1) := by decide +kernel
theorem dX4_value_125 : decode cX4_value 125 = .ok (.isub, 1) := by decide +kernel
theorem dX4_value_126 : decode cX4_value 126 = .ok (.invokestatic 13, 3) := by decide +kernel
theorem dX4_value_129 : decode cX4_value 129 = .ok (.goto 5, 3) := by decide +kernel
theorem dX4_value_132 : decode cX4_value 132 = .ok (.iload 4, 2) := by decide +kernel
theorem dX4_value_134 : decode cX4_value 134 = .ok (.istore 4, 2) := by decide +kernel
theorem dX4_value_136 : decode cX4_value 136 = .ok (.goto 78, 3) := by decide +kernel
theorem dX4_value_139 : decode cX4_value 139 = .ok (.iload 5, 2) := by decide +kernel
theorem dX4_value_141 : decode cX4_value 141 = .ok (.iconst 4, 1) := by decide +kernel
theorem dX4_value_142 : decode cX4_value 142 = .ok (.if_icmp .ne 24, 3) := by decide +kernel
theorem dX4_value_145 : decode cX4_value 145 = .ok (.aload_n 2, 1) := by decide +kernel
theorem dX4_value_146 : decode cX4_value 146 = .ok (.iload_n 3, 1) := by decide +kernel
theorem dX4_value_147 : decode cX4_value 147 = .ok (.iconst 1, 1) := by decide +kernel
theorem dX4_value_148 : decode cX4_value 148 = .ok (.isub, 1) := by decide +kernel
theorem dX4_value_149 : decode cX4_value 149 = .ok (.aload_n 2, 1) := by decide +kernel
theorem dX4_value_150 : decode cX4_value 150 = .ok (.iload_n 3, 1) := by decide +kernel
theorem dX4_value_151 : decode cX4_value 151 = .ok (.iconst 1, 1) := by decide +kernel
theorem dX4_value_152 : decode cX4_value 152 = .ok (.isub, 1) := by decide +kernel
theorem dX4_value_153 : decode cX4_value 153 = .ok (.iaload, 1) := by decide +kernel
theorem dX4_value_154 : decode cX4_value 154 = .ok (.ifCond .ne 7, 3) := by decide +kernel
theorem dX4_value_157 : decode cX4_value 157 = .ok (.iconst 1, 1) := by decide +kernel
theorem dX4_value_158 : decode cX4_value 158 = .ok (.goto 4, 3) := by decide +kernel
theorem dX4_value_161 : decode cX4_value 161 = .ok (.iconst 0, 1) := by decide +kernel
theorem dX4_value_162 : decode cX4_value 162 = .ok (.iastore, 1) := by decide +kernel
theorem dX4_value_163 : decode cX4_value 163 = .ok (.goto 51, 3) := by decide +kernel
theorem dX4_value_166 : decode cX4_value 166 = .ok (.iload 5, 2) := by decide +kernel
theorem dX4_value_168 : decode cX4_value 168 = .ok (.iconst 5, 1) := by decide +kernel
theorem dX4_value_169 : decode cX4_value 169 = .ok (.if_icmp .ne 17, 3) := by decide +kernel
theorem dX4_value_172 : decode cX4_value 172 = .ok (.aload_n 2, 1) := by decide +kernel
theorem dX4_value_173 : decode cX4_value 173 = .ok (.iload_n 3, 1) := by decide +kernel
theorem dX4_value_174 : decode cX4_value 174 = .ok (.iconst 1, 1) := by decide +kernel
theorem dX4_value_175 : decode cX4_value 175 = .ok (.isub, 1) := by decide +kernel
theorem dX4_value_176 : decode cX4_value 176 = .ok (.aload_n 2, 1) := by decide +kernel
theorem dX4_value_177 : decode cX4_value 177 = .ok (.iload_n 3, 1) := by decide +kernel
theorem dX4_value_178 : decode cX4_value 178 = .ok (.iconst 1, 1) := by decide +kernel
theorem dX4_value_179 : decode cX4_value 179 = .ok (.isub, 1) := by decide +kernel
theorem dX4_value_180 : decode cX4_value 180 = .ok (.iaload, 1) := by decide +kernel
theorem dX4_value_181 : decode cX4_value 181 = .ok (.ineg, 1) := by decide +kernel
theorem dX4_value_182 : decode cX4_value 182 = .ok (.iastore, 1) := by decide +kernel
theorem dX4_value_183 : decode cX4_value 183 = .ok (.goto 31, 3) := by decide +kernel
theorem dX4_value_186 : decode cX4_value 186 = .ok (.iload_n 3, 1) := by decide +kernel
theorem dX4_value_187 : decode cX4_value 187 = .ok (.iconst 2, 1) := by decide +kernel
theorem dX4_value_188 : decode cX4_value 188 = .ok (.if_icmp .ge 5, 3) := by decide +kernel
theorem dX4_value_191 : decode cX4_value 191 = .ok (.iconst 0, 1) := by decide +kernel
theorem dX4_value_192 : decode cX4_value 192 = .ok (.ireturn, 1) := by decide +kernel
theorem dX4_value_193 : decode cX4_value 193 = .ok (.iinc 3 (-1), 3) := by decide +kernel
theorem dX4_value_196 : decode cX4_value 196 = .ok (.aload_n 2, 1) := by decide +kernel
theorem dX4_value_197 : decode cX4_value 197 = .ok (.iload_n 3, 1) := by decide +kernel
theorem dX4_value_198 : decode cX4_value 198 = .ok (.iconst 1, 1) := by decide +kernel
theorem dX4_value_199 : decode cX4_value 199 = .ok (.isub, 1) := by decide +kernel
theorem dX4_value_200 : decode cX4_value 200 = .ok (.iload 5, 2) := by decide +kernel
theorem dX4_value_202 : decode cX4_value 202 = .ok (.aload_n 2, 1) := by decide +kernel
theorem dX4_value_203 : decode cX4_value 203 = .ok (.iload_n 3, 1) := by decide +kernel
theorem dX4_value_204 : decode cX4_value 204 = .ok (.iconst 1, 1) := by decide +kernel
theorem dX4_value_205 : decode cX4_value 205 = .ok (.isub, 1) := by decide +kernel
theorem dX4_value_206 : decode cX4_value 206 = .ok (.iaload, 1) := by decide +kernel
theorem dX4_value_207 : decode cX4_value 207 = .ok (.aload_n 2, 1) := by decide +kernel
theorem dX4_value_208 : decode cX4_value 208 = .ok (.iload_n 3, 1) := by decide +kernel
theorem dX4_value_209 : decode cX4_value 209 = .ok (.iaload, 1) := by decide +kernel
theorem dX4_value_214 : decode cX4_value 214 = .ok (.iinc 4 1, 3) := by decide +kernel
theorem dX4_value_217 : decode cX4_value 217 = .ok (.goto (-212), 3) := by decide +kernel
theorem dX4_value_220 : decode cX4_value 220 = .ok (.iconst 0, 1) := by decide +kernel
theorem dX4_value_221 : decode cX4_value 221 = .ok (.ireturn, 1) := by decide +kernel
abbrev z_X4_value : List Cond := .code yX4_value cX4_value 7 (some .int) :: zW
abbrev wl_X4_value (ad : Nat → Nat) (cs : Nat → ClassId) (h_arI_a : Nat) (h_arK_a : Nat) (h_la : Nat) (h_la_code : Nat) (arI_a : Nat → Int32) (arI_a_n : Nat) (arK_a : Nat → Int32) (arK_a_n : Nat) (la_code : Nat → Int32) (la_code_n : Nat) : va_W := [(h_arI_a, .inl (cs 0, arI_a_n, .inl arI_a)), (h_arK_a, .inl (cs 0, arK_a_n, .inl arK_a)), (h_la, .inr (4, [.ref h_la_code])), (h_la_code, .inl (cs 0, la_code_n, .inl la_code))]
def Q_X4_value (D : va_G) (cs : Nat → ClassId) (ad : Nat → Nat) (h_arI_a : Nat) (h_arK_a : Nat) (h_la : Nat) (h_la_code : Nat) (arI_a : Nat → Int32) (arI_a_n : Nat) (arK_a_n : Nat) (la_code : Nat → Int32) (la_code_n : Nat) (A : Nat → Prop) (R : Int32 × (Nat → Int32)) : Array Value → State → Outcome → State → Prop :=
  va_Qi (fun (r : Int32) (u : (Nat → Int32)) => (r, u) = R) (fun (u : (Nat → Int32)) (t : State) => va_P D classes (wl_X4_value ad cs h_arI_a h_arK_a h_la h_la_code arI_a arI_a_n u arK_a_n la_code la_code_n) t.heap ∧ va_D A (wl_X4_value ad cs h_arI_a h_arK_a h_la h_la_code arI_a arI_a_n u arK_a_n la_code la_code_n)) A
abbrev rm_X4_value : Room := { frames := 1, cells := 0, slots := 0, locals := 21 }
def B_X4_value_214   (g5 : Int32 → Int32 → (Nat → Int32) → (Option (Int32 × (Nat → Int32)))) (arI_a : Nat → Int32) (arI_a_n : Nat) (arK_a_n : Nat) (la_code : Nat → Int32) (la_code_n : Nat) (x3 : Int32) (x4 : Int32) (arK_a : Nat → Int32) : Option (Int32 × (Nat → Int32)) :=
  (zk_let (x4 + (1 : Int32)) (fun v_35 => (g5 x3 v_35 arK_a)))
def B_X4_value_162   (g5 : Int32 → Int32 → (Nat → Int32) → (Option (Int32 × (Nat → Int32)))) (arI_a : Nat → Int32) (arI_a_n : Nat) (arK_a_n : Nat) (la_code : Nat → Int32) (la_code_n : Nat) (x3 : Int32) (x4 : Int32) (s0 : Int32) (s1 : Int32) (arK_a : Nat → Int32) : Option (Int32 × (Nat → Int32)) :=
  (if (s1 < 0 ∨ arK_a_n ≤ s1.toNatClampNeg) then none else (zk_let (upd arK_a s1.toNatClampNeg s0) (fun f_34 => (B_X4_value_214 g5 arI_a arI_a_n arK_a_n la_code la_code_n x3 x4 f_34))))
def B_X4_value_134   (g5 : Int32 → Int32 → (Nat → Int32) → (Option (Int32 × (Nat → Int32)))) (arI_a : Nat → Int32) (arI_a_n : Nat) (arK_a_n : Nat) (la_code : Nat → Int32) (la_code_n : Nat) (x3 : Int32) (s0 : Int32) (arK_a : Nat → Int32) : Option (Int32 × (Nat → Int32)) :=
  (B_X4_value_214 g5 arI_a arI_a_n arK_a_n la_code la_code_n x3 s0 arK_a)
def B_X4_value_79   (g5 : Int32 → Int32 → (Nat → Int32) → (Option (Int32 × (Nat → Int32)))) (arI_a : Nat → Int32) (arI_a_n : Nat) (arK_a_n : Nat) (la_code : Nat → Int32) (la_code_n : Nat) (x3 : Int32) (x4 : Int32) (s0 : Int32) (s1 : Int32) (arK_a : Nat → Int32) : Option (Int32 × (Nat → Int32)) :=
  (if (s1 < 0 ∨ arK_a_n ≤ s1.toNatClampNeg) then none else (zk_let (upd arK_a s1.toNatClampNeg s0) (fun f_31 => (zk_let (x3 + (1 : Int32)) (fun v_32 => (B_X4_value_214 g5 arI_a arI_a_n arK_a_n la_code la_code_n v_32 x4 f_31))))))
def B_X4_value_5   (g5 : Int32 → Int32 → (Nat → Int32) → (Option (Int32 × (Nat → Int32)))) (arI_a : Nat → Int32) (arI_a_n : Nat) (arK_a_n : Nat) (la_code : Nat → Int32) (la_code_n : Nat) (x3 : Int32) (x4 : Int32) (arK_a : Nat → Int32) : Option (Int32 × (Nat → Int32)) :=
  (if (Int32.ofNat la_code_n) ≤ x4 then (some ((0 : Int32), arK_a)) else (if (x4 < 0 ∨ la_code_n ≤ x4.toNatClampNeg) then none else (zk_let ((la_code x4.toNatClampNeg) &&& (31 : Int32)) (fun v_3 => (if (x4 < 0 ∨ la_code_n ≤ x4.toNatClampNeg) then none else (zk_let ((la_code x4.toNatClampNeg) >>> ((5 : Int32) &&& 31)) (fun v_5 => (if (1 : Int32) < v_3 then (if (1 : Int32) ≤ x3 then (if v_3 = (2 : Int32) then (if ((x3 - (1 : Int32)) < 0 ∨ arK_a_n ≤ (x3 - (1 : Int32)).toNatClampNeg) then none else (some (arK_a (x3 - (1 : Int32)).toNatClampNeg, arK_a))) else (if v_3 = (3 : Int32) then (zk_let (x3 + (-1 : Int32)) (fun v_22 => (if (v_22 < 0 ∨ arK_a_n ≤ v_22.toNatClampNeg) then none else (if (arK_a v_22.toNatClampNeg) = 0 then (B_X4_value_134 g5 arI_a arI_a_n arK_a_n la_code la_code_n v_22 (if x4 < (v_5 - (1 : Int32)) then (v_5 - (1 : Int32)) else x4) arK_a) else (B_X4_value_134 g5 arI_a arI_a_n arK_a_n la_code la_code_n v_22 x4 arK_a))))) else (if v_3 = (4 : Int32) then (if ((x3 - (1 : Int32)) < 0 ∨ arK_a_n ≤ (x3 - (1 : Int32)).toNatClampNeg) then none else (if (arK_a (x3 - (1 : Int32)).toNatClampNeg) = 0 then (B_X4_value_162 g5 arI_a arI_a_n arK_a_n la_code la_code_n x3 x4 (1 : Int32) (x3 - (1 : Int32)) arK_a) else (B_X4_value_162 g5 arI_a arI_a_n arK_a_n la_code la_code_n x3 x4 (0 : Int32) (x3 - (1 : Int32)) arK_a))) else (if v_3 = (5 : Int32) then (if ((x3 - (1 : Int32)) < 0 ∨ arK_a_n ≤ (x3 - (1 : Int32)).toNatClampNeg) then none else (zk_let (-(arK_a (x3 - (1 : Int32)).toNatClampNeg)) (fun v_17 => (if ((x3 - (1 : Int32)) < 0 ∨ arK_a_n ≤ (x3 - (1 : Int32)).toNatClampNeg) then none else (zk_let (upd arK_a (x3 - (1 : Int32)).toNatClampNeg v_17) (fun f_19 => (B_X4_value_214 g5 arI_a arI_a_n arK_a_n la_code la_code_n x3 x4 f_19))))))) else (if (2 : Int32) ≤ x3 then (zk_let (x3 + (-1 : Int32)) (fun v_13 => (if ((v_13 - (1 : Int32)) < 0 ∨ arK_a_n ≤ (v_13 - (1 : Int32)).toNatClampNeg) then none else (if (v_13 < 0 ∨ arK_a_n ≤ v_13.toNatClampNeg) then none else none)))) else (some ((0 : Int32), arK_a))))))) else (some ((0 : Int32), arK_a))) else (if x3 < (Int32.ofNat arK_a_n) then (if v_3 = 0 then (B_X4_value_79 g5 arI_a arI_a_n arK_a_n la_code la_code_n x3 x4 v_5 x3 arK_a) else (if (Int32.ofNat arI_a_n) ≤ v_5 then (B_X4_value_79 g5 arI_a arI_a_n arK_a_n la_code la_code_n x3 x4 (0 : Int32) x3 arK_a) else (if (v_5 < 0 ∨ arI_a_n ≤ v_5.toNatClampNeg) then none else (B_X4_value_79 g5 arI_a arI_a_n arK_a_n la_code la_code_n x3 x4 (arI_a v_5.toNatClampNeg) x3 arK_a)))) else (some ((0 : Int32), arK_a)))))))))))
def B_X4_value_0   (g5 : Int32 → Int32 → (Nat → Int32) → (Option (Int32 × (Nat → Int32)))) (arI_a : Nat → Int32) (arI_a_n : Nat) (arK_a_n : Nat) (la_code : Nat → Int32) (la_code_n : Nat) (arK_a : Nat → Int32) : Option (Int32 × (Nat → Int32)) :=
  (g5 (0 : Int32) (0 : Int32) arK_a)
def G_X4_value   (arI_a : Nat → Int32) (arI_a_n : Nat) (arK_a_n : Nat) (la_code : Nat → Int32) (la_code_n : Nat) (n : Nat) : (Int32 → Int32 → (Nat → Int32) → (Option (Int32 × (Nat → Int32)))) :=
  Nat.rec (motive := fun _ => (Int32 → Int32 → (Nat → Int32) → (Option (Int32 × (Nat → Int32))))) ((fun _ _ _ => none)) (fun _ ih => (B_X4_value_5   ih arI_a arI_a_n arK_a_n la_code la_code_n)) n
def f_X4_value   (n : Nat)  (arI_a : Nat → Int32) (arI_a_n : Nat) (arK_a : Nat → Int32) (arK_a_n : Nat) (la_code : Nat → Int32) (la_code_n : Nat) : Option (Int32 × (Nat → Int32)) := B_X4_value_0   ((G_X4_value   arI_a arI_a_n arK_a_n la_code la_code_n n)) arI_a arI_a_n arK_a_n la_code la_code_n  arK_a
set_option maxHeartbeats 4000000 in
set_option maxRecDepth 100000 in
theorem L_X4_value_214 {p : Program} {l : Launch} {e : Env} {s : State} {m : MethodId} {args : Array Value} {below : List Frame} {meth : Method} {c : Code} {A : Nat → Prop} {D : va_G} {cs : Nat → ClassId} {ad : Nat → Nat} {h_arI_a : Nat} {h_arK_a : Nat} {h_la : Nat} {h_la_code : Nat} {arI_a : Nat → Int32} {arI_a_n : Nat} {arK_a_n : Nat} {la_code : Nat → Int32} {la_code_n : Nat} {R : Int32 × (Nat → Int32)} {g5 : Int32 → Int32 → (Nat → Int32) → (Option (Int32 × (Nat → Int32)))} (C0 : zC p s m args meth c cX4_value 7 (some .int) RX4 zW) (hK : va_K D classes (zT cs) s) (hA : ∀ q : Nat, s.heap.size ≤ q → A q) (ih5 : ∀ (x3 : Int32) (x4 : Int32) (arK_a : Nat → Int32) (h : g5 x3 x4 arK_a = some R) (H : Heap) (locs : List Loc) (ls : Array Slot) (hP : va_P D classes (wl_X4_value ad cs h_arI_a h_arK_a h_la h_la_code arI_a arI_a_n arK_a arK_a_n la_code la_code_n) H) (hD : va_D A (wl_X4_value ad cs h_arI_a h_arK_a h_la h_la_code arI_a arI_a_n arK_a arK_a_n la_code la_code_n)) (hS : va_S A s.heap H locs) (hl : lv_has ls 7 [(0, .ref h_la), (1, .ref h_arI_a), (2, .ref h_arK_a), (3, .int x3), (4, .int x4)]), W p l e rm_X4_value s m args below meth c H locs 0 0 (MQ below (Q_X4_value D cs ad h_arI_a h_arK_a h_la h_la_code arI_a arI_a_n arK_a_n la_code la_code_n A R) args s 0 0 A) (F0 m 5 ls [])) (x3 : Int32) (x4 : Int32) (arK_a : Nat → Int32) (h : B_X4_value_214 g5 arI_a arI_a_n arK_a_n la_code la_code_n x3 x4 arK_a = some R) (H : Heap) (locs : List Loc) (ls : Array Slot) (hP : va_P D classes (wl_X4_value ad cs h_arI_a h_arK_a h_la h_la_code arI_a arI_a_n arK_a arK_a_n la_code la_code_n) H) (hD : va_D A (wl_X4_value ad cs h_arI_a h_arK_a h_la h_la_code arI_a arI_a_n arK_a arK_a_n la_code la_code_n)) (hS : va_S A s.heap H locs) (hl : lv_has ls 7 [(0, .ref h_la), (1, .ref h_arI_a), (2, .ref h_arK_a), (3, .int x3), (4, .int x4)]) : W p l e rm_X4_value s m args below meth c H locs 0 0 (MQ below (Q_X4_value D cs ad h_arI_a h_arK_a h_la h_la_code arI_a arI_a_n arK_a_n la_code la_code_n A R) args s 0 0 A) (F0 m 214 ls []) := by
  obtain ⟨hx, hb, hr, hml, hown, ht, hlocks⟩ := id C0
  obtain ⟨v_35, ev_35, h⟩ := zk_lt h
  refine lv_iinc (v := v_35) (lv' := [(4, .int v_35), (0, .ref h_la), (1, .ref h_arI_a), (2, .ref h_arK_a), (3, .int x3)]) hx hb dX4_value_214 hl (k := 4) rfl (by rw [ev_35]; rfl) (by decide) rfl (fun ls hl => ?_)
  refine lv_goto (tgt := 5) hx hb dX4_value_217 (by decide) ?_
  exact ih5 x3 v_35 arK_a h H locs ls hP hD hS (lv_sub hl [1, 2, 3, 4, 0] rfl)
set_option maxHeartbeats 4000000 in
set_option maxRecDepth 100000 in
theorem L_X4_value_162 {p : Program} {l : Launch} {e : Env} {s : State} {m : MethodId} {args : Array Value} {below : List Frame} {meth : Method} {c : Code} {A : Nat → Prop} {D : va_G} {cs : Nat → ClassId} {ad : Nat → Nat} {h_arI_a : Nat} {h_arK_a : Nat} {h_la : Nat} {h_la_code : Nat} {arI_a : Nat → Int32} {arI_a_n : Nat} {arK_a_n : Nat} {la_code : Nat → Int32} {la_code_n : Nat} {R : Int32 × (Nat → Int32)} {g5 : Int32 → Int32 → (Nat → Int32) → (Option (Int32 × (Nat → Int32)))} (C0 : zC p s m args meth c cX4_value 7 (some .int) RX4 zW) (hK : va_K D classes (zT cs) s) (hA : ∀ q : Nat, s.heap.size ≤ q → A q) (ih5 : ∀ (x3 : Int32) (x4 : Int32) (arK_a : Nat → Int32) (h : g5 x3 x4 arK_a = some R) (H : Heap) (locs : List Loc) (ls : Array Slot) (hP : va_P D classes (wl_X4_value ad cs h_arI_a h_arK_a h_la h_la_code arI_a arI_a_n arK_a arK_a_n la_code la_code_n) H) (hD : va_D A (wl_X4_value ad cs h_arI_a h_arK_a h_la h_la_code arI_a arI_a_n arK_a arK_a_n la_code la_code_n)) (hS : va_S A s.heap H locs) (hl : lv_has ls 7 [(0, .ref h_la), (1, .ref h_arI_a), (2, .ref h_arK_a), (3, .int x3), (4, .int x4)]), W p l e rm_X4_value s m args below meth c H locs 0 0 (MQ below (Q_X4_value D cs ad h_arI_a h_arK_a h_la h_la_code arI_a arI_a_n arK_a_n la_code la_code_n A R) args s 0 0 A) (F0 m 5 ls [])) (x3 : Int32) (x4 : Int32) (s0 : Int32) (s1 : Int32) (arK_a : Nat → Int32) (h : B_X4_value_162 g5 arI_a arI_a_n arK_a_n la_code la_code_n x3 x4 s0 s1 arK_a = some R) (H : Heap) (locs : List Loc) (ls : Array Slot) (hP : va_P D classes (wl_X4_value ad cs h_arI_a h_arK_a h_la h_la_code arI_a arI_a_n arK_a arK_a_n la_code la_code_n) H) (hD : va_D A (wl_X4_value ad cs h_arI_a h_arK_a h_la h_la_code arI_a arI_a_n arK_a arK_a_n la_code la_code_n)) (hS : va_S A s.heap H locs) (hl : lv_has ls 7 [(0, .ref h_la), (1, .ref h_arI_a), (2, .ref h_arK_a), (3, .int x3), (4, .int x4)]) : W p l e rm_X4_value s m args below meth c H locs 0 0 (MQ below (Q_X4_value D cs ad h_arI_a h_arK_a h_la h_la_code arI_a arI_a_n arK_a_n la_code la_code_n A R) args s 0 0 A) (F0 m 162 ls [.int s0, .int s1, .ref h_arK_a]) := by
  obtain ⟨hx, hb, hr, hml, hown, ht, hlocks⟩ := id C0
  obtain ⟨g_33, h⟩ := zk_gd h
  obtain ⟨f_34, ef_34, h⟩ := zk_lt h
  refine va_iast hx hb hK hP hD hS 1 0 rfl rfl g_33 dX4_value_162 (fun H locs hP hD hS => ?_)
  have hP : va_P D classes (wl_X4_value ad cs h_arI_a h_arK_a h_la h_la_code arI_a arI_a_n f_34 arK_a_n la_code la_code_n) H := by rw [ef_34]; exact hP
  have hD : va_D A (wl_X4_value ad cs h_arI_a h_arK_a h_la h_la_code arI_a arI_a_n f_34 arK_a_n la_code la_code_n) := by rw [ef_34]; exact hD
  refine lv_goto (tgt := 214) hx hb dX4_value_163 (by decide) ?_
  exact L_X4_value_214 C0 hK hA  ih5 x3 x4 f_34 h H locs ls hP hD hS (lv_sub hl [0, 1, 2, 3, 4] rfl)
set_option maxHeartbeats 4000000 in
set_option maxRecDepth 100000 in
theorem L_X4_value_134 {p : Program} {l : Launch} {e : Env} {s : State} {m : MethodId} {args : Array Value} {below : List Frame} {meth : Method} {c : Code} {A : Nat → Prop} {D : va_G} {cs : Nat → ClassId} {ad : Nat → Nat} {h_arI_a : Nat} {h_arK_a : Nat} {h_la : Nat} {h_la_code : Nat} {arI_a : Nat → Int32} {arI_a_n : Nat} {arK_a_n : Nat} {la_code : Nat → Int32} {la_code_n : Nat} {R : Int32 × (Nat → Int32)} {g5 : Int32 → Int32 → (Nat → Int32) → (Option (Int32 × (Nat → Int32)))} (C0 : zC p s m args meth c cX4_value 7 (some .int) RX4 zW) (hK : va_K D classes (zT cs) s) (hA : ∀ q : Nat, s.heap.size ≤ q → A q) (ih5 : ∀ (x3 : Int32) (x4 : Int32) (arK_a : Nat → Int32) (h : g5 x3 x4 arK_a = some R) (H : Heap) (locs : List Loc) (ls : Array Slot) (hP : va_P D classes (wl_X4_value ad cs h_arI_a h_arK_a h_la h_la_code arI_a arI_a_n arK_a arK_a_n la_code la_code_n) H) (hD : va_D A (wl_X4_value ad cs h_arI_a h_arK_a h_la h_la_code arI_a arI_a_n arK_a arK_a_n la_code la_code_n)) (hS : va_S A s.heap H locs) (hl : lv_has ls 7 [(0, .ref h_la), (1, .ref h_arI_a), (2, .ref h_arK_a), (3, .int x3), (4, .int x4)]), W p l e rm_X4_value s m args below meth c H locs 0 0 (MQ below (Q_X4_value D cs ad h_arI_a h_arK_a h_la h_la_code arI_a arI_a_n arK_a_n la_code la_code_n A R) args s 0 0 A) (F0 m 5 ls [])) (x3 : Int32) (s0 : Int32) (arK_a : Nat → Int32) (h : B_X4_value_134 g5 arI_a arI_a_n arK_a_n la_code la_code_n x3 s0 arK_a = some R) (H : Heap) (locs : List Loc) (ls : Array Slot) (hP : va_P D classes (wl_X4_value ad cs h_arI_a h_arK_a h_la h_la_code arI_a arI_a_n arK_a arK_a_n la_code la_code_n) H) (hD : va_D A (wl_X4_value ad cs h_arI_a h_arK_a h_la h_la_code arI_a arI_a_n arK_a arK_a_n la_code la_code_n)) (hS : va_S A s.heap H locs) (hl : lv_has ls 7 [(0, .ref h_la), (1, .ref h_arI_a), (2, .ref h_arK_a), (3, .int x3)]) : W p l e rm_X4_value s m args below meth c H locs 0 0 (MQ below (Q_X4_value D cs ad h_arI_a h_arK_a h_la h_la_code arI_a arI_a_n arK_a_n la_code la_code_n A R) args s 0 0 A) (F0 m 134 ls [.int s0]) := by
  obtain ⟨hx, hb, hr, hml, hown, ht, hlocks⟩ := id C0
  refine lv_istore (lv' := [(4, .int s0), (0, .ref h_la), (1, .ref h_arI_a), (2, .ref h_arK_a), (3, .int x3)]) hx hb dX4_value_134 hl (by decide) rfl (fun ls hl => ?_)
  refine lv_goto (tgt := 214) hx hb dX4_value_136 (by decide) ?_
  exact L_X4_value_214 C0 hK hA  ih5 x3 s0 arK_a h H locs ls hP hD hS (lv_sub hl [1, 2, 3, 4, 0] rfl)
set_option maxHeartbeats 4000000 in
set_option maxRecDepth 100000 in
theorem L_X4_value_79 {p : Program} {l : Launch} {e : Env} {s : State} {m : MethodId} {args : Array Value} {below : List Frame} {meth : Method} {c : Code} {A : Nat → Prop} {D : va_G} {cs : Nat → ClassId} {ad : Nat → Nat} {h_arI_a : Nat} {h_arK_a : Nat} {h_la : Nat} {h_la_code : Nat} {arI_a : Nat → Int32} {arI_a_n : Nat} {arK_a_n : Nat} {la_code : Nat → Int32} {la_code_n : Nat} {R : Int32 × (Nat → Int32)} {g5 : Int32 → Int32 → (Nat → Int32) → (Option (Int32 × (Nat → Int32)))} (C0 : zC p s m args meth c cX4_value 7 (some .int) RX4 zW) (hK : va_K D classes (zT cs) s) (hA : ∀ q : Nat, s.heap.size ≤ q → A q) (ih5 : ∀ (x3 : Int32) (x4 : Int32) (arK_a : Nat → Int32) (h : g5 x3 x4 arK_a = some R) (H : Heap) (locs : List Loc) (ls : Array Slot) (hP : va_P D classes (wl_X4_value ad cs h_arI_a h_arK_a h_la h_la_code arI_a arI_a_n arK_a arK_a_n la_code la_code_n) H) (hD : va_D A (wl_X4_value ad cs h_arI_a h_arK_a h_la h_la_code arI_a arI_a_n arK_a arK_a_n la_code la_code_n)) (hS : va_S A s.heap H locs) (hl : lv_has ls 7 [(0, .ref h_la), (1, .ref h_arI_a), (2, .ref h_arK_a), (3, .int x3), (4, .int x4)]), W p l e rm_X4_value s m args below meth c H locs 0 0 (MQ below (Q_X4_value D cs ad h_arI_a h_arK_a h_la h_la_code arI_a arI_a_n arK_a_n la_code la_code_n A R) args s 0 0 A) (F0 m 5 ls [])) (x3 : Int32) (x4 : Int32) (s0 : Int32) (s1 : Int32) (arK_a : Nat → Int32) (h : B_X4_value_79 g5 arI_a arI_a_n arK_a_n la_code la_code_n x3 x4 s0 s1 arK_a = some R) (H : Heap) (locs : List Loc) (ls : Array Slot) (hP : va_P D classes (wl_X4_value ad cs h_arI_a h_arK_a h_la h_la_code arI_a arI_a_n arK_a arK_a_n la_code la_code_n) H) (hD : va_D A (wl_X4_value ad cs h_arI_a h_arK_a h_la h_la_code arI_a arI_a_n arK_a arK_a_n la_code la_code_n)) (hS : va_S A s.heap H locs) (hl : lv_has ls 7 [(0, .ref h_la), (1, .ref h_arI_a), (2, .ref h_arK_a), (3, .int x3), (4, .int x4)]) : W p l e rm_X4_value s m args below meth c H locs 0 0 (MQ below (Q_X4_value D cs ad h_arI_a h_arK_a h_la h_la_code arI_a arI_a_n arK_a_n la_code la_code_n A R) args s 0 0 A) (F0 m 79 ls [.int s0, .int s1, .ref h_arK_a]) := by
  obtain ⟨hx, hb, hr, hml, hown, ht, hlocks⟩ := id C0
  obtain ⟨g_30, h⟩ := zk_gd h
  obtain ⟨f_31, ef_31, h⟩ := zk_lt h
  refine va_iast hx hb hK hP hD hS 1 0 rfl rfl g_30 dX4_value_79 (fun H locs hP hD hS => ?_)
  have hP : va_P D classes (wl_X4_value ad cs h_arI_a h_arK_a h_la h_la_code arI_a arI_a_n f_31 arK_a_n la_code la_code_n) H := by rw [ef_31]; exact hP
  have hD : va_D A (wl_X4_value ad cs h_arI_a h_arK_a h_la h_la_code arI_a arI_a_n f_31 arK_a_n la_code la_code_n) := by rw [ef_31]; exact hD
  obtain ⟨v_32, ev_32, h⟩ := zk_lt h
  refine lv_iinc (v := v_32) (lv' := [(3, .int v_32), (0, .ref h_la), (1, .ref h_arI_a), (2, .ref h_arK_a), (4, .int x4)]) hx hb dX4_value_80 hl (k := 3) rfl (by rw [ev_32]; rfl) (by decide) rfl (fun ls hl => ?_)
  refine lv_goto (tgt := 214) hx hb dX4_value_83 (by decide) ?_
  exact L_X4_value_214 C0 hK hA  ih5 v_32 x4 f_31 h H locs ls hP hD hS (lv_sub hl [1, 2, 3, 0, 4] rfl)
set_option maxHeartbeats 4000000 in
set_option maxRecDepth 100000 in
theorem L_X4_value_5 {p : Program} {l : Launch} {e : Env} {s : State} {m : MethodId} {args : Array Value} {below : List Frame} {meth : Method} {c : Code} {A : Nat → Prop} {D : va_G} {cs : Nat → ClassId} {ad : Nat → Nat} {h_arI_a : Nat} {h_arK_a : Nat} {h_la : Nat} {h_la_code : Nat} {arI_a : Nat → Int32} {arI_a_n : Nat} {arK_a_n : Nat} {la_code : Nat → Int32} {la_code_n : Nat} {R : Int32 × (Nat → Int32)} {g5 : Int32 → Int32 → (Nat → Int32) → (Option (Int32 × (Nat → Int32)))} (C0 : zC p s m args meth c cX4_value 7 (some .int) RX4 zW) (hK : va_K D classes (zT cs) s) (hA : ∀ q : Nat, s.heap.size ≤ q → A q) (ih5 : ∀ (x3 : Int32) (x4 : Int32) (arK_a : Nat → Int32) (h : g5 x3 x4 arK_a = some R) (H : Heap) (locs : List Loc) (ls : Array Slot) (hP : va_P D classes (wl_X4_value ad cs h_arI_a h_arK_a h_la h_la_code arI_a arI_a_n arK_a arK_a_n la_code la_code_n) H) (hD : va_D A (wl_X4_value ad cs h_arI_a h_arK_a h_la h_la_code arI_a arI_a_n arK_a arK_a_n la_code la_code_n)) (hS : va_S A s.heap H locs) (hl : lv_has ls 7 [(0, .ref h_la), (1, .ref h_arI_a), (2, .ref h_arK_a), (3, .int x3), (4, .int x4)]), W p l e rm_X4_value s m args below meth c H locs 0 0 (MQ below (Q_X4_value D cs ad h_arI_a h_arK_a h_la h_la_code arI_a arI_a_n arK_a_n la_code la_code_n A R) args s 0 0 A) (F0 m 5 ls [])) (x3 : Int32) (x4 : Int32) (arK_a : Nat → Int32) (h : B_X4_value_5 g5 arI_a arI_a_n arK_a_n la_code la_code_n x3 x4 arK_a = some R) (H : Heap) (locs : List Loc) (ls : Array Slot) (hP : va_P D classes (wl_X4_value ad cs h_arI_a h_arK_a h_la h_la_code arI_a arI_a_n arK_a arK_a_n la_code la_code_n) H) (hD : va_D A (wl_X4_value ad cs h_arI_a h_arK_a h_la h_la_code arI_a arI_a_n arK_a arK_a_n la_code la_code_n)) (hS : va_S A s.heap H locs) (hl : lv_has ls 7 [(0, .ref h_la), (1, .ref h_arI_a), (2, .ref h_arK_a), (3, .int x3), (4, .int x4)]) : W p l e rm_X4_value s m args below meth c H locs 0 0 (MQ below (Q_X4_value D cs ad h_arI_a h_arK_a h_la h_la_code arI_a arI_a_n arK_a_n la_code la_code_n A R) args s 0 0 A) (F0 m 5 ls []) := by
  obtain ⟨hx, hb, hr, hml, hown, ht, hlocks⟩ := id C0
  refine lv_iload hx hb dX4_value_5 (lv_at hl 4 rfl) ?_
  refine lv_aload_n hx hb dX4_value_7 rfl (lv_at hl 0 rfl) ?_
  refine va_get (D := D) (ci := 4) (v := .ref h_la_code) (C := RX4) (T := TX4) (N := 1) hx hb ht iX4 hown hK hP 2 rfl rfl 0 (by decide) (ht _ kw_670) (fun _ h9 => h9) rfl dX4_value_8 ?_
  refine va_alen (v := Int32.ofNat la_code_n) hx hb hK hP 3 0 rfl rfl rfl dX4_value_11 ?_
  refine lv_icmp_ge (tgt := 220) hx hb dX4_value_12 (by decide) (fun c_1 => ?_) (fun c_1 => ?_)
  · have h := zk_t c_1 h
    refine lv_iconst (v := (0 : Int32)) hx hb dX4_value_220 (by decide) ?_
    exact W.iret (v := (0 : Int32)) hx hb hr (fun t ht2 hW => ⟨⟨(0 : Int32), arK_a, rfl, Option.some.inj h, by rw [ht2]; exact hP, hD⟩, hS.F ht2⟩) hS.2.2 dX4_value_221 hlocks
  · have h := zk_f c_1 h
    refine lv_aload_n hx hb dX4_value_15 rfl (lv_at hl 0 rfl) ?_
    refine va_get (D := D) (ci := 4) (v := .ref h_la_code) (C := RX4) (T := TX4) (N := 1) hx hb ht iX4 hown hK hP 2 rfl rfl 0 (by decide) (ht _ kw_670) (fun _ h9 => h9) rfl dX4_value_16 ?_
    refine lv_iload hx hb dX4_value_19 (lv_at hl 4 rfl) ?_
    obtain ⟨g_2, h⟩ := zk_gd h
    refine va_iald hx hb hK hP 3 0 rfl rfl g_2 dX4_value_21 ?_
    refine lv_bipush (v := (31 : Int32)) hx hb dX4_value_22 (by decide) ?_
    refine lv_iand hx hb dX4_value_24 ?_
    obtain ⟨v_3, ev_3, h⟩ := zk_lt h
    refine W.eq (g2 := F0 m 25 ls [.int v_3]) (by rw [ev_3]) ?_
    refine lv_istore (lv' := [(5, .int v_3), (0, .ref h_la), (1, .ref h_arI_a), (2, .ref h_arK_a), (3, .int x3), (4, .int x4)]) hx hb dX4_value_25 hl (by decide) rfl (fun ls hl => ?_)
    refine lv_aload_n hx hb dX4_value_27 rfl (lv_at hl 1 rfl) ?_
    refine va_get (D := D) (ci := 4) (v := .ref h_la_code) (C := RX4) (T := TX4) (N := 1) hx hb ht iX4 hown hK hP 2 rfl rfl 0 (by decide) (ht _ kw_670) (fun _ h9 => h9) rfl dX4_value_28 ?_
    refine lv_iload hx hb dX4_value_31 (lv_at hl 5 rfl) ?_
    obtain ⟨g_4, h⟩ := zk_gd h
    refine va_iald hx hb hK hP 3 0 rfl rfl g_4 dX4_value_33 ?_
    refine lv_iconst (v := (5 : Int32)) hx hb dX4_value_34 (by decide) ?_
    refine lv_ishr hx hb dX4_value_35 ?_
    obtain ⟨v_5, ev_5, h⟩ := zk_lt h
    refine W.eq (g2 := F0 m 36 ls [.int v_5]) (by rw [ev_5]) ?_
    refine lv_istore (lv' := [(6, .int v_5), (5, .int v_3), (0, .ref h_la), (1, .ref h_arI_a), (2, .ref h_arK_a), (3, .int x3), (4, .int x4)]) hx hb dX4_value_36 hl (by decide) rfl (fun ls hl => ?_)
    refine lv_iload hx hb dX4_value_38 (lv_at hl 1 rfl) ?_
    refine lv_iconst (v := (1 : Int32)) hx hb dX4_value_40 (by decide) ?_
    refine lv_icmp_gt (tgt := 86) hx hb dX4_value_41 (by decide) (fun c_6 => ?_) (fun c_6 => ?_)
    · have h := zk_t c_6 h
      refine lv_iload_n hx hb dX4_value_86 rfl (lv_at hl 5 rfl) ?_
      refine lv_iconst (v := (1 : Int32)) hx hb dX4_value_87 (by decide) ?_
      refine lv_icmp_ge (tgt := 93) hx hb dX4_value_88 (by decide) (fun c_7 => ?_) (fun c_7 => ?_)
      · have h := zk_t c_7 h
        refine lv_iload hx hb dX4_value_93 (lv_at hl 1 rfl) ?_
        refine lv_iconst (v := (2 : Int32)) hx hb dX4_value_95 (by decide) ?_
        refine lv_icmp_ne (tgt := 105) hx hb dX4_value_96 (by decide) (fun c_8 => ?_) (fun c_8 => ?_)
        · have h := zk_f c_8 h
          refine lv_iload hx hb dX4_value_105 (lv_at hl 1 rfl) ?_
          refine lv_iconst (v := (3 : Int32)) hx hb dX4_value_107 (by decide) ?_
          refine lv_icmp_ne (tgt := 139) hx hb dX4_value_108 (by decide) (fun c_9 => ?_) (fun c_9 => ?_)
          · have h := zk_f c_9 h
            refine lv_iload hx hb dX4_value_139 (lv_at hl 1 rfl) ?_
            refine lv_iconst (v := (4 : Int32)) hx hb dX4_value_141 (by decide) ?_
            refine lv_icmp_ne (tgt := 166) hx hb dX4_value_142 (by decide) (fun c_10 => ?_) (fun c_10 => ?_)
            · have h := zk_f c_10 h
              refine lv_iload hx hb dX4_value_166 (lv_at hl 1 rfl) ?_
              refine lv_iconst (v := (5 : Int32)) hx hb dX4_value_168 (by decide) ?_
              refine lv_icmp_ne (tgt := 186) hx hb dX4_value_169 (by decide) (fun c_11 => ?_) (fun c_11 => ?_)
              · have h := zk_f c_11 h
                refine lv_iload_n hx hb dX4_value_186 rfl (lv_at hl 5 rfl) ?_
                refine lv_iconst (v := (2 : Int32)) hx hb dX4_value_187 (by decide) ?_
                refine lv_icmp_ge (tgt := 193) hx hb dX4_value_188 (by decide) (fun c_12 => ?_) (fun c_12 => ?_)
                · have h := zk_t c_12 h
                  obtain ⟨v_13, ev_13, h⟩ := zk_lt h
                  refine lv_iinc (v := v_13) (lv' := [(3, .int v_13), (6, .int v_5), (5, .int v_3), (0, .ref h_la), (1, .ref h_arI_a), (2, .ref h_arK_a), (4, .int x4)]) hx hb dX4_value_193 hl (k := 5) rfl (by rw [ev_13]; rfl) (by decide) rfl (fun ls hl => ?_)
                  refine lv_aload_n hx hb dX4_value_196 rfl (lv_at hl 5 rfl) ?_
                  refine lv_iload_n hx hb dX4_value_197 rfl (lv_at hl 0 rfl) ?_
                  refine lv_iconst (v := (1 : Int32)) hx hb dX4_value_198 (by decide) ?_
                  refine lv_isub hx hb dX4_value_199 ?_
                  refine lv_iload hx hb dX4_value_200 (lv_at hl 2 rfl) ?_
                  refine lv_aload_n hx hb dX4_value_202 rfl (lv_at hl 5 rfl) ?_
                  refine lv_iload_n hx hb dX4_value_203 rfl (lv_at hl 0 rfl) ?_
                  refine lv_iconst (v := (1 : Int32)) hx hb dX4_value_204 (by decide) ?_
                  refine lv_isub hx hb dX4_value_205 ?_
                  obtain ⟨g_14, h⟩ := zk_gd h
                  refine va_iald hx hb hK hP 1 0 rfl rfl g_14 dX4_value_206 ?_
                  refine lv_aload_n hx hb dX4_value_207 rfl (lv_at hl 5 rfl) ?_
                  refine lv_iload_n hx hb dX4_value_208 rfl (lv_at hl 0 rfl) ?_
                  obtain ⟨g_15, h⟩ := zk_gd h
                  refine va_iald hx hb hK hP 1 0 rfl rfl g_15 dX4_value_209 ?_
                  cases h
                · have h := zk_f c_12 h
                  refine lv_iconst (v := (0 : Int32)) hx hb dX4_value_191 (by decide) ?_
                  exact W.iret (v := (0 : Int32)) hx hb hr (fun t ht2 hW => ⟨⟨(0 : Int32), arK_a, rfl, Option.some.inj h, by rw [ht2]; exact hP, hD⟩, hS.F ht2⟩) hS.2.2 dX4_value_192 hlocks
              · have h := zk_t c_11 h
                refine lv_aload_n hx hb dX4_value_172 rfl (lv_at hl 4 rfl) ?_
                refine lv_iload_n hx hb dX4_value_173 rfl (lv_at hl 5 rfl) ?_
                refine lv_iconst (v := (1 : Int32)) hx hb dX4_value_174 (by decide) ?_
                refine lv_isub hx hb dX4_value_175 ?_
                refine lv_aload_n hx hb dX4_value_176 rfl (lv_at hl 4 rfl) ?_
                refine lv_iload_n hx hb dX4_value_177 rfl (lv_at hl 5 rfl) ?_
                refine lv_iconst (v := (1 : Int32)) hx hb dX4_value_178 (by decide) ?_
                refine lv_isub hx hb dX4_value_179 ?_
                obtain ⟨g_16, h⟩ := zk_gd h
                refine va_iald hx hb hK hP 1 0 rfl rfl g_16 dX4_value_180 ?_
                refine lv_ineg hx hb dX4_value_181 ?_
                obtain ⟨v_17, ev_17, h⟩ := zk_lt h
                refine W.eq (g2 := F0 m 182 ls [.int v_17, .int (x3 - (1 : Int32)), .ref h_arK_a]) (by rw [ev_17]) ?_
                obtain ⟨g_18, h⟩ := zk_gd h
                obtain ⟨f_19, ef_19, h⟩ := zk_lt h
                refine va_iast hx hb hK hP hD hS 1 0 rfl rfl g_18 dX4_value_182 (fun H locs hP hD hS => ?_)
                have hP : va_P D classes (wl_X4_value ad cs h_arI_a h_arK_a h_la h_la_code arI_a arI_a_n f_19 arK_a_n la_code la_code_n) H := by rw [ef_19]; exact hP
                have hD : va_D A (wl_X4_value ad cs h_arI_a h_arK_a h_la h_la_code arI_a arI_a_n f_19 arK_a_n la_code la_code_n) := by rw [ef_19]; exact hD
                refine lv_goto (tgt := 214) hx hb dX4_value_183 (by decide) ?_
                exact L_X4_value_214 C0 hK hA  ih5 x3 x4 f_19 h H locs ls hP hD hS (lv_sub hl [2, 3, 4, 5, 6] rfl)
            · have h := zk_t c_10 h
              refine lv_aload_n hx hb dX4_value_145 rfl (lv_at hl 4 rfl) ?_
              refine lv_iload_n hx hb dX4_value_146 rfl (lv_at hl 5 rfl) ?_
              refine lv_iconst (v := (1 : Int32)) hx hb dX4_value_147 (by decide) ?_
              refine lv_isub hx hb dX4_value_148 ?_
              refine lv_aload_n hx hb dX4_value_149 rfl (lv_at hl 4 rfl) ?_
              refine lv_iload_n hx hb dX4_value_150 rfl (lv_at hl 5 rfl) ?_
              refine lv_iconst (v := (1 : Int32)) hx hb dX4_value_151 (by decide) ?_
              refine lv_isub hx hb dX4_value_152 ?_
              obtain ⟨g_20, h⟩ := zk_gd h
              refine va_iald hx hb hK hP 1 0 rfl rfl g_20 dX4_value_153 ?_
              refine lv_if_ne (tgt := 161) hx hb dX4_value_154 (by decide) (fun c_21 => ?_) (fun c_21 => ?_)
              · have h := zk_f c_21 h
                refine lv_iconst (v := (0 : Int32)) hx hb dX4_value_161 (by decide) ?_
                exact L_X4_value_162 C0 hK hA  ih5 x3 x4 (0 : Int32) (x3 - (1 : Int32)) arK_a h H locs ls hP hD hS (lv_sub hl [2, 3, 4, 5, 6] rfl)
              · have h := zk_t c_21 h
                refine lv_iconst (v := (1 : Int32)) hx hb dX4_value_157 (by decide) ?_
                refine lv_goto (tgt := 162) hx hb dX4_value_158 (by decide) ?_
                exact L_X4_value_162 C0 hK hA  ih5 x3 x4 (1 : Int32) (x3 - (1 : Int32)) arK_a h H locs ls hP hD hS (lv_sub hl [2, 3, 4, 5, 6] rfl)
          · have h := zk_t c_9 h
            obtain ⟨v_22, ev_22, h⟩ := zk_lt h
            refine lv_iinc (v := v_22) (lv' := [(3, .int v_22), (6, .int v_5), (5, .int v_3), (0, .ref h_la), (1, .ref h_arI_a), (2, .ref h_arK_a), (4, .int x4)]) hx hb dX4_value_111 hl (k := 5) rfl (by rw [ev_22]; rfl) (by decide) rfl (fun ls hl => ?_)
            refine lv_aload_n hx hb dX4_value_114 rfl (lv_at hl 5 rfl) ?_
            refine lv_iload_n hx hb dX4_value_115 rfl (lv_at hl 0 rfl) ?_
            obtain ⟨g_23, h⟩ := zk_gd h
            refine va_iald hx hb hK hP 1 0 rfl rfl g_23 dX4_value_116 ?_
            refine lv_if_ne (tgt := 132) hx hb dX4_value_117 (by decide) (fun c_24 => ?_) (fun c_24 => ?_)
            · have h := zk_f c_24 h
              refine lv_iload hx hb dX4_value_132 (lv_at hl 6 rfl) ?_
              exact L_X4_value_134 C0 hK hA  ih5 v_22 x4 arK_a h H locs ls hP hD hS (lv_sub hl [3, 4, 5, 0] rfl)
            · have h := zk_t c_24 h
              refine lv_iload hx hb dX4_value_120 (lv_at hl 6 rfl) ?_
              refine lv_iload hx hb dX4_value_122 (lv_at hl 1 rfl) ?_
              refine lv_iconst (v := (1 : Int32)) hx hb dX4_value_124 (by decide) ?_
              refine lv_isub hx hb dX4_value_125 ?_
              refine va_mmax hx hb (by rw [hml]; exact hl.1.symm) hown (ht _ kw_833) (ht _ kw_603) (ht _ kw_89) (ht _ kw_604) (Nat.le_of_ble_eq_true rfl) (Nat.le_of_ble_eq_true rfl) (Nat.le_of_ble_eq_true rfl) (Nat.le_of_ble_eq_true rfl) dX4_value_126 ?_
              refine lv_goto (tgt := 134) hx hb dX4_value_129 (by decide) ?_
              exact L_X4_value_134 C0 hK hA  ih5 v_22 (if x4 < (v_5 - (1 : Int32)) then (v_5 - (1 : Int32)) else x4) arK_a h H locs ls hP hD hS (lv_sub hl [3, 4, 5, 0] rfl)
        · have h := zk_t c_8 h
          refine lv_aload_n hx hb dX4_value_99 rfl (lv_at hl 4 rfl) ?_
          refine lv_iload_n hx hb dX4_value_100 rfl (lv_at hl 5 rfl) ?_
          refine lv_iconst (v := (1 : Int32)) hx hb dX4_value_101 (by decide) ?_
          refine lv_isub hx hb dX4_value_102 ?_
          obtain ⟨g_25, h⟩ := zk_gd h
          refine va_iald hx hb hK hP 1 0 rfl rfl g_25 dX4_value_103 ?_
          exact W.iret (v := arK_a (x3 - (1 : Int32)).toNatClampNeg) hx hb hr (fun t ht2 hW => ⟨⟨arK_a (x3 - (1 : Int32)).toNatClampNeg, arK_a, rfl, Option.some.inj h, by rw [ht2]; exact hP, hD⟩, hS.F ht2⟩) hS.2.2 dX4_value_104 hlocks
      · have h := zk_f c_7 h
        refine lv_iconst (v := (0 : Int32)) hx hb dX4_value_91 (by decide) ?_
        exact W.iret (v := (0 : Int32)) hx hb hr (fun t ht2 hW => ⟨⟨(0 : Int32), arK_a, rfl, Option.some.inj h, by rw [ht2]; exact hP, hD⟩, hS.F ht2⟩) hS.2.2 dX4_value_92 hlocks
    · have h := zk_f c_6 h
      refine lv_iload_n hx hb dX4_value_44 rfl (lv_at hl 5 rfl) ?_
      refine lv_aload_n hx hb dX4_value_45 rfl (lv_at hl 4 rfl) ?_
      refine va_alen (v := Int32.ofNat arK_a_n) hx hb hK hP 1 0 rfl rfl rfl dX4_value_46 ?_
      refine lv_icmp_lt (tgt := 52) hx hb dX4_value_47 (by decide) (fun c_26 => ?_) (fun c_26 => ?_)
      · have h := zk_t c_26 h
        refine lv_aload_n hx hb dX4_value_52 rfl (lv_at hl 4 rfl) ?_
        refine lv_iload_n hx hb dX4_value_53 rfl (lv_at hl 5 rfl) ?_
        refine lv_iload hx hb dX4_value_54 (lv_at hl 1 rfl) ?_
        refine lv_if_ne (tgt := 64) hx hb dX4_value_56 (by decide) (fun c_27 => ?_) (fun c_27 => ?_)
        · have h := zk_f c_27 h
          refine lv_iload hx hb dX4_value_64 (lv_at hl 0 rfl) ?_
          refine lv_aload_n hx hb dX4_value_66 rfl (lv_at hl 3 rfl) ?_
          refine va_alen (v := Int32.ofNat arI_a_n) hx hb hK hP 0 0 rfl rfl rfl dX4_value_67 ?_
          refine lv_icmp_ge (tgt := 78) hx hb dX4_value_68 (by decide) (fun c_28 => ?_) (fun c_28 => ?_)
          · have h := zk_t c_28 h
            refine lv_iconst (v := (0 : Int32)) hx hb dX4_value_78 (by decide) ?_
            exact L_X4_value_79 C0 hK hA  ih5 x3 x4 (0 : Int32) x3 arK_a h H locs ls hP hD hS (lv_sub hl [2, 3, 4, 5, 6] rfl)
          · have h := zk_f c_28 h
            refine lv_aload_n hx hb dX4_value_71 rfl (lv_at hl 3 rfl) ?_
            refine lv_iload hx hb dX4_value_72 (lv_at hl 0 rfl) ?_
            obtain ⟨g_29, h⟩ := zk_gd h
            refine va_iald hx hb hK hP 0 0 rfl rfl g_29 dX4_value_74 ?_
            refine lv_goto (tgt := 79) hx hb dX4_value_75 (by decide) ?_
            exact L_X4_value_79 C0 hK hA  ih5 x3 x4 (arI_a v_5.toNatClampNeg) x3 arK_a h H locs ls hP hD hS (lv_sub hl [2, 3, 4, 5, 6] rfl)
        · have h := zk_t c_27 h
          refine lv_iload hx hb dX4_value_59 (lv_at hl 0 rfl) ?_
          refine lv_goto (tgt := 79) hx hb dX4_value_61 (by decide) ?_
          exact L_X4_value_79 C0 hK hA  ih5 x3 x4 v_5 x3 arK_a h H locs ls hP hD hS (lv_sub hl [2, 3, 4, 5, 6] rfl)
      · have h := zk_f c_26 h
        refine lv_iconst (v := (0 : Int32)) hx hb dX4_value_50 (by decide) ?_
        exact W.iret (v := (0 : Int32)) hx hb hr (fun t ht2 hW => ⟨⟨(0 : Int32), arK_a, rfl, Option.some.inj h, by rw [ht2]; exact hP, hD⟩, hS.F ht2⟩) hS.2.2 dX4_value_51 hlocks
set_option maxHeartbeats 4000000 in
set_option maxRecDepth 100000 in
theorem L_X4_value_0 {p : Program} {l : Launch} {e : Env} {s : State} {m : MethodId} {args : Array Value} {below : List Frame} {meth : Method} {c : Code} {A : Nat → Prop} {D : va_G} {cs : Nat → ClassId} {ad : Nat → Nat} {h_arI_a : Nat} {h_arK_a : Nat} {h_la : Nat} {h_la_code : Nat} {arI_a : Nat → Int32} {arI_a_n : Nat} {arK_a_n : Nat} {la_code : Nat → Int32} {la_code_n : Nat} {R : Int32 × (Nat → Int32)} {g5 : Int32 → Int32 → (Nat → Int32) → (Option (Int32 × (Nat → Int32)))} (C0 : zC p s m args meth c cX4_value 7 (some .int) RX4 zW) (hK : va_K D classes (zT cs) s) (hA : ∀ q : Nat, s.heap.size ≤ q → A q) (ih5 : ∀ (x3 : Int32) (x4 : Int32) (arK_a : Nat → Int32) (h : g5 x3 x4 arK_a = some R) (H : Heap) (locs : List Loc) (ls : Array Slot) (hP : va_P D classes (wl_X4_value ad cs h_arI_a h_arK_a h_la h_la_code arI_a arI_a_n arK_a arK_a_n la_code la_code_n) H) (hD : va_D A (wl_X4_value ad cs h_arI_a h_arK_a h_la h_la_code arI_a arI_a_n arK_a arK_a_n la_code la_code_n)) (hS : va_S A s.heap H locs) (hl : lv_has ls 7 [(0, .ref h_la), (1, .ref h_arI_a), (2, .ref h_arK_a), (3, .int x3), (4, .int x4)]), W p l e rm_X4_value s m args below meth c H locs 0 0 (MQ below (Q_X4_value D cs ad h_arI_a h_arK_a h_la h_la_code arI_a arI_a_n arK_a_n la_code la_code_n A R) args s 0 0 A) (F0 m 5 ls [])) (arK_a : Nat → Int32) (h : B_X4_value_0 g5 arI_a arI_a_n arK_a_n la_code la_code_n arK_a = some R) (H : Heap) (locs : List Loc) (ls : Array Slot) (hP : va_P D classes (wl_X4_value ad cs h_arI_a h_arK_a h_la h_la_code arI_a arI_a_n arK_a arK_a_n la_code la_code_n) H) (hD : va_D A (wl_X4_value ad cs h_arI_a h_arK_a h_la h_la_code arI_a arI_a_n arK_a arK_a_n la_code la_code_n)) (hS : va_S A s.heap H locs) (hl : lv_has ls 7 [(0, .ref h_la), (1, .ref h_arI_a), (2, .ref h_arK_a)]) : W p l e rm_X4_value s m args below meth c H locs 0 0 (MQ below (Q_X4_value D cs ad h_arI_a h_arK_a h_la h_la_code arI_a arI_a_n arK_a_n la_code la_code_n A R) args s 0 0 A) (F0 m 0 ls []) := by
  obtain ⟨hx, hb, hr, hml, hown, ht, hlocks⟩ := id C0
  refine lv_iconst (v := (0 : Int32)) hx hb dX4_value_0 (by decide) ?_
  refine lv_istore_n (lv' := [(3, .int (0 : Int32)), (0, .ref h_la), (1, .ref h_arI_a), (2, .ref h_arK_a)]) hx hb dX4_value_1 rfl hl (by decide) rfl (fun ls hl => ?_)
  refine lv_iconst (v := (0 : Int32)) hx hb dX4_value_2 (by decide) ?_
  refine lv_istore (lv' := [(4, .int (0 : Int32)), (3, .int (0 : Int32)), (0, .ref h_la), (1, .ref h_arI_a), (2, .ref h_arK_a)]) hx hb dX4_value_3 hl (by decide) rfl (fun ls hl => ?_)
  exact ih5 (0 : Int32) (0 : Int32) arK_a h H locs ls hP hD hS (lv_sub hl [2, 3, 4, 1, 0] rfl)
theorem LG_X4_value {p : Program} {l : Launch} {e : Env} {s : State} {m : MethodId} {args : Array Value} {below : List Frame} {meth : Method} {c : Code} {A : Nat → Prop} {D : va_G} {cs : Nat → ClassId} {ad : Nat → Nat} {h_arI_a : Nat} {h_arK_a : Nat} {h_la : Nat} {h_la_code : Nat} {arI_a : Nat → Int32} {arI_a_n : Nat} {arK_a_n : Nat} {la_code : Nat → Int32} {la_code_n : Nat} {R : Int32 × (Nat → Int32)} (C0 : zC p s m args meth c cX4_value 7 (some .int) RX4 zW) (hK : va_K D classes (zT cs) s) (hA : ∀ q : Nat, s.heap.size ≤ q → A q) : ∀ n : Nat, (∀ (x3 : Int32) (x4 : Int32) (arK_a : Nat → Int32) (h : (G_X4_value   arI_a arI_a_n arK_a_n la_code la_code_n n) x3 x4 arK_a = some R) (H : Heap) (locs : List Loc) (ls : Array Slot) (hP : va_P D classes (wl_X4_value ad cs h_arI_a h_arK_a h_la h_la_code arI_a arI_a_n arK_a arK_a_n la_code la_code_n) H) (hD : va_D A (wl_X4_value ad cs h_arI_a h_arK_a h_la h_la_code arI_a arI_a_n arK_a arK_a_n la_code la_code_n)) (hS : va_S A s.heap H locs) (hl : lv_has ls 7 [(0, .ref h_la), (1, .ref h_arI_a), (2, .ref h_arK_a), (3, .int x3), (4, .int x4)]), W p l e rm_X4_value s m args below meth c H locs 0 0 (MQ below (Q_X4_value D cs ad h_arI_a h_arK_a h_la h_la_code arI_a arI_a_n arK_a_n la_code la_code_n A R) args s 0 0 A) (F0 m 5 ls [])) := by
  intro n
  induction n with
  | zero =>
    refine ?_ <;> (intros; rename_i h _ _ _ _ _ _ _; cases h)
  | succ n ih =>
    exact L_X4_value_5 C0 hK hA  ih
set_option maxHeartbeats 4000000 in
set_option maxRecDepth 100000 in
theorem c_X4_value (l : Launch) (D : va_G) (cs : Nat → ClassId) (ad : Nat → Nat) (h_arI_a : Nat) (h_arK_a : Nat) (h_la : Nat) (h_la_code : Nat) (sz : Nat) (n : Nat)  (arI_a : Nat → Int32) (arI_a_n : Nat) (arK_a : Nat → Int32) (arK_a_n : Nat) (la_code : Nat → Int32) (la_code_n : Nat) (R : Int32 × (Nat → Int32)) (h : f_X4_value   n  arI_a arI_a_n arK_a arK_a_n la_code la_code_n = some R) : Met l yX4_value (z_X4_value) rm_X4_value (va_Pc [.ref h_la, .ref h_arI_a, .ref h_arK_a] (zPre D cs (wl_X4_value ad cs h_arI_a h_arK_a h_la h_la_code arI_a arI_a_n arK_a arK_a_n la_code la_code_n) sz)) (Q_X4_value D cs ad h_arI_a h_arK_a h_la h_la_code arI_a arI_a_n arK_a_n la_code la_code_n (va_A (wl_X4_value ad cs h_arI_a h_arK_a h_la h_la_code arI_a arI_a_n arK_a arK_a_n la_code la_code_n) sz) R) 0 0 (va_A (wl_X4_value ad cs h_arI_a h_arK_a h_la h_la_code arI_a arI_a_n arK_a arK_a_n la_code la_code_n) sz) := by
  refine Met.ofW (cc := cX4_value) (maxL := 7) (ret := (some .int)) (by decide) rfl ?_
  intro p e s m args below meth c s₁ B hml hv
  obtain ⟨rfl, hsz, hP, hK, hD0⟩ := hv
  subst hsz
  have hD := hD0.self (sz := s.heap.size)
  have C0 : zC p s m _ meth c cX4_value 7 (some .int) RX4 zW := ⟨B.exec, B.bytes, B.returns, hml, findClass_of_methodNamed B.named, fun w hw => atoms_spec (ws := z_X4_value) B.pre w (List.mem_cons_of_mem _ hw), B.notSynchronized⟩
  have hA : ∀ q : Nat, s.heap.size ≤ q → va_A (wl_X4_value ad cs h_arI_a h_arK_a h_la h_la_code arI_a arI_a_n arK_a arK_a_n la_code la_code_n) s.heap.size q := fun q h => Or.inr h
  have hl := lv_entry ([.ref h_la, .ref h_arI_a, .ref h_arK_a]) (n := 7) (Nat.le_of_ble_eq_true rfl)
  rw [lg_entry_eq]
  generalize (lg_sl ([.ref h_la, .ref h_arI_a, .ref h_arK_a]) ++ List.replicate (7 - (lg_sl ([.ref h_la, .ref h_arI_a, .ref h_arK_a])).length) Slot.unset).toArray = ls at hl ⊢
  exact L_X4_value_0 C0 hK hA  ((LG_X4_value C0 hK hA  n))  arK_a h s.heap [] ls hP hD va_S.rf hl
theorem kw_201 : Cond.fieldLink RX3 40 "AlreadyJudged$Inquiry" "day" "I" ∈ zW := zwI (i := 201) (by decide +kernel) (by decide +kernel)
theorem kw_202 : Cond.fieldLink RX3 44 "AlreadyJudged$Inquiry" "land" "I" ∈ zW := zwI (i := 202) (by decide +kernel) (by decide +kernel)
theorem kw_204 : Cond.fieldLink RX3 47 "AlreadyJudged$Inquiry" "shoeLeftOut" "I" ∈ zW := zwI (i := 204) (by decide +kernel) (by decide +kernel)
theorem kw_807 : Cond.methodLink RX3 50 yJ7_fill_d0a16 ∈ zW := zwI (i := 807) (by decide +kernel) (by decide +kernel)
theorem dX3_turnTo_0 : decode cX3_turnTo 0 = .ok (.aload_n 0, 1) := by decide +kernel
theorem dX3_turnTo_1 : decode cX3_turnTo 1 = .ok (.iload_n 1, 1) := by decide +kernel
theorem dX3_turnTo_2 : decode cX3_turnTo 2 = .ok (.putfield 40, 3) := by decide +kernel
theorem dX3_turnTo_5 : decode cX3_turnTo 5 = .ok (.aload_n 0, 1) := by decide +kernel
theorem dX3_turnTo_6 : decode cX3_turnTo 6 = .ok (.iload_n 2, 1) := by decide +kernel
theorem dX3_turnTo_7 : decode cX3_turnTo 7 = .ok (.putfield 44, 3) := by decide +kernel
theorem dX3_turnTo_10 : decode cX3_turnTo 10 = .ok (.aload_n 0, 1) := by decide +kernel
theorem dX3_turnTo_11 : decode cX3_turnTo 11 = .ok (.iconst (-1), 1) := by decide +kernel
theorem dX3_turnTo_12 : decode cX3_turnTo 12 = .ok (.putfield 47, 3) := by decide +kernel
theorem dX3_turnTo_15 : decode cX3_turnTo 15 = .ok (.aload_n 0, 1) := by decide +kernel
theorem dX3_turnTo_16 : decode cX3_turnTo 16 = .ok (.getfield 20, 3) := by decide +kernel
theorem dX3_turnTo_19 : decode cX3_turnTo 19 = .ok (.lconst 0, 1) := by decide +kernel
theorem dX3_turnTo_20 : decode cX3_turnTo 20 = .ok (.invokestatic 50, 3) := by decide +kernel
theorem dX3_turnTo_23 : decode cX3_turnTo 23 = .ok (.aload_n 0, 1) := by decide +kernel
theorem dX3_turnTo_24 : decode cX3_turnTo 24 = .ok (.getfield 24, 3) := by decide +kernel
theorem dX3_turnTo_27 : decode cX3_turnTo 27 = .ok (.lconst 0, 1) := by decide +kernel
theorem dX3_turnTo_28 : decode cX3_turnTo 28 = .ok (.invokestatic 50, 3) := by decide +kernel
theorem dX3_turnTo_31 : decode cX3_turnTo 31 = .ok (.return_, 1) := by decide +kernel
abbrev z_X3_turnTo : List Cond := .code yX3_turnTo cX3_turnTo 3 none :: zW
abbrev wl_X3_turnTo (ad : Nat → Nat) (cs : Nat → ClassId)  (inq_day : Int32) (inq_land : Int32) (inq_shoeLeftOut : Int32) (inq_judgedShoes : Nat → Int64) (inq_bindingShoes : Nat → Int64) : va_W := [((ad 15), .inr (3, [.ref (ad 4), .ref (ad 16), .ref (ad 17), .ref (ad 18), .ref (ad 19), .ref (ad 20), .ref (ad 21), .ref (ad 22), .int inq_day, .int inq_land, .int inq_shoeLeftOut])), ((ad 18), .inl (cs 1, 7, .inr (.inl inq_judgedShoes))), ((ad 19), .inl (cs 1, 7, .inr (.inl inq_bindingShoes)))]
def Q_X3_turnTo (D : va_G) (cs : Nat → ClassId) (ad : Nat → Nat)   (A : Nat → Prop) (R : Int32 × Int32 × Int32 × (Nat → Int64) × (Nat → Int64)) : Array Value → State → Outcome → State → Prop :=
  va_Qv (fun u : Int32 × Int32 × Int32 × (Nat → Int64) × (Nat → Int64) => u = R) (fun (u : Int32 × Int32 × Int32 × (Nat → Int64) × (Nat → Int64)) (t : State) => va_P D classes (wl_X3_turnTo ad cs u.1 u.2.1 u.2.2.1 u.2.2.2.1 u.2.2.2.2) t.heap ∧ va_D A (wl_X3_turnTo ad cs u.1 u.2.1 u.2.2.1 u.2.2.2.1 u.2.2.2.2)) A
abbrev rm_X3_turnTo : Room := { frames := 1, cells := 0, slots := 0, locals := 24 }
theorem g_X3_50 : GoodIn zW (va_wsS RX3 50 yJ7_fill_d0a16 z_J7_fill_d0a16) := zGS kw_807 kw_808 kw_92 kw_809
def B_X3_turnTo_0     (x1 : Int32) (x2 : Int32) (inq_day : Int32) (inq_land : Int32) (inq_shoeLeftOut : Int32) (inq_judgedShoes : Nat → Int64) (inq_bindingShoes : Nat → Int64) : Option (Int32 × Int32 × Int32 × (Nat → Int64) × (Nat → Int64)) :=
  (zk_b1 (f_J7_fill_d0a16 4000 (0 : Int64) inq_judgedShoes 7) (fun u_1 => (zk_b1 (f_J7_fill_d0a16 4000 (0 : Int64) inq_bindingShoes 7) (fun u_3 => (some (x1, x2, (-1 : Int32), u_1, u_3))))))
def f_X3_turnTo   (x1 : Int32) (x2 : Int32) (inq_day : Int32) (inq_land : Int32) (inq_shoeLeftOut : Int32) (inq_judgedShoes : Nat → Int64) (inq_bindingShoes : Nat → Int64) : Option (Int32 × Int32 × Int32 × (Nat → Int64) × (Nat → Int64)) := B_X3_turnTo_0    x1 x2 inq_day inq_land inq_shoeLeftOut inq_judgedShoes inq_bindingShoes
set_option maxHeartbeats 4000000 in
set_option maxRecDepth 100000 in
theorem L_X3_turnTo_0 {p : Program} {l : Launch} {e : Env} {s : State} {m : MethodId} {args : Array Value} {below : List Frame} {meth : Method} {c : Code} {A : Nat → Prop} {D : va_G} {cs : Nat → ClassId} {ad : Nat → Nat} {R : Int32 × Int32 × Int32 × (Nat → Int64) × (Nat → Int64)} (C0 : zC p s m args meth c cX3_turnTo 3 none RX3 zW) (hK : va_K D classes (zT cs) s) (hA : ∀ q : Nat, s.heap.size ≤ q → A q) (x1 : Int32) (x2 : Int32) (inq_day : Int32) (inq_land : Int32) (inq_shoeLeftOut : Int32) (inq_judgedShoes : Nat → Int64) (inq_bindingShoes : Nat → Int64) (h : B_X3_turnTo_0 x1 x2 inq_day inq_land inq_shoeLeftOut inq_judgedShoes inq_bindingShoes = some R) (H : Heap) (locs : List Loc) (ls : Array Slot) (hP : va_P D classes (wl_X3_turnTo ad cs inq_day inq_land inq_shoeLeftOut inq_judgedShoes inq_bindingShoes) H) (hD : va_D A (wl_X3_turnTo ad cs inq_day inq_land inq_shoeLeftOut inq_judgedShoes inq_bindingShoes)) (hS : va_S A s.heap H locs) (hl : lv_has ls 3 [(0, .ref (ad 15)), (1, .int x1), (2, .int x2)]) : W p l e rm_X3_turnTo s m args below meth c H locs 0 0 (MQ below (Q_X3_turnTo D cs ad  A R) args s 0 0 A) (F0 m 0 ls []) := by
  obtain ⟨hx, hb, hr, hml, hown, ht, hlocks⟩ := id C0
  refine lv_aload_n hx hb dX3_turnTo_0 rfl (lv_at hl 0 rfl) ?_
  refine lv_iload_n hx hb dX3_turnTo_1 rfl (lv_at hl 1 rfl) ?_
  refine va_put (D := D) (ci := 3) (v := .int x1) (ty := .int) (C := RX3) (T := TX3) (N := 11) hx hb ht iX3 tyX3 tyX3_ok nmX3 hown hK hP hD hS 0 rfl rfl 8 (by decide) (ht _ kw_201) (fun _ h9 => h9) rfl (by decide +kernel) rfl rfl (Nat.le_of_ble_eq_true rfl) dX3_turnTo_2 (fun H locs hP hD hS => ?_)
  have hP : va_P D classes (wl_X3_turnTo ad cs x1 inq_land inq_shoeLeftOut inq_judgedShoes inq_bindingShoes) H := hP
  have hD : va_D A (wl_X3_turnTo ad cs x1 inq_land inq_shoeLeftOut inq_judgedShoes inq_bindingShoes) := hD
  refine lv_aload_n hx hb dX3_turnTo_5 rfl (lv_at hl 0 rfl) ?_
  refine lv_iload_n hx hb dX3_turnTo_6 rfl (lv_at hl 2 rfl) ?_
  refine va_put (D := D) (ci := 3) (v := .int x2) (ty := .int) (C := RX3) (T := TX3) (N := 11) hx hb ht iX3 tyX3 tyX3_ok nmX3 hown hK hP hD hS 0 rfl rfl 9 (by decide) (ht _ kw_202) (fun _ h9 => h9) rfl (by decide +kernel) rfl rfl (Nat.le_of_ble_eq_true rfl) dX3_turnTo_7 (fun H locs hP hD hS => ?_)
  have hP : va_P D classes (wl_X3_turnTo ad cs x1 x2 inq_shoeLeftOut inq_judgedShoes inq_bindingShoes) H := hP
  have hD : va_D A (wl_X3_turnTo ad cs x1 x2 inq_shoeLeftOut inq_judgedShoes inq_bindingShoes) := hD
  refine lv_aload_n hx hb dX3_turnTo_10 rfl (lv_at hl 0 rfl) ?_
  refine lv_iconst (v := (-1 : Int32)) hx hb dX3_turnTo_11 (by decide) ?_
  refine va_put (D := D) (ci := 3) (v := .int (-1 : Int32)) (ty := .int) (C := RX3) (T := TX3) (N := 11) hx hb ht iX3 tyX3 tyX3_ok nmX3 hown hK hP hD hS 0 rfl rfl 10 (by decide) (ht _ kw_204) (fun _ h9 => h9) rfl (by decide +kernel) rfl rfl (Nat.le_of_ble_eq_true rfl) dX3_turnTo_12 (fun H locs hP hD hS => ?_)
  have hP : va_P D classes (wl_X3_turnTo ad cs x1 x2 (-1 : Int32) inq_judgedShoes inq_bindingShoes) H := hP
  have hD : va_D A (wl_X3_turnTo ad cs x1 x2 (-1 : Int32) inq_judgedShoes inq_bindingShoes) := hD
  refine lv_aload_n hx hb dX3_turnTo_15 rfl (lv_at hl 0 rfl) ?_
  refine va_get (D := D) (ci := 3) (v := .ref (ad 18)) (C := RX3) (T := TX3) (N := 11) hx hb ht iX3 hown hK hP 0 rfl rfl 3 (by decide) (ht _ kw_195) (fun _ h9 => h9) rfl dX3_turnTo_16 ?_
  refine lv_lconst (v := (0 : Int64)) hx hb dX3_turnTo_19 (by decide) ?_
  obtain ⟨u_1, hc_2, h⟩ := zk_o1 h
  refine zk_sv (post := (fun u => u = u_1)) (w1 := fun u => (wl_J7_fill_d0a16 ad cs (ad 18) u 7)) (As := [.ref (ad 18), .long (0 : Int64)]) (rest := []) (c_J7_fill_d0a16 l D cs ad (ad 18) H.size 4000 (0 : Int64) inq_judgedShoes 7 _ hc_2) ⟨hx, hb, hml, hown, ht⟩ (va_cwS 2 ht g_X3_50 rfl rfl rfl (by decide +kernel) ⟨Nat.le_of_ble_eq_true rfl, Nat.le_of_ble_eq_true rfl⟩) hP hD hS hK hA [1] [0, 2] rfl rfl rfl rfl (by decide) rfl hl.1 (Nat.le_of_ble_eq_true rfl) dX3_turnTo_20 ⟨Nat.zero_le _, Nat.zero_le _⟩ (fun u H locs hq hP hD hS => ?_)
  cases hq
  have hP : va_P D classes (wl_X3_turnTo ad cs x1 x2 (-1 : Int32) u_1 inq_bindingShoes) H := hP.sub [0, 2, 1] rfl
  have hD : va_D A (wl_X3_turnTo ad cs x1 x2 (-1 : Int32) u_1 inq_bindingShoes) := hD.sub [0, 2, 1] rfl rfl
  refine lv_aload_n hx hb dX3_turnTo_23 rfl (lv_at hl 0 rfl) ?_
  refine va_get (D := D) (ci := 3) (v := .ref (ad 19)) (C := RX3) (T := TX3) (N := 11) hx hb ht iX3 hown hK hP 0 rfl rfl 4 (by decide) (ht _ kw_196) (fun _ h9 => h9) rfl dX3_turnTo_24 ?_
  refine lv_lconst (v := (0 : Int64)) hx hb dX3_turnTo_27 (by decide) ?_
  obtain ⟨u_3, hc_4, h⟩ := zk_o1 h
  refine zk_sv (post := (fun u => u = u_3)) (w1 := fun u => (wl_J7_fill_d0a16 ad cs (ad 19) u 7)) (As := [.ref (ad 19), .long (0 : Int64)]) (rest := []) (c_J7_fill_d0a16 l D cs ad (ad 19) H.size 4000 (0 : Int64) inq_bindingShoes 7 _ hc_4) ⟨hx, hb, hml, hown, ht⟩ (va_cwS 2 ht g_X3_50 rfl rfl rfl (by decide +kernel) ⟨Nat.le_of_ble_eq_true rfl, Nat.le_of_ble_eq_true rfl⟩) hP hD hS hK hA [2] [0, 1] rfl rfl rfl rfl (by decide) rfl hl.1 (Nat.le_of_ble_eq_true rfl) dX3_turnTo_28 ⟨Nat.zero_le _, Nat.zero_le _⟩ (fun u H locs hq hP hD hS => ?_)
  cases hq
  have hP : va_P D classes (wl_X3_turnTo ad cs x1 x2 (-1 : Int32) u_1 u_3) H := hP.sub [0, 1, 2] rfl
  have hD : va_D A (wl_X3_turnTo ad cs x1 x2 (-1 : Int32) u_1 u_3) := hD.sub [0, 1, 2] rfl rfl
  exact W.vret hx hb hr (fun t ht2 hW => ⟨⟨(x1, x2, (-1 : Int32), u_1, u_3), rfl, Option.some.inj h, by rw [ht2]; exact hP, hD⟩, hS.F ht2⟩) hS.2.2 dX3_turnTo_31 hlocks
set_option maxHeartbeats 4000000 in
set_option maxRecDepth 100000 in
theorem c_X3_turnTo (l : Launch) (D : va_G) (cs : Nat → ClassId) (ad : Nat → Nat) (sz : Nat) (x1 : Int32) (x2 : Int32) (inq_day : Int32) (inq_land : Int32) (inq_shoeLeftOut : Int32) (inq_judgedShoes : Nat → Int64) (inq_bindingShoes : Nat → Int64) (R : Int32 × Int32 × Int32 × (Nat → Int64) × (Nat → Int64)) (h : f_X3_turnTo   x1 x2 inq_day inq_land inq_shoeLeftOut inq_judgedShoes inq_bindingShoes = some R) : Met l yX3_turnTo (z_X3_turnTo) rm_X3_turnTo (va_Pc [.ref (ad 15), .int x1, .int x2] (zPre D cs (wl_X3_turnTo ad cs inq_day inq_land inq_shoeLeftOut inq_judgedShoes inq_bindingShoes) sz)) (Q_X3_turnTo D cs ad  (va_A (wl_X3_turnTo ad cs inq_day inq_land inq_shoeLeftOut inq_judgedShoes inq_bindingShoes) sz) R) 0 0 (va_A (wl_X3_turnTo ad cs inq_day inq_land inq_shoeLeftOut inq_judgedShoes inq_bindingShoes) sz) := by
  refine Met.ofW (cc := cX3_turnTo) (maxL := 3) (ret := none) (by decide) rfl ?_
  intro p e s m args below meth c s₁ B hml hv
  obtain ⟨rfl, hsz, hP, hK, hD0⟩ := hv
  subst hsz
  have hD := hD0.self (sz := s.heap.size)
  have C0 : zC p s m _ meth c cX3_turnTo 3 none RX3 zW := ⟨B.exec, B.bytes, B.returns, hml, findClass_of_methodNamed B.named, fun w hw => atoms_spec (ws := z_X3_turnTo) B.pre w (List.mem_cons_of_mem _ hw), B.notSynchronized⟩
  have hA : ∀ q : Nat, s.heap.size ≤ q → va_A (wl_X3_turnTo ad cs inq_day inq_land inq_shoeLeftOut inq_judgedShoes inq_bindingShoes) s.heap.size q := fun q h => Or.inr h
  have hl := lv_entry ([.ref (ad 15), .int x1, .int x2]) (n := 3) (Nat.le_of_ble_eq_true rfl)
  rw [lg_entry_eq]
  generalize (lg_sl ([.ref (ad 15), .int x1, .int x2]) ++ List.replicate (3 - (lg_sl ([.ref (ad 15), .int x1, .int x2])).length) Slot.unset).toArray = ls at hl ⊢
  exact L_X3_turnTo_0 C0 hK hA   x1 x2 inq_day inq_land inq_shoeLeftOut inq_judgedShoes inq_bindingShoes h s.heap [] ls hP hD va_S.rf hl
