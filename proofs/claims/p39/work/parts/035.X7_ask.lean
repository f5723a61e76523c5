theorem kw_333 : Cond.fieldLink RX7 15 "AlreadyJudged$Suit" "asked" "[I" ∈ zW := zwC (i := 19) zc_2 rfl rfl
theorem zh_cX7_ask_0 : zck [42, 180, 0, 19, 16, 32, 162, 0, 35, 42, 180, 0, 15, 42, 180, 0, 19, 27, 79, 42, 89, 180] (zdu 0 cX7_ask.data.toList) = true := by decide +kernel
theorem dX7_ask_0 : decode cX7_ask 0 = .ok (.aload_n 0, 1) := zo_42 zh_cX7_ask_0 0 rfl
theorem dX7_ask_1 : decode cX7_ask 1 = .ok (.getfield 19, 3) := zo_180 zh_cX7_ask_0 1 rfl
theorem dX7_ask_4 : decode cX7_ask 4 = .ok (.bipush 32, 2) := zo_p16 zh_cX7_ask_0 4 32 rfl rfl
theorem dX7_ask_6 : decode cX7_ask 6 = .ok (.if_icmp .ge 35, 3) := zo_p162 zh_cX7_ask_0 6 35 rfl rfl
theorem dX7_ask_9 : decode cX7_ask 9 = .ok (.aload_n 0, 1) := zo_42 zh_cX7_ask_0 9 rfl
theorem dX7_ask_10 : decode cX7_ask 10 = .ok (.getfield 15, 3) := zo_180 zh_cX7_ask_0 10 rfl
theorem dX7_ask_13 : decode cX7_ask 13 = .ok (.aload_n 0, 1) := zo_42 zh_cX7_ask_0 13 rfl
theorem dX7_ask_14 : decode cX7_ask 14 = .ok (.getfield 19, 3) := zo_180 zh_cX7_ask_0 14 rfl
theorem dX7_ask_17 : decode cX7_ask 17 = .ok (.iload_n 1, 1) := zo_27 zh_cX7_ask_0 17 rfl
theorem dX7_ask_18 : decode cX7_ask 18 = .ok (.iastore, 1) := zo_79 zh_cX7_ask_0 18 rfl
theorem dX7_ask_19 : decode cX7_ask 19 = .ok (.aload_n 0, 1) := zo_42 zh_cX7_ask_0 19 rfl
theorem zh_cX7_ask_1 : zck [89, 180, 0, 19, 4, 96, 181, 0, 19, 42, 89, 180, 0, 22, 4, 27, 120, 128, 181, 0, 22, 177] (zdu 20 cX7_ask.data.toList) = true := by decide +kernel
theorem dX7_ask_20 : decode cX7_ask 20 = .ok (.dup, 1) := zo_89 zh_cX7_ask_1 0 rfl
theorem dX7_ask_21 : decode cX7_ask 21 = .ok (.getfield 19, 3) := zo_180 zh_cX7_ask_1 1 rfl
theorem dX7_ask_24 : decode cX7_ask 24 = .ok (.iconst 1, 1) := zo_4 zh_cX7_ask_1 4 rfl
theorem dX7_ask_25 : decode cX7_ask 25 = .ok (.iadd, 1) := zo_96 zh_cX7_ask_1 5 rfl
theorem dX7_ask_26 : decode cX7_ask 26 = .ok (.putfield 19, 3) := zo_181 zh_cX7_ask_1 6 rfl
theorem dX7_ask_29 : decode cX7_ask 29 = .ok (.aload_n 0, 1) := zo_42 zh_cX7_ask_1 9 rfl
theorem dX7_ask_30 : decode cX7_ask 30 = .ok (.dup, 1) := zo_89 zh_cX7_ask_1 10 rfl
theorem dX7_ask_31 : decode cX7_ask 31 = .ok (.getfield 22, 3) := zo_180 zh_cX7_ask_1 11 rfl
theorem dX7_ask_34 : decode cX7_ask 34 = .ok (.iconst 1, 1) := zo_4 zh_cX7_ask_1 14 rfl
theorem dX7_ask_35 : decode cX7_ask 35 = .ok (.iload_n 1, 1) := zo_27 zh_cX7_ask_1 15 rfl
theorem dX7_ask_36 : decode cX7_ask 36 = .ok (.ishl, 1) := zo_120 zh_cX7_ask_1 16 rfl
theorem dX7_ask_37 : decode cX7_ask 37 = .ok (.ior, 1) := zo_128 zh_cX7_ask_1 17 rfl
theorem dX7_ask_38 : decode cX7_ask 38 = .ok (.putfield 22, 3) := zo_181 zh_cX7_ask_1 18 rfl
theorem zh_cX7_ask_2 : zck [22, 177] (zdu 40 cX7_ask.data.toList) = true := by decide +kernel
theorem dX7_ask_41 : decode cX7_ask 41 = .ok (.return_, 1) := zo_177 zh_cX7_ask_2 1 rfl
abbrev z_X7_ask : List Cond := .code yX7_ask cX7_ask 2 none :: zW
abbrev wl_X7_ask (ad : Nat → Nat) (cs : Nat → ClassId) (h_su : Nat) (h_su_asked : Nat) (su_who : Int32) (su_against : Int32) (su_kind : Int32) (su_won : Int32) (su_day : Int32) (su_land : Int32) (su_undoneFrom : Int32) (su_askedCount : Int32) (su_askedBits : Int32) (su_first : Int32) (su_foundSo : Int32) (su_foundNot : Int32) (su_fought : Int32) (su_needed : Int32) (su_asked : Nat → Int32) : va_W := [(h_su, .inr (7, [.int su_who, .int su_against, .int su_kind, .int su_won, .int su_day, .int su_land, .int su_undoneFrom, .ref h_su_asked, .int su_askedCount, .int su_askedBits, .int su_first, .int su_foundSo, .int su_foundNot, .int su_fought, .int su_needed])), (h_su_asked, .inl (cs 0, 32, .inl su_asked))]
def Q_X7_ask (D : va_G) (cs : Nat → ClassId) (ad : Nat → Nat) (h_su : Nat) (h_su_asked : Nat) (su_who : Int32) (su_against : Int32) (su_kind : Int32) (su_won : Int32) (su_day : Int32) (su_land : Int32) (su_undoneFrom : Int32) (su_first : Int32) (su_foundSo : Int32) (su_foundNot : Int32) (su_fought : Int32) (su_needed : Int32) (A : Nat → Prop) (R : Int32 × Int32 × (Nat → Int32)) : Array Value → State → Outcome → State → Prop :=
  va_Qv (fun u : Int32 × Int32 × (Nat → Int32) => u = R) (fun (u : Int32 × Int32 × (Nat → Int32)) (t : State) => va_P D classes (wl_X7_ask ad cs h_su h_su_asked su_who su_against su_kind su_won su_day su_land su_undoneFrom u.1 u.2.1 su_first su_foundSo su_foundNot su_fought su_needed u.2.2) t.heap ∧ va_D A (wl_X7_ask ad cs h_su h_su_asked su_who su_against su_kind su_won su_day su_land su_undoneFrom u.1 u.2.1 su_first su_foundSo su_foundNot su_fought su_needed u.2.2)) A
abbrev rm_X7_ask : Room := { frames := 0, cells := 0, slots := 0, locals := 0 }
def B_X7_ask_0    (su_who : Int32) (su_against : Int32) (su_kind : Int32) (su_won : Int32) (su_day : Int32) (su_land : Int32) (su_undoneFrom : Int32) (su_first : Int32) (su_foundSo : Int32) (su_foundNot : Int32) (su_fought : Int32) (su_needed : Int32) (x1 : Int32) (su_askedCount : Int32) (su_askedBits : Int32) (su_asked : Nat → Int32) : Option (Int32 × Int32 × (Nat → Int32)) :=
  (if (32 : Int32) ≤ su_askedCount then (some (su_askedCount, su_askedBits, su_asked)) else (if (su_askedCount < 0 ∨ 32 ≤ su_askedCount.toNatClampNeg) then none else (zk_let (upd su_asked su_askedCount.toNatClampNeg x1) (fun f_3 => (zk_let (su_askedCount + (1 : Int32)) (fun v_4 => (zk_let (su_askedBits ||| ((1 : Int32) <<< (x1 &&& 31))) (fun v_5 => (some (v_4, v_5, f_3))))))))))
def f_X7_ask   (x1 : Int32) (su_who : Int32) (su_against : Int32) (su_kind : Int32) (su_won : Int32) (su_day : Int32) (su_land : Int32) (su_undoneFrom : Int32) (su_askedCount : Int32) (su_askedBits : Int32) (su_first : Int32) (su_foundSo : Int32) (su_foundNot : Int32) (su_fought : Int32) (su_needed : Int32) (su_asked : Nat → Int32) : Option (Int32 × Int32 × (Nat → Int32)) := B_X7_ask_0   su_who su_against su_kind su_won su_day su_land su_undoneFrom su_first su_foundSo su_foundNot su_fought su_needed x1 su_askedCount su_askedBits su_asked
set_option maxHeartbeats 4000000 in
set_option maxRecDepth 100000 in
theorem L_X7_ask_0 {p : Program} {l : Launch} {e : Env} {s : State} {m : MethodId} {args : Array Value} {below : List Frame} {meth : Method} {c : Code} {A : Nat → Prop} {D : va_G} {cs : Nat → ClassId} {ad : Nat → Nat} {h_su : Nat} {h_su_asked : Nat} {su_who : Int32} {su_against : Int32} {su_kind : Int32} {su_won : Int32} {su_day : Int32} {su_land : Int32} {su_undoneFrom : Int32} {su_first : Int32} {su_foundSo : Int32} {su_foundNot : Int32} {su_fought : Int32} {su_needed : Int32} {R : Int32 × Int32 × (Nat → Int32)} (C0 : zC p s m args meth c cX7_ask 2 none RX7 zW) (hK : va_K D classes (zT cs) s) (hA : ∀ q : Nat, s.heap.size ≤ q → A q) (x1 : Int32) (su_askedCount : Int32) (su_askedBits : Int32) (su_asked : Nat → Int32) (h : B_X7_ask_0 su_who su_against su_kind su_won su_day su_land su_undoneFrom su_first su_foundSo su_foundNot su_fought su_needed x1 su_askedCount su_askedBits su_asked = some R) (H : Heap) (locs : List Loc) (ls : Array Slot) (hP : va_P D classes (wl_X7_ask ad cs h_su h_su_asked su_who su_against su_kind su_won su_day su_land su_undoneFrom su_askedCount su_askedBits su_first su_foundSo su_foundNot su_fought su_needed su_asked) H) (hD : va_D A (wl_X7_ask ad cs h_su h_su_asked su_who su_against su_kind su_won su_day su_land su_undoneFrom su_askedCount su_askedBits su_first su_foundSo su_foundNot su_fought su_needed su_asked)) (hS : va_S A s.heap H locs) (hl : lv_has ls 2 [(0, .ref h_su), (1, .int x1)]) : W p l e rm_X7_ask s m args below meth c H locs 0 0 (MQ below (Q_X7_ask D cs ad h_su h_su_asked su_who su_against su_kind su_won su_day su_land su_undoneFrom su_first su_foundSo su_foundNot su_fought su_needed A R) args s 0 0 A) (F0 m 0 ls []) := by
  obtain ⟨hx, hb, hr, hml, hown, ht, hlocks⟩ := id C0
  refine lv_aload_n hx hb dX7_ask_0 rfl (lv_at hl 0 rfl) ?_
  refine va_get (D := D) (ci := 7) (v := .int su_askedCount) (C := RX7) (T := TX7) (N := 15) hx hb ht iX7 hown hK hP 0 rfl rfl 8 (by decide) (ht _ kw_337) (fun _ h9 => h9) rfl dX7_ask_1 ?_
  refine lv_bipush (v := (32 : Int32)) hx hb dX7_ask_4 (by decide) ?_
  refine lv_icmp_ge (tgt := 41) hx hb dX7_ask_6 (by decide) (fun c_1 => ?_) (fun c_1 => ?_)
  · have h := zk_t c_1 h
    exact W.vret hx hb hr (fun t ht2 hW => ⟨⟨(su_askedCount, su_askedBits, su_asked), rfl, Option.some.inj h, by rw [ht2]; exact hP, hD⟩, hS.F ht2⟩) hS.2.2 dX7_ask_41 hlocks
  · have h := zk_f c_1 h
    refine lv_aload_n hx hb dX7_ask_9 rfl (lv_at hl 0 rfl) ?_
    refine va_get (D := D) (ci := 7) (v := .ref h_su_asked) (C := RX7) (T := TX7) (N := 15) hx hb ht iX7 hown hK hP 0 rfl rfl 7 (by decide) (ht _ kw_333) (fun _ h9 => h9) rfl dX7_ask_10 ?_
    refine lv_aload_n hx hb dX7_ask_13 rfl (lv_at hl 0 rfl) ?_
    refine va_get (D := D) (ci := 7) (v := .int su_askedCount) (C := RX7) (T := TX7) (N := 15) hx hb ht iX7 hown hK hP 0 rfl rfl 8 (by decide) (ht _ kw_337) (fun _ h9 => h9) rfl dX7_ask_14 ?_
    refine lv_iload_n hx hb dX7_ask_17 rfl (lv_at hl 1 rfl) ?_
    obtain ⟨g_2, h⟩ := zk_gd h
    obtain ⟨f_3, ef_3, h⟩ := zk_lt h
    refine va_iast hx hb hK hP hD hS 1 0 rfl rfl g_2 dX7_ask_18 (fun H locs hP hD hS => ?_)
    have hP : va_P D classes (wl_X7_ask ad cs h_su h_su_asked su_who su_against su_kind su_won su_day su_land su_undoneFrom su_askedCount su_askedBits su_first su_foundSo su_foundNot su_fought su_needed f_3) H := by rw [ef_3]; exact hP
    have hD : va_D A (wl_X7_ask ad cs h_su h_su_asked su_who su_against su_kind su_won su_day su_land su_undoneFrom su_askedCount su_askedBits su_first su_foundSo su_foundNot su_fought su_needed f_3) := by rw [ef_3]; exact hD
    refine lv_aload_n hx hb dX7_ask_19 rfl (lv_at hl 0 rfl) ?_
    refine lv_dup hx hb dX7_ask_20 rfl ?_
    refine va_get (D := D) (ci := 7) (v := .int su_askedCount) (C := RX7) (T := TX7) (N := 15) hx hb ht iX7 hown hK hP 0 rfl rfl 8 (by decide) (ht _ kw_337) (fun _ h9 => h9) rfl dX7_ask_21 ?_
    refine lv_iconst (v := (1 : Int32)) hx hb dX7_ask_24 (by decide) ?_
    refine lv_iadd hx hb dX7_ask_25 ?_
    obtain ⟨v_4, ev_4, h⟩ := zk_lt h
    refine W.eq (g2 := F0 m 26 ls [.int v_4, .ref h_su]) (by rw [ev_4]) ?_
    refine va_put (D := D) (ci := 7) (v := .int v_4) (ty := .int) (C := RX7) (T := TX7) (N := 15) hx hb ht iX7 tyX7 tyX7_ok nmX7 hown hK hP hD hS 0 rfl rfl 8 (by decide) (ht _ kw_337) (fun _ h9 => h9) rfl (by decide +kernel) rfl rfl (Nat.le_of_ble_eq_true rfl) dX7_ask_26 (fun H locs hP hD hS => ?_)
    have hP : va_P D classes (wl_X7_ask ad cs h_su h_su_asked su_who su_against su_kind su_won su_day su_land su_undoneFrom v_4 su_askedBits su_first su_foundSo su_foundNot su_fought su_needed f_3) H := hP
    have hD : va_D A (wl_X7_ask ad cs h_su h_su_asked su_who su_against su_kind su_won su_day su_land su_undoneFrom v_4 su_askedBits su_first su_foundSo su_foundNot su_fought su_needed f_3) := hD
    refine lv_aload_n hx hb dX7_ask_29 rfl (lv_at hl 0 rfl) ?_
    refine lv_dup hx hb dX7_ask_30 rfl ?_
    refine va_get (D := D) (ci := 7) (v := .int su_askedBits) (C := RX7) (T := TX7) (N := 15) hx hb ht iX7 hown hK hP 0 rfl rfl 9 (by decide) (ht _ kw_342) (fun _ h9 => h9) rfl dX7_ask_31 ?_
    refine lv_iconst (v := (1 : Int32)) hx hb dX7_ask_34 (by decide) ?_
    refine lv_iload_n hx hb dX7_ask_35 rfl (lv_at hl 1 rfl) ?_
    refine lv_ishl hx hb dX7_ask_36 ?_
    refine lv_ior hx hb dX7_ask_37 ?_
    obtain ⟨v_5, ev_5, h⟩ := zk_lt h
    refine W.eq (g2 := F0 m 38 ls [.int v_5, .ref h_su]) (by rw [ev_5]) ?_
    refine va_put (D := D) (ci := 7) (v := .int v_5) (ty := .int) (C := RX7) (T := TX7) (N := 15) hx hb ht iX7 tyX7 tyX7_ok nmX7 hown hK hP hD hS 0 rfl rfl 9 (by decide) (ht _ kw_342) (fun _ h9 => h9) rfl (by decide +kernel) rfl rfl (Nat.le_of_ble_eq_true rfl) dX7_ask_38 (fun H locs hP hD hS => ?_)
    have hP : va_P D classes (wl_X7_ask ad cs h_su h_su_asked su_who su_against su_kind su_won su_day su_land su_undoneFrom v_4 v_5 su_first su_foundSo su_foundNot su_fought su_needed f_3) H := hP
    have hD : va_D A (wl_X7_ask ad cs h_su h_su_asked su_who su_against su_kind su_won su_day su_land su_undoneFrom v_4 v_5 su_first su_foundSo su_foundNot su_fought su_needed f_3) := hD
    exact W.vret hx hb hr (fun t ht2 hW => ⟨⟨(v_4, v_5, f_3), rfl, Option.some.inj h, by rw [ht2]; exact hP, hD⟩, hS.F ht2⟩) hS.2.2 dX7_ask_41 hlocks
set_option maxHeartbeats 4000000 in
set_option maxRecDepth 100000 in
theorem c_X7_ask (l : Launch) (D : va_G) (cs : Nat → ClassId) (ad : Nat → Nat) (h_su : Nat) (h_su_asked : Nat) (sz : Nat) (x1 : Int32) (su_who : Int32) (su_against : Int32) (su_kind : Int32) (su_won : Int32) (su_day : Int32) (su_land : Int32) (su_undoneFrom : Int32) (su_askedCount : Int32) (su_askedBits : Int32) (su_first : Int32) (su_foundSo : Int32) (su_foundNot : Int32) (su_fought : Int32) (su_needed : Int32) (su_asked : Nat → Int32) (R : Int32 × Int32 × (Nat → Int32)) (h : f_X7_ask   x1 su_who su_against su_kind su_won su_day su_land su_undoneFrom su_askedCount su_askedBits su_first su_foundSo su_foundNot su_fought su_needed su_asked = some R) : Met l yX7_ask (z_X7_ask) rm_X7_ask (va_Pc [.ref h_su, .int x1] (zPre D cs (wl_X7_ask ad cs h_su h_su_asked su_who su_against su_kind su_won su_day su_land su_undoneFrom su_askedCount su_askedBits su_first su_foundSo su_foundNot su_fought su_needed su_asked) sz)) (Q_X7_ask D cs ad h_su h_su_asked su_who su_against su_kind su_won su_day su_land su_undoneFrom su_first su_foundSo su_foundNot su_fought su_needed (va_A (wl_X7_ask ad cs h_su h_su_asked su_who su_against su_kind su_won su_day su_land su_undoneFrom su_askedCount su_askedBits su_first su_foundSo su_foundNot su_fought su_needed su_asked) sz) R) 0 0 (va_A (wl_X7_ask ad cs h_su h_su_asked su_who su_against su_kind su_won su_day su_land su_undoneFrom su_askedCount su_askedBits su_first su_foundSo su_foundNot su_fought su_needed su_asked) sz) := by
  refine Met.ofW (cc := cX7_ask) (maxL := 2) (ret := none) (by decide) rfl ?_
  intro p e s m args below meth c s₁ B hml hv
  obtain ⟨rfl, hsz, hP, hK, hD0⟩ := hv
  subst hsz
  have hD := hD0.self (sz := s.heap.size)
  have C0 : zC p s m _ meth c cX7_ask 2 none RX7 zW := ⟨B.exec, B.bytes, B.returns, hml, findClass_of_methodNamed B.named, fun w hw => atoms_spec (ws := z_X7_ask) B.pre w (List.mem_cons_of_mem _ hw), B.notSynchronized⟩
  have hA : ∀ q : Nat, s.heap.size ≤ q → va_A (wl_X7_ask ad cs h_su h_su_asked su_who su_against su_kind su_won su_day su_land su_undoneFrom su_askedCount su_askedBits su_first su_foundSo su_foundNot su_fought su_needed su_asked) s.heap.size q := fun q h => Or.inr h
  have hl := lv_entry ([.ref h_su, .int x1]) (n := 2) (Nat.le_of_ble_eq_true rfl)
  rw [lg_entry_eq]
  generalize (lg_sl ([.ref h_su, .int x1]) ++ List.replicate (2 - (lg_sl ([.ref h_su, .int x1])).length) Slot.unset).toArray = ls at hl ⊢
  exact L_X7_ask_0 C0 hK hA   x1 su_askedCount su_askedBits su_asked h s.heap [] ls hP hD va_S.rf hl
theorem zh_cX7_hasAsked_0 : zck [42, 180, 0, 22, 27, 122, 4, 126, 153, 0, 7, 4, 167, 0, 4, 3, 172] (zdu 0 cX7_hasAsked.data.toList) = true := by decide +kernel
theorem dX7_hasAsked_0 : decode cX7_hasAsked 0 = .ok (.aload_n 0, 1) := zo_42 zh_cX7_hasAsked_0 0 rfl
theorem dX7_hasAsked_1 : decode cX7_hasAsked 1 = .ok (.getfield 22, 3) := zo_180 zh_cX7_hasAsked_0 1 rfl
theorem dX7_hasAsked_4 : decode cX7_hasAsked 4 = .ok (.iload_n 1, 1) := zo_27 zh_cX7_hasAsked_0 4 rfl
theorem dX7_hasAsked_5 : decode cX7_hasAsked 5 = .ok (.ishr, 1) := zo_122 zh_cX7_hasAsked_0 5 rfl
theorem dX7_hasAsked_6 : decode cX7_hasAsked 6 = .ok (.iconst 1, 1) := zo_4 zh_cX7_hasAsked_0 6 rfl
theorem dX7_hasAsked_7 : decode cX7_hasAsked 7 = .ok (.iand, 1) := zo_126 zh_cX7_hasAsked_0 7 rfl
theorem dX7_hasAsked_8 : decode cX7_hasAsked 8 = .ok (.ifCond .eq 7, 3) := zo_p153 zh_cX7_hasAsked_0 8 7 rfl rfl
theorem dX7_hasAsked_11 : decode cX7_hasAsked 11 = .ok (.iconst 1, 1) := zo_4 zh_cX7_hasAsked_0 11 rfl
theorem dX7_hasAsked_12 : decode cX7_hasAsked 12 = .ok (.goto 4, 3) := zo_p167 zh_cX7_hasAsked_0 12 4 rfl rfl
theorem dX7_hasAsked_15 : decode cX7_hasAsked 15 = .ok (.iconst 0, 1) := zo_3 zh_cX7_hasAsked_0 15 rfl
theorem dX7_hasAsked_16 : decode cX7_hasAsked 16 = .ok (.ireturn, 1) := zo_172 zh_cX7_hasAsked_0 16 rfl
abbrev z_X7_hasAsked : List Cond := .code yX7_hasAsked cX7_hasAsked 2 (some .boolean) :: zW
abbrev wl_X7_hasAsked (ad : Nat → Nat) (cs : Nat → ClassId) (h_su : Nat) (h_su_asked : Nat) (su_who : Int32) (su_against : Int32) (su_kind : Int32) (su_won : Int32) (su_day : Int32) (su_land : Int32) (su_undoneFrom : Int32) (su_askedCount : Int32) (su_askedBits : Int32) (su_first : Int32) (su_foundSo : Int32) (su_foundNot : Int32) (su_fought : Int32) (su_needed : Int32) : va_W := [(h_su, .inr (7, [.int su_who, .int su_against, .int su_kind, .int su_won, .int su_day, .int su_land, .int su_undoneFrom, .ref h_su_asked, .int su_askedCount, .int su_askedBits, .int su_first, .int su_foundSo, .int su_foundNot, .int su_fought, .int su_needed]))]
def Q_X7_hasAsked (D : va_G) (cs : Nat → ClassId) (ad : Nat → Nat) (h_su : Nat) (h_su_asked : Nat) (su_who : Int32) (su_against : Int32) (su_kind : Int32) (su_won : Int32) (su_day : Int32) (su_land : Int32) (su_undoneFrom : Int32) (su_askedCount : Int32) (su_askedBits : Int32) (su_first : Int32) (su_foundSo : Int32) (su_foundNot : Int32) (su_fought : Int32) (su_needed : Int32) (A : Nat → Prop) (R : Int32 × Unit) : Array Value → State → Outcome → State → Prop :=
  va_Qi (fun (r : Int32) (u : Unit) => (r, u) = R) (fun (u : Unit) (t : State) => va_P D classes (wl_X7_hasAsked ad cs h_su h_su_asked su_who su_against su_kind su_won su_day su_land su_undoneFrom su_askedCount su_askedBits su_first su_foundSo su_foundNot su_fought su_needed) t.heap ∧ va_D A (wl_X7_hasAsked ad cs h_su h_su_asked su_who su_against su_kind su_won su_day su_land su_undoneFrom su_askedCount su_askedBits su_first su_foundSo su_foundNot su_fought su_needed)) A
abbrev rm_X7_hasAsked : Room := { frames := 0, cells := 0, slots := 0, locals := 0 }
def B_X7_hasAsked_0    (su_who : Int32) (su_against : Int32) (su_kind : Int32) (su_won : Int32) (su_day : Int32) (su_land : Int32) (su_undoneFrom : Int32) (su_askedCount : Int32) (su_askedBits : Int32) (su_first : Int32) (su_foundSo : Int32) (su_foundNot : Int32) (su_fought : Int32) (su_needed : Int32) (x1 : Int32) : Option (Int32 × Unit) :=
  (if ((su_askedBits >>> (x1 &&& 31)) &&& (1 : Int32)) = 0 then (some ((0 : Int32), ())) else (some ((1 : Int32), ())))
def f_X7_hasAsked   (x1 : Int32) (su_who : Int32) (su_against : Int32) (su_kind : Int32) (su_won : Int32) (su_day : Int32) (su_land : Int32) (su_undoneFrom : Int32) (su_askedCount : Int32) (su_askedBits : Int32) (su_first : Int32) (su_foundSo : Int32) (su_foundNot : Int32) (su_fought : Int32) (su_needed : Int32) : Option (Int32 × Unit) := B_X7_hasAsked_0   su_who su_against su_kind su_won su_day su_land su_undoneFrom su_askedCount su_askedBits su_first su_foundSo su_foundNot su_fought su_needed x1 
set_option maxHeartbeats 4000000 in
set_option maxRecDepth 100000 in
theorem L_X7_hasAsked_0 {p : Program} {l : Launch} {e : Env} {s : State} {m : MethodId} {args : Array Value} {below : List Frame} {meth : Method} {c : Code} {A : Nat → Prop} {D : va_G} {cs : Nat → ClassId} {ad : Nat → Nat} {h_su : Nat} {h_su_asked : Nat} {su_who : Int32} {su_against : Int32} {su_kind : Int32} {su_won : Int32} {su_day : Int32} {su_land : Int32} {su_undoneFrom : Int32} {su_askedCount : Int32} {su_askedBits : Int32} {su_first : Int32} {su_foundSo : Int32} {su_foundNot : Int32} {su_fought : Int32} {su_needed : Int32} {R : Int32 × Unit} (C0 : zC p s m args meth c cX7_hasAsked 2 (some .boolean) RX7 zW) (hK : va_K D classes (zT cs) s) (hA : ∀ q : Nat, s.heap.size ≤ q → A q) (x1 : Int32) (h : B_X7_hasAsked_0 su_who su_against su_kind su_won su_day su_land su_undoneFrom su_askedCount su_askedBits su_first su_foundSo su_foundNot su_fought su_needed x1 = some R) (H : Heap) (locs : List Loc) (ls : Array Slot) (hP : va_P D classes (wl_X7_hasAsked ad cs h_su h_su_asked su_who su_against su_kind su_won su_day su_land su_undoneFrom su_askedCount su_askedBits su_first su_foundSo su_foundNot su_fought su_needed) H) (hD : va_D A (wl_X7_hasAsked ad cs h_su h_su_asked su_who su_against su_kind su_won su_day su_land su_undoneFrom su_askedCount su_askedBits su_first su_foundSo su_foundNot su_fought su_needed)) (hS : va_S A s.heap H locs) (hl : lv_has ls 2 [(0, .ref h_su), (1, .int x1)]) : W p l e rm_X7_hasAsked s m args below meth c H locs 0 0 (MQ below (Q_X7_hasAsked D cs ad h_su h_su_asked su_who su_against su_kind su_won su_day su_land su_undoneFrom su_askedCount su_askedBits su_first su_foundSo su_foundNot su_fought su_needed A R) args s 0 0 A) (F0 m 0 ls []) := by
  obtain ⟨hx, hb, hr, hml, hown, ht, hlocks⟩ := id C0
  refine lv_aload_n hx hb dX7_hasAsked_0 rfl (lv_at hl 0 rfl) ?_
  refine va_get (D := D) (ci := 7) (v := .int su_askedBits) (C := RX7) (T := TX7) (N := 15) hx hb ht iX7 hown hK hP 0 rfl rfl 9 (by decide) (ht _ kw_342) (fun _ h9 => h9) rfl dX7_hasAsked_1 ?_
  refine lv_iload_n hx hb dX7_hasAsked_4 rfl (lv_at hl 1 rfl) ?_
  refine lv_ishr hx hb dX7_hasAsked_5 ?_
  refine lv_iconst (v := (1 : Int32)) hx hb dX7_hasAsked_6 (by decide) ?_
  refine lv_iand hx hb dX7_hasAsked_7 ?_
  refine lv_if_eq (tgt := 15) hx hb dX7_hasAsked_8 (by decide) (fun c_1 => ?_) (fun c_1 => ?_)
  · have h := zk_t c_1 h
    refine lv_iconst (v := (0 : Int32)) hx hb dX7_hasAsked_15 (by decide) ?_
    exact W.zret (ty := .boolean) (v := (0 : Int32)) hx hb hr rfl (fun t ht2 hW => ⟨⟨(0 : Int32), (), rfl, Option.some.inj h, by rw [ht2]; exact hP, hD⟩, hS.F ht2⟩) hS.2.2 dX7_hasAsked_16 hlocks
  · have h := zk_f c_1 h
    refine lv_iconst (v := (1 : Int32)) hx hb dX7_hasAsked_11 (by decide) ?_
    refine lv_goto (tgt := 16) hx hb dX7_hasAsked_12 (by decide) ?_
    exact W.zret (ty := .boolean) (v := (1 : Int32)) hx hb hr rfl (fun t ht2 hW => ⟨⟨(1 : Int32), (), rfl, Option.some.inj h, by rw [ht2]; exact hP, hD⟩, hS.F ht2⟩) hS.2.2 dX7_hasAsked_16 hlocks
set_option maxHeartbeats 4000000 in
set_option maxRecDepth 100000 in
theorem c_X7_hasAsked (l : Launch) (D : va_G) (cs : Nat → ClassId) (ad : Nat → Nat) (h_su : Nat) (h_su_asked : Nat) (sz : Nat) (x1 : Int32) (su_who : Int32) (su_against : Int32) (su_kind : Int32) (su_won : Int32) (su_day : Int32) (su_land : Int32) (su_undoneFrom : Int32) (su_askedCount : Int32) (su_askedBits : Int32) (su_first : Int32) (su_foundSo : Int32) (su_foundNot : Int32) (su_fought : Int32) (su_needed : Int32) (R : Int32 × Unit) (h : f_X7_hasAsked   x1 su_who su_against su_kind su_won su_day su_land su_undoneFrom su_askedCount su_askedBits su_first su_foundSo su_foundNot su_fought su_needed = some R) : Met l yX7_hasAsked (z_X7_hasAsked) rm_X7_hasAsked (va_Pc [.ref h_su, .int x1] (zPre D cs (wl_X7_hasAsked ad cs h_su h_su_asked su_who su_against su_kind su_won su_day su_land su_undoneFrom su_askedCount su_askedBits su_first su_foundSo su_foundNot su_fought su_needed) sz)) (Q_X7_hasAsked D cs ad h_su h_su_asked su_who su_against su_kind su_won su_day su_land su_undoneFrom su_askedCount su_askedBits su_first su_foundSo su_foundNot su_fought su_needed (va_A (wl_X7_hasAsked ad cs h_su h_su_asked su_who su_against su_kind su_won su_day su_land su_undoneFrom su_askedCount su_askedBits su_first su_foundSo su_foundNot su_fought su_needed) sz) R) 0 0 (va_A (wl_X7_hasAsked ad cs h_su h_su_asked su_who su_against su_kind su_won su_day su_land su_undoneFrom su_askedCount su_askedBits su_first su_foundSo su_foundNot su_fought su_needed) sz) := by
  refine Met.ofW (cc := cX7_hasAsked) (maxL := 2) (ret := (some .boolean)) (by decide) rfl ?_
  intro p e s m args below meth c s₁ B hml hv
  obtain ⟨rfl, hsz, hP, hK, hD0⟩ := hv
  subst hsz
  have hD := hD0.self (sz := s.heap.size)
  have C0 : zC p s m _ meth c cX7_hasAsked 2 (some .boolean) RX7 zW := ⟨B.exec, B.bytes, B.returns, hml, findClass_of_methodNamed B.named, fun w hw => atoms_spec (ws := z_X7_hasAsked) B.pre w (List.mem_cons_of_mem _ hw), B.notSynchronized⟩
  have hA : ∀ q : Nat, s.heap.size ≤ q → va_A (wl_X7_hasAsked ad cs h_su h_su_asked su_who su_against su_kind su_won su_day su_land su_undoneFrom su_askedCount su_askedBits su_first su_foundSo su_foundNot su_fought su_needed) s.heap.size q := fun q h => Or.inr h
  have hl := lv_entry ([.ref h_su, .int x1]) (n := 2) (Nat.le_of_ble_eq_true rfl)
  rw [lg_entry_eq]
  generalize (lg_sl ([.ref h_su, .int x1]) ++ List.replicate (2 - (lg_sl ([.ref h_su, .int x1])).length) Slot.unset).toArray = ls at hl ⊢
  exact L_X7_hasAsked_0 C0 hK hA   x1  h s.heap [] ls hP hD va_S.rf hl
theorem zh_cX7_hasFound_0 : zck [42, 180, 0, 28, 42, 180, 0, 31, 128, 27, 122, 4, 126, 153, 0, 7, 4, 167, 0, 4, 3, 172] (zdu 0 cX7_hasFound.data.toList) = true := by decide +kernel
theorem dX7_hasFound_0 : decode cX7_hasFound 0 = .ok (.aload_n 0, 1) := zo_42 zh_cX7_hasFound_0 0 rfl
theorem dX7_hasFound_1 : decode cX7_hasFound 1 = .ok (.getfield 28, 3) := zo_180 zh_cX7_hasFound_0 1 rfl
theorem dX7_hasFound_4 : decode cX7_hasFound 4 = .ok (.aload_n 0, 1) := zo_42 zh_cX7_hasFound_0 4 rfl
theorem dX7_hasFound_5 : decode cX7_hasFound 5 = .ok (.getfield 31, 3) := zo_180 zh_cX7_hasFound_0 5 rfl
theorem dX7_hasFound_8 : decode cX7_hasFound 8 = .ok (.ior, 1) := zo_128 zh_cX7_hasFound_0 8 rfl
theorem dX7_hasFound_9 : decode cX7_hasFound 9 = .ok (.iload_n 1, 1) := zo_27 zh_cX7_hasFound_0 9 rfl
theorem dX7_hasFound_10 : decode cX7_hasFound 10 = .ok (.ishr, 1) := zo_122 zh_cX7_hasFound_0 10 rfl
theorem dX7_hasFound_11 : decode cX7_hasFound 11 = .ok (.iconst 1, 1) := zo_4 zh_cX7_hasFound_0 11 rfl
theorem dX7_hasFound_12 : decode cX7_hasFound 12 = .ok (.iand, 1) := zo_126 zh_cX7_hasFound_0 12 rfl
theorem dX7_hasFound_13 : decode cX7_hasFound 13 = .ok (.ifCond .eq 7, 3) := zo_p153 zh_cX7_hasFound_0 13 7 rfl rfl
theorem dX7_hasFound_16 : decode cX7_hasFound 16 = .ok (.iconst 1, 1) := zo_4 zh_cX7_hasFound_0 16 rfl
theorem dX7_hasFound_17 : decode cX7_hasFound 17 = .ok (.goto 4, 3) := zo_p167 zh_cX7_hasFound_0 17 4 rfl rfl
theorem zh_cX7_hasFound_1 : zck [3, 172] (zdu 20 cX7_hasFound.data.toList) = true := by decide +kernel
theorem dX7_hasFound_20 : decode cX7_hasFound 20 = .ok (.iconst 0, 1) := zo_3 zh_cX7_hasFound_1 0 rfl
theorem dX7_hasFound_21 : decode cX7_hasFound 21 = .ok (.ireturn, 1) := zo_172 zh_cX7_hasFound_1 1 rfl
abbrev z_X7_hasFound : List Cond := .code yX7_hasFound cX7_hasFound 2 (some .boolean) :: zW
abbrev wl_X7_hasFound (ad : Nat → Nat) (cs : Nat → ClassId) (h_su : Nat) (h_su_asked : Nat) (su_who : Int32) (su_against : Int32) (su_kind : Int32) (su_won : Int32) (su_day : Int32) (su_land : Int32) (su_undoneFrom : Int32) (su_askedCount : Int32) (su_askedBits : Int32) (su_first : Int32) (su_foundSo : Int32) (su_foundNot : Int32) (su_fought : Int32) (su_needed : Int32) : va_W := [(h_su, .inr (7, [.int su_who, .int su_against, .int su_kind, .int su_won, .int su_day, .int su_land, .int su_undoneFrom, .ref h_su_asked, .int su_askedCount, .int su_askedBits, .int su_first, .int su_foundSo, .int su_foundNot, .int su_fought, .int su_needed]))]
def Q_X7_hasFound (D : va_G) (cs : Nat → ClassId) (ad : Nat → Nat) (h_su : Nat) (h_su_asked : Nat) (su_who : Int32) (su_against : Int32) (su_kind : Int32) (su_won : Int32) (su_day : Int32) (su_land : Int32) (su_undoneFrom : Int32) (su_askedCount : Int32) (su_askedBits : Int32) (su_first : Int32) (su_foundSo : Int32) (su_foundNot : Int32) (su_fought : Int32) (su_needed : Int32) (A : Nat → Prop) (R : Int32 × Unit) : Array Value → State → Outcome → State → Prop :=
  va_Qi (fun (r : Int32) (u : Unit) => (r, u) = R) (fun (u : Unit) (t : State) => va_P D classes (wl_X7_hasFound ad cs h_su h_su_asked su_who su_against su_kind su_won su_day su_land su_undoneFrom su_askedCount su_askedBits su_first su_foundSo su_foundNot su_fought su_needed) t.heap ∧ va_D A (wl_X7_hasFound ad cs h_su h_su_asked su_who su_against su_kind su_won su_day su_land su_undoneFrom su_askedCount su_askedBits su_first su_foundSo su_foundNot su_fought su_needed)) A
abbrev rm_X7_hasFound : Room := { frames := 0, cells := 0, slots := 0, locals := 0 }
def B_X7_hasFound_0    (su_who : Int32) (su_against : Int32) (su_kind : Int32) (su_won : Int32) (su_day : Int32) (su_land : Int32) (su_undoneFrom : Int32) (su_askedCount : Int32) (su_askedBits : Int32) (su_first : Int32) (su_foundSo : Int32) (su_foundNot : Int32) (su_fought : Int32) (su_needed : Int32) (x1 : Int32) : Option (Int32 × Unit) :=
  (if (((su_foundSo ||| su_foundNot) >>> (x1 &&& 31)) &&& (1 : Int32)) = 0 then (some ((0 : Int32), ())) else (some ((1 : Int32), ())))
def f_X7_hasFound   (x1 : Int32) (su_who : Int32) (su_against : Int32) (su_kind : Int32) (su_won : Int32) (su_day : Int32) (su_land : Int32) (su_undoneFrom : Int32) (su_askedCount : Int32) (su_askedBits : Int32) (su_first : Int32) (su_foundSo : Int32) (su_foundNot : Int32) (su_fought : Int32) (su_needed : Int32) : Option (Int32 × Unit) := B_X7_hasFound_0   su_who su_against su_kind su_won su_day su_land su_undoneFrom su_askedCount su_askedBits su_first su_foundSo su_foundNot su_fought su_needed x1 
set_option maxHeartbeats 4000000 in
set_option maxRecDepth 100000 in
theorem L_X7_hasFound_0 {p : Program} {l : Launch} {e : Env} {s : State} {m : MethodId} {args : Array Value} {below : List Frame} {meth : Method} {c : Code} {A : Nat → Prop} {D : va_G} {cs : Nat → ClassId} {ad : Nat → Nat} {h_su : Nat} {h_su_asked : Nat} {su_who : Int32} {su_against : Int32} {su_kind : Int32} {su_won : Int32} {su_day : Int32} {su_land : Int32} {su_undoneFrom : Int32} {su_askedCount : Int32} {su_askedBits : Int32} {su_first : Int32} {su_foundSo : Int32} {su_foundNot : Int32} {su_fought : Int32} {su_needed : Int32} {R : Int32 × Unit} (C0 : zC p s m args meth c cX7_hasFound 2 (some .boolean) RX7 zW) (hK : va_K D classes (zT cs) s) (hA : ∀ q : Nat, s.heap.size ≤ q → A q) (x1 : Int32) (h : B_X7_hasFound_0 su_who su_against su_kind su_won su_day su_land su_undoneFrom su_askedCount su_askedBits su_first su_foundSo su_foundNot su_fought su_needed x1 = some R) (H : Heap) (locs : List Loc) (ls : Array Slot) (hP : va_P D classes (wl_X7_hasFound ad cs h_su h_su_asked su_who su_against su_kind su_won su_day su_land su_undoneFrom su_askedCount su_askedBits su_first su_foundSo su_foundNot su_fought su_needed) H) (hD : va_D A (wl_X7_hasFound ad cs h_su h_su_asked su_who su_against su_kind su_won su_day su_land su_undoneFrom su_askedCount su_askedBits su_first su_foundSo su_foundNot su_fought su_needed)) (hS : va_S A s.heap H locs) (hl : lv_has ls 2 [(0, .ref h_su), (1, .int x1)]) : W p l e rm_X7_hasFound s m args below meth c H locs 0 0 (MQ below (Q_X7_hasFound D cs ad h_su h_su_asked su_who su_against su_kind su_won su_day su_land su_undoneFrom su_askedCount su_askedBits su_first su_foundSo su_foundNot su_fought su_needed A R) args s 0 0 A) (F0 m 0 ls []) := by
  obtain ⟨hx, hb, hr, hml, hown, ht, hlocks⟩ := id C0
  refine lv_aload_n hx hb dX7_hasFound_0 rfl (lv_at hl 0 rfl) ?_
  refine va_get (D := D) (ci := 7) (v := .int su_foundSo) (C := RX7) (T := TX7) (N := 15) hx hb ht iX7 hown hK hP 0 rfl rfl 11 (by decide) (ht _ kw_346) (fun _ h9 => h9) rfl dX7_hasFound_1 ?_
  refine lv_aload_n hx hb dX7_hasFound_4 rfl (lv_at hl 0 rfl) ?_
  refine va_get (D := D) (ci := 7) (v := .int su_foundNot) (C := RX7) (T := TX7) (N := 15) hx hb ht iX7 hown hK hP 0 rfl rfl 12 (by decide) (ht _ kw_348) (fun _ h9 => h9) rfl dX7_hasFound_5 ?_
  refine lv_ior hx hb dX7_hasFound_8 ?_
  refine lv_iload_n hx hb dX7_hasFound_9 rfl (lv_at hl 1 rfl) ?_
  refine lv_ishr hx hb dX7_hasFound_10 ?_
  refine lv_iconst (v := (1 : Int32)) hx hb dX7_hasFound_11 (by decide) ?_
  refine lv_iand hx hb dX7_hasFound_12 ?_
  refine lv_if_eq (tgt := 20) hx hb dX7_hasFound_13 (by decide) (fun c_1 => ?_) (fun c_1 => ?_)
  · have h := zk_t c_1 h
    refine lv_iconst (v := (0 : Int32)) hx hb dX7_hasFound_20 (by decide) ?_
    exact W.zret (ty := .boolean) (v := (0 : Int32)) hx hb hr rfl (fun t ht2 hW => ⟨⟨(0 : Int32), (), rfl, Option.some.inj h, by rw [ht2]; exact hP, hD⟩, hS.F ht2⟩) hS.2.2 dX7_hasFound_21 hlocks
  · have h := zk_f c_1 h
    refine lv_iconst (v := (1 : Int32)) hx hb dX7_hasFound_16 (by decide) ?_
    refine lv_goto (tgt := 21) hx hb dX7_hasFound_17 (by decide) ?_
    exact W.zret (ty := .boolean) (v := (1 : Int32)) hx hb hr rfl (fun t ht2 hW => ⟨⟨(1 : Int32), (), rfl, Option.some.inj h, by rw [ht2]; exact hP, hD⟩, hS.F ht2⟩) hS.2.2 dX7_hasFound_21 hlocks
set_option maxHeartbeats 4000000 in
set_option maxRecDepth 100000 in
theorem c_X7_hasFound (l : Launch) (D : va_G) (cs : Nat → ClassId) (ad : Nat → Nat) (h_su : Nat) (h_su_asked : Nat) (sz : Nat) (x1 : Int32) (su_who : Int32) (su_against : Int32) (su_kind : Int32) (su_won : Int32) (su_day : Int32) (su_land : Int32) (su_undoneFrom : Int32) (su_askedCount : Int32) (su_askedBits : Int32) (su_first : Int32) (su_foundSo : Int32) (su_foundNot : Int32) (su_fought : Int32) (su_needed : Int32) (R : Int32 × Unit) (h : f_X7_hasFound   x1 su_who su_against su_kind su_won su_day su_land su_undoneFrom su_askedCount su_askedBits su_first su_foundSo su_foundNot su_fought su_needed = some R) : Met l yX7_hasFound (z_X7_hasFound) rm_X7_hasFound (va_Pc [.ref h_su, .int x1] (zPre D cs (wl_X7_hasFound ad cs h_su h_su_asked su_who su_against su_kind su_won su_day su_land su_undoneFrom su_askedCount su_askedBits su_first su_foundSo su_foundNot su_fought su_needed) sz)) (Q_X7_hasFound D cs ad h_su h_su_asked su_who su_against su_kind su_won su_day su_land su_undoneFrom su_askedCount su_askedBits su_first su_foundSo su_foundNot su_fought su_needed (va_A (wl_X7_hasFound ad cs h_su h_su_asked su_who su_against su_kind su_won su_day su_land su_undoneFrom su_askedCount su_askedBits su_first su_foundSo su_foundNot su_fought su_needed) sz) R) 0 0 (va_A (wl_X7_hasFound ad cs h_su h_su_asked su_who su_against su_kind su_won su_day su_land su_undoneFrom su_askedCount su_askedBits su_first su_foundSo su_foundNot su_fought su_needed) sz) := by
  refine Met.ofW (cc := cX7_hasFound) (maxL := 2) (ret := (some .boolean)) (by decide) rfl ?_
  intro p e s m args below meth c s₁ B hml hv
  obtain ⟨rfl, hsz, hP, hK, hD0⟩ := hv
  subst hsz
  have hD := hD0.self (sz := s.heap.size)
  have C0 : zC p s m _ meth c cX7_hasFound 2 (some .boolean) RX7 zW := ⟨B.exec, B.bytes, B.returns, hml, findClass_of_methodNamed B.named, fun w hw => atoms_spec (ws := z_X7_hasFound) B.pre w (List.mem_cons_of_mem _ hw), B.notSynchronized⟩
  have hA : ∀ q : Nat, s.heap.size ≤ q → va_A (wl_X7_hasFound ad cs h_su h_su_asked su_who su_against su_kind su_won su_day su_land su_undoneFrom su_askedCount su_askedBits su_first su_foundSo su_foundNot su_fought su_needed) s.heap.size q := fun q h => Or.inr h
  have hl := lv_entry ([.ref h_su, .int x1]) (n := 2) (Nat.le_of_ble_eq_true rfl)
  rw [lg_entry_eq]
  generalize (lg_sl ([.ref h_su, .int x1]) ++ List.replicate (2 - (lg_sl ([.ref h_su, .int x1])).length) Slot.unset).toArray = ls at hl ⊢
  exact L_X7_hasFound_0 C0 hK hA   x1  h s.heap [] ls hP hD va_S.rf hl
theorem kw_944 : Cond.methodLink RX7 40 yX7_wayOf ∈ zW := zwC (i := 150) zc_4 rfl rfl
theorem zh_cX7_pointBits_0 : zck [42, 27, 182, 0, 40, 7, 42, 180, 0, 34, 27, 122, 4, 126, 104, 96, 16, 8, 42, 180, 0, 37] (zdu 0 cX7_pointBits.data.toList) = true := by decide +kernel
theorem dX7_pointBits_0 : decode cX7_pointBits 0 = .ok (.aload_n 0, 1) := zo_42 zh_cX7_pointBits_0 0 rfl
theorem dX7_pointBits_1 : decode cX7_pointBits 1 = .ok (.iload_n 1, 1) := zo_27 zh_cX7_pointBits_0 1 rfl
theorem dX7_pointBits_2 : decode cX7_pointBits 2 = .ok (.invokevirtual 40, 3) := zo_182 zh_cX7_pointBits_0 2 rfl
theorem dX7_pointBits_5 : decode cX7_pointBits 5 = .ok (.iconst 4, 1) := zo_7 zh_cX7_pointBits_0 5 rfl
theorem dX7_pointBits_6 : decode cX7_pointBits 6 = .ok (.aload_n 0, 1) := zo_42 zh_cX7_pointBits_0 6 rfl
theorem dX7_pointBits_7 : decode cX7_pointBits 7 = .ok (.getfield 34, 3) := zo_180 zh_cX7_pointBits_0 7 rfl
theorem dX7_pointBits_10 : decode cX7_pointBits 10 = .ok (.iload_n 1, 1) := zo_27 zh_cX7_pointBits_0 10 rfl
theorem dX7_pointBits_11 : decode cX7_pointBits 11 = .ok (.ishr, 1) := zo_122 zh_cX7_pointBits_0 11 rfl
theorem dX7_pointBits_12 : decode cX7_pointBits 12 = .ok (.iconst 1, 1) := zo_4 zh_cX7_pointBits_0 12 rfl
theorem dX7_pointBits_13 : decode cX7_pointBits 13 = .ok (.iand, 1) := zo_126 zh_cX7_pointBits_0 13 rfl
theorem dX7_pointBits_14 : decode cX7_pointBits 14 = .ok (.imul, 1) := zo_104 zh_cX7_pointBits_0 14 rfl
theorem dX7_pointBits_15 : decode cX7_pointBits 15 = .ok (.iadd, 1) := zo_96 zh_cX7_pointBits_0 15 rfl
theorem dX7_pointBits_16 : decode cX7_pointBits 16 = .ok (.bipush 8, 2) := zo_p16 zh_cX7_pointBits_0 16 8 rfl rfl
theorem dX7_pointBits_18 : decode cX7_pointBits 18 = .ok (.aload_n 0, 1) := zo_42 zh_cX7_pointBits_0 18 rfl
theorem dX7_pointBits_19 : decode cX7_pointBits 19 = .ok (.getfield 37, 3) := zo_180 zh_cX7_pointBits_0 19 rfl
theorem zh_cX7_pointBits_1 : zck [0, 37, 27, 122, 4, 126, 104, 96, 172] (zdu 20 cX7_pointBits.data.toList) = true := by decide +kernel
theorem dX7_pointBits_22 : decode cX7_pointBits 22 = .ok (.iload_n 1, 1) := zo_27 zh_cX7_pointBits_1 2 rfl
theorem dX7_pointBits_23 : decode cX7_pointBits 23 = .ok (.ishr, 1) := zo_122 zh_cX7_pointBits_1 3 rfl
theorem dX7_pointBits_24 : decode cX7_pointBits 24 = .ok (.iconst 1, 1) := zo_4 zh_cX7_pointBits_1 4 rfl
theorem dX7_pointBits_25 : decode cX7_pointBits 25 = .ok (.iand, 1) := zo_126 zh_cX7_pointBits_1 5 rfl
theorem dX7_pointBits_26 : decode cX7_pointBits 26 = .ok (.imul, 1) := zo_104 zh_cX7_pointBits_1 6 rfl
theorem dX7_pointBits_27 : decode cX7_pointBits 27 = .ok (.iadd, 1) := zo_96 zh_cX7_pointBits_1 7 rfl
theorem dX7_pointBits_28 : decode cX7_pointBits 28 = .ok (.ireturn, 1) := zo_172 zh_cX7_pointBits_1 8 rfl
abbrev z_X7_pointBits : List Cond := .code yX7_pointBits cX7_pointBits 2 (some .int) :: zW
abbrev wl_X7_pointBits (ad : Nat → Nat) (cs : Nat → ClassId) (h_su : Nat) (h_su_asked : Nat) (su_who : Int32) (su_against : Int32) (su_kind : Int32) (su_won : Int32) (su_day : Int32) (su_land : Int32) (su_undoneFrom : Int32) (su_askedCount : Int32) (su_askedBits : Int32) (su_first : Int32) (su_foundSo : Int32) (su_foundNot : Int32) (su_fought : Int32) (su_needed : Int32) : va_W := [(h_su, .inr (7, [.int su_who, .int su_against, .int su_kind, .int su_won, .int su_day, .int su_land, .int su_undoneFrom, .ref h_su_asked, .int su_askedCount, .int su_askedBits, .int su_first, .int su_foundSo, .int su_foundNot, .int su_fought, .int su_needed]))]
def Q_X7_pointBits (D : va_G) (cs : Nat → ClassId) (ad : Nat → Nat) (h_su : Nat) (h_su_asked : Nat) (su_who : Int32) (su_against : Int32) (su_kind : Int32) (su_won : Int32) (su_day : Int32) (su_land : Int32) (su_undoneFrom : Int32) (su_askedCount : Int32) (su_askedBits : Int32) (su_first : Int32) (su_foundSo : Int32) (su_foundNot : Int32) (su_fought : Int32) (su_needed : Int32) (A : Nat → Prop) (R : Int32 × Unit) : Array Value → State → Outcome → State → Prop :=
  va_Qi (fun (r : Int32) (u : Unit) => (r, u) = R) (fun (u : Unit) (t : State) => va_P D classes (wl_X7_pointBits ad cs h_su h_su_asked su_who su_against su_kind su_won su_day su_land su_undoneFrom su_askedCount su_askedBits su_first su_foundSo su_foundNot su_fought su_needed) t.heap ∧ va_D A (wl_X7_pointBits ad cs h_su h_su_asked su_who su_against su_kind su_won su_day su_land su_undoneFrom su_askedCount su_askedBits su_first su_foundSo su_foundNot su_fought su_needed)) A
abbrev rm_X7_pointBits : Room := { frames := 1, cells := 0, slots := 0, locals := 21 }
theorem g_X7_40 : GoodIn zW (wsV RX7 40 RX7 yX7_wayOf z_X7_wayOf) := zGV kw_944 kw_945 kw_946 kw_82 kw_947
def B_X7_pointBits_0    (su_who : Int32) (su_against : Int32) (su_kind : Int32) (su_won : Int32) (su_day : Int32) (su_land : Int32) (su_undoneFrom : Int32) (su_askedCount : Int32) (su_askedBits : Int32) (su_first : Int32) (su_foundSo : Int32) (su_foundNot : Int32) (su_fought : Int32) (su_needed : Int32) (x1 : Int32) : Option (Int32 × Unit) :=
  (zk_b2 (f_X7_wayOf x1 su_who su_against su_kind su_won su_day su_land su_undoneFrom su_askedCount su_askedBits su_first su_foundSo su_foundNot su_fought su_needed) (fun r_1 u_2 => (some ((r_1 + ((4 : Int32) * ((su_fought >>> (x1 &&& 31)) &&& (1 : Int32)))) + ((8 : Int32) * ((su_needed >>> (x1 &&& 31)) &&& (1 : Int32))), ()))))
def f_X7_pointBits   (x1 : Int32) (su_who : Int32) (su_against : Int32) (su_kind : Int32) (su_won : Int32) (su_day : Int32) (su_land : Int32) (su_undoneFrom : Int32) (su_askedCount : Int32) (su_askedBits : Int32) (su_first : Int32) (su_foundSo : Int32) (su_foundNot : Int32) (su_fought : Int32) (su_needed : Int32) : Option (Int32 × Unit) := B_X7_pointBits_0   su_who su_against su_kind su_won su_day su_land su_undoneFrom su_askedCount su_askedBits su_first su_foundSo su_foundNot su_fought su_needed x1 
set_option maxHeartbeats 4000000 in
set_option maxRecDepth 100000 in
theorem L_X7_pointBits_0 {p : Program} {l : Launch} {e : Env} {s : State} {m : MethodId} {args : Array Value} {below : List Frame} {meth : Method} {c : Code} {A : Nat → Prop} {D : va_G} {cs : Nat → ClassId} {ad : Nat → Nat} {h_su : Nat} {h_su_asked : Nat} {su_who : Int32} {su_against : Int32} {su_kind : Int32} {su_won : Int32} {su_day : Int32} {su_land : Int32} {su_undoneFrom : Int32} {su_askedCount : Int32} {su_askedBits : Int32} {su_first : Int32} {su_foundSo : Int32} {su_foundNot : Int32} {su_fought : Int32} {su_needed : Int32} {R : Int32 × Unit} (C0 : zC p s m args meth c cX7_pointBits 2 (some .int) RX7 zW) (hK : va_K D classes (zT cs) s) (hA : ∀ q : Nat, s.heap.size ≤ q → A q) (x1 : Int32) (h : B_X7_pointBits_0 su_who su_against su_kind su_won su_day su_land su_undoneFrom su_askedCount su_askedBits su_first su_foundSo su_foundNot su_fought su_needed x1 = some R) (H : Heap) (locs : List Loc) (ls : Array Slot) (hP : va_P D classes (wl_X7_pointBits ad cs h_su h_su_asked su_who su_against su_kind su_won su_day su_land su_undoneFrom su_askedCount su_askedBits su_first su_foundSo su_foundNot su_fought su_needed) H) (hD : va_D A (wl_X7_pointBits ad cs h_su h_su_asked su_who su_against su_kind su_won su_day su_land su_undoneFrom su_askedCount su_askedBits su_first su_foundSo su_foundNot su_fought su_needed)) (hS : va_S A s.heap H locs) (hl : lv_has ls 2 [(0, .ref h_su), (1, .int x1)]) : W p l e rm_X7_pointBits s m args below meth c H locs 0 0 (MQ below (Q_X7_pointBits D cs ad h_su h_su_asked su_who su_against su_kind su_won su_day su_land su_undoneFrom su_askedCount su_askedBits su_first su_foundSo su_foundNot su_fought su_needed A R) args s 0 0 A) (F0 m 0 ls []) := by
  obtain ⟨hx, hb, hr, hml, hown, ht, hlocks⟩ := id C0
  refine lv_aload_n hx hb dX7_pointBits_0 rfl (lv_at hl 0 rfl) ?_
  refine lv_iload_n hx hb dX7_pointBits_1 rfl (lv_at hl 1 rfl) ?_
  obtain ⟨r_1, u_2, hc_3, h⟩ := zk_o2 h
  refine zz_vi (post := (fun r u => (r, u) = (r_1, u_2))) (w1 := fun u => (wl_X7_wayOf ad cs h_su h_su_asked su_who su_against su_kind su_won su_day su_land su_undoneFrom su_askedCount su_askedBits su_first su_foundSo su_foundNot su_fought su_needed)) (As := [.int x1]) (rest := []) (c_X7_wayOf l D cs ad h_su h_su_asked H.size x1 su_who su_against su_kind su_won su_day su_land su_undoneFrom su_askedCount su_askedBits su_first su_foundSo su_foundNot su_fought su_needed (r_1, u_2) hc_3) ⟨hx, hb, hml, hown, ht⟩ (cwV 1 ht g_X7_40 rfl rfl rfl ⟨rfl, hd_X7_wayOf⟩ ⟨Nat.le_of_ble_eq_true rfl, Nat.le_of_ble_eq_true rfl⟩) (va_recv hK hP (ci := 7) (q0 := 0) rfl rfl) hP hD hS hK hA [0] rfl rfl [h_su] rfl (fun _ => rfl) rfl hl.1 (Nat.le_of_ble_eq_true rfl) dX7_pointBits_2 ⟨Nat.zero_le _, Nat.zero_le _⟩ (fun r u H locs hq hP hS => ?_)
  cases hq
  have hP : va_P D classes (wl_X7_pointBits ad cs h_su h_su_asked su_who su_against su_kind su_won su_day su_land su_undoneFrom su_askedCount su_askedBits su_first su_foundSo su_foundNot su_fought su_needed) H := hP
  have hD : va_D A (wl_X7_pointBits ad cs h_su h_su_asked su_who su_against su_kind su_won su_day su_land su_undoneFrom su_askedCount su_askedBits su_first su_foundSo su_foundNot su_fought su_needed) := zDk hD [h_su] rfl rfl
  refine lv_iconst (v := (4 : Int32)) hx hb dX7_pointBits_5 (by decide) ?_
  refine lv_aload_n hx hb dX7_pointBits_6 rfl (lv_at hl 0 rfl) ?_
  refine va_get (D := D) (ci := 7) (v := .int su_fought) (C := RX7) (T := TX7) (N := 15) hx hb ht iX7 hown hK hP 0 rfl rfl 13 (by decide) (ht _ kw_350) (fun _ h9 => h9) rfl dX7_pointBits_7 ?_
  refine lv_iload_n hx hb dX7_pointBits_10 rfl (lv_at hl 1 rfl) ?_
  refine lv_ishr hx hb dX7_pointBits_11 ?_
  refine lv_iconst (v := (1 : Int32)) hx hb dX7_pointBits_12 (by decide) ?_
  refine lv_iand hx hb dX7_pointBits_13 ?_
  refine lv_imul hx hb dX7_pointBits_14 ?_
  refine lv_iadd hx hb dX7_pointBits_15 ?_
  refine lv_bipush (v := (8 : Int32)) hx hb dX7_pointBits_16 (by decide) ?_
  refine lv_aload_n hx hb dX7_pointBits_18 rfl (lv_at hl 0 rfl) ?_
  refine va_get (D := D) (ci := 7) (v := .int su_needed) (C := RX7) (T := TX7) (N := 15) hx hb ht iX7 hown hK hP 0 rfl rfl 14 (by decide) (ht _ kw_353) (fun _ h9 => h9) rfl dX7_pointBits_19 ?_
  refine lv_iload_n hx hb dX7_pointBits_22 rfl (lv_at hl 1 rfl) ?_
  refine lv_ishr hx hb dX7_pointBits_23 ?_
  refine lv_iconst (v := (1 : Int32)) hx hb dX7_pointBits_24 (by decide) ?_
  refine lv_iand hx hb dX7_pointBits_25 ?_
  refine lv_imul hx hb dX7_pointBits_26 ?_
  refine lv_iadd hx hb dX7_pointBits_27 ?_
  exact W.iret (v := (r_1 + ((4 : Int32) * ((su_fought >>> (x1 &&& 31)) &&& (1 : Int32)))) + ((8 : Int32) * ((su_needed >>> (x1 &&& 31)) &&& (1 : Int32)))) hx hb hr (fun t ht2 hW => ⟨⟨(r_1 + ((4 : Int32) * ((su_fought >>> (x1 &&& 31)) &&& (1 : Int32)))) + ((8 : Int32) * ((su_needed >>> (x1 &&& 31)) &&& (1 : Int32))), (), rfl, Option.some.inj h, by rw [ht2]; exact hP, hD⟩, hS.F ht2⟩) hS.2.2 dX7_pointBits_28 hlocks
set_option maxHeartbeats 4000000 in
set_option maxRecDepth 100000 in
theorem c_X7_pointBits (l : Launch) (D : va_G) (cs : Nat → ClassId) (ad : Nat → Nat) (h_su : Nat) (h_su_asked : Nat) (sz : Nat) (x1 : Int32) (su_who : Int32) (su_against : Int32) (su_kind : Int32) (su_won : Int32) (su_day : Int32) (su_land : Int32) (su_undoneFrom : Int32) (su_askedCount : Int32) (su_askedBits : Int32) (su_first : Int32) (su_foundSo : Int32) (su_foundNot : Int32) (su_fought : Int32) (su_needed : Int32) (R : Int32 × Unit) (h : f_X7_pointBits   x1 su_who su_against su_kind su_won su_day su_land su_undoneFrom su_askedCount su_askedBits su_first su_foundSo su_foundNot su_fought su_needed = some R) : Met l yX7_pointBits (z_X7_pointBits) rm_X7_pointBits (va_Pc [.ref h_su, .int x1] (zPre D cs (wl_X7_pointBits ad cs h_su h_su_asked su_who su_against su_kind su_won su_day su_land su_undoneFrom su_askedCount su_askedBits su_first su_foundSo su_foundNot su_fought su_needed) sz)) (Q_X7_pointBits D cs ad h_su h_su_asked su_who su_against su_kind su_won su_day su_land su_undoneFrom su_askedCount su_askedBits su_first su_foundSo su_foundNot su_fought su_needed (va_A (wl_X7_pointBits ad cs h_su h_su_asked su_who su_against su_kind su_won su_day su_land su_undoneFrom su_askedCount su_askedBits su_first su_foundSo su_foundNot su_fought su_needed) sz) R) 0 0 (va_A (wl_X7_pointBits ad cs h_su h_su_asked su_who su_against su_kind su_won su_day su_land su_undoneFrom su_askedCount su_askedBits su_first su_foundSo su_foundNot su_fought su_needed) sz) := by
  refine Met.ofW (cc := cX7_pointBits) (maxL := 2) (ret := (some .int)) (by decide) rfl ?_
  intro p e s m args below meth c s₁ B hml hv
  obtain ⟨rfl, hsz, hP, hK, hD0⟩ := hv
  subst hsz
  have hD := hD0.self (sz := s.heap.size)
  have C0 : zC p s m _ meth c cX7_pointBits 2 (some .int) RX7 zW := ⟨B.exec, B.bytes, B.returns, hml, findClass_of_methodNamed B.named, fun w hw => atoms_spec (ws := z_X7_pointBits) B.pre w (List.mem_cons_of_mem _ hw), B.notSynchronized⟩
  have hA : ∀ q : Nat, s.heap.size ≤ q → va_A (wl_X7_pointBits ad cs h_su h_su_asked su_who su_against su_kind su_won su_day su_land su_undoneFrom su_askedCount su_askedBits su_first su_foundSo su_foundNot su_fought su_needed) s.heap.size q := fun q h => Or.inr h
  have hl := lv_entry ([.ref h_su, .int x1]) (n := 2) (Nat.le_of_ble_eq_true rfl)
  rw [lg_entry_eq]
  generalize (lg_sl ([.ref h_su, .int x1]) ++ List.replicate (2 - (lg_sl ([.ref h_su, .int x1])).length) Slot.unset).toArray = ls at hl ⊢
  exact L_X7_pointBits_0 C0 hK hA   x1  h s.heap [] ls hP hD va_S.rf hl
theorem kw_313 : Cond.fieldLink RX7 44 "AlreadyJudged$Suit" "kind" "I" ∈ zW := zwC (i := 239) zc_1 rfl rfl
theorem kw_330 : Cond.fieldLink RX7 9 "AlreadyJudged$Suit" "undoneFrom" "I" ∈ zW := zwC (i := 16) zc_2 rfl rfl
theorem zh_cX7_kindOn_0 : zck [42, 180, 0, 9, 155, 0, 15, 27, 42, 180, 0, 9, 161, 0, 7, 8, 167, 0, 7, 42, 180, 0] (zdu 0 cX7_kindOn.data.toList) = true := by decide +kernel
theorem dX7_kindOn_0 : decode cX7_kindOn 0 = .ok (.aload_n 0, 1) := zo_42 zh_cX7_kindOn_0 0 rfl
theorem dX7_kindOn_1 : decode cX7_kindOn 1 = .ok (.getfield 9, 3) := zo_180 zh_cX7_kindOn_0 1 rfl
theorem dX7_kindOn_4 : decode cX7_kindOn 4 = .ok (.ifCond .lt 15, 3) := zo_p155 zh_cX7_kindOn_0 4 15 rfl rfl
theorem dX7_kindOn_7 : decode cX7_kindOn 7 = .ok (.iload_n 1, 1) := zo_27 zh_cX7_kindOn_0 7 rfl
theorem dX7_kindOn_8 : decode cX7_kindOn 8 = .ok (.aload_n 0, 1) := zo_42 zh_cX7_kindOn_0 8 rfl
theorem dX7_kindOn_9 : decode cX7_kindOn 9 = .ok (.getfield 9, 3) := zo_180 zh_cX7_kindOn_0 9 rfl
theorem dX7_kindOn_12 : decode cX7_kindOn 12 = .ok (.if_icmp .lt 7, 3) := zo_p161 zh_cX7_kindOn_0 12 7 rfl rfl
theorem dX7_kindOn_15 : decode cX7_kindOn 15 = .ok (.iconst 5, 1) := zo_8 zh_cX7_kindOn_0 15 rfl
theorem dX7_kindOn_16 : decode cX7_kindOn 16 = .ok (.goto 7, 3) := zo_p167 zh_cX7_kindOn_0 16 7 rfl rfl
theorem dX7_kindOn_19 : decode cX7_kindOn 19 = .ok (.aload_n 0, 1) := zo_42 zh_cX7_kindOn_0 19 rfl
theorem zh_cX7_kindOn_1 : zck [180, 0, 44, 172] (zdu 20 cX7_kindOn.data.toList) = true := by decide +kernel
theorem dX7_kindOn_20 : decode cX7_kindOn 20 = .ok (.getfield 44, 3) := zo_180 zh_cX7_kindOn_1 0 rfl
theorem dX7_kindOn_23 : decode cX7_kindOn 23 = .ok (.ireturn, 1) := zo_172 zh_cX7_kindOn_1 3 rfl
abbrev z_X7_kindOn : List Cond := .code yX7_kindOn cX7_kindOn 2 (some .int) :: zW
abbrev wl_X7_kindOn (ad : Nat → Nat) (cs : Nat → ClassId) (h_su : Nat) (h_su_asked : Nat) (su_who : Int32) (su_against : Int32) (su_kind : Int32) (su_won : Int32) (su_day : Int32) (su_land : Int32) (su_undoneFrom : Int32) (su_askedCount : Int32) (su_askedBits : Int32) (su_first : Int32) (su_foundSo : Int32) (su_foundNot : Int32) (su_fought : Int32) (su_needed : Int32) : va_W := [(h_su, .inr (7, [.int su_who, .int su_against, .int su_kind, .int su_won, .int su_day, .int su_land, .int su_undoneFrom, .ref h_su_asked, .int su_askedCount, .int su_askedBits, .int su_first, .int su_foundSo, .int su_foundNot, .int su_fought, .int su_needed]))]
def Q_X7_kindOn (D : va_G) (cs : Nat → ClassId) (ad : Nat → Nat) (h_su : Nat) (h_su_asked : Nat) (su_who : Int32) (su_against : Int32) (su_kind : Int32) (su_won : Int32) (su_day : Int32) (su_land : Int32) (su_undoneFrom : Int32) (su_askedCount : Int32) (su_askedBits : Int32) (su_first : Int32) (su_foundSo : Int32) (su_foundNot : Int32) (su_fought : Int32) (su_needed : Int32) (A : Nat → Prop) (R : Int32 × Unit) : Array Value → State → Outcome → State → Prop :=
  va_Qi (fun (r : Int32) (u : Unit) => (r, u) = R) (fun (u : Unit) (t : State) => va_P D classes (wl_X7_kindOn ad cs h_su h_su_asked su_who su_against su_kind su_won su_day su_land su_undoneFrom su_askedCount su_askedBits su_first su_foundSo su_foundNot su_fought su_needed) t.heap ∧ va_D A (wl_X7_kindOn ad cs h_su h_su_asked su_who su_against su_kind su_won su_day su_land su_undoneFrom su_askedCount su_askedBits su_first su_foundSo su_foundNot su_fought su_needed)) A
abbrev rm_X7_kindOn : Room := { frames := 0, cells := 0, slots := 0, locals := 0 }
def B_X7_kindOn_0    (su_who : Int32) (su_against : Int32) (su_kind : Int32) (su_won : Int32) (su_day : Int32) (su_land : Int32) (su_undoneFrom : Int32) (su_askedCount : Int32) (su_askedBits : Int32) (su_first : Int32) (su_foundSo : Int32) (su_foundNot : Int32) (su_fought : Int32) (su_needed : Int32) (x1 : Int32) : Option (Int32 × Unit) :=
  (if su_undoneFrom < 0 then (some (su_kind, ())) else (if x1 < su_undoneFrom then (some (su_kind, ())) else (some ((5 : Int32), ()))))
def f_X7_kindOn   (x1 : Int32) (su_who : Int32) (su_against : Int32) (su_kind : Int32) (su_won : Int32) (su_day : Int32) (su_land : Int32) (su_undoneFrom : Int32) (su_askedCount : Int32) (su_askedBits : Int32) (su_first : Int32) (su_foundSo : Int32) (su_foundNot : Int32) (su_fought : Int32) (su_needed : Int32) : Option (Int32 × Unit) := B_X7_kindOn_0   su_who su_against su_kind su_won su_day su_land su_undoneFrom su_askedCount su_askedBits su_first su_foundSo su_foundNot su_fought su_needed x1 
set_option maxHeartbeats 4000000 in
set_option maxRecDepth 100000 in
theorem L_X7_kindOn_0 {p : Program} {l : Launch} {e : Env} {s : State} {m : MethodId} {args : Array Value} {below : List Frame} {meth : Method} {c : Code} {A : Nat → Prop} {D : va_G} {cs : Nat → ClassId} {ad : Nat → Nat} {h_su : Nat} {h_su_asked : Nat} {su_who : Int32} {su_against : Int32} {su_kind : Int32} {su_won : Int32} {su_day : Int32} {su_land : Int32} {su_undoneFrom : Int32} {su_askedCount : Int32} {su_askedBits : Int32} {su_first : Int32} {su_foundSo : Int32} {su_foundNot : Int32} {su_fought : Int32} {su_needed : Int32} {R : Int32 × Unit} (C0 : zC p s m args meth c cX7_kindOn 2 (some .int) RX7 zW) (hK : va_K D classes (zT cs) s) (hA : ∀ q : Nat, s.heap.size ≤ q → A q) (x1 : Int32) (h : B_X7_kindOn_0 su_who su_against su_kind su_won su_day su_land su_undoneFrom su_askedCount su_askedBits su_first su_foundSo su_foundNot su_fought su_needed x1 = some R) (H : Heap) (locs : List Loc) (ls : Array Slot) (hP : va_P D classes (wl_X7_kindOn ad cs h_su h_su_asked su_who su_against su_kind su_won su_day su_land su_undoneFrom su_askedCount su_askedBits su_first su_foundSo su_foundNot su_fought su_needed) H) (hD : va_D A (wl_X7_kindOn ad cs h_su h_su_asked su_who su_against su_kind su_won su_day su_land su_undoneFrom su_askedCount su_askedBits su_first su_foundSo su_foundNot su_fought su_needed)) (hS : va_S A s.heap H locs) (hl : lv_has ls 2 [(0, .ref h_su), (1, .int x1)]) : W p l e rm_X7_kindOn s m args below meth c H locs 0 0 (MQ below (Q_X7_kindOn D cs ad h_su h_su_asked su_who su_against su_kind su_won su_day su_land su_undoneFrom su_askedCount su_askedBits su_first su_foundSo su_foundNot su_fought su_needed A R) args s 0 0 A) (F0 m 0 ls []) := by
  obtain ⟨hx, hb, hr, hml, hown, ht, hlocks⟩ := id C0
  refine lv_aload_n hx hb dX7_kindOn_0 rfl (lv_at hl 0 rfl) ?_
  refine va_get (D := D) (ci := 7) (v := .int su_undoneFrom) (C := RX7) (T := TX7) (N := 15) hx hb ht iX7 hown hK hP 0 rfl rfl 6 (by decide) (ht _ kw_330) (fun _ h9 => h9) rfl dX7_kindOn_1 ?_
  refine lv_if_lt (tgt := 19) hx hb dX7_kindOn_4 (by decide) (fun c_1 => ?_) (fun c_1 => ?_)
  · have h := zk_t c_1 h
    refine lv_aload_n hx hb dX7_kindOn_19 rfl (lv_at hl 0 rfl) ?_
    refine va_get (D := D) (ci := 7) (v := .int su_kind) (C := RX7) (T := TX7) (N := 15) hx hb ht iX7 hown hK hP 0 rfl rfl 2 (by decide) (ht _ kw_313) (fun _ h9 => h9) rfl dX7_kindOn_20 ?_
    exact W.iret (v := su_kind) hx hb hr (fun t ht2 hW => ⟨⟨su_kind, (), rfl, Option.some.inj h, by rw [ht2]; exact hP, hD⟩, hS.F ht2⟩) hS.2.2 dX7_kindOn_23 hlocks
  · have h := zk_f c_1 h
    refine lv_iload_n hx hb dX7_kindOn_7 rfl (lv_at hl 1 rfl) ?_
    refine lv_aload_n hx hb dX7_kindOn_8 rfl (lv_at hl 0 rfl) ?_
    refine va_get (D := D) (ci := 7) (v := .int su_undoneFrom) (C := RX7) (T := TX7) (N := 15) hx hb ht iX7 hown hK hP 0 rfl rfl 6 (by decide) (ht _ kw_330) (fun _ h9 => h9) rfl dX7_kindOn_9 ?_
    refine lv_icmp_lt (tgt := 19) hx hb dX7_kindOn_12 (by decide) (fun c_2 => ?_) (fun c_2 => ?_)
    · have h := zk_t c_2 h
      refine lv_aload_n hx hb dX7_kindOn_19 rfl (lv_at hl 0 rfl) ?_
      refine va_get (D := D) (ci := 7) (v := .int su_kind) (C := RX7) (T := TX7) (N := 15) hx hb ht iX7 hown hK hP 0 rfl rfl 2 (by decide) (ht _ kw_313) (fun _ h9 => h9) rfl dX7_kindOn_20 ?_
      exact W.iret (v := su_kind) hx hb hr (fun t ht2 hW => ⟨⟨su_kind, (), rfl, Option.some.inj h, by rw [ht2]; exact hP, hD⟩, hS.F ht2⟩) hS.2.2 dX7_kindOn_23 hlocks
    · have h := zk_f c_2 h
      refine lv_iconst (v := (5 : Int32)) hx hb dX7_kindOn_15 (by decide) ?_
      refine lv_goto (tgt := 23) hx hb dX7_kindOn_16 (by decide) ?_
      exact W.iret (v := (5 : Int32)) hx hb hr (fun t ht2 hW => ⟨⟨(5 : Int32), (), rfl, Option.some.inj h, by rw [ht2]; exact hP, hD⟩, hS.F ht2⟩) hS.2.2 dX7_kindOn_23 hlocks
set_option maxHeartbeats 4000000 in
set_option maxRecDepth 100000 in
theorem c_X7_kindOn (l : Launch) (D : va_G) (cs : Nat → ClassId) (ad : Nat → Nat) (h_su : Nat) (h_su_asked : Nat) (sz : Nat) (x1 : Int32) (su_who : Int32) (su_against : Int32) (su_kind : Int32) (su_won : Int32) (su_day : Int32) (su_land : Int32) (su_undoneFrom : Int32) (su_askedCount : Int32) (su_askedBits : Int32) (su_first : Int32) (su_foundSo : Int32) (su_foundNot : Int32) (su_fought : Int32) (su_needed : Int32) (R : Int32 × Unit) (h : f_X7_kindOn   x1 su_who su_against su_kind su_won su_day su_land su_undoneFrom su_askedCount su_askedBits su_first su_foundSo su_foundNot su_fought su_needed = some R) : Met l yX7_kindOn (z_X7_kindOn) rm_X7_kindOn (va_Pc [.ref h_su, .int x1] (zPre D cs (wl_X7_kindOn ad cs h_su h_su_asked su_who su_against su_kind su_won su_day su_land su_undoneFrom su_askedCount su_askedBits su_first su_foundSo su_foundNot su_fought su_needed) sz)) (Q_X7_kindOn D cs ad h_su h_su_asked su_who su_against su_kind su_won su_day su_land su_undoneFrom su_askedCount su_askedBits su_first su_foundSo su_foundNot su_fought su_needed (va_A (wl_X7_kindOn ad cs h_su h_su_asked su_who su_against su_kind su_won su_day su_land su_undoneFrom su_askedCount su_askedBits su_first su_foundSo su_foundNot su_fought su_needed) sz) R) 0 0 (va_A (wl_X7_kindOn ad cs h_su h_su_asked su_who su_against su_kind su_won su_day su_land su_undoneFrom su_askedCount su_askedBits su_first su_foundSo su_foundNot su_fought su_needed) sz) := by
  refine Met.ofW (cc := cX7_kindOn) (maxL := 2) (ret := (some .int)) (by decide) rfl ?_
  intro p e s m args below meth c s₁ B hml hv
  obtain ⟨rfl, hsz, hP, hK, hD0⟩ := hv
  subst hsz
  have hD := hD0.self (sz := s.heap.size)
  have C0 : zC p s m _ meth c cX7_kindOn 2 (some .int) RX7 zW := ⟨B.exec, B.bytes, B.returns, hml, findClass_of_methodNamed B.named, fun w hw => atoms_spec (ws := z_X7_kindOn) B.pre w (List.mem_cons_of_mem _ hw), B.notSynchronized⟩
  have hA : ∀ q : Nat, s.heap.size ≤ q → va_A (wl_X7_kindOn ad cs h_su h_su_asked su_who su_against su_kind su_won su_day su_land su_undoneFrom su_askedCount su_askedBits su_first su_foundSo su_foundNot su_fought su_needed) s.heap.size q := fun q h => Or.inr h
  have hl := lv_entry ([.ref h_su, .int x1]) (n := 2) (Nat.le_of_ble_eq_true rfl)
  rw [lg_entry_eq]
  generalize (lg_sl ([.ref h_su, .int x1]) ++ List.replicate (2 - (lg_sl ([.ref h_su, .int x1])).length) Slot.unset).toArray = ls at hl ⊢
  exact L_X7_kindOn_0 C0 hK hA   x1  h s.heap [] ls hP hD va_S.rf hl
theorem zh_cX7_bodyKind_0 : zck [42, 180, 0, 9, 155, 0, 7, 8, 167, 0, 7, 42, 180, 0, 44, 172] (zdu 0 cX7_bodyKind.data.toList) = true := by decide +kernel
theorem dX7_bodyKind_0 : decode cX7_bodyKind 0 = .ok (.aload_n 0, 1) := zo_42 zh_cX7_bodyKind_0 0 rfl
theorem dX7_bodyKind_1 : decode cX7_bodyKind 1 = .ok (.getfield 9, 3) := zo_180 zh_cX7_bodyKind_0 1 rfl
theorem dX7_bodyKind_4 : decode cX7_bodyKind 4 = .ok (.ifCond .lt 7, 3) := zo_p155 zh_cX7_bodyKind_0 4 7 rfl rfl
theorem dX7_bodyKind_7 : decode cX7_bodyKind 7 = .ok (.iconst 5, 1) := zo_8 zh_cX7_bodyKind_0 7 rfl
theorem dX7_bodyKind_8 : decode cX7_bodyKind 8 = .ok (.goto 7, 3) := zo_p167 zh_cX7_bodyKind_0 8 7 rfl rfl
theorem dX7_bodyKind_11 : decode cX7_bodyKind 11 = .ok (.aload_n 0, 1) := zo_42 zh_cX7_bodyKind_0 11 rfl
theorem dX7_bodyKind_12 : decode cX7_bodyKind 12 = .ok (.getfield 44, 3) := zo_180 zh_cX7_bodyKind_0 12 rfl
theorem dX7_bodyKind_15 : decode cX7_bodyKind 15 = .ok (.ireturn, 1) := zo_172 zh_cX7_bodyKind_0 15 rfl
abbrev z_X7_bodyKind : List Cond := .code yX7_bodyKind cX7_bodyKind 1 (some .int) :: zW
abbrev wl_X7_bodyKind (ad : Nat → Nat) (cs : Nat → ClassId) (h_su : Nat) (h_su_asked : Nat) (su_who : Int32) (su_against : Int32) (su_kind : Int32) (su_won : Int32) (su_day : Int32) (su_land : Int32) (su_undoneFrom : Int32) (su_askedCount : Int32) (su_askedBits : Int32) (su_first : Int32) (su_foundSo : Int32) (su_foundNot : Int32) (su_fought : Int32) (su_needed : Int32) : va_W := [(h_su, .inr (7, [.int su_who, .int su_against, .int su_kind, .int su_won, .int su_day, .int su_land, .int su_undoneFrom, .ref h_su_asked, .int su_askedCount, .int su_askedBits, .int su_first, .int su_foundSo, .int su_foundNot, .int su_fought, .int su_needed]))]
def Q_X7_bodyKind (D : va_G) (cs : Nat → ClassId) (ad : Nat → Nat) (h_su : Nat) (h_su_asked : Nat) (su_who : Int32) (su_against : Int32) (su_kind : Int32) (su_won : Int32) (su_day : Int32) (su_land : Int32) (su_undoneFrom : Int32) (su_askedCount : Int32) (su_askedBits : Int32) (su_first : Int32) (su_foundSo : Int32) (su_foundNot : Int32) (su_fought : Int32) (su_needed : Int32) (A : Nat → Prop) (R : Int32 × Unit) : Array Value → State → Outcome → State → Prop :=
  va_Qi (fun (r : Int32) (u : Unit) => (r, u) = R) (fun (u : Unit) (t : State) => va_P D classes (wl_X7_bodyKind ad cs h_su h_su_asked su_who su_against su_kind su_won su_day su_land su_undoneFrom su_askedCount su_askedBits su_first su_foundSo su_foundNot su_fought su_needed) t.heap ∧ va_D A (wl_X7_bodyKind ad cs h_su h_su_asked su_who su_against su_kind su_won su_day su_land su_undoneFrom su_askedCount su_askedBits su_first su_foundSo su_foundNot su_fought su_needed)) A
abbrev rm_X7_bodyKind : Room := { frames := 0, cells := 0, slots := 0, locals := 0 }
def B_X7_bodyKind_0    (su_who : Int32) (su_against : Int32) (su_kind : Int32) (su_won : Int32) (su_day : Int32) (su_land : Int32) (su_undoneFrom : Int32) (su_askedCount : Int32) (su_askedBits : Int32) (su_first : Int32) (su_foundSo : Int32) (su_foundNot : Int32) (su_fought : Int32) (su_needed : Int32)  : Option (Int32 × Unit) :=
  (if su_undoneFrom < 0 then (some (su_kind, ())) else (some ((5 : Int32), ())))
def f_X7_bodyKind    (su_who : Int32) (su_against : Int32) (su_kind : Int32) (su_won : Int32) (su_day : Int32) (su_land : Int32) (su_undoneFrom : Int32) (su_askedCount : Int32) (su_askedBits : Int32) (su_first : Int32) (su_foundSo : Int32) (su_foundNot : Int32) (su_fought : Int32) (su_needed : Int32) : Option (Int32 × Unit) := B_X7_bodyKind_0   su_who su_against su_kind su_won su_day su_land su_undoneFrom su_askedCount su_askedBits su_first su_foundSo su_foundNot su_fought su_needed  
set_option maxHeartbeats 4000000 in
set_option maxRecDepth 100000 in
theorem L_X7_bodyKind_0 {p : Program} {l : Launch} {e : Env} {s : State} {m : MethodId} {args : Array Value} {below : List Frame} {meth : Method} {c : Code} {A : Nat → Prop} {D : va_G} {cs : Nat → ClassId} {ad : Nat → Nat} {h_su : Nat} {h_su_asked : Nat} {su_who : Int32} {su_against : Int32} {su_kind : Int32} {su_won : Int32} {su_day : Int32} {su_land : Int32} {su_undoneFrom : Int32} {su_askedCount : Int32} {su_askedBits : Int32} {su_first : Int32} {su_foundSo : Int32} {su_foundNot : Int32} {su_fought : Int32} {su_needed : Int32} {R : Int32 × Unit} (C0 : zC p s m args meth c cX7_bodyKind 1 (some .int) RX7 zW) (hK : va_K D classes (zT cs) s) (hA : ∀ q : Nat, s.heap.size ≤ q → A q)  (h : B_X7_bodyKind_0 su_who su_against su_kind su_won su_day su_land su_undoneFrom su_askedCount su_askedBits su_first su_foundSo su_foundNot su_fought su_needed = some R) (H : Heap) (locs : List Loc) (ls : Array Slot) (hP : va_P D classes (wl_X7_bodyKind ad cs h_su h_su_asked su_who su_against su_kind su_won su_day su_land su_undoneFrom su_askedCount su_askedBits su_first su_foundSo su_foundNot su_fought su_needed) H) (hD : va_D A (wl_X7_bodyKind ad cs h_su h_su_asked su_who su_against su_kind su_won su_day su_land su_undoneFrom su_askedCount su_askedBits su_first su_foundSo su_foundNot su_fought su_needed)) (hS : va_S A s.heap H locs) (hl : lv_has ls 1 [(0, .ref h_su)]) : W p l e rm_X7_bodyKind s m args below meth c H locs 0 0 (MQ below (Q_X7_bodyKind D cs ad h_su h_su_asked su_who su_against su_kind su_won su_day su_land su_undoneFrom su_askedCount su_askedBits su_first su_foundSo su_foundNot su_fought su_needed A R) args s 0 0 A) (F0 m 0 ls []) := by
  obtain ⟨hx, hb, hr, hml, hown, ht, hlocks⟩ := id C0
  refine lv_aload_n hx hb dX7_bodyKind_0 rfl (lv_at hl 0 rfl) ?_
  refine va_get (D := D) (ci := 7) (v := .int su_undoneFrom) (C := RX7) (T := TX7) (N := 15) hx hb ht iX7 hown hK hP 0 rfl rfl 6 (by decide) (ht _ kw_330) (fun _ h9 => h9) rfl dX7_bodyKind_1 ?_
  refine lv_if_lt (tgt := 11) hx hb dX7_bodyKind_4 (by decide) (fun c_1 => ?_) (fun c_1 => ?_)
  · have h := zk_t c_1 h
    refine lv_aload_n hx hb dX7_bodyKind_11 rfl (lv_at hl 0 rfl) ?_
    refine va_get (D := D) (ci := 7) (v := .int su_kind) (C := RX7) (T := TX7) (N := 15) hx hb ht iX7 hown hK hP 0 rfl rfl 2 (by decide) (ht _ kw_313) (fun _ h9 => h9) rfl dX7_bodyKind_12 ?_
    exact W.iret (v := su_kind) hx hb hr (fun t ht2 hW => ⟨⟨su_kind, (), rfl, Option.some.inj h, by rw [ht2]; exact hP, hD⟩, hS.F ht2⟩) hS.2.2 dX7_bodyKind_15 hlocks
  · have h := zk_f c_1 h
    refine lv_iconst (v := (5 : Int32)) hx hb dX7_bodyKind_7 (by decide) ?_
    refine lv_goto (tgt := 15) hx hb dX7_bodyKind_8 (by decide) ?_
    exact W.iret (v := (5 : Int32)) hx hb hr (fun t ht2 hW => ⟨⟨(5 : Int32), (), rfl, Option.some.inj h, by rw [ht2]; exact hP, hD⟩, hS.F ht2⟩) hS.2.2 dX7_bodyKind_15 hlocks
set_option maxHeartbeats 4000000 in
set_option maxRecDepth 100000 in
theorem c_X7_bodyKind (l : Launch) (D : va_G) (cs : Nat → ClassId) (ad : Nat → Nat) (h_su : Nat) (h_su_asked : Nat) (sz : Nat)  (su_who : Int32) (su_against : Int32) (su_kind : Int32) (su_won : Int32) (su_day : Int32) (su_land : Int32) (su_undoneFrom : Int32) (su_askedCount : Int32) (su_askedBits : Int32) (su_first : Int32) (su_foundSo : Int32) (su_foundNot : Int32) (su_fought : Int32) (su_needed : Int32) (R : Int32 × Unit) (h : f_X7_bodyKind    su_who su_against su_kind su_won su_day su_land su_undoneFrom su_askedCount su_askedBits su_first su_foundSo su_foundNot su_fought su_needed = some R) : Met l yX7_bodyKind (z_X7_bodyKind) rm_X7_bodyKind (va_Pc [.ref h_su] (zPre D cs (wl_X7_bodyKind ad cs h_su h_su_asked su_who su_against su_kind su_won su_day su_land su_undoneFrom su_askedCount su_askedBits su_first su_foundSo su_foundNot su_fought su_needed) sz)) (Q_X7_bodyKind D cs ad h_su h_su_asked su_who su_against su_kind su_won su_day su_land su_undoneFrom su_askedCount su_askedBits su_first su_foundSo su_foundNot su_fought su_needed (va_A (wl_X7_bodyKind ad cs h_su h_su_asked su_who su_against su_kind su_won su_day su_land su_undoneFrom su_askedCount su_askedBits su_first su_foundSo su_foundNot su_fought su_needed) sz) R) 0 0 (va_A (wl_X7_bodyKind ad cs h_su h_su_asked su_who su_against su_kind su_won su_day su_land su_undoneFrom su_askedCount su_askedBits su_first su_foundSo su_foundNot su_fought su_needed) sz) := by
  refine Met.ofW (cc := cX7_bodyKind) (maxL := 1) (ret := (some .int)) (by decide) rfl ?_
  intro p e s m args below meth c s₁ B hml hv
  obtain ⟨rfl, hsz, hP, hK, hD0⟩ := hv
  subst hsz
  have hD := hD0.self (sz := s.heap.size)
  have C0 : zC p s m _ meth c cX7_bodyKind 1 (some .int) RX7 zW := ⟨B.exec, B.bytes, B.returns, hml, findClass_of_methodNamed B.named, fun w hw => atoms_spec (ws := z_X7_bodyKind) B.pre w (List.mem_cons_of_mem _ hw), B.notSynchronized⟩
  have hA : ∀ q : Nat, s.heap.size ≤ q → va_A (wl_X7_bodyKind ad cs h_su h_su_asked su_who su_against su_kind su_won su_day su_land su_undoneFrom su_askedCount su_askedBits su_first su_foundSo su_foundNot su_fought su_needed) s.heap.size q := fun q h => Or.inr h
  have hl := lv_entry ([.ref h_su]) (n := 1) (Nat.le_of_ble_eq_true rfl)
  rw [lg_entry_eq]
  generalize (lg_sl ([.ref h_su]) ++ List.replicate (1 - (lg_sl ([.ref h_su])).length) Slot.unset).toArray = ls at hl ⊢
  exact L_X7_bodyKind_0 C0 hK hA     h s.heap [] ls hP hD va_S.rf hl
theorem kw_96 : Cond.initialized RJ6 ∈ zW := zwC (i := 22) zc_1 rfl rfl
theorem kw_305 : Cond.fieldLink RX7 47 "AlreadyJudged$Suit" "who" "I" ∈ zW := zwC (i := 231) zc_1 rfl rfl
theorem kw_309 : Cond.fieldLink RX7 50 "AlreadyJudged$Suit" "against" "I" ∈ zW := zwC (i := 235) zc_1 rfl rfl
theorem kw_318 : Cond.fieldLink RX7 57 "AlreadyJudged$Suit" "won" "I" ∈ zW := zwC (i := 4) zc_2 rfl rfl
theorem kw_323 : Cond.fieldLink RX7 60 "AlreadyJudged$Suit" "day" "I" ∈ zW := zwC (i := 9) zc_2 rfl rfl
theorem kw_328 : Cond.fieldLink RX7 63 "AlreadyJudged$Suit" "land" "I" ∈ zW := zwC (i := 14) zc_2 rfl rfl
theorem kw_952 : Cond.methodLink RX7 53 yX7_bodyKind ∈ zW := zwC (i := 158) zc_4 rfl rfl
theorem kw_953 : Cond.instanceMethod yX7_bodyKind ∈ zW := zwC (i := 159) zc_4 rfl rfl
theorem kw_954 : Cond.selects RX7 yX7_bodyKind yX7_bodyKind ∈ zW := zwC (i := 160) zc_4 rfl rfl
theorem kw_955 : Cond.code yX7_bodyKind cX7_bodyKind 1 (some .int) ∈ zW := zwC (i := 161) zc_4 rfl rfl
theorem kw_956 : Cond.methodLink RX7 66 yJ6_bitCount_0f7a4 ∈ zW := zwC (i := 162) zc_4 rfl rfl
theorem kw_957 : Cond.static yJ6_bitCount_0f7a4 ∈ zW := zwC (i := 163) zc_4 rfl rfl
theorem kw_958 : Cond.code yJ6_bitCount_0f7a4 cJ6_bitCount_0f7a4 1 (some .int) ∈ zW := zwC (i := 164) zc_4 rfl rfl
theorem zh_cX7_detail_0 : zck [27, 170, 0, 0, 0, 0, 0, 104, 0, 0, 0, 0, 0, 0, 0, 8, 0, 0, 0, 51, 0, 0] (zdu 0 cX7_detail.data.toList) = true := by decide +kernel
theorem dX7_detail_0 : decode cX7_detail 0 = .ok (.iload_n 1, 1) := zo_27 zh_cX7_detail_0 0 rfl
theorem dX7_detail_1 : decode cX7_detail 1 = .ok (.tableswitch 104 0 8 #[51, 56, 61, 66, 71, 76, 81, 86, 91], 51) := by decide +kernel
theorem zh_cX7_detail_2 : zck [0, 0, 0, 81, 0, 0, 0, 86, 0, 0, 0, 91, 42, 180, 0, 47, 172, 42, 180, 0, 50, 172] (zdu 40 cX7_detail.data.toList) = true := by decide +kernel
theorem dX7_detail_52 : decode cX7_detail 52 = .ok (.aload_n 0, 1) := zo_42 zh_cX7_detail_2 12 rfl
theorem dX7_detail_53 : decode cX7_detail 53 = .ok (.getfield 47, 3) := zo_180 zh_cX7_detail_2 13 rfl
theorem dX7_detail_56 : decode cX7_detail 56 = .ok (.ireturn, 1) := zo_172 zh_cX7_detail_2 16 rfl
theorem dX7_detail_57 : decode cX7_detail 57 = .ok (.aload_n 0, 1) := zo_42 zh_cX7_detail_2 17 rfl
theorem dX7_detail_58 : decode cX7_detail 58 = .ok (.getfield 50, 3) := zo_180 zh_cX7_detail_2 18 rfl
theorem zh_cX7_detail_3 : zck [50, 172, 42, 182, 0, 53, 172, 42, 180, 0, 57, 172, 42, 180, 0, 60, 172, 42, 180, 0, 63, 172] (zdu 60 cX7_detail.data.toList) = true := by decide +kernel
theorem dX7_detail_61 : decode cX7_detail 61 = .ok (.ireturn, 1) := zo_172 zh_cX7_detail_3 1 rfl
theorem dX7_detail_62 : decode cX7_detail 62 = .ok (.aload_n 0, 1) := zo_42 zh_cX7_detail_3 2 rfl
theorem dX7_detail_63 : decode cX7_detail 63 = .ok (.invokevirtual 53, 3) := zo_182 zh_cX7_detail_3 3 rfl
theorem dX7_detail_66 : decode cX7_detail 66 = .ok (.ireturn, 1) := zo_172 zh_cX7_detail_3 6 rfl
theorem dX7_detail_67 : decode cX7_detail 67 = .ok (.aload_n 0, 1) := zo_42 zh_cX7_detail_3 7 rfl
theorem dX7_detail_68 : decode cX7_detail 68 = .ok (.getfield 57, 3) := zo_180 zh_cX7_detail_3 8 rfl
theorem dX7_detail_71 : decode cX7_detail 71 = .ok (.ireturn, 1) := zo_172 zh_cX7_detail_3 11 rfl
theorem dX7_detail_72 : decode cX7_detail 72 = .ok (.aload_n 0, 1) := zo_42 zh_cX7_detail_3 12 rfl
theorem dX7_detail_73 : decode cX7_detail 73 = .ok (.getfield 60, 3) := zo_180 zh_cX7_detail_3 13 rfl
theorem dX7_detail_76 : decode cX7_detail 76 = .ok (.ireturn, 1) := zo_172 zh_cX7_detail_3 16 rfl
theorem dX7_detail_77 : decode cX7_detail 77 = .ok (.aload_n 0, 1) := zo_42 zh_cX7_detail_3 17 rfl
theorem dX7_detail_78 : decode cX7_detail 78 = .ok (.getfield 63, 3) := zo_180 zh_cX7_detail_3 18 rfl
theorem zh_cX7_detail_4 : zck [63, 172, 42, 180, 0, 9, 172, 42, 180, 0, 19, 172, 42, 180, 0, 28, 42, 180, 0, 31, 128, 184] (zdu 80 cX7_detail.data.toList) = true := by decide +kernel
theorem dX7_detail_81 : decode cX7_detail 81 = .ok (.ireturn, 1) := zo_172 zh_cX7_detail_4 1 rfl
theorem dX7_detail_82 : decode cX7_detail 82 = .ok (.aload_n 0, 1) := zo_42 zh_cX7_detail_4 2 rfl
theorem dX7_detail_83 : decode cX7_detail 83 = .ok (.getfield 9, 3) := zo_180 zh_cX7_detail_4 3 rfl
theorem dX7_detail_86 : decode cX7_detail 86 = .ok (.ireturn, 1) := zo_172 zh_cX7_detail_4 6 rfl
theorem dX7_detail_87 : decode cX7_detail 87 = .ok (.aload_n 0, 1) := zo_42 zh_cX7_detail_4 7 rfl
theorem dX7_detail_88 : decode cX7_detail 88 = .ok (.getfield 19, 3) := zo_180 zh_cX7_detail_4 8 rfl
theorem dX7_detail_91 : decode cX7_detail 91 = .ok (.ireturn, 1) := zo_172 zh_cX7_detail_4 11 rfl
theorem dX7_detail_92 : decode cX7_detail 92 = .ok (.aload_n 0, 1) := zo_42 zh_cX7_detail_4 12 rfl
theorem dX7_detail_93 : decode cX7_detail 93 = .ok (.getfield 28, 3) := zo_180 zh_cX7_detail_4 13 rfl
theorem dX7_detail_96 : decode cX7_detail 96 = .ok (.aload_n 0, 1) := zo_42 zh_cX7_detail_4 16 rfl
theorem dX7_detail_97 : decode cX7_detail 97 = .ok (.getfield 31, 3) := zo_180 zh_cX7_detail_4 17 rfl
theorem zh_cX7_detail_5 : zck [128, 184, 0, 66, 172, 2, 172] (zdu 100 cX7_detail.data.toList) = true := by decide +kernel
theorem dX7_detail_100 : decode cX7_detail 100 = .ok (.ior, 1) := zo_128 zh_cX7_detail_5 0 rfl
theorem dX7_detail_101 : decode cX7_detail 101 = .ok (.invokestatic 66, 3) := zo_184 zh_cX7_detail_5 1 rfl
theorem dX7_detail_104 : decode cX7_detail 104 = .ok (.ireturn, 1) := zo_172 zh_cX7_detail_5 4 rfl
theorem dX7_detail_105 : decode cX7_detail 105 = .ok (.iconst (-1), 1) := zo_2 zh_cX7_detail_5 5 rfl
theorem dX7_detail_106 : decode cX7_detail 106 = .ok (.ireturn, 1) := zo_172 zh_cX7_detail_5 6 rfl
abbrev z_X7_detail : List Cond := .code yX7_detail cX7_detail 2 (some .int) :: zW
abbrev wl_X7_detail (ad : Nat → Nat) (cs : Nat → ClassId) (h_su : Nat) (h_su_asked : Nat) (su_who : Int32) (su_against : Int32) (su_kind : Int32) (su_won : Int32) (su_day : Int32) (su_land : Int32) (su_undoneFrom : Int32) (su_askedCount : Int32) (su_askedBits : Int32) (su_first : Int32) (su_foundSo : Int32) (su_foundNot : Int32) (su_fought : Int32) (su_needed : Int32) : va_W := [(h_su, .inr (7, [.int su_who, .int su_against, .int su_kind, .int su_won, .int su_day, .int su_land, .int su_undoneFrom, .ref h_su_asked, .int su_askedCount, .int su_askedBits, .int su_first, .int su_foundSo, .int su_foundNot, .int su_fought, .int su_needed]))]
def Q_X7_detail (D : va_G) (cs : Nat → ClassId) (ad : Nat → Nat) (h_su : Nat) (h_su_asked : Nat) (su_who : Int32) (su_against : Int32) (su_kind : Int32) (su_won : Int32) (su_day : Int32) (su_land : Int32) (su_undoneFrom : Int32) (su_askedCount : Int32) (su_askedBits : Int32) (su_first : Int32) (su_foundSo : Int32) (su_foundNot : Int32) (su_fought : Int32) (su_needed : Int32) (A : Nat → Prop) (R : Int32 × Unit) : Array Value → State → Outcome → State → Prop :=
  va_Qi (fun (r : Int32) (u : Unit) => (r, u) = R) (fun (u : Unit) (t : State) => va_P D classes (wl_X7_detail ad cs h_su h_su_asked su_who su_against su_kind su_won su_day su_land su_undoneFrom su_askedCount su_askedBits su_first su_foundSo su_foundNot su_fought su_needed) t.heap ∧ va_D A (wl_X7_detail ad cs h_su h_su_asked su_who su_against su_kind su_won su_day su_land su_undoneFrom su_askedCount su_askedBits su_first su_foundSo su_foundNot su_fought su_needed)) A
abbrev rm_X7_detail : Room := { frames := 1, cells := 0, slots := 0, locals := 20 }
theorem g_X7_53 : GoodIn zW (wsV RX7 53 RX7 yX7_bodyKind z_X7_bodyKind) := zGV kw_952 kw_953 kw_954 kw_82 kw_955
theorem g_X7_66 : GoodIn zW (va_wsS RX7 66 yJ6_bitCount_0f7a4 z_J6_bitCount_0f7a4) := zGS kw_956 kw_957 kw_96 kw_958
theorem hd_J6_bitCount_0f7a4 : yJ6_bitCount_0f7a4.cls ≠ "java/lang/invoke/MethodHandle" ∧ yJ6_bitCount_0f7a4.cls ≠ "java/lang/invoke/VarHandle" ∧ (parseMethodDescriptor yJ6_bitCount_0f7a4.desc).map (fun d => d.parameters.length) = some 1 := by decide +kernel
theorem hd_X7_bodyKind : yX7_bodyKind.cls ≠ "java/lang/invoke/MethodHandle" ∧ yX7_bodyKind.cls ≠ "java/lang/invoke/VarHandle" ∧ (parseMethodDescriptor yX7_bodyKind.desc).map (fun d => d.parameters.length) = some 0 := by decide +kernel
def B_X7_detail_0    (su_who : Int32) (su_against : Int32) (su_kind : Int32) (su_won : Int32) (su_day : Int32) (su_land : Int32) (su_undoneFrom : Int32) (su_askedCount : Int32) (su_askedBits : Int32) (su_first : Int32) (su_foundSo : Int32) (su_foundNot : Int32) (su_fought : Int32) (su_needed : Int32) (x1 : Int32) : Option (Int32 × Unit) :=
  (if x1 = (0 : Int32) then (some (su_who, ())) else (if x1 = (1 : Int32) then (some (su_against, ())) else (if x1 = (2 : Int32) then (zk_b2 (f_X7_bodyKind su_who su_against su_kind su_won su_day su_land su_undoneFrom su_askedCount su_askedBits su_first su_foundSo su_foundNot su_fought su_needed) (fun r_1 u_2 => (some (r_1, ())))) else (if x1 = (3 : Int32) then (some (su_won, ())) else (if x1 = (4 : Int32) then (some (su_day, ())) else (if x1 = (5 : Int32) then (some (su_land, ())) else (if x1 = (6 : Int32) then (some (su_undoneFrom, ())) else (if x1 = (7 : Int32) then (some (su_askedCount, ())) else (if x1 = (8 : Int32) then (zk_b2 (f_J6_bitCount_0f7a4 (su_foundSo ||| su_foundNot)) (fun r_4 u_5 => (some (r_4, ())))) else (some ((-1 : Int32), ())))))))))))
def f_X7_detail   (x1 : Int32) (su_who : Int32) (su_against : Int32) (su_kind : Int32) (su_won : Int32) (su_day : Int32) (su_land : Int32) (su_undoneFrom : Int32) (su_askedCount : Int32) (su_askedBits : Int32) (su_first : Int32) (su_foundSo : Int32) (su_foundNot : Int32) (su_fought : Int32) (su_needed : Int32) : Option (Int32 × Unit) := B_X7_detail_0   su_who su_against su_kind su_won su_day su_land su_undoneFrom su_askedCount su_askedBits su_first su_foundSo su_foundNot su_fought su_needed x1 
set_option maxHeartbeats 4000000 in
set_option maxRecDepth 100000 in
theorem L_X7_detail_0 {p : Program} {l : Launch} {e : Env} {s : State} {m : MethodId} {args : Array Value} {below : List Frame} {meth : Method} {c : Code} {A : Nat → Prop} {D : va_G} {cs : Nat → ClassId} {ad : Nat → Nat} {h_su : Nat} {h_su_asked : Nat} {su_who : Int32} {su_against : Int32} {su_kind : Int32} {su_won : Int32} {su_day : Int32} {su_land : Int32} {su_undoneFrom : Int32} {su_askedCount : Int32} {su_askedBits : Int32} {su_first : Int32} {su_foundSo : Int32} {su_foundNot : Int32} {su_fought : Int32} {su_needed : Int32} {R : Int32 × Unit} (C0 : zC p s m args meth c cX7_detail 2 (some .int) RX7 zW) (hK : va_K D classes (zT cs) s) (hA : ∀ q : Nat, s.heap.size ≤ q → A q) (x1 : Int32) (h : B_X7_detail_0 su_who su_against su_kind su_won su_day su_land su_undoneFrom su_askedCount su_askedBits su_first su_foundSo su_foundNot su_fought su_needed x1 = some R) (H : Heap) (locs : List Loc) (ls : Array Slot) (hP : va_P D classes (wl_X7_detail ad cs h_su h_su_asked su_who su_against su_kind su_won su_day su_land su_undoneFrom su_askedCount su_askedBits su_first su_foundSo su_foundNot su_fought su_needed) H) (hD : va_D A (wl_X7_detail ad cs h_su h_su_asked su_who su_against su_kind su_won su_day su_land su_undoneFrom su_askedCount su_askedBits su_first su_foundSo su_foundNot su_fought su_needed)) (hS : va_S A s.heap H locs) (hl : lv_has ls 2 [(0, .ref h_su), (1, .int x1)]) : W p l e rm_X7_detail s m args below meth c H locs 0 0 (MQ below (Q_X7_detail D cs ad h_su h_su_asked su_who su_against su_kind su_won su_day su_land su_undoneFrom su_askedCount su_askedBits su_first su_foundSo su_foundNot su_fought su_needed A R) args s 0 0 A) (F0 m 0 ls []) := by
  obtain ⟨hx, hb, hr, hml, hown, ht, hlocks⟩ := id C0
  refine lv_iload_n hx hb dX7_detail_0 rfl (lv_at hl 1 rfl) ?_
  by_cases c_7 : x1 = (0 : Int32)
  · have h := zk_t c_7 h
    refine lv_tableIn (tgt := 52) hx hb dX7_detail_1 (by rw [c_7]; decide) (by rw [c_7]; decide) (by rw [c_7]; rfl) (by decide) ?_
    refine lv_aload_n hx hb dX7_detail_52 rfl (lv_at hl 0 rfl) ?_
    refine va_get (D := D) (ci := 7) (v := .int su_who) (C := RX7) (T := TX7) (N := 15) hx hb ht iX7 hown hK hP 0 rfl rfl 0 (by decide) (ht _ kw_305) (fun _ h9 => h9) rfl dX7_detail_53 ?_
    exact W.iret (v := su_who) hx hb hr (fun t ht2 hW => ⟨⟨su_who, (), rfl, Option.some.inj h, by rw [ht2]; exact hP, hD⟩, hS.F ht2⟩) hS.2.2 dX7_detail_56 hlocks
  · have h := zk_f c_7 h
    by_cases c_8 : x1 = (1 : Int32)
    · have h := zk_t c_8 h
      refine lv_tableIn (tgt := 57) hx hb dX7_detail_1 (by rw [c_8]; decide) (by rw [c_8]; decide) (by rw [c_8]; rfl) (by decide) ?_
      refine lv_aload_n hx hb dX7_detail_57 rfl (lv_at hl 0 rfl) ?_
      refine va_get (D := D) (ci := 7) (v := .int su_against) (C := RX7) (T := TX7) (N := 15) hx hb ht iX7 hown hK hP 0 rfl rfl 1 (by decide) (ht _ kw_309) (fun _ h9 => h9) rfl dX7_detail_58 ?_
      exact W.iret (v := su_against) hx hb hr (fun t ht2 hW => ⟨⟨su_against, (), rfl, Option.some.inj h, by rw [ht2]; exact hP, hD⟩, hS.F ht2⟩) hS.2.2 dX7_detail_61 hlocks
    · have h := zk_f c_8 h
      by_cases c_9 : x1 = (2 : Int32)
      · have h := zk_t c_9 h
        refine lv_tableIn (tgt := 62) hx hb dX7_detail_1 (by rw [c_9]; decide) (by rw [c_9]; decide) (by rw [c_9]; rfl) (by decide) ?_
        refine lv_aload_n hx hb dX7_detail_62 rfl (lv_at hl 0 rfl) ?_
        obtain ⟨r_1, u_2, hc_3, h⟩ := zk_o2 h
        refine zz_vi (post := (fun r u => (r, u) = (r_1, u_2))) (w1 := fun u => (wl_X7_bodyKind ad cs h_su h_su_asked su_who su_against su_kind su_won su_day su_land su_undoneFrom su_askedCount su_askedBits su_first su_foundSo su_foundNot su_fought su_needed)) (As := []) (rest := []) (c_X7_bodyKind l D cs ad h_su h_su_asked H.size su_who su_against su_kind su_won su_day su_land su_undoneFrom su_askedCount su_askedBits su_first su_foundSo su_foundNot su_fought su_needed (r_1, u_2) hc_3) ⟨hx, hb, hml, hown, ht⟩ (cwV 0 ht g_X7_53 rfl rfl rfl ⟨rfl, hd_X7_bodyKind⟩ ⟨Nat.le_of_ble_eq_true rfl, Nat.le_of_ble_eq_true rfl⟩) (va_recv hK hP (ci := 7) (q0 := 0) rfl rfl) hP hD hS hK hA [0] rfl rfl [h_su] rfl (fun _ => rfl) rfl hl.1 (Nat.le_of_ble_eq_true rfl) dX7_detail_63 ⟨Nat.zero_le _, Nat.zero_le _⟩ (fun r u H locs hq hP hS => ?_)
        cases hq
        have hP : va_P D classes (wl_X7_detail ad cs h_su h_su_asked su_who su_against su_kind su_won su_day su_land su_undoneFrom su_askedCount su_askedBits su_first su_foundSo su_foundNot su_fought su_needed) H := hP
        have hD : va_D A (wl_X7_detail ad cs h_su h_su_asked su_who su_against su_kind su_won su_day su_land su_undoneFrom su_askedCount su_askedBits su_first su_foundSo su_foundNot su_fought su_needed) := zDk hD [h_su] rfl rfl
        exact W.iret (v := r_1) hx hb hr (fun t ht2 hW => ⟨⟨r_1, (), rfl, Option.some.inj h, by rw [ht2]; exact hP, hD⟩, hS.F ht2⟩) hS.2.2 dX7_detail_66 hlocks
      · have h := zk_f c_9 h
        by_cases c_10 : x1 = (3 : Int32)
        · have h := zk_t c_10 h
          refine lv_tableIn (tgt := 67) hx hb dX7_detail_1 (by rw [c_10]; decide) (by rw [c_10]; decide) (by rw [c_10]; rfl) (by decide) ?_
          refine lv_aload_n hx hb dX7_detail_67 rfl (lv_at hl 0 rfl) ?_
          refine va_get (D := D) (ci := 7) (v := .int su_won) (C := RX7) (T := TX7) (N := 15) hx hb ht iX7 hown hK hP 0 rfl rfl 3 (by decide) (ht _ kw_318) (fun _ h9 => h9) rfl dX7_detail_68 ?_
          exact W.iret (v := su_won) hx hb hr (fun t ht2 hW => ⟨⟨su_won, (), rfl, Option.some.inj h, by rw [ht2]; exact hP, hD⟩, hS.F ht2⟩) hS.2.2 dX7_detail_71 hlocks
        · have h := zk_f c_10 h
          by_cases c_11 : x1 = (4 : Int32)
          · have h := zk_t c_11 h
            refine lv_tableIn (tgt := 72) hx hb dX7_detail_1 (by rw [c_11]; decide) (by rw [c_11]; decide) (by rw [c_11]; rfl) (by decide) ?_
            refine lv_aload_n hx hb dX7_detail_72 rfl (lv_at hl 0 rfl) ?_
            refine va_get (D := D) (ci := 7) (v := .int su_day) (C := RX7) (T := TX7) (N := 15) hx hb ht iX7 hown hK hP 0 rfl rfl 4 (by decide) (ht _ kw_323) (fun _ h9 => h9) rfl dX7_detail_73 ?_
            exact W.iret (v := su_day) hx hb hr (fun t ht2 hW => ⟨⟨su_day, (), rfl, Option.some.inj h, by rw [ht2]; exact hP, hD⟩, hS.F ht2⟩) hS.2.2 dX7_detail_76 hlocks
          · have h := zk_f c_11 h
            by_cases c_12 : x1 = (5 : Int32)
            · have h := zk_t c_12 h
              refine lv_tableIn (tgt := 77) hx hb dX7_detail_1 (by rw [c_12]; decide) (by rw [c_12]; decide) (by rw [c_12]; rfl) (by decide) ?_
              refine lv_aload_n hx hb dX7_detail_77 rfl (lv_at hl 0 rfl) ?_
              refine va_get (D := D) (ci := 7) (v := .int su_land) (C := RX7) (T := TX7) (N := 15) hx hb ht iX7 hown hK hP 0 rfl rfl 5 (by decide) (ht _ kw_328) (fun _ h9 => h9) rfl dX7_detail_78 ?_
              exact W.iret (v := su_land) hx hb hr (fun t ht2 hW => ⟨⟨su_land, (), rfl, Option.some.inj h, by rw [ht2]; exact hP, hD⟩, hS.F ht2⟩) hS.2.2 dX7_detail_81 hlocks
            · have h := zk_f c_12 h
              by_cases c_13 : x1 = (6 : Int32)
              · have h := zk_t c_13 h
                refine lv_tableIn (tgt := 82) hx hb dX7_detail_1 (by rw [c_13]; decide) (by rw [c_13]; decide) (by rw [c_13]; rfl) (by decide) ?_
                refine lv_aload_n hx hb dX7_detail_82 rfl (lv_at hl 0 rfl) ?_
                refine va_get (D := D) (ci := 7) (v := .int su_undoneFrom) (C := RX7) (T := TX7) (N := 15) hx hb ht iX7 hown hK hP 0 rfl rfl 6 (by decide) (ht _ kw_330) (fun _ h9 => h9) rfl dX7_detail_83 ?_
                exact W.iret (v := su_undoneFrom) hx hb hr (fun t ht2 hW => ⟨⟨su_undoneFrom, (), rfl, Option.some.inj h, by rw [ht2]; exact hP, hD⟩, hS.F ht2⟩) hS.2.2 dX7_detail_86 hlocks
              · have h := zk_f c_13 h
                by_cases c_14 : x1 = (7 : Int32)
                · have h := zk_t c_14 h
                  refine lv_tableIn (tgt := 87) hx hb dX7_detail_1 (by rw [c_14]; decide) (by rw [c_14]; decide) (by rw [c_14]; rfl) (by decide) ?_
                  refine lv_aload_n hx hb dX7_detail_87 rfl (lv_at hl 0 rfl) ?_
                  refine va_get (D := D) (ci := 7) (v := .int su_askedCount) (C := RX7) (T := TX7) (N := 15) hx hb ht iX7 hown hK hP 0 rfl rfl 8 (by decide) (ht _ kw_337) (fun _ h9 => h9) rfl dX7_detail_88 ?_
                  exact W.iret (v := su_askedCount) hx hb hr (fun t ht2 hW => ⟨⟨su_askedCount, (), rfl, Option.some.inj h, by rw [ht2]; exact hP, hD⟩, hS.F ht2⟩) hS.2.2 dX7_detail_91 hlocks
                · have h := zk_f c_14 h
                  by_cases c_15 : x1 = (8 : Int32)
                  · have h := zk_t c_15 h
                    refine lv_tableIn (tgt := 92) hx hb dX7_detail_1 (by rw [c_15]; decide) (by rw [c_15]; decide) (by rw [c_15]; rfl) (by decide) ?_
                    refine lv_aload_n hx hb dX7_detail_92 rfl (lv_at hl 0 rfl) ?_
                    refine va_get (D := D) (ci := 7) (v := .int su_foundSo) (C := RX7) (T := TX7) (N := 15) hx hb ht iX7 hown hK hP 0 rfl rfl 11 (by decide) (ht _ kw_346) (fun _ h9 => h9) rfl dX7_detail_93 ?_
                    refine lv_aload_n hx hb dX7_detail_96 rfl (lv_at hl 0 rfl) ?_
                    refine va_get (D := D) (ci := 7) (v := .int su_foundNot) (C := RX7) (T := TX7) (N := 15) hx hb ht iX7 hown hK hP 0 rfl rfl 12 (by decide) (ht _ kw_348) (fun _ h9 => h9) rfl dX7_detail_97 ?_
                    refine lv_ior hx hb dX7_detail_100 ?_
                    obtain ⟨r_4, u_5, hc_6, h⟩ := zk_o2 h
                    refine zz_si (post := (fun r u => (r, u) = (r_4, u_5))) (w1 := fun u => (wl_J6_bitCount_0f7a4 ad cs )) (As := [.int (su_foundSo ||| su_foundNot)]) (rest := []) (c_J6_bitCount_0f7a4 l D cs ad  H.size (su_foundSo ||| su_foundNot) (r_4, u_5) hc_6) ⟨hx, hb, hml, hown, ht⟩ (va_cwS 1 ht g_X7_66 rfl rfl rfl hd_J6_bitCount_0f7a4 ⟨Nat.le_of_ble_eq_true rfl, Nat.le_of_ble_eq_true rfl⟩) hP hD hS hK hA [] rfl rfl [] rfl (fun _ => rfl) rfl hl.1 (Nat.le_of_ble_eq_true rfl) dX7_detail_101 ⟨Nat.zero_le _, Nat.zero_le _⟩ (fun r u H locs hq hP hS => ?_)
                    cases hq
                    have hP : va_P D classes (wl_X7_detail ad cs h_su h_su_asked su_who su_against su_kind su_won su_day su_land su_undoneFrom su_askedCount su_askedBits su_first su_foundSo su_foundNot su_fought su_needed) H := hP
                    exact W.iret (v := r_4) hx hb hr (fun t ht2 hW => ⟨⟨r_4, (), rfl, Option.some.inj h, by rw [ht2]; exact hP, hD⟩, hS.F ht2⟩) hS.2.2 dX7_detail_104 hlocks
                  · have h := zk_f c_15 h
                    refine lv_tableOut (tgt := 105) hx hb dX7_detail_1 (zk_out (lo := 0) (hi := 8) [(0 : Int32), (1 : Int32), (2 : Int32), (3 : Int32), (4 : Int32), (5 : Int32), (6 : Int32), (7 : Int32), (8 : Int32)] (by decide +kernel) (List.forall_mem_cons.mpr ⟨c_7, List.forall_mem_cons.mpr ⟨c_8, List.forall_mem_cons.mpr ⟨c_9, List.forall_mem_cons.mpr ⟨c_10, List.forall_mem_cons.mpr ⟨c_11, List.forall_mem_cons.mpr ⟨c_12, List.forall_mem_cons.mpr ⟨c_13, List.forall_mem_cons.mpr ⟨c_14, List.forall_mem_cons.mpr ⟨c_15, fun _ h => absurd h List.not_mem_nil⟩⟩⟩⟩⟩⟩⟩⟩⟩)) (by decide) ?_
                    refine lv_iconst (v := (-1 : Int32)) hx hb dX7_detail_105 (by decide) ?_
                    exact W.iret (v := (-1 : Int32)) hx hb hr (fun t ht2 hW => ⟨⟨(-1 : Int32), (), rfl, Option.some.inj h, by rw [ht2]; exact hP, hD⟩, hS.F ht2⟩) hS.2.2 dX7_detail_106 hlocks
set_option maxHeartbeats 4000000 in
set_option maxRecDepth 100000 in
theorem c_X7_detail (l : Launch) (D : va_G) (cs : Nat → ClassId) (ad : Nat → Nat) (h_su : Nat) (h_su_asked : Nat) (sz : Nat) (x1 : Int32) (su_who : Int32) (su_against : Int32) (su_kind : Int32) (su_won : Int32) (su_day : Int32) (su_land : Int32) (su_undoneFrom : Int32) (su_askedCount : Int32) (su_askedBits : Int32) (su_first : Int32) (su_foundSo : Int32) (su_foundNot : Int32) (su_fought : Int32) (su_needed : Int32) (R : Int32 × Unit) (h : f_X7_detail   x1 su_who su_against su_kind su_won su_day su_land su_undoneFrom su_askedCount su_askedBits su_first su_foundSo su_foundNot su_fought su_needed = some R) : Met l yX7_detail (z_X7_detail) rm_X7_detail (va_Pc [.ref h_su, .int x1] (zPre D cs (wl_X7_detail ad cs h_su h_su_asked su_who su_against su_kind su_won su_day su_land su_undoneFrom su_askedCount su_askedBits su_first su_foundSo su_foundNot su_fought su_needed) sz)) (Q_X7_detail D cs ad h_su h_su_asked su_who su_against su_kind su_won su_day su_land su_undoneFrom su_askedCount su_askedBits su_first su_foundSo su_foundNot su_fought su_needed (va_A (wl_X7_detail ad cs h_su h_su_asked su_who su_against su_kind su_won su_day su_land su_undoneFrom su_askedCount su_askedBits su_first su_foundSo su_foundNot su_fought su_needed) sz) R) 0 0 (va_A (wl_X7_detail ad cs h_su h_su_asked su_who su_against su_kind su_won su_day su_land su_undoneFrom su_askedCount su_askedBits su_first su_foundSo su_foundNot su_fought su_needed) sz) := by
  refine Met.ofW (cc := cX7_detail) (maxL := 2) (ret := (some .int)) (by decide) rfl ?_
  intro p e s m args below meth c s₁ B hml hv
  obtain ⟨rfl, hsz, hP, hK, hD0⟩ := hv
  subst hsz
  have hD := hD0.self (sz := s.heap.size)
  have C0 : zC p s m _ meth c cX7_detail 2 (some .int) RX7 zW := ⟨B.exec, B.bytes, B.returns, hml, findClass_of_methodNamed B.named, fun w hw => atoms_spec (ws := z_X7_detail) B.pre w (List.mem_cons_of_mem _ hw), B.notSynchronized⟩
  have hA : ∀ q : Nat, s.heap.size ≤ q → va_A (wl_X7_detail ad cs h_su h_su_asked su_who su_against su_kind su_won su_day su_land su_undoneFrom su_askedCount su_askedBits su_first su_foundSo su_foundNot su_fought su_needed) s.heap.size q := fun q h => Or.inr h
  have hl := lv_entry ([.ref h_su, .int x1]) (n := 2) (Nat.le_of_ble_eq_true rfl)
  rw [lg_entry_eq]
  generalize (lg_sl ([.ref h_su, .int x1]) ++ List.replicate (2 - (lg_sl ([.ref h_su, .int x1])).length) Slot.unset).toArray = ls at hl ⊢
  exact L_X7_detail_0 C0 hK hA   x1  h s.heap [] ls hP hD va_S.rf hl
theorem kw_92 : Cond.initialized RJ7 ∈ zW := zwC (i := 18) zc_1 rfl rfl
theorem kw_680 : Cond.fieldLink RX6 11 "AlreadyJudged$Place" "holds" "I" ∈ zW := zwC (i := 126) zc_3 rfl rfl
theorem kw_683 : Cond.fieldLink RX6 19 "AlreadyJudged$Place" "size" "I" ∈ zW := zwC (i := 129) zc_3 rfl rfl
theorem kw_685 : Cond.fieldLink RX6 15 "AlreadyJudged$Place" "elements" "[J" ∈ zW := zwC (i := 131) zc_3 rfl rfl
theorem kw_808 : Cond.static yJ7_fill_d0a16 ∈ zW := zwC (i := 14) zc_4 rfl rfl
theorem kw_809 : Cond.code yJ7_fill_d0a16 cJ7_fill_d0a16 5 none ∈ zW := zwC (i := 15) zc_4 rfl rfl
theorem kw_1254 : Cond.methodLink RX6 22 yJ7_fill_d0a16 ∈ zW := zwC (i := 220) zc_5 rfl rfl
theorem zh_cX6_becomeRow_0 : zck [42, 27, 181, 0, 11, 42, 28, 181, 0, 19, 42, 180, 0, 15, 9, 184, 0, 22, 177] (zdu 0 cX6_becomeRow.data.toList) = true := by decide +kernel
theorem dX6_becomeRow_0 : decode cX6_becomeRow 0 = .ok (.aload_n 0, 1) := zo_42 zh_cX6_becomeRow_0 0 rfl
theorem dX6_becomeRow_1 : decode cX6_becomeRow 1 = .ok (.iload_n 1, 1) := zo_27 zh_cX6_becomeRow_0 1 rfl
theorem dX6_becomeRow_2 : decode cX6_becomeRow 2 = .ok (.putfield 11, 3) := zo_181 zh_cX6_becomeRow_0 2 rfl
theorem dX6_becomeRow_5 : decode cX6_becomeRow 5 = .ok (.aload_n 0, 1) := zo_42 zh_cX6_becomeRow_0 5 rfl
theorem dX6_becomeRow_6 : decode cX6_becomeRow 6 = .ok (.iload_n 2, 1) := zo_28 zh_cX6_becomeRow_0 6 rfl
theorem dX6_becomeRow_7 : decode cX6_becomeRow 7 = .ok (.putfield 19, 3) := zo_181 zh_cX6_becomeRow_0 7 rfl
theorem dX6_becomeRow_10 : decode cX6_becomeRow 10 = .ok (.aload_n 0, 1) := zo_42 zh_cX6_becomeRow_0 10 rfl
theorem dX6_becomeRow_11 : decode cX6_becomeRow 11 = .ok (.getfield 15, 3) := zo_180 zh_cX6_becomeRow_0 11 rfl
theorem dX6_becomeRow_14 : decode cX6_becomeRow 14 = .ok (.lconst 0, 1) := zo_9 zh_cX6_becomeRow_0 14 rfl
theorem dX6_becomeRow_15 : decode cX6_becomeRow 15 = .ok (.invokestatic 22, 3) := zo_184 zh_cX6_becomeRow_0 15 rfl
theorem dX6_becomeRow_18 : decode cX6_becomeRow 18 = .ok (.return_, 1) := zo_177 zh_cX6_becomeRow_0 18 rfl
abbrev z_X6_becomeRow : List Cond := .code yX6_becomeRow cX6_becomeRow 3 none :: zW
abbrev wl_X6_becomeRow (ad : Nat → Nat) (cs : Nat → ClassId) (h_pl : Nat) (h_pl_elements : Nat) (pl_holds : Int32) (pl_suit : Int32) (pl_size : Int32) (pl_elements : Nat → Int64) : va_W := [(h_pl, .inr (6, [.int pl_holds, .int pl_suit, .int pl_size, .ref h_pl_elements])), (h_pl_elements, .inl (cs 1, 60, .inr (.inl pl_elements)))]
def Q_X6_becomeRow (D : va_G) (cs : Nat → ClassId) (ad : Nat → Nat) (h_pl : Nat) (h_pl_elements : Nat) (pl_suit : Int32) (A : Nat → Prop) (R : Int32 × Int32 × (Nat → Int64)) : Array Value → State → Outcome → State → Prop :=
  va_Qv (fun u : Int32 × Int32 × (Nat → Int64) => u = R) (fun (u : Int32 × Int32 × (Nat → Int64)) (t : State) => va_P D classes (wl_X6_becomeRow ad cs h_pl h_pl_elements u.1 pl_suit u.2.1 u.2.2) t.heap ∧ va_D A (wl_X6_becomeRow ad cs h_pl h_pl_elements u.1 pl_suit u.2.1 u.2.2)) A
abbrev rm_X6_becomeRow : Room := { frames := 1, cells := 0, slots := 0, locals := 24 }
theorem g_X6_22 : GoodIn zW (va_wsS RX6 22 yJ7_fill_d0a16 z_J7_fill_d0a16) := zGS kw_1254 kw_808 kw_92 kw_809
theorem hd_J7_fill_d0a16 : yJ7_fill_d0a16.cls ≠ "java/lang/invoke/MethodHandle" ∧ yJ7_fill_d0a16.cls ≠ "java/lang/invoke/VarHandle" ∧ (parseMethodDescriptor yJ7_fill_d0a16.desc).map (fun d => d.parameters.length) = some 2 := by decide +kernel
def B_X6_becomeRow_0    (pl_suit : Int32) (x1 : Int32) (x2 : Int32) (pl_holds : Int32) (pl_size : Int32) (pl_elements : Nat → Int64) : Option (Int32 × Int32 × (Nat → Int64)) :=
  (zk_b1 (f_J7_fill_d0a16 100000 (0 : Int64) pl_elements 60) (fun u_1 => (some (x1, x2, u_1))))
def f_X6_becomeRow   (x1 : Int32) (x2 : Int32) (pl_holds : Int32) (pl_suit : Int32) (pl_size : Int32) (pl_elements : Nat → Int64) : Option (Int32 × Int32 × (Nat → Int64)) := B_X6_becomeRow_0   pl_suit x1 x2 pl_holds pl_size pl_elements
set_option maxHeartbeats 4000000 in
set_option maxRecDepth 100000 in
theorem L_X6_becomeRow_0 {p : Program} {l : Launch} {e : Env} {s : State} {m : MethodId} {args : Array Value} {below : List Frame} {meth : Method} {c : Code} {A : Nat → Prop} {D : va_G} {cs : Nat → ClassId} {ad : Nat → Nat} {h_pl : Nat} {h_pl_elements : Nat} {pl_suit : Int32} {R : Int32 × Int32 × (Nat → Int64)} (C0 : zC p s m args meth c cX6_becomeRow 3 none RX6 zW) (hK : va_K D classes (zT cs) s) (hA : ∀ q : Nat, s.heap.size ≤ q → A q) (x1 : Int32) (x2 : Int32) (pl_holds : Int32) (pl_size : Int32) (pl_elements : Nat → Int64) (h : B_X6_becomeRow_0 pl_suit x1 x2 pl_holds pl_size pl_elements = some R) (H : Heap) (locs : List Loc) (ls : Array Slot) (hP : va_P D classes (wl_X6_becomeRow ad cs h_pl h_pl_elements pl_holds pl_suit pl_size pl_elements) H) (hD : va_D A (wl_X6_becomeRow ad cs h_pl h_pl_elements pl_holds pl_suit pl_size pl_elements)) (hS : va_S A s.heap H locs) (hl : lv_has ls 3 [(0, .ref h_pl), (1, .int x1), (2, .int x2)]) : W p l e rm_X6_becomeRow s m args below meth c H locs 0 0 (MQ below (Q_X6_becomeRow D cs ad h_pl h_pl_elements pl_suit A R) args s 0 0 A) (F0 m 0 ls []) := by
  obtain ⟨hx, hb, hr, hml, hown, ht, hlocks⟩ := id C0
  refine lv_aload_n hx hb dX6_becomeRow_0 rfl (lv_at hl 0 rfl) ?_
  refine lv_iload_n hx hb dX6_becomeRow_1 rfl (lv_at hl 1 rfl) ?_
  refine va_put (D := D) (ci := 6) (v := .int x1) (ty := .int) (C := RX6) (T := TX6) (N := 4) hx hb ht iX6 tyX6 tyX6_ok nmX6 hown hK hP hD hS 0 rfl rfl 0 (by decide) (ht _ kw_680) (fun _ h9 => h9) rfl (by decide +kernel) rfl rfl (Nat.le_of_ble_eq_true rfl) dX6_becomeRow_2 (fun H locs hP hD hS => ?_)
  have hP : va_P D classes (wl_X6_becomeRow ad cs h_pl h_pl_elements x1 pl_suit pl_size pl_elements) H := hP
  have hD : va_D A (wl_X6_becomeRow ad cs h_pl h_pl_elements x1 pl_suit pl_size pl_elements) := hD
  refine lv_aload_n hx hb dX6_becomeRow_5 rfl (lv_at hl 0 rfl) ?_
  refine lv_iload_n hx hb dX6_becomeRow_6 rfl (lv_at hl 2 rfl) ?_
  refine va_put (D := D) (ci := 6) (v := .int x2) (ty := .int) (C := RX6) (T := TX6) (N := 4) hx hb ht iX6 tyX6 tyX6_ok nmX6 hown hK hP hD hS 0 rfl rfl 2 (by decide) (ht _ kw_683) (fun _ h9 => h9) rfl (by decide +kernel) rfl rfl (Nat.le_of_ble_eq_true rfl) dX6_becomeRow_7 (fun H locs hP hD hS => ?_)
  have hP : va_P D classes (wl_X6_becomeRow ad cs h_pl h_pl_elements x1 pl_suit x2 pl_elements) H := hP
  have hD : va_D A (wl_X6_becomeRow ad cs h_pl h_pl_elements x1 pl_suit x2 pl_elements) := hD
  refine lv_aload_n hx hb dX6_becomeRow_10 rfl (lv_at hl 0 rfl) ?_
  refine va_get (D := D) (ci := 6) (v := .ref h_pl_elements) (C := RX6) (T := TX6) (N := 4) hx hb ht iX6 hown hK hP 0 rfl rfl 3 (by decide) (ht _ kw_685) (fun _ h9 => h9) rfl dX6_becomeRow_11 ?_
  refine lv_lconst (v := (0 : Int64)) hx hb dX6_becomeRow_14 (by decide) ?_
  obtain ⟨u_1, hc_2, h⟩ := zk_o1 h
  refine zz_sv (post := (fun u => u = u_1)) (w1 := fun u => (wl_J7_fill_d0a16 ad cs h_pl_elements u 60)) (As := [.ref h_pl_elements, .long (0 : Int64)]) (rest := []) (c_J7_fill_d0a16 l D cs ad h_pl_elements H.size 100000 (0 : Int64) pl_elements 60 u_1 hc_2) ⟨hx, hb, hml, hown, ht⟩ (va_cwS 2 ht g_X6_22 rfl rfl rfl hd_J7_fill_d0a16 ⟨Nat.le_of_ble_eq_true rfl, Nat.le_of_ble_eq_true rfl⟩) hP hD hS hK hA [1] rfl rfl [h_pl_elements] rfl (fun _ => rfl) rfl hl.1 (Nat.le_of_ble_eq_true rfl) dX6_becomeRow_15 ⟨Nat.zero_le _, Nat.zero_le _⟩ (fun u H locs hq hP hS => ?_)
  cases hq
  have hP : va_P D classes (wl_X6_becomeRow ad cs h_pl h_pl_elements x1 pl_suit x2 u_1) H := hP
  have hD : va_D A (wl_X6_becomeRow ad cs h_pl h_pl_elements x1 pl_suit x2 u_1) := zDk hD [h_pl, h_pl_elements] rfl rfl
  exact W.vret hx hb hr (fun t ht2 hW => ⟨⟨(x1, x2, u_1), rfl, Option.some.inj h, by rw [ht2]; exact hP, hD⟩, hS.F ht2⟩) hS.2.2 dX6_becomeRow_18 hlocks
set_option maxHeartbeats 4000000 in
set_option maxRecDepth 100000 in
theorem c_X6_becomeRow (l : Launch) (D : va_G) (cs : Nat → ClassId) (ad : Nat → Nat) (h_pl : Nat) (h_pl_elements : Nat) (sz : Nat) (x1 : Int32) (x2 : Int32) (pl_holds : Int32) (pl_suit : Int32) (pl_size : Int32) (pl_elements : Nat → Int64) (R : Int32 × Int32 × (Nat → Int64)) (h : f_X6_becomeRow   x1 x2 pl_holds pl_suit pl_size pl_elements = some R) : Met l yX6_becomeRow (z_X6_becomeRow) rm_X6_becomeRow (va_Pc [.ref h_pl, .int x1, .int x2] (zPre D cs (wl_X6_becomeRow ad cs h_pl h_pl_elements pl_holds pl_suit pl_size pl_elements) sz)) (Q_X6_becomeRow D cs ad h_pl h_pl_elements pl_suit (va_A (wl_X6_becomeRow ad cs h_pl h_pl_elements pl_holds pl_suit pl_size pl_elements) sz) R) 0 0 (va_A (wl_X6_becomeRow ad cs h_pl h_pl_elements pl_holds pl_suit pl_size pl_elements) sz) := by
  refine Met.ofW (cc := cX6_becomeRow) (maxL := 3) (ret := none) (by decide) rfl ?_
  intro p e s m args below meth c s₁ B hml hv
  obtain ⟨rfl, hsz, hP, hK, hD0⟩ := hv
  subst hsz
  have hD := hD0.self (sz := s.heap.size)
  have C0 : zC p s m _ meth c cX6_becomeRow 3 none RX6 zW := ⟨B.exec, B.bytes, B.returns, hml, findClass_of_methodNamed B.named, fun w hw => atoms_spec (ws := z_X6_becomeRow) B.pre w (List.mem_cons_of_mem _ hw), B.notSynchronized⟩
  have hA : ∀ q : Nat, s.heap.size ≤ q → va_A (wl_X6_becomeRow ad cs h_pl h_pl_elements pl_holds pl_suit pl_size pl_elements) s.heap.size q := fun q h => Or.inr h
  have hl := lv_entry ([.ref h_pl, .int x1, .int x2]) (n := 3) (Nat.le_of_ble_eq_true rfl)
  rw [lg_entry_eq]
  generalize (lg_sl ([.ref h_pl, .int x1, .int x2]) ++ List.replicate (3 - (lg_sl ([.ref h_pl, .int x1, .int x2])).length) Slot.unset).toArray = ls at hl ⊢
  exact L_X6_becomeRow_0 C0 hK hA   x1 x2 pl_holds pl_size pl_elements h s.heap [] ls hP hD va_S.rf hl
theorem zh_cX6_hasRange_0 : zck [27, 155, 0, 29, 28, 155, 0, 25, 27, 42, 180, 0, 19, 163, 0, 17, 28, 42, 180, 0, 19, 27] (zdu 0 cX6_hasRange.data.toList) = true := by decide +kernel
theorem dX6_hasRange_0 : decode cX6_hasRange 0 = .ok (.iload_n 1, 1) := zo_27 zh_cX6_hasRange_0 0 rfl
theorem dX6_hasRange_1 : decode cX6_hasRange 1 = .ok (.ifCond .lt 29, 3) := zo_p155 zh_cX6_hasRange_0 1 29 rfl rfl
theorem dX6_hasRange_4 : decode cX6_hasRange 4 = .ok (.iload_n 2, 1) := zo_28 zh_cX6_hasRange_0 4 rfl
theorem dX6_hasRange_5 : decode cX6_hasRange 5 = .ok (.ifCond .lt 25, 3) := zo_p155 zh_cX6_hasRange_0 5 25 rfl rfl
theorem dX6_hasRange_8 : decode cX6_hasRange 8 = .ok (.iload_n 1, 1) := zo_27 zh_cX6_hasRange_0 8 rfl
theorem dX6_hasRange_9 : decode cX6_hasRange 9 = .ok (.aload_n 0, 1) := zo_42 zh_cX6_hasRange_0 9 rfl
theorem dX6_hasRange_10 : decode cX6_hasRange 10 = .ok (.getfield 19, 3) := zo_180 zh_cX6_hasRange_0 10 rfl
theorem dX6_hasRange_13 : decode cX6_hasRange 13 = .ok (.if_icmp .gt 17, 3) := zo_p163 zh_cX6_hasRange_0 13 17 rfl rfl
theorem dX6_hasRange_16 : decode cX6_hasRange 16 = .ok (.iload_n 2, 1) := zo_28 zh_cX6_hasRange_0 16 rfl
theorem dX6_hasRange_17 : decode cX6_hasRange 17 = .ok (.aload_n 0, 1) := zo_42 zh_cX6_hasRange_0 17 rfl
theorem dX6_hasRange_18 : decode cX6_hasRange 18 = .ok (.getfield 19, 3) := zo_180 zh_cX6_hasRange_0 18 rfl
theorem zh_cX6_hasRange_1 : zck [19, 27, 100, 163, 0, 7, 4, 167, 0, 4, 3, 172] (zdu 20 cX6_hasRange.data.toList) = true := by decide +kernel
theorem dX6_hasRange_21 : decode cX6_hasRange 21 = .ok (.iload_n 1, 1) := zo_27 zh_cX6_hasRange_1 1 rfl
theorem dX6_hasRange_22 : decode cX6_hasRange 22 = .ok (.isub, 1) := zo_100 zh_cX6_hasRange_1 2 rfl
theorem dX6_hasRange_23 : decode cX6_hasRange 23 = .ok (.if_icmp .gt 7, 3) := zo_p163 zh_cX6_hasRange_1 3 7 rfl rfl
theorem dX6_hasRange_26 : decode cX6_hasRange 26 = .ok (.iconst 1, 1) := zo_4 zh_cX6_hasRange_1 6 rfl
theorem dX6_hasRange_27 : decode cX6_hasRange 27 = .ok (.goto 4, 3) := zo_p167 zh_cX6_hasRange_1 7 4 rfl rfl
theorem dX6_hasRange_30 : decode cX6_hasRange 30 = .ok (.iconst 0, 1) := zo_3 zh_cX6_hasRange_1 10 rfl
theorem dX6_hasRange_31 : decode cX6_hasRange 31 = .ok (.ireturn, 1) := zo_172 zh_cX6_hasRange_1 11 rfl
abbrev z_X6_hasRange : List Cond := .code yX6_hasRange cX6_hasRange 3 (some .boolean) :: zW
abbrev wl_X6_hasRange (ad : Nat → Nat) (cs : Nat → ClassId) (h_pl : Nat) (h_pl_elements : Nat) (pl_holds : Int32) (pl_suit : Int32) (pl_size : Int32) : va_W := [(h_pl, .inr (6, [.int pl_holds, .int pl_suit, .int pl_size, .ref h_pl_elements]))]
def Q_X6_hasRange (D : va_G) (cs : Nat → ClassId) (ad : Nat → Nat) (h_pl : Nat) (h_pl_elements : Nat) (pl_holds : Int32) (pl_suit : Int32) (pl_size : Int32) (A : Nat → Prop) (R : Int32 × Unit) : Array Value → State → Outcome → State → Prop :=
  va_Qi (fun (r : Int32) (u : Unit) => (r, u) = R) (fun (u : Unit) (t : State) => va_P D classes (wl_X6_hasRange ad cs h_pl h_pl_elements pl_holds pl_suit pl_size) t.heap ∧ va_D A (wl_X6_hasRange ad cs h_pl h_pl_elements pl_holds pl_suit pl_size)) A
abbrev rm_X6_hasRange : Room := { frames := 0, cells := 0, slots := 0, locals := 0 }
def B_X6_hasRange_0    (pl_holds : Int32) (pl_suit : Int32) (pl_size : Int32) (x1 : Int32) (x2 : Int32) : Option (Int32 × Unit) :=
  (if x1 < 0 then (some ((0 : Int32), ())) else (if x2 < 0 then (some ((0 : Int32), ())) else (if pl_size < x1 then (some ((0 : Int32), ())) else (if (pl_size - x1) < x2 then (some ((0 : Int32), ())) else (some ((1 : Int32), ()))))))
def f_X6_hasRange   (x1 : Int32) (x2 : Int32) (pl_holds : Int32) (pl_suit : Int32) (pl_size : Int32) : Option (Int32 × Unit) := B_X6_hasRange_0   pl_holds pl_suit pl_size x1 x2 
set_option maxHeartbeats 4000000 in
set_option maxRecDepth 100000 in
theorem L_X6_hasRange_0 {p : Program} {l : Launch} {e : Env} {s : State} {m : MethodId} {args : Array Value} {below : List Frame} {meth : Method} {c : Code} {A : Nat → Prop} {D : va_G} {cs : Nat → ClassId} {ad : Nat → Nat} {h_pl : Nat} {h_pl_elements : Nat} {pl_holds : Int32} {pl_suit : Int32} {pl_size : Int32} {R : Int32 × Unit} (C0 : zC p s m args meth c cX6_hasRange 3 (some .boolean) RX6 zW) (hK : va_K D classes (zT cs) s) (hA : ∀ q : Nat, s.heap.size ≤ q → A q) (x1 : Int32) (x2 : Int32) (h : B_X6_hasRange_0 pl_holds pl_suit pl_size x1 x2 = some R) (H : Heap) (locs : List Loc) (ls : Array Slot) (hP : va_P D classes (wl_X6_hasRange ad cs h_pl h_pl_elements pl_holds pl_suit pl_size) H) (hD : va_D A (wl_X6_hasRange ad cs h_pl h_pl_elements pl_holds pl_suit pl_size)) (hS : va_S A s.heap H locs) (hl : lv_has ls 3 [(0, .ref h_pl), (1, .int x1), (2, .int x2)]) : W p l e rm_X6_hasRange s m args below meth c H locs 0 0 (MQ below (Q_X6_hasRange D cs ad h_pl h_pl_elements pl_holds pl_suit pl_size A R) args s 0 0 A) (F0 m 0 ls []) := by
  obtain ⟨hx, hb, hr, hml, hown, ht, hlocks⟩ := id C0
  refine lv_iload_n hx hb dX6_hasRange_0 rfl (lv_at hl 1 rfl) ?_
  refine lv_if_lt (tgt := 30) hx hb dX6_hasRange_1 (by decide) (fun c_1 => ?_) (fun c_1 => ?_)
  · have h := zk_t c_1 h
    refine lv_iconst (v := (0 : Int32)) hx hb dX6_hasRange_30 (by decide) ?_
    exact W.zret (ty := .boolean) (v := (0 : Int32)) hx hb hr rfl (fun t ht2 hW => ⟨⟨(0 : Int32), (), rfl, Option.some.inj h, by rw [ht2]; exact hP, hD⟩, hS.F ht2⟩) hS.2.2 dX6_hasRange_31 hlocks
  · have h := zk_f c_1 h
    refine lv_iload_n hx hb dX6_hasRange_4 rfl (lv_at hl 2 rfl) ?_
    refine lv_if_lt (tgt := 30) hx hb dX6_hasRange_5 (by decide) (fun c_2 => ?_) (fun c_2 => ?_)
    · have h := zk_t c_2 h
      refine lv_iconst (v := (0 : Int32)) hx hb dX6_hasRange_30 (by decide) ?_
      exact W.zret (ty := .boolean) (v := (0 : Int32)) hx hb hr rfl (fun t ht2 hW => ⟨⟨(0 : Int32), (), rfl, Option.some.inj h, by rw [ht2]; exact hP, hD⟩, hS.F ht2⟩) hS.2.2 dX6_hasRange_31 hlocks
    · have h := zk_f c_2 h
      refine lv_iload_n hx hb dX6_hasRange_8 rfl (lv_at hl 1 rfl) ?_
      refine lv_aload_n hx hb dX6_hasRange_9 rfl (lv_at hl 0 rfl) ?_
      refine va_get (D := D) (ci := 6) (v := .int pl_size) (C := RX6) (T := TX6) (N := 4) hx hb ht iX6 hown hK hP 0 rfl rfl 2 (by decide) (ht _ kw_683) (fun _ h9 => h9) rfl dX6_hasRange_10 ?_
      refine lv_icmp_gt (tgt := 30) hx hb dX6_hasRange_13 (by decide) (fun c_3 => ?_) (fun c_3 => ?_)
      · have h := zk_t c_3 h
        refine lv_iconst (v := (0 : Int32)) hx hb dX6_hasRange_30 (by decide) ?_
        exact W.zret (ty := .boolean) (v := (0 : Int32)) hx hb hr rfl (fun t ht2 hW => ⟨⟨(0 : Int32), (), rfl, Option.some.inj h, by rw [ht2]; exact hP, hD⟩, hS.F ht2⟩) hS.2.2 dX6_hasRange_31 hlocks
      · have h := zk_f c_3 h
        refine lv_iload_n hx hb dX6_hasRange_16 rfl (lv_at hl 2 rfl) ?_
        refine lv_aload_n hx hb dX6_hasRange_17 rfl (lv_at hl 0 rfl) ?_
        refine va_get (D := D) (ci := 6) (v := .int pl_size) (C := RX6) (T := TX6) (N := 4) hx hb ht iX6 hown hK hP 0 rfl rfl 2 (by decide) (ht _ kw_683) (fun _ h9 => h9) rfl dX6_hasRange_18 ?_
        refine lv_iload_n hx hb dX6_hasRange_21 rfl (lv_at hl 1 rfl) ?_
        refine lv_isub hx hb dX6_hasRange_22 ?_
        refine lv_icmp_gt (tgt := 30) hx hb dX6_hasRange_23 (by decide) (fun c_4 => ?_) (fun c_4 => ?_)
        · have h := zk_t c_4 h
          refine lv_iconst (v := (0 : Int32)) hx hb dX6_hasRange_30 (by decide) ?_
          exact W.zret (ty := .boolean) (v := (0 : Int32)) hx hb hr rfl (fun t ht2 hW => ⟨⟨(0 : Int32), (), rfl, Option.some.inj h, by rw [ht2]; exact hP, hD⟩, hS.F ht2⟩) hS.2.2 dX6_hasRange_31 hlocks
        · have h := zk_f c_4 h
          refine lv_iconst (v := (1 : Int32)) hx hb dX6_hasRange_26 (by decide) ?_
          refine lv_goto (tgt := 31) hx hb dX6_hasRange_27 (by decide) ?_
          exact W.zret (ty := .boolean) (v := (1 : Int32)) hx hb hr rfl (fun t ht2 hW => ⟨⟨(1 : Int32), (), rfl, Option.some.inj h, by rw [ht2]; exact hP, hD⟩, hS.F ht2⟩) hS.2.2 dX6_hasRange_31 hlocks
set_option maxHeartbeats 4000000 in
set_option maxRecDepth 100000 in
theorem c_X6_hasRange (l : Launch) (D : va_G) (cs : Nat → ClassId) (ad : Nat → Nat) (h_pl : Nat) (h_pl_elements : Nat) (sz : Nat) (x1 : Int32) (x2 : Int32) (pl_holds : Int32) (pl_suit : Int32) (pl_size : Int32) (R : Int32 × Unit) (h : f_X6_hasRange   x1 x2 pl_holds pl_suit pl_size = some R) : Met l yX6_hasRange (z_X6_hasRange) rm_X6_hasRange (va_Pc [.ref h_pl, .int x1, .int x2] (zPre D cs (wl_X6_hasRange ad cs h_pl h_pl_elements pl_holds pl_suit pl_size) sz)) (Q_X6_hasRange D cs ad h_pl h_pl_elements pl_holds pl_suit pl_size (va_A (wl_X6_hasRange ad cs h_pl h_pl_elements pl_holds pl_suit pl_size) sz) R) 0 0 (va_A (wl_X6_hasRange ad cs h_pl h_pl_elements pl_holds pl_suit pl_size) sz) := by
  refine Met.ofW (cc := cX6_hasRange) (maxL := 3) (ret := (some .boolean)) (by decide) rfl ?_
  intro p e s m args below meth c s₁ B hml hv
  obtain ⟨rfl, hsz, hP, hK, hD0⟩ := hv
  subst hsz
  have hD := hD0.self (sz := s.heap.size)
  have C0 : zC p s m _ meth c cX6_hasRange 3 (some .boolean) RX6 zW := ⟨B.exec, B.bytes, B.returns, hml, findClass_of_methodNamed B.named, fun w hw => atoms_spec (ws := z_X6_hasRange) B.pre w (List.mem_cons_of_mem _ hw), B.notSynchronized⟩
  have hA : ∀ q : Nat, s.heap.size ≤ q → va_A (wl_X6_hasRange ad cs h_pl h_pl_elements pl_holds pl_suit pl_size) s.heap.size q := fun q h => Or.inr h
  have hl := lv_entry ([.ref h_pl, .int x1, .int x2]) (n := 3) (Nat.le_of_ble_eq_true rfl)
  rw [lg_entry_eq]
  generalize (lg_sl ([.ref h_pl, .int x1, .int x2]) ++ List.replicate (3 - (lg_sl ([.ref h_pl, .int x1, .int x2])).length) Slot.unset).toArray = ls at hl ⊢
  exact L_X6_hasRange_0 C0 hK hA   x1 x2  h s.heap [] ls hP hD va_S.rf hl
theorem kw_94 : Cond.initialized RX6 ∈ zW := zwC (i := 20) zc_1 rfl rfl
theorem kw_758 : Cond.instanceMethod yX6_hasRange ∈ zW := zwC (i := 204) zc_3 rfl rfl
theorem kw_759 : Cond.selects RX6 yX6_hasRange yX6_hasRange ∈ zW := zwC (i := 205) zc_3 rfl rfl
theorem kw_760 : Cond.code yX6_hasRange cX6_hasRange 3 (some .boolean) ∈ zW := zwC (i := 206) zc_3 rfl rfl
theorem kw_1263 : Cond.methodLink RX6 28 yX6_hasRange ∈ zW := zwC (i := 229) zc_5 rfl rfl
theorem zh_cX6_refusalOf_0 : zck [42, 180, 0, 11, 2, 160, 0, 6, 16, 245, 172, 42, 180, 0, 11, 8, 160, 0, 6, 16, 244, 172] (zdu 0 cX6_refusalOf.data.toList) = true := by decide +kernel
theorem dX6_refusalOf_0 : decode cX6_refusalOf 0 = .ok (.aload_n 0, 1) := zo_42 zh_cX6_refusalOf_0 0 rfl
theorem dX6_refusalOf_1 : decode cX6_refusalOf 1 = .ok (.getfield 11, 3) := zo_180 zh_cX6_refusalOf_0 1 rfl
theorem dX6_refusalOf_4 : decode cX6_refusalOf 4 = .ok (.iconst (-1), 1) := zo_2 zh_cX6_refusalOf_0 4 rfl
theorem dX6_refusalOf_5 : decode cX6_refusalOf 5 = .ok (.if_icmp .ne 6, 3) := zo_p160 zh_cX6_refusalOf_0 5 6 rfl rfl
theorem dX6_refusalOf_8 : decode cX6_refusalOf 8 = .ok (.bipush (-11), 2) := zo_n16 zh_cX6_refusalOf_0 8 10 rfl rfl
theorem dX6_refusalOf_10 : decode cX6_refusalOf 10 = .ok (.ireturn, 1) := zo_172 zh_cX6_refusalOf_0 10 rfl
theorem dX6_refusalOf_11 : decode cX6_refusalOf 11 = .ok (.aload_n 0, 1) := zo_42 zh_cX6_refusalOf_0 11 rfl
theorem dX6_refusalOf_12 : decode cX6_refusalOf 12 = .ok (.getfield 11, 3) := zo_180 zh_cX6_refusalOf_0 12 rfl
theorem dX6_refusalOf_15 : decode cX6_refusalOf 15 = .ok (.iconst 5, 1) := zo_8 zh_cX6_refusalOf_0 15 rfl
theorem dX6_refusalOf_16 : decode cX6_refusalOf 16 = .ok (.if_icmp .ne 6, 3) := zo_p160 zh_cX6_refusalOf_0 16 6 rfl rfl
theorem dX6_refusalOf_19 : decode cX6_refusalOf 19 = .ok (.bipush (-12), 2) := zo_n16 zh_cX6_refusalOf_0 19 11 rfl rfl
theorem zh_cX6_refusalOf_1 : zck [244, 172, 42, 27, 4, 182, 0, 28, 153, 0, 7, 3, 167, 0, 5, 16, 243, 172] (zdu 20 cX6_refusalOf.data.toList) = true := by decide +kernel
theorem dX6_refusalOf_21 : decode cX6_refusalOf 21 = .ok (.ireturn, 1) := zo_172 zh_cX6_refusalOf_1 1 rfl
theorem dX6_refusalOf_22 : decode cX6_refusalOf 22 = .ok (.aload_n 0, 1) := zo_42 zh_cX6_refusalOf_1 2 rfl
theorem dX6_refusalOf_23 : decode cX6_refusalOf 23 = .ok (.iload_n 1, 1) := zo_27 zh_cX6_refusalOf_1 3 rfl
theorem dX6_refusalOf_24 : decode cX6_refusalOf 24 = .ok (.iconst 1, 1) := zo_4 zh_cX6_refusalOf_1 4 rfl
theorem dX6_refusalOf_25 : decode cX6_refusalOf 25 = .ok (.invokevirtual 28, 3) := zo_182 zh_cX6_refusalOf_1 5 rfl
theorem dX6_refusalOf_28 : decode cX6_refusalOf 28 = .ok (.ifCond .eq 7, 3) := zo_p153 zh_cX6_refusalOf_1 8 7 rfl rfl
theorem dX6_refusalOf_31 : decode cX6_refusalOf 31 = .ok (.iconst 0, 1) := zo_3 zh_cX6_refusalOf_1 11 rfl
theorem dX6_refusalOf_32 : decode cX6_refusalOf 32 = .ok (.goto 5, 3) := zo_p167 zh_cX6_refusalOf_1 12 5 rfl rfl
theorem dX6_refusalOf_35 : decode cX6_refusalOf 35 = .ok (.bipush (-13), 2) := zo_n16 zh_cX6_refusalOf_1 15 12 rfl rfl
theorem dX6_refusalOf_37 : decode cX6_refusalOf 37 = .ok (.ireturn, 1) := zo_172 zh_cX6_refusalOf_1 17 rfl
abbrev z_X6_refusalOf : List Cond := .code yX6_refusalOf cX6_refusalOf 2 (some .int) :: zW
abbrev wl_X6_refusalOf (ad : Nat → Nat) (cs : Nat → ClassId) (h_pl : Nat) (h_pl_elements : Nat) (pl_holds : Int32) (pl_suit : Int32) (pl_size : Int32) : va_W := [(h_pl, .inr (6, [.int pl_holds, .int pl_suit, .int pl_size, .ref h_pl_elements]))]
def Q_X6_refusalOf (D : va_G) (cs : Nat → ClassId) (ad : Nat → Nat) (h_pl : Nat) (h_pl_elements : Nat) (pl_holds : Int32) (pl_suit : Int32) (pl_size : Int32) (A : Nat → Prop) (R : Int32 × Unit) : Array Value → State → Outcome → State → Prop :=
  va_Qi (fun (r : Int32) (u : Unit) => (r, u) = R) (fun (u : Unit) (t : State) => va_P D classes (wl_X6_refusalOf ad cs h_pl h_pl_elements pl_holds pl_suit pl_size) t.heap ∧ va_D A (wl_X6_refusalOf ad cs h_pl h_pl_elements pl_holds pl_suit pl_size)) A
abbrev rm_X6_refusalOf : Room := { frames := 1, cells := 0, slots := 0, locals := 22 }
theorem g_X6_28 : GoodIn zW (wsV RX6 28 RX6 yX6_hasRange z_X6_hasRange) := zGV kw_1263 kw_758 kw_759 kw_94 kw_760
theorem hd_X6_hasRange : yX6_hasRange.cls ≠ "java/lang/invoke/MethodHandle" ∧ yX6_hasRange.cls ≠ "java/lang/invoke/VarHandle" ∧ (parseMethodDescriptor yX6_hasRange.desc).map (fun d => d.parameters.length) = some 2 := by decide +kernel
def B_X6_refusalOf_0    (pl_holds : Int32) (pl_suit : Int32) (pl_size : Int32) (x1 : Int32) : Option (Int32 × Unit) :=
  (if pl_holds = (-1 : Int32) then (some ((-11 : Int32), ())) else (if pl_holds = (5 : Int32) then (some ((-12 : Int32), ())) else (zk_b2 (f_X6_hasRange x1 (1 : Int32) pl_holds pl_suit pl_size) (fun r_3 u_4 => (if r_3 = 0 then (some ((-13 : Int32), ())) else (some ((0 : Int32), ())))))))
def f_X6_refusalOf   (x1 : Int32) (pl_holds : Int32) (pl_suit : Int32) (pl_size : Int32) : Option (Int32 × Unit) := B_X6_refusalOf_0   pl_holds pl_suit pl_size x1 
set_option maxHeartbeats 4000000 in
set_option maxRecDepth 100000 in
theorem L_X6_refusalOf_0 {p : Program} {l : Launch} {e : Env} {s : State} {m : MethodId} {args : Array Value} {below : List Frame} {meth : Method} {c : Code} {A : Nat → Prop} {D : va_G} {cs : Nat → ClassId} {ad : Nat → Nat} {h_pl : Nat} {h_pl_elements : Nat} {pl_holds : Int32} {pl_suit : Int32} {pl_size : Int32} {R : Int32 × Unit} (C0 : zC p s m args meth c cX6_refusalOf 2 (some .int) RX6 zW) (hK : va_K D classes (zT cs) s) (hA : ∀ q : Nat, s.heap.size ≤ q → A q) (x1 : Int32) (h : B_X6_refusalOf_0 pl_holds pl_suit pl_size x1 = some R) (H : Heap) (locs : List Loc) (ls : Array Slot) (hP : va_P D classes (wl_X6_refusalOf ad cs h_pl h_pl_elements pl_holds pl_suit pl_size) H) (hD : va_D A (wl_X6_refusalOf ad cs h_pl h_pl_elements pl_holds pl_suit pl_size)) (hS : va_S A s.heap H locs) (hl : lv_has ls 2 [(0, .ref h_pl), (1, .int x1)]) : W p l e rm_X6_refusalOf s m args below meth c H locs 0 0 (MQ below (Q_X6_refusalOf D cs ad h_pl h_pl_elements pl_holds pl_suit pl_size A R) args s 0 0 A) (F0 m 0 ls []) := by
  obtain ⟨hx, hb, hr, hml, hown, ht, hlocks⟩ := id C0
  refine lv_aload_n hx hb dX6_refusalOf_0 rfl (lv_at hl 0 rfl) ?_
  refine va_get (D := D) (ci := 6) (v := .int pl_holds) (C := RX6) (T := TX6) (N := 4) hx hb ht iX6 hown hK hP 0 rfl rfl 0 (by decide) (ht _ kw_680) (fun _ h9 => h9) rfl dX6_refusalOf_1 ?_
  refine lv_iconst (v := (-1 : Int32)) hx hb dX6_refusalOf_4 (by decide) ?_
  refine lv_icmp_ne (tgt := 11) hx hb dX6_refusalOf_5 (by decide) (fun c_1 => ?_) (fun c_1 => ?_)
  · have h := zk_f c_1 h
    refine lv_aload_n hx hb dX6_refusalOf_11 rfl (lv_at hl 0 rfl) ?_
    refine va_get (D := D) (ci := 6) (v := .int pl_holds) (C := RX6) (T := TX6) (N := 4) hx hb ht iX6 hown hK hP 0 rfl rfl 0 (by decide) (ht _ kw_680) (fun _ h9 => h9) rfl dX6_refusalOf_12 ?_
    refine lv_iconst (v := (5 : Int32)) hx hb dX6_refusalOf_15 (by decide) ?_
    refine lv_icmp_ne (tgt := 22) hx hb dX6_refusalOf_16 (by decide) (fun c_2 => ?_) (fun c_2 => ?_)
    · have h := zk_f c_2 h
      refine lv_aload_n hx hb dX6_refusalOf_22 rfl (lv_at hl 0 rfl) ?_
      refine lv_iload_n hx hb dX6_refusalOf_23 rfl (lv_at hl 1 rfl) ?_
      refine lv_iconst (v := (1 : Int32)) hx hb dX6_refusalOf_24 (by decide) ?_
      obtain ⟨r_3, u_4, hc_5, h⟩ := zk_o2 h
      refine zz_vi (post := (fun r u => (r, u) = (r_3, u_4))) (w1 := fun u => (wl_X6_hasRange ad cs h_pl h_pl_elements pl_holds pl_suit pl_size)) (As := [.int x1, .int (1 : Int32)]) (rest := []) (c_X6_hasRange l D cs ad h_pl h_pl_elements H.size x1 (1 : Int32) pl_holds pl_suit pl_size (r_3, u_4) hc_5) ⟨hx, hb, hml, hown, ht⟩ (cwV 2 ht g_X6_28 rfl rfl rfl ⟨rfl, hd_X6_hasRange⟩ ⟨Nat.le_of_ble_eq_true rfl, Nat.le_of_ble_eq_true rfl⟩) (va_recv hK hP (ci := 6) (q0 := 0) rfl rfl) hP hD hS hK hA [0] rfl rfl [h_pl] rfl (fun _ => rfl) rfl hl.1 (Nat.le_of_ble_eq_true rfl) dX6_refusalOf_25 ⟨Nat.zero_le _, Nat.zero_le _⟩ (fun r u H locs hq hP hS => ?_)
      cases hq
      have hP : va_P D classes (wl_X6_refusalOf ad cs h_pl h_pl_elements pl_holds pl_suit pl_size) H := hP
      have hD : va_D A (wl_X6_refusalOf ad cs h_pl h_pl_elements pl_holds pl_suit pl_size) := zDk hD [h_pl] rfl rfl
      refine lv_if_eq (tgt := 35) hx hb dX6_refusalOf_28 (by decide) (fun c_6 => ?_) (fun c_6 => ?_)
      · have h := zk_t c_6 h
        refine lv_bipush (v := (-13 : Int32)) hx hb dX6_refusalOf_35 (by decide) ?_
        exact W.iret (v := (-13 : Int32)) hx hb hr (fun t ht2 hW => ⟨⟨(-13 : Int32), (), rfl, Option.some.inj h, by rw [ht2]; exact hP, hD⟩, hS.F ht2⟩) hS.2.2 dX6_refusalOf_37 hlocks
      · have h := zk_f c_6 h
        refine lv_iconst (v := (0 : Int32)) hx hb dX6_refusalOf_31 (by decide) ?_
        refine lv_goto (tgt := 37) hx hb dX6_refusalOf_32 (by decide) ?_
        exact W.iret (v := (0 : Int32)) hx hb hr (fun t ht2 hW => ⟨⟨(0 : Int32), (), rfl, Option.some.inj h, by rw [ht2]; exact hP, hD⟩, hS.F ht2⟩) hS.2.2 dX6_refusalOf_37 hlocks
    · have h := zk_t c_2 h
      refine lv_bipush (v := (-12 : Int32)) hx hb dX6_refusalOf_19 (by decide) ?_
      exact W.iret (v := (-12 : Int32)) hx hb hr (fun t ht2 hW => ⟨⟨(-12 : Int32), (), rfl, Option.some.inj h, by rw [ht2]; exact hP, hD⟩, hS.F ht2⟩) hS.2.2 dX6_refusalOf_21 hlocks
  · have h := zk_t c_1 h
    refine lv_bipush (v := (-11 : Int32)) hx hb dX6_refusalOf_8 (by decide) ?_
    exact W.iret (v := (-11 : Int32)) hx hb hr (fun t ht2 hW => ⟨⟨(-11 : Int32), (), rfl, Option.some.inj h, by rw [ht2]; exact hP, hD⟩, hS.F ht2⟩) hS.2.2 dX6_refusalOf_10 hlocks
set_option maxHeartbeats 4000000 in
set_option maxRecDepth 100000 in
theorem c_X6_refusalOf (l : Launch) (D : va_G) (cs : Nat → ClassId) (ad : Nat → Nat) (h_pl : Nat) (h_pl_elements : Nat) (sz : Nat) (x1 : Int32) (pl_holds : Int32) (pl_suit : Int32) (pl_size : Int32) (R : Int32 × Unit) (h : f_X6_refusalOf   x1 pl_holds pl_suit pl_size = some R) : Met l yX6_refusalOf (z_X6_refusalOf) rm_X6_refusalOf (va_Pc [.ref h_pl, .int x1] (zPre D cs (wl_X6_refusalOf ad cs h_pl h_pl_elements pl_holds pl_suit pl_size) sz)) (Q_X6_refusalOf D cs ad h_pl h_pl_elements pl_holds pl_suit pl_size (va_A (wl_X6_refusalOf ad cs h_pl h_pl_elements pl_holds pl_suit pl_size) sz) R) 0 0 (va_A (wl_X6_refusalOf ad cs h_pl h_pl_elements pl_holds pl_suit pl_size) sz) := by
  refine Met.ofW (cc := cX6_refusalOf) (maxL := 2) (ret := (some .int)) (by decide) rfl ?_
  intro p e s m args below meth c s₁ B hml hv
  obtain ⟨rfl, hsz, hP, hK, hD0⟩ := hv
  subst hsz
  have hD := hD0.self (sz := s.heap.size)
  have C0 : zC p s m _ meth c cX6_refusalOf 2 (some .int) RX6 zW := ⟨B.exec, B.bytes, B.returns, hml, findClass_of_methodNamed B.named, fun w hw => atoms_spec (ws := z_X6_refusalOf) B.pre w (List.mem_cons_of_mem _ hw), B.notSynchronized⟩
  have hA : ∀ q : Nat, s.heap.size ≤ q → va_A (wl_X6_refusalOf ad cs h_pl h_pl_elements pl_holds pl_suit pl_size) s.heap.size q := fun q h => Or.inr h
  have hl := lv_entry ([.ref h_pl, .int x1]) (n := 2) (Nat.le_of_ble_eq_true rfl)
  rw [lg_entry_eq]
  generalize (lg_sl ([.ref h_pl, .int x1]) ++ List.replicate (2 - (lg_sl ([.ref h_pl, .int x1])).length) Slot.unset).toArray = ls at hl ⊢
  exact L_X6_refusalOf_0 C0 hK hA   x1  h s.heap [] ls hP hD va_S.rf hl
theorem zh_cX6_lowestBits_0 : zck [42, 180, 0, 11, 170, 0, 0, 0, 0, 0, 0, 62, 0, 0, 0, 0, 0, 0, 0, 4, 0, 0] (zdu 0 cX6_lowestBits.data.toList) = true := by decide +kernel
theorem dX6_lowestBits_0 : decode cX6_lowestBits 0 = .ok (.aload_n 0, 1) := zo_42 zh_cX6_lowestBits_0 0 rfl
theorem dX6_lowestBits_1 : decode cX6_lowestBits 1 = .ok (.getfield 11, 3) := zo_180 zh_cX6_lowestBits_0 1 rfl
theorem dX6_lowestBits_4 : decode cX6_lowestBits 4 = .ok (.tableswitch 62 0 4 #[36, 41, 46, 62, 50], 36) := by decide +kernel
theorem zh_cX6_lowestBits_2 : zck [31, 136, 145, 133, 173, 31, 136, 147, 133, 173, 31, 136, 133, 173, 31, 9, 148, 153, 0, 7, 10, 167] (zdu 40 cX6_lowestBits.data.toList) = true := by decide +kernel
theorem dX6_lowestBits_40 : decode cX6_lowestBits 40 = .ok (.lload_n 1, 1) := zo_31 zh_cX6_lowestBits_2 0 rfl
theorem dX6_lowestBits_41 : decode cX6_lowestBits 41 = .ok (.l2i, 1) := zo_136 zh_cX6_lowestBits_2 1 rfl
theorem dX6_lowestBits_42 : decode cX6_lowestBits 42 = .ok (.i2b, 1) := zo_145 zh_cX6_lowestBits_2 2 rfl
theorem dX6_lowestBits_43 : decode cX6_lowestBits 43 = .ok (.i2l, 1) := zo_133 zh_cX6_lowestBits_2 3 rfl
theorem dX6_lowestBits_44 : decode cX6_lowestBits 44 = .ok (.lreturn, 1) := zo_173 zh_cX6_lowestBits_2 4 rfl
theorem dX6_lowestBits_45 : decode cX6_lowestBits 45 = .ok (.lload_n 1, 1) := zo_31 zh_cX6_lowestBits_2 5 rfl
theorem dX6_lowestBits_46 : decode cX6_lowestBits 46 = .ok (.l2i, 1) := zo_136 zh_cX6_lowestBits_2 6 rfl
theorem dX6_lowestBits_47 : decode cX6_lowestBits 47 = .ok (.i2s, 1) := zo_147 zh_cX6_lowestBits_2 7 rfl
theorem dX6_lowestBits_48 : decode cX6_lowestBits 48 = .ok (.i2l, 1) := zo_133 zh_cX6_lowestBits_2 8 rfl
theorem dX6_lowestBits_49 : decode cX6_lowestBits 49 = .ok (.lreturn, 1) := zo_173 zh_cX6_lowestBits_2 9 rfl
theorem dX6_lowestBits_50 : decode cX6_lowestBits 50 = .ok (.lload_n 1, 1) := zo_31 zh_cX6_lowestBits_2 10 rfl
theorem dX6_lowestBits_51 : decode cX6_lowestBits 51 = .ok (.l2i, 1) := zo_136 zh_cX6_lowestBits_2 11 rfl
theorem dX6_lowestBits_52 : decode cX6_lowestBits 52 = .ok (.i2l, 1) := zo_133 zh_cX6_lowestBits_2 12 rfl
theorem dX6_lowestBits_53 : decode cX6_lowestBits 53 = .ok (.lreturn, 1) := zo_173 zh_cX6_lowestBits_2 13 rfl
theorem dX6_lowestBits_54 : decode cX6_lowestBits 54 = .ok (.lload_n 1, 1) := zo_31 zh_cX6_lowestBits_2 14 rfl
theorem dX6_lowestBits_55 : decode cX6_lowestBits 55 = .ok (.lconst 0, 1) := zo_9 zh_cX6_lowestBits_2 15 rfl
theorem dX6_lowestBits_56 : decode cX6_lowestBits 56 = .ok (.lcmp, 1) := zo_148 zh_cX6_lowestBits_2 16 rfl
theorem dX6_lowestBits_57 : decode cX6_lowestBits 57 = .ok (.ifCond .eq 7, 3) := zo_p153 zh_cX6_lowestBits_2 17 7 rfl rfl
theorem zh_cX6_lowestBits_3 : zck [10, 167, 0, 4, 9, 173, 31, 173] (zdu 60 cX6_lowestBits.data.toList) = true := by decide +kernel
theorem dX6_lowestBits_60 : decode cX6_lowestBits 60 = .ok (.lconst 1, 1) := zo_10 zh_cX6_lowestBits_3 0 rfl
theorem dX6_lowestBits_61 : decode cX6_lowestBits 61 = .ok (.goto 4, 3) := zo_p167 zh_cX6_lowestBits_3 1 4 rfl rfl
theorem dX6_lowestBits_64 : decode cX6_lowestBits 64 = .ok (.lconst 0, 1) := zo_9 zh_cX6_lowestBits_3 4 rfl
theorem dX6_lowestBits_65 : decode cX6_lowestBits 65 = .ok (.lreturn, 1) := zo_173 zh_cX6_lowestBits_3 5 rfl
theorem dX6_lowestBits_66 : decode cX6_lowestBits 66 = .ok (.lload_n 1, 1) := zo_31 zh_cX6_lowestBits_3 6 rfl
theorem dX6_lowestBits_67 : decode cX6_lowestBits 67 = .ok (.lreturn, 1) := zo_173 zh_cX6_lowestBits_3 7 rfl
abbrev z_X6_lowestBits : List Cond := .code yX6_lowestBits cX6_lowestBits 3 (some .long) :: zW
abbrev wl_X6_lowestBits (ad : Nat → Nat) (cs : Nat → ClassId) (h_pl : Nat) (h_pl_elements : Nat) (pl_holds : Int32) (pl_suit : Int32) (pl_size : Int32) : va_W := [(h_pl, .inr (6, [.int pl_holds, .int pl_suit, .int pl_size, .ref h_pl_elements]))]
def Q_X6_lowestBits (D : va_G) (cs : Nat → ClassId) (ad : Nat → Nat) (h_pl : Nat) (h_pl_elements : Nat) (pl_holds : Int32) (pl_suit : Int32) (pl_size : Int32) (A : Nat → Prop) (R : Int64 × Unit) : Array Value → State → Outcome → State → Prop :=
  va_Ql (fun (r : Int64) (u : Unit) => (r, u) = R) (fun (u : Unit) (t : State) => va_P D classes (wl_X6_lowestBits ad cs h_pl h_pl_elements pl_holds pl_suit pl_size) t.heap ∧ va_D A (wl_X6_lowestBits ad cs h_pl h_pl_elements pl_holds pl_suit pl_size)) A
abbrev rm_X6_lowestBits : Room := { frames := 0, cells := 0, slots := 0, locals := 0 }
def B_X6_lowestBits_0    (pl_holds : Int32) (pl_suit : Int32) (pl_size : Int32) (x1 : Int64) : Option (Int64 × Unit) :=
  (if pl_holds = (0 : Int32) then (some (x1.toInt32.toInt8.toInt32.toInt64, ())) else (if pl_holds = (1 : Int32) then (some (x1.toInt32.toInt16.toInt32.toInt64, ())) else (if pl_holds = (2 : Int32) then (some (x1.toInt32.toInt64, ())) else (if pl_holds = (3 : Int32) then (some (x1, ())) else (if pl_holds = (4 : Int32) then (if (lg_cmp x1 (0 : Int64)) = 0 then (some ((0 : Int64), ())) else (some ((1 : Int64), ()))) else (some (x1, ())))))))
def f_X6_lowestBits   (x1 : Int64) (pl_holds : Int32) (pl_suit : Int32) (pl_size : Int32) : Option (Int64 × Unit) := B_X6_lowestBits_0   pl_holds pl_suit pl_size x1 
set_option maxHeartbeats 4000000 in
set_option maxRecDepth 100000 in
theorem L_X6_lowestBits_0 {p : Program} {l : Launch} {e : Env} {s : State} {m : MethodId} {args : Array Value} {below : List Frame} {meth : Method} {c : Code} {A : Nat → Prop} {D : va_G} {cs : Nat → ClassId} {ad : Nat → Nat} {h_pl : Nat} {h_pl_elements : Nat} {pl_holds : Int32} {pl_suit : Int32} {pl_size : Int32} {R : Int64 × Unit} (C0 : zC p s m args meth c cX6_lowestBits 3 (some .long) RX6 zW) (hK : va_K D classes (zT cs) s) (hA : ∀ q : Nat, s.heap.size ≤ q → A q) (x1 : Int64) (h : B_X6_lowestBits_0 pl_holds pl_suit pl_size x1 = some R) (H : Heap) (locs : List Loc) (ls : Array Slot) (hP : va_P D classes (wl_X6_lowestBits ad cs h_pl h_pl_elements pl_holds pl_suit pl_size) H) (hD : va_D A (wl_X6_lowestBits ad cs h_pl h_pl_elements pl_holds pl_suit pl_size)) (hS : va_S A s.heap H locs) (hl : lv_has ls 3 [(0, .ref h_pl), (1, .long x1)]) : W p l e rm_X6_lowestBits s m args below meth c H locs 0 0 (MQ below (Q_X6_lowestBits D cs ad h_pl h_pl_elements pl_holds pl_suit pl_size A R) args s 0 0 A) (F0 m 0 ls []) := by
  obtain ⟨hx, hb, hr, hml, hown, ht, hlocks⟩ := id C0
  refine lv_aload_n hx hb dX6_lowestBits_0 rfl (lv_at hl 0 rfl) ?_
  refine va_get (D := D) (ci := 6) (v := .int pl_holds) (C := RX6) (T := TX6) (N := 4) hx hb ht iX6 hown hK hP 0 rfl rfl 0 (by decide) (ht _ kw_680) (fun _ h9 => h9) rfl dX6_lowestBits_1 ?_
  by_cases c_2 : pl_holds = (0 : Int32)
  · have h := zk_t c_2 h
    refine lv_tableIn (tgt := 40) hx hb dX6_lowestBits_4 (by rw [c_2]; decide) (by rw [c_2]; decide) (by rw [c_2]; rfl) (by decide) ?_
    refine lv_lload_n hx hb dX6_lowestBits_40 rfl (lv_at hl 1 rfl) ?_
    refine lv_l2i (v := x1.toInt32) hx hb dX6_lowestBits_41 rfl ?_
    refine lv_i2b (v := x1.toInt32.toInt8.toInt32) hx hb dX6_lowestBits_42 rfl ?_
    refine lv_i2l (v := x1.toInt32.toInt8.toInt32.toInt64) hx hb dX6_lowestBits_43 rfl ?_
    exact W.lret (v := x1.toInt32.toInt8.toInt32.toInt64) hx hb hr (fun t ht2 hW => ⟨⟨x1.toInt32.toInt8.toInt32.toInt64, (), rfl, Option.some.inj h, by rw [ht2]; exact hP, hD⟩, hS.F ht2⟩) hS.2.2 dX6_lowestBits_44 hlocks
  · have h := zk_f c_2 h
    by_cases c_3 : pl_holds = (1 : Int32)
    · have h := zk_t c_3 h
      refine lv_tableIn (tgt := 45) hx hb dX6_lowestBits_4 (by rw [c_3]; decide) (by rw [c_3]; decide) (by rw [c_3]; rfl) (by decide) ?_
      refine lv_lload_n hx hb dX6_lowestBits_45 rfl (lv_at hl 1 rfl) ?_
      refine lv_l2i (v := x1.toInt32) hx hb dX6_lowestBits_46 rfl ?_
      refine lv_i2s (v := x1.toInt32.toInt16.toInt32) hx hb dX6_lowestBits_47 rfl ?_
      refine lv_i2l (v := x1.toInt32.toInt16.toInt32.toInt64) hx hb dX6_lowestBits_48 rfl ?_
      exact W.lret (v := x1.toInt32.toInt16.toInt32.toInt64) hx hb hr (fun t ht2 hW => ⟨⟨x1.toInt32.toInt16.toInt32.toInt64, (), rfl, Option.some.inj h, by rw [ht2]; exact hP, hD⟩, hS.F ht2⟩) hS.2.2 dX6_lowestBits_49 hlocks
    · have h := zk_f c_3 h
      by_cases c_4 : pl_holds = (2 : Int32)
      · have h := zk_t c_4 h
        refine lv_tableIn (tgt := 50) hx hb dX6_lowestBits_4 (by rw [c_4]; decide) (by rw [c_4]; decide) (by rw [c_4]; rfl) (by decide) ?_
        refine lv_lload_n hx hb dX6_lowestBits_50 rfl (lv_at hl 1 rfl) ?_
        refine lv_l2i (v := x1.toInt32) hx hb dX6_lowestBits_51 rfl ?_
        refine lv_i2l (v := x1.toInt32.toInt64) hx hb dX6_lowestBits_52 rfl ?_
        exact W.lret (v := x1.toInt32.toInt64) hx hb hr (fun t ht2 hW => ⟨⟨x1.toInt32.toInt64, (), rfl, Option.some.inj h, by rw [ht2]; exact hP, hD⟩, hS.F ht2⟩) hS.2.2 dX6_lowestBits_53 hlocks
      · have h := zk_f c_4 h
        by_cases c_5 : pl_holds = (3 : Int32)
        · have h := zk_t c_5 h
          refine lv_tableIn (tgt := 66) hx hb dX6_lowestBits_4 (by rw [c_5]; decide) (by rw [c_5]; decide) (by rw [c_5]; rfl) (by decide) ?_
          refine lv_lload_n hx hb dX6_lowestBits_66 rfl (lv_at hl 1 rfl) ?_
          exact W.lret (v := x1) hx hb hr (fun t ht2 hW => ⟨⟨x1, (), rfl, Option.some.inj h, by rw [ht2]; exact hP, hD⟩, hS.F ht2⟩) hS.2.2 dX6_lowestBits_67 hlocks
        · have h := zk_f c_5 h
          by_cases c_6 : pl_holds = (4 : Int32)
          · have h := zk_t c_6 h
            refine lv_tableIn (tgt := 54) hx hb dX6_lowestBits_4 (by rw [c_6]; decide) (by rw [c_6]; decide) (by rw [c_6]; rfl) (by decide) ?_
            refine lv_lload_n hx hb dX6_lowestBits_54 rfl (lv_at hl 1 rfl) ?_
            refine lv_lconst (v := (0 : Int64)) hx hb dX6_lowestBits_55 (by decide) ?_
            refine W.lcmp hx hb dX6_lowestBits_56 ?_
            refine lv_if_eq (tgt := 64) hx hb dX6_lowestBits_57 (by decide) (fun c_1 => ?_) (fun c_1 => ?_)
            · have h := zk_t c_1 h
              refine lv_lconst (v := (0 : Int64)) hx hb dX6_lowestBits_64 (by decide) ?_
              exact W.lret (v := (0 : Int64)) hx hb hr (fun t ht2 hW => ⟨⟨(0 : Int64), (), rfl, Option.some.inj h, by rw [ht2]; exact hP, hD⟩, hS.F ht2⟩) hS.2.2 dX6_lowestBits_65 hlocks
            · have h := zk_f c_1 h
              refine lv_lconst (v := (1 : Int64)) hx hb dX6_lowestBits_60 (by decide) ?_
              refine lv_goto (tgt := 65) hx hb dX6_lowestBits_61 (by decide) ?_
              exact W.lret (v := (1 : Int64)) hx hb hr (fun t ht2 hW => ⟨⟨(1 : Int64), (), rfl, Option.some.inj h, by rw [ht2]; exact hP, hD⟩, hS.F ht2⟩) hS.2.2 dX6_lowestBits_65 hlocks
          · have h := zk_f c_6 h
            refine lv_tableOut (tgt := 66) hx hb dX6_lowestBits_4 (zk_out (lo := 0) (hi := 4) [(0 : Int32), (1 : Int32), (2 : Int32), (3 : Int32), (4 : Int32)] (by decide +kernel) (List.forall_mem_cons.mpr ⟨c_2, List.forall_mem_cons.mpr ⟨c_3, List.forall_mem_cons.mpr ⟨c_4, List.forall_mem_cons.mpr ⟨c_5, List.forall_mem_cons.mpr ⟨c_6, fun _ h => absurd h List.not_mem_nil⟩⟩⟩⟩⟩)) (by decide) ?_
            refine lv_lload_n hx hb dX6_lowestBits_66 rfl (lv_at hl 1 rfl) ?_
            exact W.lret (v := x1) hx hb hr (fun t ht2 hW => ⟨⟨x1, (), rfl, Option.some.inj h, by rw [ht2]; exact hP, hD⟩, hS.F ht2⟩) hS.2.2 dX6_lowestBits_67 hlocks
set_option maxHeartbeats 4000000 in
set_option maxRecDepth 100000 in
theorem c_X6_lowestBits (l : Launch) (D : va_G) (cs : Nat → ClassId) (ad : Nat → Nat) (h_pl : Nat) (h_pl_elements : Nat) (sz : Nat) (x1 : Int64) (pl_holds : Int32) (pl_suit : Int32) (pl_size : Int32) (R : Int64 × Unit) (h : f_X6_lowestBits   x1 pl_holds pl_suit pl_size = some R) : Met l yX6_lowestBits (z_X6_lowestBits) rm_X6_lowestBits (va_Pc [.ref h_pl, .long x1] (zPre D cs (wl_X6_lowestBits ad cs h_pl h_pl_elements pl_holds pl_suit pl_size) sz)) (Q_X6_lowestBits D cs ad h_pl h_pl_elements pl_holds pl_suit pl_size (va_A (wl_X6_lowestBits ad cs h_pl h_pl_elements pl_holds pl_suit pl_size) sz) R) 0 0 (va_A (wl_X6_lowestBits ad cs h_pl h_pl_elements pl_holds pl_suit pl_size) sz) := by
  refine Met.ofW (cc := cX6_lowestBits) (maxL := 3) (ret := (some .long)) (by decide) rfl ?_
  intro p e s m args below meth c s₁ B hml hv
  obtain ⟨rfl, hsz, hP, hK, hD0⟩ := hv
  subst hsz
  have hD := hD0.self (sz := s.heap.size)
  have C0 : zC p s m _ meth c cX6_lowestBits 3 (some .long) RX6 zW := ⟨B.exec, B.bytes, B.returns, hml, findClass_of_methodNamed B.named, fun w hw => atoms_spec (ws := z_X6_lowestBits) B.pre w (List.mem_cons_of_mem _ hw), B.notSynchronized⟩
  have hA : ∀ q : Nat, s.heap.size ≤ q → va_A (wl_X6_lowestBits ad cs h_pl h_pl_elements pl_holds pl_suit pl_size) s.heap.size q := fun q h => Or.inr h
  have hl := lv_entry ([.ref h_pl, .long x1]) (n := 3) (Nat.le_of_ble_eq_true rfl)
  rw [lg_entry_eq]
  generalize (lg_sl ([.ref h_pl, .long x1]) ++ List.replicate (3 - (lg_sl ([.ref h_pl, .long x1])).length) Slot.unset).toArray = ls at hl ⊢
  exact L_X6_lowestBits_0 C0 hK hA   x1  h s.heap [] ls hP hD va_S.rf hl
theorem kw_455 : Cond.fieldLink RX0 15 "AlreadyJudged$Acts" "ran" "I" ∈ zW := zwC (i := 141) zc_2 rfl rfl
theorem kw_457 : Cond.fieldLink RX0 19 "AlreadyJudged$Acts" "kind" "I" ∈ zW := zwC (i := 143) zc_2 rfl rfl
theorem kw_459 : Cond.fieldLink RX0 22 "AlreadyJudged$Acts" "number" "I" ∈ zW := zwC (i := 145) zc_2 rfl rfl
theorem kw_460 : Cond.fieldLink RX0 25 "AlreadyJudged$Acts" "claims" "I" ∈ zW := zwC (i := 146) zc_2 rfl rfl
theorem zh_cX0_begin_0 : zck [42, 3, 181, 0, 15, 42, 27, 181, 0, 19, 42, 28, 181, 0, 22, 42, 29, 181, 0, 25, 177] (zdu 0 cX0_begin.data.toList) = true := by decide +kernel
theorem dX0_begin_0 : decode cX0_begin 0 = .ok (.aload_n 0, 1) := zo_42 zh_cX0_begin_0 0 rfl
theorem dX0_begin_1 : decode cX0_begin 1 = .ok (.iconst 0, 1) := zo_3 zh_cX0_begin_0 1 rfl
theorem dX0_begin_2 : decode cX0_begin 2 = .ok (.putfield 15, 3) := zo_181 zh_cX0_begin_0 2 rfl
theorem dX0_begin_5 : decode cX0_begin 5 = .ok (.aload_n 0, 1) := zo_42 zh_cX0_begin_0 5 rfl
theorem dX0_begin_6 : decode cX0_begin 6 = .ok (.iload_n 1, 1) := zo_27 zh_cX0_begin_0 6 rfl
theorem dX0_begin_7 : decode cX0_begin 7 = .ok (.putfield 19, 3) := zo_181 zh_cX0_begin_0 7 rfl
theorem dX0_begin_10 : decode cX0_begin 10 = .ok (.aload_n 0, 1) := zo_42 zh_cX0_begin_0 10 rfl
theorem dX0_begin_11 : decode cX0_begin 11 = .ok (.iload_n 2, 1) := zo_28 zh_cX0_begin_0 11 rfl
theorem dX0_begin_12 : decode cX0_begin 12 = .ok (.putfield 22, 3) := zo_181 zh_cX0_begin_0 12 rfl
theorem dX0_begin_15 : decode cX0_begin 15 = .ok (.aload_n 0, 1) := zo_42 zh_cX0_begin_0 15 rfl
theorem dX0_begin_16 : decode cX0_begin 16 = .ok (.iload_n 3, 1) := zo_29 zh_cX0_begin_0 16 rfl
theorem dX0_begin_17 : decode cX0_begin 17 = .ok (.putfield 25, 3) := zo_181 zh_cX0_begin_0 17 rfl
theorem zh_cX0_begin_1 : zck [177] (zdu 20 cX0_begin.data.toList) = true := by decide +kernel
theorem dX0_begin_20 : decode cX0_begin 20 = .ok (.return_, 1) := zo_177 zh_cX0_begin_1 0 rfl
abbrev z_X0_begin : List Cond := .code yX0_begin cX0_begin 4 none :: zW
abbrev wl_X0_begin (ad : Nat → Nat) (cs : Nat → ClassId)  (acts_ran : Int32) (acts_kind : Int32) (acts_number : Int32) (acts_claims : Int32) : va_W := [((ad 39), .inr (0, [.ref (ad 40), .int acts_ran, .int acts_kind, .int acts_number, .int acts_claims]))]
def Q_X0_begin (D : va_G) (cs : Nat → ClassId) (ad : Nat → Nat)   (A : Nat → Prop) (R : Int32 × Int32 × Int32 × Int32) : Array Value → State → Outcome → State → Prop :=
  va_Qv (fun u : Int32 × Int32 × Int32 × Int32 => u = R) (fun (u : Int32 × Int32 × Int32 × Int32) (t : State) => va_P D classes (wl_X0_begin ad cs u.1 u.2.1 u.2.2.1 u.2.2.2) t.heap ∧ va_D A (wl_X0_begin ad cs u.1 u.2.1 u.2.2.1 u.2.2.2)) A
abbrev rm_X0_begin : Room := { frames := 0, cells := 0, slots := 0, locals := 0 }
def B_X0_begin_0     (x1 : Int32) (x2 : Int32) (x3 : Int32) (acts_ran : Int32) (acts_kind : Int32) (acts_number : Int32) (acts_claims : Int32) : Option (Int32 × Int32 × Int32 × Int32) :=
  (some ((0 : Int32), x1, x2, x3))
def f_X0_begin   (x1 : Int32) (x2 : Int32) (x3 : Int32) (acts_ran : Int32) (acts_kind : Int32) (acts_number : Int32) (acts_claims : Int32) : Option (Int32 × Int32 × Int32 × Int32) := B_X0_begin_0    x1 x2 x3 acts_ran acts_kind acts_number acts_claims
set_option maxHeartbeats 4000000 in
set_option maxRecDepth 100000 in
theorem L_X0_begin_0 {p : Program} {l : Launch} {e : Env} {s : State} {m : MethodId} {args : Array Value} {below : List Frame} {meth : Method} {c : Code} {A : Nat → Prop} {D : va_G} {cs : Nat → ClassId} {ad : Nat → Nat} {R : Int32 × Int32 × Int32 × Int32} (C0 : zC p s m args meth c cX0_begin 4 none RX0 zW) (hK : va_K D classes (zT cs) s) (hA : ∀ q : Nat, s.heap.size ≤ q → A q) (x1 : Int32) (x2 : Int32) (x3 : Int32) (acts_ran : Int32) (acts_kind : Int32) (acts_number : Int32) (acts_claims : Int32) (h : B_X0_begin_0 x1 x2 x3 acts_ran acts_kind acts_number acts_claims = some R) (H : Heap) (locs : List Loc) (ls : Array Slot) (hP : va_P D classes (wl_X0_begin ad cs acts_ran acts_kind acts_number acts_claims) H) (hD : va_D A (wl_X0_begin ad cs acts_ran acts_kind acts_number acts_claims)) (hS : va_S A s.heap H locs) (hl : lv_has ls 4 [(0, .ref (ad 39)), (1, .int x1), (2, .int x2), (3, .int x3)]) : W p l e rm_X0_begin s m args below meth c H locs 0 0 (MQ below (Q_X0_begin D cs ad  A R) args s 0 0 A) (F0 m 0 ls []) := by
  obtain ⟨hx, hb, hr, hml, hown, ht, hlocks⟩ := id C0
  refine lv_aload_n hx hb dX0_begin_0 rfl (lv_at hl 0 rfl) ?_
  refine lv_iconst (v := (0 : Int32)) hx hb dX0_begin_1 (by decide) ?_
  refine va_put (D := D) (ci := 0) (v := .int (0 : Int32)) (ty := .int) (C := RX0) (T := TX0) (N := 5) hx hb ht iX0 tyX0 tyX0_ok nmX0 hown hK hP hD hS 0 rfl rfl 1 (by decide) (ht _ kw_455) (fun _ h9 => h9) rfl (by decide +kernel) rfl rfl (Nat.le_of_ble_eq_true rfl) dX0_begin_2 (fun H locs hP hD hS => ?_)
  have hP : va_P D classes (wl_X0_begin ad cs (0 : Int32) acts_kind acts_number acts_claims) H := hP
  have hD : va_D A (wl_X0_begin ad cs (0 : Int32) acts_kind acts_number acts_claims) := hD
  refine lv_aload_n hx hb dX0_begin_5 rfl (lv_at hl 0 rfl) ?_
  refine lv_iload_n hx hb dX0_begin_6 rfl (lv_at hl 1 rfl) ?_
  refine va_put (D := D) (ci := 0) (v := .int x1) (ty := .int) (C := RX0) (T := TX0) (N := 5) hx hb ht iX0 tyX0 tyX0_ok nmX0 hown hK hP hD hS 0 rfl rfl 2 (by decide) (ht _ kw_457) (fun _ h9 => h9) rfl (by decide +kernel) rfl rfl (Nat.le_of_ble_eq_true rfl) dX0_begin_7 (fun H locs hP hD hS => ?_)
  have hP : va_P D classes (wl_X0_begin ad cs (0 : Int32) x1 acts_number acts_claims) H := hP
  have hD : va_D A (wl_X0_begin ad cs (0 : Int32) x1 acts_number acts_claims) := hD
  refine lv_aload_n hx hb dX0_begin_10 rfl (lv_at hl 0 rfl) ?_
  refine lv_iload_n hx hb dX0_begin_11 rfl (lv_at hl 2 rfl) ?_
  refine va_put (D := D) (ci := 0) (v := .int x2) (ty := .int) (C := RX0) (T := TX0) (N := 5) hx hb ht iX0 tyX0 tyX0_ok nmX0 hown hK hP hD hS 0 rfl rfl 3 (by decide) (ht _ kw_459) (fun _ h9 => h9) rfl (by decide +kernel) rfl rfl (Nat.le_of_ble_eq_true rfl) dX0_begin_12 (fun H locs hP hD hS => ?_)
  have hP : va_P D classes (wl_X0_begin ad cs (0 : Int32) x1 x2 acts_claims) H := hP
  have hD : va_D A (wl_X0_begin ad cs (0 : Int32) x1 x2 acts_claims) := hD
  refine lv_aload_n hx hb dX0_begin_15 rfl (lv_at hl 0 rfl) ?_
  refine lv_iload_n hx hb dX0_begin_16 rfl (lv_at hl 3 rfl) ?_
  refine va_put (D := D) (ci := 0) (v := .int x3) (ty := .int) (C := RX0) (T := TX0) (N := 5) hx hb ht iX0 tyX0 tyX0_ok nmX0 hown hK hP hD hS 0 rfl rfl 4 (by decide) (ht _ kw_460) (fun _ h9 => h9) rfl (by decide +kernel) rfl rfl (Nat.le_of_ble_eq_true rfl) dX0_begin_17 (fun H locs hP hD hS => ?_)
  have hP : va_P D classes (wl_X0_begin ad cs (0 : Int32) x1 x2 x3) H := hP
  have hD : va_D A (wl_X0_begin ad cs (0 : Int32) x1 x2 x3) := hD
  exact W.vret hx hb hr (fun t ht2 hW => ⟨⟨((0 : Int32), x1, x2, x3), rfl, Option.some.inj h, by rw [ht2]; exact hP, hD⟩, hS.F ht2⟩) hS.2.2 dX0_begin_20 hlocks
set_option maxHeartbeats 4000000 in
set_option maxRecDepth 100000 in
theorem c_X0_begin (l : Launch) (D : va_G) (cs : Nat → ClassId) (ad : Nat → Nat) (sz : Nat) (x1 : Int32) (x2 : Int32) (x3 : Int32) (acts_ran : Int32) (acts_kind : Int32) (acts_number : Int32) (acts_claims : Int32) (R : Int32 × Int32 × Int32 × Int32) (h : f_X0_begin   x1 x2 x3 acts_ran acts_kind acts_number acts_claims = some R) : Met l yX0_begin (z_X0_begin) rm_X0_begin (va_Pc [.ref (ad 39), .int x1, .int x2, .int x3] (zPre D cs (wl_X0_begin ad cs acts_ran acts_kind acts_number acts_claims) sz)) (Q_X0_begin D cs ad  (va_A (wl_X0_begin ad cs acts_ran acts_kind acts_number acts_claims) sz) R) 0 0 (va_A (wl_X0_begin ad cs acts_ran acts_kind acts_number acts_claims) sz) := by
  refine Met.ofW (cc := cX0_begin) (maxL := 4) (ret := none) (by decide) rfl ?_
  intro p e s m args below meth c s₁ B hml hv
  obtain ⟨rfl, hsz, hP, hK, hD0⟩ := hv
  subst hsz
  have hD := hD0.self (sz := s.heap.size)
  have C0 : zC p s m _ meth c cX0_begin 4 none RX0 zW := ⟨B.exec, B.bytes, B.returns, hml, findClass_of_methodNamed B.named, fun w hw => atoms_spec (ws := z_X0_begin) B.pre w (List.mem_cons_of_mem _ hw), B.notSynchronized⟩
  have hA : ∀ q : Nat, s.heap.size ≤ q → va_A (wl_X0_begin ad cs acts_ran acts_kind acts_number acts_claims) s.heap.size q := fun q h => Or.inr h
  have hl := lv_entry ([.ref (ad 39), .int x1, .int x2, .int x3]) (n := 4) (Nat.le_of_ble_eq_true rfl)
  rw [lg_entry_eq]
  generalize (lg_sl ([.ref (ad 39), .int x1, .int x2, .int x3]) ++ List.replicate (4 - (lg_sl ([.ref (ad 39), .int x1, .int x2, .int x3])).length) Slot.unset).toArray = ls at hl ⊢
  exact L_X0_begin_0 C0 hK hA   x1 x2 x3 acts_ran acts_kind acts_number acts_claims h s.heap [] ls hP hD va_S.rf hl
theorem zh_cX0_above_0 : zck [26, 170, 0, 0, 0, 0, 0, 33, 0, 0, 0, 4, 0, 0, 0, 6, 0, 0, 0, 27, 0, 0] (zdu 0 cX0_above.data.toList) = true := by decide +kernel
theorem dX0_above_0 : decode cX0_above 0 = .ok (.iload_n 0, 1) := zo_26 zh_cX0_above_0 0 rfl
theorem dX0_above_1 : decode cX0_above 1 = .ok (.tableswitch 33 4 6 #[27, 29, 31], 27) := by decide +kernel
theorem zh_cX0_above_1 : zck [0, 0, 0, 29, 0, 0, 0, 31, 6, 172, 5, 172, 4, 172, 3, 172] (zdu 20 cX0_above.data.toList) = true := by decide +kernel
theorem dX0_above_28 : decode cX0_above 28 = .ok (.iconst 3, 1) := zo_6 zh_cX0_above_1 8 rfl
theorem dX0_above_29 : decode cX0_above 29 = .ok (.ireturn, 1) := zo_172 zh_cX0_above_1 9 rfl
theorem dX0_above_30 : decode cX0_above 30 = .ok (.iconst 2, 1) := zo_5 zh_cX0_above_1 10 rfl
theorem dX0_above_31 : decode cX0_above 31 = .ok (.ireturn, 1) := zo_172 zh_cX0_above_1 11 rfl
theorem dX0_above_32 : decode cX0_above 32 = .ok (.iconst 1, 1) := zo_4 zh_cX0_above_1 12 rfl
theorem dX0_above_33 : decode cX0_above 33 = .ok (.ireturn, 1) := zo_172 zh_cX0_above_1 13 rfl
theorem dX0_above_34 : decode cX0_above 34 = .ok (.iconst 0, 1) := zo_3 zh_cX0_above_1 14 rfl
theorem dX0_above_35 : decode cX0_above 35 = .ok (.ireturn, 1) := zo_172 zh_cX0_above_1 15 rfl
abbrev z_X0_above : List Cond := .code yX0_above cX0_above 1 (some .int) :: zW
abbrev wl_X0_above (ad : Nat → Nat) (cs : Nat → ClassId)   : va_W := []
def Q_X0_above (D : va_G) (cs : Nat → ClassId) (ad : Nat → Nat)   (A : Nat → Prop) (R : Int32 × Unit) : Array Value → State → Outcome → State → Prop :=
  va_Qi (fun (r : Int32) (u : Unit) => (r, u) = R) (fun (u : Unit) (t : State) => va_P D classes (wl_X0_above ad cs ) t.heap ∧ va_D A (wl_X0_above ad cs )) A
abbrev rm_X0_above : Room := { frames := 0, cells := 0, slots := 0, locals := 0 }
def B_X0_above_0     (x0 : Int32) : Option (Int32 × Unit) :=
  (if x0 = (4 : Int32) then (some ((3 : Int32), ())) else (if x0 = (5 : Int32) then (some ((2 : Int32), ())) else (if x0 = (6 : Int32) then (some ((1 : Int32), ())) else (some ((0 : Int32), ())))))
def f_X0_above   (x0 : Int32)  : Option (Int32 × Unit) := B_X0_above_0    x0 
set_option maxHeartbeats 4000000 in
set_option maxRecDepth 100000 in
theorem L_X0_above_0 {p : Program} {l : Launch} {e : Env} {s : State} {m : MethodId} {args : Array Value} {below : List Frame} {meth : Method} {c : Code} {A : Nat → Prop} {D : va_G} {cs : Nat → ClassId} {ad : Nat → Nat} {R : Int32 × Unit} (C0 : zC p s m args meth c cX0_above 1 (some .int) RX0 zW) (hK : va_K D classes (zT cs) s) (hA : ∀ q : Nat, s.heap.size ≤ q → A q) (x0 : Int32) (h : B_X0_above_0 x0 = some R) (H : Heap) (locs : List Loc) (ls : Array Slot) (hP : va_P D classes (wl_X0_above ad cs ) H) (hD : va_D A (wl_X0_above ad cs )) (hS : va_S A s.heap H locs) (hl : lv_has ls 1 [(0, .int x0)]) : W p l e rm_X0_above s m args below meth c H locs 0 0 (MQ below (Q_X0_above D cs ad  A R) args s 0 0 A) (F0 m 0 ls []) := by
  obtain ⟨hx, hb, hr, hml, hown, ht, hlocks⟩ := id C0
  refine lv_iload_n hx hb dX0_above_0 rfl (lv_at hl 0 rfl) ?_
  by_cases c_1 : x0 = (4 : Int32)
  · have h := zk_t c_1 h
    refine lv_tableIn (tgt := 28) hx hb dX0_above_1 (by rw [c_1]; decide) (by rw [c_1]; decide) (by rw [c_1]; rfl) (by decide) ?_
    refine lv_iconst (v := (3 : Int32)) hx hb dX0_above_28 (by decide) ?_
    exact W.iret (v := (3 : Int32)) hx hb hr (fun t ht2 hW => ⟨⟨(3 : Int32), (), rfl, Option.some.inj h, by rw [ht2]; exact hP, hD⟩, hS.F ht2⟩) hS.2.2 dX0_above_29 hlocks
  · have h := zk_f c_1 h
    by_cases c_2 : x0 = (5 : Int32)
    · have h := zk_t c_2 h
      refine lv_tableIn (tgt := 30) hx hb dX0_above_1 (by rw [c_2]; decide) (by rw [c_2]; decide) (by rw [c_2]; rfl) (by decide) ?_
      refine lv_iconst (v := (2 : Int32)) hx hb dX0_above_30 (by decide) ?_
      exact W.iret (v := (2 : Int32)) hx hb hr (fun t ht2 hW => ⟨⟨(2 : Int32), (), rfl, Option.some.inj h, by rw [ht2]; exact hP, hD⟩, hS.F ht2⟩) hS.2.2 dX0_above_31 hlocks
    · have h := zk_f c_2 h
      by_cases c_3 : x0 = (6 : Int32)
      · have h := zk_t c_3 h
        refine lv_tableIn (tgt := 32) hx hb dX0_above_1 (by rw [c_3]; decide) (by rw [c_3]; decide) (by rw [c_3]; rfl) (by decide) ?_
        refine lv_iconst (v := (1 : Int32)) hx hb dX0_above_32 (by decide) ?_
        exact W.iret (v := (1 : Int32)) hx hb hr (fun t ht2 hW => ⟨⟨(1 : Int32), (), rfl, Option.some.inj h, by rw [ht2]; exact hP, hD⟩, hS.F ht2⟩) hS.2.2 dX0_above_33 hlocks
      · have h := zk_f c_3 h
        refine lv_tableOut (tgt := 34) hx hb dX0_above_1 (zk_out (lo := 4) (hi := 6) [(4 : Int32), (5 : Int32), (6 : Int32)] (by decide +kernel) (List.forall_mem_cons.mpr ⟨c_1, List.forall_mem_cons.mpr ⟨c_2, List.forall_mem_cons.mpr ⟨c_3, fun _ h => absurd h List.not_mem_nil⟩⟩⟩)) (by decide) ?_
        refine lv_iconst (v := (0 : Int32)) hx hb dX0_above_34 (by decide) ?_
        exact W.iret (v := (0 : Int32)) hx hb hr (fun t ht2 hW => ⟨⟨(0 : Int32), (), rfl, Option.some.inj h, by rw [ht2]; exact hP, hD⟩, hS.F ht2⟩) hS.2.2 dX0_above_35 hlocks
set_option maxHeartbeats 4000000 in
set_option maxRecDepth 100000 in
theorem c_X0_above (l : Launch) (D : va_G) (cs : Nat → ClassId) (ad : Nat → Nat) (sz : Nat) (x0 : Int32)  (R : Int32 × Unit) (h : f_X0_above   x0  = some R) : Met l yX0_above (z_X0_above) rm_X0_above (va_Pc [.int x0] (zPre D cs (wl_X0_above ad cs ) sz)) (Q_X0_above D cs ad  (va_A (wl_X0_above ad cs ) sz) R) 0 0 (va_A (wl_X0_above ad cs ) sz) := by
  refine Met.ofW (cc := cX0_above) (maxL := 1) (ret := (some .int)) (by decide) rfl ?_
  intro p e s m args below meth c s₁ B hml hv
  obtain ⟨rfl, hsz, hP, hK, hD0⟩ := hv
  subst hsz
  have hD := hD0.self (sz := s.heap.size)
  have C0 : zC p s m _ meth c cX0_above 1 (some .int) RX0 zW := ⟨B.exec, B.bytes, B.returns, hml, findClass_of_methodNamed B.named, fun w hw => atoms_spec (ws := z_X0_above) B.pre w (List.mem_cons_of_mem _ hw), B.notSynchronized⟩
  have hA : ∀ q : Nat, s.heap.size ≤ q → va_A (wl_X0_above ad cs ) s.heap.size q := fun q h => Or.inr h
  have hl := lv_entry ([.int x0]) (n := 1) (Nat.le_of_ble_eq_true rfl)
  rw [lg_entry_eq]
  generalize (lg_sl ([.int x0]) ++ List.replicate (1 - (lg_sl ([.int x0])).length) Slot.unset).toArray = ls at hl ⊢
  exact L_X0_above_0 C0 hK hA   x0  h s.heap [] ls hP hD va_S.rf hl
theorem kw_453 : Cond.fieldLink RX0 9 "AlreadyJudged$Acts" "bodies" "[I" ∈ zW := zwC (i := 139) zc_2 rfl rfl
theorem zh_cX0_note_0 : zck [42, 180, 0, 15, 16, 24, 162, 0, 13, 42, 180, 0, 9, 42, 180, 0, 15, 27, 79, 42, 89, 180] (zdu 0 cX0_note.data.toList) = true := by decide +kernel
theorem dX0_note_0 : decode cX0_note 0 = .ok (.aload_n 0, 1) := zo_42 zh_cX0_note_0 0 rfl
theorem dX0_note_1 : decode cX0_note 1 = .ok (.getfield 15, 3) := zo_180 zh_cX0_note_0 1 rfl
theorem dX0_note_4 : decode cX0_note 4 = .ok (.bipush 24, 2) := zo_p16 zh_cX0_note_0 4 24 rfl rfl
theorem dX0_note_6 : decode cX0_note 6 = .ok (.if_icmp .ge 13, 3) := zo_p162 zh_cX0_note_0 6 13 rfl rfl
theorem dX0_note_9 : decode cX0_note 9 = .ok (.aload_n 0, 1) := zo_42 zh_cX0_note_0 9 rfl
theorem dX0_note_10 : decode cX0_note 10 = .ok (.getfield 9, 3) := zo_180 zh_cX0_note_0 10 rfl
theorem dX0_note_13 : decode cX0_note 13 = .ok (.aload_n 0, 1) := zo_42 zh_cX0_note_0 13 rfl
theorem dX0_note_14 : decode cX0_note 14 = .ok (.getfield 15, 3) := zo_180 zh_cX0_note_0 14 rfl
theorem dX0_note_17 : decode cX0_note 17 = .ok (.iload_n 1, 1) := zo_27 zh_cX0_note_0 17 rfl
theorem dX0_note_18 : decode cX0_note 18 = .ok (.iastore, 1) := zo_79 zh_cX0_note_0 18 rfl
theorem dX0_note_19 : decode cX0_note 19 = .ok (.aload_n 0, 1) := zo_42 zh_cX0_note_0 19 rfl
theorem zh_cX0_note_1 : zck [89, 180, 0, 15, 4, 96, 181, 0, 15, 177] (zdu 20 cX0_note.data.toList) = true := by decide +kernel
theorem dX0_note_20 : decode cX0_note 20 = .ok (.dup, 1) := zo_89 zh_cX0_note_1 0 rfl
theorem dX0_note_21 : decode cX0_note 21 = .ok (.getfield 15, 3) := zo_180 zh_cX0_note_1 1 rfl
theorem dX0_note_24 : decode cX0_note 24 = .ok (.iconst 1, 1) := zo_4 zh_cX0_note_1 4 rfl
theorem dX0_note_25 : decode cX0_note 25 = .ok (.iadd, 1) := zo_96 zh_cX0_note_1 5 rfl
theorem dX0_note_26 : decode cX0_note 26 = .ok (.putfield 15, 3) := zo_181 zh_cX0_note_1 6 rfl
theorem dX0_note_29 : decode cX0_note 29 = .ok (.return_, 1) := zo_177 zh_cX0_note_1 9 rfl
abbrev z_X0_note : List Cond := .code yX0_note cX0_note 2 none :: zW
abbrev wl_X0_note (ad : Nat → Nat) (cs : Nat → ClassId)  (acts_ran : Int32) (acts_kind : Int32) (acts_number : Int32) (acts_claims : Int32) (acts_bodies : Nat → Int32) : va_W := [((ad 39), .inr (0, [.ref (ad 40), .int acts_ran, .int acts_kind, .int acts_number, .int acts_claims])), ((ad 40), .inl (cs 0, 24, .inl acts_bodies))]
def Q_X0_note (D : va_G) (cs : Nat → ClassId) (ad : Nat → Nat)  (acts_kind : Int32) (acts_number : Int32) (acts_claims : Int32) (A : Nat → Prop) (R : Int32 × (Nat → Int32)) : Array Value → State → Outcome → State → Prop :=
  va_Qv (fun u : Int32 × (Nat → Int32) => u = R) (fun (u : Int32 × (Nat → Int32)) (t : State) => va_P D classes (wl_X0_note ad cs u.1 acts_kind acts_number acts_claims u.2) t.heap ∧ va_D A (wl_X0_note ad cs u.1 acts_kind acts_number acts_claims u.2)) A
abbrev rm_X0_note : Room := { frames := 0, cells := 0, slots := 0, locals := 0 }
def B_X0_note_19    (acts_kind : Int32) (acts_number : Int32) (acts_claims : Int32) (acts_ran : Int32) (acts_bodies : Nat → Int32) : Option (Int32 × (Nat → Int32)) :=
  (zk_let (acts_ran + (1 : Int32)) (fun v_4 => (some (v_4, acts_bodies))))
def B_X0_note_0    (acts_kind : Int32) (acts_number : Int32) (acts_claims : Int32) (x1 : Int32) (acts_ran : Int32) (acts_bodies : Nat → Int32) : Option (Int32 × (Nat → Int32)) :=
  (if (24 : Int32) ≤ acts_ran then (B_X0_note_19 acts_kind acts_number acts_claims acts_ran acts_bodies) else (if (acts_ran < 0 ∨ 24 ≤ acts_ran.toNatClampNeg) then none else (zk_let (upd acts_bodies acts_ran.toNatClampNeg x1) (fun f_3 => (B_X0_note_19 acts_kind acts_number acts_claims acts_ran f_3)))))
def f_X0_note   (x1 : Int32) (acts_ran : Int32) (acts_kind : Int32) (acts_number : Int32) (acts_claims : Int32) (acts_bodies : Nat → Int32) : Option (Int32 × (Nat → Int32)) := B_X0_note_0   acts_kind acts_number acts_claims x1 acts_ran acts_bodies
set_option maxHeartbeats 4000000 in
set_option maxRecDepth 100000 in
theorem L_X0_note_19 {p : Program} {l : Launch} {e : Env} {s : State} {m : MethodId} {args : Array Value} {below : List Frame} {meth : Method} {c : Code} {A : Nat → Prop} {D : va_G} {cs : Nat → ClassId} {ad : Nat → Nat} {acts_kind : Int32} {acts_number : Int32} {acts_claims : Int32} {R : Int32 × (Nat → Int32)} (C0 : zC p s m args meth c cX0_note 2 none RX0 zW) (hK : va_K D classes (zT cs) s) (hA : ∀ q : Nat, s.heap.size ≤ q → A q) (acts_ran : Int32) (acts_bodies : Nat → Int32) (h : B_X0_note_19 acts_kind acts_number acts_claims acts_ran acts_bodies = some R) (H : Heap) (locs : List Loc) (ls : Array Slot) (hP : va_P D classes (wl_X0_note ad cs acts_ran acts_kind acts_number acts_claims acts_bodies) H) (hD : va_D A (wl_X0_note ad cs acts_ran acts_kind acts_number acts_claims acts_bodies)) (hS : va_S A s.heap H locs) (hl : lv_has ls 2 [(0, .ref (ad 39))]) : W p l e rm_X0_note s m args below meth c H locs 0 0 (MQ below (Q_X0_note D cs ad acts_kind acts_number acts_claims A R) args s 0 0 A) (F0 m 19 ls []) := by
  obtain ⟨hx, hb, hr, hml, hown, ht, hlocks⟩ := id C0
  refine lv_aload_n hx hb dX0_note_19 rfl (lv_at hl 0 rfl) ?_
  refine lv_dup hx hb dX0_note_20 rfl ?_
  refine va_get (D := D) (ci := 0) (v := .int acts_ran) (C := RX0) (T := TX0) (N := 5) hx hb ht iX0 hown hK hP 0 rfl rfl 1 (by decide) (ht _ kw_455) (fun _ h9 => h9) rfl dX0_note_21 ?_
  refine lv_iconst (v := (1 : Int32)) hx hb dX0_note_24 (by decide) ?_
  refine lv_iadd hx hb dX0_note_25 ?_
  obtain ⟨v_4, ev_4, h⟩ := zk_lt h
  refine W.eq (g2 := F0 m 26 ls [.int v_4, .ref (ad 39)]) (by rw [ev_4]) ?_
  refine va_put (D := D) (ci := 0) (v := .int v_4) (ty := .int) (C := RX0) (T := TX0) (N := 5) hx hb ht iX0 tyX0 tyX0_ok nmX0 hown hK hP hD hS 0 rfl rfl 1 (by decide) (ht _ kw_455) (fun _ h9 => h9) rfl (by decide +kernel) rfl rfl (Nat.le_of_ble_eq_true rfl) dX0_note_26 (fun H locs hP hD hS => ?_)
  have hP : va_P D classes (wl_X0_note ad cs v_4 acts_kind acts_number acts_claims acts_bodies) H := hP
  have hD : va_D A (wl_X0_note ad cs v_4 acts_kind acts_number acts_claims acts_bodies) := hD
  exact W.vret hx hb hr (fun t ht2 hW => ⟨⟨(v_4, acts_bodies), rfl, Option.some.inj h, by rw [ht2]; exact hP, hD⟩, hS.F ht2⟩) hS.2.2 dX0_note_29 hlocks
set_option maxHeartbeats 4000000 in
set_option maxRecDepth 100000 in
theorem L_X0_note_0 {p : Program} {l : Launch} {e : Env} {s : State} {m : MethodId} {args : Array Value} {below : List Frame} {meth : Method} {c : Code} {A : Nat → Prop} {D : va_G} {cs : Nat → ClassId} {ad : Nat → Nat} {acts_kind : Int32} {acts_number : Int32} {acts_claims : Int32} {R : Int32 × (Nat → Int32)} (C0 : zC p s m args meth c cX0_note 2 none RX0 zW) (hK : va_K D classes (zT cs) s) (hA : ∀ q : Nat, s.heap.size ≤ q → A q) (x1 : Int32) (acts_ran : Int32) (acts_bodies : Nat → Int32) (h : B_X0_note_0 acts_kind acts_number acts_claims x1 acts_ran acts_bodies = some R) (H : Heap) (locs : List Loc) (ls : Array Slot) (hP : va_P D classes (wl_X0_note ad cs acts_ran acts_kind acts_number acts_claims acts_bodies) H) (hD : va_D A (wl_X0_note ad cs acts_ran acts_kind acts_number acts_claims acts_bodies)) (hS : va_S A s.heap H locs) (hl : lv_has ls 2 [(0, .ref (ad 39)), (1, .int x1)]) : W p l e rm_X0_note s m args below meth c H locs 0 0 (MQ below (Q_X0_note D cs ad acts_kind acts_number acts_claims A R) args s 0 0 A) (F0 m 0 ls []) := by
  obtain ⟨hx, hb, hr, hml, hown, ht, hlocks⟩ := id C0
  refine lv_aload_n hx hb dX0_note_0 rfl (lv_at hl 0 rfl) ?_
  refine va_get (D := D) (ci := 0) (v := .int acts_ran) (C := RX0) (T := TX0) (N := 5) hx hb ht iX0 hown hK hP 0 rfl rfl 1 (by decide) (ht _ kw_455) (fun _ h9 => h9) rfl dX0_note_1 ?_
  refine lv_bipush (v := (24 : Int32)) hx hb dX0_note_4 (by decide) ?_
  refine lv_icmp_ge (tgt := 19) hx hb dX0_note_6 (by decide) (fun c_1 => ?_) (fun c_1 => ?_)
  · have h := zk_t c_1 h
    exact L_X0_note_19 C0 hK hA   acts_ran acts_bodies h H locs ls hP hD hS (lv_sub hl [0] rfl)
  · have h := zk_f c_1 h
    refine lv_aload_n hx hb dX0_note_9 rfl (lv_at hl 0 rfl) ?_
    refine va_get (D := D) (ci := 0) (v := .ref (ad 40)) (C := RX0) (T := TX0) (N := 5) hx hb ht iX0 hown hK hP 0 rfl rfl 0 (by decide) (ht _ kw_453) (fun _ h9 => h9) rfl dX0_note_10 ?_
    refine lv_aload_n hx hb dX0_note_13 rfl (lv_at hl 0 rfl) ?_
    refine va_get (D := D) (ci := 0) (v := .int acts_ran) (C := RX0) (T := TX0) (N := 5) hx hb ht iX0 hown hK hP 0 rfl rfl 1 (by decide) (ht _ kw_455) (fun _ h9 => h9) rfl dX0_note_14 ?_
    refine lv_iload_n hx hb dX0_note_17 rfl (lv_at hl 1 rfl) ?_
    obtain ⟨g_2, h⟩ := zk_gd h
    obtain ⟨f_3, ef_3, h⟩ := zk_lt h
    refine va_iast hx hb hK hP hD hS 1 0 rfl rfl g_2 dX0_note_18 (fun H locs hP hD hS => ?_)
    have hP : va_P D classes (wl_X0_note ad cs acts_ran acts_kind acts_number acts_claims f_3) H := by rw [ef_3]; exact hP
    have hD : va_D A (wl_X0_note ad cs acts_ran acts_kind acts_number acts_claims f_3) := by rw [ef_3]; exact hD
    exact L_X0_note_19 C0 hK hA   acts_ran f_3 h H locs ls hP hD hS (lv_sub hl [0] rfl)
set_option maxHeartbeats 4000000 in
set_option maxRecDepth 100000 in
theorem c_X0_note (l : Launch) (D : va_G) (cs : Nat → ClassId) (ad : Nat → Nat) (sz : Nat) (x1 : Int32) (acts_ran : Int32) (acts_kind : Int32) (acts_number : Int32) (acts_claims : Int32) (acts_bodies : Nat → Int32) (R : Int32 × (Nat → Int32)) (h : f_X0_note   x1 acts_ran acts_kind acts_number acts_claims acts_bodies = some R) : Met l yX0_note (z_X0_note) rm_X0_note (va_Pc [.ref (ad 39), .int x1] (zPre D cs (wl_X0_note ad cs acts_ran acts_kind acts_number acts_claims acts_bodies) sz)) (Q_X0_note D cs ad acts_kind acts_number acts_claims (va_A (wl_X0_note ad cs acts_ran acts_kind acts_number acts_claims acts_bodies) sz) R) 0 0 (va_A (wl_X0_note ad cs acts_ran acts_kind acts_number acts_claims acts_bodies) sz) := by
  refine Met.ofW (cc := cX0_note) (maxL := 2) (ret := none) (by decide) rfl ?_
  intro p e s m args below meth c s₁ B hml hv
  obtain ⟨rfl, hsz, hP, hK, hD0⟩ := hv
  subst hsz
  have hD := hD0.self (sz := s.heap.size)
  have C0 : zC p s m _ meth c cX0_note 2 none RX0 zW := ⟨B.exec, B.bytes, B.returns, hml, findClass_of_methodNamed B.named, fun w hw => atoms_spec (ws := z_X0_note) B.pre w (List.mem_cons_of_mem _ hw), B.notSynchronized⟩
  have hA : ∀ q : Nat, s.heap.size ≤ q → va_A (wl_X0_note ad cs acts_ran acts_kind acts_number acts_claims acts_bodies) s.heap.size q := fun q h => Or.inr h
  have hl := lv_entry ([.ref (ad 39), .int x1]) (n := 2) (Nat.le_of_ble_eq_true rfl)
  rw [lg_entry_eq]
  generalize (lg_sl ([.ref (ad 39), .int x1]) ++ List.replicate (2 - (lg_sl ([.ref (ad 39), .int x1])).length) Slot.unset).toArray = ls at hl ⊢
  exact L_X0_note_0 C0 hK hA   x1 acts_ran acts_bodies h s.heap [] ls hP hD va_S.rf hl
theorem kw_12 : Cond.selects RX0 yX0_closes yX0_closes ∈ zW := zwI (i := 12) (by decide +kernel) (by decide +kernel)
theorem kw_84 : Cond.initialized RX0 ∈ zW := zwC (i := 10) zc_1 rfl rfl
theorem kw_1213 : Cond.instanceMethod yX0_closes ∈ zW := zwC (i := 179) zc_5 rfl rfl
theorem kw_1214 : Cond.code yX0_closes cX0_closes 3 (some .int) ∈ zW := zwC (i := 180) zc_5 rfl rfl
theorem kw_1215 : Cond.methodLink RX0 28 yX0_note ∈ zW := zwC (i := 181) zc_5 rfl rfl
theorem kw_1216 : Cond.instanceMethod yX0_note ∈ zW := zwC (i := 182) zc_5 rfl rfl
theorem kw_1217 : Cond.selects RX0 yX0_note yX0_note ∈ zW := zwC (i := 183) zc_5 rfl rfl
theorem kw_1218 : Cond.code yX0_note cX0_note 2 none ∈ zW := zwC (i := 184) zc_5 rfl rfl
theorem kw_1219 : Cond.methodLink RX0 32 yX0_above ∈ zW := zwC (i := 185) zc_5 rfl rfl
theorem kw_1220 : Cond.static yX0_above ∈ zW := zwC (i := 186) zc_5 rfl rfl
theorem kw_1221 : Cond.code yX0_above cX0_above 1 (some .int) ∈ zW := zwC (i := 187) zc_5 rfl rfl
theorem kw_1222 : Cond.methodLink RX0 36 yX0_closes ∈ zW := zwC (i := 188) zc_5 rfl rfl
theorem zh_cX0_closes_0 : zck [27, 170, 0, 0, 0, 0, 0, 109, 0, 0, 0, 1, 0, 0, 0, 6, 0, 0, 0, 99, 0, 0] (zdu 0 cX0_closes.data.toList) = true := by decide +kernel
theorem dX0_closes_0 : decode cX0_closes 0 = .ok (.iload_n 1, 1) := zo_27 zh_cX0_closes_0 0 rfl
theorem dX0_closes_1 : decode cX0_closes 1 = .ok (.tableswitch 109 1 6 #[99, 99, 39, 99, 57, 77], 39) := by decide +kernel
theorem zh_cX0_closes_2 : zck [42, 16, 40, 182, 0, 28, 42, 6, 184, 0, 32, 28, 182, 0, 36, 4, 100, 172, 42, 16, 60, 182] (zdu 40 cX0_closes.data.toList) = true := by decide +kernel
theorem dX0_closes_40 : decode cX0_closes 40 = .ok (.aload_n 0, 1) := zo_42 zh_cX0_closes_2 0 rfl
theorem dX0_closes_41 : decode cX0_closes 41 = .ok (.bipush 40, 2) := zo_p16 zh_cX0_closes_2 1 40 rfl rfl
theorem dX0_closes_43 : decode cX0_closes 43 = .ok (.invokevirtual 28, 3) := zo_182 zh_cX0_closes_2 3 rfl
theorem dX0_closes_46 : decode cX0_closes 46 = .ok (.aload_n 0, 1) := zo_42 zh_cX0_closes_2 6 rfl
theorem dX0_closes_47 : decode cX0_closes 47 = .ok (.iconst 3, 1) := zo_6 zh_cX0_closes_2 7 rfl
theorem dX0_closes_48 : decode cX0_closes 48 = .ok (.invokestatic 32, 3) := zo_184 zh_cX0_closes_2 8 rfl
theorem dX0_closes_51 : decode cX0_closes 51 = .ok (.iload_n 2, 1) := zo_28 zh_cX0_closes_2 11 rfl
theorem dX0_closes_52 : decode cX0_closes 52 = .ok (.invokevirtual 36, 3) := zo_182 zh_cX0_closes_2 12 rfl
theorem dX0_closes_55 : decode cX0_closes 55 = .ok (.iconst 1, 1) := zo_4 zh_cX0_closes_2 15 rfl
theorem dX0_closes_56 : decode cX0_closes 56 = .ok (.isub, 1) := zo_100 zh_cX0_closes_2 16 rfl
theorem dX0_closes_57 : decode cX0_closes 57 = .ok (.ireturn, 1) := zo_172 zh_cX0_closes_2 17 rfl
theorem dX0_closes_58 : decode cX0_closes 58 = .ok (.aload_n 0, 1) := zo_42 zh_cX0_closes_2 18 rfl
theorem dX0_closes_59 : decode cX0_closes 59 = .ok (.bipush 60, 2) := zo_p16 zh_cX0_closes_2 19 60 rfl rfl
theorem zh_cX0_closes_3 : zck [60, 182, 0, 28, 42, 8, 184, 0, 32, 28, 4, 96, 182, 0, 36, 5, 104, 172, 42, 16, 70, 182] (zdu 60 cX0_closes.data.toList) = true := by decide +kernel
theorem dX0_closes_61 : decode cX0_closes 61 = .ok (.invokevirtual 28, 3) := zo_182 zh_cX0_closes_3 1 rfl
theorem dX0_closes_64 : decode cX0_closes 64 = .ok (.aload_n 0, 1) := zo_42 zh_cX0_closes_3 4 rfl
theorem dX0_closes_65 : decode cX0_closes 65 = .ok (.iconst 5, 1) := zo_8 zh_cX0_closes_3 5 rfl
theorem dX0_closes_66 : decode cX0_closes 66 = .ok (.invokestatic 32, 3) := zo_184 zh_cX0_closes_3 6 rfl
theorem dX0_closes_69 : decode cX0_closes 69 = .ok (.iload_n 2, 1) := zo_28 zh_cX0_closes_3 9 rfl
theorem dX0_closes_70 : decode cX0_closes 70 = .ok (.iconst 1, 1) := zo_4 zh_cX0_closes_3 10 rfl
theorem dX0_closes_71 : decode cX0_closes 71 = .ok (.iadd, 1) := zo_96 zh_cX0_closes_3 11 rfl
theorem dX0_closes_72 : decode cX0_closes 72 = .ok (.invokevirtual 36, 3) := zo_182 zh_cX0_closes_3 12 rfl
theorem dX0_closes_75 : decode cX0_closes 75 = .ok (.iconst 2, 1) := zo_5 zh_cX0_closes_3 15 rfl
theorem dX0_closes_76 : decode cX0_closes 76 = .ok (.imul, 1) := zo_104 zh_cX0_closes_3 16 rfl
theorem dX0_closes_77 : decode cX0_closes 77 = .ok (.ireturn, 1) := zo_172 zh_cX0_closes_3 17 rfl
theorem dX0_closes_78 : decode cX0_closes 78 = .ok (.aload_n 0, 1) := zo_42 zh_cX0_closes_3 18 rfl
theorem dX0_closes_79 : decode cX0_closes 79 = .ok (.bipush 70, 2) := zo_p16 zh_cX0_closes_3 19 70 rfl rfl
theorem zh_cX0_closes_4 : zck [70, 182, 0, 28, 42, 16, 6, 184, 0, 32, 28, 182, 0, 36, 42, 180, 0, 25, 96, 172, 42, 27] (zdu 80 cX0_closes.data.toList) = true := by decide +kernel
theorem dX0_closes_81 : decode cX0_closes 81 = .ok (.invokevirtual 28, 3) := zo_182 zh_cX0_closes_4 1 rfl
theorem dX0_closes_84 : decode cX0_closes 84 = .ok (.aload_n 0, 1) := zo_42 zh_cX0_closes_4 4 rfl
theorem dX0_closes_85 : decode cX0_closes 85 = .ok (.bipush 6, 2) := zo_p16 zh_cX0_closes_4 5 6 rfl rfl
theorem dX0_closes_87 : decode cX0_closes 87 = .ok (.invokestatic 32, 3) := zo_184 zh_cX0_closes_4 7 rfl
theorem dX0_closes_90 : decode cX0_closes 90 = .ok (.iload_n 2, 1) := zo_28 zh_cX0_closes_4 10 rfl
theorem dX0_closes_91 : decode cX0_closes 91 = .ok (.invokevirtual 36, 3) := zo_182 zh_cX0_closes_4 11 rfl
theorem dX0_closes_94 : decode cX0_closes 94 = .ok (.aload_n 0, 1) := zo_42 zh_cX0_closes_4 14 rfl
theorem dX0_closes_95 : decode cX0_closes 95 = .ok (.getfield 25, 3) := zo_180 zh_cX0_closes_4 15 rfl
theorem dX0_closes_98 : decode cX0_closes 98 = .ok (.iadd, 1) := zo_96 zh_cX0_closes_4 18 rfl
theorem dX0_closes_99 : decode cX0_closes 99 = .ok (.ireturn, 1) := zo_172 zh_cX0_closes_4 19 rfl
theorem zh_cX0_closes_5 : zck [42, 27, 184, 0, 32, 28, 182, 0, 36, 172, 42, 4, 182, 0, 28, 28, 42, 180, 0, 22, 96, 172] (zdu 100 cX0_closes.data.toList) = true := by decide +kernel
theorem dX0_closes_100 : decode cX0_closes 100 = .ok (.aload_n 0, 1) := zo_42 zh_cX0_closes_5 0 rfl
theorem dX0_closes_101 : decode cX0_closes 101 = .ok (.iload_n 1, 1) := zo_27 zh_cX0_closes_5 1 rfl
theorem dX0_closes_102 : decode cX0_closes 102 = .ok (.invokestatic 32, 3) := zo_184 zh_cX0_closes_5 2 rfl
theorem dX0_closes_105 : decode cX0_closes 105 = .ok (.iload_n 2, 1) := zo_28 zh_cX0_closes_5 5 rfl
theorem dX0_closes_106 : decode cX0_closes 106 = .ok (.invokevirtual 36, 3) := zo_182 zh_cX0_closes_5 6 rfl
theorem dX0_closes_109 : decode cX0_closes 109 = .ok (.ireturn, 1) := zo_172 zh_cX0_closes_5 9 rfl
theorem dX0_closes_110 : decode cX0_closes 110 = .ok (.aload_n 0, 1) := zo_42 zh_cX0_closes_5 10 rfl
theorem dX0_closes_111 : decode cX0_closes 111 = .ok (.iconst 1, 1) := zo_4 zh_cX0_closes_5 11 rfl
theorem dX0_closes_112 : decode cX0_closes 112 = .ok (.invokevirtual 28, 3) := zo_182 zh_cX0_closes_5 12 rfl
theorem dX0_closes_115 : decode cX0_closes 115 = .ok (.iload_n 2, 1) := zo_28 zh_cX0_closes_5 15 rfl
theorem dX0_closes_116 : decode cX0_closes 116 = .ok (.aload_n 0, 1) := zo_42 zh_cX0_closes_5 16 rfl
theorem dX0_closes_117 : decode cX0_closes 117 = .ok (.getfield 22, 3) := zo_180 zh_cX0_closes_5 17 rfl
theorem zh_cX0_closes_6 : zck [96, 172] (zdu 120 cX0_closes.data.toList) = true := by decide +kernel
theorem dX0_closes_120 : decode cX0_closes 120 = .ok (.iadd, 1) := zo_96 zh_cX0_closes_6 0 rfl
theorem dX0_closes_121 : decode cX0_closes 121 = .ok (.ireturn, 1) := zo_172 zh_cX0_closes_6 1 rfl
abbrev z_X0_closes : List Cond := .code yX0_closes cX0_closes 3 (some .int) :: zW
abbrev wl_X0_closes (ad : Nat → Nat) (cs : Nat → ClassId)  (acts_ran : Int32) (acts_kind : Int32) (acts_number : Int32) (acts_claims : Int32) (acts_bodies : Nat → Int32) : va_W := [((ad 39), .inr (0, [.ref (ad 40), .int acts_ran, .int acts_kind, .int acts_number, .int acts_claims])), ((ad 40), .inl (cs 0, 24, .inl acts_bodies))]
def Q_X0_closes (D : va_G) (cs : Nat → ClassId) (ad : Nat → Nat)  (acts_kind : Int32) (acts_number : Int32) (acts_claims : Int32) (A : Nat → Prop) (R : Int32 × Int32 × (Nat → Int32)) : Array Value → State → Outcome → State → Prop :=
  va_Qi (fun (r : Int32) (u : Int32 × (Nat → Int32)) => (r, u) = R) (fun (u : Int32 × (Nat → Int32)) (t : State) => va_P D classes (wl_X0_closes ad cs u.1 acts_kind acts_number acts_claims u.2) t.heap ∧ va_D A (wl_X0_closes ad cs u.1 acts_kind acts_number acts_claims u.2)) A
theorem g_X0_28 : GoodIn zW (wsV RX0 28 RX0 yX0_note z_X0_note) := zGV kw_1215 kw_1216 kw_1217 kw_84 kw_1218
theorem g_X0_32 : GoodIn zW (va_wsS RX0 32 yX0_above z_X0_above) := zGS kw_1219 kw_1220 kw_84 kw_1221
theorem g_X0_36 : GoodIn zW (wsV RX0 36 RX0 yX0_closes z_X0_closes) := zGV kw_1222 kw_1213 kw_12 kw_84 kw_1214
theorem hd_X0_above : yX0_above.cls ≠ "java/lang/invoke/MethodHandle" ∧ yX0_above.cls ≠ "java/lang/invoke/VarHandle" ∧ (parseMethodDescriptor yX0_above.desc).map (fun d => d.parameters.length) = some 1 := by decide +kernel
theorem hd_X0_closes : yX0_closes.cls ≠ "java/lang/invoke/MethodHandle" ∧ yX0_closes.cls ≠ "java/lang/invoke/VarHandle" ∧ (parseMethodDescriptor yX0_closes.desc).map (fun d => d.parameters.length) = some 2 := by decide +kernel
theorem hd_X0_note : yX0_note.cls ≠ "java/lang/invoke/MethodHandle" ∧ yX0_note.cls ≠ "java/lang/invoke/VarHandle" ∧ (parseMethodDescriptor yX0_note.desc).map (fun d => d.parameters.length) = some 1 := by decide +kernel
def B_X0_closes_0  (r_X0_closes : Int32 → Int32 → Int32 → Int32 → Int32 → Int32 → (Nat → Int32) → (Option (Int32 × Int32 × (Nat → Int32))))  (acts_kind : Int32) (acts_number : Int32) (acts_claims : Int32) (x1 : Int32) (x2 : Int32) (acts_ran : Int32) (acts_bodies : Nat → Int32) : Option (Int32 × Int32 × (Nat → Int32)) :=
  (if x1 = (1 : Int32) then (zk_b2 (f_X0_above x1) (fun r_1 u_2 => (zk_b3 (r_X0_closes r_1 x2 acts_ran acts_kind acts_number acts_claims acts_bodies) (fun r_4 u_5 u_6 => (some (r_4, u_5, u_6)))))) else (if x1 = (2 : Int32) then (zk_b2 (f_X0_above x1) (fun r_8 u_9 => (zk_b3 (r_X0_closes r_8 x2 acts_ran acts_kind acts_number acts_claims acts_bodies) (fun r_11 u_12 u_13 => (some (r_11, u_12, u_13)))))) else (if x1 = (3 : Int32) then (zk_b2 (f_X0_note (40 : Int32) acts_ran acts_kind acts_number acts_claims acts_bodies) (fun u_15 u_16 => (zk_b2 (f_X0_above (3 : Int32)) (fun r_18 u_19 => (zk_b3 (r_X0_closes r_18 x2 u_15 acts_kind acts_number acts_claims u_16) (fun r_21 u_22 u_23 => (some (r_21 - (1 : Int32), u_22, u_23)))))))) else (if x1 = (4 : Int32) then (zk_b2 (f_X0_above x1) (fun r_25 u_26 => (zk_b3 (r_X0_closes r_25 x2 acts_ran acts_kind acts_number acts_claims acts_bodies) (fun r_28 u_29 u_30 => (some (r_28, u_29, u_30)))))) else (if x1 = (5 : Int32) then (zk_b2 (f_X0_note (60 : Int32) acts_ran acts_kind acts_number acts_claims acts_bodies) (fun u_32 u_33 => (zk_b2 (f_X0_above (5 : Int32)) (fun r_35 u_36 => (zk_b3 (r_X0_closes r_35 (x2 + (1 : Int32)) u_32 acts_kind acts_number acts_claims u_33) (fun r_38 u_39 u_40 => (some (r_38 * (2 : Int32), u_39, u_40)))))))) else (if x1 = (6 : Int32) then (zk_b2 (f_X0_note (70 : Int32) acts_ran acts_kind acts_number acts_claims acts_bodies) (fun u_42 u_43 => (zk_b2 (f_X0_above (6 : Int32)) (fun r_45 u_46 => (zk_b3 (r_X0_closes r_45 x2 u_42 acts_kind acts_number acts_claims u_43) (fun r_48 u_49 u_50 => (some (r_48 + acts_claims, u_49, u_50)))))))) else (zk_b2 (f_X0_note (1 : Int32) acts_ran acts_kind acts_number acts_claims acts_bodies) (fun u_52 u_53 => (some (x2 + acts_number, u_52, u_53))))))))))
def f_X0_closes  (r_X0_closes : Int32 → Int32 → Int32 → Int32 → Int32 → Int32 → (Nat → Int32) → (Option (Int32 × Int32 × (Nat → Int32)))) (x1 : Int32) (x2 : Int32) (acts_ran : Int32) (acts_kind : Int32) (acts_number : Int32) (acts_claims : Int32) (acts_bodies : Nat → Int32) : Option (Int32 × Int32 × (Nat → Int32)) := B_X0_closes_0  r_X0_closes acts_kind acts_number acts_claims x1 x2 acts_ran acts_bodies
def grp_grp138 (n : Nat) : (Int32 → Int32 → Int32 → Int32 → Int32 → Int32 → (Nat → Int32) → (Option (Int32 × Int32 × (Nat → Int32)))) :=
  Nat.rec (motive := fun _ => (Int32 → Int32 → Int32 → Int32 → Int32 → Int32 → (Nat → Int32) → (Option (Int32 × Int32 × (Nat → Int32))))) ((fun _ _ _ _ _ _ _ => none)) (fun _ ih => (f_X0_closes (ih))) n
set_option maxHeartbeats 4000000 in
set_option maxRecDepth 100000 in
theorem L_X0_closes_0 {p : Program} {l : Launch} {e : Env} {s : State} {m : MethodId} {args : Array Value} {below : List Frame} {meth : Method} {c : Code} {A : Nat → Prop} {D : va_G} {cs : Nat → ClassId} {ad : Nat → Nat} {acts_kind : Int32} {acts_number : Int32} {acts_claims : Int32} {R : Int32 × Int32 × (Nat → Int32)} (C0 : zC p s m args meth c cX0_closes 3 (some .int) RX0 zW) (hK : va_K D classes (zT cs) s) (hA : ∀ q : Nat, s.heap.size ≤ q → A q) {fr lo : Nat} {r_X0_closes : Int32 → Int32 → Int32 → Int32 → Int32 → Int32 → (Nat → Int32) → (Option (Int32 × Int32 × (Nat → Int32)))} (hr_X0_closes : ∀ (D : va_G) (cs : Nat → ClassId) (ad : Nat → Nat) (sz : Nat) (x1 : Int32) (x2 : Int32) (acts_ran : Int32) (acts_kind : Int32) (acts_number : Int32) (acts_claims : Int32) (acts_bodies : Nat → Int32) (R : Int32 × Int32 × (Nat → Int32)) (h : r_X0_closes x1 x2 acts_ran acts_kind acts_number acts_claims acts_bodies = some R), Met l yX0_closes z_X0_closes ({ frames := fr, cells := 0, slots := 0, locals := lo } : Room) (va_Pc [.ref (ad 39), .int x1, .int x2] (zPre D cs (wl_X0_closes ad cs acts_ran acts_kind acts_number acts_claims acts_bodies) sz)) (Q_X0_closes D cs ad acts_kind acts_number acts_claims (va_A (wl_X0_closes ad cs acts_ran acts_kind acts_number acts_claims acts_bodies) sz) R) 0 0 (va_A (wl_X0_closes ad cs acts_ran acts_kind acts_number acts_claims acts_bodies) sz)) (x1 : Int32) (x2 : Int32) (acts_ran : Int32) (acts_bodies : Nat → Int32) (h : B_X0_closes_0 r_X0_closes acts_kind acts_number acts_claims x1 x2 acts_ran acts_bodies = some R) (H : Heap) (locs : List Loc) (ls : Array Slot) (hP : va_P D classes (wl_X0_closes ad cs acts_ran acts_kind acts_number acts_claims acts_bodies) H) (hD : va_D A (wl_X0_closes ad cs acts_ran acts_kind acts_number acts_claims acts_bodies)) (hS : va_S A s.heap H locs) (hl : lv_has ls 3 [(0, .ref (ad 39)), (1, .int x1), (2, .int x2)]) : W p l e ({ frames := fr + 1, cells := 0, slots := 0, locals := lo + 22 } : Room) s m args below meth c H locs 0 0 (MQ below (Q_X0_closes D cs ad acts_kind acts_number acts_claims A R) args s 0 0 A) (F0 m 0 ls []) := by
  obtain ⟨hx, hb, hr, hml, hown, ht, hlocks⟩ := id C0
  refine lv_iload_n hx hb dX0_closes_0 rfl (lv_at hl 1 rfl) ?_
  by_cases c_55 : x1 = (1 : Int32)
  · have h := zk_t c_55 h
    refine lv_tableIn (tgt := 100) hx hb dX0_closes_1 (by rw [c_55]; decide) (by rw [c_55]; decide) (by rw [c_55]; rfl) (by decide) ?_
    refine lv_aload_n hx hb dX0_closes_100 rfl (lv_at hl 0 rfl) ?_
    refine lv_iload_n hx hb dX0_closes_101 rfl (lv_at hl 1 rfl) ?_
    obtain ⟨r_1, u_2, hc_3, h⟩ := zk_o2 h
    refine zz_si (post := (fun r u => (r, u) = (r_1, u_2))) (w1 := fun u => (wl_X0_above ad cs )) (As := [.int x1]) (rest := [.ref (ad 39)]) (c_X0_above l D cs ad  H.size x1 (r_1, u_2) hc_3) ⟨hx, hb, hml, hown, ht⟩ (va_cwS 1 ht g_X0_32 rfl rfl rfl hd_X0_above ⟨(by show 0 + 1 ≤ fr + 1; omega), (by show 8 + (1 + 11) + 0 ≤ lo + 22; omega)⟩) hP hD hS hK hA [] rfl rfl [] rfl (fun _ => rfl) rfl hl.1 (Nat.le_of_ble_eq_true rfl) dX0_closes_102 ⟨Nat.zero_le _, Nat.zero_le _⟩ (fun r u H locs hq hP hS => ?_)
    cases hq
    have hP : va_P D classes (wl_X0_closes ad cs acts_ran acts_kind acts_number acts_claims acts_bodies) H := hP
    refine lv_iload_n hx hb dX0_closes_105 rfl (lv_at hl 2 rfl) ?_
    obtain ⟨r_4, u_5, u_6, hc_7, h⟩ := zk_o3 h
    refine zz_vi (post := (fun r u => (r, u) = (r_4, u_5, u_6))) (w1 := fun u => (wl_X0_closes ad cs u.1 acts_kind acts_number acts_claims u.2)) (As := [.int r_1, .int x2]) (rest := []) (hr_X0_closes D cs ad  H.size r_1 x2 acts_ran acts_kind acts_number acts_claims acts_bodies (r_4, u_5, u_6) hc_7) ⟨hx, hb, hml, hown, ht⟩ (cwV 2 ht g_X0_36 rfl rfl rfl ⟨rfl, hd_X0_closes⟩ ⟨(by show fr + 1 ≤ fr + 1; omega), (by show 8 + (3 + 11) + lo ≤ lo + 22; omega)⟩) (va_recv hK hP (ci := 0) (q0 := 0) rfl rfl) hP hD hS hK hA [0, 1] rfl rfl [(ad 39), (ad 40)] rfl (fun _ => rfl) rfl hl.1 (Nat.le_of_ble_eq_true rfl) dX0_closes_106 ⟨Nat.zero_le _, Nat.zero_le _⟩ (fun r u H locs hq hP hS => ?_)
    cases hq
    have hP : va_P D classes (wl_X0_closes ad cs u_5 acts_kind acts_number acts_claims u_6) H := hP
    have hD : va_D A (wl_X0_closes ad cs u_5 acts_kind acts_number acts_claims u_6) := zDk hD [(ad 39), (ad 40)] rfl rfl
    exact W.iret (v := r_4) hx hb hr (fun t ht2 hW => ⟨⟨r_4, (u_5, u_6), rfl, Option.some.inj h, by rw [ht2]; exact hP, hD⟩, hS.F ht2⟩) hS.2.2 dX0_closes_109 hlocks
  · have h := zk_f c_55 h
    by_cases c_56 : x1 = (2 : Int32)
    · have h := zk_t c_56 h
      refine lv_tableIn (tgt := 100) hx hb dX0_closes_1 (by rw [c_56]; decide) (by rw [c_56]; decide) (by rw [c_56]; rfl) (by decide) ?_
      refine lv_aload_n hx hb dX0_closes_100 rfl (lv_at hl 0 rfl) ?_
      refine lv_iload_n hx hb dX0_closes_101 rfl (lv_at hl 1 rfl) ?_
      obtain ⟨r_8, u_9, hc_10, h⟩ := zk_o2 h
      refine zz_si (post := (fun r u => (r, u) = (r_8, u_9))) (w1 := fun u => (wl_X0_above ad cs )) (As := [.int x1]) (rest := [.ref (ad 39)]) (c_X0_above l D cs ad  H.size x1 (r_8, u_9) hc_10) ⟨hx, hb, hml, hown, ht⟩ (va_cwS 1 ht g_X0_32 rfl rfl rfl hd_X0_above ⟨(by show 0 + 1 ≤ fr + 1; omega), (by show 8 + (1 + 11) + 0 ≤ lo + 22; omega)⟩) hP hD hS hK hA [] rfl rfl [] rfl (fun _ => rfl) rfl hl.1 (Nat.le_of_ble_eq_true rfl) dX0_closes_102 ⟨Nat.zero_le _, Nat.zero_le _⟩ (fun r u H locs hq hP hS => ?_)
      cases hq
      have hP : va_P D classes (wl_X0_closes ad cs acts_ran acts_kind acts_number acts_claims acts_bodies) H := hP
      refine lv_iload_n hx hb dX0_closes_105 rfl (lv_at hl 2 rfl) ?_
      obtain ⟨r_11, u_12, u_13, hc_14, h⟩ := zk_o3 h
      refine zz_vi (post := (fun r u => (r, u) = (r_11, u_12, u_13))) (w1 := fun u => (wl_X0_closes ad cs u.1 acts_kind acts_number acts_claims u.2)) (As := [.int r_8, .int x2]) (rest := []) (hr_X0_closes D cs ad  H.size r_8 x2 acts_ran acts_kind acts_number acts_claims acts_bodies (r_11, u_12, u_13) hc_14) ⟨hx, hb, hml, hown, ht⟩ (cwV 2 ht g_X0_36 rfl rfl rfl ⟨rfl, hd_X0_closes⟩ ⟨(by show fr + 1 ≤ fr + 1; omega), (by show 8 + (3 + 11) + lo ≤ lo + 22; omega)⟩) (va_recv hK hP (ci := 0) (q0 := 0) rfl rfl) hP hD hS hK hA [0, 1] rfl rfl [(ad 39), (ad 40)] rfl (fun _ => rfl) rfl hl.1 (Nat.le_of_ble_eq_true rfl) dX0_closes_106 ⟨Nat.zero_le _, Nat.zero_le _⟩ (fun r u H locs hq hP hS => ?_)
      cases hq
      have hP : va_P D classes (wl_X0_closes ad cs u_12 acts_kind acts_number acts_claims u_13) H := hP
      have hD : va_D A (wl_X0_closes ad cs u_12 acts_kind acts_number acts_claims u_13) := zDk hD [(ad 39), (ad 40)] rfl rfl
      exact W.iret (v := r_11) hx hb hr (fun t ht2 hW => ⟨⟨r_11, (u_12, u_13), rfl, Option.some.inj h, by rw [ht2]; exact hP, hD⟩, hS.F ht2⟩) hS.2.2 dX0_closes_109 hlocks
    · have h := zk_f c_56 h
      by_cases c_57 : x1 = (3 : Int32)
      · have h := zk_t c_57 h
        refine lv_tableIn (tgt := 40) hx hb dX0_closes_1 (by rw [c_57]; decide) (by rw [c_57]; decide) (by rw [c_57]; rfl) (by decide) ?_
        refine lv_aload_n hx hb dX0_closes_40 rfl (lv_at hl 0 rfl) ?_
        refine lv_bipush (v := (40 : Int32)) hx hb dX0_closes_41 (by decide) ?_
        obtain ⟨u_15, u_16, hc_17, h⟩ := zk_o2 h
        refine zz_vv (post := (fun u => u = (u_15, u_16))) (w1 := fun u => (wl_X0_note ad cs u.1 acts_kind acts_number acts_claims u.2)) (As := [.int (40 : Int32)]) (rest := []) (c_X0_note l D cs ad  H.size (40 : Int32) acts_ran acts_kind acts_number acts_claims acts_bodies (u_15, u_16) hc_17) ⟨hx, hb, hml, hown, ht⟩ (cwV 1 ht g_X0_28 rfl rfl rfl ⟨rfl, hd_X0_note⟩ ⟨(by show 0 + 1 ≤ fr + 1; omega), (by show 8 + (2 + 11) + 0 ≤ lo + 22; omega)⟩) (va_recv hK hP (ci := 0) (q0 := 0) rfl rfl) hP hD hS hK hA [0, 1] rfl rfl [(ad 39), (ad 40)] rfl (fun _ => rfl) rfl hl.1 (Nat.le_of_ble_eq_true rfl) dX0_closes_43 ⟨Nat.zero_le _, Nat.zero_le _⟩ (fun u H locs hq hP hS => ?_)
        cases hq
        have hP : va_P D classes (wl_X0_closes ad cs u_15 acts_kind acts_number acts_claims u_16) H := hP
        have hD : va_D A (wl_X0_closes ad cs u_15 acts_kind acts_number acts_claims u_16) := zDk hD [(ad 39), (ad 40)] rfl rfl
        refine lv_aload_n hx hb dX0_closes_46 rfl (lv_at hl 0 rfl) ?_
        refine lv_iconst (v := (3 : Int32)) hx hb dX0_closes_47 (by decide) ?_
        obtain ⟨r_18, u_19, hc_20, h⟩ := zk_o2 h
        refine zz_si (post := (fun r u => (r, u) = (r_18, u_19))) (w1 := fun u => (wl_X0_above ad cs )) (As := [.int (3 : Int32)]) (rest := [.ref (ad 39)]) (c_X0_above l D cs ad  H.size (3 : Int32) (r_18, u_19) hc_20) ⟨hx, hb, hml, hown, ht⟩ (va_cwS 1 ht g_X0_32 rfl rfl rfl hd_X0_above ⟨(by show 0 + 1 ≤ fr + 1; omega), (by show 8 + (1 + 11) + 0 ≤ lo + 22; omega)⟩) hP hD hS hK hA [] rfl rfl [] rfl (fun _ => rfl) rfl hl.1 (Nat.le_of_ble_eq_true rfl) dX0_closes_48 ⟨Nat.zero_le _, Nat.zero_le _⟩ (fun r u H locs hq hP hS => ?_)
        cases hq
        have hP : va_P D classes (wl_X0_closes ad cs u_15 acts_kind acts_number acts_claims u_16) H := hP
        refine lv_iload_n hx hb dX0_closes_51 rfl (lv_at hl 2 rfl) ?_
        obtain ⟨r_21, u_22, u_23, hc_24, h⟩ := zk_o3 h
        refine zz_vi (post := (fun r u => (r, u) = (r_21, u_22, u_23))) (w1 := fun u => (wl_X0_closes ad cs u.1 acts_kind acts_number acts_claims u.2)) (As := [.int r_18, .int x2]) (rest := []) (hr_X0_closes D cs ad  H.size r_18 x2 u_15 acts_kind acts_number acts_claims u_16 (r_21, u_22, u_23) hc_24) ⟨hx, hb, hml, hown, ht⟩ (cwV 2 ht g_X0_36 rfl rfl rfl ⟨rfl, hd_X0_closes⟩ ⟨(by show fr + 1 ≤ fr + 1; omega), (by show 8 + (3 + 11) + lo ≤ lo + 22; omega)⟩) (va_recv hK hP (ci := 0) (q0 := 0) rfl rfl) hP hD hS hK hA [0, 1] rfl rfl [(ad 39), (ad 40)] rfl (fun _ => rfl) rfl hl.1 (Nat.le_of_ble_eq_true rfl) dX0_closes_52 ⟨Nat.zero_le _, Nat.zero_le _⟩ (fun r u H locs hq hP hS => ?_)
        cases hq
        have hP : va_P D classes (wl_X0_closes ad cs u_22 acts_kind acts_number acts_claims u_23) H := hP
        have hD : va_D A (wl_X0_closes ad cs u_22 acts_kind acts_number acts_claims u_23) := zDk hD [(ad 39), (ad 40)] rfl rfl
        refine lv_iconst (v := (1 : Int32)) hx hb dX0_closes_55 (by decide) ?_
        refine lv_isub hx hb dX0_closes_56 ?_
        exact W.iret (v := r_21 - (1 : Int32)) hx hb hr (fun t ht2 hW => ⟨⟨r_21 - (1 : Int32), (u_22, u_23), rfl, Option.some.inj h, by rw [ht2]; exact hP, hD⟩, hS.F ht2⟩) hS.2.2 dX0_closes_57 hlocks
      · have h := zk_f c_57 h
        by_cases c_58 : x1 = (4 : Int32)
        · have h := zk_t c_58 h
          refine lv_tableIn (tgt := 100) hx hb dX0_closes_1 (by rw [c_58]; decide) (by rw [c_58]; decide) (by rw [c_58]; rfl) (by decide) ?_
          refine lv_aload_n hx hb dX0_closes_100 rfl (lv_at hl 0 rfl) ?_
          refine lv_iload_n hx hb dX0_closes_101 rfl (lv_at hl 1 rfl) ?_
          obtain ⟨r_25, u_26, hc_27, h⟩ := zk_o2 h
          refine zz_si (post := (fun r u => (r, u) = (r_25, u_26))) (w1 := fun u => (wl_X0_above ad cs )) (As := [.int x1]) (rest := [.ref (ad 39)]) (c_X0_above l D cs ad  H.size x1 (r_25, u_26) hc_27) ⟨hx, hb, hml, hown, ht⟩ (va_cwS 1 ht g_X0_32 rfl rfl rfl hd_X0_above ⟨(by show 0 + 1 ≤ fr + 1; omega), (by show 8 + (1 + 11) + 0 ≤ lo + 22; omega)⟩) hP hD hS hK hA [] rfl rfl [] rfl (fun _ => rfl) rfl hl.1 (Nat.le_of_ble_eq_true rfl) dX0_closes_102 ⟨Nat.zero_le _, Nat.zero_le _⟩ (fun r u H locs hq hP hS => ?_)
          cases hq
          have hP : va_P D classes (wl_X0_closes ad cs acts_ran acts_kind acts_number acts_claims acts_bodies) H := hP
          refine lv_iload_n hx hb dX0_closes_105 rfl (lv_at hl 2 rfl) ?_
          obtain ⟨r_28, u_29, u_30, hc_31, h⟩ := zk_o3 h
          refine zz_vi (post := (fun r u => (r, u) = (r_28, u_29, u_30))) (w1 := fun u => (wl_X0_closes ad cs u.1 acts_kind acts_number acts_claims u.2)) (As := [.int r_25, .int x2]) (rest := []) (hr_X0_closes D cs ad  H.size r_25 x2 acts_ran acts_kind acts_number acts_claims acts_bodies (r_28, u_29, u_30) hc_31) ⟨hx, hb, hml, hown, ht⟩ (cwV 2 ht g_X0_36 rfl rfl rfl ⟨rfl, hd_X0_closes⟩ ⟨(by show fr + 1 ≤ fr + 1; omega), (by show 8 + (3 + 11) + lo ≤ lo + 22; omega)⟩) (va_recv hK hP (ci := 0) (q0 := 0) rfl rfl) hP hD hS hK hA [0, 1] rfl rfl [(ad 39), (ad 40)] rfl (fun _ => rfl) rfl hl.1 (Nat.le_of_ble_eq_true rfl) dX0_closes_106 ⟨Nat.zero_le _, Nat.zero_le _⟩ (fun r u H locs hq hP hS => ?_)
          cases hq
          have hP : va_P D classes (wl_X0_closes ad cs u_29 acts_kind acts_number acts_claims u_30) H := hP
          have hD : va_D A (wl_X0_closes ad cs u_29 acts_kind acts_number acts_claims u_30) := zDk hD [(ad 39), (ad 40)] rfl rfl
          exact W.iret (v := r_28) hx hb hr (fun t ht2 hW => ⟨⟨r_28, (u_29, u_30), rfl, Option.some.inj h, by rw [ht2]; exact hP, hD⟩, hS.F ht2⟩) hS.2.2 dX0_closes_109 hlocks
        · have h := zk_f c_58 h
          by_cases c_59 : x1 = (5 : Int32)
          · have h := zk_t c_59 h
            refine lv_tableIn (tgt := 58) hx hb dX0_closes_1 (by rw [c_59]; decide) (by rw [c_59]; decide) (by rw [c_59]; rfl) (by decide) ?_
            refine lv_aload_n hx hb dX0_closes_58 rfl (lv_at hl 0 rfl) ?_
            refine lv_bipush (v := (60 : Int32)) hx hb dX0_closes_59 (by decide) ?_
            obtain ⟨u_32, u_33, hc_34, h⟩ := zk_o2 h
            refine zz_vv (post := (fun u => u = (u_32, u_33))) (w1 := fun u => (wl_X0_note ad cs u.1 acts_kind acts_number acts_claims u.2)) (As := [.int (60 : Int32)]) (rest := []) (c_X0_note l D cs ad  H.size (60 : Int32) acts_ran acts_kind acts_number acts_claims acts_bodies (u_32, u_33) hc_34) ⟨hx, hb, hml, hown, ht⟩ (cwV 1 ht g_X0_28 rfl rfl rfl ⟨rfl, hd_X0_note⟩ ⟨(by show 0 + 1 ≤ fr + 1; omega), (by show 8 + (2 + 11) + 0 ≤ lo + 22; omega)⟩) (va_recv hK hP (ci := 0) (q0 := 0) rfl rfl) hP hD hS hK hA [0, 1] rfl rfl [(ad 39), (ad 40)] rfl (fun _ => rfl) rfl hl.1 (Nat.le_of_ble_eq_true rfl) dX0_closes_61 ⟨Nat.zero_le _, Nat.zero_le _⟩ (fun u H locs hq hP hS => ?_)
            cases hq
            have hP : va_P D classes (wl_X0_closes ad cs u_32 acts_kind acts_number acts_claims u_33) H := hP
            have hD : va_D A (wl_X0_closes ad cs u_32 acts_kind acts_number acts_claims u_33) := zDk hD [(ad 39), (ad 40)] rfl rfl
            refine lv_aload_n hx hb dX0_closes_64 rfl (lv_at hl 0 rfl) ?_
            refine lv_iconst (v := (5 : Int32)) hx hb dX0_closes_65 (by decide) ?_
            obtain ⟨r_35, u_36, hc_37, h⟩ := zk_o2 h
            refine zz_si (post := (fun r u => (r, u) = (r_35, u_36))) (w1 := fun u => (wl_X0_above ad cs )) (As := [.int (5 : Int32)]) (rest := [.ref (ad 39)]) (c_X0_above l D cs ad  H.size (5 : Int32) (r_35, u_36) hc_37) ⟨hx, hb, hml, hown, ht⟩ (va_cwS 1 ht g_X0_32 rfl rfl rfl hd_X0_above ⟨(by show 0 + 1 ≤ fr + 1; omega), (by show 8 + (1 + 11) + 0 ≤ lo + 22; omega)⟩) hP hD hS hK hA [] rfl rfl [] rfl (fun _ => rfl) rfl hl.1 (Nat.le_of_ble_eq_true rfl) dX0_closes_66 ⟨Nat.zero_le _, Nat.zero_le _⟩ (fun r u H locs hq hP hS => ?_)
            cases hq
            have hP : va_P D classes (wl_X0_closes ad cs u_32 acts_kind acts_number acts_claims u_33) H := hP
            refine lv_iload_n hx hb dX0_closes_69 rfl (lv_at hl 2 rfl) ?_
            refine lv_iconst (v := (1 : Int32)) hx hb dX0_closes_70 (by decide) ?_
            refine lv_iadd hx hb dX0_closes_71 ?_
            obtain ⟨r_38, u_39, u_40, hc_41, h⟩ := zk_o3 h
            refine zz_vi (post := (fun r u => (r, u) = (r_38, u_39, u_40))) (w1 := fun u => (wl_X0_closes ad cs u.1 acts_kind acts_number acts_claims u.2)) (As := [.int r_35, .int (x2 + (1 : Int32))]) (rest := []) (hr_X0_closes D cs ad  H.size r_35 (x2 + (1 : Int32)) u_32 acts_kind acts_number acts_claims u_33 (r_38, u_39, u_40) hc_41) ⟨hx, hb, hml, hown, ht⟩ (cwV 2 ht g_X0_36 rfl rfl rfl ⟨rfl, hd_X0_closes⟩ ⟨(by show fr + 1 ≤ fr + 1; omega), (by show 8 + (3 + 11) + lo ≤ lo + 22; omega)⟩) (va_recv hK hP (ci := 0) (q0 := 0) rfl rfl) hP hD hS hK hA [0, 1] rfl rfl [(ad 39), (ad 40)] rfl (fun _ => rfl) rfl hl.1 (Nat.le_of_ble_eq_true rfl) dX0_closes_72 ⟨Nat.zero_le _, Nat.zero_le _⟩ (fun r u H locs hq hP hS => ?_)
            cases hq
            have hP : va_P D classes (wl_X0_closes ad cs u_39 acts_kind acts_number acts_claims u_40) H := hP
            have hD : va_D A (wl_X0_closes ad cs u_39 acts_kind acts_number acts_claims u_40) := zDk hD [(ad 39), (ad 40)] rfl rfl
            refine lv_iconst (v := (2 : Int32)) hx hb dX0_closes_75 (by decide) ?_
            refine lv_imul hx hb dX0_closes_76 ?_
            exact W.iret (v := r_38 * (2 : Int32)) hx hb hr (fun t ht2 hW => ⟨⟨r_38 * (2 : Int32), (u_39, u_40), rfl, Option.some.inj h, by rw [ht2]; exact hP, hD⟩, hS.F ht2⟩) hS.2.2 dX0_closes_77 hlocks
          · have h := zk_f c_59 h
            by_cases c_60 : x1 = (6 : Int32)
            · have h := zk_t c_60 h
              refine lv_tableIn (tgt := 78) hx hb dX0_closes_1 (by rw [c_60]; decide) (by rw [c_60]; decide) (by rw [c_60]; rfl) (by decide) ?_
              refine lv_aload_n hx hb dX0_closes_78 rfl (lv_at hl 0 rfl) ?_
              refine lv_bipush (v := (70 : Int32)) hx hb dX0_closes_79 (by decide) ?_
              obtain ⟨u_42, u_43, hc_44, h⟩ := zk_o2 h
              refine zz_vv (post := (fun u => u = (u_42, u_43))) (w1 := fun u => (wl_X0_note ad cs u.1 acts_kind acts_number acts_claims u.2)) (As := [.int (70 : Int32)]) (rest := []) (c_X0_note l D cs ad  H.size (70 : Int32) acts_ran acts_kind acts_number acts_claims acts_bodies (u_42, u_43) hc_44) ⟨hx, hb, hml, hown, ht⟩ (cwV 1 ht g_X0_28 rfl rfl rfl ⟨rfl, hd_X0_note⟩ ⟨(by show 0 + 1 ≤ fr + 1; omega), (by show 8 + (2 + 11) + 0 ≤ lo + 22; omega)⟩) (va_recv hK hP (ci := 0) (q0 := 0) rfl rfl) hP hD hS hK hA [0, 1] rfl rfl [(ad 39), (ad 40)] rfl (fun _ => rfl) rfl hl.1 (Nat.le_of_ble_eq_true rfl) dX0_closes_81 ⟨Nat.zero_le _, Nat.zero_le _⟩ (fun u H locs hq hP hS => ?_)
              cases hq
              have hP : va_P D classes (wl_X0_closes ad cs u_42 acts_kind acts_number acts_claims u_43) H := hP
              have hD : va_D A (wl_X0_closes ad cs u_42 acts_kind acts_number acts_claims u_43) := zDk hD [(ad 39), (ad 40)] rfl rfl
              refine lv_aload_n hx hb dX0_closes_84 rfl (lv_at hl 0 rfl) ?_
              refine lv_bipush (v := (6 : Int32)) hx hb dX0_closes_85 (by decide) ?_
              obtain ⟨r_45, u_46, hc_47, h⟩ := zk_o2 h
              refine zz_si (post := (fun r u => (r, u) = (r_45, u_46))) (w1 := fun u => (wl_X0_above ad cs )) (As := [.int (6 : Int32)]) (rest := [.ref (ad 39)]) (c_X0_above l D cs ad  H.size (6 : Int32) (r_45, u_46) hc_47) ⟨hx, hb, hml, hown, ht⟩ (va_cwS 1 ht g_X0_32 rfl rfl rfl hd_X0_above ⟨(by show 0 + 1 ≤ fr + 1; omega), (by show 8 + (1 + 11) + 0 ≤ lo + 22; omega)⟩) hP hD hS hK hA [] rfl rfl [] rfl (fun _ => rfl) rfl hl.1 (Nat.le_of_ble_eq_true rfl) dX0_closes_87 ⟨Nat.zero_le _, Nat.zero_le _⟩ (fun r u H locs hq hP hS => ?_)
              cases hq
              have hP : va_P D classes (wl_X0_closes ad cs u_42 acts_kind acts_number acts_claims u_43) H := hP
              refine lv_iload_n hx hb dX0_closes_90 rfl (lv_at hl 2 rfl) ?_
              obtain ⟨r_48, u_49, u_50, hc_51, h⟩ := zk_o3 h
              refine zz_vi (post := (fun r u => (r, u) = (r_48, u_49, u_50))) (w1 := fun u => (wl_X0_closes ad cs u.1 acts_kind acts_number acts_claims u.2)) (As := [.int r_45, .int x2]) (rest := []) (hr_X0_closes D cs ad  H.size r_45 x2 u_42 acts_kind acts_number acts_claims u_43 (r_48, u_49, u_50) hc_51) ⟨hx, hb, hml, hown, ht⟩ (cwV 2 ht g_X0_36 rfl rfl rfl ⟨rfl, hd_X0_closes⟩ ⟨(by show fr + 1 ≤ fr + 1; omega), (by show 8 + (3 + 11) + lo ≤ lo + 22; omega)⟩) (va_recv hK hP (ci := 0) (q0 := 0) rfl rfl) hP hD hS hK hA [0, 1] rfl rfl [(ad 39), (ad 40)] rfl (fun _ => rfl) rfl hl.1 (Nat.le_of_ble_eq_true rfl) dX0_closes_91 ⟨Nat.zero_le _, Nat.zero_le _⟩ (fun r u H locs hq hP hS => ?_)
              cases hq
              have hP : va_P D classes (wl_X0_closes ad cs u_49 acts_kind acts_number acts_claims u_50) H := hP
              have hD : va_D A (wl_X0_closes ad cs u_49 acts_kind acts_number acts_claims u_50) := zDk hD [(ad 39), (ad 40)] rfl rfl
              refine lv_aload_n hx hb dX0_closes_94 rfl (lv_at hl 0 rfl) ?_
              refine va_get (D := D) (ci := 0) (v := .int acts_claims) (C := RX0) (T := TX0) (N := 5) hx hb ht iX0 hown hK hP 0 rfl rfl 4 (by decide) (ht _ kw_460) (fun _ h9 => h9) rfl dX0_closes_95 ?_
              refine lv_iadd hx hb dX0_closes_98 ?_
              exact W.iret (v := r_48 + acts_claims) hx hb hr (fun t ht2 hW => ⟨⟨r_48 + acts_claims, (u_49, u_50), rfl, Option.some.inj h, by rw [ht2]; exact hP, hD⟩, hS.F ht2⟩) hS.2.2 dX0_closes_99 hlocks
            · have h := zk_f c_60 h
              refine lv_tableOut (tgt := 110) hx hb dX0_closes_1 (zk_out (lo := 1) (hi := 6) [(1 : Int32), (2 : Int32), (3 : Int32), (4 : Int32), (5 : Int32), (6 : Int32)] (by decide +kernel) (List.forall_mem_cons.mpr ⟨c_55, List.forall_mem_cons.mpr ⟨c_56, List.forall_mem_cons.mpr ⟨c_57, List.forall_mem_cons.mpr ⟨c_58, List.forall_mem_cons.mpr ⟨c_59, List.forall_mem_cons.mpr ⟨c_60, fun _ h => absurd h List.not_mem_nil⟩⟩⟩⟩⟩⟩)) (by decide) ?_
              refine lv_aload_n hx hb dX0_closes_110 rfl (lv_at hl 0 rfl) ?_
              refine lv_iconst (v := (1 : Int32)) hx hb dX0_closes_111 (by decide) ?_
              obtain ⟨u_52, u_53, hc_54, h⟩ := zk_o2 h
              refine zz_vv (post := (fun u => u = (u_52, u_53))) (w1 := fun u => (wl_X0_note ad cs u.1 acts_kind acts_number acts_claims u.2)) (As := [.int (1 : Int32)]) (rest := []) (c_X0_note l D cs ad  H.size (1 : Int32) acts_ran acts_kind acts_number acts_claims acts_bodies (u_52, u_53) hc_54) ⟨hx, hb, hml, hown, ht⟩ (cwV 1 ht g_X0_28 rfl rfl rfl ⟨rfl, hd_X0_note⟩ ⟨(by show 0 + 1 ≤ fr + 1; omega), (by show 8 + (2 + 11) + 0 ≤ lo + 22; omega)⟩) (va_recv hK hP (ci := 0) (q0 := 0) rfl rfl) hP hD hS hK hA [0, 1] rfl rfl [(ad 39), (ad 40)] rfl (fun _ => rfl) rfl hl.1 (Nat.le_of_ble_eq_true rfl) dX0_closes_112 ⟨Nat.zero_le _, Nat.zero_le _⟩ (fun u H locs hq hP hS => ?_)
              cases hq
              have hP : va_P D classes (wl_X0_closes ad cs u_52 acts_kind acts_number acts_claims u_53) H := hP
              have hD : va_D A (wl_X0_closes ad cs u_52 acts_kind acts_number acts_claims u_53) := zDk hD [(ad 39), (ad 40)] rfl rfl
              refine lv_iload_n hx hb dX0_closes_115 rfl (lv_at hl 2 rfl) ?_
              refine lv_aload_n hx hb dX0_closes_116 rfl (lv_at hl 0 rfl) ?_
              refine va_get (D := D) (ci := 0) (v := .int acts_number) (C := RX0) (T := TX0) (N := 5) hx hb ht iX0 hown hK hP 0 rfl rfl 3 (by decide) (ht _ kw_459) (fun _ h9 => h9) rfl dX0_closes_117 ?_
              refine lv_iadd hx hb dX0_closes_120 ?_
              exact W.iret (v := x2 + acts_number) hx hb hr (fun t ht2 hW => ⟨⟨x2 + acts_number, (u_52, u_53), rfl, Option.some.inj h, by rw [ht2]; exact hP, hD⟩, hS.F ht2⟩) hS.2.2 dX0_closes_121 hlocks
set_option maxHeartbeats 4000000 in
set_option maxRecDepth 100000 in
theorem c_X0_closes (l : Launch) (D : va_G) (cs : Nat → ClassId) (ad : Nat → Nat) {fr lo : Nat} {r_X0_closes : Int32 → Int32 → Int32 → Int32 → Int32 → Int32 → (Nat → Int32) → (Option (Int32 × Int32 × (Nat → Int32)))} (hr_X0_closes : ∀ (D : va_G) (cs : Nat → ClassId) (ad : Nat → Nat) (sz : Nat) (x1 : Int32) (x2 : Int32) (acts_ran : Int32) (acts_kind : Int32) (acts_number : Int32) (acts_claims : Int32) (acts_bodies : Nat → Int32) (R : Int32 × Int32 × (Nat → Int32)) (h : r_X0_closes x1 x2 acts_ran acts_kind acts_number acts_claims acts_bodies = some R), Met l yX0_closes z_X0_closes ({ frames := fr, cells := 0, slots := 0, locals := lo } : Room) (va_Pc [.ref (ad 39), .int x1, .int x2] (zPre D cs (wl_X0_closes ad cs acts_ran acts_kind acts_number acts_claims acts_bodies) sz)) (Q_X0_closes D cs ad acts_kind acts_number acts_claims (va_A (wl_X0_closes ad cs acts_ran acts_kind acts_number acts_claims acts_bodies) sz) R) 0 0 (va_A (wl_X0_closes ad cs acts_ran acts_kind acts_number acts_claims acts_bodies) sz)) (sz : Nat) (x1 : Int32) (x2 : Int32) (acts_ran : Int32) (acts_kind : Int32) (acts_number : Int32) (acts_claims : Int32) (acts_bodies : Nat → Int32) (R : Int32 × Int32 × (Nat → Int32)) (h : f_X0_closes  r_X0_closes x1 x2 acts_ran acts_kind acts_number acts_claims acts_bodies = some R) : Met l yX0_closes (z_X0_closes) ({ frames := fr + 1, cells := 0, slots := 0, locals := lo + 22 } : Room) (va_Pc [.ref (ad 39), .int x1, .int x2] (zPre D cs (wl_X0_closes ad cs acts_ran acts_kind acts_number acts_claims acts_bodies) sz)) (Q_X0_closes D cs ad acts_kind acts_number acts_claims (va_A (wl_X0_closes ad cs acts_ran acts_kind acts_number acts_claims acts_bodies) sz) R) 0 0 (va_A (wl_X0_closes ad cs acts_ran acts_kind acts_number acts_claims acts_bodies) sz) := by
  refine Met.ofW (cc := cX0_closes) (maxL := 3) (ret := (some .int)) (by decide) rfl ?_
  intro p e s m args below meth c s₁ B hml hv
  obtain ⟨rfl, hsz, hP, hK, hD0⟩ := hv
  subst hsz
  have hD := hD0.self (sz := s.heap.size)
  have C0 : zC p s m _ meth c cX0_closes 3 (some .int) RX0 zW := ⟨B.exec, B.bytes, B.returns, hml, findClass_of_methodNamed B.named, fun w hw => atoms_spec (ws := z_X0_closes) B.pre w (List.mem_cons_of_mem _ hw), B.notSynchronized⟩
  have hA : ∀ q : Nat, s.heap.size ≤ q → va_A (wl_X0_closes ad cs acts_ran acts_kind acts_number acts_claims acts_bodies) s.heap.size q := fun q h => Or.inr h
  have hl := lv_entry ([.ref (ad 39), .int x1, .int x2]) (n := 3) (Nat.le_of_ble_eq_true rfl)
  rw [lg_entry_eq]
  generalize (lg_sl ([.ref (ad 39), .int x1, .int x2]) ++ List.replicate (3 - (lg_sl ([.ref (ad 39), .int x1, .int x2])).length) Slot.unset).toArray = ls at hl ⊢
  exact L_X0_closes_0 C0 hK hA hr_X0_closes  x1 x2 acts_ran acts_bodies h s.heap [] ls hP hD va_S.rf hl
theorem cg_grp138 (l : Launch) : ∀ n : Nat, (∀ (D : va_G) (cs : Nat → ClassId) (ad : Nat → Nat) (sz : Nat) (x1 : Int32) (x2 : Int32) (acts_ran : Int32) (acts_kind : Int32) (acts_number : Int32) (acts_claims : Int32) (acts_bodies : Nat → Int32) (R : Int32 × Int32 × (Nat → Int32)) (h : ((grp_grp138 n)) x1 x2 acts_ran acts_kind acts_number acts_claims acts_bodies = some R), Met l yX0_closes z_X0_closes ({ frames := 1 * n, cells := 0, slots := 0, locals := 22 * n } : Room) (va_Pc [.ref (ad 39), .int x1, .int x2] (zPre D cs (wl_X0_closes ad cs acts_ran acts_kind acts_number acts_claims acts_bodies) sz)) (Q_X0_closes D cs ad acts_kind acts_number acts_claims (va_A (wl_X0_closes ad cs acts_ran acts_kind acts_number acts_claims acts_bodies) sz) R) 0 0 (va_A (wl_X0_closes ad cs acts_ran acts_kind acts_number acts_claims acts_bodies) sz)) := by
  intro n
  induction n with
  | zero =>
    refine ?_ <;> (intros; rename_i h; cases h)
  | succ n ih =>
    exact (fun D cs ad   sz x1 x2 acts_ran acts_kind acts_number acts_claims acts_bodies R h => c_X0_closes l D cs ad   (ih) sz x1 x2 acts_ran acts_kind acts_number acts_claims acts_bodies R h)
theorem kw_14 : Cond.selects RX0 yX0_binds yX0_binds ∈ zW := zwI (i := 14) (by decide +kernel) (by decide +kernel)
theorem kw_1228 : Cond.methodLink RX0 43 yX0_binds ∈ zW := zwC (i := 194) zc_5 rfl rfl
theorem kw_1230 : Cond.instanceMethod yX0_binds ∈ zW := zwC (i := 196) zc_5 rfl rfl
theorem kw_1231 : Cond.code yX0_binds cX0_binds 3 (some .int) ∈ zW := zwC (i := 197) zc_5 rfl rfl
theorem zh_cX0_binds_0 : zck [27, 5, 160, 0, 21, 42, 16, 30, 182, 0, 28, 42, 5, 184, 0, 32, 28, 182, 0, 43, 6, 104] (zdu 0 cX0_binds.data.toList) = true := by decide +kernel
theorem dX0_binds_0 : decode cX0_binds 0 = .ok (.iload_n 1, 1) := zo_27 zh_cX0_binds_0 0 rfl
theorem dX0_binds_1 : decode cX0_binds 1 = .ok (.iconst 2, 1) := zo_5 zh_cX0_binds_0 1 rfl
theorem dX0_binds_2 : decode cX0_binds 2 = .ok (.if_icmp .ne 21, 3) := zo_p160 zh_cX0_binds_0 2 21 rfl rfl
theorem dX0_binds_5 : decode cX0_binds 5 = .ok (.aload_n 0, 1) := zo_42 zh_cX0_binds_0 5 rfl
theorem dX0_binds_6 : decode cX0_binds 6 = .ok (.bipush 30, 2) := zo_p16 zh_cX0_binds_0 6 30 rfl rfl
theorem dX0_binds_8 : decode cX0_binds 8 = .ok (.invokevirtual 28, 3) := zo_182 zh_cX0_binds_0 8 rfl
theorem dX0_binds_11 : decode cX0_binds 11 = .ok (.aload_n 0, 1) := zo_42 zh_cX0_binds_0 11 rfl
theorem dX0_binds_12 : decode cX0_binds 12 = .ok (.iconst 2, 1) := zo_5 zh_cX0_binds_0 12 rfl
theorem dX0_binds_13 : decode cX0_binds 13 = .ok (.invokestatic 32, 3) := zo_184 zh_cX0_binds_0 13 rfl
theorem dX0_binds_16 : decode cX0_binds 16 = .ok (.iload_n 2, 1) := zo_28 zh_cX0_binds_0 16 rfl
theorem dX0_binds_17 : decode cX0_binds 17 = .ok (.invokevirtual 43, 3) := zo_182 zh_cX0_binds_0 17 rfl
theorem zh_cX0_binds_1 : zck [6, 104, 172, 27, 158, 0, 13, 42, 27, 184, 0, 32, 28, 182, 0, 43, 172, 42, 16, 11, 182, 0] (zdu 20 cX0_binds.data.toList) = true := by decide +kernel
theorem dX0_binds_20 : decode cX0_binds 20 = .ok (.iconst 3, 1) := zo_6 zh_cX0_binds_1 0 rfl
theorem dX0_binds_21 : decode cX0_binds 21 = .ok (.imul, 1) := zo_104 zh_cX0_binds_1 1 rfl
theorem dX0_binds_22 : decode cX0_binds 22 = .ok (.ireturn, 1) := zo_172 zh_cX0_binds_1 2 rfl
theorem dX0_binds_23 : decode cX0_binds 23 = .ok (.iload_n 1, 1) := zo_27 zh_cX0_binds_1 3 rfl
theorem dX0_binds_24 : decode cX0_binds 24 = .ok (.ifCond .le 13, 3) := zo_p158 zh_cX0_binds_1 4 13 rfl rfl
theorem dX0_binds_27 : decode cX0_binds 27 = .ok (.aload_n 0, 1) := zo_42 zh_cX0_binds_1 7 rfl
theorem dX0_binds_28 : decode cX0_binds 28 = .ok (.iload_n 1, 1) := zo_27 zh_cX0_binds_1 8 rfl
theorem dX0_binds_29 : decode cX0_binds 29 = .ok (.invokestatic 32, 3) := zo_184 zh_cX0_binds_1 9 rfl
theorem dX0_binds_32 : decode cX0_binds 32 = .ok (.iload_n 2, 1) := zo_28 zh_cX0_binds_1 12 rfl
theorem dX0_binds_33 : decode cX0_binds 33 = .ok (.invokevirtual 43, 3) := zo_182 zh_cX0_binds_1 13 rfl
theorem dX0_binds_36 : decode cX0_binds 36 = .ok (.ireturn, 1) := zo_172 zh_cX0_binds_1 16 rfl
theorem dX0_binds_37 : decode cX0_binds 37 = .ok (.aload_n 0, 1) := zo_42 zh_cX0_binds_1 17 rfl
theorem dX0_binds_38 : decode cX0_binds 38 = .ok (.bipush 11, 2) := zo_p16 zh_cX0_binds_1 18 11 rfl rfl
theorem zh_cX0_binds_2 : zck [182, 0, 28, 28, 42, 180, 0, 22, 130, 172] (zdu 40 cX0_binds.data.toList) = true := by decide +kernel
theorem dX0_binds_40 : decode cX0_binds 40 = .ok (.invokevirtual 28, 3) := zo_182 zh_cX0_binds_2 0 rfl
theorem dX0_binds_43 : decode cX0_binds 43 = .ok (.iload_n 2, 1) := zo_28 zh_cX0_binds_2 3 rfl
theorem dX0_binds_44 : decode cX0_binds 44 = .ok (.aload_n 0, 1) := zo_42 zh_cX0_binds_2 4 rfl
theorem dX0_binds_45 : decode cX0_binds 45 = .ok (.getfield 22, 3) := zo_180 zh_cX0_binds_2 5 rfl
theorem dX0_binds_48 : decode cX0_binds 48 = .ok (.ixor, 1) := zo_130 zh_cX0_binds_2 8 rfl
theorem dX0_binds_49 : decode cX0_binds 49 = .ok (.ireturn, 1) := zo_172 zh_cX0_binds_2 9 rfl
abbrev z_X0_binds : List Cond := .code yX0_binds cX0_binds 3 (some .int) :: zW
abbrev wl_X0_binds (ad : Nat → Nat) (cs : Nat → ClassId)  (acts_ran : Int32) (acts_kind : Int32) (acts_number : Int32) (acts_claims : Int32) (acts_bodies : Nat → Int32) : va_W := [((ad 39), .inr (0, [.ref (ad 40), .int acts_ran, .int acts_kind, .int acts_number, .int acts_claims])), ((ad 40), .inl (cs 0, 24, .inl acts_bodies))]
def Q_X0_binds (D : va_G) (cs : Nat → ClassId) (ad : Nat → Nat)  (acts_kind : Int32) (acts_number : Int32) (acts_claims : Int32) (A : Nat → Prop) (R : Int32 × Int32 × (Nat → Int32)) : Array Value → State → Outcome → State → Prop :=
  va_Qi (fun (r : Int32) (u : Int32 × (Nat → Int32)) => (r, u) = R) (fun (u : Int32 × (Nat → Int32)) (t : State) => va_P D classes (wl_X0_binds ad cs u.1 acts_kind acts_number acts_claims u.2) t.heap ∧ va_D A (wl_X0_binds ad cs u.1 acts_kind acts_number acts_claims u.2)) A
theorem g_X0_43 : GoodIn zW (wsV RX0 43 RX0 yX0_binds z_X0_binds) := zGV kw_1228 kw_1230 kw_14 kw_84 kw_1231
theorem hd_X0_binds : yX0_binds.cls ≠ "java/lang/invoke/MethodHandle" ∧ yX0_binds.cls ≠ "java/lang/invoke/VarHandle" ∧ (parseMethodDescriptor yX0_binds.desc).map (fun d => d.parameters.length) = some 2 := by decide +kernel
def B_X0_binds_0  (r_X0_binds : Int32 → Int32 → Int32 → Int32 → Int32 → Int32 → (Nat → Int32) → (Option (Int32 × Int32 × (Nat → Int32))))  (acts_kind : Int32) (acts_number : Int32) (acts_claims : Int32) (x1 : Int32) (x2 : Int32) (acts_ran : Int32) (acts_bodies : Nat → Int32) : Option (Int32 × Int32 × (Nat → Int32)) :=
  (if x1 = (2 : Int32) then (zk_b2 (f_X0_note (30 : Int32) acts_ran acts_kind acts_number acts_claims acts_bodies) (fun u_13 u_14 => (zk_b2 (f_X0_above (2 : Int32)) (fun r_16 u_17 => (zk_b3 (r_X0_binds r_16 x2 u_13 acts_kind acts_number acts_claims u_14) (fun r_19 u_20 u_21 => (some (r_19 * (3 : Int32), u_20, u_21)))))))) else (if x1 ≤ 0 then (zk_b2 (f_X0_note (11 : Int32) acts_ran acts_kind acts_number acts_claims acts_bodies) (fun u_3 u_4 => (some (x2 ^^^ acts_number, u_3, u_4)))) else (zk_b2 (f_X0_above x1) (fun r_6 u_7 => (zk_b3 (r_X0_binds r_6 x2 acts_ran acts_kind acts_number acts_claims acts_bodies) (fun r_9 u_10 u_11 => (some (r_9, u_10, u_11))))))))
def f_X0_binds  (r_X0_binds : Int32 → Int32 → Int32 → Int32 → Int32 → Int32 → (Nat → Int32) → (Option (Int32 × Int32 × (Nat → Int32)))) (x1 : Int32) (x2 : Int32) (acts_ran : Int32) (acts_kind : Int32) (acts_number : Int32) (acts_claims : Int32) (acts_bodies : Nat → Int32) : Option (Int32 × Int32 × (Nat → Int32)) := B_X0_binds_0  r_X0_binds acts_kind acts_number acts_claims x1 x2 acts_ran acts_bodies
def grp_grp139 (n : Nat) : (Int32 → Int32 → Int32 → Int32 → Int32 → Int32 → (Nat → Int32) → (Option (Int32 × Int32 × (Nat → Int32)))) :=
  Nat.rec (motive := fun _ => (Int32 → Int32 → Int32 → Int32 → Int32 → Int32 → (Nat → Int32) → (Option (Int32 × Int32 × (Nat → Int32))))) ((fun _ _ _ _ _ _ _ => none)) (fun _ ih => (f_X0_binds (ih))) n
set_option maxHeartbeats 4000000 in
set_option maxRecDepth 100000 in
theorem L_X0_binds_0 {p : Program} {l : Launch} {e : Env} {s : State} {m : MethodId} {args : Array Value} {below : List Frame} {meth : Method} {c : Code} {A : Nat → Prop} {D : va_G} {cs : Nat → ClassId} {ad : Nat → Nat} {acts_kind : Int32} {acts_number : Int32} {acts_claims : Int32} {R : Int32 × Int32 × (Nat → Int32)} (C0 : zC p s m args meth c cX0_binds 3 (some .int) RX0 zW) (hK : va_K D classes (zT cs) s) (hA : ∀ q : Nat, s.heap.size ≤ q → A q) {fr lo : Nat} {r_X0_binds : Int32 → Int32 → Int32 → Int32 → Int32 → Int32 → (Nat → Int32) → (Option (Int32 × Int32 × (Nat → Int32)))} (hr_X0_binds : ∀ (D : va_G) (cs : Nat → ClassId) (ad : Nat → Nat) (sz : Nat) (x1 : Int32) (x2 : Int32) (acts_ran : Int32) (acts_kind : Int32) (acts_number : Int32) (acts_claims : Int32) (acts_bodies : Nat → Int32) (R : Int32 × Int32 × (Nat → Int32)) (h : r_X0_binds x1 x2 acts_ran acts_kind acts_number acts_claims acts_bodies = some R), Met l yX0_binds z_X0_binds ({ frames := fr, cells := 0, slots := 0, locals := lo } : Room) (va_Pc [.ref (ad 39), .int x1, .int x2] (zPre D cs (wl_X0_binds ad cs acts_ran acts_kind acts_number acts_claims acts_bodies) sz)) (Q_X0_binds D cs ad acts_kind acts_number acts_claims (va_A (wl_X0_binds ad cs acts_ran acts_kind acts_number acts_claims acts_bodies) sz) R) 0 0 (va_A (wl_X0_binds ad cs acts_ran acts_kind acts_number acts_claims acts_bodies) sz)) (x1 : Int32) (x2 : Int32) (acts_ran : Int32) (acts_bodies : Nat → Int32) (h : B_X0_binds_0 r_X0_binds acts_kind acts_number acts_claims x1 x2 acts_ran acts_bodies = some R) (H : Heap) (locs : List Loc) (ls : Array Slot) (hP : va_P D classes (wl_X0_binds ad cs acts_ran acts_kind acts_number acts_claims acts_bodies) H) (hD : va_D A (wl_X0_binds ad cs acts_ran acts_kind acts_number acts_claims acts_bodies)) (hS : va_S A s.heap H locs) (hl : lv_has ls 3 [(0, .ref (ad 39)), (1, .int x1), (2, .int x2)]) : W p l e ({ frames := fr + 1, cells := 0, slots := 0, locals := lo + 22 } : Room) s m args below meth c H locs 0 0 (MQ below (Q_X0_binds D cs ad acts_kind acts_number acts_claims A R) args s 0 0 A) (F0 m 0 ls []) := by
  obtain ⟨hx, hb, hr, hml, hown, ht, hlocks⟩ := id C0
  refine lv_iload_n hx hb dX0_binds_0 rfl (lv_at hl 1 rfl) ?_
  refine lv_iconst (v := (2 : Int32)) hx hb dX0_binds_1 (by decide) ?_
  refine lv_icmp_ne (tgt := 23) hx hb dX0_binds_2 (by decide) (fun c_1 => ?_) (fun c_1 => ?_)
  · have h := zk_f c_1 h
    refine lv_iload_n hx hb dX0_binds_23 rfl (lv_at hl 1 rfl) ?_
    refine lv_if_le (tgt := 37) hx hb dX0_binds_24 (by decide) (fun c_2 => ?_) (fun c_2 => ?_)
    · have h := zk_t c_2 h
      refine lv_aload_n hx hb dX0_binds_37 rfl (lv_at hl 0 rfl) ?_
      refine lv_bipush (v := (11 : Int32)) hx hb dX0_binds_38 (by decide) ?_
      obtain ⟨u_3, u_4, hc_5, h⟩ := zk_o2 h
      refine zz_vv (post := (fun u => u = (u_3, u_4))) (w1 := fun u => (wl_X0_note ad cs u.1 acts_kind acts_number acts_claims u.2)) (As := [.int (11 : Int32)]) (rest := []) (c_X0_note l D cs ad  H.size (11 : Int32) acts_ran acts_kind acts_number acts_claims acts_bodies (u_3, u_4) hc_5) ⟨hx, hb, hml, hown, ht⟩ (cwV 1 ht g_X0_28 rfl rfl rfl ⟨rfl, hd_X0_note⟩ ⟨(by show 0 + 1 ≤ fr + 1; omega), (by show 8 + (2 + 11) + 0 ≤ lo + 22; omega)⟩) (va_recv hK hP (ci := 0) (q0 := 0) rfl rfl) hP hD hS hK hA [0, 1] rfl rfl [(ad 39), (ad 40)] rfl (fun _ => rfl) rfl hl.1 (Nat.le_of_ble_eq_true rfl) dX0_binds_40 ⟨Nat.zero_le _, Nat.zero_le _⟩ (fun u H locs hq hP hS => ?_)
      cases hq
      have hP : va_P D classes (wl_X0_binds ad cs u_3 acts_kind acts_number acts_claims u_4) H := hP
      have hD : va_D A (wl_X0_binds ad cs u_3 acts_kind acts_number acts_claims u_4) := zDk hD [(ad 39), (ad 40)] rfl rfl
      refine lv_iload_n hx hb dX0_binds_43 rfl (lv_at hl 2 rfl) ?_
      refine lv_aload_n hx hb dX0_binds_44 rfl (lv_at hl 0 rfl) ?_
      refine va_get (D := D) (ci := 0) (v := .int acts_number) (C := RX0) (T := TX0) (N := 5) hx hb ht iX0 hown hK hP 0 rfl rfl 3 (by decide) (ht _ kw_459) (fun _ h9 => h9) rfl dX0_binds_45 ?_
      refine lv_ixor hx hb dX0_binds_48 ?_
      exact W.iret (v := x2 ^^^ acts_number) hx hb hr (fun t ht2 hW => ⟨⟨x2 ^^^ acts_number, (u_3, u_4), rfl, Option.some.inj h, by rw [ht2]; exact hP, hD⟩, hS.F ht2⟩) hS.2.2 dX0_binds_49 hlocks
    · have h := zk_f c_2 h
      refine lv_aload_n hx hb dX0_binds_27 rfl (lv_at hl 0 rfl) ?_
      refine lv_iload_n hx hb dX0_binds_28 rfl (lv_at hl 1 rfl) ?_
      obtain ⟨r_6, u_7, hc_8, h⟩ := zk_o2 h
      refine zz_si (post := (fun r u => (r, u) = (r_6, u_7))) (w1 := fun u => (wl_X0_above ad cs )) (As := [.int x1]) (rest := [.ref (ad 39)]) (c_X0_above l D cs ad  H.size x1 (r_6, u_7) hc_8) ⟨hx, hb, hml, hown, ht⟩ (va_cwS 1 ht g_X0_32 rfl rfl rfl hd_X0_above ⟨(by show 0 + 1 ≤ fr + 1; omega), (by show 8 + (1 + 11) + 0 ≤ lo + 22; omega)⟩) hP hD hS hK hA [] rfl rfl [] rfl (fun _ => rfl) rfl hl.1 (Nat.le_of_ble_eq_true rfl) dX0_binds_29 ⟨Nat.zero_le _, Nat.zero_le _⟩ (fun r u H locs hq hP hS => ?_)
      cases hq
      have hP : va_P D classes (wl_X0_binds ad cs acts_ran acts_kind acts_number acts_claims acts_bodies) H := hP
      refine lv_iload_n hx hb dX0_binds_32 rfl (lv_at hl 2 rfl) ?_
      obtain ⟨r_9, u_10, u_11, hc_12, h⟩ := zk_o3 h
      refine zz_vi (post := (fun r u => (r, u) = (r_9, u_10, u_11))) (w1 := fun u => (wl_X0_binds ad cs u.1 acts_kind acts_number acts_claims u.2)) (As := [.int r_6, .int x2]) (rest := []) (hr_X0_binds D cs ad  H.size r_6 x2 acts_ran acts_kind acts_number acts_claims acts_bodies (r_9, u_10, u_11) hc_12) ⟨hx, hb, hml, hown, ht⟩ (cwV 2 ht g_X0_43 rfl rfl rfl ⟨rfl, hd_X0_binds⟩ ⟨(by show fr + 1 ≤ fr + 1; omega), (by show 8 + (3 + 11) + lo ≤ lo + 22; omega)⟩) (va_recv hK hP (ci := 0) (q0 := 0) rfl rfl) hP hD hS hK hA [0, 1] rfl rfl [(ad 39), (ad 40)] rfl (fun _ => rfl) rfl hl.1 (Nat.le_of_ble_eq_true rfl) dX0_binds_33 ⟨Nat.zero_le _, Nat.zero_le _⟩ (fun r u H locs hq hP hS => ?_)
      cases hq
      have hP : va_P D classes (wl_X0_binds ad cs u_10 acts_kind acts_number acts_claims u_11) H := hP
      have hD : va_D A (wl_X0_binds ad cs u_10 acts_kind acts_number acts_claims u_11) := zDk hD [(ad 39), (ad 40)] rfl rfl
      exact W.iret (v := r_9) hx hb hr (fun t ht2 hW => ⟨⟨r_9, (u_10, u_11), rfl, Option.some.inj h, by rw [ht2]; exact hP, hD⟩, hS.F ht2⟩) hS.2.2 dX0_binds_36 hlocks
  · have h := zk_t c_1 h
    refine lv_aload_n hx hb dX0_binds_5 rfl (lv_at hl 0 rfl) ?_
    refine lv_bipush (v := (30 : Int32)) hx hb dX0_binds_6 (by decide) ?_
    obtain ⟨u_13, u_14, hc_15, h⟩ := zk_o2 h
    refine zz_vv (post := (fun u => u = (u_13, u_14))) (w1 := fun u => (wl_X0_note ad cs u.1 acts_kind acts_number acts_claims u.2)) (As := [.int (30 : Int32)]) (rest := []) (c_X0_note l D cs ad  H.size (30 : Int32) acts_ran acts_kind acts_number acts_claims acts_bodies (u_13, u_14) hc_15) ⟨hx, hb, hml, hown, ht⟩ (cwV 1 ht g_X0_28 rfl rfl rfl ⟨rfl, hd_X0_note⟩ ⟨(by show 0 + 1 ≤ fr + 1; omega), (by show 8 + (2 + 11) + 0 ≤ lo + 22; omega)⟩) (va_recv hK hP (ci := 0) (q0 := 0) rfl rfl) hP hD hS hK hA [0, 1] rfl rfl [(ad 39), (ad 40)] rfl (fun _ => rfl) rfl hl.1 (Nat.le_of_ble_eq_true rfl) dX0_binds_8 ⟨Nat.zero_le _, Nat.zero_le _⟩ (fun u H locs hq hP hS => ?_)
    cases hq
    have hP : va_P D classes (wl_X0_binds ad cs u_13 acts_kind acts_number acts_claims u_14) H := hP
    have hD : va_D A (wl_X0_binds ad cs u_13 acts_kind acts_number acts_claims u_14) := zDk hD [(ad 39), (ad 40)] rfl rfl
    refine lv_aload_n hx hb dX0_binds_11 rfl (lv_at hl 0 rfl) ?_
    refine lv_iconst (v := (2 : Int32)) hx hb dX0_binds_12 (by decide) ?_
    obtain ⟨r_16, u_17, hc_18, h⟩ := zk_o2 h
    refine zz_si (post := (fun r u => (r, u) = (r_16, u_17))) (w1 := fun u => (wl_X0_above ad cs )) (As := [.int (2 : Int32)]) (rest := [.ref (ad 39)]) (c_X0_above l D cs ad  H.size (2 : Int32) (r_16, u_17) hc_18) ⟨hx, hb, hml, hown, ht⟩ (va_cwS 1 ht g_X0_32 rfl rfl rfl hd_X0_above ⟨(by show 0 + 1 ≤ fr + 1; omega), (by show 8 + (1 + 11) + 0 ≤ lo + 22; omega)⟩) hP hD hS hK hA [] rfl rfl [] rfl (fun _ => rfl) rfl hl.1 (Nat.le_of_ble_eq_true rfl) dX0_binds_13 ⟨Nat.zero_le _, Nat.zero_le _⟩ (fun r u H locs hq hP hS => ?_)
    cases hq
    have hP : va_P D classes (wl_X0_binds ad cs u_13 acts_kind acts_number acts_claims u_14) H := hP
    refine lv_iload_n hx hb dX0_binds_16 rfl (lv_at hl 2 rfl) ?_
    obtain ⟨r_19, u_20, u_21, hc_22, h⟩ := zk_o3 h
    refine zz_vi (post := (fun r u => (r, u) = (r_19, u_20, u_21))) (w1 := fun u => (wl_X0_binds ad cs u.1 acts_kind acts_number acts_claims u.2)) (As := [.int r_16, .int x2]) (rest := []) (hr_X0_binds D cs ad  H.size r_16 x2 u_13 acts_kind acts_number acts_claims u_14 (r_19, u_20, u_21) hc_22) ⟨hx, hb, hml, hown, ht⟩ (cwV 2 ht g_X0_43 rfl rfl rfl ⟨rfl, hd_X0_binds⟩ ⟨(by show fr + 1 ≤ fr + 1; omega), (by show 8 + (3 + 11) + lo ≤ lo + 22; omega)⟩) (va_recv hK hP (ci := 0) (q0 := 0) rfl rfl) hP hD hS hK hA [0, 1] rfl rfl [(ad 39), (ad 40)] rfl (fun _ => rfl) rfl hl.1 (Nat.le_of_ble_eq_true rfl) dX0_binds_17 ⟨Nat.zero_le _, Nat.zero_le _⟩ (fun r u H locs hq hP hS => ?_)
    cases hq
    have hP : va_P D classes (wl_X0_binds ad cs u_20 acts_kind acts_number acts_claims u_21) H := hP
    have hD : va_D A (wl_X0_binds ad cs u_20 acts_kind acts_number acts_claims u_21) := zDk hD [(ad 39), (ad 40)] rfl rfl
    refine lv_iconst (v := (3 : Int32)) hx hb dX0_binds_20 (by decide) ?_
    refine lv_imul hx hb dX0_binds_21 ?_
    exact W.iret (v := r_19 * (3 : Int32)) hx hb hr (fun t ht2 hW => ⟨⟨r_19 * (3 : Int32), (u_20, u_21), rfl, Option.some.inj h, by rw [ht2]; exact hP, hD⟩, hS.F ht2⟩) hS.2.2 dX0_binds_22 hlocks
set_option maxHeartbeats 4000000 in
set_option maxRecDepth 100000 in
theorem c_X0_binds (l : Launch) (D : va_G) (cs : Nat → ClassId) (ad : Nat → Nat) {fr lo : Nat} {r_X0_binds : Int32 → Int32 → Int32 → Int32 → Int32 → Int32 → (Nat → Int32) → (Option (Int32 × Int32 × (Nat → Int32)))} (hr_X0_binds : ∀ (D : va_G) (cs : Nat → ClassId) (ad : Nat → Nat) (sz : Nat) (x1 : Int32) (x2 : Int32) (acts_ran : Int32) (acts_kind : Int32) (acts_number : Int32) (acts_claims : Int32) (acts_bodies : Nat → Int32) (R : Int32 × Int32 × (Nat → Int32)) (h : r_X0_binds x1 x2 acts_ran acts_kind acts_number acts_claims acts_bodies = some R), Met l yX0_binds z_X0_binds ({ frames := fr, cells := 0, slots := 0, locals := lo } : Room) (va_Pc [.ref (ad 39), .int x1, .int x2] (zPre D cs (wl_X0_binds ad cs acts_ran acts_kind acts_number acts_claims acts_bodies) sz)) (Q_X0_binds D cs ad acts_kind acts_number acts_claims (va_A (wl_X0_binds ad cs acts_ran acts_kind acts_number acts_claims acts_bodies) sz) R) 0 0 (va_A (wl_X0_binds ad cs acts_ran acts_kind acts_number acts_claims acts_bodies) sz)) (sz : Nat) (x1 : Int32) (x2 : Int32) (acts_ran : Int32) (acts_kind : Int32) (acts_number : Int32) (acts_claims : Int32) (acts_bodies : Nat → Int32) (R : Int32 × Int32 × (Nat → Int32)) (h : f_X0_binds  r_X0_binds x1 x2 acts_ran acts_kind acts_number acts_claims acts_bodies = some R) : Met l yX0_binds (z_X0_binds) ({ frames := fr + 1, cells := 0, slots := 0, locals := lo + 22 } : Room) (va_Pc [.ref (ad 39), .int x1, .int x2] (zPre D cs (wl_X0_binds ad cs acts_ran acts_kind acts_number acts_claims acts_bodies) sz)) (Q_X0_binds D cs ad acts_kind acts_number acts_claims (va_A (wl_X0_binds ad cs acts_ran acts_kind acts_number acts_claims acts_bodies) sz) R) 0 0 (va_A (wl_X0_binds ad cs acts_ran acts_kind acts_number acts_claims acts_bodies) sz) := by
  refine Met.ofW (cc := cX0_binds) (maxL := 3) (ret := (some .int)) (by decide) rfl ?_
  intro p e s m args below meth c s₁ B hml hv
  obtain ⟨rfl, hsz, hP, hK, hD0⟩ := hv
  subst hsz
  have hD := hD0.self (sz := s.heap.size)
  have C0 : zC p s m _ meth c cX0_binds 3 (some .int) RX0 zW := ⟨B.exec, B.bytes, B.returns, hml, findClass_of_methodNamed B.named, fun w hw => atoms_spec (ws := z_X0_binds) B.pre w (List.mem_cons_of_mem _ hw), B.notSynchronized⟩
  have hA : ∀ q : Nat, s.heap.size ≤ q → va_A (wl_X0_binds ad cs acts_ran acts_kind acts_number acts_claims acts_bodies) s.heap.size q := fun q h => Or.inr h
  have hl := lv_entry ([.ref (ad 39), .int x1, .int x2]) (n := 3) (Nat.le_of_ble_eq_true rfl)
  rw [lg_entry_eq]
  generalize (lg_sl ([.ref (ad 39), .int x1, .int x2]) ++ List.replicate (3 - (lg_sl ([.ref (ad 39), .int x1, .int x2])).length) Slot.unset).toArray = ls at hl ⊢
  exact L_X0_binds_0 C0 hK hA hr_X0_binds  x1 x2 acts_ran acts_bodies h s.heap [] ls hP hD va_S.rf hl
theorem cg_grp139 (l : Launch) : ∀ n : Nat, (∀ (D : va_G) (cs : Nat → ClassId) (ad : Nat → Nat) (sz : Nat) (x1 : Int32) (x2 : Int32) (acts_ran : Int32) (acts_kind : Int32) (acts_number : Int32) (acts_claims : Int32) (acts_bodies : Nat → Int32) (R : Int32 × Int32 × (Nat → Int32)) (h : ((grp_grp139 n)) x1 x2 acts_ran acts_kind acts_number acts_claims acts_bodies = some R), Met l yX0_binds z_X0_binds ({ frames := 1 * n, cells := 0, slots := 0, locals := 22 * n } : Room) (va_Pc [.ref (ad 39), .int x1, .int x2] (zPre D cs (wl_X0_binds ad cs acts_ran acts_kind acts_number acts_claims acts_bodies) sz)) (Q_X0_binds D cs ad acts_kind acts_number acts_claims (va_A (wl_X0_binds ad cs acts_ran acts_kind acts_number acts_claims acts_bodies) sz) R) 0 0 (va_A (wl_X0_binds ad cs acts_ran acts_kind acts_number acts_claims acts_bodies) sz)) := by
  intro n
  induction n with
  | zero =>
    refine ?_ <;> (intros; rename_i h; cases h)
  | succ n ih =>
    exact (fun D cs ad   sz x1 x2 acts_ran acts_kind acts_number acts_claims acts_bodies R h => c_X0_binds l D cs ad   (ih) sz x1 x2 acts_ran acts_kind acts_number acts_claims acts_bodies R h)
