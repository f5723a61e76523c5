theorem kw_93 : Cond.initialized "java/lang/System" ∈ zW := zwC (i := 19) zc_1 rfl rfl
theorem kw_664 : Cond.static arraycopyName ∈ zW := zwC (i := 110) zc_3 rfl rfl
theorem kw_665 : Cond.native arraycopyName ∈ zW := zwC (i := 111) zc_3 rfl rfl
theorem kw_781 : Cond.methodLink RX1 43 arraycopyName ∈ zW := zwC (i := 227) zc_3 rfl rfl
theorem dX1_dropOldest_0 : decode cX1_dropOldest 0 = .ok (.aload_n 0, 1) := by decide +kernel
theorem dX1_dropOldest_1 : decode cX1_dropOldest 1 = .ok (.iconst 1, 1) := by decide +kernel
theorem dX1_dropOldest_2 : decode cX1_dropOldest 2 = .ok (.aload_n 0, 1) := by decide +kernel
theorem dX1_dropOldest_3 : decode cX1_dropOldest 3 = .ok (.iconst 0, 1) := by decide +kernel
theorem dX1_dropOldest_4 : decode cX1_dropOldest 4 = .ok (.aload_n 0, 1) := by decide +kernel
theorem dX1_dropOldest_5 : decode cX1_dropOldest 5 = .ok (.arraylength, 1) := by decide +kernel
theorem dX1_dropOldest_6 : decode cX1_dropOldest 6 = .ok (.iconst 1, 1) := by decide +kernel
theorem dX1_dropOldest_7 : decode cX1_dropOldest 7 = .ok (.isub, 1) := by decide +kernel
theorem dX1_dropOldest_8 : decode cX1_dropOldest 8 = .ok (.invokestatic 43, 3) := by decide +kernel
theorem dX1_dropOldest_11 : decode cX1_dropOldest 11 = .ok (.return_, 1) := by decide +kernel
abbrev z_X1_dropOldest : List Cond := .code yX1_dropOldest cX1_dropOldest 1 none :: zW
abbrev wl_X1_dropOldest (ad : Nat → Nat) (cs : Nat → ClassId) (h_arI_a : Nat) (arI_a : Nat → Int32) (arI_a_n : Nat) : va_W := [(h_arI_a, .inl (cs 0, arI_a_n, .inl arI_a))]
def Q_X1_dropOldest (D : va_G) (cs : Nat → ClassId) (ad : Nat → Nat) (h_arI_a : Nat) (arI_a_n : Nat) (A : Nat → Prop) (R : (Nat → Int32)) : Array Value → State → Outcome → State → Prop :=
  va_Qv (fun u : (Nat → Int32) => u = R) (fun (u : (Nat → Int32)) (t : State) => va_P D classes (wl_X1_dropOldest ad cs h_arI_a u arI_a_n) t.heap ∧ va_D A (wl_X1_dropOldest ad cs h_arI_a u arI_a_n)) A
abbrev rm_X1_dropOldest : Room := { frames := 1, cells := 0, slots := 0, locals := 40 }
def B_X1_dropOldest_0    (arI_a_n : Nat) (arI_a : Nat → Int32) : Option ((Nat → Int32)) :=
  (if ((1 : Int32) < 0 ∨ (0 : Int32) < 0 ∨ ((Int32.ofNat arI_a_n) - (1 : Int32)) < 0 ∨ arI_a_n < (1 : Int32).toNatClampNeg + ((Int32.ofNat arI_a_n) - (1 : Int32)).toNatClampNeg ∨ arI_a_n < (0 : Int32).toNatClampNeg + ((Int32.ofNat arI_a_n) - (1 : Int32)).toNatClampNeg) then none else (zk_let (va_cpy arI_a arI_a (1 : Int32).toNatClampNeg (0 : Int32).toNatClampNeg ((Int32.ofNat arI_a_n) - (1 : Int32)).toNatClampNeg) (fun f_2 => (some f_2))))
def f_X1_dropOldest    (arI_a : Nat → Int32) (arI_a_n : Nat) : Option ((Nat → Int32)) := B_X1_dropOldest_0   arI_a_n  arI_a
set_option maxHeartbeats 4000000 in
set_option maxRecDepth 100000 in
theorem L_X1_dropOldest_0 {p : Program} {l : Launch} {e : Env} {s : State} {m : MethodId} {args : Array Value} {below : List Frame} {meth : Method} {c : Code} {A : Nat → Prop} {D : va_G} {cs : Nat → ClassId} {ad : Nat → Nat} {h_arI_a : Nat} {arI_a_n : Nat} {R : (Nat → Int32)} (C0 : zC p s m args meth c cX1_dropOldest 1 none RX1 zW) (hK : va_K D classes (zT cs) s) (hA : ∀ q : Nat, s.heap.size ≤ q → A q) (arI_a : Nat → Int32) (h : B_X1_dropOldest_0 arI_a_n arI_a = some R) (H : Heap) (locs : List Loc) (ls : Array Slot) (hP : va_P D classes (wl_X1_dropOldest ad cs h_arI_a arI_a arI_a_n) H) (hD : va_D A (wl_X1_dropOldest ad cs h_arI_a arI_a arI_a_n)) (hS : va_S A s.heap H locs) (hl : lv_has ls 1 [(0, .ref h_arI_a)]) : W p l e rm_X1_dropOldest s m args below meth c H locs 0 0 (MQ below (Q_X1_dropOldest D cs ad h_arI_a arI_a_n A R) args s 0 0 A) (F0 m 0 ls []) := by
  obtain ⟨hx, hb, hr, hml, hown, ht, hlocks⟩ := id C0
  refine lv_aload_n hx hb dX1_dropOldest_0 rfl (lv_at hl 0 rfl) ?_
  refine lv_iconst (v := (1 : Int32)) hx hb dX1_dropOldest_1 (by decide) ?_
  refine lv_aload_n hx hb dX1_dropOldest_2 rfl (lv_at hl 0 rfl) ?_
  refine lv_iconst (v := (0 : Int32)) hx hb dX1_dropOldest_3 (by decide) ?_
  refine lv_aload_n hx hb dX1_dropOldest_4 rfl (lv_at hl 0 rfl) ?_
  refine va_alen (v := Int32.ofNat arI_a_n) hx hb hK hP 0 0 rfl rfl rfl dX1_dropOldest_5 ?_
  refine lv_iconst (v := (1 : Int32)) hx hb dX1_dropOldest_6 (by decide) ?_
  refine lv_isub hx hb dX1_dropOldest_7 ?_
  obtain ⟨g_1, h⟩ := zk_gd h
  obtain ⟨f_2, ef_2, h⟩ := zk_lt h
  refine va_copyi (ty := .int) hx hb (by rw [hml]; exact hl.1.symm) hown (ht _ kw_781) (ht _ kw_665) (ht _ kw_664) (ht _ kw_93) hK hP hD hS 0 0 0 0 rfl rfl rfl rfl rfl (fun z => g_1 (Or.inl z)) (fun z => g_1 (Or.inr (Or.inl z))) (fun z => g_1 (Or.inr (Or.inr (Or.inl z)))) (Nat.not_lt.mp fun z => g_1 (Or.inr (Or.inr (Or.inr (Or.inl z))))) (Nat.not_lt.mp fun z => g_1 (Or.inr (Or.inr (Or.inr (Or.inr z))))) (fun _ _ => rfl) (Nat.le_of_ble_eq_true rfl) (Nat.le_of_ble_eq_true rfl) dX1_dropOldest_8 (fun H locs hP hD hS => ?_)
  have hP : va_P D classes (wl_X1_dropOldest ad cs h_arI_a f_2 arI_a_n) H := by rw [ef_2]; exact hP
  have hD : va_D A (wl_X1_dropOldest ad cs h_arI_a f_2 arI_a_n) := by rw [ef_2]; exact hD
  exact W.vret hx hb hr (fun t ht2 hW => ⟨⟨f_2, rfl, Option.some.inj h, by rw [ht2]; exact hP, hD⟩, hS.F ht2⟩) hS.2.2 dX1_dropOldest_11 hlocks
set_option maxHeartbeats 4000000 in
set_option maxRecDepth 100000 in
theorem c_X1_dropOldest (l : Launch) (D : va_G) (cs : Nat → ClassId) (ad : Nat → Nat) (h_arI_a : Nat) (sz : Nat)  (arI_a : Nat → Int32) (arI_a_n : Nat) (R : (Nat → Int32)) (h : f_X1_dropOldest    arI_a arI_a_n = some R) : Met l yX1_dropOldest (z_X1_dropOldest) rm_X1_dropOldest (va_Pc [.ref h_arI_a] (zPre D cs (wl_X1_dropOldest ad cs h_arI_a arI_a arI_a_n) sz)) (Q_X1_dropOldest D cs ad h_arI_a arI_a_n (va_A (wl_X1_dropOldest ad cs h_arI_a arI_a arI_a_n) sz) R) 0 0 (va_A (wl_X1_dropOldest ad cs h_arI_a arI_a arI_a_n) sz) := by
  refine Met.ofW (cc := cX1_dropOldest) (maxL := 1) (ret := none) (by decide) rfl ?_
  intro p e s m args below meth c s₁ B hml hv
  obtain ⟨rfl, hsz, hP, hK, hD0⟩ := hv
  subst hsz
  have hD := hD0.self (sz := s.heap.size)
  have C0 : zC p s m _ meth c cX1_dropOldest 1 none RX1 zW := ⟨B.exec, B.bytes, B.returns, hml, findClass_of_methodNamed B.named, fun w hw => atoms_spec (ws := z_X1_dropOldest) B.pre w (List.mem_cons_of_mem _ hw), B.notSynchronized⟩
  have hA : ∀ q : Nat, s.heap.size ≤ q → va_A (wl_X1_dropOldest ad cs h_arI_a arI_a arI_a_n) s.heap.size q := fun q h => Or.inr h
  have hl := lv_entry ([.ref h_arI_a]) (n := 1) (Nat.le_of_ble_eq_true rfl)
  rw [lg_entry_eq]
  generalize (lg_sl ([.ref h_arI_a]) ++ List.replicate (1 - (lg_sl ([.ref h_arI_a])).length) Slot.unset).toArray = ls at hl ⊢
  exact L_X1_dropOldest_0 C0 hK hA    arI_a h s.heap [] ls hP hD va_S.rf hl
theorem kw_127 : Cond.fieldLink RX1 54 "AlreadyJudged$Court" "shoeDay" "[I" ∈ zW := zwC (i := 53) zc_1 rfl rfl
theorem kw_150 : Cond.fieldLink RX1 49 "AlreadyJudged$Court" "shoeCount" "I" ∈ zW := zwC (i := 76) zc_1 rfl rfl
theorem kw_314 : Cond.fieldLink RX1 61 "AlreadyJudged$Suit" "won" "I" ∈ zW := zwC (i := 0) zc_2 rfl rfl
theorem kw_331 : Cond.fieldLink RX1 66 "AlreadyJudged$Suit" "undoneFrom" "I" ∈ zW := zwC (i := 17) zc_2 rfl rfl
theorem kw_424 : Cond.fieldLink RX1 24 "AlreadyJudged$Changes" "court" "LAlreadyJudged$Court;" ∈ zW := zwC (i := 110) zc_2 rfl rfl
theorem kw_786 : Cond.methodLink RX1 57 yX2_suitAt ∈ zW := zwC (i := 232) zc_3 rfl rfl
theorem dX1_set_0 : decode cX1_set 0 = .ok (.iload_n 1, 1) := by decide +kernel
theorem dX1_set_1 : decode cX1_set 1 = .ok (.iconst 2, 1) := by decide +kernel
theorem dX1_set_2 : decode cX1_set 2 = .ok (.if_icmp .ne 29, 3) := by decide +kernel
theorem dX1_set_5 : decode cX1_set 5 = .ok (.iload_n 2, 1) := by decide +kernel
theorem dX1_set_6 : decode cX1_set 6 = .ok (.ifCond .lt 24, 3) := by decide +kernel
theorem dX1_set_9 : decode cX1_set 9 = .ok (.iload_n 2, 1) := by decide +kernel
theorem dX1_set_10 : decode cX1_set 10 = .ok (.aload_n 0, 1) := by decide +kernel
theorem dX1_set_11 : decode cX1_set 11 = .ok (.getfield 24, 3) := by decide +kernel
theorem dX1_set_14 : decode cX1_set 14 = .ok (.getfield 49, 3) := by decide +kernel
theorem dX1_set_17 : decode cX1_set 17 = .ok (.if_icmp .ge 13, 3) := by decide +kernel
theorem dX1_set_20 : decode cX1_set 20 = .ok (.aload_n 0, 1) := by decide +kernel
theorem dX1_set_21 : decode cX1_set 21 = .ok (.getfield 24, 3) := by decide +kernel
theorem dX1_set_24 : decode cX1_set 24 = .ok (.getfield 54, 3) := by decide +kernel
theorem dX1_set_27 : decode cX1_set 27 = .ok (.iload_n 2, 1) := by decide +kernel
theorem dX1_set_28 : decode cX1_set 28 = .ok (.iload_n 3, 1) := by decide +kernel
theorem dX1_set_29 : decode cX1_set 29 = .ok (.iastore, 1) := by decide +kernel
theorem dX1_set_30 : decode cX1_set 30 = .ok (.return_, 1) := by decide +kernel
theorem dX1_set_31 : decode cX1_set 31 = .ok (.aload_n 0, 1) := by decide +kernel
theorem dX1_set_32 : decode cX1_set 32 = .ok (.getfield 24, 3) := by decide +kernel
theorem dX1_set_35 : decode cX1_set 35 = .ok (.iload_n 2, 1) := by decide +kernel
theorem dX1_set_36 : decode cX1_set 36 = .ok (.invokevirtual 57, 3) := by decide +kernel
theorem dX1_set_39 : decode cX1_set 39 = .ok (.astore 4, 2) := by decide +kernel
theorem dX1_set_41 : decode cX1_set 41 = .ok (.aload 4, 2) := by decide +kernel
theorem dX1_set_43 : decode cX1_set 43 = .ok (.ifnull 16, 3) := by decide +kernel
theorem dX1_set_46 : decode cX1_set 46 = .ok (.iload_n 1, 1) := by decide +kernel
theorem dX1_set_47 : decode cX1_set 47 = .ok (.ifCond .ne 12, 3) := by decide +kernel
theorem dX1_set_50 : decode cX1_set 50 = .ok (.aload 4, 2) := by decide +kernel
theorem dX1_set_52 : decode cX1_set 52 = .ok (.iload_n 3, 1) := by decide +kernel
theorem dX1_set_53 : decode cX1_set 53 = .ok (.putfield 61, 3) := by decide +kernel
theorem dX1_set_56 : decode cX1_set 56 = .ok (.goto 14, 3) := by decide +kernel
theorem dX1_set_59 : decode cX1_set 59 = .ok (.aload 4, 2) := by decide +kernel
theorem dX1_set_61 : decode cX1_set 61 = .ok (.ifnull 9, 3) := by decide +kernel
theorem dX1_set_64 : decode cX1_set 64 = .ok (.aload 4, 2) := by decide +kernel
theorem dX1_set_66 : decode cX1_set 66 = .ok (.iload_n 3, 1) := by decide +kernel
theorem dX1_set_67 : decode cX1_set 67 = .ok (.putfield 66, 3) := by decide +kernel
theorem dX1_set_70 : decode cX1_set 70 = .ok (.return_, 1) := by decide +kernel
abbrev z_X1_set : List Cond := .code yX1_set cX1_set 5 none :: zW
abbrev wx_X1_set (ad : Nat → Nat) (cs : Nat → ClassId) (LP : va_W) (S_a : Nat → Nat) (S_b : Nat → Nat) (court_shoeCount : Int32) (court_claimCount : Int32) (court_suitCount : Int32) (court_shoeDay : Nat → Int32) (court_suits : Nat → Option Nat) (chg_done : Int32) (chg_size : Int32) (S_who : Nat → Int32) (S_against : Nat → Int32) (S_kind : Nat → Int32) (S_won : Nat → Int32) (S_day : Nat → Int32) (S_land : Nat → Int32) (S_undoneFrom : Nat → Int32) (S_asked : Nat → Nat → Int32) (S_askedCount : Nat → Int32) (S_askedBits : Nat → Int32) (S_first : Nat → Int32) (S_foundSo : Nat → Int32) (S_foundNot : Nat → Int32) (S_fought : Nat → Int32) (S_needed : Nat → Int32) : va_W := [((ad 4), .inr (2, [.ref (ad 5), .ref (ad 6), .ref (ad 7), .ref (ad 8), .ref (ad 9), .ref (ad 10), .ref (ad 11), .ref (ad 12), .ref (ad 13), .ref (ad 14), .int court_shoeCount, .int court_claimCount, .int court_suitCount])), ((ad 8), .inl (cs 0, 40, .inl court_shoeDay)), ((ad 13), .inl (cs 5, 40, .inr (.inr (.inr (.inr court_suits))))), ((ad 34), .inr (1, [.ref (ad 4), .ref (ad 35), .ref (ad 36), .ref (ad 37), .ref (ad 38), .int chg_done, .int chg_size]))]
abbrev wl_X1_set (ad : Nat → Nat) (cs : Nat → ClassId) (LP : va_W) (S_a : Nat → Nat) (S_b : Nat → Nat) (court_shoeCount : Int32) (court_claimCount : Int32) (court_suitCount : Int32) (court_shoeDay : Nat → Int32) (court_suits : Nat → Option Nat) (chg_done : Int32) (chg_size : Int32) (S_who : Nat → Int32) (S_against : Nat → Int32) (S_kind : Nat → Int32) (S_won : Nat → Int32) (S_day : Nat → Int32) (S_land : Nat → Int32) (S_undoneFrom : Nat → Int32) (S_asked : Nat → Nat → Int32) (S_askedCount : Nat → Int32) (S_askedBits : Nat → Int32) (S_first : Nat → Int32) (S_foundSo : Nat → Int32) (S_foundNot : Nat → Int32) (S_fought : Nat → Int32) (S_needed : Nat → Int32) : va_W := wx_X1_set ad cs LP S_a S_b court_shoeCount court_claimCount court_suitCount court_shoeDay court_suits chg_done chg_size S_who S_against S_kind S_won S_day S_land S_undoneFrom S_asked S_askedCount S_askedBits S_first S_foundSo S_foundNot S_fought S_needed ++ (zSu cs S_a S_b court_suitCount.toInt.toNat S_who S_against S_kind S_won S_day S_land S_undoneFrom S_asked S_askedCount S_askedBits S_first S_foundSo S_foundNot S_fought S_needed ++ LP)
def Q_X1_set (D : va_G) (cs : Nat → ClassId) (ad : Nat → Nat) (LP : va_W) (S_a : Nat → Nat) (S_b : Nat → Nat) (court_shoeCount : Int32) (court_claimCount : Int32) (court_suitCount : Int32) (court_suits : Nat → Option Nat) (chg_done : Int32) (chg_size : Int32) (S_who : Nat → Int32) (S_against : Nat → Int32) (S_kind : Nat → Int32) (S_day : Nat → Int32) (S_land : Nat → Int32) (S_asked : Nat → Nat → Int32) (S_askedCount : Nat → Int32) (S_askedBits : Nat → Int32) (S_first : Nat → Int32) (S_foundSo : Nat → Int32) (S_foundNot : Nat → Int32) (S_fought : Nat → Int32) (S_needed : Nat → Int32) (A : Nat → Prop) (R : (Nat → Int32) × (Nat → Int32) × (Nat → Int32)) : Array Value → State → Outcome → State → Prop :=
  va_Qv (fun u : (Nat → Int32) × (Nat → Int32) × (Nat → Int32) => u = R) (fun (u : (Nat → Int32) × (Nat → Int32) × (Nat → Int32)) (t : State) => va_P D classes (wl_X1_set ad cs LP S_a S_b court_shoeCount court_claimCount court_suitCount u.1 court_suits chg_done chg_size S_who S_against S_kind u.2.1 S_day S_land u.2.2 S_asked S_askedCount S_askedBits S_first S_foundSo S_foundNot S_fought S_needed) t.heap ∧ va_D A (wl_X1_set ad cs LP S_a S_b court_shoeCount court_claimCount court_suitCount u.1 court_suits chg_done chg_size S_who S_against S_kind u.2.1 S_day S_land u.2.2 S_asked S_askedCount S_askedBits S_first S_foundSo S_foundNot S_fought S_needed)) A
abbrev rm_X1_set : Room := { frames := 1, cells := 0, slots := 0, locals := 21 }
theorem g_X1_57 : GoodIn zW (wsV RX1 57 RX2 yX2_suitAt z_X2_suitAt) := zGV kw_786 kw_787 kw_788 kw_76 kw_789
def B_X1_set_59    (court_shoeCount : Int32) (court_claimCount : Int32) (court_suitCount : Int32) (court_suits : Nat → Option Nat) (chg_done : Int32) (chg_size : Int32) (S_who : Nat → Int32) (S_against : Nat → Int32) (S_kind : Nat → Int32) (S_day : Nat → Int32) (S_land : Nat → Int32) (S_asked : Nat → Nat → Int32) (S_askedCount : Nat → Int32) (S_askedBits : Nat → Int32) (S_first : Nat → Int32) (S_foundSo : Nat → Int32) (S_foundNot : Nat → Int32) (S_fought : Nat → Int32) (S_needed : Nat → Int32) (x3 : Int32) (x4 : Int32) (court_shoeDay : Nat → Int32) (S_won : Nat → Int32) (S_undoneFrom : Nat → Int32) : Option ((Nat → Int32) × (Nat → Int32) × (Nat → Int32)) :=
  (if (x4 < 0 ∨ court_suitCount ≤ x4) then none else (zk_let (upd S_undoneFrom x4.toNatClampNeg x3) (fun f_20 => (some (court_shoeDay, S_won, f_20)))))
def B_X1_set_0    (court_shoeCount : Int32) (court_claimCount : Int32) (court_suitCount : Int32) (court_suits : Nat → Option Nat) (chg_done : Int32) (chg_size : Int32) (S_who : Nat → Int32) (S_against : Nat → Int32) (S_kind : Nat → Int32) (S_day : Nat → Int32) (S_land : Nat → Int32) (S_asked : Nat → Nat → Int32) (S_askedCount : Nat → Int32) (S_askedBits : Nat → Int32) (S_first : Nat → Int32) (S_foundSo : Nat → Int32) (S_foundNot : Nat → Int32) (S_fought : Nat → Int32) (S_needed : Nat → Int32) (x1 : Int32) (x2 : Int32) (x3 : Int32) (court_shoeDay : Nat → Int32) (S_won : Nat → Int32) (S_undoneFrom : Nat → Int32) : Option ((Nat → Int32) × (Nat → Int32) × (Nat → Int32)) :=
  (if x1 = (2 : Int32) then (if x2 < 0 then (some (court_shoeDay, S_won, S_undoneFrom)) else (if court_shoeCount ≤ x2 then (some (court_shoeDay, S_won, S_undoneFrom)) else (if (x2 < 0 ∨ 40 ≤ x2.toNatClampNeg) then none else (zk_let (upd court_shoeDay x2.toNatClampNeg x3) (fun f_15 => (some (f_15, S_won, S_undoneFrom))))))) else (zk_b2 (f_X2_suitAt x2 court_shoeCount court_claimCount court_suitCount court_suits S_who S_against S_kind S_won S_day S_land S_undoneFrom S_asked S_askedCount S_askedBits S_first S_foundSo S_foundNot S_fought S_needed) (fun r_2 u_3 => (if r_2 < 0 then (some (court_shoeDay, S_won, S_undoneFrom)) else (if x1 = 0 then (if (r_2 < 0 ∨ court_suitCount ≤ r_2) then none else (zk_let (upd S_won r_2.toNatClampNeg x3) (fun f_11 => (some (court_shoeDay, f_11, S_undoneFrom))))) else (B_X1_set_59 court_shoeCount court_claimCount court_suitCount court_suits chg_done chg_size S_who S_against S_kind S_day S_land S_asked S_askedCount S_askedBits S_first S_foundSo S_foundNot S_fought S_needed x3 r_2 court_shoeDay S_won S_undoneFrom))))))
def f_X1_set   (x1 : Int32) (x2 : Int32) (x3 : Int32) (court_shoeCount : Int32) (court_claimCount : Int32) (court_suitCount : Int32) (court_shoeDay : Nat → Int32) (court_suits : Nat → Option Nat) (chg_done : Int32) (chg_size : Int32) (S_who : Nat → Int32) (S_against : Nat → Int32) (S_kind : Nat → Int32) (S_won : Nat → Int32) (S_day : Nat → Int32) (S_land : Nat → Int32) (S_undoneFrom : Nat → Int32) (S_asked : Nat → Nat → Int32) (S_askedCount : Nat → Int32) (S_askedBits : Nat → Int32) (S_first : Nat → Int32) (S_foundSo : Nat → Int32) (S_foundNot : Nat → Int32) (S_fought : Nat → Int32) (S_needed : Nat → Int32) : Option ((Nat → Int32) × (Nat → Int32) × (Nat → Int32)) := B_X1_set_0   court_shoeCount court_claimCount court_suitCount court_suits chg_done chg_size S_who S_against S_kind S_day S_land S_asked S_askedCount S_askedBits S_first S_foundSo S_foundNot S_fought S_needed x1 x2 x3 court_shoeDay S_won S_undoneFrom
set_option maxHeartbeats 4000000 in
set_option maxRecDepth 100000 in
theorem L_X1_set_59 {p : Program} {l : Launch} {e : Env} {s : State} {m : MethodId} {args : Array Value} {below : List Frame} {meth : Method} {c : Code} {A : Nat → Prop} {D : va_G} {cs : Nat → ClassId} {ad : Nat → Nat} {LP : va_W} {S_a : Nat → Nat} {S_b : Nat → Nat} {court_shoeCount : Int32} {court_claimCount : Int32} {court_suitCount : Int32} {court_suits : Nat → Option Nat} {chg_done : Int32} {chg_size : Int32} {S_who : Nat → Int32} {S_against : Nat → Int32} {S_kind : Nat → Int32} {S_day : Nat → Int32} {S_land : Nat → Int32} {S_asked : Nat → Nat → Int32} {S_askedCount : Nat → Int32} {S_askedBits : Nat → Int32} {S_first : Nat → Int32} {S_foundSo : Nat → Int32} {S_foundNot : Nat → Int32} {S_fought : Nat → Int32} {S_needed : Nat → Int32} {R : (Nat → Int32) × (Nat → Int32) × (Nat → Int32)} (C0 : zC p s m args meth c cX1_set 5 none RX1 zW) (hK : va_K D classes (zT cs) s) (hA : ∀ q : Nat, s.heap.size ≤ q → A q) (hSA : ∀ i, i < court_suitCount.toInt.toNat → court_suits i = some (S_a i)) (x3 : Int32) (x4 : Int32) (court_shoeDay : Nat → Int32) (S_won : Nat → Int32) (S_undoneFrom : Nat → Int32) (h : B_X1_set_59 court_shoeCount court_claimCount court_suitCount court_suits chg_done chg_size S_who S_against S_kind S_day S_land S_asked S_askedCount S_askedBits S_first S_foundSo S_foundNot S_fought S_needed x3 x4 court_shoeDay S_won S_undoneFrom = some R) (H : Heap) (locs : List Loc) (ls : Array Slot) (hP : va_P D classes (wl_X1_set ad cs LP S_a S_b court_shoeCount court_claimCount court_suitCount court_shoeDay court_suits chg_done chg_size S_who S_against S_kind S_won S_day S_land S_undoneFrom S_asked S_askedCount S_askedBits S_first S_foundSo S_foundNot S_fought S_needed) H) (hD : va_D A (wl_X1_set ad cs LP S_a S_b court_shoeCount court_claimCount court_suitCount court_shoeDay court_suits chg_done chg_size S_who S_against S_kind S_won S_day S_land S_undoneFrom S_asked S_askedCount S_askedBits S_first S_foundSo S_foundNot S_fought S_needed)) (hS : va_S A s.heap H locs) (hl : lv_has ls 5 [(3, .int x3), (4, .ref (S_a x4.toNatClampNeg))]) : W p l e rm_X1_set s m args below meth c H locs 0 0 (MQ below (Q_X1_set D cs ad LP S_a S_b court_shoeCount court_claimCount court_suitCount court_suits chg_done chg_size S_who S_against S_kind S_day S_land S_asked S_askedCount S_askedBits S_first S_foundSo S_foundNot S_fought S_needed A R) args s 0 0 A) (F0 m 59 ls []) := by
  obtain ⟨hx, hb, hr, hml, hown, ht, hlocks⟩ := id C0
  refine lv_aload hx hb dX1_set_59 (lv_at hl 1 rfl) ?_
  refine lv_ifnull hx hb dX1_set_61 ?_
  refine lv_aload hx hb dX1_set_64 (lv_at hl 1 rfl) ?_
  refine lv_iload_n hx hb dX1_set_66 rfl (lv_at hl 0 rfl) ?_
  obtain ⟨g_16, h⟩ := zk_gd h
  have hSU : PSu cs (zSu cs S_a S_b court_suitCount.toInt.toNat S_who S_against S_kind S_won S_day S_land S_undoneFrom S_asked S_askedCount S_askedBits S_first S_foundSo S_foundNot S_fought S_needed ++ LP) court_suitCount court_suits S_a S_b S_who S_against S_kind S_won S_day S_land S_undoneFrom S_asked S_askedCount S_askedBits S_first S_foundSo S_foundNot S_fought S_needed := zSu_ok hSA
  obtain ⟨hs_17, ⟨_, hj_18⟩, ⟨_, hj_19⟩⟩ := hSU _ (zs_lt2 g_16)
  obtain ⟨f_20, ef_20, h⟩ := zk_lt h
  refine va_put (D := D) (ci := 7) (v := .int x3) (ty := .int) (C := RX7) (T := TX7) (N := 15) hx hb ht iX7 tyX7 tyX7_ok nmX7 hown hK hP hD hS _ (zSu_at (X := [((ad 4), .inr (2, [.ref (ad 5), .ref (ad 6), .ref (ad 7), .ref (ad 8), .ref (ad 9), .ref (ad 10), .ref (ad 11), .ref (ad 12), .ref (ad 13), .ref (ad 14), .int court_shoeCount, .int court_claimCount, .int court_suitCount])), ((ad 8), .inl (cs 0, 40, .inl court_shoeDay)), ((ad 13), .inl (cs 5, 40, .inr (.inr (.inr (.inr court_suits))))), ((ad 34), .inr (1, [.ref (ad 4), .ref (ad 35), .ref (ad 36), .ref (ad 37), .ref (ad 38), .int chg_done, .int chg_size]))]) rfl (zs_lt2 g_16)) rfl 6 (by decide) (ht _ kw_331) (fun _ h9 => h9) rfl (by decide +kernel) rfl rfl (Nat.le_of_ble_eq_true rfl) dX1_set_67 (fun H locs hP hD hS => ?_)
  have hP : va_P D classes (wl_X1_set ad cs LP S_a S_b court_shoeCount court_claimCount court_suitCount court_shoeDay court_suits chg_done chg_size S_who S_against S_kind S_won S_day S_land f_20 S_asked S_askedCount S_askedBits S_first S_foundSo S_foundNot S_fought S_needed) H := by rw [ef_20]; rw [zSu_undoneFrom (X := [((ad 4), .inr (2, [.ref (ad 5), .ref (ad 6), .ref (ad 7), .ref (ad 8), .ref (ad 9), .ref (ad 10), .ref (ad 11), .ref (ad 12), .ref (ad 13), .ref (ad 14), .int court_shoeCount, .int court_claimCount, .int court_suitCount])), ((ad 8), .inl (cs 0, 40, .inl court_shoeDay)), ((ad 13), .inl (cs 5, 40, .inr (.inr (.inr (.inr court_suits))))), ((ad 34), .inr (1, [.ref (ad 4), .ref (ad 35), .ref (ad 36), .ref (ad 37), .ref (ad 38), .int chg_done, .int chg_size]))]) rfl (zs_lt2 g_16)] at hP; exact hP
  have hD : va_D A (wl_X1_set ad cs LP S_a S_b court_shoeCount court_claimCount court_suitCount court_shoeDay court_suits chg_done chg_size S_who S_against S_kind S_won S_day S_land f_20 S_asked S_askedCount S_askedBits S_first S_foundSo S_foundNot S_fought S_needed) := by rw [ef_20]; rw [zSu_undoneFrom (X := [((ad 4), .inr (2, [.ref (ad 5), .ref (ad 6), .ref (ad 7), .ref (ad 8), .ref (ad 9), .ref (ad 10), .ref (ad 11), .ref (ad 12), .ref (ad 13), .ref (ad 14), .int court_shoeCount, .int court_claimCount, .int court_suitCount])), ((ad 8), .inl (cs 0, 40, .inl court_shoeDay)), ((ad 13), .inl (cs 5, 40, .inr (.inr (.inr (.inr court_suits))))), ((ad 34), .inr (1, [.ref (ad 4), .ref (ad 35), .ref (ad 36), .ref (ad 37), .ref (ad 38), .int chg_done, .int chg_size]))]) rfl (zs_lt2 g_16)] at hD; exact hD
  exact W.vret hx hb hr (fun t ht2 hW => ⟨⟨(court_shoeDay, S_won, f_20), rfl, Option.some.inj h, by rw [ht2]; exact hP, hD⟩, hS.F ht2⟩) hS.2.2 dX1_set_70 hlocks
set_option maxHeartbeats 4000000 in
set_option maxRecDepth 100000 in
theorem L_X1_set_0 {p : Program} {l : Launch} {e : Env} {s : State} {m : MethodId} {args : Array Value} {below : List Frame} {meth : Method} {c : Code} {A : Nat → Prop} {D : va_G} {cs : Nat → ClassId} {ad : Nat → Nat} {LP : va_W} {S_a : Nat → Nat} {S_b : Nat → Nat} {court_shoeCount : Int32} {court_claimCount : Int32} {court_suitCount : Int32} {court_suits : Nat → Option Nat} {chg_done : Int32} {chg_size : Int32} {S_who : Nat → Int32} {S_against : Nat → Int32} {S_kind : Nat → Int32} {S_day : Nat → Int32} {S_land : Nat → Int32} {S_asked : Nat → Nat → Int32} {S_askedCount : Nat → Int32} {S_askedBits : Nat → Int32} {S_first : Nat → Int32} {S_foundSo : Nat → Int32} {S_foundNot : Nat → Int32} {S_fought : Nat → Int32} {S_needed : Nat → Int32} {R : (Nat → Int32) × (Nat → Int32) × (Nat → Int32)} (C0 : zC p s m args meth c cX1_set 5 none RX1 zW) (hK : va_K D classes (zT cs) s) (hA : ∀ q : Nat, s.heap.size ≤ q → A q) (hSA : ∀ i, i < court_suitCount.toInt.toNat → court_suits i = some (S_a i)) (x1 : Int32) (x2 : Int32) (x3 : Int32) (court_shoeDay : Nat → Int32) (S_won : Nat → Int32) (S_undoneFrom : Nat → Int32) (h : B_X1_set_0 court_shoeCount court_claimCount court_suitCount court_suits chg_done chg_size S_who S_against S_kind S_day S_land S_asked S_askedCount S_askedBits S_first S_foundSo S_foundNot S_fought S_needed x1 x2 x3 court_shoeDay S_won S_undoneFrom = some R) (H : Heap) (locs : List Loc) (ls : Array Slot) (hP : va_P D classes (wl_X1_set ad cs LP S_a S_b court_shoeCount court_claimCount court_suitCount court_shoeDay court_suits chg_done chg_size S_who S_against S_kind S_won S_day S_land S_undoneFrom S_asked S_askedCount S_askedBits S_first S_foundSo S_foundNot S_fought S_needed) H) (hD : va_D A (wl_X1_set ad cs LP S_a S_b court_shoeCount court_claimCount court_suitCount court_shoeDay court_suits chg_done chg_size S_who S_against S_kind S_won S_day S_land S_undoneFrom S_asked S_askedCount S_askedBits S_first S_foundSo S_foundNot S_fought S_needed)) (hS : va_S A s.heap H locs) (hl : lv_has ls 5 [(0, .ref (ad 34)), (1, .int x1), (2, .int x2), (3, .int x3)]) : W p l e rm_X1_set s m args below meth c H locs 0 0 (MQ below (Q_X1_set D cs ad LP S_a S_b court_shoeCount court_claimCount court_suitCount court_suits chg_done chg_size S_who S_against S_kind S_day S_land S_asked S_askedCount S_askedBits S_first S_foundSo S_foundNot S_fought S_needed A R) args s 0 0 A) (F0 m 0 ls []) := by
  obtain ⟨hx, hb, hr, hml, hown, ht, hlocks⟩ := id C0
  refine lv_iload_n hx hb dX1_set_0 rfl (lv_at hl 1 rfl) ?_
  refine lv_iconst (v := (2 : Int32)) hx hb dX1_set_1 (by decide) ?_
  refine lv_icmp_ne (tgt := 31) hx hb dX1_set_2 (by decide) (fun c_1 => ?_) (fun c_1 => ?_)
  · have h := zk_f c_1 h
    refine lv_aload_n hx hb dX1_set_31 rfl (lv_at hl 0 rfl) ?_
    refine va_get (D := D) (ci := 1) (v := .ref (ad 4)) (C := RX1) (T := TX1) (N := 7) hx hb ht iX1 hown hK hP 3 rfl rfl 0 (by decide) (ht _ kw_424) (fun _ h9 => h9) rfl dX1_set_32 ?_
    refine lv_iload_n hx hb dX1_set_35 rfl (lv_at hl 2 rfl) ?_
    obtain ⟨r_2, u_3, hc_4, h⟩ := zk_o2 h
    refine zz_vqP (post := (fun r u => r = (if r_2 < 0 then none else some (S_a r_2.toNatClampNeg)) ∧ u = (u_3))) (w1 := fun u => (wx_X2_suitAt ad cs (zSu cs S_a S_b court_suitCount.toInt.toNat S_who S_against S_kind S_won S_day S_land S_undoneFrom S_asked S_askedCount S_askedBits S_first S_foundSo S_foundNot S_fought S_needed ++ LP) S_a S_b court_shoeCount court_claimCount court_suitCount court_suits S_who S_against S_kind S_won S_day S_land S_undoneFrom S_asked S_askedCount S_askedBits S_first S_foundSo S_foundNot S_fought S_needed)) (PL := (zSu cs S_a S_b court_suitCount.toInt.toNat S_who S_against S_kind S_won S_day S_land S_undoneFrom S_asked S_askedCount S_askedBits S_first S_foundSo S_foundNot S_fought S_needed ++ LP)) (As := [.int x2]) (rest := []) (c_X2_suitAt l D cs ad (zSu cs S_a S_b court_suitCount.toInt.toNat S_who S_against S_kind S_won S_day S_land S_undoneFrom S_asked S_askedCount S_askedBits S_first S_foundSo S_foundNot S_fought S_needed ++ LP) S_a S_b H.size x2 court_shoeCount court_claimCount court_suitCount court_suits S_who S_against S_kind S_won S_day S_land S_undoneFrom S_asked S_askedCount S_askedBits S_first S_foundSo S_foundNot S_fought S_needed (zSu_ok hSA) (r_2, u_3) hc_4) ⟨hx, hb, hml, hown, ht⟩ (cwV 1 ht g_X1_57 rfl rfl rfl ⟨rfl, hd_X2_suitAt⟩ ⟨Nat.le_of_ble_eq_true rfl, Nat.le_of_ble_eq_true rfl⟩) (va_recv hK hP (ci := 2) (q0 := 0) rfl rfl) hP hD hS hK hA [0, 2] rfl rfl [(ad 4), (ad 13)] rfl (fun _ => rfl) rfl hl.1 (Nat.le_of_ble_eq_true rfl) dX1_set_36 ⟨Nat.zero_le _, Nat.zero_le _⟩ (fun r u H locs hq hP hS => ?_)
    obtain ⟨hq1, hq2⟩ := hq; cases hq2; subst hq1
    have hP : va_P D classes (wl_X1_set ad cs LP S_a S_b court_shoeCount court_claimCount court_suitCount court_shoeDay court_suits chg_done chg_size S_who S_against S_kind S_won S_day S_land S_undoneFrom S_asked S_askedCount S_askedBits S_first S_foundSo S_foundNot S_fought S_needed) H := hP
    have hD : va_D A (wl_X1_set ad cs LP S_a S_b court_shoeCount court_claimCount court_suitCount court_shoeDay court_suits chg_done chg_size S_who S_against S_kind S_won S_day S_land S_undoneFrom S_asked S_askedCount S_askedBits S_first S_foundSo S_foundNot S_fought S_needed) := zDkp hD [(ad 4), (ad 8), (ad 13), (ad 34)] rfl rfl
    by_cases c_5 : r_2 < 0
    · have h := zk_t c_5 h
      refine W.eq (g2 := F0 m 39 ls [.null]) (by rw [if_pos c_5]; rfl) ?_
      refine lv_astoreN (lv' := [(4, .null), (0, .ref (ad 34)), (1, .int x1), (2, .int x2), (3, .int x3)]) hx hb dX1_set_39 hl (by decide) rfl (fun ls hl => ?_)
      refine lv_aloadN hx hb dX1_set_41 (lv_at hl 0 rfl) ?_
      refine lv_ifnullN (tgt := 59) hx hb dX1_set_43 (by decide) ?_
      refine lv_aloadN hx hb dX1_set_59 (lv_at hl 0 rfl) ?_
      refine lv_ifnullN (tgt := 70) hx hb dX1_set_61 (by decide) ?_
      exact W.vret hx hb hr (fun t ht2 hW => ⟨⟨(court_shoeDay, S_won, S_undoneFrom), rfl, Option.some.inj h, by rw [ht2]; exact hP, hD⟩, hS.F ht2⟩) hS.2.2 dX1_set_70 hlocks
    · have h := zk_f c_5 h
      refine W.eq (g2 := F0 m 39 ls [.ref (S_a r_2.toNatClampNeg)]) (by rw [if_neg c_5]; rfl) ?_
      refine lv_astore (lv' := [(4, .ref (S_a r_2.toNatClampNeg)), (0, .ref (ad 34)), (1, .int x1), (2, .int x2), (3, .int x3)]) hx hb dX1_set_39 hl (by decide) rfl (fun ls hl => ?_)
      refine lv_aload hx hb dX1_set_41 (lv_at hl 0 rfl) ?_
      refine lv_ifnull hx hb dX1_set_43 ?_
      refine lv_iload_n hx hb dX1_set_46 rfl (lv_at hl 2 rfl) ?_
      refine lv_if_ne (tgt := 59) hx hb dX1_set_47 (by decide) (fun c_6 => ?_) (fun c_6 => ?_)
      · have h := zk_f c_6 h
        exact L_X1_set_59 C0 hK hA hSA   x3 r_2 court_shoeDay S_won S_undoneFrom h H locs ls hP hD hS (lv_sub hl [4, 0] rfl)
      · have h := zk_t c_6 h
        refine lv_aload hx hb dX1_set_50 (lv_at hl 0 rfl) ?_
        refine lv_iload_n hx hb dX1_set_52 rfl (lv_at hl 4 rfl) ?_
        obtain ⟨g_7, h⟩ := zk_gd h
        have hSU : PSu cs (zSu cs S_a S_b court_suitCount.toInt.toNat S_who S_against S_kind S_won S_day S_land S_undoneFrom S_asked S_askedCount S_askedBits S_first S_foundSo S_foundNot S_fought S_needed ++ LP) court_suitCount court_suits S_a S_b S_who S_against S_kind S_won S_day S_land S_undoneFrom S_asked S_askedCount S_askedBits S_first S_foundSo S_foundNot S_fought S_needed := zSu_ok hSA
        obtain ⟨hs_8, ⟨_, hj_9⟩, ⟨_, hj_10⟩⟩ := hSU _ (zs_lt2 g_7)
        obtain ⟨f_11, ef_11, h⟩ := zk_lt h
        refine va_put (D := D) (ci := 7) (v := .int x3) (ty := .int) (C := RX7) (T := TX7) (N := 15) hx hb ht iX7 tyX7 tyX7_ok nmX7 hown hK hP hD hS _ (zSu_at (X := [((ad 4), .inr (2, [.ref (ad 5), .ref (ad 6), .ref (ad 7), .ref (ad 8), .ref (ad 9), .ref (ad 10), .ref (ad 11), .ref (ad 12), .ref (ad 13), .ref (ad 14), .int court_shoeCount, .int court_claimCount, .int court_suitCount])), ((ad 8), .inl (cs 0, 40, .inl court_shoeDay)), ((ad 13), .inl (cs 5, 40, .inr (.inr (.inr (.inr court_suits))))), ((ad 34), .inr (1, [.ref (ad 4), .ref (ad 35), .ref (ad 36), .ref (ad 37), .ref (ad 38), .int chg_done, .int chg_size]))]) rfl (zs_lt2 g_7)) rfl 3 (by decide) (ht _ kw_314) (fun _ h9 => h9) rfl (by decide +kernel) rfl rfl (Nat.le_of_ble_eq_true rfl) dX1_set_53 (fun H locs hP hD hS => ?_)
        have hP : va_P D classes (wl_X1_set ad cs LP S_a S_b court_shoeCount court_claimCount court_suitCount court_shoeDay court_suits chg_done chg_size S_who S_against S_kind f_11 S_day S_land S_undoneFrom S_asked S_askedCount S_askedBits S_first S_foundSo S_foundNot S_fought S_needed) H := by rw [ef_11]; rw [zSu_won (X := [((ad 4), .inr (2, [.ref (ad 5), .ref (ad 6), .ref (ad 7), .ref (ad 8), .ref (ad 9), .ref (ad 10), .ref (ad 11), .ref (ad 12), .ref (ad 13), .ref (ad 14), .int court_shoeCount, .int court_claimCount, .int court_suitCount])), ((ad 8), .inl (cs 0, 40, .inl court_shoeDay)), ((ad 13), .inl (cs 5, 40, .inr (.inr (.inr (.inr court_suits))))), ((ad 34), .inr (1, [.ref (ad 4), .ref (ad 35), .ref (ad 36), .ref (ad 37), .ref (ad 38), .int chg_done, .int chg_size]))]) rfl (zs_lt2 g_7)] at hP; exact hP
        have hD : va_D A (wl_X1_set ad cs LP S_a S_b court_shoeCount court_claimCount court_suitCount court_shoeDay court_suits chg_done chg_size S_who S_against S_kind f_11 S_day S_land S_undoneFrom S_asked S_askedCount S_askedBits S_first S_foundSo S_foundNot S_fought S_needed) := by rw [ef_11]; rw [zSu_won (X := [((ad 4), .inr (2, [.ref (ad 5), .ref (ad 6), .ref (ad 7), .ref (ad 8), .ref (ad 9), .ref (ad 10), .ref (ad 11), .ref (ad 12), .ref (ad 13), .ref (ad 14), .int court_shoeCount, .int court_claimCount, .int court_suitCount])), ((ad 8), .inl (cs 0, 40, .inl court_shoeDay)), ((ad 13), .inl (cs 5, 40, .inr (.inr (.inr (.inr court_suits))))), ((ad 34), .inr (1, [.ref (ad 4), .ref (ad 35), .ref (ad 36), .ref (ad 37), .ref (ad 38), .int chg_done, .int chg_size]))]) rfl (zs_lt2 g_7)] at hD; exact hD
        refine lv_goto (tgt := 70) hx hb dX1_set_56 (by decide) ?_
        exact W.vret hx hb hr (fun t ht2 hW => ⟨⟨(court_shoeDay, f_11, S_undoneFrom), rfl, Option.some.inj h, by rw [ht2]; exact hP, hD⟩, hS.F ht2⟩) hS.2.2 dX1_set_70 hlocks
  · have h := zk_t c_1 h
    refine lv_iload_n hx hb dX1_set_5 rfl (lv_at hl 2 rfl) ?_
    refine lv_if_lt (tgt := 30) hx hb dX1_set_6 (by decide) (fun c_12 => ?_) (fun c_12 => ?_)
    · have h := zk_t c_12 h
      exact W.vret hx hb hr (fun t ht2 hW => ⟨⟨(court_shoeDay, S_won, S_undoneFrom), rfl, Option.some.inj h, by rw [ht2]; exact hP, hD⟩, hS.F ht2⟩) hS.2.2 dX1_set_30 hlocks
    · have h := zk_f c_12 h
      refine lv_iload_n hx hb dX1_set_9 rfl (lv_at hl 2 rfl) ?_
      refine lv_aload_n hx hb dX1_set_10 rfl (lv_at hl 0 rfl) ?_
      refine va_get (D := D) (ci := 1) (v := .ref (ad 4)) (C := RX1) (T := TX1) (N := 7) hx hb ht iX1 hown hK hP 3 rfl rfl 0 (by decide) (ht _ kw_424) (fun _ h9 => h9) rfl dX1_set_11 ?_
      refine va_get (D := D) (ci := 2) (v := .int court_shoeCount) (C := RX2) (T := TX2) (N := 13) hx hb ht iX2 hown hK hP 0 rfl rfl 10 (by decide) (ht _ kw_150) (fun _ h9 => h9) rfl dX1_set_14 ?_
      refine lv_icmp_ge (tgt := 30) hx hb dX1_set_17 (by decide) (fun c_13 => ?_) (fun c_13 => ?_)
      · have h := zk_t c_13 h
        exact W.vret hx hb hr (fun t ht2 hW => ⟨⟨(court_shoeDay, S_won, S_undoneFrom), rfl, Option.some.inj h, by rw [ht2]; exact hP, hD⟩, hS.F ht2⟩) hS.2.2 dX1_set_30 hlocks
      · have h := zk_f c_13 h
        refine lv_aload_n hx hb dX1_set_20 rfl (lv_at hl 0 rfl) ?_
        refine va_get (D := D) (ci := 1) (v := .ref (ad 4)) (C := RX1) (T := TX1) (N := 7) hx hb ht iX1 hown hK hP 3 rfl rfl 0 (by decide) (ht _ kw_424) (fun _ h9 => h9) rfl dX1_set_21 ?_
        refine va_get (D := D) (ci := 2) (v := .ref (ad 8)) (C := RX2) (T := TX2) (N := 13) hx hb ht iX2 hown hK hP 0 rfl rfl 3 (by decide) (ht _ kw_127) (fun _ h9 => h9) rfl dX1_set_24 ?_
        refine lv_iload_n hx hb dX1_set_27 rfl (lv_at hl 2 rfl) ?_
        refine lv_iload_n hx hb dX1_set_28 rfl (lv_at hl 3 rfl) ?_
        obtain ⟨g_14, h⟩ := zk_gd h
        obtain ⟨f_15, ef_15, h⟩ := zk_lt h
        refine va_iast hx hb hK hP hD hS 1 0 rfl rfl g_14 dX1_set_29 (fun H locs hP hD hS => ?_)
        have hP : va_P D classes (wl_X1_set ad cs LP S_a S_b court_shoeCount court_claimCount court_suitCount f_15 court_suits chg_done chg_size S_who S_against S_kind S_won S_day S_land S_undoneFrom S_asked S_askedCount S_askedBits S_first S_foundSo S_foundNot S_fought S_needed) H := by rw [ef_15]; exact hP
        have hD : va_D A (wl_X1_set ad cs LP S_a S_b court_shoeCount court_claimCount court_suitCount f_15 court_suits chg_done chg_size S_who S_against S_kind S_won S_day S_land S_undoneFrom S_asked S_askedCount S_askedBits S_first S_foundSo S_foundNot S_fought S_needed) := by rw [ef_15]; exact hD
        exact W.vret hx hb hr (fun t ht2 hW => ⟨⟨(f_15, S_won, S_undoneFrom), rfl, Option.some.inj h, by rw [ht2]; exact hP, hD⟩, hS.F ht2⟩) hS.2.2 dX1_set_30 hlocks
set_option maxHeartbeats 4000000 in
set_option maxRecDepth 100000 in
theorem c_X1_set (l : Launch) (D : va_G) (cs : Nat → ClassId) (ad : Nat → Nat) (LP : va_W) (S_a : Nat → Nat) (S_b : Nat → Nat) (sz : Nat) (x1 : Int32) (x2 : Int32) (x3 : Int32) (court_shoeCount : Int32) (court_claimCount : Int32) (court_suitCount : Int32) (court_shoeDay : Nat → Int32) (court_suits : Nat → Option Nat) (chg_done : Int32) (chg_size : Int32) (S_who : Nat → Int32) (S_against : Nat → Int32) (S_kind : Nat → Int32) (S_won : Nat → Int32) (S_day : Nat → Int32) (S_land : Nat → Int32) (S_undoneFrom : Nat → Int32) (S_asked : Nat → Nat → Int32) (S_askedCount : Nat → Int32) (S_askedBits : Nat → Int32) (S_first : Nat → Int32) (S_foundSo : Nat → Int32) (S_foundNot : Nat → Int32) (S_fought : Nat → Int32) (S_needed : Nat → Int32) (hSA : ∀ i, i < court_suitCount.toInt.toNat → court_suits i = some (S_a i)) (R : (Nat → Int32) × (Nat → Int32) × (Nat → Int32)) (h : f_X1_set   x1 x2 x3 court_shoeCount court_claimCount court_suitCount court_shoeDay court_suits chg_done chg_size S_who S_against S_kind S_won S_day S_land S_undoneFrom S_asked S_askedCount S_askedBits S_first S_foundSo S_foundNot S_fought S_needed = some R) : Met l yX1_set (z_X1_set) rm_X1_set (va_Pc [.ref (ad 34), .int x1, .int x2, .int x3] (zPre D cs (wl_X1_set ad cs LP S_a S_b court_shoeCount court_claimCount court_suitCount court_shoeDay court_suits chg_done chg_size S_who S_against S_kind S_won S_day S_land S_undoneFrom S_asked S_askedCount S_askedBits S_first S_foundSo S_foundNot S_fought S_needed) sz)) (Q_X1_set D cs ad LP S_a S_b court_shoeCount court_claimCount court_suitCount court_suits chg_done chg_size S_who S_against S_kind S_day S_land S_asked S_askedCount S_askedBits S_first S_foundSo S_foundNot S_fought S_needed (va_A (wl_X1_set ad cs LP S_a S_b court_shoeCount court_claimCount court_suitCount court_shoeDay court_suits chg_done chg_size S_who S_against S_kind S_won S_day S_land S_undoneFrom S_asked S_askedCount S_askedBits S_first S_foundSo S_foundNot S_fought S_needed) sz) R) 0 0 (va_A (wl_X1_set ad cs LP S_a S_b court_shoeCount court_claimCount court_suitCount court_shoeDay court_suits chg_done chg_size S_who S_against S_kind S_won S_day S_land S_undoneFrom S_asked S_askedCount S_askedBits S_first S_foundSo S_foundNot S_fought S_needed) sz) := by
  refine Met.ofW (cc := cX1_set) (maxL := 5) (ret := none) (by decide) rfl ?_
  intro p e s m args below meth c s₁ B hml hv
  obtain ⟨rfl, hsz, hP, hK, hD0⟩ := hv
  subst hsz
  have hD := hD0.self (sz := s.heap.size)
  have C0 : zC p s m _ meth c cX1_set 5 none RX1 zW := ⟨B.exec, B.bytes, B.returns, hml, findClass_of_methodNamed B.named, fun w hw => atoms_spec (ws := z_X1_set) B.pre w (List.mem_cons_of_mem _ hw), B.notSynchronized⟩
  have hA : ∀ q : Nat, s.heap.size ≤ q → va_A (wl_X1_set ad cs LP S_a S_b court_shoeCount court_claimCount court_suitCount court_shoeDay court_suits chg_done chg_size S_who S_against S_kind S_won S_day S_land S_undoneFrom S_asked S_askedCount S_askedBits S_first S_foundSo S_foundNot S_fought S_needed) s.heap.size q := fun q h => Or.inr h
  have hl := lv_entry ([.ref (ad 34), .int x1, .int x2, .int x3]) (n := 5) (Nat.le_of_ble_eq_true rfl)
  rw [lg_entry_eq]
  generalize (lg_sl ([.ref (ad 34), .int x1, .int x2, .int x3]) ++ List.replicate (5 - (lg_sl ([.ref (ad 34), .int x1, .int x2, .int x3])).length) Slot.unset).toArray = ls at hl ⊢
  exact L_X1_set_0 C0 hK hA hSA   x1 x2 x3 court_shoeDay S_won S_undoneFrom h s.heap [] ls hP hD va_S.rf hl
theorem kw_83 : Cond.initialized RX1 ∈ zW := zwC (i := 9) zc_1 rfl rfl
theorem kw_425 : Cond.fieldLink RX1 9 "AlreadyJudged$Changes" "sorts" "[I" ∈ zW := zwC (i := 111) zc_2 rfl rfl
theorem kw_426 : Cond.fieldLink RX1 15 "AlreadyJudged$Changes" "numbers" "[I" ∈ zW := zwC (i := 112) zc_2 rfl rfl
theorem kw_427 : Cond.fieldLink RX1 18 "AlreadyJudged$Changes" "befores" "[I" ∈ zW := zwC (i := 113) zc_2 rfl rfl
theorem kw_428 : Cond.fieldLink RX1 21 "AlreadyJudged$Changes" "afters" "[I" ∈ zW := zwC (i := 114) zc_2 rfl rfl
theorem kw_429 : Cond.fieldLink RX1 28 "AlreadyJudged$Changes" "done" "I" ∈ zW := zwC (i := 115) zc_2 rfl rfl
theorem kw_431 : Cond.fieldLink RX1 36 "AlreadyJudged$Changes" "size" "I" ∈ zW := zwC (i := 117) zc_2 rfl rfl
theorem kw_778 : Cond.methodLink RX1 32 yX1_dropOldest ∈ zW := zwC (i := 224) zc_3 rfl rfl
theorem kw_779 : Cond.static yX1_dropOldest ∈ zW := zwC (i := 225) zc_3 rfl rfl
theorem kw_780 : Cond.code yX1_dropOldest cX1_dropOldest 1 none ∈ zW := zwC (i := 226) zc_3 rfl rfl
theorem kw_782 : Cond.methodLink RX1 39 yX1_set ∈ zW := zwC (i := 228) zc_3 rfl rfl
theorem kw_783 : Cond.instanceMethod yX1_set ∈ zW := zwC (i := 229) zc_3 rfl rfl
theorem kw_784 : Cond.selects RX1 yX1_set yX1_set ∈ zW := zwC (i := 230) zc_3 rfl rfl
theorem kw_785 : Cond.code yX1_set cX1_set 5 none ∈ zW := zwC (i := 231) zc_3 rfl rfl
theorem dX1_make_0 : decode cX1_make 0 = .ok (.iload_n 3, 1) := by decide +kernel
theorem dX1_make_1 : decode cX1_make 1 = .ok (.iload 4, 2) := by decide +kernel
theorem dX1_make_3 : decode cX1_make 3 = .ok (.if_icmp .ne 4, 3) := by decide +kernel
theorem dX1_make_6 : decode cX1_make 6 = .ok (.return_, 1) := by decide +kernel
theorem dX1_make_7 : decode cX1_make 7 = .ok (.aload_n 0, 1) := by decide +kernel
theorem dX1_make_8 : decode cX1_make 8 = .ok (.getfield 28, 3) := by decide +kernel
theorem dX1_make_11 : decode cX1_make 11 = .ok (.bipush 40, 2) := by decide +kernel
theorem dX1_make_13 : decode cX1_make 13 = .ok (.if_icmp .lt 37, 3) := by decide +kernel
theorem dX1_make_16 : decode cX1_make 16 = .ok (.aload_n 0, 1) := by decide +kernel
theorem dX1_make_17 : decode cX1_make 17 = .ok (.getfield 9, 3) := by decide +kernel
theorem dX1_make_20 : decode cX1_make 20 = .ok (.invokestatic 32, 3) := by decide +kernel
theorem dX1_make_23 : decode cX1_make 23 = .ok (.aload_n 0, 1) := by decide +kernel
theorem dX1_make_24 : decode cX1_make 24 = .ok (.getfield 15, 3) := by decide +kernel
theorem dX1_make_27 : decode cX1_make 27 = .ok (.invokestatic 32, 3) := by decide +kernel
theorem dX1_make_30 : decode cX1_make 30 = .ok (.aload_n 0, 1) := by decide +kernel
theorem dX1_make_31 : decode cX1_make 31 = .ok (.getfield 18, 3) := by decide +kernel
theorem dX1_make_34 : decode cX1_make 34 = .ok (.invokestatic 32, 3) := by decide +kernel
theorem dX1_make_37 : decode cX1_make 37 = .ok (.aload_n 0, 1) := by decide +kernel
theorem dX1_make_38 : decode cX1_make 38 = .ok (.getfield 21, 3) := by decide +kernel
theorem dX1_make_41 : decode cX1_make 41 = .ok (.invokestatic 32, 3) := by decide +kernel
theorem dX1_make_44 : decode cX1_make 44 = .ok (.aload_n 0, 1) := by decide +kernel
theorem dX1_make_45 : decode cX1_make 45 = .ok (.bipush 39, 2) := by decide +kernel
theorem dX1_make_47 : decode cX1_make 47 = .ok (.putfield 28, 3) := by decide +kernel
theorem dX1_make_50 : decode cX1_make 50 = .ok (.aload_n 0, 1) := by decide +kernel
theorem dX1_make_51 : decode cX1_make 51 = .ok (.getfield 9, 3) := by decide +kernel
theorem dX1_make_54 : decode cX1_make 54 = .ok (.aload_n 0, 1) := by decide +kernel
theorem dX1_make_55 : decode cX1_make 55 = .ok (.getfield 28, 3) := by decide +kernel
theorem dX1_make_58 : decode cX1_make 58 = .ok (.iload_n 1, 1) := by decide +kernel
theorem dX1_make_59 : decode cX1_make 59 = .ok (.iastore, 1) := by decide +kernel
theorem dX1_make_60 : decode cX1_make 60 = .ok (.aload_n 0, 1) := by decide +kernel
theorem dX1_make_61 : decode cX1_make 61 = .ok (.getfield 15, 3) := by decide +kernel
theorem dX1_make_64 : decode cX1_make 64 = .ok (.aload_n 0, 1) := by decide +kernel
theorem dX1_make_65 : decode cX1_make 65 = .ok (.getfield 28, 3) := by decide +kernel
theorem dX1_make_68 : decode cX1_make 68 = .ok (.iload_n 2, 1) := by decide +kernel
theorem dX1_make_69 : decode cX1_make 69 = .ok (.iastore, 1) := by decide +kernel
theorem dX1_make_70 : decode cX1_make 70 = .ok (.aload_n 0, 1) := by decide +kernel
theorem dX1_make_71 : decode cX1_make 71 = .ok (.getfield 18, 3) := by decide +kernel
theorem dX1_make_74 : decode cX1_make 74 = .ok (.aload_n 0, 1) := by decide +kernel
theorem dX1_make_75 : decode cX1_make 75 = .ok (.getfield 28, 3) := by decide +kernel
theorem dX1_make_78 : decode cX1_make 78 = .ok (.iload_n 3, 1) := by decide +kernel
theorem dX1_make_79 : decode cX1_make 79 = .ok (.iastore, 1) := by decide +kernel
theorem dX1_make_80 : decode cX1_make 80 = .ok (.aload_n 0, 1) := by decide +kernel
theorem dX1_make_81 : decode cX1_make 81 = .ok (.getfield 21, 3) := by decide +kernel
theorem dX1_make_84 : decode cX1_make 84 = .ok (.aload_n 0, 1) := by decide +kernel
theorem dX1_make_85 : decode cX1_make 85 = .ok (.getfield 28, 3) := by decide +kernel
theorem dX1_make_88 : decode cX1_make 88 = .ok (.iload 4, 2) := by decide +kernel
theorem dX1_make_90 : decode cX1_make 90 = .ok (.iastore, 1) := by decide +kernel
theorem dX1_make_91 : decode cX1_make 91 = .ok (.aload_n 0, 1) := by decide +kernel
theorem dX1_make_92 : decode cX1_make 92 = .ok (.dup, 1) := by decide +kernel
theorem dX1_make_93 : decode cX1_make 93 = .ok (.getfield 28, 3) := by decide +kernel
theorem dX1_make_96 : decode cX1_make 96 = .ok (.iconst 1, 1) := by decide +kernel
theorem dX1_make_97 : decode cX1_make 97 = .ok (.iadd, 1) := by decide +kernel
theorem dX1_make_98 : decode cX1_make 98 = .ok (.putfield 28, 3) := by decide +kernel
theorem dX1_make_101 : decode cX1_make 101 = .ok (.aload_n 0, 1) := by decide +kernel
theorem dX1_make_102 : decode cX1_make 102 = .ok (.aload_n 0, 1) := by decide +kernel
theorem dX1_make_103 : decode cX1_make 103 = .ok (.getfield 28, 3) := by decide +kernel
theorem dX1_make_106 : decode cX1_make 106 = .ok (.putfield 36, 3) := by decide +kernel
theorem dX1_make_109 : decode cX1_make 109 = .ok (.aload_n 0, 1) := by decide +kernel
theorem dX1_make_110 : decode cX1_make 110 = .ok (.iload_n 1, 1) := by decide +kernel
theorem dX1_make_111 : decode cX1_make 111 = .ok (.iload_n 2, 1) := by decide +kernel
theorem dX1_make_112 : decode cX1_make 112 = .ok (.iload 4, 2) := by decide +kernel
theorem dX1_make_114 : decode cX1_make 114 = .ok (.invokevirtual 39, 3) := by decide +kernel
theorem dX1_make_117 : decode cX1_make 117 = .ok (.return_, 1) := by decide +kernel
abbrev z_X1_make : List Cond := .code yX1_make cX1_make 5 none :: zW
abbrev wx_X1_make (ad : Nat → Nat) (cs : Nat → ClassId) (LP : va_W) (S_a : Nat → Nat) (S_b : Nat → Nat) (court_shoeCount : Int32) (court_claimCount : Int32) (court_suitCount : Int32) (court_shoeDay : Nat → Int32) (court_suits : Nat → Option Nat) (chg_done : Int32) (chg_size : Int32) (chg_sorts : Nat → Int32) (chg_numbers : Nat → Int32) (chg_befores : Nat → Int32) (chg_afters : Nat → Int32) (S_who : Nat → Int32) (S_against : Nat → Int32) (S_kind : Nat → Int32) (S_won : Nat → Int32) (S_day : Nat → Int32) (S_land : Nat → Int32) (S_undoneFrom : Nat → Int32) (S_asked : Nat → Nat → Int32) (S_askedCount : Nat → Int32) (S_askedBits : Nat → Int32) (S_first : Nat → Int32) (S_foundSo : Nat → Int32) (S_foundNot : Nat → Int32) (S_fought : Nat → Int32) (S_needed : Nat → Int32) : va_W := [((ad 4), .inr (2, [.ref (ad 5), .ref (ad 6), .ref (ad 7), .ref (ad 8), .ref (ad 9), .ref (ad 10), .ref (ad 11), .ref (ad 12), .ref (ad 13), .ref (ad 14), .int court_shoeCount, .int court_claimCount, .int court_suitCount])), ((ad 8), .inl (cs 0, 40, .inl court_shoeDay)), ((ad 13), .inl (cs 5, 40, .inr (.inr (.inr (.inr court_suits))))), ((ad 34), .inr (1, [.ref (ad 4), .ref (ad 35), .ref (ad 36), .ref (ad 37), .ref (ad 38), .int chg_done, .int chg_size])), ((ad 35), .inl (cs 0, 40, .inl chg_sorts)), ((ad 36), .inl (cs 0, 40, .inl chg_numbers)), ((ad 37), .inl (cs 0, 40, .inl chg_befores)), ((ad 38), .inl (cs 0, 40, .inl chg_afters))]
abbrev wl_X1_make (ad : Nat → Nat) (cs : Nat → ClassId) (LP : va_W) (S_a : Nat → Nat) (S_b : Nat → Nat) (court_shoeCount : Int32) (court_claimCount : Int32) (court_suitCount : Int32) (court_shoeDay : Nat → Int32) (court_suits : Nat → Option Nat) (chg_done : Int32) (chg_size : Int32) (chg_sorts : Nat → Int32) (chg_numbers : Nat → Int32) (chg_befores : Nat → Int32) (chg_afters : Nat → Int32) (S_who : Nat → Int32) (S_against : Nat → Int32) (S_kind : Nat → Int32) (S_won : Nat → Int32) (S_day : Nat → Int32) (S_land : Nat → Int32) (S_undoneFrom : Nat → Int32) (S_asked : Nat → Nat → Int32) (S_askedCount : Nat → Int32) (S_askedBits : Nat → Int32) (S_first : Nat → Int32) (S_foundSo : Nat → Int32) (S_foundNot : Nat → Int32) (S_fought : Nat → Int32) (S_needed : Nat → Int32) : va_W := wx_X1_make ad cs LP S_a S_b court_shoeCount court_claimCount court_suitCount court_shoeDay court_suits chg_done chg_size chg_sorts chg_numbers chg_befores chg_afters S_who S_against S_kind S_won S_day S_land S_undoneFrom S_asked S_askedCount S_askedBits S_first S_foundSo S_foundNot S_fought S_needed ++ (zSu cs S_a S_b court_suitCount.toInt.toNat S_who S_against S_kind S_won S_day S_land S_undoneFrom S_asked S_askedCount S_askedBits S_first S_foundSo S_foundNot S_fought S_needed ++ LP)
def Q_X1_make (D : va_G) (cs : Nat → ClassId) (ad : Nat → Nat) (LP : va_W) (S_a : Nat → Nat) (S_b : Nat → Nat) (court_shoeCount : Int32) (court_claimCount : Int32) (court_suitCount : Int32) (court_suits : Nat → Option Nat) (S_who : Nat → Int32) (S_against : Nat → Int32) (S_kind : Nat → Int32) (S_day : Nat → Int32) (S_land : Nat → Int32) (S_asked : Nat → Nat → Int32) (S_askedCount : Nat → Int32) (S_askedBits : Nat → Int32) (S_first : Nat → Int32) (S_foundSo : Nat → Int32) (S_foundNot : Nat → Int32) (S_fought : Nat → Int32) (S_needed : Nat → Int32) (A : Nat → Prop) (R : (Nat → Int32) × Int32 × Int32 × (Nat → Int32) × (Nat → Int32) × (Nat → Int32) × (Nat → Int32) × (Nat → Int32) × (Nat → Int32)) : Array Value → State → Outcome → State → Prop :=
  va_Qv (fun u : (Nat → Int32) × Int32 × Int32 × (Nat → Int32) × (Nat → Int32) × (Nat → Int32) × (Nat → Int32) × (Nat → Int32) × (Nat → Int32) => u = R) (fun (u : (Nat → Int32) × Int32 × Int32 × (Nat → Int32) × (Nat → Int32) × (Nat → Int32) × (Nat → Int32) × (Nat → Int32) × (Nat → Int32)) (t : State) => va_P D classes (wl_X1_make ad cs LP S_a S_b court_shoeCount court_claimCount court_suitCount u.1 court_suits u.2.1 u.2.2.1 u.2.2.2.1 u.2.2.2.2.1 u.2.2.2.2.2.1 u.2.2.2.2.2.2.1 S_who S_against S_kind u.2.2.2.2.2.2.2.1 S_day S_land u.2.2.2.2.2.2.2.2 S_asked S_askedCount S_askedBits S_first S_foundSo S_foundNot S_fought S_needed) t.heap ∧ va_D A (wl_X1_make ad cs LP S_a S_b court_shoeCount court_claimCount court_suitCount u.1 court_suits u.2.1 u.2.2.1 u.2.2.2.1 u.2.2.2.2.1 u.2.2.2.2.2.1 u.2.2.2.2.2.2.1 S_who S_against S_kind u.2.2.2.2.2.2.2.1 S_day S_land u.2.2.2.2.2.2.2.2 S_asked S_askedCount S_askedBits S_first S_foundSo S_foundNot S_fought S_needed)) A
abbrev rm_X1_make : Room := { frames := 2, cells := 0, slots := 0, locals := 60 }
theorem g_X1_32 : GoodIn zW (va_wsS RX1 32 yX1_dropOldest z_X1_dropOldest) := zGS kw_778 kw_779 kw_83 kw_780
theorem g_X1_39 : GoodIn zW (wsV RX1 39 RX1 yX1_set z_X1_set) := zGV kw_782 kw_783 kw_784 kw_83 kw_785
theorem hd_X1_dropOldest : yX1_dropOldest.cls ≠ "java/lang/invoke/MethodHandle" ∧ yX1_dropOldest.cls ≠ "java/lang/invoke/VarHandle" ∧ (parseMethodDescriptor yX1_dropOldest.desc).map (fun d => d.parameters.length) = some 1 := by decide +kernel
theorem hd_X1_set : yX1_set.cls ≠ "java/lang/invoke/MethodHandle" ∧ yX1_set.cls ≠ "java/lang/invoke/VarHandle" ∧ (parseMethodDescriptor yX1_set.desc).map (fun d => d.parameters.length) = some 3 := by decide +kernel
def B_X1_make_50    (court_shoeCount : Int32) (court_claimCount : Int32) (court_suitCount : Int32) (court_suits : Nat → Option Nat) (S_who : Nat → Int32) (S_against : Nat → Int32) (S_kind : Nat → Int32) (S_day : Nat → Int32) (S_land : Nat → Int32) (S_asked : Nat → Nat → Int32) (S_askedCount : Nat → Int32) (S_askedBits : Nat → Int32) (S_first : Nat → Int32) (S_foundSo : Nat → Int32) (S_foundNot : Nat → Int32) (S_fought : Nat → Int32) (S_needed : Nat → Int32) (x1 : Int32) (x2 : Int32) (x3 : Int32) (x4 : Int32) (court_shoeDay : Nat → Int32) (chg_done : Int32) (chg_size : Int32) (chg_sorts : Nat → Int32) (chg_numbers : Nat → Int32) (chg_befores : Nat → Int32) (chg_afters : Nat → Int32) (S_won : Nat → Int32) (S_undoneFrom : Nat → Int32) : Option ((Nat → Int32) × Int32 × Int32 × (Nat → Int32) × (Nat → Int32) × (Nat → Int32) × (Nat → Int32) × (Nat → Int32) × (Nat → Int32)) :=
  (if (chg_done < 0 ∨ 40 ≤ chg_done.toNatClampNeg) then none else (zk_let (upd chg_sorts chg_done.toNatClampNeg x1) (fun f_12 => (if (chg_done < 0 ∨ 40 ≤ chg_done.toNatClampNeg) then none else (zk_let (upd chg_numbers chg_done.toNatClampNeg x2) (fun f_14 => (if (chg_done < 0 ∨ 40 ≤ chg_done.toNatClampNeg) then none else (zk_let (upd chg_befores chg_done.toNatClampNeg x3) (fun f_16 => (if (chg_done < 0 ∨ 40 ≤ chg_done.toNatClampNeg) then none else (zk_let (upd chg_afters chg_done.toNatClampNeg x4) (fun f_18 => (zk_let (chg_done + (1 : Int32)) (fun v_19 => (zk_b3 (f_X1_set x1 x2 x4 court_shoeCount court_claimCount court_suitCount court_shoeDay court_suits v_19 v_19 S_who S_against S_kind S_won S_day S_land S_undoneFrom S_asked S_askedCount S_askedBits S_first S_foundSo S_foundNot S_fought S_needed) (fun u_20 u_21 u_22 => (some (u_20, v_19, v_19, f_12, f_14, f_16, f_18, u_21, u_22))))))))))))))))))
def B_X1_make_0    (court_shoeCount : Int32) (court_claimCount : Int32) (court_suitCount : Int32) (court_suits : Nat → Option Nat) (S_who : Nat → Int32) (S_against : Nat → Int32) (S_kind : Nat → Int32) (S_day : Nat → Int32) (S_land : Nat → Int32) (S_asked : Nat → Nat → Int32) (S_askedCount : Nat → Int32) (S_askedBits : Nat → Int32) (S_first : Nat → Int32) (S_foundSo : Nat → Int32) (S_foundNot : Nat → Int32) (S_fought : Nat → Int32) (S_needed : Nat → Int32) (x1 : Int32) (x2 : Int32) (x3 : Int32) (x4 : Int32) (court_shoeDay : Nat → Int32) (chg_done : Int32) (chg_size : Int32) (chg_sorts : Nat → Int32) (chg_numbers : Nat → Int32) (chg_befores : Nat → Int32) (chg_afters : Nat → Int32) (S_won : Nat → Int32) (S_undoneFrom : Nat → Int32) : Option ((Nat → Int32) × Int32 × Int32 × (Nat → Int32) × (Nat → Int32) × (Nat → Int32) × (Nat → Int32) × (Nat → Int32) × (Nat → Int32)) :=
  (if x3 = x4 then (some (court_shoeDay, chg_done, chg_size, chg_sorts, chg_numbers, chg_befores, chg_afters, S_won, S_undoneFrom)) else (if chg_done < (40 : Int32) then (B_X1_make_50 court_shoeCount court_claimCount court_suitCount court_suits S_who S_against S_kind S_day S_land S_asked S_askedCount S_askedBits S_first S_foundSo S_foundNot S_fought S_needed x1 x2 x3 x4 court_shoeDay chg_done chg_size chg_sorts chg_numbers chg_befores chg_afters S_won S_undoneFrom) else (zk_b1 (f_X1_dropOldest chg_sorts 40) (fun u_3 => (zk_b1 (f_X1_dropOldest chg_numbers 40) (fun u_5 => (zk_b1 (f_X1_dropOldest chg_befores 40) (fun u_7 => (zk_b1 (f_X1_dropOldest chg_afters 40) (fun u_9 => (B_X1_make_50 court_shoeCount court_claimCount court_suitCount court_suits S_who S_against S_kind S_day S_land S_asked S_askedCount S_askedBits S_first S_foundSo S_foundNot S_fought S_needed x1 x2 x3 x4 court_shoeDay (39 : Int32) chg_size u_3 u_5 u_7 u_9 S_won S_undoneFrom)))))))))))
def f_X1_make   (x1 : Int32) (x2 : Int32) (x3 : Int32) (x4 : Int32) (court_shoeCount : Int32) (court_claimCount : Int32) (court_suitCount : Int32) (court_shoeDay : Nat → Int32) (court_suits : Nat → Option Nat) (chg_done : Int32) (chg_size : Int32) (chg_sorts : Nat → Int32) (chg_numbers : Nat → Int32) (chg_befores : Nat → Int32) (chg_afters : Nat → Int32) (S_who : Nat → Int32) (S_against : Nat → Int32) (S_kind : Nat → Int32) (S_won : Nat → Int32) (S_day : Nat → Int32) (S_land : Nat → Int32) (S_undoneFrom : Nat → Int32) (S_asked : Nat → Nat → Int32) (S_askedCount : Nat → Int32) (S_askedBits : Nat → Int32) (S_first : Nat → Int32) (S_foundSo : Nat → Int32) (S_foundNot : Nat → Int32) (S_fought : Nat → Int32) (S_needed : Nat → Int32) : Option ((Nat → Int32) × Int32 × Int32 × (Nat → Int32) × (Nat → Int32) × (Nat → Int32) × (Nat → Int32) × (Nat → Int32) × (Nat → Int32)) := B_X1_make_0   court_shoeCount court_claimCount court_suitCount court_suits S_who S_against S_kind S_day S_land S_asked S_askedCount S_askedBits S_first S_foundSo S_foundNot S_fought S_needed x1 x2 x3 x4 court_shoeDay chg_done chg_size chg_sorts chg_numbers chg_befores chg_afters S_won S_undoneFrom
set_option maxHeartbeats 4000000 in
set_option maxRecDepth 100000 in
theorem L_X1_make_50 {p : Program} {l : Launch} {e : Env} {s : State} {m : MethodId} {args : Array Value} {below : List Frame} {meth : Method} {c : Code} {A : Nat → Prop} {D : va_G} {cs : Nat → ClassId} {ad : Nat → Nat} {LP : va_W} {S_a : Nat → Nat} {S_b : Nat → Nat} {court_shoeCount : Int32} {court_claimCount : Int32} {court_suitCount : Int32} {court_suits : Nat → Option Nat} {S_who : Nat → Int32} {S_against : Nat → Int32} {S_kind : Nat → Int32} {S_day : Nat → Int32} {S_land : Nat → Int32} {S_asked : Nat → Nat → Int32} {S_askedCount : Nat → Int32} {S_askedBits : Nat → Int32} {S_first : Nat → Int32} {S_foundSo : Nat → Int32} {S_foundNot : Nat → Int32} {S_fought : Nat → Int32} {S_needed : Nat → Int32} {R : (Nat → Int32) × Int32 × Int32 × (Nat → Int32) × (Nat → Int32) × (Nat → Int32) × (Nat → Int32) × (Nat → Int32) × (Nat → Int32)} (C0 : zC p s m args meth c cX1_make 5 none RX1 zW) (hK : va_K D classes (zT cs) s) (hA : ∀ q : Nat, s.heap.size ≤ q → A q) (hSA : ∀ i, i < court_suitCount.toInt.toNat → court_suits i = some (S_a i)) (x1 : Int32) (x2 : Int32) (x3 : Int32) (x4 : Int32) (court_shoeDay : Nat → Int32) (chg_done : Int32) (chg_size : Int32) (chg_sorts : Nat → Int32) (chg_numbers : Nat → Int32) (chg_befores : Nat → Int32) (chg_afters : Nat → Int32) (S_won : Nat → Int32) (S_undoneFrom : Nat → Int32) (h : B_X1_make_50 court_shoeCount court_claimCount court_suitCount court_suits S_who S_against S_kind S_day S_land S_asked S_askedCount S_askedBits S_first S_foundSo S_foundNot S_fought S_needed x1 x2 x3 x4 court_shoeDay chg_done chg_size chg_sorts chg_numbers chg_befores chg_afters S_won S_undoneFrom = some R) (H : Heap) (locs : List Loc) (ls : Array Slot) (hP : va_P D classes (wl_X1_make ad cs LP S_a S_b court_shoeCount court_claimCount court_suitCount court_shoeDay court_suits chg_done chg_size chg_sorts chg_numbers chg_befores chg_afters S_who S_against S_kind S_won S_day S_land S_undoneFrom S_asked S_askedCount S_askedBits S_first S_foundSo S_foundNot S_fought S_needed) H) (hD : va_D A (wl_X1_make ad cs LP S_a S_b court_shoeCount court_claimCount court_suitCount court_shoeDay court_suits chg_done chg_size chg_sorts chg_numbers chg_befores chg_afters S_who S_against S_kind S_won S_day S_land S_undoneFrom S_asked S_askedCount S_askedBits S_first S_foundSo S_foundNot S_fought S_needed)) (hS : va_S A s.heap H locs) (hl : lv_has ls 5 [(0, .ref (ad 34)), (1, .int x1), (2, .int x2), (3, .int x3), (4, .int x4)]) : W p l e rm_X1_make s m args below meth c H locs 0 0 (MQ below (Q_X1_make D cs ad LP S_a S_b court_shoeCount court_claimCount court_suitCount court_suits S_who S_against S_kind S_day S_land S_asked S_askedCount S_askedBits S_first S_foundSo S_foundNot S_fought S_needed A R) args s 0 0 A) (F0 m 50 ls []) := by
  obtain ⟨hx, hb, hr, hml, hown, ht, hlocks⟩ := id C0
  refine lv_aload_n hx hb dX1_make_50 rfl (lv_at hl 0 rfl) ?_
  refine va_get (D := D) (ci := 1) (v := .ref (ad 35)) (C := RX1) (T := TX1) (N := 7) hx hb ht iX1 hown hK hP 3 rfl rfl 1 (by decide) (ht _ kw_425) (fun _ h9 => h9) rfl dX1_make_51 ?_
  refine lv_aload_n hx hb dX1_make_54 rfl (lv_at hl 0 rfl) ?_
  refine va_get (D := D) (ci := 1) (v := .int chg_done) (C := RX1) (T := TX1) (N := 7) hx hb ht iX1 hown hK hP 3 rfl rfl 5 (by decide) (ht _ kw_429) (fun _ h9 => h9) rfl dX1_make_55 ?_
  refine lv_iload_n hx hb dX1_make_58 rfl (lv_at hl 1 rfl) ?_
  obtain ⟨g_11, h⟩ := zk_gd h
  obtain ⟨f_12, ef_12, h⟩ := zk_lt h
  refine va_iast hx hb hK hP hD hS 4 0 rfl rfl g_11 dX1_make_59 (fun H locs hP hD hS => ?_)
  have hP : va_P D classes (wl_X1_make ad cs LP S_a S_b court_shoeCount court_claimCount court_suitCount court_shoeDay court_suits chg_done chg_size f_12 chg_numbers chg_befores chg_afters S_who S_against S_kind S_won S_day S_land S_undoneFrom S_asked S_askedCount S_askedBits S_first S_foundSo S_foundNot S_fought S_needed) H := by rw [ef_12]; exact hP
  have hD : va_D A (wl_X1_make ad cs LP S_a S_b court_shoeCount court_claimCount court_suitCount court_shoeDay court_suits chg_done chg_size f_12 chg_numbers chg_befores chg_afters S_who S_against S_kind S_won S_day S_land S_undoneFrom S_asked S_askedCount S_askedBits S_first S_foundSo S_foundNot S_fought S_needed) := by rw [ef_12]; exact hD
  refine lv_aload_n hx hb dX1_make_60 rfl (lv_at hl 0 rfl) ?_
  refine va_get (D := D) (ci := 1) (v := .ref (ad 36)) (C := RX1) (T := TX1) (N := 7) hx hb ht iX1 hown hK hP 3 rfl rfl 2 (by decide) (ht _ kw_426) (fun _ h9 => h9) rfl dX1_make_61 ?_
  refine lv_aload_n hx hb dX1_make_64 rfl (lv_at hl 0 rfl) ?_
  refine va_get (D := D) (ci := 1) (v := .int chg_done) (C := RX1) (T := TX1) (N := 7) hx hb ht iX1 hown hK hP 3 rfl rfl 5 (by decide) (ht _ kw_429) (fun _ h9 => h9) rfl dX1_make_65 ?_
  refine lv_iload_n hx hb dX1_make_68 rfl (lv_at hl 2 rfl) ?_
  obtain ⟨g_13, h⟩ := zk_gd h
  obtain ⟨f_14, ef_14, h⟩ := zk_lt h
  refine va_iast hx hb hK hP hD hS 5 0 rfl rfl g_13 dX1_make_69 (fun H locs hP hD hS => ?_)
  have hP : va_P D classes (wl_X1_make ad cs LP S_a S_b court_shoeCount court_claimCount court_suitCount court_shoeDay court_suits chg_done chg_size f_12 f_14 chg_befores chg_afters S_who S_against S_kind S_won S_day S_land S_undoneFrom S_asked S_askedCount S_askedBits S_first S_foundSo S_foundNot S_fought S_needed) H := by rw [ef_14]; exact hP
  have hD : va_D A (wl_X1_make ad cs LP S_a S_b court_shoeCount court_claimCount court_suitCount court_shoeDay court_suits chg_done chg_size f_12 f_14 chg_befores chg_afters S_who S_against S_kind S_won S_day S_land S_undoneFrom S_asked S_askedCount S_askedBits S_first S_foundSo S_foundNot S_fought S_needed) := by rw [ef_14]; exact hD
  refine lv_aload_n hx hb dX1_make_70 rfl (lv_at hl 0 rfl) ?_
  refine va_get (D := D) (ci := 1) (v := .ref (ad 37)) (C := RX1) (T := TX1) (N := 7) hx hb ht iX1 hown hK hP 3 rfl rfl 3 (by decide) (ht _ kw_427) (fun _ h9 => h9) rfl dX1_make_71 ?_
  refine lv_aload_n hx hb dX1_make_74 rfl (lv_at hl 0 rfl) ?_
  refine va_get (D := D) (ci := 1) (v := .int chg_done) (C := RX1) (T := TX1) (N := 7) hx hb ht iX1 hown hK hP 3 rfl rfl 5 (by decide) (ht _ kw_429) (fun _ h9 => h9) rfl dX1_make_75 ?_
  refine lv_iload_n hx hb dX1_make_78 rfl (lv_at hl 3 rfl) ?_
  obtain ⟨g_15, h⟩ := zk_gd h
  obtain ⟨f_16, ef_16, h⟩ := zk_lt h
  refine va_iast hx hb hK hP hD hS 6 0 rfl rfl g_15 dX1_make_79 (fun H locs hP hD hS => ?_)
  have hP : va_P D classes (wl_X1_make ad cs LP S_a S_b court_shoeCount court_claimCount court_suitCount court_shoeDay court_suits chg_done chg_size f_12 f_14 f_16 chg_afters S_who S_against S_kind S_won S_day S_land S_undoneFrom S_asked S_askedCount S_askedBits S_first S_foundSo S_foundNot S_fought S_needed) H := by rw [ef_16]; exact hP
  have hD : va_D A (wl_X1_make ad cs LP S_a S_b court_shoeCount court_claimCount court_suitCount court_shoeDay court_suits chg_done chg_size f_12 f_14 f_16 chg_afters S_who S_against S_kind S_won S_day S_land S_undoneFrom S_asked S_askedCount S_askedBits S_first S_foundSo S_foundNot S_fought S_needed) := by rw [ef_16]; exact hD
  refine lv_aload_n hx hb dX1_make_80 rfl (lv_at hl 0 rfl) ?_
  refine va_get (D := D) (ci := 1) (v := .ref (ad 38)) (C := RX1) (T := TX1) (N := 7) hx hb ht iX1 hown hK hP 3 rfl rfl 4 (by decide) (ht _ kw_428) (fun _ h9 => h9) rfl dX1_make_81 ?_
  refine lv_aload_n hx hb dX1_make_84 rfl (lv_at hl 0 rfl) ?_
  refine va_get (D := D) (ci := 1) (v := .int chg_done) (C := RX1) (T := TX1) (N := 7) hx hb ht iX1 hown hK hP 3 rfl rfl 5 (by decide) (ht _ kw_429) (fun _ h9 => h9) rfl dX1_make_85 ?_
  refine lv_iload hx hb dX1_make_88 (lv_at hl 4 rfl) ?_
  obtain ⟨g_17, h⟩ := zk_gd h
  obtain ⟨f_18, ef_18, h⟩ := zk_lt h
  refine va_iast hx hb hK hP hD hS 7 0 rfl rfl g_17 dX1_make_90 (fun H locs hP hD hS => ?_)
  have hP : va_P D classes (wl_X1_make ad cs LP S_a S_b court_shoeCount court_claimCount court_suitCount court_shoeDay court_suits chg_done chg_size f_12 f_14 f_16 f_18 S_who S_against S_kind S_won S_day S_land S_undoneFrom S_asked S_askedCount S_askedBits S_first S_foundSo S_foundNot S_fought S_needed) H := by rw [ef_18]; exact hP
  have hD : va_D A (wl_X1_make ad cs LP S_a S_b court_shoeCount court_claimCount court_suitCount court_shoeDay court_suits chg_done chg_size f_12 f_14 f_16 f_18 S_who S_against S_kind S_won S_day S_land S_undoneFrom S_asked S_askedCount S_askedBits S_first S_foundSo S_foundNot S_fought S_needed) := by rw [ef_18]; exact hD
  refine lv_aload_n hx hb dX1_make_91 rfl (lv_at hl 0 rfl) ?_
  refine lv_dup hx hb dX1_make_92 rfl ?_
  refine va_get (D := D) (ci := 1) (v := .int chg_done) (C := RX1) (T := TX1) (N := 7) hx hb ht iX1 hown hK hP 3 rfl rfl 5 (by decide) (ht _ kw_429) (fun _ h9 => h9) rfl dX1_make_93 ?_
  refine lv_iconst (v := (1 : Int32)) hx hb dX1_make_96 (by decide) ?_
  refine lv_iadd hx hb dX1_make_97 ?_
  obtain ⟨v_19, ev_19, h⟩ := zk_lt h
  refine W.eq (g2 := F0 m 98 ls [.int v_19, .ref (ad 34)]) (by rw [ev_19]) ?_
  refine va_put (D := D) (ci := 1) (v := .int v_19) (ty := .int) (C := RX1) (T := TX1) (N := 7) hx hb ht iX1 tyX1 tyX1_ok nmX1 hown hK hP hD hS 3 rfl rfl 5 (by decide) (ht _ kw_429) (fun _ h9 => h9) rfl (by decide +kernel) rfl rfl (Nat.le_of_ble_eq_true rfl) dX1_make_98 (fun H locs hP hD hS => ?_)
  have hP : va_P D classes (wl_X1_make ad cs LP S_a S_b court_shoeCount court_claimCount court_suitCount court_shoeDay court_suits v_19 chg_size f_12 f_14 f_16 f_18 S_who S_against S_kind S_won S_day S_land S_undoneFrom S_asked S_askedCount S_askedBits S_first S_foundSo S_foundNot S_fought S_needed) H := hP
  have hD : va_D A (wl_X1_make ad cs LP S_a S_b court_shoeCount court_claimCount court_suitCount court_shoeDay court_suits v_19 chg_size f_12 f_14 f_16 f_18 S_who S_against S_kind S_won S_day S_land S_undoneFrom S_asked S_askedCount S_askedBits S_first S_foundSo S_foundNot S_fought S_needed) := hD
  refine lv_aload_n hx hb dX1_make_101 rfl (lv_at hl 0 rfl) ?_
  refine lv_aload_n hx hb dX1_make_102 rfl (lv_at hl 0 rfl) ?_
  refine va_get (D := D) (ci := 1) (v := .int v_19) (C := RX1) (T := TX1) (N := 7) hx hb ht iX1 hown hK hP 3 rfl rfl 5 (by decide) (ht _ kw_429) (fun _ h9 => h9) rfl dX1_make_103 ?_
  refine va_put (D := D) (ci := 1) (v := .int v_19) (ty := .int) (C := RX1) (T := TX1) (N := 7) hx hb ht iX1 tyX1 tyX1_ok nmX1 hown hK hP hD hS 3 rfl rfl 6 (by decide) (ht _ kw_431) (fun _ h9 => h9) rfl (by decide +kernel) rfl rfl (Nat.le_of_ble_eq_true rfl) dX1_make_106 (fun H locs hP hD hS => ?_)
  have hP : va_P D classes (wl_X1_make ad cs LP S_a S_b court_shoeCount court_claimCount court_suitCount court_shoeDay court_suits v_19 v_19 f_12 f_14 f_16 f_18 S_who S_against S_kind S_won S_day S_land S_undoneFrom S_asked S_askedCount S_askedBits S_first S_foundSo S_foundNot S_fought S_needed) H := hP
  have hD : va_D A (wl_X1_make ad cs LP S_a S_b court_shoeCount court_claimCount court_suitCount court_shoeDay court_suits v_19 v_19 f_12 f_14 f_16 f_18 S_who S_against S_kind S_won S_day S_land S_undoneFrom S_asked S_askedCount S_askedBits S_first S_foundSo S_foundNot S_fought S_needed) := hD
  refine lv_aload_n hx hb dX1_make_109 rfl (lv_at hl 0 rfl) ?_
  refine lv_iload_n hx hb dX1_make_110 rfl (lv_at hl 1 rfl) ?_
  refine lv_iload_n hx hb dX1_make_111 rfl (lv_at hl 2 rfl) ?_
  refine lv_iload hx hb dX1_make_112 (lv_at hl 4 rfl) ?_
  obtain ⟨u_20, u_21, u_22, hc_23, h⟩ := zk_o3 h
  refine zk_vvP (post := (fun u => u = (u_20, u_21, u_22))) (w1 := fun u => (wx_X1_set ad cs LP S_a S_b court_shoeCount court_claimCount court_suitCount u.1 court_suits v_19 v_19 S_who S_against S_kind u.2.1 S_day S_land u.2.2 S_asked S_askedCount S_askedBits S_first S_foundSo S_foundNot S_fought S_needed)) (pl1 := fun u => (zSu cs S_a S_b court_suitCount.toInt.toNat S_who S_against S_kind u.2.1 S_day S_land u.2.2 S_asked S_askedCount S_askedBits S_first S_foundSo S_foundNot S_fought S_needed ++ LP)) (As := [.int x1, .int x2, .int x4]) (rest := []) (c_X1_set l D cs ad LP S_a S_b H.size x1 x2 x4 court_shoeCount court_claimCount court_suitCount court_shoeDay court_suits v_19 v_19 S_who S_against S_kind S_won S_day S_land S_undoneFrom S_asked S_askedCount S_askedBits S_first S_foundSo S_foundNot S_fought S_needed hSA (u_20, u_21, u_22) hc_23) ⟨hx, hb, hml, hown, ht⟩ (cwV 3 ht g_X1_39 rfl rfl rfl ⟨rfl, hd_X1_set⟩ ⟨Nat.le_of_ble_eq_true rfl, Nat.le_of_ble_eq_true rfl⟩) (va_recv hK hP (ci := 1) (q0 := 3) rfl rfl) hP hD hS hK hA [0, 1, 2, 3] [4, 5, 6, 7] rfl rfl rfl rfl (by decide) rfl hl.1 (Nat.le_of_ble_eq_true rfl) dX1_make_114 ⟨Nat.zero_le _, Nat.zero_le _⟩ (fun u H locs hq hP hD hS => ?_)
  cases hq
  have hP : va_P D classes (wl_X1_make ad cs LP S_a S_b court_shoeCount court_claimCount court_suitCount u_20 court_suits v_19 v_19 f_12 f_14 f_16 f_18 S_who S_against S_kind u_21 S_day S_land u_22 S_asked S_askedCount S_askedBits S_first S_foundSo S_foundNot S_fought S_needed) H := hP.part [4, 5, 6, 7, 0, 1, 2, 3] rfl
  have hD : va_D A (wl_X1_make ad cs LP S_a S_b court_shoeCount court_claimCount court_suitCount u_20 court_suits v_19 v_19 f_12 f_14 f_16 f_18 S_who S_against S_kind u_21 S_day S_land u_22 S_asked S_askedCount S_askedBits S_first S_foundSo S_foundNot S_fought S_needed) := hD.part [4, 5, 6, 7, 0, 1, 2, 3] rfl rfl
  exact W.vret hx hb hr (fun t ht2 hW => ⟨⟨(u_20, v_19, v_19, f_12, f_14, f_16, f_18, u_21, u_22), rfl, Option.some.inj h, by rw [ht2]; exact hP, hD⟩, hS.F ht2⟩) hS.2.2 dX1_make_117 hlocks
set_option maxHeartbeats 4000000 in
set_option maxRecDepth 100000 in
theorem L_X1_make_0 {p : Program} {l : Launch} {e : Env} {s : State} {m : MethodId} {args : Array Value} {below : List Frame} {meth : Method} {c : Code} {A : Nat → Prop} {D : va_G} {cs : Nat → ClassId} {ad : Nat → Nat} {LP : va_W} {S_a : Nat → Nat} {S_b : Nat → Nat} {court_shoeCount : Int32} {court_claimCount : Int32} {court_suitCount : Int32} {court_suits : Nat → Option Nat} {S_who : Nat → Int32} {S_against : Nat → Int32} {S_kind : Nat → Int32} {S_day : Nat → Int32} {S_land : Nat → Int32} {S_asked : Nat → Nat → Int32} {S_askedCount : Nat → Int32} {S_askedBits : Nat → Int32} {S_first : Nat → Int32} {S_foundSo : Nat → Int32} {S_foundNot : Nat → Int32} {S_fought : Nat → Int32} {S_needed : Nat → Int32} {R : (Nat → Int32) × Int32 × Int32 × (Nat → Int32) × (Nat → Int32) × (Nat → Int32) × (Nat → Int32) × (Nat → Int32) × (Nat → Int32)} (C0 : zC p s m args meth c cX1_make 5 none RX1 zW) (hK : va_K D classes (zT cs) s) (hA : ∀ q : Nat, s.heap.size ≤ q → A q) (hSA : ∀ i, i < court_suitCount.toInt.toNat → court_suits i = some (S_a i)) (x1 : Int32) (x2 : Int32) (x3 : Int32) (x4 : Int32) (court_shoeDay : Nat → Int32) (chg_done : Int32) (chg_size : Int32) (chg_sorts : Nat → Int32) (chg_numbers : Nat → Int32) (chg_befores : Nat → Int32) (chg_afters : Nat → Int32) (S_won : Nat → Int32) (S_undoneFrom : Nat → Int32) (h : B_X1_make_0 court_shoeCount court_claimCount court_suitCount court_suits S_who S_against S_kind S_day S_land S_asked S_askedCount S_askedBits S_first S_foundSo S_foundNot S_fought S_needed x1 x2 x3 x4 court_shoeDay chg_done chg_size chg_sorts chg_numbers chg_befores chg_afters S_won S_undoneFrom = some R) (H : Heap) (locs : List Loc) (ls : Array Slot) (hP : va_P D classes (wl_X1_make ad cs LP S_a S_b court_shoeCount court_claimCount court_suitCount court_shoeDay court_suits chg_done chg_size chg_sorts chg_numbers chg_befores chg_afters S_who S_against S_kind S_won S_day S_land S_undoneFrom S_asked S_askedCount S_askedBits S_first S_foundSo S_foundNot S_fought S_needed) H) (hD : va_D A (wl_X1_make ad cs LP S_a S_b court_shoeCount court_claimCount court_suitCount court_shoeDay court_suits chg_done chg_size chg_sorts chg_numbers chg_befores chg_afters S_who S_against S_kind S_won S_day S_land S_undoneFrom S_asked S_askedCount S_askedBits S_first S_foundSo S_foundNot S_fought S_needed)) (hS : va_S A s.heap H locs) (hl : lv_has ls 5 [(0, .ref (ad 34)), (1, .int x1), (2, .int x2), (3, .int x3), (4, .int x4)]) : W p l e rm_X1_make s m args below meth c H locs 0 0 (MQ below (Q_X1_make D cs ad LP S_a S_b court_shoeCount court_claimCount court_suitCount court_suits S_who S_against S_kind S_day S_land S_asked S_askedCount S_askedBits S_first S_foundSo S_foundNot S_fought S_needed A R) args s 0 0 A) (F0 m 0 ls []) := by
  obtain ⟨hx, hb, hr, hml, hown, ht, hlocks⟩ := id C0
  refine lv_iload_n hx hb dX1_make_0 rfl (lv_at hl 3 rfl) ?_
  refine lv_iload hx hb dX1_make_1 (lv_at hl 4 rfl) ?_
  refine lv_icmp_ne (tgt := 7) hx hb dX1_make_3 (by decide) (fun c_1 => ?_) (fun c_1 => ?_)
  · have h := zk_f c_1 h
    refine lv_aload_n hx hb dX1_make_7 rfl (lv_at hl 0 rfl) ?_
    refine va_get (D := D) (ci := 1) (v := .int chg_done) (C := RX1) (T := TX1) (N := 7) hx hb ht iX1 hown hK hP 3 rfl rfl 5 (by decide) (ht _ kw_429) (fun _ h9 => h9) rfl dX1_make_8 ?_
    refine lv_bipush (v := (40 : Int32)) hx hb dX1_make_11 (by decide) ?_
    refine lv_icmp_lt (tgt := 50) hx hb dX1_make_13 (by decide) (fun c_2 => ?_) (fun c_2 => ?_)
    · have h := zk_t c_2 h
      exact L_X1_make_50 C0 hK hA hSA   x1 x2 x3 x4 court_shoeDay chg_done chg_size chg_sorts chg_numbers chg_befores chg_afters S_won S_undoneFrom h H locs ls hP hD hS (lv_sub hl [0, 1, 2, 3, 4] rfl)
    · have h := zk_f c_2 h
      refine lv_aload_n hx hb dX1_make_16 rfl (lv_at hl 0 rfl) ?_
      refine va_get (D := D) (ci := 1) (v := .ref (ad 35)) (C := RX1) (T := TX1) (N := 7) hx hb ht iX1 hown hK hP 3 rfl rfl 1 (by decide) (ht _ kw_425) (fun _ h9 => h9) rfl dX1_make_17 ?_
      obtain ⟨u_3, hc_4, h⟩ := zk_o1 h
      refine zz_svQ (post := (fun u => u = u_3)) (w1 := fun u => (wl_X1_dropOldest ad cs (ad 35) u 40)) (As := [.ref (ad 35)]) (rest := []) (c_X1_dropOldest l D cs ad (ad 35) H.size chg_sorts 40 u_3 hc_4) ⟨hx, hb, hml, hown, ht⟩ (va_cwS 1 ht g_X1_32 rfl rfl rfl hd_X1_dropOldest ⟨Nat.le_of_ble_eq_true rfl, Nat.le_of_ble_eq_true rfl⟩) hP hD hS hK hA [4] rfl rfl [(ad 35)] rfl (fun _ => rfl) rfl hl.1 (Nat.le_of_ble_eq_true rfl) dX1_make_20 ⟨Nat.zero_le _, Nat.zero_le _⟩ (fun u H locs hq hP hS => ?_)
      cases hq
      have hP : va_P D classes (wl_X1_make ad cs LP S_a S_b court_shoeCount court_claimCount court_suitCount court_shoeDay court_suits chg_done chg_size u_3 chg_numbers chg_befores chg_afters S_who S_against S_kind S_won S_day S_land S_undoneFrom S_asked S_askedCount S_askedBits S_first S_foundSo S_foundNot S_fought S_needed) H := hP
      have hD : va_D A (wl_X1_make ad cs LP S_a S_b court_shoeCount court_claimCount court_suitCount court_shoeDay court_suits chg_done chg_size u_3 chg_numbers chg_befores chg_afters S_who S_against S_kind S_won S_day S_land S_undoneFrom S_asked S_askedCount S_askedBits S_first S_foundSo S_foundNot S_fought S_needed) := zDkp hD [(ad 4), (ad 8), (ad 13), (ad 34), (ad 35), (ad 36), (ad 37), (ad 38)] rfl rfl
      refine lv_aload_n hx hb dX1_make_23 rfl (lv_at hl 0 rfl) ?_
      refine va_get (D := D) (ci := 1) (v := .ref (ad 36)) (C := RX1) (T := TX1) (N := 7) hx hb ht iX1 hown hK hP 3 rfl rfl 2 (by decide) (ht _ kw_426) (fun _ h9 => h9) rfl dX1_make_24 ?_
      obtain ⟨u_5, hc_6, h⟩ := zk_o1 h
      refine zz_svQ (post := (fun u => u = u_5)) (w1 := fun u => (wl_X1_dropOldest ad cs (ad 36) u 40)) (As := [.ref (ad 36)]) (rest := []) (c_X1_dropOldest l D cs ad (ad 36) H.size chg_numbers 40 u_5 hc_6) ⟨hx, hb, hml, hown, ht⟩ (va_cwS 1 ht g_X1_32 rfl rfl rfl hd_X1_dropOldest ⟨Nat.le_of_ble_eq_true rfl, Nat.le_of_ble_eq_true rfl⟩) hP hD hS hK hA [5] rfl rfl [(ad 36)] rfl (fun _ => rfl) rfl hl.1 (Nat.le_of_ble_eq_true rfl) dX1_make_27 ⟨Nat.zero_le _, Nat.zero_le _⟩ (fun u H locs hq hP hS => ?_)
      cases hq
      have hP : va_P D classes (wl_X1_make ad cs LP S_a S_b court_shoeCount court_claimCount court_suitCount court_shoeDay court_suits chg_done chg_size u_3 u_5 chg_befores chg_afters S_who S_against S_kind S_won S_day S_land S_undoneFrom S_asked S_askedCount S_askedBits S_first S_foundSo S_foundNot S_fought S_needed) H := hP
      have hD : va_D A (wl_X1_make ad cs LP S_a S_b court_shoeCount court_claimCount court_suitCount court_shoeDay court_suits chg_done chg_size u_3 u_5 chg_befores chg_afters S_who S_against S_kind S_won S_day S_land S_undoneFrom S_asked S_askedCount S_askedBits S_first S_foundSo S_foundNot S_fought S_needed) := zDkp hD [(ad 4), (ad 8), (ad 13), (ad 34), (ad 35), (ad 36), (ad 37), (ad 38)] rfl rfl
      refine lv_aload_n hx hb dX1_make_30 rfl (lv_at hl 0 rfl) ?_
      refine va_get (D := D) (ci := 1) (v := .ref (ad 37)) (C := RX1) (T := TX1) (N := 7) hx hb ht iX1 hown hK hP 3 rfl rfl 3 (by decide) (ht _ kw_427) (fun _ h9 => h9) rfl dX1_make_31 ?_
      obtain ⟨u_7, hc_8, h⟩ := zk_o1 h
      refine zz_svQ (post := (fun u => u = u_7)) (w1 := fun u => (wl_X1_dropOldest ad cs (ad 37) u 40)) (As := [.ref (ad 37)]) (rest := []) (c_X1_dropOldest l D cs ad (ad 37) H.size chg_befores 40 u_7 hc_8) ⟨hx, hb, hml, hown, ht⟩ (va_cwS 1 ht g_X1_32 rfl rfl rfl hd_X1_dropOldest ⟨Nat.le_of_ble_eq_true rfl, Nat.le_of_ble_eq_true rfl⟩) hP hD hS hK hA [6] rfl rfl [(ad 37)] rfl (fun _ => rfl) rfl hl.1 (Nat.le_of_ble_eq_true rfl) dX1_make_34 ⟨Nat.zero_le _, Nat.zero_le _⟩ (fun u H locs hq hP hS => ?_)
      cases hq
      have hP : va_P D classes (wl_X1_make ad cs LP S_a S_b court_shoeCount court_claimCount court_suitCount court_shoeDay court_suits chg_done chg_size u_3 u_5 u_7 chg_afters S_who S_against S_kind S_won S_day S_land S_undoneFrom S_asked S_askedCount S_askedBits S_first S_foundSo S_foundNot S_fought S_needed) H := hP
      have hD : va_D A (wl_X1_make ad cs LP S_a S_b court_shoeCount court_claimCount court_suitCount court_shoeDay court_suits chg_done chg_size u_3 u_5 u_7 chg_afters S_who S_against S_kind S_won S_day S_land S_undoneFrom S_asked S_askedCount S_askedBits S_first S_foundSo S_foundNot S_fought S_needed) := zDkp hD [(ad 4), (ad 8), (ad 13), (ad 34), (ad 35), (ad 36), (ad 37), (ad 38)] rfl rfl
      refine lv_aload_n hx hb dX1_make_37 rfl (lv_at hl 0 rfl) ?_
      refine va_get (D := D) (ci := 1) (v := .ref (ad 38)) (C := RX1) (T := TX1) (N := 7) hx hb ht iX1 hown hK hP 3 rfl rfl 4 (by decide) (ht _ kw_428) (fun _ h9 => h9) rfl dX1_make_38 ?_
      obtain ⟨u_9, hc_10, h⟩ := zk_o1 h
      refine zz_svQ (post := (fun u => u = u_9)) (w1 := fun u => (wl_X1_dropOldest ad cs (ad 38) u 40)) (As := [.ref (ad 38)]) (rest := []) (c_X1_dropOldest l D cs ad (ad 38) H.size chg_afters 40 u_9 hc_10) ⟨hx, hb, hml, hown, ht⟩ (va_cwS 1 ht g_X1_32 rfl rfl rfl hd_X1_dropOldest ⟨Nat.le_of_ble_eq_true rfl, Nat.le_of_ble_eq_true rfl⟩) hP hD hS hK hA [7] rfl rfl [(ad 38)] rfl (fun _ => rfl) rfl hl.1 (Nat.le_of_ble_eq_true rfl) dX1_make_41 ⟨Nat.zero_le _, Nat.zero_le _⟩ (fun u H locs hq hP hS => ?_)
      cases hq
      have hP : va_P D classes (wl_X1_make ad cs LP S_a S_b court_shoeCount court_claimCount court_suitCount court_shoeDay court_suits chg_done chg_size u_3 u_5 u_7 u_9 S_who S_against S_kind S_won S_day S_land S_undoneFrom S_asked S_askedCount S_askedBits S_first S_foundSo S_foundNot S_fought S_needed) H := hP
      have hD : va_D A (wl_X1_make ad cs LP S_a S_b court_shoeCount court_claimCount court_suitCount court_shoeDay court_suits chg_done chg_size u_3 u_5 u_7 u_9 S_who S_against S_kind S_won S_day S_land S_undoneFrom S_asked S_askedCount S_askedBits S_first S_foundSo S_foundNot S_fought S_needed) := zDkp hD [(ad 4), (ad 8), (ad 13), (ad 34), (ad 35), (ad 36), (ad 37), (ad 38)] rfl rfl
      refine lv_aload_n hx hb dX1_make_44 rfl (lv_at hl 0 rfl) ?_
      refine lv_bipush (v := (39 : Int32)) hx hb dX1_make_45 (by decide) ?_
      refine va_put (D := D) (ci := 1) (v := .int (39 : Int32)) (ty := .int) (C := RX1) (T := TX1) (N := 7) hx hb ht iX1 tyX1 tyX1_ok nmX1 hown hK hP hD hS 3 rfl rfl 5 (by decide) (ht _ kw_429) (fun _ h9 => h9) rfl (by decide +kernel) rfl rfl (Nat.le_of_ble_eq_true rfl) dX1_make_47 (fun H locs hP hD hS => ?_)
      have hP : va_P D classes (wl_X1_make ad cs LP S_a S_b court_shoeCount court_claimCount court_suitCount court_shoeDay court_suits (39 : Int32) chg_size u_3 u_5 u_7 u_9 S_who S_against S_kind S_won S_day S_land S_undoneFrom S_asked S_askedCount S_askedBits S_first S_foundSo S_foundNot S_fought S_needed) H := hP
      have hD : va_D A (wl_X1_make ad cs LP S_a S_b court_shoeCount court_claimCount court_suitCount court_shoeDay court_suits (39 : Int32) chg_size u_3 u_5 u_7 u_9 S_who S_against S_kind S_won S_day S_land S_undoneFrom S_asked S_askedCount S_askedBits S_first S_foundSo S_foundNot S_fought S_needed) := hD
      exact L_X1_make_50 C0 hK hA hSA   x1 x2 x3 x4 court_shoeDay (39 : Int32) chg_size u_3 u_5 u_7 u_9 S_won S_undoneFrom h H locs ls hP hD hS (lv_sub hl [0, 1, 2, 3, 4] rfl)
  · have h := zk_t c_1 h
    exact W.vret hx hb hr (fun t ht2 hW => ⟨⟨(court_shoeDay, chg_done, chg_size, chg_sorts, chg_numbers, chg_befores, chg_afters, S_won, S_undoneFrom), rfl, Option.some.inj h, by rw [ht2]; exact hP, hD⟩, hS.F ht2⟩) hS.2.2 dX1_make_6 hlocks
set_option maxHeartbeats 4000000 in
set_option maxRecDepth 100000 in
theorem c_X1_make (l : Launch) (D : va_G) (cs : Nat → ClassId) (ad : Nat → Nat) (LP : va_W) (S_a : Nat → Nat) (S_b : Nat → Nat) (sz : Nat) (x1 : Int32) (x2 : Int32) (x3 : Int32) (x4 : Int32) (court_shoeCount : Int32) (court_claimCount : Int32) (court_suitCount : Int32) (court_shoeDay : Nat → Int32) (court_suits : Nat → Option Nat) (chg_done : Int32) (chg_size : Int32) (chg_sorts : Nat → Int32) (chg_numbers : Nat → Int32) (chg_befores : Nat → Int32) (chg_afters : Nat → Int32) (S_who : Nat → Int32) (S_against : Nat → Int32) (S_kind : Nat → Int32) (S_won : Nat → Int32) (S_day : Nat → Int32) (S_land : Nat → Int32) (S_undoneFrom : Nat → Int32) (S_asked : Nat → Nat → Int32) (S_askedCount : Nat → Int32) (S_askedBits : Nat → Int32) (S_first : Nat → Int32) (S_foundSo : Nat → Int32) (S_foundNot : Nat → Int32) (S_fought : Nat → Int32) (S_needed : Nat → Int32) (hSA : ∀ i, i < court_suitCount.toInt.toNat → court_suits i = some (S_a i)) (R : (Nat → Int32) × Int32 × Int32 × (Nat → Int32) × (Nat → Int32) × (Nat → Int32) × (Nat → Int32) × (Nat → Int32) × (Nat → Int32)) (h : f_X1_make   x1 x2 x3 x4 court_shoeCount court_claimCount court_suitCount court_shoeDay court_suits chg_done chg_size chg_sorts chg_numbers chg_befores chg_afters S_who S_against S_kind S_won S_day S_land S_undoneFrom S_asked S_askedCount S_askedBits S_first S_foundSo S_foundNot S_fought S_needed = some R) : Met l yX1_make (z_X1_make) rm_X1_make (va_Pc [.ref (ad 34), .int x1, .int x2, .int x3, .int x4] (zPre D cs (wl_X1_make ad cs LP S_a S_b court_shoeCount court_claimCount court_suitCount court_shoeDay court_suits chg_done chg_size chg_sorts chg_numbers chg_befores chg_afters S_who S_against S_kind S_won S_day S_land S_undoneFrom S_asked S_askedCount S_askedBits S_first S_foundSo S_foundNot S_fought S_needed) sz)) (Q_X1_make D cs ad LP S_a S_b court_shoeCount court_claimCount court_suitCount court_suits S_who S_against S_kind S_day S_land S_asked S_askedCount S_askedBits S_first S_foundSo S_foundNot S_fought S_needed (va_A (wl_X1_make ad cs LP S_a S_b court_shoeCount court_claimCount court_suitCount court_shoeDay court_suits chg_done chg_size chg_sorts chg_numbers chg_befores chg_afters S_who S_against S_kind S_won S_day S_land S_undoneFrom S_asked S_askedCount S_askedBits S_first S_foundSo S_foundNot S_fought S_needed) sz) R) 0 0 (va_A (wl_X1_make ad cs LP S_a S_b court_shoeCount court_claimCount court_suitCount court_shoeDay court_suits chg_done chg_size chg_sorts chg_numbers chg_befores chg_afters S_who S_against S_kind S_won S_day S_land S_undoneFrom S_asked S_askedCount S_askedBits S_first S_foundSo S_foundNot S_fought S_needed) sz) := by
  refine Met.ofW (cc := cX1_make) (maxL := 5) (ret := none) (by decide) rfl ?_
  intro p e s m args below meth c s₁ B hml hv
  obtain ⟨rfl, hsz, hP, hK, hD0⟩ := hv
  subst hsz
  have hD := hD0.self (sz := s.heap.size)
  have C0 : zC p s m _ meth c cX1_make 5 none RX1 zW := ⟨B.exec, B.bytes, B.returns, hml, findClass_of_methodNamed B.named, fun w hw => atoms_spec (ws := z_X1_make) B.pre w (List.mem_cons_of_mem _ hw), B.notSynchronized⟩
  have hA : ∀ q : Nat, s.heap.size ≤ q → va_A (wl_X1_make ad cs LP S_a S_b court_shoeCount court_claimCount court_suitCount court_shoeDay court_suits chg_done chg_size chg_sorts chg_numbers chg_befores chg_afters S_who S_against S_kind S_won S_day S_land S_undoneFrom S_asked S_askedCount S_askedBits S_first S_foundSo S_foundNot S_fought S_needed) s.heap.size q := fun q h => Or.inr h
  have hl := lv_entry ([.ref (ad 34), .int x1, .int x2, .int x3, .int x4]) (n := 5) (Nat.le_of_ble_eq_true rfl)
  rw [lg_entry_eq]
  generalize (lg_sl ([.ref (ad 34), .int x1, .int x2, .int x3, .int x4]) ++ List.replicate (5 - (lg_sl ([.ref (ad 34), .int x1, .int x2, .int x3, .int x4])).length) Slot.unset).toArray = ls at hl ⊢
  exact L_X1_make_0 C0 hK hA hSA   x1 x2 x3 x4 court_shoeDay chg_done chg_size chg_sorts chg_numbers chg_befores chg_afters S_won S_undoneFrom h s.heap [] ls hP hD va_S.rf hl
theorem dX1_back_0 : decode cX1_back 0 = .ok (.aload_n 0, 1) := by decide +kernel
theorem dX1_back_1 : decode cX1_back 1 = .ok (.getfield 28, 3) := by decide +kernel
theorem dX1_back_4 : decode cX1_back 4 = .ok (.ifCond .gt 6, 3) := by decide +kernel
theorem dX1_back_7 : decode cX1_back 7 = .ok (.bipush (-5), 2) := by decide +kernel
theorem dX1_back_9 : decode cX1_back 9 = .ok (.ireturn, 1) := by decide +kernel
theorem dX1_back_10 : decode cX1_back 10 = .ok (.aload_n 0, 1) := by decide +kernel
theorem dX1_back_11 : decode cX1_back 11 = .ok (.dup, 1) := by decide +kernel
theorem dX1_back_12 : decode cX1_back 12 = .ok (.getfield 28, 3) := by decide +kernel
theorem dX1_back_15 : decode cX1_back 15 = .ok (.iconst 1, 1) := by decide +kernel
theorem dX1_back_16 : decode cX1_back 16 = .ok (.isub, 1) := by decide +kernel
theorem dX1_back_17 : decode cX1_back 17 = .ok (.putfield 28, 3) := by decide +kernel
theorem dX1_back_20 : decode cX1_back 20 = .ok (.aload_n 0, 1) := by decide +kernel
theorem dX1_back_21 : decode cX1_back 21 = .ok (.aload_n 0, 1) := by decide +kernel
theorem dX1_back_22 : decode cX1_back 22 = .ok (.getfield 9, 3) := by decide +kernel
theorem dX1_back_25 : decode cX1_back 25 = .ok (.aload_n 0, 1) := by decide +kernel
theorem dX1_back_26 : decode cX1_back 26 = .ok (.getfield 28, 3) := by decide +kernel
theorem dX1_back_29 : decode cX1_back 29 = .ok (.iaload, 1) := by decide +kernel
theorem dX1_back_30 : decode cX1_back 30 = .ok (.aload_n 0, 1) := by decide +kernel
theorem dX1_back_31 : decode cX1_back 31 = .ok (.getfield 15, 3) := by decide +kernel
theorem dX1_back_34 : decode cX1_back 34 = .ok (.aload_n 0, 1) := by decide +kernel
theorem dX1_back_35 : decode cX1_back 35 = .ok (.getfield 28, 3) := by decide +kernel
theorem dX1_back_38 : decode cX1_back 38 = .ok (.iaload, 1) := by decide +kernel
theorem dX1_back_39 : decode cX1_back 39 = .ok (.aload_n 0, 1) := by decide +kernel
theorem dX1_back_40 : decode cX1_back 40 = .ok (.getfield 18, 3) := by decide +kernel
theorem dX1_back_43 : decode cX1_back 43 = .ok (.aload_n 0, 1) := by decide +kernel
theorem dX1_back_44 : decode cX1_back 44 = .ok (.getfield 28, 3) := by decide +kernel
theorem dX1_back_47 : decode cX1_back 47 = .ok (.iaload, 1) := by decide +kernel
theorem dX1_back_48 : decode cX1_back 48 = .ok (.invokevirtual 39, 3) := by decide +kernel
theorem dX1_back_51 : decode cX1_back 51 = .ok (.aload_n 0, 1) := by decide +kernel
theorem dX1_back_52 : decode cX1_back 52 = .ok (.getfield 28, 3) := by decide +kernel
theorem dX1_back_55 : decode cX1_back 55 = .ok (.ireturn, 1) := by decide +kernel
abbrev z_X1_back : List Cond := .code yX1_back cX1_back 1 (some .int) :: zW
abbrev wx_X1_back (ad : Nat → Nat) (cs : Nat → ClassId) (LP : va_W) (S_a : Nat → Nat) (S_b : Nat → Nat) (court_shoeCount : Int32) (court_claimCount : Int32) (court_suitCount : Int32) (court_shoeDay : Nat → Int32) (court_suits : Nat → Option Nat) (chg_done : Int32) (chg_size : Int32) (chg_sorts : Nat → Int32) (chg_numbers : Nat → Int32) (chg_befores : Nat → Int32) (S_who : Nat → Int32) (S_against : Nat → Int32) (S_kind : Nat → Int32) (S_won : Nat → Int32) (S_day : Nat → Int32) (S_land : Nat → Int32) (S_undoneFrom : Nat → Int32) (S_asked : Nat → Nat → Int32) (S_askedCount : Nat → Int32) (S_askedBits : Nat → Int32) (S_first : Nat → Int32) (S_foundSo : Nat → Int32) (S_foundNot : Nat → Int32) (S_fought : Nat → Int32) (S_needed : Nat → Int32) : va_W := [((ad 4), .inr (2, [.ref (ad 5), .ref (ad 6), .ref (ad 7), .ref (ad 8), .ref (ad 9), .ref (ad 10), .ref (ad 11), .ref (ad 12), .ref (ad 13), .ref (ad 14), .int court_shoeCount, .int court_claimCount, .int court_suitCount])), ((ad 8), .inl (cs 0, 40, .inl court_shoeDay)), ((ad 13), .inl (cs 5, 40, .inr (.inr (.inr (.inr court_suits))))), ((ad 34), .inr (1, [.ref (ad 4), .ref (ad 35), .ref (ad 36), .ref (ad 37), .ref (ad 38), .int chg_done, .int chg_size])), ((ad 35), .inl (cs 0, 40, .inl chg_sorts)), ((ad 36), .inl (cs 0, 40, .inl chg_numbers)), ((ad 37), .inl (cs 0, 40, .inl chg_befores))]
abbrev wl_X1_back (ad : Nat → Nat) (cs : Nat → ClassId) (LP : va_W) (S_a : Nat → Nat) (S_b : Nat → Nat) (court_shoeCount : Int32) (court_claimCount : Int32) (court_suitCount : Int32) (court_shoeDay : Nat → Int32) (court_suits : Nat → Option Nat) (chg_done : Int32) (chg_size : Int32) (chg_sorts : Nat → Int32) (chg_numbers : Nat → Int32) (chg_befores : Nat → Int32) (S_who : Nat → Int32) (S_against : Nat → Int32) (S_kind : Nat → Int32) (S_won : Nat → Int32) (S_day : Nat → Int32) (S_land : Nat → Int32) (S_undoneFrom : Nat → Int32) (S_asked : Nat → Nat → Int32) (S_askedCount : Nat → Int32) (S_askedBits : Nat → Int32) (S_first : Nat → Int32) (S_foundSo : Nat → Int32) (S_foundNot : Nat → Int32) (S_fought : Nat → Int32) (S_needed : Nat → Int32) : va_W := wx_X1_back ad cs LP S_a S_b court_shoeCount court_claimCount court_suitCount court_shoeDay court_suits chg_done chg_size chg_sorts chg_numbers chg_befores S_who S_against S_kind S_won S_day S_land S_undoneFrom S_asked S_askedCount S_askedBits S_first S_foundSo S_foundNot S_fought S_needed ++ (zSu cs S_a S_b court_suitCount.toInt.toNat S_who S_against S_kind S_won S_day S_land S_undoneFrom S_asked S_askedCount S_askedBits S_first S_foundSo S_foundNot S_fought S_needed ++ LP)
def Q_X1_back (D : va_G) (cs : Nat → ClassId) (ad : Nat → Nat) (LP : va_W) (S_a : Nat → Nat) (S_b : Nat → Nat) (court_shoeCount : Int32) (court_claimCount : Int32) (court_suitCount : Int32) (court_suits : Nat → Option Nat) (chg_size : Int32) (chg_sorts : Nat → Int32) (chg_numbers : Nat → Int32) (chg_befores : Nat → Int32) (S_who : Nat → Int32) (S_against : Nat → Int32) (S_kind : Nat → Int32) (S_day : Nat → Int32) (S_land : Nat → Int32) (S_asked : Nat → Nat → Int32) (S_askedCount : Nat → Int32) (S_askedBits : Nat → Int32) (S_first : Nat → Int32) (S_foundSo : Nat → Int32) (S_foundNot : Nat → Int32) (S_fought : Nat → Int32) (S_needed : Nat → Int32) (A : Nat → Prop) (R : Int32 × (Nat → Int32) × Int32 × (Nat → Int32) × (Nat → Int32)) : Array Value → State → Outcome → State → Prop :=
  va_Qi (fun (r : Int32) (u : (Nat → Int32) × Int32 × (Nat → Int32) × (Nat → Int32)) => (r, u) = R) (fun (u : (Nat → Int32) × Int32 × (Nat → Int32) × (Nat → Int32)) (t : State) => va_P D classes (wl_X1_back ad cs LP S_a S_b court_shoeCount court_claimCount court_suitCount u.1 court_suits u.2.1 chg_size chg_sorts chg_numbers chg_befores S_who S_against S_kind u.2.2.1 S_day S_land u.2.2.2 S_asked S_askedCount S_askedBits S_first S_foundSo S_foundNot S_fought S_needed) t.heap ∧ va_D A (wl_X1_back ad cs LP S_a S_b court_shoeCount court_claimCount court_suitCount u.1 court_suits u.2.1 chg_size chg_sorts chg_numbers chg_befores S_who S_against S_kind u.2.2.1 S_day S_land u.2.2.2 S_asked S_askedCount S_askedBits S_first S_foundSo S_foundNot S_fought S_needed)) A
abbrev rm_X1_back : Room := { frames := 2, cells := 0, slots := 0, locals := 45 }
def B_X1_back_0    (court_shoeCount : Int32) (court_claimCount : Int32) (court_suitCount : Int32) (court_suits : Nat → Option Nat) (chg_size : Int32) (chg_sorts : Nat → Int32) (chg_numbers : Nat → Int32) (chg_befores : Nat → Int32) (S_who : Nat → Int32) (S_against : Nat → Int32) (S_kind : Nat → Int32) (S_day : Nat → Int32) (S_land : Nat → Int32) (S_asked : Nat → Nat → Int32) (S_askedCount : Nat → Int32) (S_askedBits : Nat → Int32) (S_first : Nat → Int32) (S_foundSo : Nat → Int32) (S_foundNot : Nat → Int32) (S_fought : Nat → Int32) (S_needed : Nat → Int32) (court_shoeDay : Nat → Int32) (chg_done : Int32) (S_won : Nat → Int32) (S_undoneFrom : Nat → Int32) : Option (Int32 × (Nat → Int32) × Int32 × (Nat → Int32) × (Nat → Int32)) :=
  (if 0 < chg_done then (zk_let (chg_done - (1 : Int32)) (fun v_2 => (if (v_2 < 0 ∨ 40 ≤ v_2.toNatClampNeg) then none else (if (v_2 < 0 ∨ 40 ≤ v_2.toNatClampNeg) then none else (if (v_2 < 0 ∨ 40 ≤ v_2.toNatClampNeg) then none else (zk_b3 (f_X1_set (chg_sorts v_2.toNatClampNeg) (chg_numbers v_2.toNatClampNeg) (chg_befores v_2.toNatClampNeg) court_shoeCount court_claimCount court_suitCount court_shoeDay court_suits v_2 chg_size S_who S_against S_kind S_won S_day S_land S_undoneFrom S_asked S_askedCount S_askedBits S_first S_foundSo S_foundNot S_fought S_needed) (fun u_6 u_7 u_8 => (some (v_2, u_6, v_2, u_7, u_8))))))))) else (some ((-5 : Int32), court_shoeDay, chg_done, S_won, S_undoneFrom)))
def f_X1_back    (court_shoeCount : Int32) (court_claimCount : Int32) (court_suitCount : Int32) (court_shoeDay : Nat → Int32) (court_suits : Nat → Option Nat) (chg_done : Int32) (chg_size : Int32) (chg_sorts : Nat → Int32) (chg_numbers : Nat → Int32) (chg_befores : Nat → Int32) (S_who : Nat → Int32) (S_against : Nat → Int32) (S_kind : Nat → Int32) (S_won : Nat → Int32) (S_day : Nat → Int32) (S_land : Nat → Int32) (S_undoneFrom : Nat → Int32) (S_asked : Nat → Nat → Int32) (S_askedCount : Nat → Int32) (S_askedBits : Nat → Int32) (S_first : Nat → Int32) (S_foundSo : Nat → Int32) (S_foundNot : Nat → Int32) (S_fought : Nat → Int32) (S_needed : Nat → Int32) : Option (Int32 × (Nat → Int32) × Int32 × (Nat → Int32) × (Nat → Int32)) := B_X1_back_0   court_shoeCount court_claimCount court_suitCount court_suits chg_size chg_sorts chg_numbers chg_befores S_who S_against S_kind S_day S_land S_asked S_askedCount S_askedBits S_first S_foundSo S_foundNot S_fought S_needed  court_shoeDay chg_done S_won S_undoneFrom
set_option maxHeartbeats 4000000 in
set_option maxRecDepth 100000 in
theorem L_X1_back_0 {p : Program} {l : Launch} {e : Env} {s : State} {m : MethodId} {args : Array Value} {below : List Frame} {meth : Method} {c : Code} {A : Nat → Prop} {D : va_G} {cs : Nat → ClassId} {ad : Nat → Nat} {LP : va_W} {S_a : Nat → Nat} {S_b : Nat → Nat} {court_shoeCount : Int32} {court_claimCount : Int32} {court_suitCount : Int32} {court_suits : Nat → Option Nat} {chg_size : Int32} {chg_sorts : Nat → Int32} {chg_numbers : Nat → Int32} {chg_befores : Nat → Int32} {S_who : Nat → Int32} {S_against : Nat → Int32} {S_kind : Nat → Int32} {S_day : Nat → Int32} {S_land : Nat → Int32} {S_asked : Nat → Nat → Int32} {S_askedCount : Nat → Int32} {S_askedBits : Nat → Int32} {S_first : Nat → Int32} {S_foundSo : Nat → Int32} {S_foundNot : Nat → Int32} {S_fought : Nat → Int32} {S_needed : Nat → Int32} {R : Int32 × (Nat → Int32) × Int32 × (Nat → Int32) × (Nat → Int32)} (C0 : zC p s m args meth c cX1_back 1 (some .int) RX1 zW) (hK : va_K D classes (zT cs) s) (hA : ∀ q : Nat, s.heap.size ≤ q → A q) (hSA : ∀ i, i < court_suitCount.toInt.toNat → court_suits i = some (S_a i)) (court_shoeDay : Nat → Int32) (chg_done : Int32) (S_won : Nat → Int32) (S_undoneFrom : Nat → Int32) (h : B_X1_back_0 court_shoeCount court_claimCount court_suitCount court_suits chg_size chg_sorts chg_numbers chg_befores S_who S_against S_kind S_day S_land S_asked S_askedCount S_askedBits S_first S_foundSo S_foundNot S_fought S_needed court_shoeDay chg_done S_won S_undoneFrom = some R) (H : Heap) (locs : List Loc) (ls : Array Slot) (hP : va_P D classes (wl_X1_back ad cs LP S_a S_b court_shoeCount court_claimCount court_suitCount court_shoeDay court_suits chg_done chg_size chg_sorts chg_numbers chg_befores S_who S_against S_kind S_won S_day S_land S_undoneFrom S_asked S_askedCount S_askedBits S_first S_foundSo S_foundNot S_fought S_needed) H) (hD : va_D A (wl_X1_back ad cs LP S_a S_b court_shoeCount court_claimCount court_suitCount court_shoeDay court_suits chg_done chg_size chg_sorts chg_numbers chg_befores S_who S_against S_kind S_won S_day S_land S_undoneFrom S_asked S_askedCount S_askedBits S_first S_foundSo S_foundNot S_fought S_needed)) (hS : va_S A s.heap H locs) (hl : lv_has ls 1 [(0, .ref (ad 34))]) : W p l e rm_X1_back s m args below meth c H locs 0 0 (MQ below (Q_X1_back D cs ad LP S_a S_b court_shoeCount court_claimCount court_suitCount court_suits chg_size chg_sorts chg_numbers chg_befores S_who S_against S_kind S_day S_land S_asked S_askedCount S_askedBits S_first S_foundSo S_foundNot S_fought S_needed A R) args s 0 0 A) (F0 m 0 ls []) := by
  obtain ⟨hx, hb, hr, hml, hown, ht, hlocks⟩ := id C0
  refine lv_aload_n hx hb dX1_back_0 rfl (lv_at hl 0 rfl) ?_
  refine va_get (D := D) (ci := 1) (v := .int chg_done) (C := RX1) (T := TX1) (N := 7) hx hb ht iX1 hown hK hP 3 rfl rfl 5 (by decide) (ht _ kw_429) (fun _ h9 => h9) rfl dX1_back_1 ?_
  refine lv_if_gt (tgt := 10) hx hb dX1_back_4 (by decide) (fun c_1 => ?_) (fun c_1 => ?_)
  · have h := zk_t c_1 h
    refine lv_aload_n hx hb dX1_back_10 rfl (lv_at hl 0 rfl) ?_
    refine lv_dup hx hb dX1_back_11 rfl ?_
    refine va_get (D := D) (ci := 1) (v := .int chg_done) (C := RX1) (T := TX1) (N := 7) hx hb ht iX1 hown hK hP 3 rfl rfl 5 (by decide) (ht _ kw_429) (fun _ h9 => h9) rfl dX1_back_12 ?_
    refine lv_iconst (v := (1 : Int32)) hx hb dX1_back_15 (by decide) ?_
    refine lv_isub hx hb dX1_back_16 ?_
    obtain ⟨v_2, ev_2, h⟩ := zk_lt h
    refine W.eq (g2 := F0 m 17 ls [.int v_2, .ref (ad 34)]) (by rw [ev_2]) ?_
    refine va_put (D := D) (ci := 1) (v := .int v_2) (ty := .int) (C := RX1) (T := TX1) (N := 7) hx hb ht iX1 tyX1 tyX1_ok nmX1 hown hK hP hD hS 3 rfl rfl 5 (by decide) (ht _ kw_429) (fun _ h9 => h9) rfl (by decide +kernel) rfl rfl (Nat.le_of_ble_eq_true rfl) dX1_back_17 (fun H locs hP hD hS => ?_)
    have hP : va_P D classes (wl_X1_back ad cs LP S_a S_b court_shoeCount court_claimCount court_suitCount court_shoeDay court_suits v_2 chg_size chg_sorts chg_numbers chg_befores S_who S_against S_kind S_won S_day S_land S_undoneFrom S_asked S_askedCount S_askedBits S_first S_foundSo S_foundNot S_fought S_needed) H := hP
    have hD : va_D A (wl_X1_back ad cs LP S_a S_b court_shoeCount court_claimCount court_suitCount court_shoeDay court_suits v_2 chg_size chg_sorts chg_numbers chg_befores S_who S_against S_kind S_won S_day S_land S_undoneFrom S_asked S_askedCount S_askedBits S_first S_foundSo S_foundNot S_fought S_needed) := hD
    refine lv_aload_n hx hb dX1_back_20 rfl (lv_at hl 0 rfl) ?_
    refine lv_aload_n hx hb dX1_back_21 rfl (lv_at hl 0 rfl) ?_
    refine va_get (D := D) (ci := 1) (v := .ref (ad 35)) (C := RX1) (T := TX1) (N := 7) hx hb ht iX1 hown hK hP 3 rfl rfl 1 (by decide) (ht _ kw_425) (fun _ h9 => h9) rfl dX1_back_22 ?_
    refine lv_aload_n hx hb dX1_back_25 rfl (lv_at hl 0 rfl) ?_
    refine va_get (D := D) (ci := 1) (v := .int v_2) (C := RX1) (T := TX1) (N := 7) hx hb ht iX1 hown hK hP 3 rfl rfl 5 (by decide) (ht _ kw_429) (fun _ h9 => h9) rfl dX1_back_26 ?_
    obtain ⟨g_3, h⟩ := zk_gd h
    refine va_iald hx hb hK hP 4 0 rfl rfl g_3 dX1_back_29 ?_
    refine lv_aload_n hx hb dX1_back_30 rfl (lv_at hl 0 rfl) ?_
    refine va_get (D := D) (ci := 1) (v := .ref (ad 36)) (C := RX1) (T := TX1) (N := 7) hx hb ht iX1 hown hK hP 3 rfl rfl 2 (by decide) (ht _ kw_426) (fun _ h9 => h9) rfl dX1_back_31 ?_
    refine lv_aload_n hx hb dX1_back_34 rfl (lv_at hl 0 rfl) ?_
    refine va_get (D := D) (ci := 1) (v := .int v_2) (C := RX1) (T := TX1) (N := 7) hx hb ht iX1 hown hK hP 3 rfl rfl 5 (by decide) (ht _ kw_429) (fun _ h9 => h9) rfl dX1_back_35 ?_
    obtain ⟨g_4, h⟩ := zk_gd h
    refine va_iald hx hb hK hP 5 0 rfl rfl g_4 dX1_back_38 ?_
    refine lv_aload_n hx hb dX1_back_39 rfl (lv_at hl 0 rfl) ?_
    refine va_get (D := D) (ci := 1) (v := .ref (ad 37)) (C := RX1) (T := TX1) (N := 7) hx hb ht iX1 hown hK hP 3 rfl rfl 3 (by decide) (ht _ kw_427) (fun _ h9 => h9) rfl dX1_back_40 ?_
    refine lv_aload_n hx hb dX1_back_43 rfl (lv_at hl 0 rfl) ?_
    refine va_get (D := D) (ci := 1) (v := .int v_2) (C := RX1) (T := TX1) (N := 7) hx hb ht iX1 hown hK hP 3 rfl rfl 5 (by decide) (ht _ kw_429) (fun _ h9 => h9) rfl dX1_back_44 ?_
    obtain ⟨g_5, h⟩ := zk_gd h
    refine va_iald hx hb hK hP 6 0 rfl rfl g_5 dX1_back_47 ?_
    obtain ⟨u_6, u_7, u_8, hc_9, h⟩ := zk_o3 h
    refine zk_vvP (post := (fun u => u = (u_6, u_7, u_8))) (w1 := fun u => (wx_X1_set ad cs LP S_a S_b court_shoeCount court_claimCount court_suitCount u.1 court_suits v_2 chg_size S_who S_against S_kind u.2.1 S_day S_land u.2.2 S_asked S_askedCount S_askedBits S_first S_foundSo S_foundNot S_fought S_needed)) (pl1 := fun u => (zSu cs S_a S_b court_suitCount.toInt.toNat S_who S_against S_kind u.2.1 S_day S_land u.2.2 S_asked S_askedCount S_askedBits S_first S_foundSo S_foundNot S_fought S_needed ++ LP)) (As := [.int (chg_sorts v_2.toNatClampNeg), .int (chg_numbers v_2.toNatClampNeg), .int (chg_befores v_2.toNatClampNeg)]) (rest := []) (c_X1_set l D cs ad LP S_a S_b H.size (chg_sorts v_2.toNatClampNeg) (chg_numbers v_2.toNatClampNeg) (chg_befores v_2.toNatClampNeg) court_shoeCount court_claimCount court_suitCount court_shoeDay court_suits v_2 chg_size S_who S_against S_kind S_won S_day S_land S_undoneFrom S_asked S_askedCount S_askedBits S_first S_foundSo S_foundNot S_fought S_needed hSA (u_6, u_7, u_8) hc_9) ⟨hx, hb, hml, hown, ht⟩ (cwV 3 ht g_X1_39 rfl rfl rfl ⟨rfl, hd_X1_set⟩ ⟨Nat.le_of_ble_eq_true rfl, Nat.le_of_ble_eq_true rfl⟩) (va_recv hK hP (ci := 1) (q0 := 3) rfl rfl) hP hD hS hK hA [0, 1, 2, 3] [4, 5, 6] rfl rfl rfl rfl (by decide) rfl hl.1 (Nat.le_of_ble_eq_true rfl) dX1_back_48 ⟨Nat.zero_le _, Nat.zero_le _⟩ (fun u H locs hq hP hD hS => ?_)
    cases hq
    have hP : va_P D classes (wl_X1_back ad cs LP S_a S_b court_shoeCount court_claimCount court_suitCount u_6 court_suits v_2 chg_size chg_sorts chg_numbers chg_befores S_who S_against S_kind u_7 S_day S_land u_8 S_asked S_askedCount S_askedBits S_first S_foundSo S_foundNot S_fought S_needed) H := hP.part [3, 4, 5, 6, 0, 1, 2] rfl
    have hD : va_D A (wl_X1_back ad cs LP S_a S_b court_shoeCount court_claimCount court_suitCount u_6 court_suits v_2 chg_size chg_sorts chg_numbers chg_befores S_who S_against S_kind u_7 S_day S_land u_8 S_asked S_askedCount S_askedBits S_first S_foundSo S_foundNot S_fought S_needed) := hD.part [3, 4, 5, 6, 0, 1, 2] rfl rfl
    refine lv_aload_n hx hb dX1_back_51 rfl (lv_at hl 0 rfl) ?_
    refine va_get (D := D) (ci := 1) (v := .int v_2) (C := RX1) (T := TX1) (N := 7) hx hb ht iX1 hown hK hP 3 rfl rfl 5 (by decide) (ht _ kw_429) (fun _ h9 => h9) rfl dX1_back_52 ?_
    exact W.iret (v := v_2) hx hb hr (fun t ht2 hW => ⟨⟨v_2, (u_6, v_2, u_7, u_8), rfl, Option.some.inj h, by rw [ht2]; exact hP, hD⟩, hS.F ht2⟩) hS.2.2 dX1_back_55 hlocks
  · have h := zk_f c_1 h
    refine lv_bipush (v := (-5 : Int32)) hx hb dX1_back_7 (by decide) ?_
    exact W.iret (v := (-5 : Int32)) hx hb hr (fun t ht2 hW => ⟨⟨(-5 : Int32), (court_shoeDay, chg_done, S_won, S_undoneFrom), rfl, Option.some.inj h, by rw [ht2]; exact hP, hD⟩, hS.F ht2⟩) hS.2.2 dX1_back_9 hlocks
set_option maxHeartbeats 4000000 in
set_option maxRecDepth 100000 in
theorem c_X1_back (l : Launch) (D : va_G) (cs : Nat → ClassId) (ad : Nat → Nat) (LP : va_W) (S_a : Nat → Nat) (S_b : Nat → Nat) (sz : Nat)  (court_shoeCount : Int32) (court_claimCount : Int32) (court_suitCount : Int32) (court_shoeDay : Nat → Int32) (court_suits : Nat → Option Nat) (chg_done : Int32) (chg_size : Int32) (chg_sorts : Nat → Int32) (chg_numbers : Nat → Int32) (chg_befores : Nat → Int32) (S_who : Nat → Int32) (S_against : Nat → Int32) (S_kind : Nat → Int32) (S_won : Nat → Int32) (S_day : Nat → Int32) (S_land : Nat → Int32) (S_undoneFrom : Nat → Int32) (S_asked : Nat → Nat → Int32) (S_askedCount : Nat → Int32) (S_askedBits : Nat → Int32) (S_first : Nat → Int32) (S_foundSo : Nat → Int32) (S_foundNot : Nat → Int32) (S_fought : Nat → Int32) (S_needed : Nat → Int32) (hSA : ∀ i, i < court_suitCount.toInt.toNat → court_suits i = some (S_a i)) (R : Int32 × (Nat → Int32) × Int32 × (Nat → Int32) × (Nat → Int32)) (h : f_X1_back    court_shoeCount court_claimCount court_suitCount court_shoeDay court_suits chg_done chg_size chg_sorts chg_numbers chg_befores S_who S_against S_kind S_won S_day S_land S_undoneFrom S_asked S_askedCount S_askedBits S_first S_foundSo S_foundNot S_fought S_needed = some R) : Met l yX1_back (z_X1_back) rm_X1_back (va_Pc [.ref (ad 34)] (zPre D cs (wl_X1_back ad cs LP S_a S_b court_shoeCount court_claimCount court_suitCount court_shoeDay court_suits chg_done chg_size chg_sorts chg_numbers chg_befores S_who S_against S_kind S_won S_day S_land S_undoneFrom S_asked S_askedCount S_askedBits S_first S_foundSo S_foundNot S_fought S_needed) sz)) (Q_X1_back D cs ad LP S_a S_b court_shoeCount court_claimCount court_suitCount court_suits chg_size chg_sorts chg_numbers chg_befores S_who S_against S_kind S_day S_land S_asked S_askedCount S_askedBits S_first S_foundSo S_foundNot S_fought S_needed (va_A (wl_X1_back ad cs LP S_a S_b court_shoeCount court_claimCount court_suitCount court_shoeDay court_suits chg_done chg_size chg_sorts chg_numbers chg_befores S_who S_against S_kind S_won S_day S_land S_undoneFrom S_asked S_askedCount S_askedBits S_first S_foundSo S_foundNot S_fought S_needed) sz) R) 0 0 (va_A (wl_X1_back ad cs LP S_a S_b court_shoeCount court_claimCount court_suitCount court_shoeDay court_suits chg_done chg_size chg_sorts chg_numbers chg_befores S_who S_against S_kind S_won S_day S_land S_undoneFrom S_asked S_askedCount S_askedBits S_first S_foundSo S_foundNot S_fought S_needed) sz) := by
  refine Met.ofW (cc := cX1_back) (maxL := 1) (ret := (some .int)) (by decide) rfl ?_
  intro p e s m args below meth c s₁ B hml hv
  obtain ⟨rfl, hsz, hP, hK, hD0⟩ := hv
  subst hsz
  have hD := hD0.self (sz := s.heap.size)
  have C0 : zC p s m _ meth c cX1_back 1 (some .int) RX1 zW := ⟨B.exec, B.bytes, B.returns, hml, findClass_of_methodNamed B.named, fun w hw => atoms_spec (ws := z_X1_back) B.pre w (List.mem_cons_of_mem _ hw), B.notSynchronized⟩
  have hA : ∀ q : Nat, s.heap.size ≤ q → va_A (wl_X1_back ad cs LP S_a S_b court_shoeCount court_claimCount court_suitCount court_shoeDay court_suits chg_done chg_size chg_sorts chg_numbers chg_befores S_who S_against S_kind S_won S_day S_land S_undoneFrom S_asked S_askedCount S_askedBits S_first S_foundSo S_foundNot S_fought S_needed) s.heap.size q := fun q h => Or.inr h
  have hl := lv_entry ([.ref (ad 34)]) (n := 1) (Nat.le_of_ble_eq_true rfl)
  rw [lg_entry_eq]
  generalize (lg_sl ([.ref (ad 34)]) ++ List.replicate (1 - (lg_sl ([.ref (ad 34)])).length) Slot.unset).toArray = ls at hl ⊢
  exact L_X1_back_0 C0 hK hA hSA    court_shoeDay chg_done S_won S_undoneFrom h s.heap [] ls hP hD va_S.rf hl
theorem dX1_again_0 : decode cX1_again 0 = .ok (.aload_n 0, 1) := by decide +kernel
theorem dX1_again_1 : decode cX1_again 1 = .ok (.getfield 28, 3) := by decide +kernel
theorem dX1_again_4 : decode cX1_again 4 = .ok (.aload_n 0, 1) := by decide +kernel
theorem dX1_again_5 : decode cX1_again 5 = .ok (.getfield 36, 3) := by decide +kernel
theorem dX1_again_8 : decode cX1_again 8 = .ok (.if_icmp .lt 6, 3) := by decide +kernel
theorem dX1_again_11 : decode cX1_again 11 = .ok (.bipush (-5), 2) := by decide +kernel
theorem dX1_again_13 : decode cX1_again 13 = .ok (.ireturn, 1) := by decide +kernel
theorem dX1_again_14 : decode cX1_again 14 = .ok (.aload_n 0, 1) := by decide +kernel
theorem dX1_again_15 : decode cX1_again 15 = .ok (.aload_n 0, 1) := by decide +kernel
theorem dX1_again_16 : decode cX1_again 16 = .ok (.getfield 9, 3) := by decide +kernel
theorem dX1_again_19 : decode cX1_again 19 = .ok (.aload_n 0, 1) := by decide +kernel
theorem dX1_again_20 : decode cX1_again 20 = .ok (.getfield 28, 3) := by decide +kernel
theorem dX1_again_23 : decode cX1_again 23 = .ok (.iaload, 1) := by decide +kernel
theorem dX1_again_24 : decode cX1_again 24 = .ok (.aload_n 0, 1) := by decide +kernel
theorem dX1_again_25 : decode cX1_again 25 = .ok (.getfield 15, 3) := by decide +kernel
theorem dX1_again_28 : decode cX1_again 28 = .ok (.aload_n 0, 1) := by decide +kernel
theorem dX1_again_29 : decode cX1_again 29 = .ok (.getfield 28, 3) := by decide +kernel
theorem dX1_again_32 : decode cX1_again 32 = .ok (.iaload, 1) := by decide +kernel
theorem dX1_again_33 : decode cX1_again 33 = .ok (.aload_n 0, 1) := by decide +kernel
theorem dX1_again_34 : decode cX1_again 34 = .ok (.getfield 21, 3) := by decide +kernel
theorem dX1_again_37 : decode cX1_again 37 = .ok (.aload_n 0, 1) := by decide +kernel
theorem dX1_again_38 : decode cX1_again 38 = .ok (.getfield 28, 3) := by decide +kernel
theorem dX1_again_41 : decode cX1_again 41 = .ok (.iaload, 1) := by decide +kernel
theorem dX1_again_42 : decode cX1_again 42 = .ok (.invokevirtual 39, 3) := by decide +kernel
theorem dX1_again_45 : decode cX1_again 45 = .ok (.aload_n 0, 1) := by decide +kernel
theorem dX1_again_46 : decode cX1_again 46 = .ok (.dup, 1) := by decide +kernel
theorem dX1_again_47 : decode cX1_again 47 = .ok (.getfield 28, 3) := by decide +kernel
theorem dX1_again_50 : decode cX1_again 50 = .ok (.iconst 1, 1) := by decide +kernel
theorem dX1_again_51 : decode cX1_again 51 = .ok (.iadd, 1) := by decide +kernel
theorem dX1_again_52 : decode cX1_again 52 = .ok (.putfield 28, 3) := by decide +kernel
theorem dX1_again_55 : decode cX1_again 55 = .ok (.aload_n 0, 1) := by decide +kernel
theorem dX1_again_56 : decode cX1_again 56 = .ok (.getfield 36, 3) := by decide +kernel
theorem dX1_again_59 : decode cX1_again 59 = .ok (.aload_n 0, 1) := by decide +kernel
theorem dX1_again_60 : decode cX1_again 60 = .ok (.getfield 28, 3) := by decide +kernel
theorem dX1_again_63 : decode cX1_again 63 = .ok (.isub, 1) := by decide +kernel
theorem dX1_again_64 : decode cX1_again 64 = .ok (.ireturn, 1) := by decide +kernel
abbrev z_X1_again : List Cond := .code yX1_again cX1_again 1 (some .int) :: zW
abbrev wx_X1_again (ad : Nat → Nat) (cs : Nat → ClassId) (LP : va_W) (S_a : Nat → Nat) (S_b : Nat → Nat) (court_shoeCount : Int32) (court_claimCount : Int32) (court_suitCount : Int32) (court_shoeDay : Nat → Int32) (court_suits : Nat → Option Nat) (chg_done : Int32) (chg_size : Int32) (chg_sorts : Nat → Int32) (chg_numbers : Nat → Int32) (chg_afters : Nat → Int32) (S_who : Nat → Int32) (S_against : Nat → Int32) (S_kind : Nat → Int32) (S_won : Nat → Int32) (S_day : Nat → Int32) (S_land : Nat → Int32) (S_undoneFrom : Nat → Int32) (S_asked : Nat → Nat → Int32) (S_askedCount : Nat → Int32) (S_askedBits : Nat → Int32) (S_first : Nat → Int32) (S_foundSo : Nat → Int32) (S_foundNot : Nat → Int32) (S_fought : Nat → Int32) (S_needed : Nat → Int32) : va_W := [((ad 4), .inr (2, [.ref (ad 5), .ref (ad 6), .ref (ad 7), .ref (ad 8), .ref (ad 9), .ref (ad 10), .ref (ad 11), .ref (ad 12), .ref (ad 13), .ref (ad 14), .int court_shoeCount, .int court_claimCount, .int court_suitCount])), ((ad 8), .inl (cs 0, 40, .inl court_shoeDay)), ((ad 13), .inl (cs 5, 40, .inr (.inr (.inr (.inr court_suits))))), ((ad 34), .inr (1, [.ref (ad 4), .ref (ad 35), .ref (ad 36), .ref (ad 37), .ref (ad 38), .int chg_done, .int chg_size])), ((ad 35), .inl (cs 0, 40, .inl chg_sorts)), ((ad 36), .inl (cs 0, 40, .inl chg_numbers)), ((ad 38), .inl (cs 0, 40, .inl chg_afters))]
abbrev wl_X1_again (ad : Nat → Nat) (cs : Nat → ClassId) (LP : va_W) (S_a : Nat → Nat) (S_b : Nat → Nat) (court_shoeCount : Int32) (court_claimCount : Int32) (court_suitCount : Int32) (court_shoeDay : Nat → Int32) (court_suits : Nat → Option Nat) (chg_done : Int32) (chg_size : Int32) (chg_sorts : Nat → Int32) (chg_numbers : Nat → Int32) (chg_afters : Nat → Int32) (S_who : Nat → Int32) (S_against : Nat → Int32) (S_kind : Nat → Int32) (S_won : Nat → Int32) (S_day : Nat → Int32) (S_land : Nat → Int32) (S_undoneFrom : Nat → Int32) (S_asked : Nat → Nat → Int32) (S_askedCount : Nat → Int32) (S_askedBits : Nat → Int32) (S_first : Nat → Int32) (S_foundSo : Nat → Int32) (S_foundNot : Nat → Int32) (S_fought : Nat → Int32) (S_needed : Nat → Int32) : va_W := wx_X1_again ad cs LP S_a S_b court_shoeCount court_claimCount court_suitCount court_shoeDay court_suits chg_done chg_size chg_sorts chg_numbers chg_afters S_who S_against S_kind S_won S_day S_land S_undoneFrom S_asked S_askedCount S_askedBits S_first S_foundSo S_foundNot S_fought S_needed ++ (zSu cs S_a S_b court_suitCount.toInt.toNat S_who S_against S_kind S_won S_day S_land S_undoneFrom S_asked S_askedCount S_askedBits S_first S_foundSo S_foundNot S_fought S_needed ++ LP)
def Q_X1_again (D : va_G) (cs : Nat → ClassId) (ad : Nat → Nat) (LP : va_W) (S_a : Nat → Nat) (S_b : Nat → Nat) (court_shoeCount : Int32) (court_claimCount : Int32) (court_suitCount : Int32) (court_suits : Nat → Option Nat) (chg_size : Int32) (chg_sorts : Nat → Int32) (chg_numbers : Nat → Int32) (chg_afters : Nat → Int32) (S_who : Nat → Int32) (S_against : Nat → Int32) (S_kind : Nat → Int32) (S_day : Nat → Int32) (S_land : Nat → Int32) (S_asked : Nat → Nat → Int32) (S_askedCount : Nat → Int32) (S_askedBits : Nat → Int32) (S_first : Nat → Int32) (S_foundSo : Nat → Int32) (S_foundNot : Nat → Int32) (S_fought : Nat → Int32) (S_needed : Nat → Int32) (A : Nat → Prop) (R : Int32 × (Nat → Int32) × Int32 × (Nat → Int32) × (Nat → Int32)) : Array Value → State → Outcome → State → Prop :=
  va_Qi (fun (r : Int32) (u : (Nat → Int32) × Int32 × (Nat → Int32) × (Nat → Int32)) => (r, u) = R) (fun (u : (Nat → Int32) × Int32 × (Nat → Int32) × (Nat → Int32)) (t : State) => va_P D classes (wl_X1_again ad cs LP S_a S_b court_shoeCount court_claimCount court_suitCount u.1 court_suits u.2.1 chg_size chg_sorts chg_numbers chg_afters S_who S_against S_kind u.2.2.1 S_day S_land u.2.2.2 S_asked S_askedCount S_askedBits S_first S_foundSo S_foundNot S_fought S_needed) t.heap ∧ va_D A (wl_X1_again ad cs LP S_a S_b court_shoeCount court_claimCount court_suitCount u.1 court_suits u.2.1 chg_size chg_sorts chg_numbers chg_afters S_who S_against S_kind u.2.2.1 S_day S_land u.2.2.2 S_asked S_askedCount S_askedBits S_first S_foundSo S_foundNot S_fought S_needed)) A
abbrev rm_X1_again : Room := { frames := 2, cells := 0, slots := 0, locals := 45 }
def B_X1_again_0    (court_shoeCount : Int32) (court_claimCount : Int32) (court_suitCount : Int32) (court_suits : Nat → Option Nat) (chg_size : Int32) (chg_sorts : Nat → Int32) (chg_numbers : Nat → Int32) (chg_afters : Nat → Int32) (S_who : Nat → Int32) (S_against : Nat → Int32) (S_kind : Nat → Int32) (S_day : Nat → Int32) (S_land : Nat → Int32) (S_asked : Nat → Nat → Int32) (S_askedCount : Nat → Int32) (S_askedBits : Nat → Int32) (S_first : Nat → Int32) (S_foundSo : Nat → Int32) (S_foundNot : Nat → Int32) (S_fought : Nat → Int32) (S_needed : Nat → Int32) (court_shoeDay : Nat → Int32) (chg_done : Int32) (S_won : Nat → Int32) (S_undoneFrom : Nat → Int32) : Option (Int32 × (Nat → Int32) × Int32 × (Nat → Int32) × (Nat → Int32)) :=
  (if chg_done < chg_size then (if (chg_done < 0 ∨ 40 ≤ chg_done.toNatClampNeg) then none else (if (chg_done < 0 ∨ 40 ≤ chg_done.toNatClampNeg) then none else (if (chg_done < 0 ∨ 40 ≤ chg_done.toNatClampNeg) then none else (zk_b3 (f_X1_set (chg_sorts chg_done.toNatClampNeg) (chg_numbers chg_done.toNatClampNeg) (chg_afters chg_done.toNatClampNeg) court_shoeCount court_claimCount court_suitCount court_shoeDay court_suits chg_done chg_size S_who S_against S_kind S_won S_day S_land S_undoneFrom S_asked S_askedCount S_askedBits S_first S_foundSo S_foundNot S_fought S_needed) (fun u_5 u_6 u_7 => (zk_let (chg_done + (1 : Int32)) (fun v_9 => (some (chg_size - v_9, u_5, v_9, u_6, u_7))))))))) else (some ((-5 : Int32), court_shoeDay, chg_done, S_won, S_undoneFrom)))
def f_X1_again    (court_shoeCount : Int32) (court_claimCount : Int32) (court_suitCount : Int32) (court_shoeDay : Nat → Int32) (court_suits : Nat → Option Nat) (chg_done : Int32) (chg_size : Int32) (chg_sorts : Nat → Int32) (chg_numbers : Nat → Int32) (chg_afters : Nat → Int32) (S_who : Nat → Int32) (S_against : Nat → Int32) (S_kind : Nat → Int32) (S_won : Nat → Int32) (S_day : Nat → Int32) (S_land : Nat → Int32) (S_undoneFrom : Nat → Int32) (S_asked : Nat → Nat → Int32) (S_askedCount : Nat → Int32) (S_askedBits : Nat → Int32) (S_first : Nat → Int32) (S_foundSo : Nat → Int32) (S_foundNot : Nat → Int32) (S_fought : Nat → Int32) (S_needed : Nat → Int32) : Option (Int32 × (Nat → Int32) × Int32 × (Nat → Int32) × (Nat → Int32)) := B_X1_again_0   court_shoeCount court_claimCount court_suitCount court_suits chg_size chg_sorts chg_numbers chg_afters S_who S_against S_kind S_day S_land S_asked S_askedCount S_askedBits S_first S_foundSo S_foundNot S_fought S_needed  court_shoeDay chg_done S_won S_undoneFrom
set_option maxHeartbeats 4000000 in
set_option maxRecDepth 100000 in
theorem L_X1_again_0 {p : Program} {l : Launch} {e : Env} {s : State} {m : MethodId} {args : Array Value} {below : List Frame} {meth : Method} {c : Code} {A : Nat → Prop} {D : va_G} {cs : Nat → ClassId} {ad : Nat → Nat} {LP : va_W} {S_a : Nat → Nat} {S_b : Nat → Nat} {court_shoeCount : Int32} {court_claimCount : Int32} {court_suitCount : Int32} {court_suits : Nat → Option Nat} {chg_size : Int32} {chg_sorts : Nat → Int32} {chg_numbers : Nat → Int32} {chg_afters : Nat → Int32} {S_who : Nat → Int32} {S_against : Nat → Int32} {S_kind : Nat → Int32} {S_day : Nat → Int32} {S_land : Nat → Int32} {S_asked : Nat → Nat → Int32} {S_askedCount : Nat → Int32} {S_askedBits : Nat → Int32} {S_first : Nat → Int32} {S_foundSo : Nat → Int32} {S_foundNot : Nat → Int32} {S_fought : Nat → Int32} {S_needed : Nat → Int32} {R : Int32 × (Nat → Int32) × Int32 × (Nat → Int32) × (Nat → Int32)} (C0 : zC p s m args meth c cX1_again 1 (some .int) RX1 zW) (hK : va_K D classes (zT cs) s) (hA : ∀ q : Nat, s.heap.size ≤ q → A q) (hSA : ∀ i, i < court_suitCount.toInt.toNat → court_suits i = some (S_a i)) (court_shoeDay : Nat → Int32) (chg_done : Int32) (S_won : Nat → Int32) (S_undoneFrom : Nat → Int32) (h : B_X1_again_0 court_shoeCount court_claimCount court_suitCount court_suits chg_size chg_sorts chg_numbers chg_afters S_who S_against S_kind S_day S_land S_asked S_askedCount S_askedBits S_first S_foundSo S_foundNot S_fought S_needed court_shoeDay chg_done S_won S_undoneFrom = some R) (H : Heap) (locs : List Loc) (ls : Array Slot) (hP : va_P D classes (wl_X1_again ad cs LP S_a S_b court_shoeCount court_claimCount court_suitCount court_shoeDay court_suits chg_done chg_size chg_sorts chg_numbers chg_afters S_who S_against S_kind S_won S_day S_land S_undoneFrom S_asked S_askedCount S_askedBits S_first S_foundSo S_foundNot S_fought S_needed) H) (hD : va_D A (wl_X1_again ad cs LP S_a S_b court_shoeCount court_claimCount court_suitCount court_shoeDay court_suits chg_done chg_size chg_sorts chg_numbers chg_afters S_who S_against S_kind S_won S_day S_land S_undoneFrom S_asked S_askedCount S_askedBits S_first S_foundSo S_foundNot S_fought S_needed)) (hS : va_S A s.heap H locs) (hl : lv_has ls 1 [(0, .ref (ad 34))]) : W p l e rm_X1_again s m args below meth c H locs 0 0 (MQ below (Q_X1_again D cs ad LP S_a S_b court_shoeCount court_claimCount court_suitCount court_suits chg_size chg_sorts chg_numbers chg_afters S_who S_against S_kind S_day S_land S_asked S_askedCount S_askedBits S_first S_foundSo S_foundNot S_fought S_needed A R) args s 0 0 A) (F0 m 0 ls []) := by
  obtain ⟨hx, hb, hr, hml, hown, ht, hlocks⟩ := id C0
  refine lv_aload_n hx hb dX1_again_0 rfl (lv_at hl 0 rfl) ?_
  refine va_get (D := D) (ci := 1) (v := .int chg_done) (C := RX1) (T := TX1) (N := 7) hx hb ht iX1 hown hK hP 3 rfl rfl 5 (by decide) (ht _ kw_429) (fun _ h9 => h9) rfl dX1_again_1 ?_
  refine lv_aload_n hx hb dX1_again_4 rfl (lv_at hl 0 rfl) ?_
  refine va_get (D := D) (ci := 1) (v := .int chg_size) (C := RX1) (T := TX1) (N := 7) hx hb ht iX1 hown hK hP 3 rfl rfl 6 (by decide) (ht _ kw_431) (fun _ h9 => h9) rfl dX1_again_5 ?_
  refine lv_icmp_lt (tgt := 14) hx hb dX1_again_8 (by decide) (fun c_1 => ?_) (fun c_1 => ?_)
  · have h := zk_t c_1 h
    refine lv_aload_n hx hb dX1_again_14 rfl (lv_at hl 0 rfl) ?_
    refine lv_aload_n hx hb dX1_again_15 rfl (lv_at hl 0 rfl) ?_
    refine va_get (D := D) (ci := 1) (v := .ref (ad 35)) (C := RX1) (T := TX1) (N := 7) hx hb ht iX1 hown hK hP 3 rfl rfl 1 (by decide) (ht _ kw_425) (fun _ h9 => h9) rfl dX1_again_16 ?_
    refine lv_aload_n hx hb dX1_again_19 rfl (lv_at hl 0 rfl) ?_
    refine va_get (D := D) (ci := 1) (v := .int chg_done) (C := RX1) (T := TX1) (N := 7) hx hb ht iX1 hown hK hP 3 rfl rfl 5 (by decide) (ht _ kw_429) (fun _ h9 => h9) rfl dX1_again_20 ?_
    obtain ⟨g_2, h⟩ := zk_gd h
    refine va_iald hx hb hK hP 4 0 rfl rfl g_2 dX1_again_23 ?_
    refine lv_aload_n hx hb dX1_again_24 rfl (lv_at hl 0 rfl) ?_
    refine va_get (D := D) (ci := 1) (v := .ref (ad 36)) (C := RX1) (T := TX1) (N := 7) hx hb ht iX1 hown hK hP 3 rfl rfl 2 (by decide) (ht _ kw_426) (fun _ h9 => h9) rfl dX1_again_25 ?_
    refine lv_aload_n hx hb dX1_again_28 rfl (lv_at hl 0 rfl) ?_
    refine va_get (D := D) (ci := 1) (v := .int chg_done) (C := RX1) (T := TX1) (N := 7) hx hb ht iX1 hown hK hP 3 rfl rfl 5 (by decide) (ht _ kw_429) (fun _ h9 => h9) rfl dX1_again_29 ?_
    obtain ⟨g_3, h⟩ := zk_gd h
    refine va_iald hx hb hK hP 5 0 rfl rfl g_3 dX1_again_32 ?_
    refine lv_aload_n hx hb dX1_again_33 rfl (lv_at hl 0 rfl) ?_
    refine va_get (D := D) (ci := 1) (v := .ref (ad 38)) (C := RX1) (T := TX1) (N := 7) hx hb ht iX1 hown hK hP 3 rfl rfl 4 (by decide) (ht _ kw_428) (fun _ h9 => h9) rfl dX1_again_34 ?_
    refine lv_aload_n hx hb dX1_again_37 rfl (lv_at hl 0 rfl) ?_
    refine va_get (D := D) (ci := 1) (v := .int chg_done) (C := RX1) (T := TX1) (N := 7) hx hb ht iX1 hown hK hP 3 rfl rfl 5 (by decide) (ht _ kw_429) (fun _ h9 => h9) rfl dX1_again_38 ?_
    obtain ⟨g_4, h⟩ := zk_gd h
    refine va_iald hx hb hK hP 6 0 rfl rfl g_4 dX1_again_41 ?_
    obtain ⟨u_5, u_6, u_7, hc_8, h⟩ := zk_o3 h
    refine zk_vvP (post := (fun u => u = (u_5, u_6, u_7))) (w1 := fun u => (wx_X1_set ad cs LP S_a S_b court_shoeCount court_claimCount court_suitCount u.1 court_suits chg_done chg_size S_who S_against S_kind u.2.1 S_day S_land u.2.2 S_asked S_askedCount S_askedBits S_first S_foundSo S_foundNot S_fought S_needed)) (pl1 := fun u => (zSu cs S_a S_b court_suitCount.toInt.toNat S_who S_against S_kind u.2.1 S_day S_land u.2.2 S_asked S_askedCount S_askedBits S_first S_foundSo S_foundNot S_fought S_needed ++ LP)) (As := [.int (chg_sorts chg_done.toNatClampNeg), .int (chg_numbers chg_done.toNatClampNeg), .int (chg_afters chg_done.toNatClampNeg)]) (rest := []) (c_X1_set l D cs ad LP S_a S_b H.size (chg_sorts chg_done.toNatClampNeg) (chg_numbers chg_done.toNatClampNeg) (chg_afters chg_done.toNatClampNeg) court_shoeCount court_claimCount court_suitCount court_shoeDay court_suits chg_done chg_size S_who S_against S_kind S_won S_day S_land S_undoneFrom S_asked S_askedCount S_askedBits S_first S_foundSo S_foundNot S_fought S_needed hSA (u_5, u_6, u_7) hc_8) ⟨hx, hb, hml, hown, ht⟩ (cwV 3 ht g_X1_39 rfl rfl rfl ⟨rfl, hd_X1_set⟩ ⟨Nat.le_of_ble_eq_true rfl, Nat.le_of_ble_eq_true rfl⟩) (va_recv hK hP (ci := 1) (q0 := 3) rfl rfl) hP hD hS hK hA [0, 1, 2, 3] [4, 5, 6] rfl rfl rfl rfl (by decide) rfl hl.1 (Nat.le_of_ble_eq_true rfl) dX1_again_42 ⟨Nat.zero_le _, Nat.zero_le _⟩ (fun u H locs hq hP hD hS => ?_)
    cases hq
    have hP : va_P D classes (wl_X1_again ad cs LP S_a S_b court_shoeCount court_claimCount court_suitCount u_5 court_suits chg_done chg_size chg_sorts chg_numbers chg_afters S_who S_against S_kind u_6 S_day S_land u_7 S_asked S_askedCount S_askedBits S_first S_foundSo S_foundNot S_fought S_needed) H := hP.part [3, 4, 5, 6, 0, 1, 2] rfl
    have hD : va_D A (wl_X1_again ad cs LP S_a S_b court_shoeCount court_claimCount court_suitCount u_5 court_suits chg_done chg_size chg_sorts chg_numbers chg_afters S_who S_against S_kind u_6 S_day S_land u_7 S_asked S_askedCount S_askedBits S_first S_foundSo S_foundNot S_fought S_needed) := hD.part [3, 4, 5, 6, 0, 1, 2] rfl rfl
    refine lv_aload_n hx hb dX1_again_45 rfl (lv_at hl 0 rfl) ?_
    refine lv_dup hx hb dX1_again_46 rfl ?_
    refine va_get (D := D) (ci := 1) (v := .int chg_done) (C := RX1) (T := TX1) (N := 7) hx hb ht iX1 hown hK hP 3 rfl rfl 5 (by decide) (ht _ kw_429) (fun _ h9 => h9) rfl dX1_again_47 ?_
    refine lv_iconst (v := (1 : Int32)) hx hb dX1_again_50 (by decide) ?_
    refine lv_iadd hx hb dX1_again_51 ?_
    obtain ⟨v_9, ev_9, h⟩ := zk_lt h
    refine W.eq (g2 := F0 m 52 ls [.int v_9, .ref (ad 34)]) (by rw [ev_9]) ?_
    refine va_put (D := D) (ci := 1) (v := .int v_9) (ty := .int) (C := RX1) (T := TX1) (N := 7) hx hb ht iX1 tyX1 tyX1_ok nmX1 hown hK hP hD hS 3 rfl rfl 5 (by decide) (ht _ kw_429) (fun _ h9 => h9) rfl (by decide +kernel) rfl rfl (Nat.le_of_ble_eq_true rfl) dX1_again_52 (fun H locs hP hD hS => ?_)
    have hP : va_P D classes (wl_X1_again ad cs LP S_a S_b court_shoeCount court_claimCount court_suitCount u_5 court_suits v_9 chg_size chg_sorts chg_numbers chg_afters S_who S_against S_kind u_6 S_day S_land u_7 S_asked S_askedCount S_askedBits S_first S_foundSo S_foundNot S_fought S_needed) H := hP
    have hD : va_D A (wl_X1_again ad cs LP S_a S_b court_shoeCount court_claimCount court_suitCount u_5 court_suits v_9 chg_size chg_sorts chg_numbers chg_afters S_who S_against S_kind u_6 S_day S_land u_7 S_asked S_askedCount S_askedBits S_first S_foundSo S_foundNot S_fought S_needed) := hD
    refine lv_aload_n hx hb dX1_again_55 rfl (lv_at hl 0 rfl) ?_
    refine va_get (D := D) (ci := 1) (v := .int chg_size) (C := RX1) (T := TX1) (N := 7) hx hb ht iX1 hown hK hP 3 rfl rfl 6 (by decide) (ht _ kw_431) (fun _ h9 => h9) rfl dX1_again_56 ?_
    refine lv_aload_n hx hb dX1_again_59 rfl (lv_at hl 0 rfl) ?_
    refine va_get (D := D) (ci := 1) (v := .int v_9) (C := RX1) (T := TX1) (N := 7) hx hb ht iX1 hown hK hP 3 rfl rfl 5 (by decide) (ht _ kw_429) (fun _ h9 => h9) rfl dX1_again_60 ?_
    refine lv_isub hx hb dX1_again_63 ?_
    exact W.iret (v := chg_size - v_9) hx hb hr (fun t ht2 hW => ⟨⟨chg_size - v_9, (u_5, v_9, u_6, u_7), rfl, Option.some.inj h, by rw [ht2]; exact hP, hD⟩, hS.F ht2⟩) hS.2.2 dX1_again_64 hlocks
  · have h := zk_f c_1 h
    refine lv_bipush (v := (-5 : Int32)) hx hb dX1_again_11 (by decide) ?_
    exact W.iret (v := (-5 : Int32)) hx hb hr (fun t ht2 hW => ⟨⟨(-5 : Int32), (court_shoeDay, chg_done, S_won, S_undoneFrom), rfl, Option.some.inj h, by rw [ht2]; exact hP, hD⟩, hS.F ht2⟩) hS.2.2 dX1_again_13 hlocks
set_option maxHeartbeats 4000000 in
set_option maxRecDepth 100000 in
theorem c_X1_again (l : Launch) (D : va_G) (cs : Nat → ClassId) (ad : Nat → Nat) (LP : va_W) (S_a : Nat → Nat) (S_b : Nat → Nat) (sz : Nat)  (court_shoeCount : Int32) (court_claimCount : Int32) (court_suitCount : Int32) (court_shoeDay : Nat → Int32) (court_suits : Nat → Option Nat) (chg_done : Int32) (chg_size : Int32) (chg_sorts : Nat → Int32) (chg_numbers : Nat → Int32) (chg_afters : Nat → Int32) (S_who : Nat → Int32) (S_against : Nat → Int32) (S_kind : Nat → Int32) (S_won : Nat → Int32) (S_day : Nat → Int32) (S_land : Nat → Int32) (S_undoneFrom : Nat → Int32) (S_asked : Nat → Nat → Int32) (S_askedCount : Nat → Int32) (S_askedBits : Nat → Int32) (S_first : Nat → Int32) (S_foundSo : Nat → Int32) (S_foundNot : Nat → Int32) (S_fought : Nat → Int32) (S_needed : Nat → Int32) (hSA : ∀ i, i < court_suitCount.toInt.toNat → court_suits i = some (S_a i)) (R : Int32 × (Nat → Int32) × Int32 × (Nat → Int32) × (Nat → Int32)) (h : f_X1_again    court_shoeCount court_claimCount court_suitCount court_shoeDay court_suits chg_done chg_size chg_sorts chg_numbers chg_afters S_who S_against S_kind S_won S_day S_land S_undoneFrom S_asked S_askedCount S_askedBits S_first S_foundSo S_foundNot S_fought S_needed = some R) : Met l yX1_again (z_X1_again) rm_X1_again (va_Pc [.ref (ad 34)] (zPre D cs (wl_X1_again ad cs LP S_a S_b court_shoeCount court_claimCount court_suitCount court_shoeDay court_suits chg_done chg_size chg_sorts chg_numbers chg_afters S_who S_against S_kind S_won S_day S_land S_undoneFrom S_asked S_askedCount S_askedBits S_first S_foundSo S_foundNot S_fought S_needed) sz)) (Q_X1_again D cs ad LP S_a S_b court_shoeCount court_claimCount court_suitCount court_suits chg_size chg_sorts chg_numbers chg_afters S_who S_against S_kind S_day S_land S_asked S_askedCount S_askedBits S_first S_foundSo S_foundNot S_fought S_needed (va_A (wl_X1_again ad cs LP S_a S_b court_shoeCount court_claimCount court_suitCount court_shoeDay court_suits chg_done chg_size chg_sorts chg_numbers chg_afters S_who S_against S_kind S_won S_day S_land S_undoneFrom S_asked S_askedCount S_askedBits S_first S_foundSo S_foundNot S_fought S_needed) sz) R) 0 0 (va_A (wl_X1_again ad cs LP S_a S_b court_shoeCount court_claimCount court_suitCount court_shoeDay court_suits chg_done chg_size chg_sorts chg_numbers chg_afters S_who S_against S_kind S_won S_day S_land S_undoneFrom S_asked S_askedCount S_askedBits S_first S_foundSo S_foundNot S_fought S_needed) sz) := by
  refine Met.ofW (cc := cX1_again) (maxL := 1) (ret := (some .int)) (by decide) rfl ?_
  intro p e s m args below meth c s₁ B hml hv
  obtain ⟨rfl, hsz, hP, hK, hD0⟩ := hv
  subst hsz
  have hD := hD0.self (sz := s.heap.size)
  have C0 : zC p s m _ meth c cX1_again 1 (some .int) RX1 zW := ⟨B.exec, B.bytes, B.returns, hml, findClass_of_methodNamed B.named, fun w hw => atoms_spec (ws := z_X1_again) B.pre w (List.mem_cons_of_mem _ hw), B.notSynchronized⟩
  have hA : ∀ q : Nat, s.heap.size ≤ q → va_A (wl_X1_again ad cs LP S_a S_b court_shoeCount court_claimCount court_suitCount court_shoeDay court_suits chg_done chg_size chg_sorts chg_numbers chg_afters S_who S_against S_kind S_won S_day S_land S_undoneFrom S_asked S_askedCount S_askedBits S_first S_foundSo S_foundNot S_fought S_needed) s.heap.size q := fun q h => Or.inr h
  have hl := lv_entry ([.ref (ad 34)]) (n := 1) (Nat.le_of_ble_eq_true rfl)
  rw [lg_entry_eq]
  generalize (lg_sl ([.ref (ad 34)]) ++ List.replicate (1 - (lg_sl ([.ref (ad 34)])).length) Slot.unset).toArray = ls at hl ⊢
  exact L_X1_again_0 C0 hK hA hSA    court_shoeDay chg_done S_won S_undoneFrom h s.heap [] ls hP hD va_S.rf hl
theorem kw_255 : Cond.fieldLink RX8 19 "AlreadyJudged$SuitReader" "fault" "I" ∈ zW := zwC (i := 181) zc_1 rfl rfl
theorem dX8_judge_0 : decode cX8_judge 0 = .ok (.iload_n 1, 1) := by decide +kernel
theorem dX8_judge_1 : decode cX8_judge 1 = .ok (.ifCond .ne 15, 3) := by decide +kernel
theorem dX8_judge_4 : decode cX8_judge 4 = .ok (.aload_n 0, 1) := by decide +kernel
theorem dX8_judge_5 : decode cX8_judge 5 = .ok (.getfield 19, 3) := by decide +kernel
theorem dX8_judge_8 : decode cX8_judge 8 = .ok (.ifCond .ge 8, 3) := by decide +kernel
theorem dX8_judge_11 : decode cX8_judge 11 = .ok (.aload_n 0, 1) := by decide +kernel
theorem dX8_judge_12 : decode cX8_judge 12 = .ok (.iload_n 2, 1) := by decide +kernel
theorem dX8_judge_13 : decode cX8_judge 13 = .ok (.putfield 19, 3) := by decide +kernel
theorem dX8_judge_16 : decode cX8_judge 16 = .ok (.return_, 1) := by decide +kernel
abbrev z_X8_judge : List Cond := .code yX8_judge cX8_judge 3 none :: zW
abbrev wl_X8_judge (ad : Nat → Nat) (cs : Nat → ClassId)  (sr_spare : Value) (sr_at : Int32) (sr_numberAt : Int32) (sr_fault : Int32) : va_W := [((ad 25), .inr (8, [.ref (ad 23), sr_spare, .int sr_at, .int sr_numberAt, .int sr_fault]))]
def Q_X8_judge (D : va_G) (cs : Nat → ClassId) (ad : Nat → Nat)  (sr_spare : Value) (sr_at : Int32) (sr_numberAt : Int32) (A : Nat → Prop) (R : Int32) : Array Value → State → Outcome → State → Prop :=
  va_Qv (fun u : Int32 => u = R) (fun (u : Int32) (t : State) => va_P D classes (wl_X8_judge ad cs sr_spare sr_at sr_numberAt u) t.heap ∧ va_D A (wl_X8_judge ad cs sr_spare sr_at sr_numberAt u)) A
abbrev rm_X8_judge : Room := { frames := 0, cells := 0, slots := 0, locals := 0 }
def B_X8_judge_0    (sr_spare : Value) (sr_at : Int32) (sr_numberAt : Int32) (x1 : Int32) (x2 : Int32) (sr_fault : Int32) : Option (Int32) :=
  (if x1 = 0 then (if 0 ≤ sr_fault then (some sr_fault) else (some x2)) else (some sr_fault))
def f_X8_judge   (x1 : Int32) (x2 : Int32) (sr_spare : Value) (sr_at : Int32) (sr_numberAt : Int32) (sr_fault : Int32) : Option (Int32) := B_X8_judge_0   sr_spare sr_at sr_numberAt x1 x2 sr_fault
set_option maxHeartbeats 4000000 in
set_option maxRecDepth 100000 in
theorem L_X8_judge_0 {p : Program} {l : Launch} {e : Env} {s : State} {m : MethodId} {args : Array Value} {below : List Frame} {meth : Method} {c : Code} {A : Nat → Prop} {D : va_G} {cs : Nat → ClassId} {ad : Nat → Nat} {sr_spare : Value} {sr_at : Int32} {sr_numberAt : Int32} {R : Int32} (C0 : zC p s m args meth c cX8_judge 3 none RX8 zW) (hK : va_K D classes (zT cs) s) (hA : ∀ q : Nat, s.heap.size ≤ q → A q) (x1 : Int32) (x2 : Int32) (sr_fault : Int32) (h : B_X8_judge_0 sr_spare sr_at sr_numberAt x1 x2 sr_fault = some R) (H : Heap) (locs : List Loc) (ls : Array Slot) (hP : va_P D classes (wl_X8_judge ad cs sr_spare sr_at sr_numberAt sr_fault) H) (hD : va_D A (wl_X8_judge ad cs sr_spare sr_at sr_numberAt sr_fault)) (hS : va_S A s.heap H locs) (hl : lv_has ls 3 [(0, .ref (ad 25)), (1, .int x1), (2, .int x2)]) : W p l e rm_X8_judge s m args below meth c H locs 0 0 (MQ below (Q_X8_judge D cs ad sr_spare sr_at sr_numberAt A R) args s 0 0 A) (F0 m 0 ls []) := by
  obtain ⟨hx, hb, hr, hml, hown, ht, hlocks⟩ := id C0
  refine lv_iload_n hx hb dX8_judge_0 rfl (lv_at hl 1 rfl) ?_
  refine lv_if_ne (tgt := 16) hx hb dX8_judge_1 (by decide) (fun c_1 => ?_) (fun c_1 => ?_)
  · have h := zk_f c_1 h
    exact W.vret hx hb hr (fun t ht2 hW => ⟨⟨sr_fault, rfl, Option.some.inj h, by rw [ht2]; exact hP, hD⟩, hS.F ht2⟩) hS.2.2 dX8_judge_16 hlocks
  · have h := zk_t c_1 h
    refine lv_aload_n hx hb dX8_judge_4 rfl (lv_at hl 0 rfl) ?_
    refine va_get (D := D) (ci := 8) (v := .int sr_fault) (C := RX8) (T := TX8) (N := 5) hx hb ht iX8 hown hK hP 0 rfl rfl 4 (by decide) (ht _ kw_255) (fun _ h9 => h9) rfl dX8_judge_5 ?_
    refine lv_if_ge (tgt := 16) hx hb dX8_judge_8 (by decide) (fun c_2 => ?_) (fun c_2 => ?_)
    · have h := zk_t c_2 h
      exact W.vret hx hb hr (fun t ht2 hW => ⟨⟨sr_fault, rfl, Option.some.inj h, by rw [ht2]; exact hP, hD⟩, hS.F ht2⟩) hS.2.2 dX8_judge_16 hlocks
    · have h := zk_f c_2 h
      refine lv_aload_n hx hb dX8_judge_11 rfl (lv_at hl 0 rfl) ?_
      refine lv_iload_n hx hb dX8_judge_12 rfl (lv_at hl 2 rfl) ?_
      refine va_put (D := D) (ci := 8) (v := .int x2) (ty := .int) (C := RX8) (T := TX8) (N := 5) hx hb ht iX8 tyX8 tyX8_ok nmX8 hown hK hP hD hS 0 rfl rfl 4 (by decide) (ht _ kw_255) (fun _ h9 => h9) rfl (by decide +kernel) rfl rfl (Nat.le_of_ble_eq_true rfl) dX8_judge_13 (fun H locs hP hD hS => ?_)
      have hP : va_P D classes (wl_X8_judge ad cs sr_spare sr_at sr_numberAt x2) H := hP
      have hD : va_D A (wl_X8_judge ad cs sr_spare sr_at sr_numberAt x2) := hD
      exact W.vret hx hb hr (fun t ht2 hW => ⟨⟨x2, rfl, Option.some.inj h, by rw [ht2]; exact hP, hD⟩, hS.F ht2⟩) hS.2.2 dX8_judge_16 hlocks
set_option maxHeartbeats 4000000 in
set_option maxRecDepth 100000 in
theorem c_X8_judge (l : Launch) (D : va_G) (cs : Nat → ClassId) (ad : Nat → Nat) (sz : Nat) (x1 : Int32) (x2 : Int32) (sr_spare : Value) (sr_at : Int32) (sr_numberAt : Int32) (sr_fault : Int32) (R : Int32) (h : f_X8_judge   x1 x2 sr_spare sr_at sr_numberAt sr_fault = some R) : Met l yX8_judge (z_X8_judge) rm_X8_judge (va_Pc [.ref (ad 25), .int x1, .int x2] (zPre D cs (wl_X8_judge ad cs sr_spare sr_at sr_numberAt sr_fault) sz)) (Q_X8_judge D cs ad sr_spare sr_at sr_numberAt (va_A (wl_X8_judge ad cs sr_spare sr_at sr_numberAt sr_fault) sz) R) 0 0 (va_A (wl_X8_judge ad cs sr_spare sr_at sr_numberAt sr_fault) sz) := by
  refine Met.ofW (cc := cX8_judge) (maxL := 3) (ret := none) (by decide) rfl ?_
  intro p e s m args below meth c s₁ B hml hv
  obtain ⟨rfl, hsz, hP, hK, hD0⟩ := hv
  subst hsz
  have hD := hD0.self (sz := s.heap.size)
  have C0 : zC p s m _ meth c cX8_judge 3 none RX8 zW := ⟨B.exec, B.bytes, B.returns, hml, findClass_of_methodNamed B.named, fun w hw => atoms_spec (ws := z_X8_judge) B.pre w (List.mem_cons_of_mem _ hw), B.notSynchronized⟩
  have hA : ∀ q : Nat, s.heap.size ≤ q → va_A (wl_X8_judge ad cs sr_spare sr_at sr_numberAt sr_fault) s.heap.size q := fun q h => Or.inr h
  have hl := lv_entry ([.ref (ad 25), .int x1, .int x2]) (n := 3) (Nat.le_of_ble_eq_true rfl)
  rw [lg_entry_eq]
  generalize (lg_sl ([.ref (ad 25), .int x1, .int x2]) ++ List.replicate (3 - (lg_sl ([.ref (ad 25), .int x1, .int x2])).length) Slot.unset).toArray = ls at hl ⊢
  exact L_X8_judge_0 C0 hK hA   x1 x2 sr_fault h s.heap [] ls hP hD va_S.rf hl
theorem kw_79 : Cond.initialized RX8 ∈ zW := zwC (i := 5) zc_1 rfl rfl
theorem kw_251 : Cond.fieldLink RX8 9 "AlreadyJudged$SuitReader" "tape" "LAlreadyJudged$Tape;" ∈ zW := zwC (i := 177) zc_1 rfl rfl
theorem kw_253 : Cond.fieldLink RX8 15 "AlreadyJudged$SuitReader" "at" "I" ∈ zW := zwC (i := 179) zc_1 rfl rfl
theorem kw_254 : Cond.fieldLink RX8 69 "AlreadyJudged$SuitReader" "numberAt" "I" ∈ zW := zwC (i := 180) zc_1 rfl rfl
theorem kw_558 : Cond.instanceMethod yX9_isDigitAt ∈ zW := zwC (i := 4) zc_3 rfl rfl
theorem kw_559 : Cond.selects RX9 yX9_isDigitAt yX9_isDigitAt ∈ zW := zwC (i := 5) zc_3 rfl rfl
theorem kw_560 : Cond.code yX9_isDigitAt cX9_isDigitAt 3 (some .boolean) ∈ zW := zwC (i := 6) zc_3 rfl rfl
theorem kw_889 : Cond.methodLink RX8 122 yX9_isDigitAt ∈ zW := zwC (i := 95) zc_4 rfl rfl
theorem kw_890 : Cond.methodLink RX8 48 yX8_judge ∈ zW := zwC (i := 96) zc_4 rfl rfl
theorem kw_891 : Cond.instanceMethod yX8_judge ∈ zW := zwC (i := 97) zc_4 rfl rfl
theorem kw_892 : Cond.selects RX8 yX8_judge yX8_judge ∈ zW := zwC (i := 98) zc_4 rfl rfl
theorem kw_893 : Cond.code yX8_judge cX8_judge 3 none ∈ zW := zwC (i := 99) zc_4 rfl rfl
theorem kw_894 : Cond.methodLink RX8 125 yX9_byteAt ∈ zW := zwC (i := 100) zc_4 rfl rfl
theorem dX8_number_0 : decode cX8_number 0 = .ok (.aload_n 0, 1) := by decide +kernel
theorem dX8_number_1 : decode cX8_number 1 = .ok (.aload_n 0, 1) := by decide +kernel
theorem dX8_number_2 : decode cX8_number 2 = .ok (.getfield 15, 3) := by decide +kernel
theorem dX8_number_5 : decode cX8_number 5 = .ok (.putfield 69, 3) := by decide +kernel
theorem dX8_number_8 : decode cX8_number 8 = .ok (.aload_n 0, 1) := by decide +kernel
theorem dX8_number_9 : decode cX8_number 9 = .ok (.aload_n 0, 1) := by decide +kernel
theorem dX8_number_10 : decode cX8_number 10 = .ok (.getfield 9, 3) := by decide +kernel
theorem dX8_number_13 : decode cX8_number 13 = .ok (.aload_n 0, 1) := by decide +kernel
theorem dX8_number_14 : decode cX8_number 14 = .ok (.getfield 15, 3) := by decide +kernel
theorem dX8_number_17 : decode cX8_number 17 = .ok (.invokevirtual 122, 3) := by decide +kernel
theorem dX8_number_20 : decode cX8_number 20 = .ok (.aload_n 0, 1) := by decide +kernel
theorem dX8_number_21 : decode cX8_number 21 = .ok (.getfield 15, 3) := by decide +kernel
theorem dX8_number_24 : decode cX8_number 24 = .ok (.invokevirtual 48, 3) := by decide +kernel
theorem dX8_number_27 : decode cX8_number 27 = .ok (.iconst 0, 1) := by decide +kernel
theorem dX8_number_28 : decode cX8_number 28 = .ok (.istore_n 2, 1) := by decide +kernel
theorem dX8_number_29 : decode cX8_number 29 = .ok (.iconst 0, 1) := by decide +kernel
theorem dX8_number_30 : decode cX8_number 30 = .ok (.istore_n 3, 1) := by decide +kernel
theorem dX8_number_31 : decode cX8_number 31 = .ok (.iload_n 3, 1) := by decide +kernel
theorem dX8_number_32 : decode cX8_number 32 = .ok (.iload_n 1, 1) := by decide +kernel
theorem dX8_number_33 : decode cX8_number 33 = .ok (.if_icmp .ge 60, 3) := by decide +kernel
theorem dX8_number_36 : decode cX8_number 36 = .ok (.aload_n 0, 1) := by decide +kernel
theorem dX8_number_37 : decode cX8_number 37 = .ok (.getfield 19, 3) := by decide +kernel
theorem dX8_number_40 : decode cX8_number 40 = .ok (.ifCond .ge 53, 3) := by decide +kernel
theorem dX8_number_43 : decode cX8_number 43 = .ok (.aload_n 0, 1) := by decide +kernel
theorem dX8_number_44 : decode cX8_number 44 = .ok (.getfield 9, 3) := by decide +kernel
theorem dX8_number_47 : decode cX8_number 47 = .ok (.aload_n 0, 1) := by decide +kernel
theorem dX8_number_48 : decode cX8_number 48 = .ok (.getfield 15, 3) := by decide +kernel
theorem dX8_number_51 : decode cX8_number 51 = .ok (.invokevirtual 122, 3) := by decide +kernel
theorem dX8_number_54 : decode cX8_number 54 = .ok (.ifCond .eq 39, 3) := by decide +kernel
theorem dX8_number_57 : decode cX8_number 57 = .ok (.iload_n 2, 1) := by decide +kernel
theorem dX8_number_58 : decode cX8_number 58 = .ok (.bipush 10, 2) := by decide +kernel
theorem dX8_number_60 : decode cX8_number 60 = .ok (.imul, 1) := by decide +kernel
theorem dX8_number_61 : decode cX8_number 61 = .ok (.aload_n 0, 1) := by decide +kernel
theorem dX8_number_62 : decode cX8_number 62 = .ok (.getfield 9, 3) := by decide +kernel
theorem dX8_number_65 : decode cX8_number 65 = .ok (.aload_n 0, 1) := by decide +kernel
theorem dX8_number_66 : decode cX8_number 66 = .ok (.getfield 15, 3) := by decide +kernel
theorem dX8_number_69 : decode cX8_number 69 = .ok (.invokevirtual 125, 3) := by decide +kernel
theorem dX8_number_72 : decode cX8_number 72 = .ok (.iadd, 1) := by decide +kernel
theorem dX8_number_73 : decode cX8_number 73 = .ok (.bipush 48, 2) := by decide +kernel
theorem dX8_number_75 : decode cX8_number 75 = .ok (.isub, 1) := by decide +kernel
theorem dX8_number_76 : decode cX8_number 76 = .ok (.istore_n 2, 1) := by decide +kernel
theorem dX8_number_77 : decode cX8_number 77 = .ok (.aload_n 0, 1) := by decide +kernel
theorem dX8_number_78 : decode cX8_number 78 = .ok (.dup, 1) := by decide +kernel
theorem dX8_number_79 : decode cX8_number 79 = .ok (.getfield 15, 3) := by decide +kernel
theorem dX8_number_82 : decode cX8_number 82 = .ok (.iconst 1, 1) := by decide +kernel
theorem dX8_number_83 : decode cX8_number 83 = .ok (.iadd, 1) := by decide +kernel
theorem dX8_number_84 : decode cX8_number 84 = .ok (.putfield 15, 3) := by decide +kernel
theorem dX8_number_87 : decode cX8_number 87 = .ok (.iinc 3 1, 3) := by decide +kernel
theorem dX8_number_90 : decode cX8_number 90 = .ok (.goto (-59), 3) := by decide +kernel
theorem dX8_number_93 : decode cX8_number 93 = .ok (.iload_n 2, 1) := by decide +kernel
theorem dX8_number_94 : decode cX8_number 94 = .ok (.ireturn, 1) := by decide +kernel
abbrev z_X8_number : List Cond := .code yX8_number cX8_number 4 (some .int) :: zW
abbrev wl_X8_number (ad : Nat → Nat) (cs : Nat → ClassId)  (tape_size : Int32) (tape_bytes : Nat → Int32) (sr_spare : Value) (sr_at : Int32) (sr_numberAt : Int32) (sr_fault : Int32) : va_W := [((ad 23), .inr (9, [.ref (ad 24), .int tape_size])), ((ad 24), .inl (cs 0, 120, .inl tape_bytes)), ((ad 25), .inr (8, [.ref (ad 23), sr_spare, .int sr_at, .int sr_numberAt, .int sr_fault]))]
def Q_X8_number (D : va_G) (cs : Nat → ClassId) (ad : Nat → Nat)  (tape_size : Int32) (tape_bytes : Nat → Int32) (sr_spare : Value) (A : Nat → Prop) (R : Int32 × Int32 × Int32 × Int32) : Array Value → State → Outcome → State → Prop :=
  va_Qi (fun (r : Int32) (u : Int32 × Int32 × Int32) => (r, u) = R) (fun (u : Int32 × Int32 × Int32) (t : State) => va_P D classes (wl_X8_number ad cs tape_size tape_bytes sr_spare u.1 u.2.1 u.2.2) t.heap ∧ va_D A (wl_X8_number ad cs tape_size tape_bytes sr_spare u.1 u.2.1 u.2.2)) A
abbrev rm_X8_number : Room := { frames := 2, cells := 0, slots := 0, locals := 43 }
theorem g_X8_122 : GoodIn zW (wsV RX8 122 RX9 yX9_isDigitAt z_X9_isDigitAt) := zGV kw_889 kw_558 kw_559 kw_78 kw_560
theorem g_X8_125 : GoodIn zW (wsV RX8 125 RX9 yX9_byteAt z_X9_byteAt) := zGV kw_894 kw_554 kw_555 kw_78 kw_556
theorem g_X8_48 : GoodIn zW (wsV RX8 48 RX8 yX8_judge z_X8_judge) := zGV kw_890 kw_891 kw_892 kw_79 kw_893
theorem hd_X8_judge : yX8_judge.cls ≠ "java/lang/invoke/MethodHandle" ∧ yX8_judge.cls ≠ "java/lang/invoke/VarHandle" ∧ (parseMethodDescriptor yX8_judge.desc).map (fun d => d.parameters.length) = some 2 := by decide +kernel
theorem hd_X9_isDigitAt : yX9_isDigitAt.cls ≠ "java/lang/invoke/MethodHandle" ∧ yX9_isDigitAt.cls ≠ "java/lang/invoke/VarHandle" ∧ (parseMethodDescriptor yX9_isDigitAt.desc).map (fun d => d.parameters.length) = some 1 := by decide +kernel
def B_X8_number_31   (g31 : Int32 → Int32 → Int32 → Int32 → Int32 → Int32 → (Option (Int32 × Int32 × Int32 × Int32))) (tape_size : Int32) (tape_bytes : Nat → Int32) (sr_spare : Value) (x1 : Int32) (x2 : Int32) (x3 : Int32) (sr_at : Int32) (sr_numberAt : Int32) (sr_fault : Int32) : Option (Int32 × Int32 × Int32 × Int32) :=
  (if x1 ≤ x3 then (some (x2, sr_at, sr_numberAt, sr_fault)) else (if 0 ≤ sr_fault then (some (x2, sr_at, sr_numberAt, sr_fault)) else (zk_b2 (f_X9_isDigitAt sr_at tape_size tape_bytes) (fun r_8 u_9 => (if r_8 = 0 then (some (x2, sr_at, sr_numberAt, sr_fault)) else (zk_b2 (f_X9_byteAt sr_at tape_size tape_bytes) (fun r_12 u_13 => (zk_let (((x2 * (10 : Int32)) + r_12) - (48 : Int32)) (fun v_15 => (zk_let (sr_at + (1 : Int32)) (fun v_16 => (zk_let (x3 + (1 : Int32)) (fun v_17 => (g31 x1 v_15 v_17 v_16 sr_numberAt sr_fault))))))))))))))
def B_X8_number_0   (g31 : Int32 → Int32 → Int32 → Int32 → Int32 → Int32 → (Option (Int32 × Int32 × Int32 × Int32))) (tape_size : Int32) (tape_bytes : Nat → Int32) (sr_spare : Value) (x1 : Int32) (sr_at : Int32) (sr_numberAt : Int32) (sr_fault : Int32) : Option (Int32 × Int32 × Int32 × Int32) :=
  (zk_b2 (f_X9_isDigitAt sr_at tape_size tape_bytes) (fun r_1 u_2 => (zk_b1 (f_X8_judge r_1 sr_at sr_spare sr_at sr_at sr_fault) (fun u_4 => (g31 x1 (0 : Int32) (0 : Int32) sr_at sr_at u_4)))))
def G_X8_number   (tape_size : Int32) (tape_bytes : Nat → Int32) (sr_spare : Value) (n : Nat) : (Int32 → Int32 → Int32 → Int32 → Int32 → Int32 → (Option (Int32 × Int32 × Int32 × Int32))) :=
  Nat.rec (motive := fun _ => (Int32 → Int32 → Int32 → Int32 → Int32 → Int32 → (Option (Int32 × Int32 × Int32 × Int32)))) ((fun _ _ _ _ _ _ => none)) (fun _ ih => (B_X8_number_31   ih tape_size tape_bytes sr_spare)) n
def f_X8_number   (n : Nat) (x1 : Int32) (tape_size : Int32) (tape_bytes : Nat → Int32) (sr_spare : Value) (sr_at : Int32) (sr_numberAt : Int32) (sr_fault : Int32) : Option (Int32 × Int32 × Int32 × Int32) := B_X8_number_0   ((G_X8_number   tape_size tape_bytes sr_spare n)) tape_size tape_bytes sr_spare x1 sr_at sr_numberAt sr_fault
set_option maxHeartbeats 4000000 in
set_option maxRecDepth 100000 in
theorem L_X8_number_31 {p : Program} {l : Launch} {e : Env} {s : State} {m : MethodId} {args : Array Value} {below : List Frame} {meth : Method} {c : Code} {A : Nat → Prop} {D : va_G} {cs : Nat → ClassId} {ad : Nat → Nat} {tape_size : Int32} {tape_bytes : Nat → Int32} {sr_spare : Value} {R : Int32 × Int32 × Int32 × Int32} {g31 : Int32 → Int32 → Int32 → Int32 → Int32 → Int32 → (Option (Int32 × Int32 × Int32 × Int32))} (C0 : zC p s m args meth c cX8_number 4 (some .int) RX8 zW) (hK : va_K D classes (zT cs) s) (hA : ∀ q : Nat, s.heap.size ≤ q → A q) (ih31 : ∀ (x1 : Int32) (x2 : Int32) (x3 : Int32) (sr_at : Int32) (sr_numberAt : Int32) (sr_fault : Int32) (h : g31 x1 x2 x3 sr_at sr_numberAt sr_fault = some R) (H : Heap) (locs : List Loc) (ls : Array Slot) (hP : va_P D classes (wl_X8_number ad cs tape_size tape_bytes sr_spare sr_at sr_numberAt sr_fault) H) (hD : va_D A (wl_X8_number ad cs tape_size tape_bytes sr_spare sr_at sr_numberAt sr_fault)) (hS : va_S A s.heap H locs) (hl : lv_has ls 4 [(0, .ref (ad 25)), (1, .int x1), (2, .int x2), (3, .int x3)]), W p l e rm_X8_number s m args below meth c H locs 0 0 (MQ below (Q_X8_number D cs ad tape_size tape_bytes sr_spare A R) args s 0 0 A) (F0 m 31 ls [])) (x1 : Int32) (x2 : Int32) (x3 : Int32) (sr_at : Int32) (sr_numberAt : Int32) (sr_fault : Int32) (h : B_X8_number_31 g31 tape_size tape_bytes sr_spare x1 x2 x3 sr_at sr_numberAt sr_fault = some R) (H : Heap) (locs : List Loc) (ls : Array Slot) (hP : va_P D classes (wl_X8_number ad cs tape_size tape_bytes sr_spare sr_at sr_numberAt sr_fault) H) (hD : va_D A (wl_X8_number ad cs tape_size tape_bytes sr_spare sr_at sr_numberAt sr_fault)) (hS : va_S A s.heap H locs) (hl : lv_has ls 4 [(0, .ref (ad 25)), (1, .int x1), (2, .int x2), (3, .int x3)]) : W p l e rm_X8_number s m args below meth c H locs 0 0 (MQ below (Q_X8_number D cs ad tape_size tape_bytes sr_spare A R) args s 0 0 A) (F0 m 31 ls []) := by
  obtain ⟨hx, hb, hr, hml, hown, ht, hlocks⟩ := id C0
  refine lv_iload_n hx hb dX8_number_31 rfl (lv_at hl 3 rfl) ?_
  refine lv_iload_n hx hb dX8_number_32 rfl (lv_at hl 1 rfl) ?_
  refine lv_icmp_ge (tgt := 93) hx hb dX8_number_33 (by decide) (fun c_6 => ?_) (fun c_6 => ?_)
  · have h := zk_t c_6 h
    refine lv_iload_n hx hb dX8_number_93 rfl (lv_at hl 2 rfl) ?_
    exact W.iret (v := x2) hx hb hr (fun t ht2 hW => ⟨⟨x2, (sr_at, sr_numberAt, sr_fault), rfl, Option.some.inj h, by rw [ht2]; exact hP, hD⟩, hS.F ht2⟩) hS.2.2 dX8_number_94 hlocks
  · have h := zk_f c_6 h
    refine lv_aload_n hx hb dX8_number_36 rfl (lv_at hl 0 rfl) ?_
    refine va_get (D := D) (ci := 8) (v := .int sr_fault) (C := RX8) (T := TX8) (N := 5) hx hb ht iX8 hown hK hP 2 rfl rfl 4 (by decide) (ht _ kw_255) (fun _ h9 => h9) rfl dX8_number_37 ?_
    refine lv_if_ge (tgt := 93) hx hb dX8_number_40 (by decide) (fun c_7 => ?_) (fun c_7 => ?_)
    · have h := zk_t c_7 h
      refine lv_iload_n hx hb dX8_number_93 rfl (lv_at hl 2 rfl) ?_
      exact W.iret (v := x2) hx hb hr (fun t ht2 hW => ⟨⟨x2, (sr_at, sr_numberAt, sr_fault), rfl, Option.some.inj h, by rw [ht2]; exact hP, hD⟩, hS.F ht2⟩) hS.2.2 dX8_number_94 hlocks
    · have h := zk_f c_7 h
      refine lv_aload_n hx hb dX8_number_43 rfl (lv_at hl 0 rfl) ?_
      refine va_get (D := D) (ci := 8) (v := .ref (ad 23)) (C := RX8) (T := TX8) (N := 5) hx hb ht iX8 hown hK hP 2 rfl rfl 0 (by decide) (ht _ kw_251) (fun _ h9 => h9) rfl dX8_number_44 ?_
      refine lv_aload_n hx hb dX8_number_47 rfl (lv_at hl 0 rfl) ?_
      refine va_get (D := D) (ci := 8) (v := .int sr_at) (C := RX8) (T := TX8) (N := 5) hx hb ht iX8 hown hK hP 2 rfl rfl 2 (by decide) (ht _ kw_253) (fun _ h9 => h9) rfl dX8_number_48 ?_
      obtain ⟨r_8, u_9, hc_10, h⟩ := zk_o2 h
      refine zz_vi (post := (fun r u => (r, u) = (r_8, u_9))) (w1 := fun u => (wl_X9_isDigitAt ad cs tape_size tape_bytes)) (As := [.int sr_at]) (rest := []) (c_X9_isDigitAt l D cs ad  H.size sr_at tape_size tape_bytes (r_8, u_9) hc_10) ⟨hx, hb, hml, hown, ht⟩ (cwV 1 ht g_X8_122 rfl rfl rfl ⟨rfl, hd_X9_isDigitAt⟩ ⟨Nat.le_of_ble_eq_true rfl, Nat.le_of_ble_eq_true rfl⟩) (va_recv hK hP (ci := 9) (q0 := 0) rfl rfl) hP hD hS hK hA [0, 1] rfl rfl [(ad 23), (ad 24)] rfl (fun _ => rfl) rfl hl.1 (Nat.le_of_ble_eq_true rfl) dX8_number_51 ⟨Nat.zero_le _, Nat.zero_le _⟩ (fun r u H locs hq hP hS => ?_)
      cases hq
      have hP : va_P D classes (wl_X8_number ad cs tape_size tape_bytes sr_spare sr_at sr_numberAt sr_fault) H := hP
      have hD : va_D A (wl_X8_number ad cs tape_size tape_bytes sr_spare sr_at sr_numberAt sr_fault) := zDk hD [(ad 23), (ad 24), (ad 25)] rfl rfl
      refine lv_if_eq (tgt := 93) hx hb dX8_number_54 (by decide) (fun c_11 => ?_) (fun c_11 => ?_)
      · have h := zk_t c_11 h
        refine lv_iload_n hx hb dX8_number_93 rfl (lv_at hl 2 rfl) ?_
        exact W.iret (v := x2) hx hb hr (fun t ht2 hW => ⟨⟨x2, (sr_at, sr_numberAt, sr_fault), rfl, Option.some.inj h, by rw [ht2]; exact hP, hD⟩, hS.F ht2⟩) hS.2.2 dX8_number_94 hlocks
      · have h := zk_f c_11 h
        refine lv_iload_n hx hb dX8_number_57 rfl (lv_at hl 2 rfl) ?_
        refine lv_bipush (v := (10 : Int32)) hx hb dX8_number_58 (by decide) ?_
        refine lv_imul hx hb dX8_number_60 ?_
        refine lv_aload_n hx hb dX8_number_61 rfl (lv_at hl 0 rfl) ?_
        refine va_get (D := D) (ci := 8) (v := .ref (ad 23)) (C := RX8) (T := TX8) (N := 5) hx hb ht iX8 hown hK hP 2 rfl rfl 0 (by decide) (ht _ kw_251) (fun _ h9 => h9) rfl dX8_number_62 ?_
        refine lv_aload_n hx hb dX8_number_65 rfl (lv_at hl 0 rfl) ?_
        refine va_get (D := D) (ci := 8) (v := .int sr_at) (C := RX8) (T := TX8) (N := 5) hx hb ht iX8 hown hK hP 2 rfl rfl 2 (by decide) (ht _ kw_253) (fun _ h9 => h9) rfl dX8_number_66 ?_
        obtain ⟨r_12, u_13, hc_14, h⟩ := zk_o2 h
        refine zz_vi (post := (fun r u => (r, u) = (r_12, u_13))) (w1 := fun u => (wl_X9_byteAt ad cs tape_size tape_bytes)) (As := [.int sr_at]) (rest := [.int (x2 * (10 : Int32))]) (c_X9_byteAt l D cs ad  H.size sr_at tape_size tape_bytes (r_12, u_13) hc_14) ⟨hx, hb, hml, hown, ht⟩ (cwV 1 ht g_X8_125 rfl rfl rfl ⟨rfl, hd_X9_byteAt⟩ ⟨Nat.le_of_ble_eq_true rfl, Nat.le_of_ble_eq_true rfl⟩) (va_recv hK hP (ci := 9) (q0 := 0) rfl rfl) hP hD hS hK hA [0, 1] rfl rfl [(ad 23), (ad 24)] rfl (fun _ => rfl) rfl hl.1 (Nat.le_of_ble_eq_true rfl) dX8_number_69 ⟨Nat.zero_le _, Nat.zero_le _⟩ (fun r u H locs hq hP hS => ?_)
        cases hq
        have hP : va_P D classes (wl_X8_number ad cs tape_size tape_bytes sr_spare sr_at sr_numberAt sr_fault) H := hP
        have hD : va_D A (wl_X8_number ad cs tape_size tape_bytes sr_spare sr_at sr_numberAt sr_fault) := zDk hD [(ad 23), (ad 24), (ad 25)] rfl rfl
        refine lv_iadd hx hb dX8_number_72 ?_
        refine lv_bipush (v := (48 : Int32)) hx hb dX8_number_73 (by decide) ?_
        refine lv_isub hx hb dX8_number_75 ?_
        obtain ⟨v_15, ev_15, h⟩ := zk_lt h
        refine W.eq (g2 := F0 m 76 ls [.int v_15]) (by rw [ev_15]) ?_
        refine lv_istore_n (lv' := [(2, .int v_15), (0, .ref (ad 25)), (1, .int x1), (3, .int x3)]) hx hb dX8_number_76 rfl hl (by decide) rfl (fun ls hl => ?_)
        refine lv_aload_n hx hb dX8_number_77 rfl (lv_at hl 1 rfl) ?_
        refine lv_dup hx hb dX8_number_78 rfl ?_
        refine va_get (D := D) (ci := 8) (v := .int sr_at) (C := RX8) (T := TX8) (N := 5) hx hb ht iX8 hown hK hP 2 rfl rfl 2 (by decide) (ht _ kw_253) (fun _ h9 => h9) rfl dX8_number_79 ?_
        refine lv_iconst (v := (1 : Int32)) hx hb dX8_number_82 (by decide) ?_
        refine lv_iadd hx hb dX8_number_83 ?_
        obtain ⟨v_16, ev_16, h⟩ := zk_lt h
        refine W.eq (g2 := F0 m 84 ls [.int v_16, .ref (ad 25)]) (by rw [ev_16]) ?_
        refine va_put (D := D) (ci := 8) (v := .int v_16) (ty := .int) (C := RX8) (T := TX8) (N := 5) hx hb ht iX8 tyX8 tyX8_ok nmX8 hown hK hP hD hS 2 rfl rfl 2 (by decide) (ht _ kw_253) (fun _ h9 => h9) rfl (by decide +kernel) rfl rfl (Nat.le_of_ble_eq_true rfl) dX8_number_84 (fun H locs hP hD hS => ?_)
        have hP : va_P D classes (wl_X8_number ad cs tape_size tape_bytes sr_spare v_16 sr_numberAt sr_fault) H := hP
        have hD : va_D A (wl_X8_number ad cs tape_size tape_bytes sr_spare v_16 sr_numberAt sr_fault) := hD
        obtain ⟨v_17, ev_17, h⟩ := zk_lt h
        refine lv_iinc (v := v_17) (lv' := [(3, .int v_17), (2, .int v_15), (0, .ref (ad 25)), (1, .int x1)]) hx hb dX8_number_87 hl (k := 3) rfl (by rw [ev_17]; rfl) (by decide) rfl (fun ls hl => ?_)
        refine lv_goto (tgt := 31) hx hb dX8_number_90 (by decide) ?_
        exact ih31 x1 v_15 v_17 v_16 sr_numberAt sr_fault h H locs ls hP hD hS (lv_sub hl [2, 3, 1, 0] rfl)
set_option maxHeartbeats 4000000 in
set_option maxRecDepth 100000 in
theorem L_X8_number_0 {p : Program} {l : Launch} {e : Env} {s : State} {m : MethodId} {args : Array Value} {below : List Frame} {meth : Method} {c : Code} {A : Nat → Prop} {D : va_G} {cs : Nat → ClassId} {ad : Nat → Nat} {tape_size : Int32} {tape_bytes : Nat → Int32} {sr_spare : Value} {R : Int32 × Int32 × Int32 × Int32} {g31 : Int32 → Int32 → Int32 → Int32 → Int32 → Int32 → (Option (Int32 × Int32 × Int32 × Int32))} (C0 : zC p s m args meth c cX8_number 4 (some .int) RX8 zW) (hK : va_K D classes (zT cs) s) (hA : ∀ q : Nat, s.heap.size ≤ q → A q) (ih31 : ∀ (x1 : Int32) (x2 : Int32) (x3 : Int32) (sr_at : Int32) (sr_numberAt : Int32) (sr_fault : Int32) (h : g31 x1 x2 x3 sr_at sr_numberAt sr_fault = some R) (H : Heap) (locs : List Loc) (ls : Array Slot) (hP : va_P D classes (wl_X8_number ad cs tape_size tape_bytes sr_spare sr_at sr_numberAt sr_fault) H) (hD : va_D A (wl_X8_number ad cs tape_size tape_bytes sr_spare sr_at sr_numberAt sr_fault)) (hS : va_S A s.heap H locs) (hl : lv_has ls 4 [(0, .ref (ad 25)), (1, .int x1), (2, .int x2), (3, .int x3)]), W p l e rm_X8_number s m args below meth c H locs 0 0 (MQ below (Q_X8_number D cs ad tape_size tape_bytes sr_spare A R) args s 0 0 A) (F0 m 31 ls [])) (x1 : Int32) (sr_at : Int32) (sr_numberAt : Int32) (sr_fault : Int32) (h : B_X8_number_0 g31 tape_size tape_bytes sr_spare x1 sr_at sr_numberAt sr_fault = some R) (H : Heap) (locs : List Loc) (ls : Array Slot) (hP : va_P D classes (wl_X8_number ad cs tape_size tape_bytes sr_spare sr_at sr_numberAt sr_fault) H) (hD : va_D A (wl_X8_number ad cs tape_size tape_bytes sr_spare sr_at sr_numberAt sr_fault)) (hS : va_S A s.heap H locs) (hl : lv_has ls 4 [(0, .ref (ad 25)), (1, .int x1)]) : W p l e rm_X8_number s m args below meth c H locs 0 0 (MQ below (Q_X8_number D cs ad tape_size tape_bytes sr_spare A R) args s 0 0 A) (F0 m 0 ls []) := by
  obtain ⟨hx, hb, hr, hml, hown, ht, hlocks⟩ := id C0
  refine lv_aload_n hx hb dX8_number_0 rfl (lv_at hl 0 rfl) ?_
  refine lv_aload_n hx hb dX8_number_1 rfl (lv_at hl 0 rfl) ?_
  refine va_get (D := D) (ci := 8) (v := .int sr_at) (C := RX8) (T := TX8) (N := 5) hx hb ht iX8 hown hK hP 2 rfl rfl 2 (by decide) (ht _ kw_253) (fun _ h9 => h9) rfl dX8_number_2 ?_
  refine va_put (D := D) (ci := 8) (v := .int sr_at) (ty := .int) (C := RX8) (T := TX8) (N := 5) hx hb ht iX8 tyX8 tyX8_ok nmX8 hown hK hP hD hS 2 rfl rfl 3 (by decide) (ht _ kw_254) (fun _ h9 => h9) rfl (by decide +kernel) rfl rfl (Nat.le_of_ble_eq_true rfl) dX8_number_5 (fun H locs hP hD hS => ?_)
  have hP : va_P D classes (wl_X8_number ad cs tape_size tape_bytes sr_spare sr_at sr_at sr_fault) H := hP
  have hD : va_D A (wl_X8_number ad cs tape_size tape_bytes sr_spare sr_at sr_at sr_fault) := hD
  refine lv_aload_n hx hb dX8_number_8 rfl (lv_at hl 0 rfl) ?_
  refine lv_aload_n hx hb dX8_number_9 rfl (lv_at hl 0 rfl) ?_
  refine va_get (D := D) (ci := 8) (v := .ref (ad 23)) (C := RX8) (T := TX8) (N := 5) hx hb ht iX8 hown hK hP 2 rfl rfl 0 (by decide) (ht _ kw_251) (fun _ h9 => h9) rfl dX8_number_10 ?_
  refine lv_aload_n hx hb dX8_number_13 rfl (lv_at hl 0 rfl) ?_
  refine va_get (D := D) (ci := 8) (v := .int sr_at) (C := RX8) (T := TX8) (N := 5) hx hb ht iX8 hown hK hP 2 rfl rfl 2 (by decide) (ht _ kw_253) (fun _ h9 => h9) rfl dX8_number_14 ?_
  obtain ⟨r_1, u_2, hc_3, h⟩ := zk_o2 h
  refine zz_vi (post := (fun r u => (r, u) = (r_1, u_2))) (w1 := fun u => (wl_X9_isDigitAt ad cs tape_size tape_bytes)) (As := [.int sr_at]) (rest := [.ref (ad 25)]) (c_X9_isDigitAt l D cs ad  H.size sr_at tape_size tape_bytes (r_1, u_2) hc_3) ⟨hx, hb, hml, hown, ht⟩ (cwV 1 ht g_X8_122 rfl rfl rfl ⟨rfl, hd_X9_isDigitAt⟩ ⟨Nat.le_of_ble_eq_true rfl, Nat.le_of_ble_eq_true rfl⟩) (va_recv hK hP (ci := 9) (q0 := 0) rfl rfl) hP hD hS hK hA [0, 1] rfl rfl [(ad 23), (ad 24)] rfl (fun _ => rfl) rfl hl.1 (Nat.le_of_ble_eq_true rfl) dX8_number_17 ⟨Nat.zero_le _, Nat.zero_le _⟩ (fun r u H locs hq hP hS => ?_)
  cases hq
  have hP : va_P D classes (wl_X8_number ad cs tape_size tape_bytes sr_spare sr_at sr_at sr_fault) H := hP
  have hD : va_D A (wl_X8_number ad cs tape_size tape_bytes sr_spare sr_at sr_at sr_fault) := zDk hD [(ad 23), (ad 24), (ad 25)] rfl rfl
  refine lv_aload_n hx hb dX8_number_20 rfl (lv_at hl 0 rfl) ?_
  refine va_get (D := D) (ci := 8) (v := .int sr_at) (C := RX8) (T := TX8) (N := 5) hx hb ht iX8 hown hK hP 2 rfl rfl 2 (by decide) (ht _ kw_253) (fun _ h9 => h9) rfl dX8_number_21 ?_
  obtain ⟨u_4, hc_5, h⟩ := zk_o1 h
  refine zz_vv (post := (fun u => u = u_4)) (w1 := fun u => (wl_X8_judge ad cs sr_spare sr_at sr_at u)) (As := [.int r_1, .int sr_at]) (rest := []) (c_X8_judge l D cs ad  H.size r_1 sr_at sr_spare sr_at sr_at sr_fault u_4 hc_5) ⟨hx, hb, hml, hown, ht⟩ (cwV 2 ht g_X8_48 rfl rfl rfl ⟨rfl, hd_X8_judge⟩ ⟨Nat.le_of_ble_eq_true rfl, Nat.le_of_ble_eq_true rfl⟩) (va_recv hK hP (ci := 8) (q0 := 2) rfl rfl) hP hD hS hK hA [2] rfl rfl [(ad 25)] rfl (fun _ => rfl) rfl hl.1 (Nat.le_of_ble_eq_true rfl) dX8_number_24 ⟨Nat.zero_le _, Nat.zero_le _⟩ (fun u H locs hq hP hS => ?_)
  cases hq
  have hP : va_P D classes (wl_X8_number ad cs tape_size tape_bytes sr_spare sr_at sr_at u_4) H := hP
  have hD : va_D A (wl_X8_number ad cs tape_size tape_bytes sr_spare sr_at sr_at u_4) := zDk hD [(ad 23), (ad 24), (ad 25)] rfl rfl
  refine lv_iconst (v := (0 : Int32)) hx hb dX8_number_27 (by decide) ?_
  refine lv_istore_n (lv' := [(2, .int (0 : Int32)), (0, .ref (ad 25)), (1, .int x1)]) hx hb dX8_number_28 rfl hl (by decide) rfl (fun ls hl => ?_)
  refine lv_iconst (v := (0 : Int32)) hx hb dX8_number_29 (by decide) ?_
  refine lv_istore_n (lv' := [(3, .int (0 : Int32)), (2, .int (0 : Int32)), (0, .ref (ad 25)), (1, .int x1)]) hx hb dX8_number_30 rfl hl (by decide) rfl (fun ls hl => ?_)
  exact ih31 x1 (0 : Int32) (0 : Int32) sr_at sr_at u_4 h H locs ls hP hD hS (lv_sub hl [2, 3, 1, 0] rfl)
theorem LG_X8_number {p : Program} {l : Launch} {e : Env} {s : State} {m : MethodId} {args : Array Value} {below : List Frame} {meth : Method} {c : Code} {A : Nat → Prop} {D : va_G} {cs : Nat → ClassId} {ad : Nat → Nat} {tape_size : Int32} {tape_bytes : Nat → Int32} {sr_spare : Value} {R : Int32 × Int32 × Int32 × Int32} (C0 : zC p s m args meth c cX8_number 4 (some .int) RX8 zW) (hK : va_K D classes (zT cs) s) (hA : ∀ q : Nat, s.heap.size ≤ q → A q) : ∀ n : Nat, (∀ (x1 : Int32) (x2 : Int32) (x3 : Int32) (sr_at : Int32) (sr_numberAt : Int32) (sr_fault : Int32) (h : (G_X8_number   tape_size tape_bytes sr_spare n) x1 x2 x3 sr_at sr_numberAt sr_fault = some R) (H : Heap) (locs : List Loc) (ls : Array Slot) (hP : va_P D classes (wl_X8_number ad cs tape_size tape_bytes sr_spare sr_at sr_numberAt sr_fault) H) (hD : va_D A (wl_X8_number ad cs tape_size tape_bytes sr_spare sr_at sr_numberAt sr_fault)) (hS : va_S A s.heap H locs) (hl : lv_has ls 4 [(0, .ref (ad 25)), (1, .int x1), (2, .int x2), (3, .int x3)]), W p l e rm_X8_number s m args below meth c H locs 0 0 (MQ below (Q_X8_number D cs ad tape_size tape_bytes sr_spare A R) args s 0 0 A) (F0 m 31 ls [])) := by
  intro n
  induction n with
  | zero =>
    refine ?_ <;> (intros; rename_i h _ _ _ _ _ _ _; cases h)
  | succ n ih =>
    exact L_X8_number_31 C0 hK hA  ih
set_option maxHeartbeats 4000000 in
set_option maxRecDepth 100000 in
theorem c_X8_number (l : Launch) (D : va_G) (cs : Nat → ClassId) (ad : Nat → Nat) (sz : Nat) (n : Nat) (x1 : Int32) (tape_size : Int32) (tape_bytes : Nat → Int32) (sr_spare : Value) (sr_at : Int32) (sr_numberAt : Int32) (sr_fault : Int32) (R : Int32 × Int32 × Int32 × Int32) (h : f_X8_number   n x1 tape_size tape_bytes sr_spare sr_at sr_numberAt sr_fault = some R) : Met l yX8_number (z_X8_number) rm_X8_number (va_Pc [.ref (ad 25), .int x1] (zPre D cs (wl_X8_number ad cs tape_size tape_bytes sr_spare sr_at sr_numberAt sr_fault) sz)) (Q_X8_number D cs ad tape_size tape_bytes sr_spare (va_A (wl_X8_number ad cs tape_size tape_bytes sr_spare sr_at sr_numberAt sr_fault) sz) R) 0 0 (va_A (wl_X8_number ad cs tape_size tape_bytes sr_spare sr_at sr_numberAt sr_fault) sz) := by
  refine Met.ofW (cc := cX8_number) (maxL := 4) (ret := (some .int)) (by decide) rfl ?_
  intro p e s m args below meth c s₁ B hml hv
  obtain ⟨rfl, hsz, hP, hK, hD0⟩ := hv
  subst hsz
  have hD := hD0.self (sz := s.heap.size)
  have C0 : zC p s m _ meth c cX8_number 4 (some .int) RX8 zW := ⟨B.exec, B.bytes, B.returns, hml, findClass_of_methodNamed B.named, fun w hw => atoms_spec (ws := z_X8_number) B.pre w (List.mem_cons_of_mem _ hw), B.notSynchronized⟩
  have hA : ∀ q : Nat, s.heap.size ≤ q → va_A (wl_X8_number ad cs tape_size tape_bytes sr_spare sr_at sr_numberAt sr_fault) s.heap.size q := fun q h => Or.inr h
  have hl := lv_entry ([.ref (ad 25), .int x1]) (n := 4) (Nat.le_of_ble_eq_true rfl)
  rw [lg_entry_eq]
  generalize (lg_sl ([.ref (ad 25), .int x1]) ++ List.replicate (4 - (lg_sl ([.ref (ad 25), .int x1])).length) Slot.unset).toArray = ls at hl ⊢
  exact L_X8_number_0 C0 hK hA  ((LG_X8_number C0 hK hA  n)) x1 sr_at sr_numberAt sr_fault h s.heap [] ls hP hD va_S.rf hl
theorem dX8_accept_0 : decode cX8_accept 0 = .ok (.aload_n 0, 1) := by decide +kernel
theorem dX8_accept_1 : decode cX8_accept 1 = .ok (.getfield 19, 3) := by decide +kernel
theorem dX8_accept_4 : decode cX8_accept 4 = .ok (.ifCond .ge 18, 3) := by decide +kernel
theorem dX8_accept_7 : decode cX8_accept 7 = .ok (.aload_n 0, 1) := by decide +kernel
theorem dX8_accept_8 : decode cX8_accept 8 = .ok (.getfield 9, 3) := by decide +kernel
theorem dX8_accept_11 : decode cX8_accept 11 = .ok (.aload_n 0, 1) := by decide +kernel
theorem dX8_accept_12 : decode cX8_accept 12 = .ok (.getfield 15, 3) := by decide +kernel
theorem dX8_accept_15 : decode cX8_accept 15 = .ok (.invokevirtual 125, 3) := by decide +kernel
theorem dX8_accept_18 : decode cX8_accept 18 = .ok (.iload_n 1, 1) := by decide +kernel
theorem dX8_accept_19 : decode cX8_accept 19 = .ok (.if_icmp .eq 5, 3) := by decide +kernel
theorem dX8_accept_22 : decode cX8_accept 22 = .ok (.iconst 0, 1) := by decide +kernel
theorem dX8_accept_23 : decode cX8_accept 23 = .ok (.ireturn, 1) := by decide +kernel
theorem dX8_accept_24 : decode cX8_accept 24 = .ok (.aload_n 0, 1) := by decide +kernel
theorem dX8_accept_25 : decode cX8_accept 25 = .ok (.dup, 1) := by decide +kernel
theorem dX8_accept_26 : decode cX8_accept 26 = .ok (.getfield 15, 3) := by decide +kernel
theorem dX8_accept_29 : decode cX8_accept 29 = .ok (.iconst 1, 1) := by decide +kernel
theorem dX8_accept_30 : decode cX8_accept 30 = .ok (.iadd, 1) := by decide +kernel
theorem dX8_accept_31 : decode cX8_accept 31 = .ok (.putfield 15, 3) := by decide +kernel
theorem dX8_accept_34 : decode cX8_accept 34 = .ok (.iconst 1, 1) := by decide +kernel
theorem dX8_accept_35 : decode cX8_accept 35 = .ok (.ireturn, 1) := by decide +kernel
abbrev z_X8_accept : List Cond := .code yX8_accept cX8_accept 2 (some .boolean) :: zW
abbrev wl_X8_accept (ad : Nat → Nat) (cs : Nat → ClassId)  (tape_size : Int32) (tape_bytes : Nat → Int32) (sr_spare : Value) (sr_at : Int32) (sr_numberAt : Int32) (sr_fault : Int32) : va_W := [((ad 23), .inr (9, [.ref (ad 24), .int tape_size])), ((ad 24), .inl (cs 0, 120, .inl tape_bytes)), ((ad 25), .inr (8, [.ref (ad 23), sr_spare, .int sr_at, .int sr_numberAt, .int sr_fault]))]
def Q_X8_accept (D : va_G) (cs : Nat → ClassId) (ad : Nat → Nat)  (tape_size : Int32) (tape_bytes : Nat → Int32) (sr_spare : Value) (sr_numberAt : Int32) (sr_fault : Int32) (A : Nat → Prop) (R : Int32 × Int32) : Array Value → State → Outcome → State → Prop :=
  va_Qi (fun (r : Int32) (u : Int32) => (r, u) = R) (fun (u : Int32) (t : State) => va_P D classes (wl_X8_accept ad cs tape_size tape_bytes sr_spare u sr_numberAt sr_fault) t.heap ∧ va_D A (wl_X8_accept ad cs tape_size tape_bytes sr_spare u sr_numberAt sr_fault)) A
abbrev rm_X8_accept : Room := { frames := 1, cells := 0, slots := 0, locals := 21 }
def B_X8_accept_0    (tape_size : Int32) (tape_bytes : Nat → Int32) (sr_spare : Value) (sr_numberAt : Int32) (sr_fault : Int32) (x1 : Int32) (sr_at : Int32) : Option (Int32 × Int32) :=
  (if 0 ≤ sr_fault then (some ((0 : Int32), sr_at)) else (zk_b2 (f_X9_byteAt sr_at tape_size tape_bytes) (fun r_2 u_3 => (if r_2 = x1 then (zk_let (sr_at + (1 : Int32)) (fun v_6 => (some ((1 : Int32), v_6)))) else (some ((0 : Int32), sr_at))))))
def f_X8_accept   (x1 : Int32) (tape_size : Int32) (tape_bytes : Nat → Int32) (sr_spare : Value) (sr_at : Int32) (sr_numberAt : Int32) (sr_fault : Int32) : Option (Int32 × Int32) := B_X8_accept_0   tape_size tape_bytes sr_spare sr_numberAt sr_fault x1 sr_at
set_option maxHeartbeats 4000000 in
set_option maxRecDepth 100000 in
theorem L_X8_accept_0 {p : Program} {l : Launch} {e : Env} {s : State} {m : MethodId} {args : Array Value} {below : List Frame} {meth : Method} {c : Code} {A : Nat → Prop} {D : va_G} {cs : Nat → ClassId} {ad : Nat → Nat} {tape_size : Int32} {tape_bytes : Nat → Int32} {sr_spare : Value} {sr_numberAt : Int32} {sr_fault : Int32} {R : Int32 × Int32} (C0 : zC p s m args meth c cX8_accept 2 (some .boolean) RX8 zW) (hK : va_K D classes (zT cs) s) (hA : ∀ q : Nat, s.heap.size ≤ q → A q) (x1 : Int32) (sr_at : Int32) (h : B_X8_accept_0 tape_size tape_bytes sr_spare sr_numberAt sr_fault x1 sr_at = some R) (H : Heap) (locs : List Loc) (ls : Array Slot) (hP : va_P D classes (wl_X8_accept ad cs tape_size tape_bytes sr_spare sr_at sr_numberAt sr_fault) H) (hD : va_D A (wl_X8_accept ad cs tape_size tape_bytes sr_spare sr_at sr_numberAt sr_fault)) (hS : va_S A s.heap H locs) (hl : lv_has ls 2 [(0, .ref (ad 25)), (1, .int x1)]) : W p l e rm_X8_accept s m args below meth c H locs 0 0 (MQ below (Q_X8_accept D cs ad tape_size tape_bytes sr_spare sr_numberAt sr_fault A R) args s 0 0 A) (F0 m 0 ls []) := by
  obtain ⟨hx, hb, hr, hml, hown, ht, hlocks⟩ := id C0
  refine lv_aload_n hx hb dX8_accept_0 rfl (lv_at hl 0 rfl) ?_
  refine va_get (D := D) (ci := 8) (v := .int sr_fault) (C := RX8) (T := TX8) (N := 5) hx hb ht iX8 hown hK hP 2 rfl rfl 4 (by decide) (ht _ kw_255) (fun _ h9 => h9) rfl dX8_accept_1 ?_
  refine lv_if_ge (tgt := 22) hx hb dX8_accept_4 (by decide) (fun c_1 => ?_) (fun c_1 => ?_)
  · have h := zk_t c_1 h
    refine lv_iconst (v := (0 : Int32)) hx hb dX8_accept_22 (by decide) ?_
    exact W.zret (ty := .boolean) (v := (0 : Int32)) hx hb hr rfl (fun t ht2 hW => ⟨⟨(0 : Int32), sr_at, rfl, Option.some.inj h, by rw [ht2]; exact hP, hD⟩, hS.F ht2⟩) hS.2.2 dX8_accept_23 hlocks
  · have h := zk_f c_1 h
    refine lv_aload_n hx hb dX8_accept_7 rfl (lv_at hl 0 rfl) ?_
    refine va_get (D := D) (ci := 8) (v := .ref (ad 23)) (C := RX8) (T := TX8) (N := 5) hx hb ht iX8 hown hK hP 2 rfl rfl 0 (by decide) (ht _ kw_251) (fun _ h9 => h9) rfl dX8_accept_8 ?_
    refine lv_aload_n hx hb dX8_accept_11 rfl (lv_at hl 0 rfl) ?_
    refine va_get (D := D) (ci := 8) (v := .int sr_at) (C := RX8) (T := TX8) (N := 5) hx hb ht iX8 hown hK hP 2 rfl rfl 2 (by decide) (ht _ kw_253) (fun _ h9 => h9) rfl dX8_accept_12 ?_
    obtain ⟨r_2, u_3, hc_4, h⟩ := zk_o2 h
    refine zz_vi (post := (fun r u => (r, u) = (r_2, u_3))) (w1 := fun u => (wl_X9_byteAt ad cs tape_size tape_bytes)) (As := [.int sr_at]) (rest := []) (c_X9_byteAt l D cs ad  H.size sr_at tape_size tape_bytes (r_2, u_3) hc_4) ⟨hx, hb, hml, hown, ht⟩ (cwV 1 ht g_X8_125 rfl rfl rfl ⟨rfl, hd_X9_byteAt⟩ ⟨Nat.le_of_ble_eq_true rfl, Nat.le_of_ble_eq_true rfl⟩) (va_recv hK hP (ci := 9) (q0 := 0) rfl rfl) hP hD hS hK hA [0, 1] rfl rfl [(ad 23), (ad 24)] rfl (fun _ => rfl) rfl hl.1 (Nat.le_of_ble_eq_true rfl) dX8_accept_15 ⟨Nat.zero_le _, Nat.zero_le _⟩ (fun r u H locs hq hP hS => ?_)
    cases hq
    have hP : va_P D classes (wl_X8_accept ad cs tape_size tape_bytes sr_spare sr_at sr_numberAt sr_fault) H := hP
    have hD : va_D A (wl_X8_accept ad cs tape_size tape_bytes sr_spare sr_at sr_numberAt sr_fault) := zDk hD [(ad 23), (ad 24), (ad 25)] rfl rfl
    refine lv_iload_n hx hb dX8_accept_18 rfl (lv_at hl 1 rfl) ?_
    refine lv_icmp_eq (tgt := 24) hx hb dX8_accept_19 (by decide) (fun c_5 => ?_) (fun c_5 => ?_)
    · have h := zk_t c_5 h
      refine lv_aload_n hx hb dX8_accept_24 rfl (lv_at hl 0 rfl) ?_
      refine lv_dup hx hb dX8_accept_25 rfl ?_
      refine va_get (D := D) (ci := 8) (v := .int sr_at) (C := RX8) (T := TX8) (N := 5) hx hb ht iX8 hown hK hP 2 rfl rfl 2 (by decide) (ht _ kw_253) (fun _ h9 => h9) rfl dX8_accept_26 ?_
      refine lv_iconst (v := (1 : Int32)) hx hb dX8_accept_29 (by decide) ?_
      refine lv_iadd hx hb dX8_accept_30 ?_
      obtain ⟨v_6, ev_6, h⟩ := zk_lt h
      refine W.eq (g2 := F0 m 31 ls [.int v_6, .ref (ad 25)]) (by rw [ev_6]) ?_
      refine va_put (D := D) (ci := 8) (v := .int v_6) (ty := .int) (C := RX8) (T := TX8) (N := 5) hx hb ht iX8 tyX8 tyX8_ok nmX8 hown hK hP hD hS 2 rfl rfl 2 (by decide) (ht _ kw_253) (fun _ h9 => h9) rfl (by decide +kernel) rfl rfl (Nat.le_of_ble_eq_true rfl) dX8_accept_31 (fun H locs hP hD hS => ?_)
      have hP : va_P D classes (wl_X8_accept ad cs tape_size tape_bytes sr_spare v_6 sr_numberAt sr_fault) H := hP
      have hD : va_D A (wl_X8_accept ad cs tape_size tape_bytes sr_spare v_6 sr_numberAt sr_fault) := hD
      refine lv_iconst (v := (1 : Int32)) hx hb dX8_accept_34 (by decide) ?_
      exact W.zret (ty := .boolean) (v := (1 : Int32)) hx hb hr rfl (fun t ht2 hW => ⟨⟨(1 : Int32), v_6, rfl, Option.some.inj h, by rw [ht2]; exact hP, hD⟩, hS.F ht2⟩) hS.2.2 dX8_accept_35 hlocks
    · have h := zk_f c_5 h
      refine lv_iconst (v := (0 : Int32)) hx hb dX8_accept_22 (by decide) ?_
      exact W.zret (ty := .boolean) (v := (0 : Int32)) hx hb hr rfl (fun t ht2 hW => ⟨⟨(0 : Int32), sr_at, rfl, Option.some.inj h, by rw [ht2]; exact hP, hD⟩, hS.F ht2⟩) hS.2.2 dX8_accept_23 hlocks
set_option maxHeartbeats 4000000 in
set_option maxRecDepth 100000 in
theorem c_X8_accept (l : Launch) (D : va_G) (cs : Nat → ClassId) (ad : Nat → Nat) (sz : Nat) (x1 : Int32) (tape_size : Int32) (tape_bytes : Nat → Int32) (sr_spare : Value) (sr_at : Int32) (sr_numberAt : Int32) (sr_fault : Int32) (R : Int32 × Int32) (h : f_X8_accept   x1 tape_size tape_bytes sr_spare sr_at sr_numberAt sr_fault = some R) : Met l yX8_accept (z_X8_accept) rm_X8_accept (va_Pc [.ref (ad 25), .int x1] (zPre D cs (wl_X8_accept ad cs tape_size tape_bytes sr_spare sr_at sr_numberAt sr_fault) sz)) (Q_X8_accept D cs ad tape_size tape_bytes sr_spare sr_numberAt sr_fault (va_A (wl_X8_accept ad cs tape_size tape_bytes sr_spare sr_at sr_numberAt sr_fault) sz) R) 0 0 (va_A (wl_X8_accept ad cs tape_size tape_bytes sr_spare sr_at sr_numberAt sr_fault) sz) := by
  refine Met.ofW (cc := cX8_accept) (maxL := 2) (ret := (some .boolean)) (by decide) rfl ?_
  intro p e s m args below meth c s₁ B hml hv
  obtain ⟨rfl, hsz, hP, hK, hD0⟩ := hv
  subst hsz
  have hD := hD0.self (sz := s.heap.size)
  have C0 : zC p s m _ meth c cX8_accept 2 (some .boolean) RX8 zW := ⟨B.exec, B.bytes, B.returns, hml, findClass_of_methodNamed B.named, fun w hw => atoms_spec (ws := z_X8_accept) B.pre w (List.mem_cons_of_mem _ hw), B.notSynchronized⟩
  have hA : ∀ q : Nat, s.heap.size ≤ q → va_A (wl_X8_accept ad cs tape_size tape_bytes sr_spare sr_at sr_numberAt sr_fault) s.heap.size q := fun q h => Or.inr h
  have hl := lv_entry ([.ref (ad 25), .int x1]) (n := 2) (Nat.le_of_ble_eq_true rfl)
  rw [lg_entry_eq]
  generalize (lg_sl ([.ref (ad 25), .int x1]) ++ List.replicate (2 - (lg_sl ([.ref (ad 25), .int x1])).length) Slot.unset).toArray = ls at hl ⊢
  exact L_X8_accept_0 C0 hK hA   x1 sr_at h s.heap [] ls hP hD va_S.rf hl
theorem kw_899 : Cond.methodLink RX8 86 yX8_accept ∈ zW := zwC (i := 105) zc_4 rfl rfl
theorem kw_900 : Cond.instanceMethod yX8_accept ∈ zW := zwC (i := 106) zc_4 rfl rfl
theorem kw_901 : Cond.selects RX8 yX8_accept yX8_accept ∈ zW := zwC (i := 107) zc_4 rfl rfl
theorem kw_902 : Cond.code yX8_accept cX8_accept 2 (some .boolean) ∈ zW := zwC (i := 108) zc_4 rfl rfl
theorem dX8_expect_0 : decode cX8_expect 0 = .ok (.aload_n 0, 1) := by decide +kernel
theorem dX8_expect_1 : decode cX8_expect 1 = .ok (.iload_n 1, 1) := by decide +kernel
theorem dX8_expect_2 : decode cX8_expect 2 = .ok (.invokevirtual 86, 3) := by decide +kernel
theorem dX8_expect_5 : decode cX8_expect 5 = .ok (.ifCond .ne 12, 3) := by decide +kernel
theorem dX8_expect_8 : decode cX8_expect 8 = .ok (.aload_n 0, 1) := by decide +kernel
theorem dX8_expect_9 : decode cX8_expect 9 = .ok (.iconst 0, 1) := by decide +kernel
theorem dX8_expect_10 : decode cX8_expect 10 = .ok (.aload_n 0, 1) := by decide +kernel
theorem dX8_expect_11 : decode cX8_expect 11 = .ok (.getfield 15, 3) := by decide +kernel
theorem dX8_expect_14 : decode cX8_expect 14 = .ok (.invokevirtual 48, 3) := by decide +kernel
theorem dX8_expect_17 : decode cX8_expect 17 = .ok (.return_, 1) := by decide +kernel
abbrev z_X8_expect : List Cond := .code yX8_expect cX8_expect 2 none :: zW
abbrev wl_X8_expect (ad : Nat → Nat) (cs : Nat → ClassId)  (tape_size : Int32) (tape_bytes : Nat → Int32) (sr_spare : Value) (sr_at : Int32) (sr_numberAt : Int32) (sr_fault : Int32) : va_W := [((ad 23), .inr (9, [.ref (ad 24), .int tape_size])), ((ad 24), .inl (cs 0, 120, .inl tape_bytes)), ((ad 25), .inr (8, [.ref (ad 23), sr_spare, .int sr_at, .int sr_numberAt, .int sr_fault]))]
def Q_X8_expect (D : va_G) (cs : Nat → ClassId) (ad : Nat → Nat)  (tape_size : Int32) (tape_bytes : Nat → Int32) (sr_spare : Value) (sr_numberAt : Int32) (A : Nat → Prop) (R : Int32 × Int32) : Array Value → State → Outcome → State → Prop :=
  va_Qv (fun u : Int32 × Int32 => u = R) (fun (u : Int32 × Int32) (t : State) => va_P D classes (wl_X8_expect ad cs tape_size tape_bytes sr_spare u.1 sr_numberAt u.2) t.heap ∧ va_D A (wl_X8_expect ad cs tape_size tape_bytes sr_spare u.1 sr_numberAt u.2)) A
abbrev rm_X8_expect : Room := { frames := 2, cells := 0, slots := 0, locals := 42 }
theorem g_X8_86 : GoodIn zW (wsV RX8 86 RX8 yX8_accept z_X8_accept) := zGV kw_899 kw_900 kw_901 kw_79 kw_902
theorem hd_X8_accept : yX8_accept.cls ≠ "java/lang/invoke/MethodHandle" ∧ yX8_accept.cls ≠ "java/lang/invoke/VarHandle" ∧ (parseMethodDescriptor yX8_accept.desc).map (fun d => d.parameters.length) = some 1 := by decide +kernel
def B_X8_expect_0    (tape_size : Int32) (tape_bytes : Nat → Int32) (sr_spare : Value) (sr_numberAt : Int32) (x1 : Int32) (sr_at : Int32) (sr_fault : Int32) : Option (Int32 × Int32) :=
  (zk_b2 (f_X8_accept x1 tape_size tape_bytes sr_spare sr_at sr_numberAt sr_fault) (fun r_1 u_2 => (if r_1 = 0 then (zk_b1 (f_X8_judge (0 : Int32) u_2 sr_spare u_2 sr_numberAt sr_fault) (fun u_5 => (some (u_2, u_5)))) else (some (u_2, sr_fault)))))
def f_X8_expect   (x1 : Int32) (tape_size : Int32) (tape_bytes : Nat → Int32) (sr_spare : Value) (sr_at : Int32) (sr_numberAt : Int32) (sr_fault : Int32) : Option (Int32 × Int32) := B_X8_expect_0   tape_size tape_bytes sr_spare sr_numberAt x1 sr_at sr_fault
set_option maxHeartbeats 4000000 in
set_option maxRecDepth 100000 in
theorem L_X8_expect_0 {p : Program} {l : Launch} {e : Env} {s : State} {m : MethodId} {args : Array Value} {below : List Frame} {meth : Method} {c : Code} {A : Nat → Prop} {D : va_G} {cs : Nat → ClassId} {ad : Nat → Nat} {tape_size : Int32} {tape_bytes : Nat → Int32} {sr_spare : Value} {sr_numberAt : Int32} {R : Int32 × Int32} (C0 : zC p s m args meth c cX8_expect 2 none RX8 zW) (hK : va_K D classes (zT cs) s) (hA : ∀ q : Nat, s.heap.size ≤ q → A q) (x1 : Int32) (sr_at : Int32) (sr_fault : Int32) (h : B_X8_expect_0 tape_size tape_bytes sr_spare sr_numberAt x1 sr_at sr_fault = some R) (H : Heap) (locs : List Loc) (ls : Array Slot) (hP : va_P D classes (wl_X8_expect ad cs tape_size tape_bytes sr_spare sr_at sr_numberAt sr_fault) H) (hD : va_D A (wl_X8_expect ad cs tape_size tape_bytes sr_spare sr_at sr_numberAt sr_fault)) (hS : va_S A s.heap H locs) (hl : lv_has ls 2 [(0, .ref (ad 25)), (1, .int x1)]) : W p l e rm_X8_expect s m args below meth c H locs 0 0 (MQ below (Q_X8_expect D cs ad tape_size tape_bytes sr_spare sr_numberAt A R) args s 0 0 A) (F0 m 0 ls []) := by
  obtain ⟨hx, hb, hr, hml, hown, ht, hlocks⟩ := id C0
  refine lv_aload_n hx hb dX8_expect_0 rfl (lv_at hl 0 rfl) ?_
  refine lv_iload_n hx hb dX8_expect_1 rfl (lv_at hl 1 rfl) ?_
  obtain ⟨r_1, u_2, hc_3, h⟩ := zk_o2 h
  refine zz_vi (post := (fun r u => (r, u) = (r_1, u_2))) (w1 := fun u => (wl_X8_accept ad cs tape_size tape_bytes sr_spare u sr_numberAt sr_fault)) (As := [.int x1]) (rest := []) (c_X8_accept l D cs ad  H.size x1 tape_size tape_bytes sr_spare sr_at sr_numberAt sr_fault (r_1, u_2) hc_3) ⟨hx, hb, hml, hown, ht⟩ (cwV 1 ht g_X8_86 rfl rfl rfl ⟨rfl, hd_X8_accept⟩ ⟨Nat.le_of_ble_eq_true rfl, Nat.le_of_ble_eq_true rfl⟩) (va_recv hK hP (ci := 8) (q0 := 2) rfl rfl) hP hD hS hK hA [0, 1, 2] rfl rfl [(ad 23), (ad 24), (ad 25)] rfl (fun _ => rfl) rfl hl.1 (Nat.le_of_ble_eq_true rfl) dX8_expect_2 ⟨Nat.zero_le _, Nat.zero_le _⟩ (fun r u H locs hq hP hS => ?_)
  cases hq
  have hP : va_P D classes (wl_X8_expect ad cs tape_size tape_bytes sr_spare u_2 sr_numberAt sr_fault) H := hP
  have hD : va_D A (wl_X8_expect ad cs tape_size tape_bytes sr_spare u_2 sr_numberAt sr_fault) := zDk hD [(ad 23), (ad 24), (ad 25)] rfl rfl
  refine lv_if_ne (tgt := 17) hx hb dX8_expect_5 (by decide) (fun c_4 => ?_) (fun c_4 => ?_)
  · have h := zk_f c_4 h
    exact W.vret hx hb hr (fun t ht2 hW => ⟨⟨(u_2, sr_fault), rfl, Option.some.inj h, by rw [ht2]; exact hP, hD⟩, hS.F ht2⟩) hS.2.2 dX8_expect_17 hlocks
  · have h := zk_t c_4 h
    refine lv_aload_n hx hb dX8_expect_8 rfl (lv_at hl 0 rfl) ?_
    refine lv_iconst (v := (0 : Int32)) hx hb dX8_expect_9 (by decide) ?_
    refine lv_aload_n hx hb dX8_expect_10 rfl (lv_at hl 0 rfl) ?_
    refine va_get (D := D) (ci := 8) (v := .int u_2) (C := RX8) (T := TX8) (N := 5) hx hb ht iX8 hown hK hP 2 rfl rfl 2 (by decide) (ht _ kw_253) (fun _ h9 => h9) rfl dX8_expect_11 ?_
    obtain ⟨u_5, hc_6, h⟩ := zk_o1 h
    refine zz_vv (post := (fun u => u = u_5)) (w1 := fun u => (wl_X8_judge ad cs sr_spare u_2 sr_numberAt u)) (As := [.int (0 : Int32), .int u_2]) (rest := []) (c_X8_judge l D cs ad  H.size (0 : Int32) u_2 sr_spare u_2 sr_numberAt sr_fault u_5 hc_6) ⟨hx, hb, hml, hown, ht⟩ (cwV 2 ht g_X8_48 rfl rfl rfl ⟨rfl, hd_X8_judge⟩ ⟨Nat.le_of_ble_eq_true rfl, Nat.le_of_ble_eq_true rfl⟩) (va_recv hK hP (ci := 8) (q0 := 2) rfl rfl) hP hD hS hK hA [2] rfl rfl [(ad 25)] rfl (fun _ => rfl) rfl hl.1 (Nat.le_of_ble_eq_true rfl) dX8_expect_14 ⟨Nat.zero_le _, Nat.zero_le _⟩ (fun u H locs hq hP hS => ?_)
    cases hq
    have hP : va_P D classes (wl_X8_expect ad cs tape_size tape_bytes sr_spare u_2 sr_numberAt u_5) H := hP
    have hD : va_D A (wl_X8_expect ad cs tape_size tape_bytes sr_spare u_2 sr_numberAt u_5) := zDk hD [(ad 23), (ad 24), (ad 25)] rfl rfl
    exact W.vret hx hb hr (fun t ht2 hW => ⟨⟨(u_2, u_5), rfl, Option.some.inj h, by rw [ht2]; exact hP, hD⟩, hS.F ht2⟩) hS.2.2 dX8_expect_17 hlocks
set_option maxHeartbeats 4000000 in
set_option maxRecDepth 100000 in
theorem c_X8_expect (l : Launch) (D : va_G) (cs : Nat → ClassId) (ad : Nat → Nat) (sz : Nat) (x1 : Int32) (tape_size : Int32) (tape_bytes : Nat → Int32) (sr_spare : Value) (sr_at : Int32) (sr_numberAt : Int32) (sr_fault : Int32) (R : Int32 × Int32) (h : f_X8_expect   x1 tape_size tape_bytes sr_spare sr_at sr_numberAt sr_fault = some R) : Met l yX8_expect (z_X8_expect) rm_X8_expect (va_Pc [.ref (ad 25), .int x1] (zPre D cs (wl_X8_expect ad cs tape_size tape_bytes sr_spare sr_at sr_numberAt sr_fault) sz)) (Q_X8_expect D cs ad tape_size tape_bytes sr_spare sr_numberAt (va_A (wl_X8_expect ad cs tape_size tape_bytes sr_spare sr_at sr_numberAt sr_fault) sz) R) 0 0 (va_A (wl_X8_expect ad cs tape_size tape_bytes sr_spare sr_at sr_numberAt sr_fault) sz) := by
  refine Met.ofW (cc := cX8_expect) (maxL := 2) (ret := none) (by decide) rfl ?_
  intro p e s m args below meth c s₁ B hml hv
  obtain ⟨rfl, hsz, hP, hK, hD0⟩ := hv
  subst hsz
  have hD := hD0.self (sz := s.heap.size)
  have C0 : zC p s m _ meth c cX8_expect 2 none RX8 zW := ⟨B.exec, B.bytes, B.returns, hml, findClass_of_methodNamed B.named, fun w hw => atoms_spec (ws := z_X8_expect) B.pre w (List.mem_cons_of_mem _ hw), B.notSynchronized⟩
  have hA : ∀ q : Nat, s.heap.size ≤ q → va_A (wl_X8_expect ad cs tape_size tape_bytes sr_spare sr_at sr_numberAt sr_fault) s.heap.size q := fun q h => Or.inr h
  have hl := lv_entry ([.ref (ad 25), .int x1]) (n := 2) (Nat.le_of_ble_eq_true rfl)
  rw [lg_entry_eq]
  generalize (lg_sl ([.ref (ad 25), .int x1]) ++ List.replicate (2 - (lg_sl ([.ref (ad 25), .int x1])).length) Slot.unset).toArray = ls at hl ⊢
  exact L_X8_expect_0 C0 hK hA   x1 sr_at sr_fault h s.heap [] ls hP hD va_S.rf hl
theorem kw_303 : Cond.fieldLink RX8 66 "AlreadyJudged$Suit" "who" "I" ∈ zW := zwC (i := 229) zc_1 rfl rfl
theorem kw_307 : Cond.fieldLink RX8 76 "AlreadyJudged$Suit" "against" "I" ∈ zW := zwC (i := 233) zc_1 rfl rfl
theorem kw_885 : Cond.methodLink RX8 62 yX8_number ∈ zW := zwC (i := 91) zc_4 rfl rfl
theorem kw_886 : Cond.instanceMethod yX8_number ∈ zW := zwC (i := 92) zc_4 rfl rfl
theorem kw_887 : Cond.selects RX8 yX8_number yX8_number ∈ zW := zwC (i := 93) zc_4 rfl rfl
theorem kw_888 : Cond.code yX8_number cX8_number 4 (some .int) ∈ zW := zwC (i := 94) zc_4 rfl rfl
theorem kw_895 : Cond.methodLink RX8 72 yX8_expect ∈ zW := zwC (i := 101) zc_4 rfl rfl
theorem kw_896 : Cond.instanceMethod yX8_expect ∈ zW := zwC (i := 102) zc_4 rfl rfl
theorem kw_897 : Cond.selects RX8 yX8_expect yX8_expect ∈ zW := zwC (i := 103) zc_4 rfl rfl
theorem kw_898 : Cond.code yX8_expect cX8_expect 2 none ∈ zW := zwC (i := 104) zc_4 rfl rfl
theorem dX8_readSides_0 : decode cX8_readSides 0 = .ok (.aload_n 1, 1) := by decide +kernel
theorem dX8_readSides_1 : decode cX8_readSides 1 = .ok (.aload_n 0, 1) := by decide +kernel
theorem dX8_readSides_2 : decode cX8_readSides 2 = .ok (.iconst 2, 1) := by decide +kernel
theorem dX8_readSides_3 : decode cX8_readSides 3 = .ok (.invokevirtual 62, 3) := by decide +kernel
theorem dX8_readSides_6 : decode cX8_readSides 6 = .ok (.putfield 66, 3) := by decide +kernel
theorem dX8_readSides_9 : decode cX8_readSides 9 = .ok (.aload_n 0, 1) := by decide +kernel
theorem dX8_readSides_10 : decode cX8_readSides 10 = .ok (.aload_n 1, 1) := by decide +kernel
theorem dX8_readSides_11 : decode cX8_readSides 11 = .ok (.getfield 66, 3) := by decide +kernel
theorem dX8_readSides_14 : decode cX8_readSides 14 = .ok (.bipush 20, 2) := by decide +kernel
theorem dX8_readSides_16 : decode cX8_readSides 16 = .ok (.if_icmp .ge 7, 3) := by decide +kernel
theorem dX8_readSides_19 : decode cX8_readSides 19 = .ok (.iconst 1, 1) := by decide +kernel
theorem dX8_readSides_20 : decode cX8_readSides 20 = .ok (.goto 4, 3) := by decide +kernel
theorem dX8_readSides_23 : decode cX8_readSides 23 = .ok (.iconst 0, 1) := by decide +kernel
theorem dX8_readSides_24 : decode cX8_readSides 24 = .ok (.aload_n 0, 1) := by decide +kernel
theorem dX8_readSides_25 : decode cX8_readSides 25 = .ok (.getfield 69, 3) := by decide +kernel
theorem dX8_readSides_28 : decode cX8_readSides 28 = .ok (.invokevirtual 48, 3) := by decide +kernel
theorem dX8_readSides_31 : decode cX8_readSides 31 = .ok (.aload_n 0, 1) := by decide +kernel
theorem dX8_readSides_32 : decode cX8_readSides 32 = .ok (.bipush 62, 2) := by decide +kernel
theorem dX8_readSides_34 : decode cX8_readSides 34 = .ok (.invokevirtual 72, 3) := by decide +kernel
theorem dX8_readSides_37 : decode cX8_readSides 37 = .ok (.aload_n 1, 1) := by decide +kernel
theorem dX8_readSides_38 : decode cX8_readSides 38 = .ok (.aload_n 0, 1) := by decide +kernel
theorem dX8_readSides_39 : decode cX8_readSides 39 = .ok (.iconst 2, 1) := by decide +kernel
theorem dX8_readSides_40 : decode cX8_readSides 40 = .ok (.invokevirtual 62, 3) := by decide +kernel
theorem dX8_readSides_43 : decode cX8_readSides 43 = .ok (.putfield 76, 3) := by decide +kernel
theorem dX8_readSides_46 : decode cX8_readSides 46 = .ok (.aload_n 0, 1) := by decide +kernel
theorem dX8_readSides_47 : decode cX8_readSides 47 = .ok (.aload_n 1, 1) := by decide +kernel
theorem dX8_readSides_48 : decode cX8_readSides 48 = .ok (.getfield 76, 3) := by decide +kernel
theorem dX8_readSides_51 : decode cX8_readSides 51 = .ok (.bipush 20, 2) := by decide +kernel
theorem dX8_readSides_53 : decode cX8_readSides 53 = .ok (.if_icmp .ge 18, 3) := by decide +kernel
theorem dX8_readSides_56 : decode cX8_readSides 56 = .ok (.aload_n 1, 1) := by decide +kernel
theorem dX8_readSides_57 : decode cX8_readSides 57 = .ok (.getfield 76, 3) := by decide +kernel
theorem dX8_readSides_60 : decode cX8_readSides 60 = .ok (.aload_n 1, 1) := by decide +kernel
theorem dX8_readSides_61 : decode cX8_readSides 61 = .ok (.getfield 66, 3) := by decide +kernel
theorem dX8_readSides_64 : decode cX8_readSides 64 = .ok (.if_icmp .eq 7, 3) := by decide +kernel
theorem dX8_readSides_67 : decode cX8_readSides 67 = .ok (.iconst 1, 1) := by decide +kernel
theorem dX8_readSides_68 : decode cX8_readSides 68 = .ok (.goto 4, 3) := by decide +kernel
theorem dX8_readSides_71 : decode cX8_readSides 71 = .ok (.iconst 0, 1) := by decide +kernel
theorem dX8_readSides_72 : decode cX8_readSides 72 = .ok (.aload_n 0, 1) := by decide +kernel
theorem dX8_readSides_73 : decode cX8_readSides 73 = .ok (.getfield 69, 3) := by decide +kernel
theorem dX8_readSides_76 : decode cX8_readSides 76 = .ok (.invokevirtual 48, 3) := by decide +kernel
theorem dX8_readSides_79 : decode cX8_readSides 79 = .ok (.aload_n 0, 1) := by decide +kernel
theorem dX8_readSides_80 : decode cX8_readSides 80 = .ok (.bipush 58, 2) := by decide +kernel
theorem dX8_readSides_82 : decode cX8_readSides 82 = .ok (.invokevirtual 72, 3) := by decide +kernel
theorem dX8_readSides_85 : decode cX8_readSides 85 = .ok (.return_, 1) := by decide +kernel
abbrev z_X8_readSides : List Cond := .code yX8_readSides cX8_readSides 2 none :: zW
abbrev wl_X8_readSides (ad : Nat → Nat) (cs : Nat → ClassId) (h_su : Nat) (h_su_asked : Nat) (tape_size : Int32) (tape_bytes : Nat → Int32) (sr_spare : Value) (sr_at : Int32) (sr_numberAt : Int32) (sr_fault : Int32) (su_who : Int32) (su_against : Int32) (su_kind : Int32) (su_won : Int32) (su_day : Int32) (su_land : Int32) (su_undoneFrom : Int32) (su_askedCount : Int32) (su_askedBits : Int32) (su_first : Int32) (su_foundSo : Int32) (su_foundNot : Int32) (su_fought : Int32) (su_needed : Int32) : va_W := [((ad 23), .inr (9, [.ref (ad 24), .int tape_size])), ((ad 24), .inl (cs 0, 120, .inl tape_bytes)), ((ad 25), .inr (8, [.ref (ad 23), sr_spare, .int sr_at, .int sr_numberAt, .int sr_fault])), (h_su, .inr (7, [.int su_who, .int su_against, .int su_kind, .int su_won, .int su_day, .int su_land, .int su_undoneFrom, .ref h_su_asked, .int su_askedCount, .int su_askedBits, .int su_first, .int su_foundSo, .int su_foundNot, .int su_fought, .int su_needed]))]
def Q_X8_readSides (D : va_G) (cs : Nat → ClassId) (ad : Nat → Nat) (h_su : Nat) (h_su_asked : Nat) (tape_size : Int32) (tape_bytes : Nat → Int32) (sr_spare : Value) (su_kind : Int32) (su_won : Int32) (su_day : Int32) (su_land : Int32) (su_undoneFrom : Int32) (su_askedCount : Int32) (su_askedBits : Int32) (su_first : Int32) (su_foundSo : Int32) (su_foundNot : Int32) (su_fought : Int32) (su_needed : Int32) (A : Nat → Prop) (R : Int32 × Int32 × Int32 × Int32 × Int32) : Array Value → State → Outcome → State → Prop :=
  va_Qv (fun u : Int32 × Int32 × Int32 × Int32 × Int32 => u = R) (fun (u : Int32 × Int32 × Int32 × Int32 × Int32) (t : State) => va_P D classes (wl_X8_readSides ad cs h_su h_su_asked tape_size tape_bytes sr_spare u.1 u.2.1 u.2.2.1 u.2.2.2.1 u.2.2.2.2 su_kind su_won su_day su_land su_undoneFrom su_askedCount su_askedBits su_first su_foundSo su_foundNot su_fought su_needed) t.heap ∧ va_D A (wl_X8_readSides ad cs h_su h_su_asked tape_size tape_bytes sr_spare u.1 u.2.1 u.2.2.1 u.2.2.2.1 u.2.2.2.2 su_kind su_won su_day su_land su_undoneFrom su_askedCount su_askedBits su_first su_foundSo su_foundNot su_fought su_needed)) A
abbrev rm_X8_readSides : Room := { frames := 3, cells := 0, slots := 0, locals := 66 }
theorem g_X8_62 : GoodIn zW (wsV RX8 62 RX8 yX8_number z_X8_number) := zGV kw_885 kw_886 kw_887 kw_79 kw_888
theorem g_X8_72 : GoodIn zW (wsV RX8 72 RX8 yX8_expect z_X8_expect) := zGV kw_895 kw_896 kw_897 kw_79 kw_898
theorem hd_X8_expect : yX8_expect.cls ≠ "java/lang/invoke/MethodHandle" ∧ yX8_expect.cls ≠ "java/lang/invoke/VarHandle" ∧ (parseMethodDescriptor yX8_expect.desc).map (fun d => d.parameters.length) = some 1 := by decide +kernel
theorem hd_X8_number : yX8_number.cls ≠ "java/lang/invoke/MethodHandle" ∧ yX8_number.cls ≠ "java/lang/invoke/VarHandle" ∧ (parseMethodDescriptor yX8_number.desc).map (fun d => d.parameters.length) = some 1 := by decide +kernel
def B_X8_readSides_72    (tape_size : Int32) (tape_bytes : Nat → Int32) (sr_spare : Value) (su_kind : Int32) (su_won : Int32) (su_day : Int32) (su_land : Int32) (su_undoneFrom : Int32) (su_askedCount : Int32) (su_askedBits : Int32) (su_first : Int32) (su_foundSo : Int32) (su_foundNot : Int32) (su_fought : Int32) (su_needed : Int32) (s0 : Int32) (sr_at : Int32) (sr_numberAt : Int32) (sr_fault : Int32) (su_who : Int32) (su_against : Int32) : Option (Int32 × Int32 × Int32 × Int32 × Int32) :=
  (zk_b1 (f_X8_judge s0 sr_numberAt sr_spare sr_at sr_numberAt sr_fault) (fun u_19 => (zk_b2 (f_X8_expect (58 : Int32) tape_size tape_bytes sr_spare sr_at sr_numberAt u_19) (fun u_21 u_22 => (some (u_21, sr_numberAt, u_22, su_who, su_against))))))
def B_X8_readSides_71    (tape_size : Int32) (tape_bytes : Nat → Int32) (sr_spare : Value) (su_kind : Int32) (su_won : Int32) (su_day : Int32) (su_land : Int32) (su_undoneFrom : Int32) (su_askedCount : Int32) (su_askedBits : Int32) (su_first : Int32) (su_foundSo : Int32) (su_foundNot : Int32) (su_fought : Int32) (su_needed : Int32) (sr_at : Int32) (sr_numberAt : Int32) (sr_fault : Int32) (su_who : Int32) (su_against : Int32) : Option (Int32 × Int32 × Int32 × Int32 × Int32) :=
  (B_X8_readSides_72 tape_size tape_bytes sr_spare su_kind su_won su_day su_land su_undoneFrom su_askedCount su_askedBits su_first su_foundSo su_foundNot su_fought su_needed (0 : Int32) sr_at sr_numberAt sr_fault su_who su_against)
def B_X8_readSides_24    (tape_size : Int32) (tape_bytes : Nat → Int32) (sr_spare : Value) (su_kind : Int32) (su_won : Int32) (su_day : Int32) (su_land : Int32) (su_undoneFrom : Int32) (su_askedCount : Int32) (su_askedBits : Int32) (su_first : Int32) (su_foundSo : Int32) (su_foundNot : Int32) (su_fought : Int32) (su_needed : Int32) (s0 : Int32) (sr_at : Int32) (sr_numberAt : Int32) (sr_fault : Int32) (su_who : Int32) (su_against : Int32) : Option (Int32 × Int32 × Int32 × Int32 × Int32) :=
  (zk_b1 (f_X8_judge s0 sr_numberAt sr_spare sr_at sr_numberAt sr_fault) (fun u_7 => (zk_b2 (f_X8_expect (62 : Int32) tape_size tape_bytes sr_spare sr_at sr_numberAt u_7) (fun u_9 u_10 => (zk_b4 (f_X8_number 100000 (2 : Int32) tape_size tape_bytes sr_spare u_9 sr_numberAt u_10) (fun r_12 u_13 u_14 u_15 => (if (20 : Int32) ≤ r_12 then (B_X8_readSides_71 tape_size tape_bytes sr_spare su_kind su_won su_day su_land su_undoneFrom su_askedCount su_askedBits su_first su_foundSo su_foundNot su_fought su_needed u_13 u_14 u_15 su_who r_12) else (if r_12 = su_who then (B_X8_readSides_71 tape_size tape_bytes sr_spare su_kind su_won su_day su_land su_undoneFrom su_askedCount su_askedBits su_first su_foundSo su_foundNot su_fought su_needed u_13 u_14 u_15 su_who r_12) else (B_X8_readSides_72 tape_size tape_bytes sr_spare su_kind su_won su_day su_land su_undoneFrom su_askedCount su_askedBits su_first su_foundSo su_foundNot su_fought su_needed (1 : Int32) u_13 u_14 u_15 su_who r_12)))))))))
def B_X8_readSides_0    (tape_size : Int32) (tape_bytes : Nat → Int32) (sr_spare : Value) (su_kind : Int32) (su_won : Int32) (su_day : Int32) (su_land : Int32) (su_undoneFrom : Int32) (su_askedCount : Int32) (su_askedBits : Int32) (su_first : Int32) (su_foundSo : Int32) (su_foundNot : Int32) (su_fought : Int32) (su_needed : Int32) (sr_at : Int32) (sr_numberAt : Int32) (sr_fault : Int32) (su_who : Int32) (su_against : Int32) : Option (Int32 × Int32 × Int32 × Int32 × Int32) :=
  (zk_b4 (f_X8_number 100000 (2 : Int32) tape_size tape_bytes sr_spare sr_at sr_numberAt sr_fault) (fun r_1 u_2 u_3 u_4 => (if (20 : Int32) ≤ r_1 then (B_X8_readSides_24 tape_size tape_bytes sr_spare su_kind su_won su_day su_land su_undoneFrom su_askedCount su_askedBits su_first su_foundSo su_foundNot su_fought su_needed (0 : Int32) u_2 u_3 u_4 r_1 su_against) else (B_X8_readSides_24 tape_size tape_bytes sr_spare su_kind su_won su_day su_land su_undoneFrom su_askedCount su_askedBits su_first su_foundSo su_foundNot su_fought su_needed (1 : Int32) u_2 u_3 u_4 r_1 su_against))))
def f_X8_readSides    (tape_size : Int32) (tape_bytes : Nat → Int32) (sr_spare : Value) (sr_at : Int32) (sr_numberAt : Int32) (sr_fault : Int32) (su_who : Int32) (su_against : Int32) (su_kind : Int32) (su_won : Int32) (su_day : Int32) (su_land : Int32) (su_undoneFrom : Int32) (su_askedCount : Int32) (su_askedBits : Int32) (su_first : Int32) (su_foundSo : Int32) (su_foundNot : Int32) (su_fought : Int32) (su_needed : Int32) : Option (Int32 × Int32 × Int32 × Int32 × Int32) := B_X8_readSides_0   tape_size tape_bytes sr_spare su_kind su_won su_day su_land su_undoneFrom su_askedCount su_askedBits su_first su_foundSo su_foundNot su_fought su_needed  sr_at sr_numberAt sr_fault su_who su_against
set_option maxHeartbeats 4000000 in
set_option maxRecDepth 100000 in
theorem L_X8_readSides_72 {p : Program} {l : Launch} {e : Env} {s : State} {m : MethodId} {args : Array Value} {below : List Frame} {meth : Method} {c : Code} {A : Nat → Prop} {D : va_G} {cs : Nat → ClassId} {ad : Nat → Nat} {h_su : Nat} {h_su_asked : Nat} {tape_size : Int32} {tape_bytes : Nat → Int32} {sr_spare : Value} {su_kind : Int32} {su_won : Int32} {su_day : Int32} {su_land : Int32} {su_undoneFrom : Int32} {su_askedCount : Int32} {su_askedBits : Int32} {su_first : Int32} {su_foundSo : Int32} {su_foundNot : Int32} {su_fought : Int32} {su_needed : Int32} {R : Int32 × Int32 × Int32 × Int32 × Int32} (C0 : zC p s m args meth c cX8_readSides 2 none RX8 zW) (hK : va_K D classes (zT cs) s) (hA : ∀ q : Nat, s.heap.size ≤ q → A q) (s0 : Int32) (sr_at : Int32) (sr_numberAt : Int32) (sr_fault : Int32) (su_who : Int32) (su_against : Int32) (h : B_X8_readSides_72 tape_size tape_bytes sr_spare su_kind su_won su_day su_land su_undoneFrom su_askedCount su_askedBits su_first su_foundSo su_foundNot su_fought su_needed s0 sr_at sr_numberAt sr_fault su_who su_against = some R) (H : Heap) (locs : List Loc) (ls : Array Slot) (hP : va_P D classes (wl_X8_readSides ad cs h_su h_su_asked tape_size tape_bytes sr_spare sr_at sr_numberAt sr_fault su_who su_against su_kind su_won su_day su_land su_undoneFrom su_askedCount su_askedBits su_first su_foundSo su_foundNot su_fought su_needed) H) (hD : va_D A (wl_X8_readSides ad cs h_su h_su_asked tape_size tape_bytes sr_spare sr_at sr_numberAt sr_fault su_who su_against su_kind su_won su_day su_land su_undoneFrom su_askedCount su_askedBits su_first su_foundSo su_foundNot su_fought su_needed)) (hS : va_S A s.heap H locs) (hl : lv_has ls 2 [(0, .ref (ad 25))]) : W p l e rm_X8_readSides s m args below meth c H locs 0 0 (MQ below (Q_X8_readSides D cs ad h_su h_su_asked tape_size tape_bytes sr_spare su_kind su_won su_day su_land su_undoneFrom su_askedCount su_askedBits su_first su_foundSo su_foundNot su_fought su_needed A R) args s 0 0 A) (F0 m 72 ls [.int s0, .ref (ad 25)]) := by
  obtain ⟨hx, hb, hr, hml, hown, ht, hlocks⟩ := id C0
  refine lv_aload_n hx hb dX8_readSides_72 rfl (lv_at hl 0 rfl) ?_
  refine va_get (D := D) (ci := 8) (v := .int sr_numberAt) (C := RX8) (T := TX8) (N := 5) hx hb ht iX8 hown hK hP 2 rfl rfl 3 (by decide) (ht _ kw_254) (fun _ h9 => h9) rfl dX8_readSides_73 ?_
  obtain ⟨u_19, hc_20, h⟩ := zk_o1 h
  refine zz_vv (post := (fun u => u = u_19)) (w1 := fun u => (wl_X8_judge ad cs sr_spare sr_at sr_numberAt u)) (As := [.int s0, .int sr_numberAt]) (rest := []) (c_X8_judge l D cs ad  H.size s0 sr_numberAt sr_spare sr_at sr_numberAt sr_fault u_19 hc_20) ⟨hx, hb, hml, hown, ht⟩ (cwV 2 ht g_X8_48 rfl rfl rfl ⟨rfl, hd_X8_judge⟩ ⟨Nat.le_of_ble_eq_true rfl, Nat.le_of_ble_eq_true rfl⟩) (va_recv hK hP (ci := 8) (q0 := 2) rfl rfl) hP hD hS hK hA [2] rfl rfl [(ad 25)] rfl (fun _ => rfl) rfl hl.1 (Nat.le_of_ble_eq_true rfl) dX8_readSides_76 ⟨Nat.zero_le _, Nat.zero_le _⟩ (fun u H locs hq hP hS => ?_)
  cases hq
  have hP : va_P D classes (wl_X8_readSides ad cs h_su h_su_asked tape_size tape_bytes sr_spare sr_at sr_numberAt u_19 su_who su_against su_kind su_won su_day su_land su_undoneFrom su_askedCount su_askedBits su_first su_foundSo su_foundNot su_fought su_needed) H := hP
  have hD : va_D A (wl_X8_readSides ad cs h_su h_su_asked tape_size tape_bytes sr_spare sr_at sr_numberAt u_19 su_who su_against su_kind su_won su_day su_land su_undoneFrom su_askedCount su_askedBits su_first su_foundSo su_foundNot su_fought su_needed) := zDk hD [(ad 23), (ad 24), (ad 25), h_su] rfl rfl
  refine lv_aload_n hx hb dX8_readSides_79 rfl (lv_at hl 0 rfl) ?_
  refine lv_bipush (v := (58 : Int32)) hx hb dX8_readSides_80 (by decide) ?_
  obtain ⟨u_21, u_22, hc_23, h⟩ := zk_o2 h
  refine zz_vv (post := (fun u => u = (u_21, u_22))) (w1 := fun u => (wl_X8_expect ad cs tape_size tape_bytes sr_spare u.1 sr_numberAt u.2)) (As := [.int (58 : Int32)]) (rest := []) (c_X8_expect l D cs ad  H.size (58 : Int32) tape_size tape_bytes sr_spare sr_at sr_numberAt u_19 (u_21, u_22) hc_23) ⟨hx, hb, hml, hown, ht⟩ (cwV 1 ht g_X8_72 rfl rfl rfl ⟨rfl, hd_X8_expect⟩ ⟨Nat.le_of_ble_eq_true rfl, Nat.le_of_ble_eq_true rfl⟩) (va_recv hK hP (ci := 8) (q0 := 2) rfl rfl) hP hD hS hK hA [0, 1, 2] rfl rfl [(ad 23), (ad 24), (ad 25)] rfl (fun _ => rfl) rfl hl.1 (Nat.le_of_ble_eq_true rfl) dX8_readSides_82 ⟨Nat.zero_le _, Nat.zero_le _⟩ (fun u H locs hq hP hS => ?_)
  cases hq
  have hP : va_P D classes (wl_X8_readSides ad cs h_su h_su_asked tape_size tape_bytes sr_spare u_21 sr_numberAt u_22 su_who su_against su_kind su_won su_day su_land su_undoneFrom su_askedCount su_askedBits su_first su_foundSo su_foundNot su_fought su_needed) H := hP
  have hD : va_D A (wl_X8_readSides ad cs h_su h_su_asked tape_size tape_bytes sr_spare u_21 sr_numberAt u_22 su_who su_against su_kind su_won su_day su_land su_undoneFrom su_askedCount su_askedBits su_first su_foundSo su_foundNot su_fought su_needed) := zDk hD [(ad 23), (ad 24), (ad 25), h_su] rfl rfl
  exact W.vret hx hb hr (fun t ht2 hW => ⟨⟨(u_21, sr_numberAt, u_22, su_who, su_against), rfl, Option.some.inj h, by rw [ht2]; exact hP, hD⟩, hS.F ht2⟩) hS.2.2 dX8_readSides_85 hlocks
set_option maxHeartbeats 4000000 in
set_option maxRecDepth 100000 in
theorem L_X8_readSides_71 {p : Program} {l : Launch} {e : Env} {s : State} {m : MethodId} {args : Array Value} {below : List Frame} {meth : Method} {c : Code} {A : Nat → Prop} {D : va_G} {cs : Nat → ClassId} {ad : Nat → Nat} {h_su : Nat} {h_su_asked : Nat} {tape_size : Int32} {tape_bytes : Nat → Int32} {sr_spare : Value} {su_kind : Int32} {su_won : Int32} {su_day : Int32} {su_land : Int32} {su_undoneFrom : Int32} {su_askedCount : Int32} {su_askedBits : Int32} {su_first : Int32} {su_foundSo : Int32} {su_foundNot : Int32} {su_fought : Int32} {su_needed : Int32} {R : Int32 × Int32 × Int32 × Int32 × Int32} (C0 : zC p s m args meth c cX8_readSides 2 none RX8 zW) (hK : va_K D classes (zT cs) s) (hA : ∀ q : Nat, s.heap.size ≤ q → A q) (sr_at : Int32) (sr_numberAt : Int32) (sr_fault : Int32) (su_who : Int32) (su_against : Int32) (h : B_X8_readSides_71 tape_size tape_bytes sr_spare su_kind su_won su_day su_land su_undoneFrom su_askedCount su_askedBits su_first su_foundSo su_foundNot su_fought su_needed sr_at sr_numberAt sr_fault su_who su_against = some R) (H : Heap) (locs : List Loc) (ls : Array Slot) (hP : va_P D classes (wl_X8_readSides ad cs h_su h_su_asked tape_size tape_bytes sr_spare sr_at sr_numberAt sr_fault su_who su_against su_kind su_won su_day su_land su_undoneFrom su_askedCount su_askedBits su_first su_foundSo su_foundNot su_fought su_needed) H) (hD : va_D A (wl_X8_readSides ad cs h_su h_su_asked tape_size tape_bytes sr_spare sr_at sr_numberAt sr_fault su_who su_against su_kind su_won su_day su_land su_undoneFrom su_askedCount su_askedBits su_first su_foundSo su_foundNot su_fought su_needed)) (hS : va_S A s.heap H locs) (hl : lv_has ls 2 [(0, .ref (ad 25))]) : W p l e rm_X8_readSides s m args below meth c H locs 0 0 (MQ below (Q_X8_readSides D cs ad h_su h_su_asked tape_size tape_bytes sr_spare su_kind su_won su_day su_land su_undoneFrom su_askedCount su_askedBits su_first su_foundSo su_foundNot su_fought su_needed A R) args s 0 0 A) (F0 m 71 ls [.ref (ad 25)]) := by
  obtain ⟨hx, hb, hr, hml, hown, ht, hlocks⟩ := id C0
  refine lv_iconst (v := (0 : Int32)) hx hb dX8_readSides_71 (by decide) ?_
  exact L_X8_readSides_72 C0 hK hA   (0 : Int32) sr_at sr_numberAt sr_fault su_who su_against h H locs ls hP hD hS (lv_sub hl [0] rfl)
set_option maxHeartbeats 4000000 in
set_option maxRecDepth 100000 in
theorem L_X8_readSides_24 {p : Program} {l : Launch} {e : Env} {s : State} {m : MethodId} {args : Array Value} {below : List Frame} {meth : Method} {c : Code} {A : Nat → Prop} {D : va_G} {cs : Nat → ClassId} {ad : Nat → Nat} {h_su : Nat} {h_su_asked : Nat} {tape_size : Int32} {tape_bytes : Nat → Int32} {sr_spare : Value} {su_kind : Int32} {su_won : Int32} {su_day : Int32} {su_land : Int32} {su_undoneFrom : Int32} {su_askedCount : Int32} {su_askedBits : Int32} {su_first : Int32} {su_foundSo : Int32} {su_foundNot : Int32} {su_fought : Int32} {su_needed : Int32} {R : Int32 × Int32 × Int32 × Int32 × Int32} (C0 : zC p s m args meth c cX8_readSides 2 none RX8 zW) (hK : va_K D classes (zT cs) s) (hA : ∀ q : Nat, s.heap.size ≤ q → A q) (s0 : Int32) (sr_at : Int32) (sr_numberAt : Int32) (sr_fault : Int32) (su_who : Int32) (su_against : Int32) (h : B_X8_readSides_24 tape_size tape_bytes sr_spare su_kind su_won su_day su_land su_undoneFrom su_askedCount su_askedBits su_first su_foundSo su_foundNot su_fought su_needed s0 sr_at sr_numberAt sr_fault su_who su_against = some R) (H : Heap) (locs : List Loc) (ls : Array Slot) (hP : va_P D classes (wl_X8_readSides ad cs h_su h_su_asked tape_size tape_bytes sr_spare sr_at sr_numberAt sr_fault su_who su_against su_kind su_won su_day su_land su_undoneFrom su_askedCount su_askedBits su_first su_foundSo su_foundNot su_fought su_needed) H) (hD : va_D A (wl_X8_readSides ad cs h_su h_su_asked tape_size tape_bytes sr_spare sr_at sr_numberAt sr_fault su_who su_against su_kind su_won su_day su_land su_undoneFrom su_askedCount su_askedBits su_first su_foundSo su_foundNot su_fought su_needed)) (hS : va_S A s.heap H locs) (hl : lv_has ls 2 [(0, .ref (ad 25)), (1, .ref h_su)]) : W p l e rm_X8_readSides s m args below meth c H locs 0 0 (MQ below (Q_X8_readSides D cs ad h_su h_su_asked tape_size tape_bytes sr_spare su_kind su_won su_day su_land su_undoneFrom su_askedCount su_askedBits su_first su_foundSo su_foundNot su_fought su_needed A R) args s 0 0 A) (F0 m 24 ls [.int s0, .ref (ad 25)]) := by
  obtain ⟨hx, hb, hr, hml, hown, ht, hlocks⟩ := id C0
  refine lv_aload_n hx hb dX8_readSides_24 rfl (lv_at hl 0 rfl) ?_
  refine va_get (D := D) (ci := 8) (v := .int sr_numberAt) (C := RX8) (T := TX8) (N := 5) hx hb ht iX8 hown hK hP 2 rfl rfl 3 (by decide) (ht _ kw_254) (fun _ h9 => h9) rfl dX8_readSides_25 ?_
  obtain ⟨u_7, hc_8, h⟩ := zk_o1 h
  refine zz_vv (post := (fun u => u = u_7)) (w1 := fun u => (wl_X8_judge ad cs sr_spare sr_at sr_numberAt u)) (As := [.int s0, .int sr_numberAt]) (rest := []) (c_X8_judge l D cs ad  H.size s0 sr_numberAt sr_spare sr_at sr_numberAt sr_fault u_7 hc_8) ⟨hx, hb, hml, hown, ht⟩ (cwV 2 ht g_X8_48 rfl rfl rfl ⟨rfl, hd_X8_judge⟩ ⟨Nat.le_of_ble_eq_true rfl, Nat.le_of_ble_eq_true rfl⟩) (va_recv hK hP (ci := 8) (q0 := 2) rfl rfl) hP hD hS hK hA [2] rfl rfl [(ad 25)] rfl (fun _ => rfl) rfl hl.1 (Nat.le_of_ble_eq_true rfl) dX8_readSides_28 ⟨Nat.zero_le _, Nat.zero_le _⟩ (fun u H locs hq hP hS => ?_)
  cases hq
  have hP : va_P D classes (wl_X8_readSides ad cs h_su h_su_asked tape_size tape_bytes sr_spare sr_at sr_numberAt u_7 su_who su_against su_kind su_won su_day su_land su_undoneFrom su_askedCount su_askedBits su_first su_foundSo su_foundNot su_fought su_needed) H := hP
  have hD : va_D A (wl_X8_readSides ad cs h_su h_su_asked tape_size tape_bytes sr_spare sr_at sr_numberAt u_7 su_who su_against su_kind su_won su_day su_land su_undoneFrom su_askedCount su_askedBits su_first su_foundSo su_foundNot su_fought su_needed) := zDk hD [(ad 23), (ad 24), (ad 25), h_su] rfl rfl
  refine lv_aload_n hx hb dX8_readSides_31 rfl (lv_at hl 0 rfl) ?_
  refine lv_bipush (v := (62 : Int32)) hx hb dX8_readSides_32 (by decide) ?_
  obtain ⟨u_9, u_10, hc_11, h⟩ := zk_o2 h
  refine zz_vv (post := (fun u => u = (u_9, u_10))) (w1 := fun u => (wl_X8_expect ad cs tape_size tape_bytes sr_spare u.1 sr_numberAt u.2)) (As := [.int (62 : Int32)]) (rest := []) (c_X8_expect l D cs ad  H.size (62 : Int32) tape_size tape_bytes sr_spare sr_at sr_numberAt u_7 (u_9, u_10) hc_11) ⟨hx, hb, hml, hown, ht⟩ (cwV 1 ht g_X8_72 rfl rfl rfl ⟨rfl, hd_X8_expect⟩ ⟨Nat.le_of_ble_eq_true rfl, Nat.le_of_ble_eq_true rfl⟩) (va_recv hK hP (ci := 8) (q0 := 2) rfl rfl) hP hD hS hK hA [0, 1, 2] rfl rfl [(ad 23), (ad 24), (ad 25)] rfl (fun _ => rfl) rfl hl.1 (Nat.le_of_ble_eq_true rfl) dX8_readSides_34 ⟨Nat.zero_le _, Nat.zero_le _⟩ (fun u H locs hq hP hS => ?_)
  cases hq
  have hP : va_P D classes (wl_X8_readSides ad cs h_su h_su_asked tape_size tape_bytes sr_spare u_9 sr_numberAt u_10 su_who su_against su_kind su_won su_day su_land su_undoneFrom su_askedCount su_askedBits su_first su_foundSo su_foundNot su_fought su_needed) H := hP
  have hD : va_D A (wl_X8_readSides ad cs h_su h_su_asked tape_size tape_bytes sr_spare u_9 sr_numberAt u_10 su_who su_against su_kind su_won su_day su_land su_undoneFrom su_askedCount su_askedBits su_first su_foundSo su_foundNot su_fought su_needed) := zDk hD [(ad 23), (ad 24), (ad 25), h_su] rfl rfl
  refine lv_aload_n hx hb dX8_readSides_37 rfl (lv_at hl 1 rfl) ?_
  refine lv_aload_n hx hb dX8_readSides_38 rfl (lv_at hl 0 rfl) ?_
  refine lv_iconst (v := (2 : Int32)) hx hb dX8_readSides_39 (by decide) ?_
  obtain ⟨r_12, u_13, u_14, u_15, hc_16, h⟩ := zk_o4 h
  refine zz_vi (post := (fun r u => (r, u) = (r_12, u_13, u_14, u_15))) (w1 := fun u => (wl_X8_number ad cs tape_size tape_bytes sr_spare u.1 u.2.1 u.2.2)) (As := [.int (2 : Int32)]) (rest := [.ref h_su]) (c_X8_number l D cs ad  H.size 100000 (2 : Int32) tape_size tape_bytes sr_spare u_9 sr_numberAt u_10 (r_12, u_13, u_14, u_15) hc_16) ⟨hx, hb, hml, hown, ht⟩ (cwV 1 ht g_X8_62 rfl rfl rfl ⟨rfl, hd_X8_number⟩ ⟨Nat.le_of_ble_eq_true rfl, Nat.le_of_ble_eq_true rfl⟩) (va_recv hK hP (ci := 8) (q0 := 2) rfl rfl) hP hD hS hK hA [0, 1, 2] rfl rfl [(ad 23), (ad 24), (ad 25)] rfl (fun _ => rfl) rfl hl.1 (Nat.le_of_ble_eq_true rfl) dX8_readSides_40 ⟨Nat.zero_le _, Nat.zero_le _⟩ (fun r u H locs hq hP hS => ?_)
  cases hq
  have hP : va_P D classes (wl_X8_readSides ad cs h_su h_su_asked tape_size tape_bytes sr_spare u_13 u_14 u_15 su_who su_against su_kind su_won su_day su_land su_undoneFrom su_askedCount su_askedBits su_first su_foundSo su_foundNot su_fought su_needed) H := hP
  have hD : va_D A (wl_X8_readSides ad cs h_su h_su_asked tape_size tape_bytes sr_spare u_13 u_14 u_15 su_who su_against su_kind su_won su_day su_land su_undoneFrom su_askedCount su_askedBits su_first su_foundSo su_foundNot su_fought su_needed) := zDk hD [(ad 23), (ad 24), (ad 25), h_su] rfl rfl
  refine va_put (D := D) (ci := 7) (v := .int r_12) (ty := .int) (C := RX7) (T := TX7) (N := 15) hx hb ht iX7 tyX7 tyX7_ok nmX7 hown hK hP hD hS 3 rfl rfl 1 (by decide) (ht _ kw_307) (fun _ h9 => h9) rfl (by decide +kernel) rfl rfl (Nat.le_of_ble_eq_true rfl) dX8_readSides_43 (fun H locs hP hD hS => ?_)
  have hP : va_P D classes (wl_X8_readSides ad cs h_su h_su_asked tape_size tape_bytes sr_spare u_13 u_14 u_15 su_who r_12 su_kind su_won su_day su_land su_undoneFrom su_askedCount su_askedBits su_first su_foundSo su_foundNot su_fought su_needed) H := hP
  have hD : va_D A (wl_X8_readSides ad cs h_su h_su_asked tape_size tape_bytes sr_spare u_13 u_14 u_15 su_who r_12 su_kind su_won su_day su_land su_undoneFrom su_askedCount su_askedBits su_first su_foundSo su_foundNot su_fought su_needed) := hD
  refine lv_aload_n hx hb dX8_readSides_46 rfl (lv_at hl 0 rfl) ?_
  refine lv_aload_n hx hb dX8_readSides_47 rfl (lv_at hl 1 rfl) ?_
  refine va_get (D := D) (ci := 7) (v := .int r_12) (C := RX7) (T := TX7) (N := 15) hx hb ht iX7 hown hK hP 3 rfl rfl 1 (by decide) (ht _ kw_307) (fun _ h9 => h9) rfl dX8_readSides_48 ?_
  refine lv_bipush (v := (20 : Int32)) hx hb dX8_readSides_51 (by decide) ?_
  refine lv_icmp_ge (tgt := 71) hx hb dX8_readSides_53 (by decide) (fun c_17 => ?_) (fun c_17 => ?_)
  · have h := zk_t c_17 h
    exact L_X8_readSides_71 C0 hK hA   u_13 u_14 u_15 su_who r_12 h H locs ls hP hD hS (lv_sub hl [0] rfl)
  · have h := zk_f c_17 h
    refine lv_aload_n hx hb dX8_readSides_56 rfl (lv_at hl 1 rfl) ?_
    refine va_get (D := D) (ci := 7) (v := .int r_12) (C := RX7) (T := TX7) (N := 15) hx hb ht iX7 hown hK hP 3 rfl rfl 1 (by decide) (ht _ kw_307) (fun _ h9 => h9) rfl dX8_readSides_57 ?_
    refine lv_aload_n hx hb dX8_readSides_60 rfl (lv_at hl 1 rfl) ?_
    refine va_get (D := D) (ci := 7) (v := .int su_who) (C := RX7) (T := TX7) (N := 15) hx hb ht iX7 hown hK hP 3 rfl rfl 0 (by decide) (ht _ kw_303) (fun _ h9 => h9) rfl dX8_readSides_61 ?_
    refine lv_icmp_eq (tgt := 71) hx hb dX8_readSides_64 (by decide) (fun c_18 => ?_) (fun c_18 => ?_)
    · have h := zk_t c_18 h
      exact L_X8_readSides_71 C0 hK hA   u_13 u_14 u_15 su_who r_12 h H locs ls hP hD hS (lv_sub hl [0] rfl)
    · have h := zk_f c_18 h
      refine lv_iconst (v := (1 : Int32)) hx hb dX8_readSides_67 (by decide) ?_
      refine lv_goto (tgt := 72) hx hb dX8_readSides_68 (by decide) ?_
      exact L_X8_readSides_72 C0 hK hA   (1 : Int32) u_13 u_14 u_15 su_who r_12 h H locs ls hP hD hS (lv_sub hl [0] rfl)
set_option maxHeartbeats 4000000 in
set_option maxRecDepth 100000 in
theorem L_X8_readSides_0 {p : Program} {l : Launch} {e : Env} {s : State} {m : MethodId} {args : Array Value} {below : List Frame} {meth : Method} {c : Code} {A : Nat → Prop} {D : va_G} {cs : Nat → ClassId} {ad : Nat → Nat} {h_su : Nat} {h_su_asked : Nat} {tape_size : Int32} {tape_bytes : Nat → Int32} {sr_spare : Value} {su_kind : Int32} {su_won : Int32} {su_day : Int32} {su_land : Int32} {su_undoneFrom : Int32} {su_askedCount : Int32} {su_askedBits : Int32} {su_first : Int32} {su_foundSo : Int32} {su_foundNot : Int32} {su_fought : Int32} {su_needed : Int32} {R : Int32 × Int32 × Int32 × Int32 × Int32} (C0 : zC p s m args meth c cX8_readSides 2 none RX8 zW) (hK : va_K D classes (zT cs) s) (hA : ∀ q : Nat, s.heap.size ≤ q → A q) (sr_at : Int32) (sr_numberAt : Int32) (sr_fault : Int32) (su_who : Int32) (su_against : Int32) (h : B_X8_readSides_0 tape_size tape_bytes sr_spare su_kind su_won su_day su_land su_undoneFrom su_askedCount su_askedBits su_first su_foundSo su_foundNot su_fought su_needed sr_at sr_numberAt sr_fault su_who su_against = some R) (H : Heap) (locs : List Loc) (ls : Array Slot) (hP : va_P D classes (wl_X8_readSides ad cs h_su h_su_asked tape_size tape_bytes sr_spare sr_at sr_numberAt sr_fault su_who su_against su_kind su_won su_day su_land su_undoneFrom su_askedCount su_askedBits su_first su_foundSo su_foundNot su_fought su_needed) H) (hD : va_D A (wl_X8_readSides ad cs h_su h_su_asked tape_size tape_bytes sr_spare sr_at sr_numberAt sr_fault su_who su_against su_kind su_won su_day su_land su_undoneFrom su_askedCount su_askedBits su_first su_foundSo su_foundNot su_fought su_needed)) (hS : va_S A s.heap H locs) (hl : lv_has ls 2 [(0, .ref (ad 25)), (1, .ref h_su)]) : W p l e rm_X8_readSides s m args below meth c H locs 0 0 (MQ below (Q_X8_readSides D cs ad h_su h_su_asked tape_size tape_bytes sr_spare su_kind su_won su_day su_land su_undoneFrom su_askedCount su_askedBits su_first su_foundSo su_foundNot su_fought su_needed A R) args s 0 0 A) (F0 m 0 ls []) := by
  obtain ⟨hx, hb, hr, hml, hown, ht, hlocks⟩ := id C0
  refine lv_aload_n hx hb dX8_readSides_0 rfl (lv_at hl 1 rfl) ?_
  refine lv_aload_n hx hb dX8_readSides_1 rfl (lv_at hl 0 rfl) ?_
  refine lv_iconst (v := (2 : Int32)) hx hb dX8_readSides_2 (by decide) ?_
  obtain ⟨r_1, u_2, u_3, u_4, hc_5, h⟩ := zk_o4 h
  refine zz_vi (post := (fun r u => (r, u) = (r_1, u_2, u_3, u_4))) (w1 := fun u => (wl_X8_number ad cs tape_size tape_bytes sr_spare u.1 u.2.1 u.2.2)) (As := [.int (2 : Int32)]) (rest := [.ref h_su]) (c_X8_number l D cs ad  H.size 100000 (2 : Int32) tape_size tape_bytes sr_spare sr_at sr_numberAt sr_fault (r_1, u_2, u_3, u_4) hc_5) ⟨hx, hb, hml, hown, ht⟩ (cwV 1 ht g_X8_62 rfl rfl rfl ⟨rfl, hd_X8_number⟩ ⟨Nat.le_of_ble_eq_true rfl, Nat.le_of_ble_eq_true rfl⟩) (va_recv hK hP (ci := 8) (q0 := 2) rfl rfl) hP hD hS hK hA [0, 1, 2] rfl rfl [(ad 23), (ad 24), (ad 25)] rfl (fun _ => rfl) rfl hl.1 (Nat.le_of_ble_eq_true rfl) dX8_readSides_3 ⟨Nat.zero_le _, Nat.zero_le _⟩ (fun r u H locs hq hP hS => ?_)
  cases hq
  have hP : va_P D classes (wl_X8_readSides ad cs h_su h_su_asked tape_size tape_bytes sr_spare u_2 u_3 u_4 su_who su_against su_kind su_won su_day su_land su_undoneFrom su_askedCount su_askedBits su_first su_foundSo su_foundNot su_fought su_needed) H := hP
  have hD : va_D A (wl_X8_readSides ad cs h_su h_su_asked tape_size tape_bytes sr_spare u_2 u_3 u_4 su_who su_against su_kind su_won su_day su_land su_undoneFrom su_askedCount su_askedBits su_first su_foundSo su_foundNot su_fought su_needed) := zDk hD [(ad 23), (ad 24), (ad 25), h_su] rfl rfl
  refine va_put (D := D) (ci := 7) (v := .int r_1) (ty := .int) (C := RX7) (T := TX7) (N := 15) hx hb ht iX7 tyX7 tyX7_ok nmX7 hown hK hP hD hS 3 rfl rfl 0 (by decide) (ht _ kw_303) (fun _ h9 => h9) rfl (by decide +kernel) rfl rfl (Nat.le_of_ble_eq_true rfl) dX8_readSides_6 (fun H locs hP hD hS => ?_)
  have hP : va_P D classes (wl_X8_readSides ad cs h_su h_su_asked tape_size tape_bytes sr_spare u_2 u_3 u_4 r_1 su_against su_kind su_won su_day su_land su_undoneFrom su_askedCount su_askedBits su_first su_foundSo su_foundNot su_fought su_needed) H := hP
  have hD : va_D A (wl_X8_readSides ad cs h_su h_su_asked tape_size tape_bytes sr_spare u_2 u_3 u_4 r_1 su_against su_kind su_won su_day su_land su_undoneFrom su_askedCount su_askedBits su_first su_foundSo su_foundNot su_fought su_needed) := hD
  refine lv_aload_n hx hb dX8_readSides_9 rfl (lv_at hl 0 rfl) ?_
  refine lv_aload_n hx hb dX8_readSides_10 rfl (lv_at hl 1 rfl) ?_
  refine va_get (D := D) (ci := 7) (v := .int r_1) (C := RX7) (T := TX7) (N := 15) hx hb ht iX7 hown hK hP 3 rfl rfl 0 (by decide) (ht _ kw_303) (fun _ h9 => h9) rfl dX8_readSides_11 ?_
  refine lv_bipush (v := (20 : Int32)) hx hb dX8_readSides_14 (by decide) ?_
  refine lv_icmp_ge (tgt := 23) hx hb dX8_readSides_16 (by decide) (fun c_6 => ?_) (fun c_6 => ?_)
  · have h := zk_t c_6 h
    refine lv_iconst (v := (0 : Int32)) hx hb dX8_readSides_23 (by decide) ?_
    exact L_X8_readSides_24 C0 hK hA   (0 : Int32) u_2 u_3 u_4 r_1 su_against h H locs ls hP hD hS (lv_sub hl [0, 1] rfl)
  · have h := zk_f c_6 h
    refine lv_iconst (v := (1 : Int32)) hx hb dX8_readSides_19 (by decide) ?_
    refine lv_goto (tgt := 24) hx hb dX8_readSides_20 (by decide) ?_
    exact L_X8_readSides_24 C0 hK hA   (1 : Int32) u_2 u_3 u_4 r_1 su_against h H locs ls hP hD hS (lv_sub hl [0, 1] rfl)
set_option maxHeartbeats 4000000 in
set_option maxRecDepth 100000 in
theorem c_X8_readSides (l : Launch) (D : va_G) (cs : Nat → ClassId) (ad : Nat → Nat) (h_su : Nat) (h_su_asked : Nat) (sz : Nat)  (tape_size : Int32) (tape_bytes : Nat → Int32) (sr_spare : Value) (sr_at : Int32) (sr_numberAt : Int32) (sr_fault : Int32) (su_who : Int32) (su_against : Int32) (su_kind : Int32) (su_won : Int32) (su_day : Int32) (su_land : Int32) (su_undoneFrom : Int32) (su_askedCount : Int32) (su_askedBits : Int32) (su_first : Int32) (su_foundSo : Int32) (su_foundNot : Int32) (su_fought : Int32) (su_needed : Int32) (R : Int32 × Int32 × Int32 × Int32 × Int32) (h : f_X8_readSides    tape_size tape_bytes sr_spare sr_at sr_numberAt sr_fault su_who su_against su_kind su_won su_day su_land su_undoneFrom su_askedCount su_askedBits su_first su_foundSo su_foundNot su_fought su_needed = some R) : Met l yX8_readSides (z_X8_readSides) rm_X8_readSides (va_Pc [.ref (ad 25), .ref h_su] (zPre D cs (wl_X8_readSides ad cs h_su h_su_asked tape_size tape_bytes sr_spare sr_at sr_numberAt sr_fault su_who su_against su_kind su_won su_day su_land su_undoneFrom su_askedCount su_askedBits su_first su_foundSo su_foundNot su_fought su_needed) sz)) (Q_X8_readSides D cs ad h_su h_su_asked tape_size tape_bytes sr_spare su_kind su_won su_day su_land su_undoneFrom su_askedCount su_askedBits su_first su_foundSo su_foundNot su_fought su_needed (va_A (wl_X8_readSides ad cs h_su h_su_asked tape_size tape_bytes sr_spare sr_at sr_numberAt sr_fault su_who su_against su_kind su_won su_day su_land su_undoneFrom su_askedCount su_askedBits su_first su_foundSo su_foundNot su_fought su_needed) sz) R) 0 0 (va_A (wl_X8_readSides ad cs h_su h_su_asked tape_size tape_bytes sr_spare sr_at sr_numberAt sr_fault su_who su_against su_kind su_won su_day su_land su_undoneFrom su_askedCount su_askedBits su_first su_foundSo su_foundNot su_fought su_needed) sz) := by
  refine Met.ofW (cc := cX8_readSides) (maxL := 2) (ret := none) (by decide) rfl ?_
  intro p e s m args below meth c s₁ B hml hv
  obtain ⟨rfl, hsz, hP, hK, hD0⟩ := hv
  subst hsz
  have hD := hD0.self (sz := s.heap.size)
  have C0 : zC p s m _ meth c cX8_readSides 2 none RX8 zW := ⟨B.exec, B.bytes, B.returns, hml, findClass_of_methodNamed B.named, fun w hw => atoms_spec (ws := z_X8_readSides) B.pre w (List.mem_cons_of_mem _ hw), B.notSynchronized⟩
  have hA : ∀ q : Nat, s.heap.size ≤ q → va_A (wl_X8_readSides ad cs h_su h_su_asked tape_size tape_bytes sr_spare sr_at sr_numberAt sr_fault su_who su_against su_kind su_won su_day su_land su_undoneFrom su_askedCount su_askedBits su_first su_foundSo su_foundNot su_fought su_needed) s.heap.size q := fun q h => Or.inr h
  have hl := lv_entry ([.ref (ad 25), .ref h_su]) (n := 2) (Nat.le_of_ble_eq_true rfl)
  rw [lg_entry_eq]
  generalize (lg_sl ([.ref (ad 25), .ref h_su]) ++ List.replicate (2 - (lg_sl ([.ref (ad 25), .ref h_su])).length) Slot.unset).toArray = ls at hl ⊢
  exact L_X8_readSides_0 C0 hK hA    sr_at sr_numberAt sr_fault su_who su_against h s.heap [] ls hP hD va_S.rf hl
