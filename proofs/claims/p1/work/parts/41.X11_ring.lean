theorem kw_10 : Cond.selects RX11 yX11_firstRing yX11_firstRing ∈ zW := zwI (i := 10) (by decide +kernel) (by decide +kernel)
theorem kw_1157 : Cond.methodLink RX11 312 yX3_landsHeeded ∈ zW := zwI (i := 1157) (by decide +kernel) (by decide +kernel)
theorem kw_1158 : Cond.instanceMethod yX3_landsHeeded ∈ zW := zwI (i := 1158) (by decide +kernel) (by decide +kernel)
theorem kw_1159 : Cond.selects RX3 yX3_landsHeeded yX3_landsHeeded ∈ zW := zwI (i := 1159) (by decide +kernel) (by decide +kernel)
theorem kw_1160 : Cond.code yX3_landsHeeded cX3_landsHeeded 4 (some .int) ∈ zW := zwI (i := 1160) (by decide +kernel) (by decide +kernel)
theorem kw_1161 : Cond.methodLink RX11 315 yX11_firstRing ∈ zW := zwI (i := 1161) (by decide +kernel) (by decide +kernel)
theorem kw_1163 : Cond.instanceMethod yX11_firstRing ∈ zW := zwI (i := 1163) (by decide +kernel) (by decide +kernel)
theorem kw_1164 : Cond.code yX11_firstRing cX11_firstRing 4 (some .int) ∈ zW := zwI (i := 1164) (by decide +kernel) (by decide +kernel)
theorem dX11_ring_0 : decode cX11_ring 0 = .ok (.iload_n 1, 1) := by decide +kernel
theorem dX11_ring_1 : decode cX11_ring 1 = .ok (.invokestatic 154, 3) := by decide +kernel
theorem dX11_ring_4 : decode cX11_ring 4 = .ok (.ifCond .ne 5, 3) := by decide +kernel
theorem dX11_ring_7 : decode cX11_ring 7 = .ok (.iconst (-1), 1) := by decide +kernel
theorem dX11_ring_8 : decode cX11_ring 8 = .ok (.ireturn, 1) := by decide +kernel
theorem dX11_ring_9 : decode cX11_ring 9 = .ok (.iconst 0, 1) := by decide +kernel
theorem dX11_ring_10 : decode cX11_ring 10 = .ok (.istore_n 2, 1) := by decide +kernel
theorem dX11_ring_11 : decode cX11_ring 11 = .ok (.iload_n 2, 1) := by decide +kernel
theorem dX11_ring_12 : decode cX11_ring 12 = .ok (.bipush 8, 2) := by decide +kernel
theorem dX11_ring_14 : decode cX11_ring 14 = .ok (.if_icmp .ge 23, 3) := by decide +kernel
theorem dX11_ring_17 : decode cX11_ring 17 = .ok (.aload_n 0, 1) := by decide +kernel
theorem dX11_ring_18 : decode cX11_ring 18 = .ok (.getfield 79, 3) := by decide +kernel
theorem dX11_ring_21 : decode cX11_ring 21 = .ok (.iload_n 2, 1) := by decide +kernel
theorem dX11_ring_22 : decode cX11_ring 22 = .ok (.aload_n 0, 1) := by decide +kernel
theorem dX11_ring_23 : decode cX11_ring 23 = .ok (.getfield 21, 3) := by decide +kernel
theorem dX11_ring_26 : decode cX11_ring 26 = .ok (.iload_n 2, 1) := by decide +kernel
theorem dX11_ring_27 : decode cX11_ring 27 = .ok (.invokevirtual 312, 3) := by decide +kernel
theorem dX11_ring_30 : decode cX11_ring 30 = .ok (.iastore, 1) := by decide +kernel
theorem dX11_ring_31 : decode cX11_ring 31 = .ok (.iinc 2 1, 3) := by decide +kernel
theorem dX11_ring_34 : decode cX11_ring 34 = .ok (.goto (-23), 3) := by decide +kernel
theorem dX11_ring_37 : decode cX11_ring 37 = .ok (.iconst 2, 1) := by decide +kernel
theorem dX11_ring_38 : decode cX11_ring 38 = .ok (.istore_n 2, 1) := by decide +kernel
theorem dX11_ring_39 : decode cX11_ring 39 = .ok (.iload_n 2, 1) := by decide +kernel
theorem dX11_ring_40 : decode cX11_ring 40 = .ok (.bipush 8, 2) := by decide +kernel
theorem dX11_ring_42 : decode cX11_ring 42 = .ok (.if_icmp .gt 29, 3) := by decide +kernel
theorem dX11_ring_45 : decode cX11_ring 45 = .ok (.aload_n 0, 1) := by decide +kernel
theorem dX11_ring_46 : decode cX11_ring 46 = .ok (.iload_n 2, 1) := by decide +kernel
theorem dX11_ring_47 : decode cX11_ring 47 = .ok (.invokevirtual 315, 3) := by decide +kernel
theorem dX11_ring_50 : decode cX11_ring 50 = .ok (.istore_n 3, 1) := by decide +kernel
theorem dX11_ring_51 : decode cX11_ring 51 = .ok (.iload_n 3, 1) := by decide +kernel
theorem dX11_ring_52 : decode cX11_ring 52 = .ok (.ifCond .le 13, 3) := by decide +kernel
theorem dX11_ring_55 : decode cX11_ring 55 = .ok (.iload_n 1, 1) := by decide +kernel
theorem dX11_ring_56 : decode cX11_ring 56 = .ok (.ifCond .ne 7, 3) := by decide +kernel
theorem dX11_ring_59 : decode cX11_ring 59 = .ok (.iload_n 2, 1) := by decide +kernel
theorem dX11_ring_60 : decode cX11_ring 60 = .ok (.goto 4, 3) := by decide +kernel
theorem dX11_ring_63 : decode cX11_ring 63 = .ok (.iload_n 3, 1) := by decide +kernel
theorem dX11_ring_64 : decode cX11_ring 64 = .ok (.ireturn, 1) := by decide +kernel
theorem dX11_ring_65 : decode cX11_ring 65 = .ok (.iinc 2 1, 3) := by decide +kernel
theorem dX11_ring_68 : decode cX11_ring 68 = .ok (.goto (-29), 3) := by decide +kernel
theorem dX11_ring_71 : decode cX11_ring 71 = .ok (.bipush (-2), 2) := by decide +kernel
theorem dX11_ring_73 : decode cX11_ring 73 = .ok (.ireturn, 1) := by decide +kernel
abbrev z_X11_ring : List Cond := .code yX11_ring cX11_ring 4 (some .int) :: zW
abbrev wl_X11_ring (ad : Nat → Nat) (cs : Nat → ClassId) (h_la : Nat) (h_la_code : Nat) (root_heeded : Nat → Int32) (court_shoeCount : Int32) (court_claimCount : Int32) (court_suitCount : Int32) (court_laws : Nat → Option Nat) (inq_day : Int32) (inq_land : Int32) (inq_shoeLeftOut : Int32) (inq_names : Nat → Int32) (inq_stack : Nat → Int32) (la_code : Nat → Int32) (la_code_n : Nat) : va_W := [((ad 0), .inr (11, [.ref (ad 4), .ref (ad 15), .ref (ad 23), .ref (ad 25), .ref (ad 26), .ref (ad 28), .ref (ad 34), .ref (ad 39), .ref (ad 1), .ref (ad 2), .ref (ad 3)])), ((ad 3), .inl (cs 0, 8, .inl root_heeded)), ((ad 4), .inr (2, [.ref (ad 5), .ref (ad 6), .ref (ad 7), .ref (ad 8), .ref (ad 9), .ref (ad 10), .ref (ad 11), .ref (ad 12), .ref (ad 13), .ref (ad 14), .int court_shoeCount, .int court_claimCount, .int court_suitCount])), ((ad 14), .inl (cs 6, 32, .inr (.inr (.inr (.inr court_laws))))), ((ad 15), .inr (3, [.ref (ad 4), .ref (ad 16), .ref (ad 17), .ref (ad 18), .ref (ad 19), .ref (ad 20), .ref (ad 21), .ref (ad 22), .int inq_day, .int inq_land, .int inq_shoeLeftOut])), ((ad 16), .inl (cs 0, 11, .inl inq_names)), ((ad 17), .inl (cs 0, 36, .inl inq_stack)), (h_la, .inr (4, [.ref h_la_code])), (h_la_code, .inl (cs 0, la_code_n, .inl la_code))]
def Q_X11_ring (D : va_G) (cs : Nat → ClassId) (ad : Nat → Nat) (h_la : Nat) (h_la_code : Nat) (court_shoeCount : Int32) (court_claimCount : Int32) (court_suitCount : Int32) (court_laws : Nat → Option Nat) (inq_day : Int32) (inq_shoeLeftOut : Int32) (la_code : Nat → Int32) (la_code_n : Nat) (A : Nat → Prop) (R : Int32 × (Nat → Int32) × Int32 × (Nat → Int32) × (Nat → Int32)) : Array Value → State → Outcome → State → Prop :=
  va_Qi (fun (r : Int32) (u : (Nat → Int32) × Int32 × (Nat → Int32) × (Nat → Int32)) => (r, u) = R) (fun (u : (Nat → Int32) × Int32 × (Nat → Int32) × (Nat → Int32)) (t : State) => va_P D classes (wl_X11_ring ad cs h_la h_la_code u.1 court_shoeCount court_claimCount court_suitCount court_laws inq_day u.2.1 inq_shoeLeftOut u.2.2.1 u.2.2.2 la_code la_code_n) t.heap ∧ va_D A (wl_X11_ring ad cs h_la h_la_code u.1 court_shoeCount court_claimCount court_suitCount court_laws inq_day u.2.1 inq_shoeLeftOut u.2.2.1 u.2.2.2 la_code la_code_n)) A
abbrev rm_X11_ring : Room := { frames := 62, cells := 0, slots := 0, locals := 1670 }
theorem g_X11_312 : GoodIn zW (wsV RX11 312 RX3 yX3_landsHeeded z_X3_landsHeeded) := zGV kw_1157 kw_1158 kw_1159 kw_77 kw_1160
theorem g_X11_315 : GoodIn zW (wsV RX11 315 RX11 yX11_firstRing z_X11_firstRing) := zGV kw_1161 kw_1163 kw_10 kw_75 kw_1164
def B_X11_ring_39 (h_la : Nat)  (g11 : Int32 → Int32 → (Nat → Int32) → Int32 → (Nat → Int32) → (Nat → Int32) → (Option (Int32 × (Nat → Int32) × Int32 × (Nat → Int32) × (Nat → Int32)))) (g39 : Int32 → Int32 → (Nat → Int32) → Int32 → (Nat → Int32) → (Nat → Int32) → (Option (Int32 × (Nat → Int32) × Int32 × (Nat → Int32) × (Nat → Int32)))) (court_shoeCount : Int32) (court_claimCount : Int32) (court_suitCount : Int32) (court_laws : Nat → Option Nat) (inq_day : Int32) (inq_shoeLeftOut : Int32) (la_code : Nat → Int32) (la_code_n : Nat) (x1 : Int32) (x2 : Int32) (root_heeded : Nat → Int32) (inq_land : Int32) (inq_names : Nat → Int32) (inq_stack : Nat → Int32) : Option (Int32 × (Nat → Int32) × Int32 × (Nat → Int32) × (Nat → Int32)) :=
  (if (8 : Int32) < x2 then (some ((-2 : Int32), root_heeded, inq_land, inq_names, inq_stack)) else (zk_b2 (f_X11_firstRing 4000 x2 root_heeded) (fun r_15 u_16 => (if r_15 ≤ 0 then (zk_let (x2 + (1 : Int32)) (fun v_19 => (g39 x1 v_19 root_heeded inq_land inq_names inq_stack))) else (if x1 = 0 then (some (x2, root_heeded, inq_land, inq_names, inq_stack)) else (some (r_15, root_heeded, inq_land, inq_names, inq_stack)))))))
def B_X11_ring_11 (h_la : Nat)  (g11 : Int32 → Int32 → (Nat → Int32) → Int32 → (Nat → Int32) → (Nat → Int32) → (Option (Int32 × (Nat → Int32) × Int32 × (Nat → Int32) × (Nat → Int32)))) (g39 : Int32 → Int32 → (Nat → Int32) → Int32 → (Nat → Int32) → (Nat → Int32) → (Option (Int32 × (Nat → Int32) × Int32 × (Nat → Int32) × (Nat → Int32)))) (court_shoeCount : Int32) (court_claimCount : Int32) (court_suitCount : Int32) (court_laws : Nat → Option Nat) (inq_day : Int32) (inq_shoeLeftOut : Int32) (la_code : Nat → Int32) (la_code_n : Nat) (x1 : Int32) (x2 : Int32) (root_heeded : Nat → Int32) (inq_land : Int32) (inq_names : Nat → Int32) (inq_stack : Nat → Int32) : Option (Int32 × (Nat → Int32) × Int32 × (Nat → Int32) × (Nat → Int32)) :=
  (if (8 : Int32) ≤ x2 then (g39 x1 (2 : Int32) root_heeded inq_land inq_names inq_stack) else (zk_b4 (f_X3_landsHeeded h_la 4000 x2 court_shoeCount court_claimCount court_suitCount court_laws inq_day inq_land inq_shoeLeftOut inq_names inq_stack la_code la_code_n) (fun r_6 u_7 u_8 u_9 => (if (x2 < 0 ∨ 8 ≤ x2.toNatClampNeg) then none else (zk_let (upd root_heeded x2.toNatClampNeg r_6) (fun f_12 => (zk_let (x2 + (1 : Int32)) (fun v_13 => (g11 x1 v_13 f_12 u_7 u_8 u_9)))))))))
def B_X11_ring_0 (h_la : Nat)  (g11 : Int32 → Int32 → (Nat → Int32) → Int32 → (Nat → Int32) → (Nat → Int32) → (Option (Int32 × (Nat → Int32) × Int32 × (Nat → Int32) × (Nat → Int32)))) (g39 : Int32 → Int32 → (Nat → Int32) → Int32 → (Nat → Int32) → (Nat → Int32) → (Option (Int32 × (Nat → Int32) × Int32 × (Nat → Int32) × (Nat → Int32)))) (court_shoeCount : Int32) (court_claimCount : Int32) (court_suitCount : Int32) (court_laws : Nat → Option Nat) (inq_day : Int32) (inq_shoeLeftOut : Int32) (la_code : Nat → Int32) (la_code_n : Nat) (x1 : Int32) (root_heeded : Nat → Int32) (inq_land : Int32) (inq_names : Nat → Int32) (inq_stack : Nat → Int32) : Option (Int32 × (Nat → Int32) × Int32 × (Nat → Int32) × (Nat → Int32)) :=
  (zk_b2 (f_X11_isChoice x1) (fun r_1 u_2 => (if r_1 = 0 then (some ((-1 : Int32), root_heeded, inq_land, inq_names, inq_stack)) else (g11 x1 (0 : Int32) root_heeded inq_land inq_names inq_stack))))
def G_X11_ring (h_la : Nat)  (court_shoeCount : Int32) (court_claimCount : Int32) (court_suitCount : Int32) (court_laws : Nat → Option Nat) (inq_day : Int32) (inq_shoeLeftOut : Int32) (la_code : Nat → Int32) (la_code_n : Nat) (n : Nat) : (Int32 → Int32 → (Nat → Int32) → Int32 → (Nat → Int32) → (Nat → Int32) → (Option (Int32 × (Nat → Int32) × Int32 × (Nat → Int32) × (Nat → Int32)))) × (Int32 → Int32 → (Nat → Int32) → Int32 → (Nat → Int32) → (Nat → Int32) → (Option (Int32 × (Nat → Int32) × Int32 × (Nat → Int32) × (Nat → Int32)))) :=
  Nat.rec (motive := fun _ => (Int32 → Int32 → (Nat → Int32) → Int32 → (Nat → Int32) → (Nat → Int32) → (Option (Int32 × (Nat → Int32) × Int32 × (Nat → Int32) × (Nat → Int32)))) × (Int32 → Int32 → (Nat → Int32) → Int32 → (Nat → Int32) → (Nat → Int32) → (Option (Int32 × (Nat → Int32) × Int32 × (Nat → Int32) × (Nat → Int32))))) ((fun _ _ _ _ _ _ => none), (fun _ _ _ _ _ _ => none)) (fun _ ih => (B_X11_ring_11 h_la  ih.1 ih.2 court_shoeCount court_claimCount court_suitCount court_laws inq_day inq_shoeLeftOut la_code la_code_n, B_X11_ring_39 h_la  ih.1 ih.2 court_shoeCount court_claimCount court_suitCount court_laws inq_day inq_shoeLeftOut la_code la_code_n)) n
def f_X11_ring (h_la : Nat)  (n : Nat) (x1 : Int32) (root_heeded : Nat → Int32) (court_shoeCount : Int32) (court_claimCount : Int32) (court_suitCount : Int32) (court_laws : Nat → Option Nat) (inq_day : Int32) (inq_land : Int32) (inq_shoeLeftOut : Int32) (inq_names : Nat → Int32) (inq_stack : Nat → Int32) (la_code : Nat → Int32) (la_code_n : Nat) : Option (Int32 × (Nat → Int32) × Int32 × (Nat → Int32) × (Nat → Int32)) := B_X11_ring_0 h_la  ((G_X11_ring h_la  court_shoeCount court_claimCount court_suitCount court_laws inq_day inq_shoeLeftOut la_code la_code_n n).1) ((G_X11_ring h_la  court_shoeCount court_claimCount court_suitCount court_laws inq_day inq_shoeLeftOut la_code la_code_n n).2) court_shoeCount court_claimCount court_suitCount court_laws inq_day inq_shoeLeftOut la_code la_code_n x1 root_heeded inq_land inq_names inq_stack
set_option maxHeartbeats 4000000 in
set_option maxRecDepth 100000 in
theorem L_X11_ring_39 {p : Program} {l : Launch} {e : Env} {s : State} {m : MethodId} {args : Array Value} {below : List Frame} {meth : Method} {c : Code} {A : Nat → Prop} {D : va_G} {cs : Nat → ClassId} {ad : Nat → Nat} {h_la : Nat} {h_la_code : Nat} {court_shoeCount : Int32} {court_claimCount : Int32} {court_suitCount : Int32} {court_laws : Nat → Option Nat} {inq_day : Int32} {inq_shoeLeftOut : Int32} {la_code : Nat → Int32} {la_code_n : Nat} {R : Int32 × (Nat → Int32) × Int32 × (Nat → Int32) × (Nat → Int32)} {g11 : Int32 → Int32 → (Nat → Int32) → Int32 → (Nat → Int32) → (Nat → Int32) → (Option (Int32 × (Nat → Int32) × Int32 × (Nat → Int32) × (Nat → Int32)))} {g39 : Int32 → Int32 → (Nat → Int32) → Int32 → (Nat → Int32) → (Nat → Int32) → (Option (Int32 × (Nat → Int32) × Int32 × (Nat → Int32) × (Nat → Int32)))} (C0 : zC p s m args meth c cX11_ring 4 (some .int) RX11 zW) (hK : va_K D classes (zT cs) s) (hA : ∀ q : Nat, s.heap.size ≤ q → A q) (ih11 : ∀ (x1 : Int32) (x2 : Int32) (root_heeded : Nat → Int32) (inq_land : Int32) (inq_names : Nat → Int32) (inq_stack : Nat → Int32) (h : g11 x1 x2 root_heeded inq_land inq_names inq_stack = some R) (H : Heap) (locs : List Loc) (ls : Array Slot) (hP : va_P D classes (wl_X11_ring ad cs h_la h_la_code root_heeded court_shoeCount court_claimCount court_suitCount court_laws inq_day inq_land inq_shoeLeftOut inq_names inq_stack la_code la_code_n) H) (hD : va_D A (wl_X11_ring ad cs h_la h_la_code root_heeded court_shoeCount court_claimCount court_suitCount court_laws inq_day inq_land inq_shoeLeftOut inq_names inq_stack la_code la_code_n)) (hS : va_S A s.heap H locs) (hl : lv_has ls 4 [(0, .ref (ad 0)), (1, .int x1), (2, .int x2)]), W p l e rm_X11_ring s m args below meth c H locs 0 0 (MQ below (Q_X11_ring D cs ad h_la h_la_code court_shoeCount court_claimCount court_suitCount court_laws inq_day inq_shoeLeftOut la_code la_code_n A R) args s 0 0 A) (F0 m 11 ls [])) (ih39 : ∀ (x1 : Int32) (x2 : Int32) (root_heeded : Nat → Int32) (inq_land : Int32) (inq_names : Nat → Int32) (inq_stack : Nat → Int32) (h : g39 x1 x2 root_heeded inq_land inq_names inq_stack = some R) (H : Heap) (locs : List Loc) (ls : Array Slot) (hP : va_P D classes (wl_X11_ring ad cs h_la h_la_code root_heeded court_shoeCount court_claimCount court_suitCount court_laws inq_day inq_land inq_shoeLeftOut inq_names inq_stack la_code la_code_n) H) (hD : va_D A (wl_X11_ring ad cs h_la h_la_code root_heeded court_shoeCount court_claimCount court_suitCount court_laws inq_day inq_land inq_shoeLeftOut inq_names inq_stack la_code la_code_n)) (hS : va_S A s.heap H locs) (hl : lv_has ls 4 [(0, .ref (ad 0)), (1, .int x1), (2, .int x2)]), W p l e rm_X11_ring s m args below meth c H locs 0 0 (MQ below (Q_X11_ring D cs ad h_la h_la_code court_shoeCount court_claimCount court_suitCount court_laws inq_day inq_shoeLeftOut la_code la_code_n A R) args s 0 0 A) (F0 m 39 ls [])) (x1 : Int32) (x2 : Int32) (root_heeded : Nat → Int32) (inq_land : Int32) (inq_names : Nat → Int32) (inq_stack : Nat → Int32) (h : B_X11_ring_39 h_la g11 g39 court_shoeCount court_claimCount court_suitCount court_laws inq_day inq_shoeLeftOut la_code la_code_n x1 x2 root_heeded inq_land inq_names inq_stack = some R) (H : Heap) (locs : List Loc) (ls : Array Slot) (hP : va_P D classes (wl_X11_ring ad cs h_la h_la_code root_heeded court_shoeCount court_claimCount court_suitCount court_laws inq_day inq_land inq_shoeLeftOut inq_names inq_stack la_code la_code_n) H) (hD : va_D A (wl_X11_ring ad cs h_la h_la_code root_heeded court_shoeCount court_claimCount court_suitCount court_laws inq_day inq_land inq_shoeLeftOut inq_names inq_stack la_code la_code_n)) (hS : va_S A s.heap H locs) (hl : lv_has ls 4 [(0, .ref (ad 0)), (1, .int x1), (2, .int x2)]) : W p l e rm_X11_ring s m args below meth c H locs 0 0 (MQ below (Q_X11_ring D cs ad h_la h_la_code court_shoeCount court_claimCount court_suitCount court_laws inq_day inq_shoeLeftOut la_code la_code_n A R) args s 0 0 A) (F0 m 39 ls []) := by
  obtain ⟨hx, hb, hr, hml, hown, ht, hlocks⟩ := id C0
  refine lv_iload_n hx hb dX11_ring_39 rfl (lv_at hl 2 rfl) ?_
  refine lv_bipush (v := (8 : Int32)) hx hb dX11_ring_40 (by decide) ?_
  refine lv_icmp_gt (tgt := 71) hx hb dX11_ring_42 (by decide) (fun c_14 => ?_) (fun c_14 => ?_)
  · have h := zk_t c_14 h
    refine lv_bipush (v := (-2 : Int32)) hx hb dX11_ring_71 (by decide) ?_
    exact W.iret (v := (-2 : Int32)) hx hb hr (fun t ht2 hW => ⟨⟨(-2 : Int32), (root_heeded, inq_land, inq_names, inq_stack), rfl, Option.some.inj h, by rw [ht2]; exact hP, hD⟩, hS.F ht2⟩) hS.2.2 dX11_ring_73 hlocks
  · have h := zk_f c_14 h
    refine lv_aload_n hx hb dX11_ring_45 rfl (lv_at hl 0 rfl) ?_
    refine lv_iload_n hx hb dX11_ring_46 rfl (lv_at hl 2 rfl) ?_
    obtain ⟨r_15, u_16, hc_17, h⟩ := zk_o2 h
    refine zk_vi (post := (fun r u => (r, u) = (r_15, u_16))) (w1 := fun u => (wl_X11_firstRing ad cs root_heeded)) (As := [.int x2]) (rest := []) (c_X11_firstRing l D cs ad  H.size 4000 x2 root_heeded _ hc_17) ⟨hx, hb, hml, hown, ht⟩ (cwV 1 ht g_X11_315 rfl rfl rfl (by decide +kernel) ⟨Nat.le_of_ble_eq_true rfl, Nat.le_of_ble_eq_true rfl⟩) (va_recv hK hP (ci := 11) (q0 := 0) rfl rfl) hP hD hS hK hA [0, 1] [2, 3, 4, 5, 6, 7, 8] rfl rfl rfl rfl (by decide) rfl hl.1 (Nat.le_of_ble_eq_true rfl) dX11_ring_47 ⟨Nat.zero_le _, Nat.zero_le _⟩ (fun r u H locs hq hP hD hS => ?_)
    cases hq
    have hP : va_P D classes (wl_X11_ring ad cs h_la h_la_code root_heeded court_shoeCount court_claimCount court_suitCount court_laws inq_day inq_land inq_shoeLeftOut inq_names inq_stack la_code la_code_n) H := hP.sub [7, 8, 0, 1, 2, 3, 4, 5, 6] rfl
    have hD : va_D A (wl_X11_ring ad cs h_la h_la_code root_heeded court_shoeCount court_claimCount court_suitCount court_laws inq_day inq_land inq_shoeLeftOut inq_names inq_stack la_code la_code_n) := hD.sub [7, 8, 0, 1, 2, 3, 4, 5, 6] rfl rfl
    refine lv_istore_n (lv' := [(3, .int r_15), (0, .ref (ad 0)), (1, .int x1), (2, .int x2)]) hx hb dX11_ring_50 rfl hl (by decide) rfl (fun ls hl => ?_)
    refine lv_iload_n hx hb dX11_ring_51 rfl (lv_at hl 0 rfl) ?_
    refine lv_if_le (tgt := 65) hx hb dX11_ring_52 (by decide) (fun c_18 => ?_) (fun c_18 => ?_)
    · have h := zk_t c_18 h
      obtain ⟨v_19, ev_19, h⟩ := zk_lt h
      refine lv_iinc (v := v_19) (lv' := [(2, .int v_19), (3, .int r_15), (0, .ref (ad 0)), (1, .int x1)]) hx hb dX11_ring_65 hl (k := 3) rfl (by rw [ev_19]; rfl) (by decide) rfl (fun ls hl => ?_)
      refine lv_goto (tgt := 39) hx hb dX11_ring_68 (by decide) ?_
      exact ih39 x1 v_19 root_heeded inq_land inq_names inq_stack h H locs ls hP hD hS (lv_sub hl [2, 3, 0] rfl)
    · have h := zk_f c_18 h
      refine lv_iload_n hx hb dX11_ring_55 rfl (lv_at hl 2 rfl) ?_
      refine lv_if_ne (tgt := 63) hx hb dX11_ring_56 (by decide) (fun c_20 => ?_) (fun c_20 => ?_)
      · have h := zk_f c_20 h
        refine lv_iload_n hx hb dX11_ring_63 rfl (lv_at hl 0 rfl) ?_
        exact W.iret (v := r_15) hx hb hr (fun t ht2 hW => ⟨⟨r_15, (root_heeded, inq_land, inq_names, inq_stack), rfl, Option.some.inj h, by rw [ht2]; exact hP, hD⟩, hS.F ht2⟩) hS.2.2 dX11_ring_64 hlocks
      · have h := zk_t c_20 h
        refine lv_iload_n hx hb dX11_ring_59 rfl (lv_at hl 3 rfl) ?_
        refine lv_goto (tgt := 64) hx hb dX11_ring_60 (by decide) ?_
        exact W.iret (v := x2) hx hb hr (fun t ht2 hW => ⟨⟨x2, (root_heeded, inq_land, inq_names, inq_stack), rfl, Option.some.inj h, by rw [ht2]; exact hP, hD⟩, hS.F ht2⟩) hS.2.2 dX11_ring_64 hlocks
set_option maxHeartbeats 4000000 in
set_option maxRecDepth 100000 in
theorem L_X11_ring_11 {p : Program} {l : Launch} {e : Env} {s : State} {m : MethodId} {args : Array Value} {below : List Frame} {meth : Method} {c : Code} {A : Nat → Prop} {D : va_G} {cs : Nat → ClassId} {ad : Nat → Nat} {h_la : Nat} {h_la_code : Nat} {court_shoeCount : Int32} {court_claimCount : Int32} {court_suitCount : Int32} {court_laws : Nat → Option Nat} {inq_day : Int32} {inq_shoeLeftOut : Int32} {la_code : Nat → Int32} {la_code_n : Nat} {R : Int32 × (Nat → Int32) × Int32 × (Nat → Int32) × (Nat → Int32)} {g11 : Int32 → Int32 → (Nat → Int32) → Int32 → (Nat → Int32) → (Nat → Int32) → (Option (Int32 × (Nat → Int32) × Int32 × (Nat → Int32) × (Nat → Int32)))} {g39 : Int32 → Int32 → (Nat → Int32) → Int32 → (Nat → Int32) → (Nat → Int32) → (Option (Int32 × (Nat → Int32) × Int32 × (Nat → Int32) × (Nat → Int32)))} (C0 : zC p s m args meth c cX11_ring 4 (some .int) RX11 zW) (hK : va_K D classes (zT cs) s) (hA : ∀ q : Nat, s.heap.size ≤ q → A q) (ih11 : ∀ (x1 : Int32) (x2 : Int32) (root_heeded : Nat → Int32) (inq_land : Int32) (inq_names : Nat → Int32) (inq_stack : Nat → Int32) (h : g11 x1 x2 root_heeded inq_land inq_names inq_stack = some R) (H : Heap) (locs : List Loc) (ls : Array Slot) (hP : va_P D classes (wl_X11_ring ad cs h_la h_la_code root_heeded court_shoeCount court_claimCount court_suitCount court_laws inq_day inq_land inq_shoeLeftOut inq_names inq_stack la_code la_code_n) H) (hD : va_D A (wl_X11_ring ad cs h_la h_la_code root_heeded court_shoeCount court_claimCount court_suitCount court_laws inq_day inq_land inq_shoeLeftOut inq_names inq_stack la_code la_code_n)) (hS : va_S A s.heap H locs) (hl : lv_has ls 4 [(0, .ref (ad 0)), (1, .int x1), (2, .int x2)]), W p l e rm_X11_ring s m args below meth c H locs 0 0 (MQ below (Q_X11_ring D cs ad h_la h_la_code court_shoeCount court_claimCount court_suitCount court_laws inq_day inq_shoeLeftOut la_code la_code_n A R) args s 0 0 A) (F0 m 11 ls [])) (ih39 : ∀ (x1 : Int32) (x2 : Int32) (root_heeded : Nat → Int32) (inq_land : Int32) (inq_names : Nat → Int32) (inq_stack : Nat → Int32) (h : g39 x1 x2 root_heeded inq_land inq_names inq_stack = some R) (H : Heap) (locs : List Loc) (ls : Array Slot) (hP : va_P D classes (wl_X11_ring ad cs h_la h_la_code root_heeded court_shoeCount court_claimCount court_suitCount court_laws inq_day inq_land inq_shoeLeftOut inq_names inq_stack la_code la_code_n) H) (hD : va_D A (wl_X11_ring ad cs h_la h_la_code root_heeded court_shoeCount court_claimCount court_suitCount court_laws inq_day inq_land inq_shoeLeftOut inq_names inq_stack la_code la_code_n)) (hS : va_S A s.heap H locs) (hl : lv_has ls 4 [(0, .ref (ad 0)), (1, .int x1), (2, .int x2)]), W p l e rm_X11_ring s m args below meth c H locs 0 0 (MQ below (Q_X11_ring D cs ad h_la h_la_code court_shoeCount court_claimCount court_suitCount court_laws inq_day inq_shoeLeftOut la_code la_code_n A R) args s 0 0 A) (F0 m 39 ls [])) (x1 : Int32) (x2 : Int32) (root_heeded : Nat → Int32) (inq_land : Int32) (inq_names : Nat → Int32) (inq_stack : Nat → Int32) (h : B_X11_ring_11 h_la g11 g39 court_shoeCount court_claimCount court_suitCount court_laws inq_day inq_shoeLeftOut la_code la_code_n x1 x2 root_heeded inq_land inq_names inq_stack = some R) (H : Heap) (locs : List Loc) (ls : Array Slot) (hP : va_P D classes (wl_X11_ring ad cs h_la h_la_code root_heeded court_shoeCount court_claimCount court_suitCount court_laws inq_day inq_land inq_shoeLeftOut inq_names inq_stack la_code la_code_n) H) (hD : va_D A (wl_X11_ring ad cs h_la h_la_code root_heeded court_shoeCount court_claimCount court_suitCount court_laws inq_day inq_land inq_shoeLeftOut inq_names inq_stack la_code la_code_n)) (hS : va_S A s.heap H locs) (hl : lv_has ls 4 [(0, .ref (ad 0)), (1, .int x1), (2, .int x2)]) : W p l e rm_X11_ring s m args below meth c H locs 0 0 (MQ below (Q_X11_ring D cs ad h_la h_la_code court_shoeCount court_claimCount court_suitCount court_laws inq_day inq_shoeLeftOut la_code la_code_n A R) args s 0 0 A) (F0 m 11 ls []) := by
  obtain ⟨hx, hb, hr, hml, hown, ht, hlocks⟩ := id C0
  refine lv_iload_n hx hb dX11_ring_11 rfl (lv_at hl 2 rfl) ?_
  refine lv_bipush (v := (8 : Int32)) hx hb dX11_ring_12 (by decide) ?_
  refine lv_icmp_ge (tgt := 37) hx hb dX11_ring_14 (by decide) (fun c_5 => ?_) (fun c_5 => ?_)
  · have h := zk_t c_5 h
    refine lv_iconst (v := (2 : Int32)) hx hb dX11_ring_37 (by decide) ?_
    refine lv_istore_n (lv' := [(2, .int (2 : Int32)), (0, .ref (ad 0)), (1, .int x1)]) hx hb dX11_ring_38 rfl hl (by decide) rfl (fun ls hl => ?_)
    exact ih39 x1 (2 : Int32) root_heeded inq_land inq_names inq_stack h H locs ls hP hD hS (lv_sub hl [1, 2, 0] rfl)
  · have h := zk_f c_5 h
    refine lv_aload_n hx hb dX11_ring_17 rfl (lv_at hl 0 rfl) ?_
    refine va_get (D := D) (ci := 11) (v := .ref (ad 3)) (C := RX11) (T := TX11) (N := 11) hx hb ht iX11 hown hK hP 0 rfl rfl 10 (by decide) (ht _ kw_706) (fun _ h9 => h9) rfl dX11_ring_18 ?_
    refine lv_iload_n hx hb dX11_ring_21 rfl (lv_at hl 2 rfl) ?_
    refine lv_aload_n hx hb dX11_ring_22 rfl (lv_at hl 0 rfl) ?_
    refine va_get (D := D) (ci := 11) (v := .ref (ad 15)) (C := RX11) (T := TX11) (N := 11) hx hb ht iX11 hown hK hP 0 rfl rfl 1 (by decide) (ht _ kw_697) (fun _ h9 => h9) rfl dX11_ring_23 ?_
    refine lv_iload_n hx hb dX11_ring_26 rfl (lv_at hl 2 rfl) ?_
    obtain ⟨r_6, u_7, u_8, u_9, hc_10, h⟩ := zk_o4 h
    refine zk_vi (post := (fun r u => (r, u) = (r_6, u_7, u_8, u_9))) (w1 := fun u => (wl_X3_landsHeeded ad cs h_la h_la_code court_shoeCount court_claimCount court_suitCount court_laws inq_day u.1 inq_shoeLeftOut u.2.1 u.2.2 la_code la_code_n)) (As := [.int x2]) (rest := [.int x2, .ref (ad 3)]) (c_X3_landsHeeded l D cs ad h_la h_la_code H.size 4000 x2 court_shoeCount court_claimCount court_suitCount court_laws inq_day inq_land inq_shoeLeftOut inq_names inq_stack la_code la_code_n _ hc_10) ⟨hx, hb, hml, hown, ht⟩ (cwV 1 ht g_X11_312 rfl rfl rfl (by decide +kernel) ⟨Nat.le_of_ble_eq_true rfl, Nat.le_of_ble_eq_true rfl⟩) (va_recv hK hP (ci := 3) (q0 := 4) rfl rfl) hP hD hS hK hA [2, 3, 4, 5, 6, 7, 8] [0, 1] rfl rfl rfl rfl (by decide) rfl hl.1 (Nat.le_of_ble_eq_true rfl) dX11_ring_27 ⟨Nat.zero_le _, Nat.zero_le _⟩ (fun r u H locs hq hP hD hS => ?_)
    cases hq
    have hP : va_P D classes (wl_X11_ring ad cs h_la h_la_code root_heeded court_shoeCount court_claimCount court_suitCount court_laws inq_day u_7 inq_shoeLeftOut u_8 u_9 la_code la_code_n) H := hP.sub [0, 1, 2, 3, 4, 5, 6, 7, 8] rfl
    have hD : va_D A (wl_X11_ring ad cs h_la h_la_code root_heeded court_shoeCount court_claimCount court_suitCount court_laws inq_day u_7 inq_shoeLeftOut u_8 u_9 la_code la_code_n) := hD.sub [0, 1, 2, 3, 4, 5, 6, 7, 8] rfl rfl
    obtain ⟨g_11, h⟩ := zk_gd h
    obtain ⟨f_12, ef_12, h⟩ := zk_lt h
    refine va_iast hx hb hK hP hD hS 1 0 rfl rfl g_11 dX11_ring_30 (fun H locs hP hD hS => ?_)
    have hP : va_P D classes (wl_X11_ring ad cs h_la h_la_code f_12 court_shoeCount court_claimCount court_suitCount court_laws inq_day u_7 inq_shoeLeftOut u_8 u_9 la_code la_code_n) H := by rw [ef_12]; exact hP
    have hD : va_D A (wl_X11_ring ad cs h_la h_la_code f_12 court_shoeCount court_claimCount court_suitCount court_laws inq_day u_7 inq_shoeLeftOut u_8 u_9 la_code la_code_n) := by rw [ef_12]; exact hD
    obtain ⟨v_13, ev_13, h⟩ := zk_lt h
    refine lv_iinc (v := v_13) (lv' := [(2, .int v_13), (0, .ref (ad 0)), (1, .int x1)]) hx hb dX11_ring_31 hl (k := 2) rfl (by rw [ev_13]; rfl) (by decide) rfl (fun ls hl => ?_)
    refine lv_goto (tgt := 11) hx hb dX11_ring_34 (by decide) ?_
    exact ih11 x1 v_13 f_12 u_7 u_8 u_9 h H locs ls hP hD hS (lv_sub hl [1, 2, 0] rfl)
set_option maxHeartbeats 4000000 in
set_option maxRecDepth 100000 in
theorem L_X11_ring_0 {p : Program} {l : Launch} {e : Env} {s : State} {m : MethodId} {args : Array Value} {below : List Frame} {meth : Method} {c : Code} {A : Nat → Prop} {D : va_G} {cs : Nat → ClassId} {ad : Nat → Nat} {h_la : Nat} {h_la_code : Nat} {court_shoeCount : Int32} {court_claimCount : Int32} {court_suitCount : Int32} {court_laws : Nat → Option Nat} {inq_day : Int32} {inq_shoeLeftOut : Int32} {la_code : Nat → Int32} {la_code_n : Nat} {R : Int32 × (Nat → Int32) × Int32 × (Nat → Int32) × (Nat → Int32)} {g11 : Int32 → Int32 → (Nat → Int32) → Int32 → (Nat → Int32) → (Nat → Int32) → (Option (Int32 × (Nat → Int32) × Int32 × (Nat → Int32) × (Nat → Int32)))} {g39 : Int32 → Int32 → (Nat → Int32) → Int32 → (Nat → Int32) → (Nat → Int32) → (Option (Int32 × (Nat → Int32) × Int32 × (Nat → Int32) × (Nat → Int32)))} (C0 : zC p s m args meth c cX11_ring 4 (some .int) RX11 zW) (hK : va_K D classes (zT cs) s) (hA : ∀ q : Nat, s.heap.size ≤ q → A q) (ih11 : ∀ (x1 : Int32) (x2 : Int32) (root_heeded : Nat → Int32) (inq_land : Int32) (inq_names : Nat → Int32) (inq_stack : Nat → Int32) (h : g11 x1 x2 root_heeded inq_land inq_names inq_stack = some R) (H : Heap) (locs : List Loc) (ls : Array Slot) (hP : va_P D classes (wl_X11_ring ad cs h_la h_la_code root_heeded court_shoeCount court_claimCount court_suitCount court_laws inq_day inq_land inq_shoeLeftOut inq_names inq_stack la_code la_code_n) H) (hD : va_D A (wl_X11_ring ad cs h_la h_la_code root_heeded court_shoeCount court_claimCount court_suitCount court_laws inq_day inq_land inq_shoeLeftOut inq_names inq_stack la_code la_code_n)) (hS : va_S A s.heap H locs) (hl : lv_has ls 4 [(0, .ref (ad 0)), (1, .int x1), (2, .int x2)]), W p l e rm_X11_ring s m args below meth c H locs 0 0 (MQ below (Q_X11_ring D cs ad h_la h_la_code court_shoeCount court_claimCount court_suitCount court_laws inq_day inq_shoeLeftOut la_code la_code_n A R) args s 0 0 A) (F0 m 11 ls [])) (ih39 : ∀ (x1 : Int32) (x2 : Int32) (root_heeded : Nat → Int32) (inq_land : Int32) (inq_names : Nat → Int32) (inq_stack : Nat → Int32) (h : g39 x1 x2 root_heeded inq_land inq_names inq_stack = some R) (H : Heap) (locs : List Loc) (ls : Array Slot) (hP : va_P D classes (wl_X11_ring ad cs h_la h_la_code root_heeded court_shoeCount court_claimCount court_suitCount court_laws inq_day inq_land inq_shoeLeftOut inq_names inq_stack la_code la_code_n) H) (hD : va_D A (wl_X11_ring ad cs h_la h_la_code root_heeded court_shoeCount court_claimCount court_suitCount court_laws inq_day inq_land inq_shoeLeftOut inq_names inq_stack la_code la_code_n)) (hS : va_S A s.heap H locs) (hl : lv_has ls 4 [(0, .ref (ad 0)), (1, .int x1), (2, .int x2)]), W p l e rm_X11_ring s m args below meth c H locs 0 0 (MQ below (Q_X11_ring D cs ad h_la h_la_code court_shoeCount court_claimCount court_suitCount court_laws inq_day inq_shoeLeftOut la_code la_code_n A R) args s 0 0 A) (F0 m 39 ls [])) (x1 : Int32) (root_heeded : Nat → Int32) (inq_land : Int32) (inq_names : Nat → Int32) (inq_stack : Nat → Int32) (h : B_X11_ring_0 h_la g11 g39 court_shoeCount court_claimCount court_suitCount court_laws inq_day inq_shoeLeftOut la_code la_code_n x1 root_heeded inq_land inq_names inq_stack = some R) (H : Heap) (locs : List Loc) (ls : Array Slot) (hP : va_P D classes (wl_X11_ring ad cs h_la h_la_code root_heeded court_shoeCount court_claimCount court_suitCount court_laws inq_day inq_land inq_shoeLeftOut inq_names inq_stack la_code la_code_n) H) (hD : va_D A (wl_X11_ring ad cs h_la h_la_code root_heeded court_shoeCount court_claimCount court_suitCount court_laws inq_day inq_land inq_shoeLeftOut inq_names inq_stack la_code la_code_n)) (hS : va_S A s.heap H locs) (hl : lv_has ls 4 [(0, .ref (ad 0)), (1, .int x1)]) : W p l e rm_X11_ring s m args below meth c H locs 0 0 (MQ below (Q_X11_ring D cs ad h_la h_la_code court_shoeCount court_claimCount court_suitCount court_laws inq_day inq_shoeLeftOut la_code la_code_n A R) args s 0 0 A) (F0 m 0 ls []) := by
  obtain ⟨hx, hb, hr, hml, hown, ht, hlocks⟩ := id C0
  refine lv_iload_n hx hb dX11_ring_0 rfl (lv_at hl 1 rfl) ?_
  obtain ⟨r_1, u_2, hc_3, h⟩ := zk_o2 h
  refine zk_si (post := (fun r u => (r, u) = (r_1, u_2))) (w1 := fun u => (wl_X11_isChoice ad cs )) (As := [.int x1]) (rest := []) (c_X11_isChoice l D cs ad  H.size x1 _ hc_3) ⟨hx, hb, hml, hown, ht⟩ (va_cwS 1 ht g_X11_154 rfl rfl rfl (by decide +kernel) ⟨Nat.le_of_ble_eq_true rfl, Nat.le_of_ble_eq_true rfl⟩) hP hD hS hK hA [] [0, 1, 2, 3, 4, 5, 6, 7, 8] rfl rfl rfl rfl (by decide) rfl hl.1 (Nat.le_of_ble_eq_true rfl) dX11_ring_1 ⟨Nat.zero_le _, Nat.zero_le _⟩ (fun r u H locs hq hP hD hS => ?_)
  cases hq
  have hP : va_P D classes (wl_X11_ring ad cs h_la h_la_code root_heeded court_shoeCount court_claimCount court_suitCount court_laws inq_day inq_land inq_shoeLeftOut inq_names inq_stack la_code la_code_n) H := hP.sub [0, 1, 2, 3, 4, 5, 6, 7, 8] rfl
  have hD : va_D A (wl_X11_ring ad cs h_la h_la_code root_heeded court_shoeCount court_claimCount court_suitCount court_laws inq_day inq_land inq_shoeLeftOut inq_names inq_stack la_code la_code_n) := hD.sub [0, 1, 2, 3, 4, 5, 6, 7, 8] rfl rfl
  refine lv_if_ne (tgt := 9) hx hb dX11_ring_4 (by decide) (fun c_4 => ?_) (fun c_4 => ?_)
  · have h := zk_f c_4 h
    refine lv_iconst (v := (0 : Int32)) hx hb dX11_ring_9 (by decide) ?_
    refine lv_istore_n (lv' := [(2, .int (0 : Int32)), (0, .ref (ad 0)), (1, .int x1)]) hx hb dX11_ring_10 rfl hl (by decide) rfl (fun ls hl => ?_)
    exact ih11 x1 (0 : Int32) root_heeded inq_land inq_names inq_stack h H locs ls hP hD hS (lv_sub hl [1, 2, 0] rfl)
  · have h := zk_t c_4 h
    refine lv_iconst (v := (-1 : Int32)) hx hb dX11_ring_7 (by decide) ?_
    exact W.iret (v := (-1 : Int32)) hx hb hr (fun t ht2 hW => ⟨⟨(-1 : Int32), (root_heeded, inq_land, inq_names, inq_stack), rfl, Option.some.inj h, by rw [ht2]; exact hP, hD⟩, hS.F ht2⟩) hS.2.2 dX11_ring_8 hlocks
theorem LG_X11_ring {p : Program} {l : Launch} {e : Env} {s : State} {m : MethodId} {args : Array Value} {below : List Frame} {meth : Method} {c : Code} {A : Nat → Prop} {D : va_G} {cs : Nat → ClassId} {ad : Nat → Nat} {h_la : Nat} {h_la_code : Nat} {court_shoeCount : Int32} {court_claimCount : Int32} {court_suitCount : Int32} {court_laws : Nat → Option Nat} {inq_day : Int32} {inq_shoeLeftOut : Int32} {la_code : Nat → Int32} {la_code_n : Nat} {R : Int32 × (Nat → Int32) × Int32 × (Nat → Int32) × (Nat → Int32)} (C0 : zC p s m args meth c cX11_ring 4 (some .int) RX11 zW) (hK : va_K D classes (zT cs) s) (hA : ∀ q : Nat, s.heap.size ≤ q → A q) : ∀ n : Nat, (∀ (x1 : Int32) (x2 : Int32) (root_heeded : Nat → Int32) (inq_land : Int32) (inq_names : Nat → Int32) (inq_stack : Nat → Int32) (h : (G_X11_ring h_la  court_shoeCount court_claimCount court_suitCount court_laws inq_day inq_shoeLeftOut la_code la_code_n n).1 x1 x2 root_heeded inq_land inq_names inq_stack = some R) (H : Heap) (locs : List Loc) (ls : Array Slot) (hP : va_P D classes (wl_X11_ring ad cs h_la h_la_code root_heeded court_shoeCount court_claimCount court_suitCount court_laws inq_day inq_land inq_shoeLeftOut inq_names inq_stack la_code la_code_n) H) (hD : va_D A (wl_X11_ring ad cs h_la h_la_code root_heeded court_shoeCount court_claimCount court_suitCount court_laws inq_day inq_land inq_shoeLeftOut inq_names inq_stack la_code la_code_n)) (hS : va_S A s.heap H locs) (hl : lv_has ls 4 [(0, .ref (ad 0)), (1, .int x1), (2, .int x2)]), W p l e rm_X11_ring s m args below meth c H locs 0 0 (MQ below (Q_X11_ring D cs ad h_la h_la_code court_shoeCount court_claimCount court_suitCount court_laws inq_day inq_shoeLeftOut la_code la_code_n A R) args s 0 0 A) (F0 m 11 ls [])) ∧ (∀ (x1 : Int32) (x2 : Int32) (root_heeded : Nat → Int32) (inq_land : Int32) (inq_names : Nat → Int32) (inq_stack : Nat → Int32) (h : (G_X11_ring h_la  court_shoeCount court_claimCount court_suitCount court_laws inq_day inq_shoeLeftOut la_code la_code_n n).2 x1 x2 root_heeded inq_land inq_names inq_stack = some R) (H : Heap) (locs : List Loc) (ls : Array Slot) (hP : va_P D classes (wl_X11_ring ad cs h_la h_la_code root_heeded court_shoeCount court_claimCount court_suitCount court_laws inq_day inq_land inq_shoeLeftOut inq_names inq_stack la_code la_code_n) H) (hD : va_D A (wl_X11_ring ad cs h_la h_la_code root_heeded court_shoeCount court_claimCount court_suitCount court_laws inq_day inq_land inq_shoeLeftOut inq_names inq_stack la_code la_code_n)) (hS : va_S A s.heap H locs) (hl : lv_has ls 4 [(0, .ref (ad 0)), (1, .int x1), (2, .int x2)]), W p l e rm_X11_ring s m args below meth c H locs 0 0 (MQ below (Q_X11_ring D cs ad h_la h_la_code court_shoeCount court_claimCount court_suitCount court_laws inq_day inq_shoeLeftOut la_code la_code_n A R) args s 0 0 A) (F0 m 39 ls [])) := by
  intro n
  induction n with
  | zero =>
    refine ⟨?_, ?_⟩ <;> (intros; rename_i h _ _ _ _ _ _ _; cases h)
  | succ n ih =>
    exact ⟨L_X11_ring_11 C0 hK hA  ih.1 ih.2, L_X11_ring_39 C0 hK hA  ih.1 ih.2⟩
set_option maxHeartbeats 4000000 in
set_option maxRecDepth 100000 in
theorem c_X11_ring (l : Launch) (D : va_G) (cs : Nat → ClassId) (ad : Nat → Nat) (h_la : Nat) (h_la_code : Nat) (sz : Nat) (n : Nat) (x1 : Int32) (root_heeded : Nat → Int32) (court_shoeCount : Int32) (court_claimCount : Int32) (court_suitCount : Int32) (court_laws : Nat → Option Nat) (inq_day : Int32) (inq_land : Int32) (inq_shoeLeftOut : Int32) (inq_names : Nat → Int32) (inq_stack : Nat → Int32) (la_code : Nat → Int32) (la_code_n : Nat) (R : Int32 × (Nat → Int32) × Int32 × (Nat → Int32) × (Nat → Int32)) (h : f_X11_ring h_la  n x1 root_heeded court_shoeCount court_claimCount court_suitCount court_laws inq_day inq_land inq_shoeLeftOut inq_names inq_stack la_code la_code_n = some R) : Met l yX11_ring (z_X11_ring) rm_X11_ring (va_Pc [.ref (ad 0), .int x1] (zPre D cs (wl_X11_ring ad cs h_la h_la_code root_heeded court_shoeCount court_claimCount court_suitCount court_laws inq_day inq_land inq_shoeLeftOut inq_names inq_stack la_code la_code_n) sz)) (Q_X11_ring D cs ad h_la h_la_code court_shoeCount court_claimCount court_suitCount court_laws inq_day inq_shoeLeftOut la_code la_code_n (va_A (wl_X11_ring ad cs h_la h_la_code root_heeded court_shoeCount court_claimCount court_suitCount court_laws inq_day inq_land inq_shoeLeftOut inq_names inq_stack la_code la_code_n) sz) R) 0 0 (va_A (wl_X11_ring ad cs h_la h_la_code root_heeded court_shoeCount court_claimCount court_suitCount court_laws inq_day inq_land inq_shoeLeftOut inq_names inq_stack la_code la_code_n) sz) := by
  refine Met.ofW (cc := cX11_ring) (maxL := 4) (ret := (some .int)) (by decide) rfl ?_
  intro p e s m args below meth c s₁ B hml hv
  obtain ⟨rfl, hsz, hP, hK, hD0⟩ := hv
  subst hsz
  have hD := hD0.self (sz := s.heap.size)
  have C0 : zC p s m _ meth c cX11_ring 4 (some .int) RX11 zW := ⟨B.exec, B.bytes, B.returns, hml, findClass_of_methodNamed B.named, fun w hw => atoms_spec (ws := z_X11_ring) B.pre w (List.mem_cons_of_mem _ hw), B.notSynchronized⟩
  have hA : ∀ q : Nat, s.heap.size ≤ q → va_A (wl_X11_ring ad cs h_la h_la_code root_heeded court_shoeCount court_claimCount court_suitCount court_laws inq_day inq_land inq_shoeLeftOut inq_names inq_stack la_code la_code_n) s.heap.size q := fun q h => Or.inr h
  have hl := lv_entry ([.ref (ad 0), .int x1]) (n := 4) (Nat.le_of_ble_eq_true rfl)
  rw [lg_entry_eq]
  generalize (lg_sl ([.ref (ad 0), .int x1]) ++ List.replicate (4 - (lg_sl ([.ref (ad 0), .int x1])).length) Slot.unset).toArray = ls at hl ⊢
  exact L_X11_ring_0 C0 hK hA  ((LG_X11_ring C0 hK hA  n).1) ((LG_X11_ring C0 hK hA  n).2) x1 root_heeded inq_land inq_names inq_stack h s.heap [] ls hP hD va_S.rf hl
theorem dX11_hangs_0 : decode cX11_hangs 0 = .ok (.aload_n 0, 1) := by decide +kernel
theorem dX11_hangs_1 : decode cX11_hangs 1 = .ok (.iload_n 1, 1) := by decide +kernel
theorem dX11_hangs_2 : decode cX11_hangs 2 = .ok (.iload_n 2, 1) := by decide +kernel
theorem dX11_hangs_3 : decode cX11_hangs 3 = .ok (.invokevirtual 239, 3) := by decide +kernel
theorem dX11_hangs_6 : decode cX11_hangs 6 = .ok (.ifCond .eq 10, 3) := by decide +kernel
theorem dX11_hangs_9 : decode cX11_hangs 9 = .ok (.iload_n 3, 1) := by decide +kernel
theorem dX11_hangs_10 : decode cX11_hangs 10 = .ok (.invokestatic 243, 3) := by decide +kernel
theorem dX11_hangs_13 : decode cX11_hangs 13 = .ok (.ifCond .ne 5, 3) := by decide +kernel
theorem dX11_hangs_16 : decode cX11_hangs 16 = .ok (.iconst (-1), 1) := by decide +kernel
theorem dX11_hangs_17 : decode cX11_hangs 17 = .ok (.ireturn, 1) := by decide +kernel
theorem dX11_hangs_18 : decode cX11_hangs 18 = .ok (.aload_n 0, 1) := by decide +kernel
theorem dX11_hangs_19 : decode cX11_hangs 19 = .ok (.getfield 21, 3) := by decide +kernel
theorem dX11_hangs_22 : decode cX11_hangs 22 = .ok (.iload_n 3, 1) := by decide +kernel
theorem dX11_hangs_23 : decode cX11_hangs 23 = .ok (.bipush 10, 2) := by decide +kernel
theorem dX11_hangs_25 : decode cX11_hangs 25 = .ok (.idiv, 1) := by decide +kernel
theorem dX11_hangs_26 : decode cX11_hangs 26 = .ok (.iload_n 3, 1) := by decide +kernel
theorem dX11_hangs_27 : decode cX11_hangs 27 = .ok (.bipush 10, 2) := by decide +kernel
theorem dX11_hangs_29 : decode cX11_hangs 29 = .ok (.irem, 1) := by decide +kernel
theorem dX11_hangs_30 : decode cX11_hangs 30 = .ok (.invokevirtual 246, 3) := by decide +kernel
theorem dX11_hangs_33 : decode cX11_hangs 33 = .ok (.aload_n 0, 1) := by decide +kernel
theorem dX11_hangs_34 : decode cX11_hangs 34 = .ok (.getfield 21, 3) := by decide +kernel
theorem dX11_hangs_37 : decode cX11_hangs 37 = .ok (.iload_n 1, 1) := by decide +kernel
theorem dX11_hangs_38 : decode cX11_hangs 38 = .ok (.iload_n 2, 1) := by decide +kernel
theorem dX11_hangs_39 : decode cX11_hangs 39 = .ok (.iconst (-1), 1) := by decide +kernel
theorem dX11_hangs_40 : decode cX11_hangs 40 = .ok (.invokevirtual 249, 3) := by decide +kernel
theorem dX11_hangs_43 : decode cX11_hangs 43 = .ok (.ifCond .ge 5, 3) := by decide +kernel
theorem dX11_hangs_46 : decode cX11_hangs 46 = .ok (.iconst (-1), 1) := by decide +kernel
theorem dX11_hangs_47 : decode cX11_hangs 47 = .ok (.ireturn, 1) := by decide +kernel
theorem dX11_hangs_48 : decode cX11_hangs 48 = .ok (.aload_n 0, 1) := by decide +kernel
theorem dX11_hangs_49 : decode cX11_hangs 49 = .ok (.getfield 21, 3) := by decide +kernel
theorem dX11_hangs_52 : decode cX11_hangs 52 = .ok (.iload_n 1, 1) := by decide +kernel
theorem dX11_hangs_53 : decode cX11_hangs 53 = .ok (.iload_n 2, 1) := by decide +kernel
abbrev z_X11_hangs : List Cond := .code yX11_hangs cX11_hangs 4 (some .int) :: zW
abbrev wl_X11_hangs (ad : Nat → Nat) (cs : Nat → ClassId)  (court_shoeCount : Int32) (court_claimCount : Int32) (court_suitCount : Int32) (court_shoePerson : Nat → Int32) (court_shoeOther : Nat → Int32) (inq_day : Int32) (inq_land : Int32) (inq_shoeLeftOut : Int32) (inq_judgedShoes : Nat → Int64) (inq_bindingShoes : Nat → Int64) (inq_boundAs : Nat → Int32) (inq_standing : Nat → Int32) (inq_arriving : Nat → Int32) : va_W := [((ad 0), .inr (11, [.ref (ad 4), .ref (ad 15), .ref (ad 23), .ref (ad 25), .ref (ad 26), .ref (ad 28), .ref (ad 34), .ref (ad 39), .ref (ad 1), .ref (ad 2), .ref (ad 3)])), ((ad 4), .inr (2, [.ref (ad 5), .ref (ad 6), .ref (ad 7), .ref (ad 8), .ref (ad 9), .ref (ad 10), .ref (ad 11), .ref (ad 12), .ref (ad 13), .ref (ad 14), .int court_shoeCount, .int court_claimCount, .int court_suitCount])), ((ad 5), .inl (cs 0, 40, .inl court_shoePerson)), ((ad 6), .inl (cs 0, 40, .inl court_shoeOther)), ((ad 15), .inr (3, [.ref (ad 4), .ref (ad 16), .ref (ad 17), .ref (ad 18), .ref (ad 19), .ref (ad 20), .ref (ad 21), .ref (ad 22), .int inq_day, .int inq_land, .int inq_shoeLeftOut])), ((ad 18), .inl (cs 1, 7, .inr (.inl inq_judgedShoes))), ((ad 19), .inl (cs 1, 7, .inr (.inl inq_bindingShoes))), ((ad 20), .inl (cs 0, 20, .inl inq_boundAs)), ((ad 21), .inl (cs 0, 20, .inl inq_standing)), ((ad 22), .inl (cs 0, 20, .inl inq_arriving))]
def Q_X11_hangs (D : va_G) (cs : Nat → ClassId) (ad : Nat → Nat)  (court_shoeCount : Int32) (court_claimCount : Int32) (court_suitCount : Int32) (court_shoePerson : Nat → Int32) (court_shoeOther : Nat → Int32) (A : Nat → Prop) (R : Int32 × Int32 × Int32 × Int32 × (Nat → Int64) × (Nat → Int64) × (Nat → Int32) × (Nat → Int32) × (Nat → Int32)) : Array Value → State → Outcome → State → Prop :=
  va_Qi (fun (r : Int32) (u : Int32 × Int32 × Int32 × (Nat → Int64) × (Nat → Int64) × (Nat → Int32) × (Nat → Int32) × (Nat → Int32)) => (r, u) = R) (fun (u : Int32 × Int32 × Int32 × (Nat → Int64) × (Nat → Int64) × (Nat → Int32) × (Nat → Int32) × (Nat → Int32)) (t : State) => va_P D classes (wl_X11_hangs ad cs court_shoeCount court_claimCount court_suitCount court_shoePerson court_shoeOther u.1 u.2.1 u.2.2.1 u.2.2.2.1 u.2.2.2.2.1 u.2.2.2.2.2.1 u.2.2.2.2.2.2.1 u.2.2.2.2.2.2.2) t.heap ∧ va_D A (wl_X11_hangs ad cs court_shoeCount court_claimCount court_suitCount court_shoePerson court_shoeOther u.1 u.2.1 u.2.2.1 u.2.2.2.1 u.2.2.2.2.1 u.2.2.2.2.2.1 u.2.2.2.2.2.2.1 u.2.2.2.2.2.2.2)) A
abbrev rm_X11_hangs : Room := { frames := 3, cells := 0, slots := 0, locals := 71 }
def B_X11_hangs_0    (court_shoeCount : Int32) (court_claimCount : Int32) (court_suitCount : Int32) (court_shoePerson : Nat → Int32) (court_shoeOther : Nat → Int32) (x1 : Int32) (x2 : Int32) (x3 : Int32) (inq_day : Int32) (inq_land : Int32) (inq_shoeLeftOut : Int32) (inq_judgedShoes : Nat → Int64) (inq_bindingShoes : Nat → Int64) (inq_boundAs : Nat → Int32) (inq_standing : Nat → Int32) (inq_arriving : Nat → Int32) : Option (Int32 × Int32 × Int32 × Int32 × (Nat → Int64) × (Nat → Int64) × (Nat → Int32) × (Nat → Int32) × (Nat → Int32)) :=
  (zk_b2 (f_X11_isClaimOf x1 x2 court_shoeCount court_claimCount court_suitCount) (fun r_1 u_2 => (if r_1 = 0 then (some ((-1 : Int32), inq_day, inq_land, inq_shoeLeftOut, inq_judgedShoes, inq_bindingShoes, inq_boundAs, inq_standing, inq_arriving)) else (zk_b2 (f_X11_isWhen x3) (fun r_5 u_6 => (if r_5 = 0 then (some ((-1 : Int32), inq_day, inq_land, inq_shoeLeftOut, inq_judgedShoes, inq_bindingShoes, inq_boundAs, inq_standing, inq_arriving)) else (zk_b8 (f_X3_open (x3 / (10 : Int32)) (x3 - x3 / (10 : Int32) * (10 : Int32)) court_shoeCount court_claimCount court_suitCount court_shoePerson court_shoeOther inq_day inq_land inq_shoeLeftOut inq_judgedShoes inq_bindingShoes inq_boundAs inq_standing inq_arriving) (fun u_9 u_10 u_11 u_12 u_13 u_14 u_15 u_16 => (zk_b2 (f_X3_firstCloser 4000 x1 x2 (-1 : Int32) court_shoeCount court_claimCount court_suitCount u_9 u_10 u_11) (fun r_18 u_19 => (if 0 ≤ r_18 then none else (some ((-1 : Int32), u_9, u_10, u_11, u_12, u_13, u_14, u_15, u_16)))))))))))))
def f_X11_hangs   (x1 : Int32) (x2 : Int32) (x3 : Int32) (court_shoeCount : Int32) (court_claimCount : Int32) (court_suitCount : Int32) (court_shoePerson : Nat → Int32) (court_shoeOther : Nat → Int32) (inq_day : Int32) (inq_land : Int32) (inq_shoeLeftOut : Int32) (inq_judgedShoes : Nat → Int64) (inq_bindingShoes : Nat → Int64) (inq_boundAs : Nat → Int32) (inq_standing : Nat → Int32) (inq_arriving : Nat → Int32) : Option (Int32 × Int32 × Int32 × Int32 × (Nat → Int64) × (Nat → Int64) × (Nat → Int32) × (Nat → Int32) × (Nat → Int32)) := B_X11_hangs_0   court_shoeCount court_claimCount court_suitCount court_shoePerson court_shoeOther x1 x2 x3 inq_day inq_land inq_shoeLeftOut inq_judgedShoes inq_bindingShoes inq_boundAs inq_standing inq_arriving
set_option maxHeartbeats 4000000 in
set_option maxRecDepth 100000 in
theorem L_X11_hangs_0 {p : Program} {l : Launch} {e : Env} {s : State} {m : MethodId} {args : Array Value} {below : List Frame} {meth : Method} {c : Code} {A : Nat → Prop} {D : va_G} {cs : Nat → ClassId} {ad : Nat → Nat} {court_shoeCount : Int32} {court_claimCount : Int32} {court_suitCount : Int32} {court_shoePerson : Nat → Int32} {court_shoeOther : Nat → Int32} {R : Int32 × Int32 × Int32 × Int32 × (Nat → Int64) × (Nat → Int64) × (Nat → Int32) × (Nat → Int32) × (Nat → Int32)} (C0 : zC p s m args meth c cX11_hangs 4 (some .int) RX11 zW) (hK : va_K D classes (zT cs) s) (hA : ∀ q : Nat, s.heap.size ≤ q → A q) (x1 : Int32) (x2 : Int32) (x3 : Int32) (inq_day : Int32) (inq_land : Int32) (inq_shoeLeftOut : Int32) (inq_judgedShoes : Nat → Int64) (inq_bindingShoes : Nat → Int64) (inq_boundAs : Nat → Int32) (inq_standing : Nat → Int32) (inq_arriving : Nat → Int32) (h : B_X11_hangs_0 court_shoeCount court_claimCount court_suitCount court_shoePerson court_shoeOther x1 x2 x3 inq_day inq_land inq_shoeLeftOut inq_judgedShoes inq_bindingShoes inq_boundAs inq_standing inq_arriving = some R) (H : Heap) (locs : List Loc) (ls : Array Slot) (hP : va_P D classes (wl_X11_hangs ad cs court_shoeCount court_claimCount court_suitCount court_shoePerson court_shoeOther inq_day inq_land inq_shoeLeftOut inq_judgedShoes inq_bindingShoes inq_boundAs inq_standing inq_arriving) H) (hD : va_D A (wl_X11_hangs ad cs court_shoeCount court_claimCount court_suitCount court_shoePerson court_shoeOther inq_day inq_land inq_shoeLeftOut inq_judgedShoes inq_bindingShoes inq_boundAs inq_standing inq_arriving)) (hS : va_S A s.heap H locs) (hl : lv_has ls 4 [(0, .ref (ad 0)), (1, .int x1), (2, .int x2), (3, .int x3)]) : W p l e rm_X11_hangs s m args below meth c H locs 0 0 (MQ below (Q_X11_hangs D cs ad court_shoeCount court_claimCount court_suitCount court_shoePerson court_shoeOther A R) args s 0 0 A) (F0 m 0 ls []) := by
  obtain ⟨hx, hb, hr, hml, hown, ht, hlocks⟩ := id C0
  refine lv_aload_n hx hb dX11_hangs_0 rfl (lv_at hl 0 rfl) ?_
  refine lv_iload_n hx hb dX11_hangs_1 rfl (lv_at hl 1 rfl) ?_
  refine lv_iload_n hx hb dX11_hangs_2 rfl (lv_at hl 2 rfl) ?_
  obtain ⟨r_1, u_2, hc_3, h⟩ := zk_o2 h
  refine zk_vi (post := (fun r u => (r, u) = (r_1, u_2))) (w1 := fun u => (wl_X11_isClaimOf ad cs court_shoeCount court_claimCount court_suitCount)) (As := [.int x1, .int x2]) (rest := []) (c_X11_isClaimOf l D cs ad  H.size x1 x2 court_shoeCount court_claimCount court_suitCount _ hc_3) ⟨hx, hb, hml, hown, ht⟩ (cwV 2 ht g_X11_239 rfl rfl rfl (by decide +kernel) ⟨Nat.le_of_ble_eq_true rfl, Nat.le_of_ble_eq_true rfl⟩) (va_recv hK hP (ci := 11) (q0 := 0) rfl rfl) hP hD hS hK hA [0, 1] [2, 3, 4, 5, 6, 7, 8, 9] rfl rfl rfl rfl (by decide) rfl hl.1 (Nat.le_of_ble_eq_true rfl) dX11_hangs_3 ⟨Nat.zero_le _, Nat.zero_le _⟩ (fun r u H locs hq hP hD hS => ?_)
  cases hq
  have hP : va_P D classes (wl_X11_hangs ad cs court_shoeCount court_claimCount court_suitCount court_shoePerson court_shoeOther inq_day inq_land inq_shoeLeftOut inq_judgedShoes inq_bindingShoes inq_boundAs inq_standing inq_arriving) H := hP.sub [8, 9, 0, 1, 2, 3, 4, 5, 6, 7] rfl
  have hD : va_D A (wl_X11_hangs ad cs court_shoeCount court_claimCount court_suitCount court_shoePerson court_shoeOther inq_day inq_land inq_shoeLeftOut inq_judgedShoes inq_bindingShoes inq_boundAs inq_standing inq_arriving) := hD.sub [8, 9, 0, 1, 2, 3, 4, 5, 6, 7] rfl rfl
  refine lv_if_eq (tgt := 16) hx hb dX11_hangs_6 (by decide) (fun c_4 => ?_) (fun c_4 => ?_)
  · have h := zk_t c_4 h
    refine lv_iconst (v := (-1 : Int32)) hx hb dX11_hangs_16 (by decide) ?_
    exact W.iret (v := (-1 : Int32)) hx hb hr (fun t ht2 hW => ⟨⟨(-1 : Int32), (inq_day, inq_land, inq_shoeLeftOut, inq_judgedShoes, inq_bindingShoes, inq_boundAs, inq_standing, inq_arriving), rfl, Option.some.inj h, by rw [ht2]; exact hP, hD⟩, hS.F ht2⟩) hS.2.2 dX11_hangs_17 hlocks
  · have h := zk_f c_4 h
    refine lv_iload_n hx hb dX11_hangs_9 rfl (lv_at hl 3 rfl) ?_
    obtain ⟨r_5, u_6, hc_7, h⟩ := zk_o2 h
    refine zk_si (post := (fun r u => (r, u) = (r_5, u_6))) (w1 := fun u => (wl_X11_isWhen ad cs )) (As := [.int x3]) (rest := []) (c_X11_isWhen l D cs ad  H.size x3 _ hc_7) ⟨hx, hb, hml, hown, ht⟩ (va_cwS 1 ht g_X11_243 rfl rfl rfl (by decide +kernel) ⟨Nat.le_of_ble_eq_true rfl, Nat.le_of_ble_eq_true rfl⟩) hP hD hS hK hA [] [0, 1, 2, 3, 4, 5, 6, 7, 8, 9] rfl rfl rfl rfl (by decide) rfl hl.1 (Nat.le_of_ble_eq_true rfl) dX11_hangs_10 ⟨Nat.zero_le _, Nat.zero_le _⟩ (fun r u H locs hq hP hD hS => ?_)
    cases hq
    have hP : va_P D classes (wl_X11_hangs ad cs court_shoeCount court_claimCount court_suitCount court_shoePerson court_shoeOther inq_day inq_land inq_shoeLeftOut inq_judgedShoes inq_bindingShoes inq_boundAs inq_standing inq_arriving) H := hP.sub [0, 1, 2, 3, 4, 5, 6, 7, 8, 9] rfl
    have hD : va_D A (wl_X11_hangs ad cs court_shoeCount court_claimCount court_suitCount court_shoePerson court_shoeOther inq_day inq_land inq_shoeLeftOut inq_judgedShoes inq_bindingShoes inq_boundAs inq_standing inq_arriving) := hD.sub [0, 1, 2, 3, 4, 5, 6, 7, 8, 9] rfl rfl
    refine lv_if_ne (tgt := 18) hx hb dX11_hangs_13 (by decide) (fun c_8 => ?_) (fun c_8 => ?_)
    · have h := zk_f c_8 h
      refine lv_aload_n hx hb dX11_hangs_18 rfl (lv_at hl 0 rfl) ?_
      refine va_get (D := D) (ci := 11) (v := .ref (ad 15)) (C := RX11) (T := TX11) (N := 11) hx hb ht iX11 hown hK hP 0 rfl rfl 1 (by decide) (ht _ kw_697) (fun _ h9 => h9) rfl dX11_hangs_19 ?_
      refine lv_iload_n hx hb dX11_hangs_22 rfl (lv_at hl 3 rfl) ?_
      refine lv_bipush (v := (10 : Int32)) hx hb dX11_hangs_23 (by decide) ?_
      refine lv_idiv hx hb dX11_hangs_25 (by decide) ?_
      refine lv_iload_n hx hb dX11_hangs_26 rfl (lv_at hl 3 rfl) ?_
      refine lv_bipush (v := (10 : Int32)) hx hb dX11_hangs_27 (by decide) ?_
      refine lv_irem hx hb dX11_hangs_29 (by decide) ?_
      obtain ⟨u_9, u_10, u_11, u_12, u_13, u_14, u_15, u_16, hc_17, h⟩ := zk_o8 h
      refine zk_vv (post := (fun u => u = (u_9, u_10, u_11, u_12, u_13, u_14, u_15, u_16))) (w1 := fun u => (wl_X3_open ad cs court_shoeCount court_claimCount court_suitCount court_shoePerson court_shoeOther u.1 u.2.1 u.2.2.1 u.2.2.2.1 u.2.2.2.2.1 u.2.2.2.2.2.1 u.2.2.2.2.2.2.1 u.2.2.2.2.2.2.2)) (As := [.int (x3 / (10 : Int32)), .int (x3 - x3 / (10 : Int32) * (10 : Int32))]) (rest := []) (c_X3_open l D cs ad  H.size (x3 / (10 : Int32)) (x3 - x3 / (10 : Int32) * (10 : Int32)) court_shoeCount court_claimCount court_suitCount court_shoePerson court_shoeOther inq_day inq_land inq_shoeLeftOut inq_judgedShoes inq_bindingShoes inq_boundAs inq_standing inq_arriving _ hc_17) ⟨hx, hb, hml, hown, ht⟩ (cwV 2 ht g_X11_246 rfl rfl rfl (by decide +kernel) ⟨Nat.le_of_ble_eq_true rfl, Nat.le_of_ble_eq_true rfl⟩) (va_recv hK hP (ci := 3) (q0 := 4) rfl rfl) hP hD hS hK hA [1, 2, 3, 4, 5, 6, 7, 8, 9] [0] rfl rfl rfl rfl (by decide) rfl hl.1 (Nat.le_of_ble_eq_true rfl) dX11_hangs_30 ⟨Nat.zero_le _, Nat.zero_le _⟩ (fun u H locs hq hP hD hS => ?_)
      cases hq
      have hP : va_P D classes (wl_X11_hangs ad cs court_shoeCount court_claimCount court_suitCount court_shoePerson court_shoeOther u_9 u_10 u_11 u_12 u_13 u_14 u_15 u_16) H := hP.sub [0, 1, 2, 3, 4, 5, 6, 7, 8, 9] rfl
      have hD : va_D A (wl_X11_hangs ad cs court_shoeCount court_claimCount court_suitCount court_shoePerson court_shoeOther u_9 u_10 u_11 u_12 u_13 u_14 u_15 u_16) := hD.sub [0, 1, 2, 3, 4, 5, 6, 7, 8, 9] rfl rfl
      refine lv_aload_n hx hb dX11_hangs_33 rfl (lv_at hl 0 rfl) ?_
      refine va_get (D := D) (ci := 11) (v := .ref (ad 15)) (C := RX11) (T := TX11) (N := 11) hx hb ht iX11 hown hK hP 0 rfl rfl 1 (by decide) (ht _ kw_697) (fun _ h9 => h9) rfl dX11_hangs_34 ?_
      refine lv_iload_n hx hb dX11_hangs_37 rfl (lv_at hl 1 rfl) ?_
      refine lv_iload_n hx hb dX11_hangs_38 rfl (lv_at hl 2 rfl) ?_
      refine lv_iconst (v := (-1 : Int32)) hx hb dX11_hangs_39 (by decide) ?_
      obtain ⟨r_18, u_19, hc_20, h⟩ := zk_o2 h
      refine zk_vi (post := (fun r u => (r, u) = (r_18, u_19))) (w1 := fun u => (wl_X3_firstCloser ad cs court_shoeCount court_claimCount court_suitCount u_9 u_10 u_11)) (As := [.int x1, .int x2, .int (-1 : Int32)]) (rest := []) (c_X3_firstCloser l D cs ad  H.size 4000 x1 x2 (-1 : Int32) court_shoeCount court_claimCount court_suitCount u_9 u_10 u_11 _ hc_20) ⟨hx, hb, hml, hown, ht⟩ (cwV 3 ht g_X11_249 rfl rfl rfl (by decide +kernel) ⟨Nat.le_of_ble_eq_true rfl, Nat.le_of_ble_eq_true rfl⟩) (va_recv hK hP (ci := 3) (q0 := 4) rfl rfl) hP hD hS hK hA [1, 4] [0, 2, 3, 5, 6, 7, 8, 9] rfl rfl rfl rfl (by decide) rfl hl.1 (Nat.le_of_ble_eq_true rfl) dX11_hangs_40 ⟨Nat.zero_le _, Nat.zero_le _⟩ (fun r u H locs hq hP hD hS => ?_)
      cases hq
      have hP : va_P D classes (wl_X11_hangs ad cs court_shoeCount court_claimCount court_suitCount court_shoePerson court_shoeOther u_9 u_10 u_11 u_12 u_13 u_14 u_15 u_16) H := hP.sub [0, 8, 1, 2, 9, 3, 4, 5, 6, 7] rfl
      have hD : va_D A (wl_X11_hangs ad cs court_shoeCount court_claimCount court_suitCount court_shoePerson court_shoeOther u_9 u_10 u_11 u_12 u_13 u_14 u_15 u_16) := hD.sub [0, 8, 1, 2, 9, 3, 4, 5, 6, 7] rfl rfl
      refine lv_if_ge (tgt := 48) hx hb dX11_hangs_43 (by decide) (fun c_21 => ?_) (fun c_21 => ?_)
      · have h := zk_t c_21 h
        refine lv_aload_n hx hb dX11_hangs_48 rfl (lv_at hl 0 rfl) ?_
        refine va_get (D := D) (ci := 11) (v := .ref (ad 15)) (C := RX11) (T := TX11) (N := 11) hx hb ht iX11 hown hK hP 0 rfl rfl 1 (by decide) (ht _ kw_697) (fun _ h9 => h9) rfl dX11_hangs_49 ?_
        refine lv_iload_n hx hb dX11_hangs_52 rfl (lv_at hl 1 rfl) ?_
        refine lv_iload_n hx hb dX11_hangs_53 rfl (lv_at hl 2 rfl) ?_
        cases h
      · have h := zk_f c_21 h
        refine lv_iconst (v := (-1 : Int32)) hx hb dX11_hangs_46 (by decide) ?_
        exact W.iret (v := (-1 : Int32)) hx hb hr (fun t ht2 hW => ⟨⟨(-1 : Int32), (u_9, u_10, u_11, u_12, u_13, u_14, u_15, u_16), rfl, Option.some.inj h, by rw [ht2]; exact hP, hD⟩, hS.F ht2⟩) hS.2.2 dX11_hangs_47 hlocks
    · have h := zk_t c_8 h
      refine lv_iconst (v := (-1 : Int32)) hx hb dX11_hangs_16 (by decide) ?_
      exact W.iret (v := (-1 : Int32)) hx hb hr (fun t ht2 hW => ⟨⟨(-1 : Int32), (inq_day, inq_land, inq_shoeLeftOut, inq_judgedShoes, inq_bindingShoes, inq_boundAs, inq_standing, inq_arriving), rfl, Option.some.inj h, by rw [ht2]; exact hP, hD⟩, hS.F ht2⟩) hS.2.2 dX11_hangs_17 hlocks
set_option maxHeartbeats 4000000 in
set_option maxRecDepth 100000 in
theorem c_X11_hangs (l : Launch) (D : va_G) (cs : Nat → ClassId) (ad : Nat → Nat) (sz : Nat) (x1 : Int32) (x2 : Int32) (x3 : Int32) (court_shoeCount : Int32) (court_claimCount : Int32) (court_suitCount : Int32) (court_shoePerson : Nat → Int32) (court_shoeOther : Nat → Int32) (inq_day : Int32) (inq_land : Int32) (inq_shoeLeftOut : Int32) (inq_judgedShoes : Nat → Int64) (inq_bindingShoes : Nat → Int64) (inq_boundAs : Nat → Int32) (inq_standing : Nat → Int32) (inq_arriving : Nat → Int32) (R : Int32 × Int32 × Int32 × Int32 × (Nat → Int64) × (Nat → Int64) × (Nat → Int32) × (Nat → Int32) × (Nat → Int32)) (h : f_X11_hangs   x1 x2 x3 court_shoeCount court_claimCount court_suitCount court_shoePerson court_shoeOther inq_day inq_land inq_shoeLeftOut inq_judgedShoes inq_bindingShoes inq_boundAs inq_standing inq_arriving = some R) : Met l yX11_hangs (z_X11_hangs) rm_X11_hangs (va_Pc [.ref (ad 0), .int x1, .int x2, .int x3] (zPre D cs (wl_X11_hangs ad cs court_shoeCount court_claimCount court_suitCount court_shoePerson court_shoeOther inq_day inq_land inq_shoeLeftOut inq_judgedShoes inq_bindingShoes inq_boundAs inq_standing inq_arriving) sz)) (Q_X11_hangs D cs ad court_shoeCount court_claimCount court_suitCount court_shoePerson court_shoeOther (va_A (wl_X11_hangs ad cs court_shoeCount court_claimCount court_suitCount court_shoePerson court_shoeOther inq_day inq_land inq_shoeLeftOut inq_judgedShoes inq_bindingShoes inq_boundAs inq_standing inq_arriving) sz) R) 0 0 (va_A (wl_X11_hangs ad cs court_shoeCount court_claimCount court_suitCount court_shoePerson court_shoeOther inq_day inq_land inq_shoeLeftOut inq_judgedShoes inq_bindingShoes inq_boundAs inq_standing inq_arriving) sz) := by
  refine Met.ofW (cc := cX11_hangs) (maxL := 4) (ret := (some .int)) (by decide) rfl ?_
  intro p e s m args below meth c s₁ B hml hv
  obtain ⟨rfl, hsz, hP, hK, hD0⟩ := hv
  subst hsz
  have hD := hD0.self (sz := s.heap.size)
  have C0 : zC p s m _ meth c cX11_hangs 4 (some .int) RX11 zW := ⟨B.exec, B.bytes, B.returns, hml, findClass_of_methodNamed B.named, fun w hw => atoms_spec (ws := z_X11_hangs) B.pre w (List.mem_cons_of_mem _ hw), B.notSynchronized⟩
  have hA : ∀ q : Nat, s.heap.size ≤ q → va_A (wl_X11_hangs ad cs court_shoeCount court_claimCount court_suitCount court_shoePerson court_shoeOther inq_day inq_land inq_shoeLeftOut inq_judgedShoes inq_bindingShoes inq_boundAs inq_standing inq_arriving) s.heap.size q := fun q h => Or.inr h
  have hl := lv_entry ([.ref (ad 0), .int x1, .int x2, .int x3]) (n := 4) (Nat.le_of_ble_eq_true rfl)
  rw [lg_entry_eq]
  generalize (lg_sl ([.ref (ad 0), .int x1, .int x2, .int x3]) ++ List.replicate (4 - (lg_sl ([.ref (ad 0), .int x1, .int x2, .int x3])).length) Slot.unset).toArray = ls at hl ⊢
  exact L_X11_hangs_0 C0 hK hA   x1 x2 x3 inq_day inq_land inq_shoeLeftOut inq_judgedShoes inq_bindingShoes inq_boundAs inq_standing inq_arriving h s.heap [] ls hP hD va_S.rf hl
theorem dX11_need_0 : decode cX11_need 0 = .ok (.iload_n 1, 1) := by decide +kernel
theorem dX11_need_1 : decode cX11_need 1 = .ok (.invokestatic 252, 3) := by decide +kernel
theorem dX11_need_4 : decode cX11_need 4 = .ok (.ifCond .eq 17, 3) := by decide +kernel
theorem dX11_need_7 : decode cX11_need 7 = .ok (.iload_n 2, 1) := by decide +kernel
theorem dX11_need_8 : decode cX11_need 8 = .ok (.invokestatic 148, 3) := by decide +kernel
theorem dX11_need_11 : decode cX11_need 11 = .ok (.ifCond .eq 10, 3) := by decide +kernel
theorem dX11_need_14 : decode cX11_need 14 = .ok (.iload_n 3, 1) := by decide +kernel
theorem dX11_need_15 : decode cX11_need 15 = .ok (.invokestatic 243, 3) := by decide +kernel
theorem dX11_need_18 : decode cX11_need 18 = .ok (.ifCond .ne 5, 3) := by decide +kernel
theorem dX11_need_21 : decode cX11_need 21 = .ok (.iconst (-1), 1) := by decide +kernel
theorem dX11_need_22 : decode cX11_need 22 = .ok (.ireturn, 1) := by decide +kernel
theorem dX11_need_23 : decode cX11_need 23 = .ok (.aload_n 0, 1) := by decide +kernel
theorem dX11_need_24 : decode cX11_need 24 = .ok (.getfield 21, 3) := by decide +kernel
theorem dX11_need_27 : decode cX11_need 27 = .ok (.iload_n 3, 1) := by decide +kernel
theorem dX11_need_28 : decode cX11_need 28 = .ok (.bipush 10, 2) := by decide +kernel
theorem dX11_need_30 : decode cX11_need 30 = .ok (.idiv, 1) := by decide +kernel
theorem dX11_need_31 : decode cX11_need 31 = .ok (.iload_n 3, 1) := by decide +kernel
theorem dX11_need_32 : decode cX11_need 32 = .ok (.bipush 10, 2) := by decide +kernel
theorem dX11_need_34 : decode cX11_need 34 = .ok (.irem, 1) := by decide +kernel
theorem dX11_need_35 : decode cX11_need 35 = .ok (.invokevirtual 246, 3) := by decide +kernel
theorem dX11_need_38 : decode cX11_need 38 = .ok (.aload_n 0, 1) := by decide +kernel
theorem dX11_need_39 : decode cX11_need 39 = .ok (.getfield 21, 3) := by decide +kernel
theorem dX11_need_42 : decode cX11_need 42 = .ok (.iload_n 1, 1) := by decide +kernel
theorem dX11_need_43 : decode cX11_need 43 = .ok (.iload_n 2, 1) := by decide +kernel
theorem dX11_need_44 : decode cX11_need 44 = .ok (.bipush 100, 2) := by decide +kernel
theorem dX11_need_46 : decode cX11_need 46 = .ok (.idiv, 1) := by decide +kernel
theorem dX11_need_47 : decode cX11_need 47 = .ok (.iload_n 2, 1) := by decide +kernel
theorem dX11_need_48 : decode cX11_need 48 = .ok (.bipush 100, 2) := by decide +kernel
theorem dX11_need_50 : decode cX11_need 50 = .ok (.irem, 1) := by decide +kernel
theorem dX11_need_51 : decode cX11_need 51 = .ok (.iconst (-1), 1) := by decide +kernel
theorem dX11_need_52 : decode cX11_need 52 = .ok (.invokevirtual 255, 3) := by decide +kernel
theorem dX11_need_55 : decode cX11_need 55 = .ok (.iconst 3, 1) := by decide +kernel
theorem dX11_need_56 : decode cX11_need 56 = .ok (.iand, 1) := by decide +kernel
theorem dX11_need_57 : decode cX11_need 57 = .ok (.istore 4, 2) := by decide +kernel
theorem dX11_need_59 : decode cX11_need 59 = .ok (.iload 4, 2) := by decide +kernel
theorem dX11_need_61 : decode cX11_need 61 = .ok (.ifCond .ne 5, 3) := by decide +kernel
theorem dX11_need_64 : decode cX11_need 64 = .ok (.iconst (-1), 1) := by decide +kernel
theorem dX11_need_65 : decode cX11_need 65 = .ok (.ireturn, 1) := by decide +kernel
theorem dX11_need_66 : decode cX11_need 66 = .ok (.iconst 0, 1) := by decide +kernel
theorem dX11_need_67 : decode cX11_need 67 = .ok (.istore 5, 2) := by decide +kernel
theorem dX11_need_69 : decode cX11_need 69 = .ok (.iload 5, 2) := by decide +kernel
theorem dX11_need_71 : decode cX11_need 71 = .ok (.aload_n 0, 1) := by decide +kernel
theorem dX11_need_72 : decode cX11_need 72 = .ok (.getfield 10, 3) := by decide +kernel
theorem dX11_need_75 : decode cX11_need 75 = .ok (.getfield 191, 3) := by decide +kernel
theorem dX11_need_78 : decode cX11_need 78 = .ok (.if_icmp .ge 37, 3) := by decide +kernel
theorem dX11_need_81 : decode cX11_need 81 = .ok (.aload_n 0, 1) := by decide +kernel
theorem dX11_need_82 : decode cX11_need 82 = .ok (.getfield 21, 3) := by decide +kernel
theorem dX11_need_85 : decode cX11_need 85 = .ok (.iload_n 1, 1) := by decide +kernel
theorem dX11_need_86 : decode cX11_need 86 = .ok (.iload_n 2, 1) := by decide +kernel
theorem dX11_need_87 : decode cX11_need 87 = .ok (.bipush 100, 2) := by decide +kernel
theorem dX11_need_89 : decode cX11_need 89 = .ok (.idiv, 1) := by decide +kernel
theorem dX11_need_90 : decode cX11_need 90 = .ok (.iload_n 2, 1) := by decide +kernel
theorem dX11_need_91 : decode cX11_need 91 = .ok (.bipush 100, 2) := by decide +kernel
theorem dX11_need_93 : decode cX11_need 93 = .ok (.irem, 1) := by decide +kernel
theorem dX11_need_94 : decode cX11_need 94 = .ok (.iload 5, 2) := by decide +kernel
theorem dX11_need_96 : decode cX11_need 96 = .ok (.invokevirtual 255, 3) := by decide +kernel
theorem dX11_need_99 : decode cX11_need 99 = .ok (.iconst 3, 1) := by decide +kernel
theorem dX11_need_100 : decode cX11_need 100 = .ok (.iand, 1) := by decide +kernel
theorem dX11_need_101 : decode cX11_need 101 = .ok (.iload 4, 2) := by decide +kernel
theorem dX11_need_103 : decode cX11_need 103 = .ok (.if_icmp .eq 6, 3) := by decide +kernel
theorem dX11_need_106 : decode cX11_need 106 = .ok (.iload 5, 2) := by decide +kernel
theorem dX11_need_108 : decode cX11_need 108 = .ok (.ireturn, 1) := by decide +kernel
theorem dX11_need_109 : decode cX11_need 109 = .ok (.iinc 5 1, 3) := by decide +kernel
theorem dX11_need_112 : decode cX11_need 112 = .ok (.goto (-43), 3) := by decide +kernel
theorem dX11_need_115 : decode cX11_need 115 = .ok (.bipush (-2), 2) := by decide +kernel
theorem dX11_need_117 : decode cX11_need 117 = .ok (.ireturn, 1) := by decide +kernel
abbrev z_X11_need : List Cond := .code yX11_need cX11_need 6 (some .int) :: zW
abbrev wl_X11_need (ad : Nat → Nat) (cs : Nat → ClassId)  (court_shoeCount : Int32) (court_claimCount : Int32) (court_suitCount : Int32) (court_shoePerson : Nat → Int32) (court_shoeOther : Nat → Int32) (inq_day : Int32) (inq_land : Int32) (inq_shoeLeftOut : Int32) (inq_judgedShoes : Nat → Int64) (inq_bindingShoes : Nat → Int64) (inq_boundAs : Nat → Int32) (inq_standing : Nat → Int32) (inq_arriving : Nat → Int32) : va_W := [((ad 0), .inr (11, [.ref (ad 4), .ref (ad 15), .ref (ad 23), .ref (ad 25), .ref (ad 26), .ref (ad 28), .ref (ad 34), .ref (ad 39), .ref (ad 1), .ref (ad 2), .ref (ad 3)])), ((ad 4), .inr (2, [.ref (ad 5), .ref (ad 6), .ref (ad 7), .ref (ad 8), .ref (ad 9), .ref (ad 10), .ref (ad 11), .ref (ad 12), .ref (ad 13), .ref (ad 14), .int court_shoeCount, .int court_claimCount, .int court_suitCount])), ((ad 5), .inl (cs 0, 40, .inl court_shoePerson)), ((ad 6), .inl (cs 0, 40, .inl court_shoeOther)), ((ad 15), .inr (3, [.ref (ad 4), .ref (ad 16), .ref (ad 17), .ref (ad 18), .ref (ad 19), .ref (ad 20), .ref (ad 21), .ref (ad 22), .int inq_day, .int inq_land, .int inq_shoeLeftOut])), ((ad 18), .inl (cs 1, 7, .inr (.inl inq_judgedShoes))), ((ad 19), .inl (cs 1, 7, .inr (.inl inq_bindingShoes))), ((ad 20), .inl (cs 0, 20, .inl inq_boundAs)), ((ad 21), .inl (cs 0, 20, .inl inq_standing)), ((ad 22), .inl (cs 0, 20, .inl inq_arriving))]
def Q_X11_need (D : va_G) (cs : Nat → ClassId) (ad : Nat → Nat)  (court_shoeCount : Int32) (court_claimCount : Int32) (court_suitCount : Int32) (court_shoePerson : Nat → Int32) (court_shoeOther : Nat → Int32) (A : Nat → Prop) (R : Int32 × Int32 × Int32 × Int32 × (Nat → Int64) × (Nat → Int64) × (Nat → Int32) × (Nat → Int32) × (Nat → Int32)) : Array Value → State → Outcome → State → Prop :=
  va_Qi (fun (r : Int32) (u : Int32 × Int32 × Int32 × (Nat → Int64) × (Nat → Int64) × (Nat → Int32) × (Nat → Int32) × (Nat → Int32)) => (r, u) = R) (fun (u : Int32 × Int32 × Int32 × (Nat → Int64) × (Nat → Int64) × (Nat → Int32) × (Nat → Int32) × (Nat → Int32)) (t : State) => va_P D classes (wl_X11_need ad cs court_shoeCount court_claimCount court_suitCount court_shoePerson court_shoeOther u.1 u.2.1 u.2.2.1 u.2.2.2.1 u.2.2.2.2.1 u.2.2.2.2.2.1 u.2.2.2.2.2.2.1 u.2.2.2.2.2.2.2) t.heap ∧ va_D A (wl_X11_need ad cs court_shoeCount court_claimCount court_suitCount court_shoePerson court_shoeOther u.1 u.2.1 u.2.2.1 u.2.2.2.1 u.2.2.2.2.1 u.2.2.2.2.2.1 u.2.2.2.2.2.2.1 u.2.2.2.2.2.2.2)) A
abbrev rm_X11_need : Room := { frames := 3, cells := 0, slots := 0, locals := 71 }
def B_X11_need_69   (g69 : Int32 → Int32 → Int32 → Int32 → Int32 → Int32 → Int32 → (Nat → Int64) → (Nat → Int64) → (Nat → Int32) → (Nat → Int32) → (Nat → Int32) → (Option (Int32 × Int32 × Int32 × Int32 × (Nat → Int64) × (Nat → Int64) × (Nat → Int32) × (Nat → Int32) × (Nat → Int32)))) (court_shoeCount : Int32) (court_claimCount : Int32) (court_suitCount : Int32) (court_shoePerson : Nat → Int32) (court_shoeOther : Nat → Int32) (x1 : Int32) (x2 : Int32) (x4 : Int32) (x5 : Int32) (inq_day : Int32) (inq_land : Int32) (inq_shoeLeftOut : Int32) (inq_judgedShoes : Nat → Int64) (inq_bindingShoes : Nat → Int64) (inq_boundAs : Nat → Int32) (inq_standing : Nat → Int32) (inq_arriving : Nat → Int32) : Option (Int32 × Int32 × Int32 × Int32 × (Nat → Int64) × (Nat → Int64) × (Nat → Int32) × (Nat → Int32) × (Nat → Int32)) :=
  (if court_suitCount ≤ x5 then (some ((-2 : Int32), inq_day, inq_land, inq_shoeLeftOut, inq_judgedShoes, inq_bindingShoes, inq_boundAs, inq_standing, inq_arriving)) else (zk_b2 (f_X3_findPoint 4000 x1 (x2 / (100 : Int32)) (x2 - x2 / (100 : Int32) * (100 : Int32)) x5 court_shoeCount court_claimCount court_suitCount inq_day inq_land inq_shoeLeftOut) (fun r_28 u_29 => (if (r_28 &&& (3 : Int32)) = x4 then (zk_let (x5 + (1 : Int32)) (fun v_32 => (g69 x1 x2 x4 v_32 inq_day inq_land inq_shoeLeftOut inq_judgedShoes inq_bindingShoes inq_boundAs inq_standing inq_arriving))) else (some (x5, inq_day, inq_land, inq_shoeLeftOut, inq_judgedShoes, inq_bindingShoes, inq_boundAs, inq_standing, inq_arriving))))))
def B_X11_need_0   (g69 : Int32 → Int32 → Int32 → Int32 → Int32 → Int32 → Int32 → (Nat → Int64) → (Nat → Int64) → (Nat → Int32) → (Nat → Int32) → (Nat → Int32) → (Option (Int32 × Int32 × Int32 × Int32 × (Nat → Int64) × (Nat → Int64) × (Nat → Int32) × (Nat → Int32) × (Nat → Int32)))) (court_shoeCount : Int32) (court_claimCount : Int32) (court_suitCount : Int32) (court_shoePerson : Nat → Int32) (court_shoeOther : Nat → Int32) (x1 : Int32) (x2 : Int32) (x3 : Int32) (inq_day : Int32) (inq_land : Int32) (inq_shoeLeftOut : Int32) (inq_judgedShoes : Nat → Int64) (inq_bindingShoes : Nat → Int64) (inq_boundAs : Nat → Int32) (inq_standing : Nat → Int32) (inq_arriving : Nat → Int32) : Option (Int32 × Int32 × Int32 × Int32 × (Nat → Int64) × (Nat → Int64) × (Nat → Int32) × (Nat → Int32) × (Nat → Int32)) :=
  (zk_b2 (f_X11_isPoint x1) (fun r_1 u_2 => (if r_1 = 0 then (some ((-1 : Int32), inq_day, inq_land, inq_shoeLeftOut, inq_judgedShoes, inq_bindingShoes, inq_boundAs, inq_standing, inq_arriving)) else (zk_b2 (f_X11_isPair x2) (fun r_5 u_6 => (if r_5 = 0 then (some ((-1 : Int32), inq_day, inq_land, inq_shoeLeftOut, inq_judgedShoes, inq_bindingShoes, inq_boundAs, inq_standing, inq_arriving)) else (zk_b2 (f_X11_isWhen x3) (fun r_9 u_10 => (if r_9 = 0 then (some ((-1 : Int32), inq_day, inq_land, inq_shoeLeftOut, inq_judgedShoes, inq_bindingShoes, inq_boundAs, inq_standing, inq_arriving)) else (zk_b8 (f_X3_open (x3 / (10 : Int32)) (x3 - x3 / (10 : Int32) * (10 : Int32)) court_shoeCount court_claimCount court_suitCount court_shoePerson court_shoeOther inq_day inq_land inq_shoeLeftOut inq_judgedShoes inq_bindingShoes inq_boundAs inq_standing inq_arriving) (fun u_13 u_14 u_15 u_16 u_17 u_18 u_19 u_20 => (zk_b2 (f_X3_findPoint 4000 x1 (x2 / (100 : Int32)) (x2 - x2 / (100 : Int32) * (100 : Int32)) (-1 : Int32) court_shoeCount court_claimCount court_suitCount u_13 u_14 u_15) (fun r_22 u_23 => (zk_let (r_22 &&& (3 : Int32)) (fun v_25 => (if v_25 = 0 then (some ((-1 : Int32), u_13, u_14, u_15, u_16, u_17, u_18, u_19, u_20)) else (g69 x1 x2 v_25 (0 : Int32) u_13 u_14 u_15 u_16 u_17 u_18 u_19 u_20)))))))))))))))))
def G_X11_need   (court_shoeCount : Int32) (court_claimCount : Int32) (court_suitCount : Int32) (court_shoePerson : Nat → Int32) (court_shoeOther : Nat → Int32) (n : Nat) : (Int32 → Int32 → Int32 → Int32 → Int32 → Int32 → Int32 → (Nat → Int64) → (Nat → Int64) → (Nat → Int32) → (Nat → Int32) → (Nat → Int32) → (Option (Int32 × Int32 × Int32 × Int32 × (Nat → Int64) × (Nat → Int64) × (Nat → Int32) × (Nat → Int32) × (Nat → Int32)))) :=
  Nat.rec (motive := fun _ => (Int32 → Int32 → Int32 → Int32 → Int32 → Int32 → Int32 → (Nat → Int64) → (Nat → Int64) → (Nat → Int32) → (Nat → Int32) → (Nat → Int32) → (Option (Int32 × Int32 × Int32 × Int32 × (Nat → Int64) × (Nat → Int64) × (Nat → Int32) × (Nat → Int32) × (Nat → Int32))))) ((fun _ _ _ _ _ _ _ _ _ _ _ _ => none)) (fun _ ih => (B_X11_need_69   ih court_shoeCount court_claimCount court_suitCount court_shoePerson court_shoeOther)) n
def f_X11_need   (n : Nat) (x1 : Int32) (x2 : Int32) (x3 : Int32) (court_shoeCount : Int32) (court_claimCount : Int32) (court_suitCount : Int32) (court_shoePerson : Nat → Int32) (court_shoeOther : Nat → Int32) (inq_day : Int32) (inq_land : Int32) (inq_shoeLeftOut : Int32) (inq_judgedShoes : Nat → Int64) (inq_bindingShoes : Nat → Int64) (inq_boundAs : Nat → Int32) (inq_standing : Nat → Int32) (inq_arriving : Nat → Int32) : Option (Int32 × Int32 × Int32 × Int32 × (Nat → Int64) × (Nat → Int64) × (Nat → Int32) × (Nat → Int32) × (Nat → Int32)) := B_X11_need_0   ((G_X11_need   court_shoeCount court_claimCount court_suitCount court_shoePerson court_shoeOther n)) court_shoeCount court_claimCount court_suitCount court_shoePerson court_shoeOther x1 x2 x3 inq_day inq_land inq_shoeLeftOut inq_judgedShoes inq_bindingShoes inq_boundAs inq_standing inq_arriving
set_option maxHeartbeats 4000000 in
set_option maxRecDepth 100000 in
theorem L_X11_need_69 {p : Program} {l : Launch} {e : Env} {s : State} {m : MethodId} {args : Array Value} {below : List Frame} {meth : Method} {c : Code} {A : Nat → Prop} {D : va_G} {cs : Nat → ClassId} {ad : Nat → Nat} {court_shoeCount : Int32} {court_claimCount : Int32} {court_suitCount : Int32} {court_shoePerson : Nat → Int32} {court_shoeOther : Nat → Int32} {R : Int32 × Int32 × Int32 × Int32 × (Nat → Int64) × (Nat → Int64) × (Nat → Int32) × (Nat → Int32) × (Nat → Int32)} {g69 : Int32 → Int32 → Int32 → Int32 → Int32 → Int32 → Int32 → (Nat → Int64) → (Nat → Int64) → (Nat → Int32) → (Nat → Int32) → (Nat → Int32) → (Option (Int32 × Int32 × Int32 × Int32 × (Nat → Int64) × (Nat → Int64) × (Nat → Int32) × (Nat → Int32) × (Nat → Int32)))} (C0 : zC p s m args meth c cX11_need 6 (some .int) RX11 zW) (hK : va_K D classes (zT cs) s) (hA : ∀ q : Nat, s.heap.size ≤ q → A q) (ih69 : ∀ (x1 : Int32) (x2 : Int32) (x4 : Int32) (x5 : Int32) (inq_day : Int32) (inq_land : Int32) (inq_shoeLeftOut : Int32) (inq_judgedShoes : Nat → Int64) (inq_bindingShoes : Nat → Int64) (inq_boundAs : Nat → Int32) (inq_standing : Nat → Int32) (inq_arriving : Nat → Int32) (h : g69 x1 x2 x4 x5 inq_day inq_land inq_shoeLeftOut inq_judgedShoes inq_bindingShoes inq_boundAs inq_standing inq_arriving = some R) (H : Heap) (locs : List Loc) (ls : Array Slot) (hP : va_P D classes (wl_X11_need ad cs court_shoeCount court_claimCount court_suitCount court_shoePerson court_shoeOther inq_day inq_land inq_shoeLeftOut inq_judgedShoes inq_bindingShoes inq_boundAs inq_standing inq_arriving) H) (hD : va_D A (wl_X11_need ad cs court_shoeCount court_claimCount court_suitCount court_shoePerson court_shoeOther inq_day inq_land inq_shoeLeftOut inq_judgedShoes inq_bindingShoes inq_boundAs inq_standing inq_arriving)) (hS : va_S A s.heap H locs) (hl : lv_has ls 6 [(0, .ref (ad 0)), (1, .int x1), (2, .int x2), (4, .int x4), (5, .int x5)]), W p l e rm_X11_need s m args below meth c H locs 0 0 (MQ below (Q_X11_need D cs ad court_shoeCount court_claimCount court_suitCount court_shoePerson court_shoeOther A R) args s 0 0 A) (F0 m 69 ls [])) (x1 : Int32) (x2 : Int32) (x4 : Int32) (x5 : Int32) (inq_day : Int32) (inq_land : Int32) (inq_shoeLeftOut : Int32) (inq_judgedShoes : Nat → Int64) (inq_bindingShoes : Nat → Int64) (inq_boundAs : Nat → Int32) (inq_standing : Nat → Int32) (inq_arriving : Nat → Int32) (h : B_X11_need_69 g69 court_shoeCount court_claimCount court_suitCount court_shoePerson court_shoeOther x1 x2 x4 x5 inq_day inq_land inq_shoeLeftOut inq_judgedShoes inq_bindingShoes inq_boundAs inq_standing inq_arriving = some R) (H : Heap) (locs : List Loc) (ls : Array Slot) (hP : va_P D classes (wl_X11_need ad cs court_shoeCount court_claimCount court_suitCount court_shoePerson court_shoeOther inq_day inq_land inq_shoeLeftOut inq_judgedShoes inq_bindingShoes inq_boundAs inq_standing inq_arriving) H) (hD : va_D A (wl_X11_need ad cs court_shoeCount court_claimCount court_suitCount court_shoePerson court_shoeOther inq_day inq_land inq_shoeLeftOut inq_judgedShoes inq_bindingShoes inq_boundAs inq_standing inq_arriving)) (hS : va_S A s.heap H locs) (hl : lv_has ls 6 [(0, .ref (ad 0)), (1, .int x1), (2, .int x2), (4, .int x4), (5, .int x5)]) : W p l e rm_X11_need s m args below meth c H locs 0 0 (MQ below (Q_X11_need D cs ad court_shoeCount court_claimCount court_suitCount court_shoePerson court_shoeOther A R) args s 0 0 A) (F0 m 69 ls []) := by
  obtain ⟨hx, hb, hr, hml, hown, ht, hlocks⟩ := id C0
  refine lv_iload hx hb dX11_need_69 (lv_at hl 4 rfl) ?_
  refine lv_aload_n hx hb dX11_need_71 rfl (lv_at hl 0 rfl) ?_
  refine va_get (D := D) (ci := 11) (v := .ref (ad 4)) (C := RX11) (T := TX11) (N := 11) hx hb ht iX11 hown hK hP 0 rfl rfl 0 (by decide) (ht _ kw_696) (fun _ h9 => h9) rfl dX11_need_72 ?_
  refine va_get (D := D) (ci := 2) (v := .int court_suitCount) (C := RX2) (T := TX2) (N := 13) hx hb ht iX2 hown hK hP 1 rfl rfl 12 (by decide) (ht _ kw_155) (fun _ h9 => h9) rfl dX11_need_75 ?_
  refine lv_icmp_ge (tgt := 115) hx hb dX11_need_78 (by decide) (fun c_27 => ?_) (fun c_27 => ?_)
  · have h := zk_t c_27 h
    refine lv_bipush (v := (-2 : Int32)) hx hb dX11_need_115 (by decide) ?_
    exact W.iret (v := (-2 : Int32)) hx hb hr (fun t ht2 hW => ⟨⟨(-2 : Int32), (inq_day, inq_land, inq_shoeLeftOut, inq_judgedShoes, inq_bindingShoes, inq_boundAs, inq_standing, inq_arriving), rfl, Option.some.inj h, by rw [ht2]; exact hP, hD⟩, hS.F ht2⟩) hS.2.2 dX11_need_117 hlocks
  · have h := zk_f c_27 h
    refine lv_aload_n hx hb dX11_need_81 rfl (lv_at hl 0 rfl) ?_
    refine va_get (D := D) (ci := 11) (v := .ref (ad 15)) (C := RX11) (T := TX11) (N := 11) hx hb ht iX11 hown hK hP 0 rfl rfl 1 (by decide) (ht _ kw_697) (fun _ h9 => h9) rfl dX11_need_82 ?_
    refine lv_iload_n hx hb dX11_need_85 rfl (lv_at hl 1 rfl) ?_
    refine lv_iload_n hx hb dX11_need_86 rfl (lv_at hl 2 rfl) ?_
    refine lv_bipush (v := (100 : Int32)) hx hb dX11_need_87 (by decide) ?_
    refine lv_idiv hx hb dX11_need_89 (by decide) ?_
    refine lv_iload_n hx hb dX11_need_90 rfl (lv_at hl 2 rfl) ?_
    refine lv_bipush (v := (100 : Int32)) hx hb dX11_need_91 (by decide) ?_
    refine lv_irem hx hb dX11_need_93 (by decide) ?_
    refine lv_iload hx hb dX11_need_94 (lv_at hl 4 rfl) ?_
    obtain ⟨r_28, u_29, hc_30, h⟩ := zk_o2 h
    refine zk_vi (post := (fun r u => (r, u) = (r_28, u_29))) (w1 := fun u => (wl_X3_findPoint ad cs court_shoeCount court_claimCount court_suitCount inq_day inq_land inq_shoeLeftOut)) (As := [.int x1, .int (x2 / (100 : Int32)), .int (x2 - x2 / (100 : Int32) * (100 : Int32)), .int x5]) (rest := []) (c_X3_findPoint l D cs ad  H.size 4000 x1 (x2 / (100 : Int32)) (x2 - x2 / (100 : Int32) * (100 : Int32)) x5 court_shoeCount court_claimCount court_suitCount inq_day inq_land inq_shoeLeftOut _ hc_30) ⟨hx, hb, hml, hown, ht⟩ (cwV 4 ht g_X11_255 rfl rfl rfl (by decide +kernel) ⟨Nat.le_of_ble_eq_true rfl, Nat.le_of_ble_eq_true rfl⟩) (va_recv hK hP (ci := 3) (q0 := 4) rfl rfl) hP hD hS hK hA [1, 4] [0, 2, 3, 5, 6, 7, 8, 9] rfl rfl rfl rfl (by decide) rfl hl.1 (Nat.le_of_ble_eq_true rfl) dX11_need_96 ⟨Nat.zero_le _, Nat.zero_le _⟩ (fun r u H locs hq hP hD hS => ?_)
    cases hq
    have hP : va_P D classes (wl_X11_need ad cs court_shoeCount court_claimCount court_suitCount court_shoePerson court_shoeOther inq_day inq_land inq_shoeLeftOut inq_judgedShoes inq_bindingShoes inq_boundAs inq_standing inq_arriving) H := hP.sub [0, 8, 1, 2, 9, 3, 4, 5, 6, 7] rfl
    have hD : va_D A (wl_X11_need ad cs court_shoeCount court_claimCount court_suitCount court_shoePerson court_shoeOther inq_day inq_land inq_shoeLeftOut inq_judgedShoes inq_bindingShoes inq_boundAs inq_standing inq_arriving) := hD.sub [0, 8, 1, 2, 9, 3, 4, 5, 6, 7] rfl rfl
    refine lv_iconst (v := (3 : Int32)) hx hb dX11_need_99 (by decide) ?_
    refine lv_iand hx hb dX11_need_100 ?_
    refine lv_iload hx hb dX11_need_101 (lv_at hl 3 rfl) ?_
    refine lv_icmp_eq (tgt := 109) hx hb dX11_need_103 (by decide) (fun c_31 => ?_) (fun c_31 => ?_)
    · have h := zk_t c_31 h
      obtain ⟨v_32, ev_32, h⟩ := zk_lt h
      refine lv_iinc (v := v_32) (lv' := [(5, .int v_32), (0, .ref (ad 0)), (1, .int x1), (2, .int x2), (4, .int x4)]) hx hb dX11_need_109 hl (k := 4) rfl (by rw [ev_32]; rfl) (by decide) rfl (fun ls hl => ?_)
      refine lv_goto (tgt := 69) hx hb dX11_need_112 (by decide) ?_
      exact ih69 x1 x2 x4 v_32 inq_day inq_land inq_shoeLeftOut inq_judgedShoes inq_bindingShoes inq_boundAs inq_standing inq_arriving h H locs ls hP hD hS (lv_sub hl [1, 2, 3, 4, 0] rfl)
    · have h := zk_f c_31 h
      refine lv_iload hx hb dX11_need_106 (lv_at hl 4 rfl) ?_
      exact W.iret (v := x5) hx hb hr (fun t ht2 hW => ⟨⟨x5, (inq_day, inq_land, inq_shoeLeftOut, inq_judgedShoes, inq_bindingShoes, inq_boundAs, inq_standing, inq_arriving), rfl, Option.some.inj h, by rw [ht2]; exact hP, hD⟩, hS.F ht2⟩) hS.2.2 dX11_need_108 hlocks
set_option maxHeartbeats 4000000 in
set_option maxRecDepth 100000 in
theorem L_X11_need_0 {p : Program} {l : Launch} {e : Env} {s : State} {m : MethodId} {args : Array Value} {below : List Frame} {meth : Method} {c : Code} {A : Nat → Prop} {D : va_G} {cs : Nat → ClassId} {ad : Nat → Nat} {court_shoeCount : Int32} {court_claimCount : Int32} {court_suitCount : Int32} {court_shoePerson : Nat → Int32} {court_shoeOther : Nat → Int32} {R : Int32 × Int32 × Int32 × Int32 × (Nat → Int64) × (Nat → Int64) × (Nat → Int32) × (Nat → Int32) × (Nat → Int32)} {g69 : Int32 → Int32 → Int32 → Int32 → Int32 → Int32 → Int32 → (Nat → Int64) → (Nat → Int64) → (Nat → Int32) → (Nat → Int32) → (Nat → Int32) → (Option (Int32 × Int32 × Int32 × Int32 × (Nat → Int64) × (Nat → Int64) × (Nat → Int32) × (Nat → Int32) × (Nat → Int32)))} (C0 : zC p s m args meth c cX11_need 6 (some .int) RX11 zW) (hK : va_K D classes (zT cs) s) (hA : ∀ q : Nat, s.heap.size ≤ q → A q) (ih69 : ∀ (x1 : Int32) (x2 : Int32) (x4 : Int32) (x5 : Int32) (inq_day : Int32) (inq_land : Int32) (inq_shoeLeftOut : Int32) (inq_judgedShoes : Nat → Int64) (inq_bindingShoes : Nat → Int64) (inq_boundAs : Nat → Int32) (inq_standing : Nat → Int32) (inq_arriving : Nat → Int32) (h : g69 x1 x2 x4 x5 inq_day inq_land inq_shoeLeftOut inq_judgedShoes inq_bindingShoes inq_boundAs inq_standing inq_arriving = some R) (H : Heap) (locs : List Loc) (ls : Array Slot) (hP : va_P D classes (wl_X11_need ad cs court_shoeCount court_claimCount court_suitCount court_shoePerson court_shoeOther inq_day inq_land inq_shoeLeftOut inq_judgedShoes inq_bindingShoes inq_boundAs inq_standing inq_arriving) H) (hD : va_D A (wl_X11_need ad cs court_shoeCount court_claimCount court_suitCount court_shoePerson court_shoeOther inq_day inq_land inq_shoeLeftOut inq_judgedShoes inq_bindingShoes inq_boundAs inq_standing inq_arriving)) (hS : va_S A s.heap H locs) (hl : lv_has ls 6 [(0, .ref (ad 0)), (1, .int x1), (2, .int x2), (4, .int x4), (5, .int x5)]), W p l e rm_X11_need s m args below meth c H locs 0 0 (MQ below (Q_X11_need D cs ad court_shoeCount court_claimCount court_suitCount court_shoePerson court_shoeOther A R) args s 0 0 A) (F0 m 69 ls [])) (x1 : Int32) (x2 : Int32) (x3 : Int32) (inq_day : Int32) (inq_land : Int32) (inq_shoeLeftOut : Int32) (inq_judgedShoes : Nat → Int64) (inq_bindingShoes : Nat → Int64) (inq_boundAs : Nat → Int32) (inq_standing : Nat → Int32) (inq_arriving : Nat → Int32) (h : B_X11_need_0 g69 court_shoeCount court_claimCount court_suitCount court_shoePerson court_shoeOther x1 x2 x3 inq_day inq_land inq_shoeLeftOut inq_judgedShoes inq_bindingShoes inq_boundAs inq_standing inq_arriving = some R) (H : Heap) (locs : List Loc) (ls : Array Slot) (hP : va_P D classes (wl_X11_need ad cs court_shoeCount court_claimCount court_suitCount court_shoePerson court_shoeOther inq_day inq_land inq_shoeLeftOut inq_judgedShoes inq_bindingShoes inq_boundAs inq_standing inq_arriving) H) (hD : va_D A (wl_X11_need ad cs court_shoeCount court_claimCount court_suitCount court_shoePerson court_shoeOther inq_day inq_land inq_shoeLeftOut inq_judgedShoes inq_bindingShoes inq_boundAs inq_standing inq_arriving)) (hS : va_S A s.heap H locs) (hl : lv_has ls 6 [(0, .ref (ad 0)), (1, .int x1), (2, .int x2), (3, .int x3)]) : W p l e rm_X11_need s m args below meth c H locs 0 0 (MQ below (Q_X11_need D cs ad court_shoeCount court_claimCount court_suitCount court_shoePerson court_shoeOther A R) args s 0 0 A) (F0 m 0 ls []) := by
  obtain ⟨hx, hb, hr, hml, hown, ht, hlocks⟩ := id C0
  refine lv_iload_n hx hb dX11_need_0 rfl (lv_at hl 1 rfl) ?_
  obtain ⟨r_1, u_2, hc_3, h⟩ := zk_o2 h
  refine zk_si (post := (fun r u => (r, u) = (r_1, u_2))) (w1 := fun u => (wl_X11_isPoint ad cs )) (As := [.int x1]) (rest := []) (c_X11_isPoint l D cs ad  H.size x1 _ hc_3) ⟨hx, hb, hml, hown, ht⟩ (va_cwS 1 ht g_X11_252 rfl rfl rfl (by decide +kernel) ⟨Nat.le_of_ble_eq_true rfl, Nat.le_of_ble_eq_true rfl⟩) hP hD hS hK hA [] [0, 1, 2, 3, 4, 5, 6, 7, 8, 9] rfl rfl rfl rfl (by decide) rfl hl.1 (Nat.le_of_ble_eq_true rfl) dX11_need_1 ⟨Nat.zero_le _, Nat.zero_le _⟩ (fun r u H locs hq hP hD hS => ?_)
  cases hq
  have hP : va_P D classes (wl_X11_need ad cs court_shoeCount court_claimCount court_suitCount court_shoePerson court_shoeOther inq_day inq_land inq_shoeLeftOut inq_judgedShoes inq_bindingShoes inq_boundAs inq_standing inq_arriving) H := hP.sub [0, 1, 2, 3, 4, 5, 6, 7, 8, 9] rfl
  have hD : va_D A (wl_X11_need ad cs court_shoeCount court_claimCount court_suitCount court_shoePerson court_shoeOther inq_day inq_land inq_shoeLeftOut inq_judgedShoes inq_bindingShoes inq_boundAs inq_standing inq_arriving) := hD.sub [0, 1, 2, 3, 4, 5, 6, 7, 8, 9] rfl rfl
  refine lv_if_eq (tgt := 21) hx hb dX11_need_4 (by decide) (fun c_4 => ?_) (fun c_4 => ?_)
  · have h := zk_t c_4 h
    refine lv_iconst (v := (-1 : Int32)) hx hb dX11_need_21 (by decide) ?_
    exact W.iret (v := (-1 : Int32)) hx hb hr (fun t ht2 hW => ⟨⟨(-1 : Int32), (inq_day, inq_land, inq_shoeLeftOut, inq_judgedShoes, inq_bindingShoes, inq_boundAs, inq_standing, inq_arriving), rfl, Option.some.inj h, by rw [ht2]; exact hP, hD⟩, hS.F ht2⟩) hS.2.2 dX11_need_22 hlocks
  · have h := zk_f c_4 h
    refine lv_iload_n hx hb dX11_need_7 rfl (lv_at hl 2 rfl) ?_
    obtain ⟨r_5, u_6, hc_7, h⟩ := zk_o2 h
    refine zk_si (post := (fun r u => (r, u) = (r_5, u_6))) (w1 := fun u => (wl_X11_isPair ad cs )) (As := [.int x2]) (rest := []) (c_X11_isPair l D cs ad  H.size x2 _ hc_7) ⟨hx, hb, hml, hown, ht⟩ (va_cwS 1 ht g_X11_148 rfl rfl rfl (by decide +kernel) ⟨Nat.le_of_ble_eq_true rfl, Nat.le_of_ble_eq_true rfl⟩) hP hD hS hK hA [] [0, 1, 2, 3, 4, 5, 6, 7, 8, 9] rfl rfl rfl rfl (by decide) rfl hl.1 (Nat.le_of_ble_eq_true rfl) dX11_need_8 ⟨Nat.zero_le _, Nat.zero_le _⟩ (fun r u H locs hq hP hD hS => ?_)
    cases hq
    have hP : va_P D classes (wl_X11_need ad cs court_shoeCount court_claimCount court_suitCount court_shoePerson court_shoeOther inq_day inq_land inq_shoeLeftOut inq_judgedShoes inq_bindingShoes inq_boundAs inq_standing inq_arriving) H := hP.sub [0, 1, 2, 3, 4, 5, 6, 7, 8, 9] rfl
    have hD : va_D A (wl_X11_need ad cs court_shoeCount court_claimCount court_suitCount court_shoePerson court_shoeOther inq_day inq_land inq_shoeLeftOut inq_judgedShoes inq_bindingShoes inq_boundAs inq_standing inq_arriving) := hD.sub [0, 1, 2, 3, 4, 5, 6, 7, 8, 9] rfl rfl
    refine lv_if_eq (tgt := 21) hx hb dX11_need_11 (by decide) (fun c_8 => ?_) (fun c_8 => ?_)
    · have h := zk_t c_8 h
      refine lv_iconst (v := (-1 : Int32)) hx hb dX11_need_21 (by decide) ?_
      exact W.iret (v := (-1 : Int32)) hx hb hr (fun t ht2 hW => ⟨⟨(-1 : Int32), (inq_day, inq_land, inq_shoeLeftOut, inq_judgedShoes, inq_bindingShoes, inq_boundAs, inq_standing, inq_arriving), rfl, Option.some.inj h, by rw [ht2]; exact hP, hD⟩, hS.F ht2⟩) hS.2.2 dX11_need_22 hlocks
    · have h := zk_f c_8 h
      refine lv_iload_n hx hb dX11_need_14 rfl (lv_at hl 3 rfl) ?_
      obtain ⟨r_9, u_10, hc_11, h⟩ := zk_o2 h
      refine zk_si (post := (fun r u => (r, u) = (r_9, u_10))) (w1 := fun u => (wl_X11_isWhen ad cs )) (As := [.int x3]) (rest := []) (c_X11_isWhen l D cs ad  H.size x3 _ hc_11) ⟨hx, hb, hml, hown, ht⟩ (va_cwS 1 ht g_X11_243 rfl rfl rfl (by decide +kernel) ⟨Nat.le_of_ble_eq_true rfl, Nat.le_of_ble_eq_true rfl⟩) hP hD hS hK hA [] [0, 1, 2, 3, 4, 5, 6, 7, 8, 9] rfl rfl rfl rfl (by decide) rfl hl.1 (Nat.le_of_ble_eq_true rfl) dX11_need_15 ⟨Nat.zero_le _, Nat.zero_le _⟩ (fun r u H locs hq hP hD hS => ?_)
      cases hq
      have hP : va_P D classes (wl_X11_need ad cs court_shoeCount court_claimCount court_suitCount court_shoePerson court_shoeOther inq_day inq_land inq_shoeLeftOut inq_judgedShoes inq_bindingShoes inq_boundAs inq_standing inq_arriving) H := hP.sub [0, 1, 2, 3, 4, 5, 6, 7, 8, 9] rfl
      have hD : va_D A (wl_X11_need ad cs court_shoeCount court_claimCount court_suitCount court_shoePerson court_shoeOther inq_day inq_land inq_shoeLeftOut inq_judgedShoes inq_bindingShoes inq_boundAs inq_standing inq_arriving) := hD.sub [0, 1, 2, 3, 4, 5, 6, 7, 8, 9] rfl rfl
      refine lv_if_ne (tgt := 23) hx hb dX11_need_18 (by decide) (fun c_12 => ?_) (fun c_12 => ?_)
      · have h := zk_f c_12 h
        refine lv_aload_n hx hb dX11_need_23 rfl (lv_at hl 0 rfl) ?_
        refine va_get (D := D) (ci := 11) (v := .ref (ad 15)) (C := RX11) (T := TX11) (N := 11) hx hb ht iX11 hown hK hP 0 rfl rfl 1 (by decide) (ht _ kw_697) (fun _ h9 => h9) rfl dX11_need_24 ?_
        refine lv_iload_n hx hb dX11_need_27 rfl (lv_at hl 3 rfl) ?_
        refine lv_bipush (v := (10 : Int32)) hx hb dX11_need_28 (by decide) ?_
        refine lv_idiv hx hb dX11_need_30 (by decide) ?_
        refine lv_iload_n hx hb dX11_need_31 rfl (lv_at hl 3 rfl) ?_
        refine lv_bipush (v := (10 : Int32)) hx hb dX11_need_32 (by decide) ?_
        refine lv_irem hx hb dX11_need_34 (by decide) ?_
        obtain ⟨u_13, u_14, u_15, u_16, u_17, u_18, u_19, u_20, hc_21, h⟩ := zk_o8 h
        refine zk_vv (post := (fun u => u = (u_13, u_14, u_15, u_16, u_17, u_18, u_19, u_20))) (w1 := fun u => (wl_X3_open ad cs court_shoeCount court_claimCount court_suitCount court_shoePerson court_shoeOther u.1 u.2.1 u.2.2.1 u.2.2.2.1 u.2.2.2.2.1 u.2.2.2.2.2.1 u.2.2.2.2.2.2.1 u.2.2.2.2.2.2.2)) (As := [.int (x3 / (10 : Int32)), .int (x3 - x3 / (10 : Int32) * (10 : Int32))]) (rest := []) (c_X3_open l D cs ad  H.size (x3 / (10 : Int32)) (x3 - x3 / (10 : Int32) * (10 : Int32)) court_shoeCount court_claimCount court_suitCount court_shoePerson court_shoeOther inq_day inq_land inq_shoeLeftOut inq_judgedShoes inq_bindingShoes inq_boundAs inq_standing inq_arriving _ hc_21) ⟨hx, hb, hml, hown, ht⟩ (cwV 2 ht g_X11_246 rfl rfl rfl (by decide +kernel) ⟨Nat.le_of_ble_eq_true rfl, Nat.le_of_ble_eq_true rfl⟩) (va_recv hK hP (ci := 3) (q0 := 4) rfl rfl) hP hD hS hK hA [1, 2, 3, 4, 5, 6, 7, 8, 9] [0] rfl rfl rfl rfl (by decide) rfl hl.1 (Nat.le_of_ble_eq_true rfl) dX11_need_35 ⟨Nat.zero_le _, Nat.zero_le _⟩ (fun u H locs hq hP hD hS => ?_)
        cases hq
        have hP : va_P D classes (wl_X11_need ad cs court_shoeCount court_claimCount court_suitCount court_shoePerson court_shoeOther u_13 u_14 u_15 u_16 u_17 u_18 u_19 u_20) H := hP.sub [0, 1, 2, 3, 4, 5, 6, 7, 8, 9] rfl
        have hD : va_D A (wl_X11_need ad cs court_shoeCount court_claimCount court_suitCount court_shoePerson court_shoeOther u_13 u_14 u_15 u_16 u_17 u_18 u_19 u_20) := hD.sub [0, 1, 2, 3, 4, 5, 6, 7, 8, 9] rfl rfl
        refine lv_aload_n hx hb dX11_need_38 rfl (lv_at hl 0 rfl) ?_
        refine va_get (D := D) (ci := 11) (v := .ref (ad 15)) (C := RX11) (T := TX11) (N := 11) hx hb ht iX11 hown hK hP 0 rfl rfl 1 (by decide) (ht _ kw_697) (fun _ h9 => h9) rfl dX11_need_39 ?_
        refine lv_iload_n hx hb dX11_need_42 rfl (lv_at hl 1 rfl) ?_
        refine lv_iload_n hx hb dX11_need_43 rfl (lv_at hl 2 rfl) ?_
        refine lv_bipush (v := (100 : Int32)) hx hb dX11_need_44 (by decide) ?_
        refine lv_idiv hx hb dX11_need_46 (by decide) ?_
        refine lv_iload_n hx hb dX11_need_47 rfl (lv_at hl 2 rfl) ?_
        refine lv_bipush (v := (100 : Int32)) hx hb dX11_need_48 (by decide) ?_
        refine lv_irem hx hb dX11_need_50 (by decide) ?_
        refine lv_iconst (v := (-1 : Int32)) hx hb dX11_need_51 (by decide) ?_
        obtain ⟨r_22, u_23, hc_24, h⟩ := zk_o2 h
        refine zk_vi (post := (fun r u => (r, u) = (r_22, u_23))) (w1 := fun u => (wl_X3_findPoint ad cs court_shoeCount court_claimCount court_suitCount u_13 u_14 u_15)) (As := [.int x1, .int (x2 / (100 : Int32)), .int (x2 - x2 / (100 : Int32) * (100 : Int32)), .int (-1 : Int32)]) (rest := []) (c_X3_findPoint l D cs ad  H.size 4000 x1 (x2 / (100 : Int32)) (x2 - x2 / (100 : Int32) * (100 : Int32)) (-1 : Int32) court_shoeCount court_claimCount court_suitCount u_13 u_14 u_15 _ hc_24) ⟨hx, hb, hml, hown, ht⟩ (cwV 4 ht g_X11_255 rfl rfl rfl (by decide +kernel) ⟨Nat.le_of_ble_eq_true rfl, Nat.le_of_ble_eq_true rfl⟩) (va_recv hK hP (ci := 3) (q0 := 4) rfl rfl) hP hD hS hK hA [1, 4] [0, 2, 3, 5, 6, 7, 8, 9] rfl rfl rfl rfl (by decide) rfl hl.1 (Nat.le_of_ble_eq_true rfl) dX11_need_52 ⟨Nat.zero_le _, Nat.zero_le _⟩ (fun r u H locs hq hP hD hS => ?_)
        cases hq
        have hP : va_P D classes (wl_X11_need ad cs court_shoeCount court_claimCount court_suitCount court_shoePerson court_shoeOther u_13 u_14 u_15 u_16 u_17 u_18 u_19 u_20) H := hP.sub [0, 8, 1, 2, 9, 3, 4, 5, 6, 7] rfl
        have hD : va_D A (wl_X11_need ad cs court_shoeCount court_claimCount court_suitCount court_shoePerson court_shoeOther u_13 u_14 u_15 u_16 u_17 u_18 u_19 u_20) := hD.sub [0, 8, 1, 2, 9, 3, 4, 5, 6, 7] rfl rfl
        refine lv_iconst (v := (3 : Int32)) hx hb dX11_need_55 (by decide) ?_
        refine lv_iand hx hb dX11_need_56 ?_
        obtain ⟨v_25, ev_25, h⟩ := zk_lt h
        refine W.eq (g2 := F0 m 57 ls [.int v_25]) (by rw [ev_25]) ?_
        refine lv_istore (lv' := [(4, .int v_25), (0, .ref (ad 0)), (1, .int x1), (2, .int x2), (3, .int x3)]) hx hb dX11_need_57 hl (by decide) rfl (fun ls hl => ?_)
        refine lv_iload hx hb dX11_need_59 (lv_at hl 0 rfl) ?_
        refine lv_if_ne (tgt := 66) hx hb dX11_need_61 (by decide) (fun c_26 => ?_) (fun c_26 => ?_)
        · have h := zk_f c_26 h
          refine lv_iconst (v := (0 : Int32)) hx hb dX11_need_66 (by decide) ?_
          refine lv_istore (lv' := [(5, .int (0 : Int32)), (4, .int v_25), (0, .ref (ad 0)), (1, .int x1), (2, .int x2), (3, .int x3)]) hx hb dX11_need_67 hl (by decide) rfl (fun ls hl => ?_)
          exact ih69 x1 x2 v_25 (0 : Int32) u_13 u_14 u_15 u_16 u_17 u_18 u_19 u_20 h H locs ls hP hD hS (lv_sub hl [2, 3, 4, 1, 0] rfl)
        · have h := zk_t c_26 h
          refine lv_iconst (v := (-1 : Int32)) hx hb dX11_need_64 (by decide) ?_
          exact W.iret (v := (-1 : Int32)) hx hb hr (fun t ht2 hW => ⟨⟨(-1 : Int32), (u_13, u_14, u_15, u_16, u_17, u_18, u_19, u_20), rfl, Option.some.inj h, by rw [ht2]; exact hP, hD⟩, hS.F ht2⟩) hS.2.2 dX11_need_65 hlocks
      · have h := zk_t c_12 h
        refine lv_iconst (v := (-1 : Int32)) hx hb dX11_need_21 (by decide) ?_
        exact W.iret (v := (-1 : Int32)) hx hb hr (fun t ht2 hW => ⟨⟨(-1 : Int32), (inq_day, inq_land, inq_shoeLeftOut, inq_judgedShoes, inq_bindingShoes, inq_boundAs, inq_standing, inq_arriving), rfl, Option.some.inj h, by rw [ht2]; exact hP, hD⟩, hS.F ht2⟩) hS.2.2 dX11_need_22 hlocks
theorem LG_X11_need {p : Program} {l : Launch} {e : Env} {s : State} {m : MethodId} {args : Array Value} {below : List Frame} {meth : Method} {c : Code} {A : Nat → Prop} {D : va_G} {cs : Nat → ClassId} {ad : Nat → Nat} {court_shoeCount : Int32} {court_claimCount : Int32} {court_suitCount : Int32} {court_shoePerson : Nat → Int32} {court_shoeOther : Nat → Int32} {R : Int32 × Int32 × Int32 × Int32 × (Nat → Int64) × (Nat → Int64) × (Nat → Int32) × (Nat → Int32) × (Nat → Int32)} (C0 : zC p s m args meth c cX11_need 6 (some .int) RX11 zW) (hK : va_K D classes (zT cs) s) (hA : ∀ q : Nat, s.heap.size ≤ q → A q) : ∀ n : Nat, (∀ (x1 : Int32) (x2 : Int32) (x4 : Int32) (x5 : Int32) (inq_day : Int32) (inq_land : Int32) (inq_shoeLeftOut : Int32) (inq_judgedShoes : Nat → Int64) (inq_bindingShoes : Nat → Int64) (inq_boundAs : Nat → Int32) (inq_standing : Nat → Int32) (inq_arriving : Nat → Int32) (h : (G_X11_need   court_shoeCount court_claimCount court_suitCount court_shoePerson court_shoeOther n) x1 x2 x4 x5 inq_day inq_land inq_shoeLeftOut inq_judgedShoes inq_bindingShoes inq_boundAs inq_standing inq_arriving = some R) (H : Heap) (locs : List Loc) (ls : Array Slot) (hP : va_P D classes (wl_X11_need ad cs court_shoeCount court_claimCount court_suitCount court_shoePerson court_shoeOther inq_day inq_land inq_shoeLeftOut inq_judgedShoes inq_bindingShoes inq_boundAs inq_standing inq_arriving) H) (hD : va_D A (wl_X11_need ad cs court_shoeCount court_claimCount court_suitCount court_shoePerson court_shoeOther inq_day inq_land inq_shoeLeftOut inq_judgedShoes inq_bindingShoes inq_boundAs inq_standing inq_arriving)) (hS : va_S A s.heap H locs) (hl : lv_has ls 6 [(0, .ref (ad 0)), (1, .int x1), (2, .int x2), (4, .int x4), (5, .int x5)]), W p l e rm_X11_need s m args below meth c H locs 0 0 (MQ below (Q_X11_need D cs ad court_shoeCount court_claimCount court_suitCount court_shoePerson court_shoeOther A R) args s 0 0 A) (F0 m 69 ls [])) := by
  intro n
  induction n with
  | zero =>
    refine ?_ <;> (intros; rename_i h _ _ _ _ _ _ _; cases h)
  | succ n ih =>
    exact L_X11_need_69 C0 hK hA  ih
set_option maxHeartbeats 4000000 in
set_option maxRecDepth 100000 in
theorem c_X11_need (l : Launch) (D : va_G) (cs : Nat → ClassId) (ad : Nat → Nat) (sz : Nat) (n : Nat) (x1 : Int32) (x2 : Int32) (x3 : Int32) (court_shoeCount : Int32) (court_claimCount : Int32) (court_suitCount : Int32) (court_shoePerson : Nat → Int32) (court_shoeOther : Nat → Int32) (inq_day : Int32) (inq_land : Int32) (inq_shoeLeftOut : Int32) (inq_judgedShoes : Nat → Int64) (inq_bindingShoes : Nat → Int64) (inq_boundAs : Nat → Int32) (inq_standing : Nat → Int32) (inq_arriving : Nat → Int32) (R : Int32 × Int32 × Int32 × Int32 × (Nat → Int64) × (Nat → Int64) × (Nat → Int32) × (Nat → Int32) × (Nat → Int32)) (h : f_X11_need   n x1 x2 x3 court_shoeCount court_claimCount court_suitCount court_shoePerson court_shoeOther inq_day inq_land inq_shoeLeftOut inq_judgedShoes inq_bindingShoes inq_boundAs inq_standing inq_arriving = some R) : Met l yX11_need (z_X11_need) rm_X11_need (va_Pc [.ref (ad 0), .int x1, .int x2, .int x3] (zPre D cs (wl_X11_need ad cs court_shoeCount court_claimCount court_suitCount court_shoePerson court_shoeOther inq_day inq_land inq_shoeLeftOut inq_judgedShoes inq_bindingShoes inq_boundAs inq_standing inq_arriving) sz)) (Q_X11_need D cs ad court_shoeCount court_claimCount court_suitCount court_shoePerson court_shoeOther (va_A (wl_X11_need ad cs court_shoeCount court_claimCount court_suitCount court_shoePerson court_shoeOther inq_day inq_land inq_shoeLeftOut inq_judgedShoes inq_bindingShoes inq_boundAs inq_standing inq_arriving) sz) R) 0 0 (va_A (wl_X11_need ad cs court_shoeCount court_claimCount court_suitCount court_shoePerson court_shoeOther inq_day inq_land inq_shoeLeftOut inq_judgedShoes inq_bindingShoes inq_boundAs inq_standing inq_arriving) sz) := by
  refine Met.ofW (cc := cX11_need) (maxL := 6) (ret := (some .int)) (by decide) rfl ?_
  intro p e s m args below meth c s₁ B hml hv
  obtain ⟨rfl, hsz, hP, hK, hD0⟩ := hv
  subst hsz
  have hD := hD0.self (sz := s.heap.size)
  have C0 : zC p s m _ meth c cX11_need 6 (some .int) RX11 zW := ⟨B.exec, B.bytes, B.returns, hml, findClass_of_methodNamed B.named, fun w hw => atoms_spec (ws := z_X11_need) B.pre w (List.mem_cons_of_mem _ hw), B.notSynchronized⟩
  have hA : ∀ q : Nat, s.heap.size ≤ q → va_A (wl_X11_need ad cs court_shoeCount court_claimCount court_suitCount court_shoePerson court_shoeOther inq_day inq_land inq_shoeLeftOut inq_judgedShoes inq_bindingShoes inq_boundAs inq_standing inq_arriving) s.heap.size q := fun q h => Or.inr h
  have hl := lv_entry ([.ref (ad 0), .int x1, .int x2, .int x3]) (n := 6) (Nat.le_of_ble_eq_true rfl)
  rw [lg_entry_eq]
  generalize (lg_sl ([.ref (ad 0), .int x1, .int x2, .int x3]) ++ List.replicate (6 - (lg_sl ([.ref (ad 0), .int x1, .int x2, .int x3])).length) Slot.unset).toArray = ls at hl ⊢
  exact L_X11_need_0 C0 hK hA  ((LG_X11_need C0 hK hA  n)) x1 x2 x3 inq_day inq_land inq_shoeLeftOut inq_judgedShoes inq_bindingShoes inq_boundAs inq_standing inq_arriving h s.heap [] ls hP hD va_S.rf hl
theorem kw_83 : Cond.initialized RX1 ∈ zW := zwI (i := 83) (by decide +kernel) (by decide +kernel)
theorem kw_1190 : Cond.methodLink RX11 321 yX1_back ∈ zW := zwI (i := 1190) (by decide +kernel) (by decide +kernel)
theorem kw_1191 : Cond.instanceMethod yX1_back ∈ zW := zwI (i := 1191) (by decide +kernel) (by decide +kernel)
theorem kw_1192 : Cond.selects RX1 yX1_back yX1_back ∈ zW := zwI (i := 1192) (by decide +kernel) (by decide +kernel)
theorem kw_1193 : Cond.code yX1_back cX1_back 1 (some .int) ∈ zW := zwI (i := 1193) (by decide +kernel) (by decide +kernel)
theorem dX11_undo_0 : decode cX11_undo 0 = .ok (.aload_n 0, 1) := by decide +kernel
theorem dX11_undo_1 : decode cX11_undo 1 = .ok (.getfield 58, 3) := by decide +kernel
theorem dX11_undo_4 : decode cX11_undo 4 = .ok (.invokevirtual 321, 3) := by decide +kernel
theorem dX11_undo_7 : decode cX11_undo 7 = .ok (.ireturn, 1) := by decide +kernel
abbrev z_X11_undo : List Cond := .code yX11_undo cX11_undo 1 (some .int) :: zW
abbrev wl_X11_undo (ad : Nat → Nat) (cs : Nat → ClassId)  (chg_done : Int32) (chg_size : Int32) (chg_sorts : Nat → Int32) (chg_numbers : Nat → Int32) (chg_befores : Nat → Int32) : va_W := [((ad 0), .inr (11, [.ref (ad 4), .ref (ad 15), .ref (ad 23), .ref (ad 25), .ref (ad 26), .ref (ad 28), .ref (ad 34), .ref (ad 39), .ref (ad 1), .ref (ad 2), .ref (ad 3)])), ((ad 34), .inr (1, [.ref (ad 4), .ref (ad 35), .ref (ad 36), .ref (ad 37), .ref (ad 38), .int chg_done, .int chg_size])), ((ad 35), .inl (cs 0, 40, .inl chg_sorts)), ((ad 36), .inl (cs 0, 40, .inl chg_numbers)), ((ad 37), .inl (cs 0, 40, .inl chg_befores))]
def Q_X11_undo (D : va_G) (cs : Nat → ClassId) (ad : Nat → Nat)  (chg_size : Int32) (chg_sorts : Nat → Int32) (chg_numbers : Nat → Int32) (chg_befores : Nat → Int32) (A : Nat → Prop) (R : Int32 × Int32) : Array Value → State → Outcome → State → Prop :=
  va_Qi (fun (r : Int32) (u : Int32) => (r, u) = R) (fun (u : Int32) (t : State) => va_P D classes (wl_X11_undo ad cs u chg_size chg_sorts chg_numbers chg_befores) t.heap ∧ va_D A (wl_X11_undo ad cs u chg_size chg_sorts chg_numbers chg_befores)) A
abbrev rm_X11_undo : Room := { frames := 1, cells := 0, slots := 0, locals := 20 }
theorem g_X11_321 : GoodIn zW (wsV RX11 321 RX1 yX1_back z_X1_back) := zGV kw_1190 kw_1191 kw_1192 kw_83 kw_1193
def B_X11_undo_0    (chg_size : Int32) (chg_sorts : Nat → Int32) (chg_numbers : Nat → Int32) (chg_befores : Nat → Int32) (chg_done : Int32) : Option (Int32 × Int32) :=
  (zk_b2 (f_X1_back chg_done chg_size chg_sorts chg_numbers chg_befores) (fun r_1 u_2 => (some (r_1, u_2))))
def f_X11_undo    (chg_done : Int32) (chg_size : Int32) (chg_sorts : Nat → Int32) (chg_numbers : Nat → Int32) (chg_befores : Nat → Int32) : Option (Int32 × Int32) := B_X11_undo_0   chg_size chg_sorts chg_numbers chg_befores  chg_done
set_option maxHeartbeats 4000000 in
set_option maxRecDepth 100000 in
theorem L_X11_undo_0 {p : Program} {l : Launch} {e : Env} {s : State} {m : MethodId} {args : Array Value} {below : List Frame} {meth : Method} {c : Code} {A : Nat → Prop} {D : va_G} {cs : Nat → ClassId} {ad : Nat → Nat} {chg_size : Int32} {chg_sorts : Nat → Int32} {chg_numbers : Nat → Int32} {chg_befores : Nat → Int32} {R : Int32 × Int32} (C0 : zC p s m args meth c cX11_undo 1 (some .int) RX11 zW) (hK : va_K D classes (zT cs) s) (hA : ∀ q : Nat, s.heap.size ≤ q → A q) (chg_done : Int32) (h : B_X11_undo_0 chg_size chg_sorts chg_numbers chg_befores chg_done = some R) (H : Heap) (locs : List Loc) (ls : Array Slot) (hP : va_P D classes (wl_X11_undo ad cs chg_done chg_size chg_sorts chg_numbers chg_befores) H) (hD : va_D A (wl_X11_undo ad cs chg_done chg_size chg_sorts chg_numbers chg_befores)) (hS : va_S A s.heap H locs) (hl : lv_has ls 1 [(0, .ref (ad 0))]) : W p l e rm_X11_undo s m args below meth c H locs 0 0 (MQ below (Q_X11_undo D cs ad chg_size chg_sorts chg_numbers chg_befores A R) args s 0 0 A) (F0 m 0 ls []) := by
  obtain ⟨hx, hb, hr, hml, hown, ht, hlocks⟩ := id C0
  refine lv_aload_n hx hb dX11_undo_0 rfl (lv_at hl 0 rfl) ?_
  refine va_get (D := D) (ci := 11) (v := .ref (ad 34)) (C := RX11) (T := TX11) (N := 11) hx hb ht iX11 hown hK hP 0 rfl rfl 6 (by decide) (ht _ kw_702) (fun _ h9 => h9) rfl dX11_undo_1 ?_
  obtain ⟨r_1, u_2, hc_3, h⟩ := zk_o2 h
  refine zk_vi (post := (fun r u => (r, u) = (r_1, u_2))) (w1 := fun u => (wl_X1_back ad cs u chg_size chg_sorts chg_numbers chg_befores)) (As := []) (rest := []) (c_X1_back l D cs ad  H.size chg_done chg_size chg_sorts chg_numbers chg_befores _ hc_3) ⟨hx, hb, hml, hown, ht⟩ (cwV 0 ht g_X11_321 rfl rfl rfl (by decide +kernel) ⟨Nat.le_of_ble_eq_true rfl, Nat.le_of_ble_eq_true rfl⟩) (va_recv hK hP (ci := 1) (q0 := 1) rfl rfl) hP hD hS hK hA [1, 2, 3, 4] [0] rfl rfl rfl rfl (by decide) rfl hl.1 (Nat.le_of_ble_eq_true rfl) dX11_undo_4 ⟨Nat.zero_le _, Nat.zero_le _⟩ (fun r u H locs hq hP hD hS => ?_)
  cases hq
  have hP : va_P D classes (wl_X11_undo ad cs u_2 chg_size chg_sorts chg_numbers chg_befores) H := hP.sub [0, 1, 2, 3, 4] rfl
  have hD : va_D A (wl_X11_undo ad cs u_2 chg_size chg_sorts chg_numbers chg_befores) := hD.sub [0, 1, 2, 3, 4] rfl rfl
  exact W.iret (v := r_1) hx hb hr (fun t ht2 hW => ⟨⟨r_1, u_2, rfl, Option.some.inj h, by rw [ht2]; exact hP, hD⟩, hS.F ht2⟩) hS.2.2 dX11_undo_7 hlocks
set_option maxHeartbeats 4000000 in
set_option maxRecDepth 100000 in
theorem c_X11_undo (l : Launch) (D : va_G) (cs : Nat → ClassId) (ad : Nat → Nat) (sz : Nat)  (chg_done : Int32) (chg_size : Int32) (chg_sorts : Nat → Int32) (chg_numbers : Nat → Int32) (chg_befores : Nat → Int32) (R : Int32 × Int32) (h : f_X11_undo    chg_done chg_size chg_sorts chg_numbers chg_befores = some R) : Met l yX11_undo (z_X11_undo) rm_X11_undo (va_Pc [.ref (ad 0)] (zPre D cs (wl_X11_undo ad cs chg_done chg_size chg_sorts chg_numbers chg_befores) sz)) (Q_X11_undo D cs ad chg_size chg_sorts chg_numbers chg_befores (va_A (wl_X11_undo ad cs chg_done chg_size chg_sorts chg_numbers chg_befores) sz) R) 0 0 (va_A (wl_X11_undo ad cs chg_done chg_size chg_sorts chg_numbers chg_befores) sz) := by
  refine Met.ofW (cc := cX11_undo) (maxL := 1) (ret := (some .int)) (by decide) rfl ?_
  intro p e s m args below meth c s₁ B hml hv
  obtain ⟨rfl, hsz, hP, hK, hD0⟩ := hv
  subst hsz
  have hD := hD0.self (sz := s.heap.size)
  have C0 : zC p s m _ meth c cX11_undo 1 (some .int) RX11 zW := ⟨B.exec, B.bytes, B.returns, hml, findClass_of_methodNamed B.named, fun w hw => atoms_spec (ws := z_X11_undo) B.pre w (List.mem_cons_of_mem _ hw), B.notSynchronized⟩
  have hA : ∀ q : Nat, s.heap.size ≤ q → va_A (wl_X11_undo ad cs chg_done chg_size chg_sorts chg_numbers chg_befores) s.heap.size q := fun q h => Or.inr h
  have hl := lv_entry ([.ref (ad 0)]) (n := 1) (Nat.le_of_ble_eq_true rfl)
  rw [lg_entry_eq]
  generalize (lg_sl ([.ref (ad 0)]) ++ List.replicate (1 - (lg_sl ([.ref (ad 0)])).length) Slot.unset).toArray = ls at hl ⊢
  exact L_X11_undo_0 C0 hK hA    chg_done h s.heap [] ls hP hD va_S.rf hl
theorem kw_1198 : Cond.methodLink RX11 325 yX1_again ∈ zW := zwI (i := 1198) (by decide +kernel) (by decide +kernel)
theorem kw_1199 : Cond.instanceMethod yX1_again ∈ zW := zwI (i := 1199) (by decide +kernel) (by decide +kernel)
theorem kw_1200 : Cond.selects RX1 yX1_again yX1_again ∈ zW := zwI (i := 1200) (by decide +kernel) (by decide +kernel)
theorem kw_1201 : Cond.code yX1_again cX1_again 1 (some .int) ∈ zW := zwI (i := 1201) (by decide +kernel) (by decide +kernel)
theorem dX11_redo_0 : decode cX11_redo 0 = .ok (.aload_n 0, 1) := by decide +kernel
theorem dX11_redo_1 : decode cX11_redo 1 = .ok (.getfield 58, 3) := by decide +kernel
theorem dX11_redo_4 : decode cX11_redo 4 = .ok (.invokevirtual 325, 3) := by decide +kernel
theorem dX11_redo_7 : decode cX11_redo 7 = .ok (.ireturn, 1) := by decide +kernel
abbrev z_X11_redo : List Cond := .code yX11_redo cX11_redo 1 (some .int) :: zW
abbrev wl_X11_redo (ad : Nat → Nat) (cs : Nat → ClassId)  (chg_done : Int32) (chg_size : Int32) (chg_sorts : Nat → Int32) (chg_numbers : Nat → Int32) (chg_afters : Nat → Int32) : va_W := [((ad 0), .inr (11, [.ref (ad 4), .ref (ad 15), .ref (ad 23), .ref (ad 25), .ref (ad 26), .ref (ad 28), .ref (ad 34), .ref (ad 39), .ref (ad 1), .ref (ad 2), .ref (ad 3)])), ((ad 34), .inr (1, [.ref (ad 4), .ref (ad 35), .ref (ad 36), .ref (ad 37), .ref (ad 38), .int chg_done, .int chg_size])), ((ad 35), .inl (cs 0, 40, .inl chg_sorts)), ((ad 36), .inl (cs 0, 40, .inl chg_numbers)), ((ad 38), .inl (cs 0, 40, .inl chg_afters))]
def Q_X11_redo (D : va_G) (cs : Nat → ClassId) (ad : Nat → Nat)  (chg_size : Int32) (chg_sorts : Nat → Int32) (chg_numbers : Nat → Int32) (chg_afters : Nat → Int32) (A : Nat → Prop) (R : Int32 × Int32) : Array Value → State → Outcome → State → Prop :=
  va_Qi (fun (r : Int32) (u : Int32) => (r, u) = R) (fun (u : Int32) (t : State) => va_P D classes (wl_X11_redo ad cs u chg_size chg_sorts chg_numbers chg_afters) t.heap ∧ va_D A (wl_X11_redo ad cs u chg_size chg_sorts chg_numbers chg_afters)) A
abbrev rm_X11_redo : Room := { frames := 1, cells := 0, slots := 0, locals := 20 }
theorem g_X11_325 : GoodIn zW (wsV RX11 325 RX1 yX1_again z_X1_again) := zGV kw_1198 kw_1199 kw_1200 kw_83 kw_1201
def B_X11_redo_0    (chg_size : Int32) (chg_sorts : Nat → Int32) (chg_numbers : Nat → Int32) (chg_afters : Nat → Int32) (chg_done : Int32) : Option (Int32 × Int32) :=
  (zk_b2 (f_X1_again chg_done chg_size chg_sorts chg_numbers chg_afters) (fun r_1 u_2 => (some (r_1, u_2))))
def f_X11_redo    (chg_done : Int32) (chg_size : Int32) (chg_sorts : Nat → Int32) (chg_numbers : Nat → Int32) (chg_afters : Nat → Int32) : Option (Int32 × Int32) := B_X11_redo_0   chg_size chg_sorts chg_numbers chg_afters  chg_done
set_option maxHeartbeats 4000000 in
set_option maxRecDepth 100000 in
theorem L_X11_redo_0 {p : Program} {l : Launch} {e : Env} {s : State} {m : MethodId} {args : Array Value} {below : List Frame} {meth : Method} {c : Code} {A : Nat → Prop} {D : va_G} {cs : Nat → ClassId} {ad : Nat → Nat} {chg_size : Int32} {chg_sorts : Nat → Int32} {chg_numbers : Nat → Int32} {chg_afters : Nat → Int32} {R : Int32 × Int32} (C0 : zC p s m args meth c cX11_redo 1 (some .int) RX11 zW) (hK : va_K D classes (zT cs) s) (hA : ∀ q : Nat, s.heap.size ≤ q → A q) (chg_done : Int32) (h : B_X11_redo_0 chg_size chg_sorts chg_numbers chg_afters chg_done = some R) (H : Heap) (locs : List Loc) (ls : Array Slot) (hP : va_P D classes (wl_X11_redo ad cs chg_done chg_size chg_sorts chg_numbers chg_afters) H) (hD : va_D A (wl_X11_redo ad cs chg_done chg_size chg_sorts chg_numbers chg_afters)) (hS : va_S A s.heap H locs) (hl : lv_has ls 1 [(0, .ref (ad 0))]) : W p l e rm_X11_redo s m args below meth c H locs 0 0 (MQ below (Q_X11_redo D cs ad chg_size chg_sorts chg_numbers chg_afters A R) args s 0 0 A) (F0 m 0 ls []) := by
  obtain ⟨hx, hb, hr, hml, hown, ht, hlocks⟩ := id C0
  refine lv_aload_n hx hb dX11_redo_0 rfl (lv_at hl 0 rfl) ?_
  refine va_get (D := D) (ci := 11) (v := .ref (ad 34)) (C := RX11) (T := TX11) (N := 11) hx hb ht iX11 hown hK hP 0 rfl rfl 6 (by decide) (ht _ kw_702) (fun _ h9 => h9) rfl dX11_redo_1 ?_
  obtain ⟨r_1, u_2, hc_3, h⟩ := zk_o2 h
  refine zk_vi (post := (fun r u => (r, u) = (r_1, u_2))) (w1 := fun u => (wl_X1_again ad cs u chg_size chg_sorts chg_numbers chg_afters)) (As := []) (rest := []) (c_X1_again l D cs ad  H.size chg_done chg_size chg_sorts chg_numbers chg_afters _ hc_3) ⟨hx, hb, hml, hown, ht⟩ (cwV 0 ht g_X11_325 rfl rfl rfl (by decide +kernel) ⟨Nat.le_of_ble_eq_true rfl, Nat.le_of_ble_eq_true rfl⟩) (va_recv hK hP (ci := 1) (q0 := 1) rfl rfl) hP hD hS hK hA [1, 2, 3, 4] [0] rfl rfl rfl rfl (by decide) rfl hl.1 (Nat.le_of_ble_eq_true rfl) dX11_redo_4 ⟨Nat.zero_le _, Nat.zero_le _⟩ (fun r u H locs hq hP hD hS => ?_)
  cases hq
  have hP : va_P D classes (wl_X11_redo ad cs u_2 chg_size chg_sorts chg_numbers chg_afters) H := hP.sub [0, 1, 2, 3, 4] rfl
  have hD : va_D A (wl_X11_redo ad cs u_2 chg_size chg_sorts chg_numbers chg_afters) := hD.sub [0, 1, 2, 3, 4] rfl rfl
  exact W.iret (v := r_1) hx hb hr (fun t ht2 hW => ⟨⟨r_1, u_2, rfl, Option.some.inj h, by rw [ht2]; exact hP, hD⟩, hS.F ht2⟩) hS.2.2 dX11_redo_7 hlocks
set_option maxHeartbeats 4000000 in
set_option maxRecDepth 100000 in
theorem c_X11_redo (l : Launch) (D : va_G) (cs : Nat → ClassId) (ad : Nat → Nat) (sz : Nat)  (chg_done : Int32) (chg_size : Int32) (chg_sorts : Nat → Int32) (chg_numbers : Nat → Int32) (chg_afters : Nat → Int32) (R : Int32 × Int32) (h : f_X11_redo    chg_done chg_size chg_sorts chg_numbers chg_afters = some R) : Met l yX11_redo (z_X11_redo) rm_X11_redo (va_Pc [.ref (ad 0)] (zPre D cs (wl_X11_redo ad cs chg_done chg_size chg_sorts chg_numbers chg_afters) sz)) (Q_X11_redo D cs ad chg_size chg_sorts chg_numbers chg_afters (va_A (wl_X11_redo ad cs chg_done chg_size chg_sorts chg_numbers chg_afters) sz) R) 0 0 (va_A (wl_X11_redo ad cs chg_done chg_size chg_sorts chg_numbers chg_afters) sz) := by
  refine Met.ofW (cc := cX11_redo) (maxL := 1) (ret := (some .int)) (by decide) rfl ?_
  intro p e s m args below meth c s₁ B hml hv
  obtain ⟨rfl, hsz, hP, hK, hD0⟩ := hv
  subst hsz
  have hD := hD0.self (sz := s.heap.size)
  have C0 : zC p s m _ meth c cX11_redo 1 (some .int) RX11 zW := ⟨B.exec, B.bytes, B.returns, hml, findClass_of_methodNamed B.named, fun w hw => atoms_spec (ws := z_X11_redo) B.pre w (List.mem_cons_of_mem _ hw), B.notSynchronized⟩
  have hA : ∀ q : Nat, s.heap.size ≤ q → va_A (wl_X11_redo ad cs chg_done chg_size chg_sorts chg_numbers chg_afters) s.heap.size q := fun q h => Or.inr h
  have hl := lv_entry ([.ref (ad 0)]) (n := 1) (Nat.le_of_ble_eq_true rfl)
  rw [lg_entry_eq]
  generalize (lg_sl ([.ref (ad 0)]) ++ List.replicate (1 - (lg_sl ([.ref (ad 0)])).length) Slot.unset).toArray = ls at hl ⊢
  exact L_X11_redo_0 C0 hK hA    chg_done h s.heap [] ls hP hD va_S.rf hl
theorem kw_456 : Cond.fieldLink RX11 328 "AlreadyJudged$Acts" "ran" "I" ∈ zW := zwI (i := 456) (by decide +kernel) (by decide +kernel)
theorem kw_703 : Cond.fieldLink RX11 65 "AlreadyJudged" "acts" "LAlreadyJudged$Acts;" ∈ zW := zwI (i := 703) (by decide +kernel) (by decide +kernel)
theorem dX11_act_0 : decode cX11_act 0 = .ok (.aload_n 0, 1) := by decide +kernel
theorem dX11_act_1 : decode cX11_act 1 = .ok (.getfield 65, 3) := by decide +kernel
theorem dX11_act_4 : decode cX11_act 4 = .ok (.iconst 0, 1) := by decide +kernel
theorem dX11_act_5 : decode cX11_act 5 = .ok (.putfield 328, 3) := by decide +kernel
theorem dX11_act_8 : decode cX11_act 8 = .ok (.aload_n 0, 1) := by decide +kernel
theorem dX11_act_9 : decode cX11_act 9 = .ok (.getfield 10, 3) := by decide +kernel
theorem dX11_act_12 : decode cX11_act 12 = .ok (.iload_n 1, 1) := by decide +kernel
theorem dX11_act_13 : decode cX11_act 13 = .ok (.invokevirtual 207, 3) := by decide +kernel
theorem dX11_act_16 : decode cX11_act 16 = .ok (.astore 4, 2) := by decide +kernel
theorem dX11_act_18 : decode cX11_act 18 = .ok (.aload 4, 2) := by decide +kernel
theorem dX11_act_20 : decode cX11_act 20 = .ok (.ifnonnull 5, 3) := by decide +kernel
theorem dX11_act_23 : decode cX11_act 23 = .ok (.iconst 0, 1) := by decide +kernel
theorem dX11_act_24 : decode cX11_act 24 = .ok (.ireturn, 1) := by decide +kernel
abbrev z_X11_act : List Cond := .code yX11_act cX11_act 5 (some .int) :: zW
abbrev wl_X11_act (ad : Nat → Nat) (cs : Nat → ClassId)  (court_shoeCount : Int32) (court_claimCount : Int32) (court_suitCount : Int32) (acts_ran : Int32) (acts_kind : Int32) (acts_number : Int32) (acts_claims : Int32) : va_W := [((ad 0), .inr (11, [.ref (ad 4), .ref (ad 15), .ref (ad 23), .ref (ad 25), .ref (ad 26), .ref (ad 28), .ref (ad 34), .ref (ad 39), .ref (ad 1), .ref (ad 2), .ref (ad 3)])), ((ad 4), .inr (2, [.ref (ad 5), .ref (ad 6), .ref (ad 7), .ref (ad 8), .ref (ad 9), .ref (ad 10), .ref (ad 11), .ref (ad 12), .ref (ad 13), .ref (ad 14), .int court_shoeCount, .int court_claimCount, .int court_suitCount])), ((ad 39), .inr (0, [.ref (ad 40), .int acts_ran, .int acts_kind, .int acts_number, .int acts_claims]))]
def Q_X11_act (D : va_G) (cs : Nat → ClassId) (ad : Nat → Nat)  (court_shoeCount : Int32) (court_claimCount : Int32) (court_suitCount : Int32) (acts_kind : Int32) (acts_number : Int32) (acts_claims : Int32) (A : Nat → Prop) (R : Int32 × Int32) : Array Value → State → Outcome → State → Prop :=
  va_Qi (fun (r : Int32) (u : Int32) => (r, u) = R) (fun (u : Int32) (t : State) => va_P D classes (wl_X11_act ad cs court_shoeCount court_claimCount court_suitCount u acts_kind acts_number acts_claims) t.heap ∧ va_D A (wl_X11_act ad cs court_shoeCount court_claimCount court_suitCount u acts_kind acts_number acts_claims)) A
abbrev rm_X11_act : Room := { frames := 1, cells := 0, slots := 0, locals := 21 }
def B_X11_act_0    (court_shoeCount : Int32) (court_claimCount : Int32) (court_suitCount : Int32) (acts_kind : Int32) (acts_number : Int32) (acts_claims : Int32) (x1 : Int32) (x2 : Int32) (x3 : Int32) (acts_ran : Int32) : Option (Int32 × Int32) :=
  (zk_b2 (f_X2_suitAt x1 court_shoeCount court_claimCount court_suitCount) (fun r_1 u_2 => (if r_1 = true then none else (some ((0 : Int32), (0 : Int32))))))
def f_X11_act   (x1 : Int32) (x2 : Int32) (x3 : Int32) (court_shoeCount : Int32) (court_claimCount : Int32) (court_suitCount : Int32) (acts_ran : Int32) (acts_kind : Int32) (acts_number : Int32) (acts_claims : Int32) : Option (Int32 × Int32) := B_X11_act_0   court_shoeCount court_claimCount court_suitCount acts_kind acts_number acts_claims x1 x2 x3 acts_ran
set_option maxHeartbeats 4000000 in
set_option maxRecDepth 100000 in
theorem L_X11_act_0 {p : Program} {l : Launch} {e : Env} {s : State} {m : MethodId} {args : Array Value} {below : List Frame} {meth : Method} {c : Code} {A : Nat → Prop} {D : va_G} {cs : Nat → ClassId} {ad : Nat → Nat} {court_shoeCount : Int32} {court_claimCount : Int32} {court_suitCount : Int32} {acts_kind : Int32} {acts_number : Int32} {acts_claims : Int32} {R : Int32 × Int32} (C0 : zC p s m args meth c cX11_act 5 (some .int) RX11 zW) (hK : va_K D classes (zT cs) s) (hA : ∀ q : Nat, s.heap.size ≤ q → A q) (x1 : Int32) (x2 : Int32) (x3 : Int32) (acts_ran : Int32) (h : B_X11_act_0 court_shoeCount court_claimCount court_suitCount acts_kind acts_number acts_claims x1 x2 x3 acts_ran = some R) (H : Heap) (locs : List Loc) (ls : Array Slot) (hP : va_P D classes (wl_X11_act ad cs court_shoeCount court_claimCount court_suitCount acts_ran acts_kind acts_number acts_claims) H) (hD : va_D A (wl_X11_act ad cs court_shoeCount court_claimCount court_suitCount acts_ran acts_kind acts_number acts_claims)) (hS : va_S A s.heap H locs) (hl : lv_has ls 5 [(0, .ref (ad 0)), (1, .int x1), (2, .int x2), (3, .int x3)]) : W p l e rm_X11_act s m args below meth c H locs 0 0 (MQ below (Q_X11_act D cs ad court_shoeCount court_claimCount court_suitCount acts_kind acts_number acts_claims A R) args s 0 0 A) (F0 m 0 ls []) := by
  obtain ⟨hx, hb, hr, hml, hown, ht, hlocks⟩ := id C0
  refine lv_aload_n hx hb dX11_act_0 rfl (lv_at hl 0 rfl) ?_
  refine va_get (D := D) (ci := 11) (v := .ref (ad 39)) (C := RX11) (T := TX11) (N := 11) hx hb ht iX11 hown hK hP 0 rfl rfl 7 (by decide) (ht _ kw_703) (fun _ h9 => h9) rfl dX11_act_1 ?_
  refine lv_iconst (v := (0 : Int32)) hx hb dX11_act_4 (by decide) ?_
  refine va_put (D := D) (ci := 0) (v := .int (0 : Int32)) (ty := .int) (C := RX0) (T := TX0) (N := 5) hx hb ht iX0 tyX0 tyX0_ok nmX0 hown hK hP hD hS 2 rfl rfl 1 (by decide) (ht _ kw_456) (fun _ h9 => h9) rfl (by decide +kernel) rfl rfl (Nat.le_of_ble_eq_true rfl) dX11_act_5 (fun H locs hP hD hS => ?_)
  have hP : va_P D classes (wl_X11_act ad cs court_shoeCount court_claimCount court_suitCount (0 : Int32) acts_kind acts_number acts_claims) H := hP
  have hD : va_D A (wl_X11_act ad cs court_shoeCount court_claimCount court_suitCount (0 : Int32) acts_kind acts_number acts_claims) := hD
  refine lv_aload_n hx hb dX11_act_8 rfl (lv_at hl 0 rfl) ?_
  refine va_get (D := D) (ci := 11) (v := .ref (ad 4)) (C := RX11) (T := TX11) (N := 11) hx hb ht iX11 hown hK hP 0 rfl rfl 0 (by decide) (ht _ kw_696) (fun _ h9 => h9) rfl dX11_act_9 ?_
  refine lv_iload_n hx hb dX11_act_12 rfl (lv_at hl 1 rfl) ?_
  obtain ⟨r_1, u_2, hc_3, h⟩ := zk_o2 h
  refine zk_vq (post := (fun r u => r = (if r_1 = true then some 0 else none) ∧ u = (u_2))) (w1 := fun u => (wl_X2_suitAt ad cs court_shoeCount court_claimCount court_suitCount)) (As := [.int x1]) (rest := []) (c_X2_suitAt l D cs ad  H.size x1 court_shoeCount court_claimCount court_suitCount _ hc_3) ⟨hx, hb, hml, hown, ht⟩ (cwV 1 ht g_X11_207 rfl rfl rfl (by decide +kernel) ⟨Nat.le_of_ble_eq_true rfl, Nat.le_of_ble_eq_true rfl⟩) (va_recv hK hP (ci := 2) (q0 := 1) rfl rfl) hP hD hS hK hA [1] [0, 2] rfl rfl rfl rfl (by decide) rfl hl.1 (Nat.le_of_ble_eq_true rfl) dX11_act_13 ⟨Nat.zero_le _, Nat.zero_le _⟩ (fun r u H locs hq hP hD hS => ?_)
  obtain ⟨hq1, hq2⟩ := hq; cases hq2; subst hq1
  have hP : va_P D classes (wl_X11_act ad cs court_shoeCount court_claimCount court_suitCount (0 : Int32) acts_kind acts_number acts_claims) H := hP.sub [0, 2, 1] rfl
  have hD : va_D A (wl_X11_act ad cs court_shoeCount court_claimCount court_suitCount (0 : Int32) acts_kind acts_number acts_claims) := hD.sub [0, 2, 1] rfl rfl
  by_cases c_4 : r_1 = true
  · have h := zk_t c_4 h
    cases h
  · have h := zk_f c_4 h
    refine W.eq (g2 := F0 m 16 ls [.null]) (by rw [if_neg c_4]; rfl) ?_
    refine lv_astoreN (lv' := [(4, .null), (0, .ref (ad 0)), (1, .int x1), (2, .int x2), (3, .int x3)]) hx hb dX11_act_16 hl (by decide) rfl (fun ls hl => ?_)
    refine lv_aloadN hx hb dX11_act_18 (lv_at hl 0 rfl) ?_
    refine lv_ifnonnullN hx hb dX11_act_20 ?_
    refine lv_iconst (v := (0 : Int32)) hx hb dX11_act_23 (by decide) ?_
    exact W.iret (v := (0 : Int32)) hx hb hr (fun t ht2 hW => ⟨⟨(0 : Int32), (0 : Int32), rfl, Option.some.inj h, by rw [ht2]; exact hP, hD⟩, hS.F ht2⟩) hS.2.2 dX11_act_24 hlocks
set_option maxHeartbeats 4000000 in
set_option maxRecDepth 100000 in
theorem c_X11_act (l : Launch) (D : va_G) (cs : Nat → ClassId) (ad : Nat → Nat) (sz : Nat) (x1 : Int32) (x2 : Int32) (x3 : Int32) (court_shoeCount : Int32) (court_claimCount : Int32) (court_suitCount : Int32) (acts_ran : Int32) (acts_kind : Int32) (acts_number : Int32) (acts_claims : Int32) (R : Int32 × Int32) (h : f_X11_act   x1 x2 x3 court_shoeCount court_claimCount court_suitCount acts_ran acts_kind acts_number acts_claims = some R) : Met l yX11_act (z_X11_act) rm_X11_act (va_Pc [.ref (ad 0), .int x1, .int x2, .int x3] (zPre D cs (wl_X11_act ad cs court_shoeCount court_claimCount court_suitCount acts_ran acts_kind acts_number acts_claims) sz)) (Q_X11_act D cs ad court_shoeCount court_claimCount court_suitCount acts_kind acts_number acts_claims (va_A (wl_X11_act ad cs court_shoeCount court_claimCount court_suitCount acts_ran acts_kind acts_number acts_claims) sz) R) 0 0 (va_A (wl_X11_act ad cs court_shoeCount court_claimCount court_suitCount acts_ran acts_kind acts_number acts_claims) sz) := by
  refine Met.ofW (cc := cX11_act) (maxL := 5) (ret := (some .int)) (by decide) rfl ?_
  intro p e s m args below meth c s₁ B hml hv
  obtain ⟨rfl, hsz, hP, hK, hD0⟩ := hv
  subst hsz
  have hD := hD0.self (sz := s.heap.size)
  have C0 : zC p s m _ meth c cX11_act 5 (some .int) RX11 zW := ⟨B.exec, B.bytes, B.returns, hml, findClass_of_methodNamed B.named, fun w hw => atoms_spec (ws := z_X11_act) B.pre w (List.mem_cons_of_mem _ hw), B.notSynchronized⟩
  have hA : ∀ q : Nat, s.heap.size ≤ q → va_A (wl_X11_act ad cs court_shoeCount court_claimCount court_suitCount acts_ran acts_kind acts_number acts_claims) s.heap.size q := fun q h => Or.inr h
  have hl := lv_entry ([.ref (ad 0), .int x1, .int x2, .int x3]) (n := 5) (Nat.le_of_ble_eq_true rfl)
  rw [lg_entry_eq]
  generalize (lg_sl ([.ref (ad 0), .int x1, .int x2, .int x3]) ++ List.replicate (5 - (lg_sl ([.ref (ad 0), .int x1, .int x2, .int x3])).length) Slot.unset).toArray = ls at hl ⊢
  exact L_X11_act_0 C0 hK hA   x1 x2 x3 acts_ran h s.heap [] ls hP hD va_S.rf hl
theorem kw_454 : Cond.fieldLink RX11 353 "AlreadyJudged$Acts" "bodies" "[I" ∈ zW := zwI (i := 454) (by decide +kernel) (by decide +kernel)
theorem dX11_trace_0 : decode cX11_trace 0 = .ok (.iload_n 1, 1) := by decide +kernel
theorem dX11_trace_1 : decode cX11_trace 1 = .ok (.ifCond .lt 32, 3) := by decide +kernel
theorem dX11_trace_4 : decode cX11_trace 4 = .ok (.iload_n 1, 1) := by decide +kernel
theorem dX11_trace_5 : decode cX11_trace 5 = .ok (.aload_n 0, 1) := by decide +kernel
theorem dX11_trace_6 : decode cX11_trace 6 = .ok (.getfield 65, 3) := by decide +kernel
theorem dX11_trace_9 : decode cX11_trace 9 = .ok (.getfield 328, 3) := by decide +kernel
theorem dX11_trace_12 : decode cX11_trace 12 = .ok (.if_icmp .ge 21, 3) := by decide +kernel
theorem dX11_trace_15 : decode cX11_trace 15 = .ok (.iload_n 1, 1) := by decide +kernel
theorem dX11_trace_16 : decode cX11_trace 16 = .ok (.bipush 24, 2) := by decide +kernel
theorem dX11_trace_18 : decode cX11_trace 18 = .ok (.if_icmp .ge 15, 3) := by decide +kernel
theorem dX11_trace_21 : decode cX11_trace 21 = .ok (.aload_n 0, 1) := by decide +kernel
theorem dX11_trace_22 : decode cX11_trace 22 = .ok (.getfield 65, 3) := by decide +kernel
theorem dX11_trace_25 : decode cX11_trace 25 = .ok (.getfield 353, 3) := by decide +kernel
theorem dX11_trace_28 : decode cX11_trace 28 = .ok (.iload_n 1, 1) := by decide +kernel
theorem dX11_trace_29 : decode cX11_trace 29 = .ok (.iaload, 1) := by decide +kernel
theorem dX11_trace_30 : decode cX11_trace 30 = .ok (.goto 4, 3) := by decide +kernel
theorem dX11_trace_33 : decode cX11_trace 33 = .ok (.iconst (-1), 1) := by decide +kernel
theorem dX11_trace_34 : decode cX11_trace 34 = .ok (.ireturn, 1) := by decide +kernel
abbrev z_X11_trace : List Cond := .code yX11_trace cX11_trace 2 (some .int) :: zW
abbrev wl_X11_trace (ad : Nat → Nat) (cs : Nat → ClassId)  (acts_ran : Int32) (acts_kind : Int32) (acts_number : Int32) (acts_claims : Int32) (acts_bodies : Nat → Int32) : va_W := [((ad 0), .inr (11, [.ref (ad 4), .ref (ad 15), .ref (ad 23), .ref (ad 25), .ref (ad 26), .ref (ad 28), .ref (ad 34), .ref (ad 39), .ref (ad 1), .ref (ad 2), .ref (ad 3)])), ((ad 39), .inr (0, [.ref (ad 40), .int acts_ran, .int acts_kind, .int acts_number, .int acts_claims])), ((ad 40), .inl (cs 0, 24, .inl acts_bodies))]
def Q_X11_trace (D : va_G) (cs : Nat → ClassId) (ad : Nat → Nat)  (acts_ran : Int32) (acts_kind : Int32) (acts_number : Int32) (acts_claims : Int32) (acts_bodies : Nat → Int32) (A : Nat → Prop) (R : Int32 × Unit) : Array Value → State → Outcome → State → Prop :=
  va_Qi (fun (r : Int32) (u : Unit) => (r, u) = R) (fun (u : Unit) (t : State) => va_P D classes (wl_X11_trace ad cs acts_ran acts_kind acts_number acts_claims acts_bodies) t.heap ∧ va_D A (wl_X11_trace ad cs acts_ran acts_kind acts_number acts_claims acts_bodies)) A
abbrev rm_X11_trace : Room := { frames := 0, cells := 0, slots := 0, locals := 0 }
def B_X11_trace_0    (acts_ran : Int32) (acts_kind : Int32) (acts_number : Int32) (acts_claims : Int32) (acts_bodies : Nat → Int32) (x1 : Int32) : Option (Int32 × Unit) :=
  (if x1 < 0 then (some ((-1 : Int32), ())) else (if acts_ran ≤ x1 then (some ((-1 : Int32), ())) else (if (24 : Int32) ≤ x1 then (some ((-1 : Int32), ())) else (if (x1 < 0 ∨ 24 ≤ x1.toNatClampNeg) then none else (some (acts_bodies x1.toNatClampNeg, ()))))))
def f_X11_trace   (x1 : Int32) (acts_ran : Int32) (acts_kind : Int32) (acts_number : Int32) (acts_claims : Int32) (acts_bodies : Nat → Int32) : Option (Int32 × Unit) := B_X11_trace_0   acts_ran acts_kind acts_number acts_claims acts_bodies x1 
set_option maxHeartbeats 4000000 in
set_option maxRecDepth 100000 in
theorem L_X11_trace_0 {p : Program} {l : Launch} {e : Env} {s : State} {m : MethodId} {args : Array Value} {below : List Frame} {meth : Method} {c : Code} {A : Nat → Prop} {D : va_G} {cs : Nat → ClassId} {ad : Nat → Nat} {acts_ran : Int32} {acts_kind : Int32} {acts_number : Int32} {acts_claims : Int32} {acts_bodies : Nat → Int32} {R : Int32 × Unit} (C0 : zC p s m args meth c cX11_trace 2 (some .int) RX11 zW) (hK : va_K D classes (zT cs) s) (hA : ∀ q : Nat, s.heap.size ≤ q → A q) (x1 : Int32) (h : B_X11_trace_0 acts_ran acts_kind acts_number acts_claims acts_bodies x1 = some R) (H : Heap) (locs : List Loc) (ls : Array Slot) (hP : va_P D classes (wl_X11_trace ad cs acts_ran acts_kind acts_number acts_claims acts_bodies) H) (hD : va_D A (wl_X11_trace ad cs acts_ran acts_kind acts_number acts_claims acts_bodies)) (hS : va_S A s.heap H locs) (hl : lv_has ls 2 [(0, .ref (ad 0)), (1, .int x1)]) : W p l e rm_X11_trace s m args below meth c H locs 0 0 (MQ below (Q_X11_trace D cs ad acts_ran acts_kind acts_number acts_claims acts_bodies A R) args s 0 0 A) (F0 m 0 ls []) := by
  obtain ⟨hx, hb, hr, hml, hown, ht, hlocks⟩ := id C0
  refine lv_iload_n hx hb dX11_trace_0 rfl (lv_at hl 1 rfl) ?_
  refine lv_if_lt (tgt := 33) hx hb dX11_trace_1 (by decide) (fun c_1 => ?_) (fun c_1 => ?_)
  · have h := zk_t c_1 h
    refine lv_iconst (v := (-1 : Int32)) hx hb dX11_trace_33 (by decide) ?_
    exact W.iret (v := (-1 : Int32)) hx hb hr (fun t ht2 hW => ⟨⟨(-1 : Int32), (), rfl, Option.some.inj h, by rw [ht2]; exact hP, hD⟩, hS.F ht2⟩) hS.2.2 dX11_trace_34 hlocks
  · have h := zk_f c_1 h
    refine lv_iload_n hx hb dX11_trace_4 rfl (lv_at hl 1 rfl) ?_
    refine lv_aload_n hx hb dX11_trace_5 rfl (lv_at hl 0 rfl) ?_
    refine va_get (D := D) (ci := 11) (v := .ref (ad 39)) (C := RX11) (T := TX11) (N := 11) hx hb ht iX11 hown hK hP 0 rfl rfl 7 (by decide) (ht _ kw_703) (fun _ h9 => h9) rfl dX11_trace_6 ?_
    refine va_get (D := D) (ci := 0) (v := .int acts_ran) (C := RX0) (T := TX0) (N := 5) hx hb ht iX0 hown hK hP 1 rfl rfl 1 (by decide) (ht _ kw_456) (fun _ h9 => h9) rfl dX11_trace_9 ?_
    refine lv_icmp_ge (tgt := 33) hx hb dX11_trace_12 (by decide) (fun c_2 => ?_) (fun c_2 => ?_)
    · have h := zk_t c_2 h
      refine lv_iconst (v := (-1 : Int32)) hx hb dX11_trace_33 (by decide) ?_
      exact W.iret (v := (-1 : Int32)) hx hb hr (fun t ht2 hW => ⟨⟨(-1 : Int32), (), rfl, Option.some.inj h, by rw [ht2]; exact hP, hD⟩, hS.F ht2⟩) hS.2.2 dX11_trace_34 hlocks
    · have h := zk_f c_2 h
      refine lv_iload_n hx hb dX11_trace_15 rfl (lv_at hl 1 rfl) ?_
      refine lv_bipush (v := (24 : Int32)) hx hb dX11_trace_16 (by decide) ?_
      refine lv_icmp_ge (tgt := 33) hx hb dX11_trace_18 (by decide) (fun c_3 => ?_) (fun c_3 => ?_)
      · have h := zk_t c_3 h
        refine lv_iconst (v := (-1 : Int32)) hx hb dX11_trace_33 (by decide) ?_
        exact W.iret (v := (-1 : Int32)) hx hb hr (fun t ht2 hW => ⟨⟨(-1 : Int32), (), rfl, Option.some.inj h, by rw [ht2]; exact hP, hD⟩, hS.F ht2⟩) hS.2.2 dX11_trace_34 hlocks
      · have h := zk_f c_3 h
        refine lv_aload_n hx hb dX11_trace_21 rfl (lv_at hl 0 rfl) ?_
        refine va_get (D := D) (ci := 11) (v := .ref (ad 39)) (C := RX11) (T := TX11) (N := 11) hx hb ht iX11 hown hK hP 0 rfl rfl 7 (by decide) (ht _ kw_703) (fun _ h9 => h9) rfl dX11_trace_22 ?_
        refine va_get (D := D) (ci := 0) (v := .ref (ad 40)) (C := RX0) (T := TX0) (N := 5) hx hb ht iX0 hown hK hP 1 rfl rfl 0 (by decide) (ht _ kw_454) (fun _ h9 => h9) rfl dX11_trace_25 ?_
        refine lv_iload_n hx hb dX11_trace_28 rfl (lv_at hl 1 rfl) ?_
        obtain ⟨g_4, h⟩ := zk_gd h
        refine va_iald hx hb hK hP 2 0 rfl rfl g_4 dX11_trace_29 ?_
        refine lv_goto (tgt := 34) hx hb dX11_trace_30 (by decide) ?_
        exact W.iret (v := acts_bodies x1.toNatClampNeg) hx hb hr (fun t ht2 hW => ⟨⟨acts_bodies x1.toNatClampNeg, (), rfl, Option.some.inj h, by rw [ht2]; exact hP, hD⟩, hS.F ht2⟩) hS.2.2 dX11_trace_34 hlocks
set_option maxHeartbeats 4000000 in
set_option maxRecDepth 100000 in
theorem c_X11_trace (l : Launch) (D : va_G) (cs : Nat → ClassId) (ad : Nat → Nat) (sz : Nat) (x1 : Int32) (acts_ran : Int32) (acts_kind : Int32) (acts_number : Int32) (acts_claims : Int32) (acts_bodies : Nat → Int32) (R : Int32 × Unit) (h : f_X11_trace   x1 acts_ran acts_kind acts_number acts_claims acts_bodies = some R) : Met l yX11_trace (z_X11_trace) rm_X11_trace (va_Pc [.ref (ad 0), .int x1] (zPre D cs (wl_X11_trace ad cs acts_ran acts_kind acts_number acts_claims acts_bodies) sz)) (Q_X11_trace D cs ad acts_ran acts_kind acts_number acts_claims acts_bodies (va_A (wl_X11_trace ad cs acts_ran acts_kind acts_number acts_claims acts_bodies) sz) R) 0 0 (va_A (wl_X11_trace ad cs acts_ran acts_kind acts_number acts_claims acts_bodies) sz) := by
  refine Met.ofW (cc := cX11_trace) (maxL := 2) (ret := (some .int)) (by decide) rfl ?_
  intro p e s m args below meth c s₁ B hml hv
  obtain ⟨rfl, hsz, hP, hK, hD0⟩ := hv
  subst hsz
  have hD := hD0.self (sz := s.heap.size)
  have C0 : zC p s m _ meth c cX11_trace 2 (some .int) RX11 zW := ⟨B.exec, B.bytes, B.returns, hml, findClass_of_methodNamed B.named, fun w hw => atoms_spec (ws := z_X11_trace) B.pre w (List.mem_cons_of_mem _ hw), B.notSynchronized⟩
  have hA : ∀ q : Nat, s.heap.size ≤ q → va_A (wl_X11_trace ad cs acts_ran acts_kind acts_number acts_claims acts_bodies) s.heap.size q := fun q h => Or.inr h
  have hl := lv_entry ([.ref (ad 0), .int x1]) (n := 2) (Nat.le_of_ble_eq_true rfl)
  rw [lg_entry_eq]
  generalize (lg_sl ([.ref (ad 0), .int x1]) ++ List.replicate (2 - (lg_sl ([.ref (ad 0), .int x1])).length) Slot.unset).toArray = ls at hl ⊢
  exact L_X11_trace_0 C0 hK hA   x1  h s.heap [] ls hP hD va_S.rf hl
theorem kw_682 : Cond.fieldLink RX11 356 "AlreadyJudged$Place" "suit" "I" ∈ zW := zwI (i := 682) (by decide +kernel) (by decide +kernel)
theorem dX11_keep_0 : decode cX11_keep 0 = .ok (.aload_n 0, 1) := by decide +kernel
theorem dX11_keep_1 : decode cX11_keep 1 = .ok (.iload_n 1, 1) := by decide +kernel
theorem dX11_keep_2 : decode cX11_keep 2 = .ok (.invokevirtual 111, 3) := by decide +kernel
theorem dX11_keep_5 : decode cX11_keep 5 = .ok (.astore_n 3, 1) := by decide +kernel
theorem dX11_keep_6 : decode cX11_keep 6 = .ok (.aload_n 3, 1) := by decide +kernel
theorem dX11_keep_7 : decode cX11_keep 7 = .ok (.ifnull 19, 3) := by decide +kernel
theorem dX11_keep_10 : decode cX11_keep 10 = .ok (.iload_n 2, 1) := by decide +kernel
theorem dX11_keep_11 : decode cX11_keep 11 = .ok (.iconst (-1), 1) := by decide +kernel
theorem dX11_keep_12 : decode cX11_keep 12 = .ok (.if_icmp .eq 16, 3) := by decide +kernel
theorem dX11_keep_15 : decode cX11_keep 15 = .ok (.aload_n 0, 1) := by decide +kernel
theorem dX11_keep_16 : decode cX11_keep 16 = .ok (.getfield 10, 3) := by decide +kernel
theorem dX11_keep_19 : decode cX11_keep 19 = .ok (.iload_n 2, 1) := by decide +kernel
theorem dX11_keep_20 : decode cX11_keep 20 = .ok (.invokevirtual 207, 3) := by decide +kernel
theorem dX11_keep_23 : decode cX11_keep 23 = .ok (.ifnonnull 5, 3) := by decide +kernel
theorem dX11_keep_26 : decode cX11_keep 26 = .ok (.iconst (-1), 1) := by decide +kernel
theorem dX11_keep_27 : decode cX11_keep 27 = .ok (.ireturn, 1) := by decide +kernel
theorem dX11_keep_28 : decode cX11_keep 28 = .ok (.aload_n 3, 1) := by decide +kernel
theorem dX11_keep_29 : decode cX11_keep 29 = .ok (.iload_n 2, 1) := by decide +kernel
theorem dX11_keep_30 : decode cX11_keep 30 = .ok (.iconst (-1), 1) := by decide +kernel
theorem dX11_keep_31 : decode cX11_keep 31 = .ok (.if_icmp .ne 7, 3) := by decide +kernel
theorem dX11_keep_34 : decode cX11_keep 34 = .ok (.iconst (-1), 1) := by decide +kernel
theorem dX11_keep_35 : decode cX11_keep 35 = .ok (.goto 4, 3) := by decide +kernel
theorem dX11_keep_38 : decode cX11_keep 38 = .ok (.iconst 5, 1) := by decide +kernel
theorem dX11_keep_39 : decode cX11_keep 39 = .ok (.putfield 115, 3) := by decide +kernel
theorem dX11_keep_42 : decode cX11_keep 42 = .ok (.aload_n 3, 1) := by decide +kernel
theorem dX11_keep_43 : decode cX11_keep 43 = .ok (.iload_n 2, 1) := by decide +kernel
theorem dX11_keep_44 : decode cX11_keep 44 = .ok (.putfield 356, 3) := by decide +kernel
theorem dX11_keep_47 : decode cX11_keep 47 = .ok (.iconst 1, 1) := by decide +kernel
theorem dX11_keep_48 : decode cX11_keep 48 = .ok (.ireturn, 1) := by decide +kernel
abbrev z_X11_keep : List Cond := .code yX11_keep cX11_keep 4 (some .int) :: zW
abbrev wl_X11_keep (ad : Nat → Nat) (cs : Nat → ClassId) (h_pl : Nat) (h_pl_elements : Nat) (root_places : Nat → Option Nat) (court_shoeCount : Int32) (court_claimCount : Int32) (court_suitCount : Int32) (pl_holds : Int32) (pl_suit : Int32) (pl_size : Int32) : va_W := [((ad 0), .inr (11, [.ref (ad 4), .ref (ad 15), .ref (ad 23), .ref (ad 25), .ref (ad 26), .ref (ad 28), .ref (ad 34), .ref (ad 39), .ref (ad 1), .ref (ad 2), .ref (ad 3)])), ((ad 1), .inl (cs 7, 6, .inr (.inr (.inr (.inr root_places))))), ((ad 4), .inr (2, [.ref (ad 5), .ref (ad 6), .ref (ad 7), .ref (ad 8), .ref (ad 9), .ref (ad 10), .ref (ad 11), .ref (ad 12), .ref (ad 13), .ref (ad 14), .int court_shoeCount, .int court_claimCount, .int court_suitCount])), (h_pl, .inr (6, [.int pl_holds, .int pl_suit, .int pl_size, .ref h_pl_elements]))]
def Q_X11_keep (D : va_G) (cs : Nat → ClassId) (ad : Nat → Nat) (h_pl : Nat) (h_pl_elements : Nat) (root_places : Nat → Option Nat) (court_shoeCount : Int32) (court_claimCount : Int32) (court_suitCount : Int32) (pl_size : Int32) (A : Nat → Prop) (R : Int32 × Int32 × Int32) : Array Value → State → Outcome → State → Prop :=
  va_Qi (fun (r : Int32) (u : Int32 × Int32) => (r, u) = R) (fun (u : Int32 × Int32) (t : State) => va_P D classes (wl_X11_keep ad cs h_pl h_pl_elements root_places court_shoeCount court_claimCount court_suitCount u.1 u.2 pl_size) t.heap ∧ va_D A (wl_X11_keep ad cs h_pl h_pl_elements root_places court_shoeCount court_claimCount court_suitCount u.1 u.2 pl_size)) A
abbrev rm_X11_keep : Room := { frames := 1, cells := 0, slots := 0, locals := 21 }
def B_X11_keep_39 (h_pl : Nat)   (root_places : Nat → Option Nat) (court_shoeCount : Int32) (court_claimCount : Int32) (court_suitCount : Int32) (pl_size : Int32) (x2 : Int32) (s0 : Int32) (pl_holds : Int32) (pl_suit : Int32) : Option (Int32 × Int32 × Int32) :=
  (some ((1 : Int32), s0, x2))
def B_X11_keep_28 (h_pl : Nat)   (root_places : Nat → Option Nat) (court_shoeCount : Int32) (court_claimCount : Int32) (court_suitCount : Int32) (pl_size : Int32) (x2 : Int32) (pl_holds : Int32) (pl_suit : Int32) : Option (Int32 × Int32 × Int32) :=
  (if x2 = (-1 : Int32) then (B_X11_keep_39 h_pl root_places court_shoeCount court_claimCount court_suitCount pl_size x2 (-1 : Int32) pl_holds pl_suit) else (B_X11_keep_39 h_pl root_places court_shoeCount court_claimCount court_suitCount pl_size x2 (5 : Int32) pl_holds pl_suit))
def B_X11_keep_0 (h_pl : Nat)   (root_places : Nat → Option Nat) (court_shoeCount : Int32) (court_claimCount : Int32) (court_suitCount : Int32) (pl_size : Int32) (x1 : Int32) (x2 : Int32) (pl_holds : Int32) (pl_suit : Int32) : Option (Int32 × Int32 × Int32) :=
  (zk_b2 (f_X11_placeAt h_pl x1 root_places pl_holds pl_suit pl_size) (fun r_1 u_2 => (if r_1 = true then (if x2 = (-1 : Int32) then (B_X11_keep_28 h_pl root_places court_shoeCount court_claimCount court_suitCount pl_size x2 pl_holds pl_suit) else (zk_b2 (f_X2_suitAt x2 court_shoeCount court_claimCount court_suitCount) (fun r_6 u_7 => (if r_6 = true then none else (some ((-1 : Int32), pl_holds, pl_suit)))))) else (some ((-1 : Int32), pl_holds, pl_suit)))))
def f_X11_keep (h_pl : Nat)  (x1 : Int32) (x2 : Int32) (root_places : Nat → Option Nat) (court_shoeCount : Int32) (court_claimCount : Int32) (court_suitCount : Int32) (pl_holds : Int32) (pl_suit : Int32) (pl_size : Int32) : Option (Int32 × Int32 × Int32) := B_X11_keep_0 h_pl  root_places court_shoeCount court_claimCount court_suitCount pl_size x1 x2 pl_holds pl_suit
set_option maxHeartbeats 4000000 in
set_option maxRecDepth 100000 in
theorem L_X11_keep_39 {p : Program} {l : Launch} {e : Env} {s : State} {m : MethodId} {args : Array Value} {below : List Frame} {meth : Method} {c : Code} {A : Nat → Prop} {D : va_G} {cs : Nat → ClassId} {ad : Nat → Nat} {h_pl : Nat} {h_pl_elements : Nat} {root_places : Nat → Option Nat} {court_shoeCount : Int32} {court_claimCount : Int32} {court_suitCount : Int32} {pl_size : Int32} {R : Int32 × Int32 × Int32} (C0 : zC p s m args meth c cX11_keep 4 (some .int) RX11 zW) (hK : va_K D classes (zT cs) s) (hA : ∀ q : Nat, s.heap.size ≤ q → A q) (x2 : Int32) (s0 : Int32) (pl_holds : Int32) (pl_suit : Int32) (h : B_X11_keep_39 h_pl root_places court_shoeCount court_claimCount court_suitCount pl_size x2 s0 pl_holds pl_suit = some R) (H : Heap) (locs : List Loc) (ls : Array Slot) (hP : va_P D classes (wl_X11_keep ad cs h_pl h_pl_elements root_places court_shoeCount court_claimCount court_suitCount pl_holds pl_suit pl_size) H) (hD : va_D A (wl_X11_keep ad cs h_pl h_pl_elements root_places court_shoeCount court_claimCount court_suitCount pl_holds pl_suit pl_size)) (hS : va_S A s.heap H locs) (hl : lv_has ls 4 [(2, .int x2), (3, .ref h_pl)]) : W p l e rm_X11_keep s m args below meth c H locs 0 0 (MQ below (Q_X11_keep D cs ad h_pl h_pl_elements root_places court_shoeCount court_claimCount court_suitCount pl_size A R) args s 0 0 A) (F0 m 39 ls [.int s0, .ref h_pl]) := by
  obtain ⟨hx, hb, hr, hml, hown, ht, hlocks⟩ := id C0
  refine va_put (D := D) (ci := 6) (v := .int s0) (ty := .int) (C := RX6) (T := TX6) (N := 4) hx hb ht iX6 tyX6 tyX6_ok nmX6 hown hK hP hD hS 3 rfl rfl 0 (by decide) (ht _ kw_681) (fun _ h9 => h9) rfl (by decide +kernel) rfl rfl (Nat.le_of_ble_eq_true rfl) dX11_keep_39 (fun H locs hP hD hS => ?_)
  have hP : va_P D classes (wl_X11_keep ad cs h_pl h_pl_elements root_places court_shoeCount court_claimCount court_suitCount s0 pl_suit pl_size) H := hP
  have hD : va_D A (wl_X11_keep ad cs h_pl h_pl_elements root_places court_shoeCount court_claimCount court_suitCount s0 pl_suit pl_size) := hD
  refine lv_aload_n hx hb dX11_keep_42 rfl (lv_at hl 1 rfl) ?_
  refine lv_iload_n hx hb dX11_keep_43 rfl (lv_at hl 0 rfl) ?_
  refine va_put (D := D) (ci := 6) (v := .int x2) (ty := .int) (C := RX6) (T := TX6) (N := 4) hx hb ht iX6 tyX6 tyX6_ok nmX6 hown hK hP hD hS 3 rfl rfl 1 (by decide) (ht _ kw_682) (fun _ h9 => h9) rfl (by decide +kernel) rfl rfl (Nat.le_of_ble_eq_true rfl) dX11_keep_44 (fun H locs hP hD hS => ?_)
  have hP : va_P D classes (wl_X11_keep ad cs h_pl h_pl_elements root_places court_shoeCount court_claimCount court_suitCount s0 x2 pl_size) H := hP
  have hD : va_D A (wl_X11_keep ad cs h_pl h_pl_elements root_places court_shoeCount court_claimCount court_suitCount s0 x2 pl_size) := hD
  refine lv_iconst (v := (1 : Int32)) hx hb dX11_keep_47 (by decide) ?_
  exact W.iret (v := (1 : Int32)) hx hb hr (fun t ht2 hW => ⟨⟨(1 : Int32), (s0, x2), rfl, Option.some.inj h, by rw [ht2]; exact hP, hD⟩, hS.F ht2⟩) hS.2.2 dX11_keep_48 hlocks
set_option maxHeartbeats 4000000 in
set_option maxRecDepth 100000 in
theorem L_X11_keep_28 {p : Program} {l : Launch} {e : Env} {s : State} {m : MethodId} {args : Array Value} {below : List Frame} {meth : Method} {c : Code} {A : Nat → Prop} {D : va_G} {cs : Nat → ClassId} {ad : Nat → Nat} {h_pl : Nat} {h_pl_elements : Nat} {root_places : Nat → Option Nat} {court_shoeCount : Int32} {court_claimCount : Int32} {court_suitCount : Int32} {pl_size : Int32} {R : Int32 × Int32 × Int32} (C0 : zC p s m args meth c cX11_keep 4 (some .int) RX11 zW) (hK : va_K D classes (zT cs) s) (hA : ∀ q : Nat, s.heap.size ≤ q → A q) (x2 : Int32) (pl_holds : Int32) (pl_suit : Int32) (h : B_X11_keep_28 h_pl root_places court_shoeCount court_claimCount court_suitCount pl_size x2 pl_holds pl_suit = some R) (H : Heap) (locs : List Loc) (ls : Array Slot) (hP : va_P D classes (wl_X11_keep ad cs h_pl h_pl_elements root_places court_shoeCount court_claimCount court_suitCount pl_holds pl_suit pl_size) H) (hD : va_D A (wl_X11_keep ad cs h_pl h_pl_elements root_places court_shoeCount court_claimCount court_suitCount pl_holds pl_suit pl_size)) (hS : va_S A s.heap H locs) (hl : lv_has ls 4 [(2, .int x2), (3, .ref h_pl)]) : W p l e rm_X11_keep s m args below meth c H locs 0 0 (MQ below (Q_X11_keep D cs ad h_pl h_pl_elements root_places court_shoeCount court_claimCount court_suitCount pl_size A R) args s 0 0 A) (F0 m 28 ls []) := by
  obtain ⟨hx, hb, hr, hml, hown, ht, hlocks⟩ := id C0
  refine lv_aload_n hx hb dX11_keep_28 rfl (lv_at hl 1 rfl) ?_
  refine lv_iload_n hx hb dX11_keep_29 rfl (lv_at hl 0 rfl) ?_
  refine lv_iconst (v := (-1 : Int32)) hx hb dX11_keep_30 (by decide) ?_
  refine lv_icmp_ne (tgt := 38) hx hb dX11_keep_31 (by decide) (fun c_10 => ?_) (fun c_10 => ?_)
  · have h := zk_f c_10 h
    refine lv_iconst (v := (5 : Int32)) hx hb dX11_keep_38 (by decide) ?_
    exact L_X11_keep_39 C0 hK hA   x2 (5 : Int32) pl_holds pl_suit h H locs ls hP hD hS (lv_sub hl [0, 1] rfl)
  · have h := zk_t c_10 h
    refine lv_iconst (v := (-1 : Int32)) hx hb dX11_keep_34 (by decide) ?_
    refine lv_goto (tgt := 39) hx hb dX11_keep_35 (by decide) ?_
    exact L_X11_keep_39 C0 hK hA   x2 (-1 : Int32) pl_holds pl_suit h H locs ls hP hD hS (lv_sub hl [0, 1] rfl)
set_option maxHeartbeats 4000000 in
set_option maxRecDepth 100000 in
theorem L_X11_keep_0 {p : Program} {l : Launch} {e : Env} {s : State} {m : MethodId} {args : Array Value} {below : List Frame} {meth : Method} {c : Code} {A : Nat → Prop} {D : va_G} {cs : Nat → ClassId} {ad : Nat → Nat} {h_pl : Nat} {h_pl_elements : Nat} {root_places : Nat → Option Nat} {court_shoeCount : Int32} {court_claimCount : Int32} {court_suitCount : Int32} {pl_size : Int32} {R : Int32 × Int32 × Int32} (C0 : zC p s m args meth c cX11_keep 4 (some .int) RX11 zW) (hK : va_K D classes (zT cs) s) (hA : ∀ q : Nat, s.heap.size ≤ q → A q) (x1 : Int32) (x2 : Int32) (pl_holds : Int32) (pl_suit : Int32) (h : B_X11_keep_0 h_pl root_places court_shoeCount court_claimCount court_suitCount pl_size x1 x2 pl_holds pl_suit = some R) (H : Heap) (locs : List Loc) (ls : Array Slot) (hP : va_P D classes (wl_X11_keep ad cs h_pl h_pl_elements root_places court_shoeCount court_claimCount court_suitCount pl_holds pl_suit pl_size) H) (hD : va_D A (wl_X11_keep ad cs h_pl h_pl_elements root_places court_shoeCount court_claimCount court_suitCount pl_holds pl_suit pl_size)) (hS : va_S A s.heap H locs) (hl : lv_has ls 4 [(0, .ref (ad 0)), (1, .int x1), (2, .int x2)]) : W p l e rm_X11_keep s m args below meth c H locs 0 0 (MQ below (Q_X11_keep D cs ad h_pl h_pl_elements root_places court_shoeCount court_claimCount court_suitCount pl_size A R) args s 0 0 A) (F0 m 0 ls []) := by
  obtain ⟨hx, hb, hr, hml, hown, ht, hlocks⟩ := id C0
  refine lv_aload_n hx hb dX11_keep_0 rfl (lv_at hl 0 rfl) ?_
  refine lv_iload_n hx hb dX11_keep_1 rfl (lv_at hl 1 rfl) ?_
  obtain ⟨r_1, u_2, hc_3, h⟩ := zk_o2 h
  refine zk_vq (post := (fun r u => r = (if r_1 = true then some h_pl else none) ∧ u = (u_2))) (w1 := fun u => (wl_X11_placeAt ad cs h_pl h_pl_elements root_places pl_holds pl_suit pl_size)) (As := [.int x1]) (rest := []) (c_X11_placeAt l D cs ad h_pl h_pl_elements H.size x1 root_places pl_holds pl_suit pl_size _ hc_3) ⟨hx, hb, hml, hown, ht⟩ (cwV 1 ht g_X11_111 rfl rfl rfl (by decide +kernel) ⟨Nat.le_of_ble_eq_true rfl, Nat.le_of_ble_eq_true rfl⟩) (va_recv hK hP (ci := 11) (q0 := 0) rfl rfl) hP hD hS hK hA [0, 1, 3] [2] rfl rfl rfl rfl (by decide) rfl hl.1 (Nat.le_of_ble_eq_true rfl) dX11_keep_2 ⟨Nat.zero_le _, Nat.zero_le _⟩ (fun r u H locs hq hP hD hS => ?_)
  obtain ⟨hq1, hq2⟩ := hq; cases hq2; subst hq1
  have hP : va_P D classes (wl_X11_keep ad cs h_pl h_pl_elements root_places court_shoeCount court_claimCount court_suitCount pl_holds pl_suit pl_size) H := hP.sub [1, 2, 0, 3] rfl
  have hD : va_D A (wl_X11_keep ad cs h_pl h_pl_elements root_places court_shoeCount court_claimCount court_suitCount pl_holds pl_suit pl_size) := hD.sub [1, 2, 0, 3] rfl rfl
  by_cases c_4 : r_1 = true
  · have h := zk_t c_4 h
    refine W.eq (g2 := F0 m 5 ls [.ref h_pl]) (by rw [if_pos c_4]; rfl) ?_
    refine lv_astore_n (lv' := [(3, .ref h_pl), (0, .ref (ad 0)), (1, .int x1), (2, .int x2)]) hx hb dX11_keep_5 rfl hl (by decide) rfl (fun ls hl => ?_)
    refine lv_aload_n hx hb dX11_keep_6 rfl (lv_at hl 0 rfl) ?_
    refine lv_ifnull hx hb dX11_keep_7 ?_
    refine lv_iload_n hx hb dX11_keep_10 rfl (lv_at hl 3 rfl) ?_
    refine lv_iconst (v := (-1 : Int32)) hx hb dX11_keep_11 (by decide) ?_
    refine lv_icmp_eq (tgt := 28) hx hb dX11_keep_12 (by decide) (fun c_5 => ?_) (fun c_5 => ?_)
    · have h := zk_t c_5 h
      exact L_X11_keep_28 C0 hK hA   x2 pl_holds pl_suit h H locs ls hP hD hS (lv_sub hl [3, 0] rfl)
    · have h := zk_f c_5 h
      refine lv_aload_n hx hb dX11_keep_15 rfl (lv_at hl 1 rfl) ?_
      refine va_get (D := D) (ci := 11) (v := .ref (ad 4)) (C := RX11) (T := TX11) (N := 11) hx hb ht iX11 hown hK hP 0 rfl rfl 0 (by decide) (ht _ kw_696) (fun _ h9 => h9) rfl dX11_keep_16 ?_
      refine lv_iload_n hx hb dX11_keep_19 rfl (lv_at hl 3 rfl) ?_
      obtain ⟨r_6, u_7, hc_8, h⟩ := zk_o2 h
      refine zk_vq (post := (fun r u => r = (if r_6 = true then some 0 else none) ∧ u = (u_7))) (w1 := fun u => (wl_X2_suitAt ad cs court_shoeCount court_claimCount court_suitCount)) (As := [.int x2]) (rest := []) (c_X2_suitAt l D cs ad  H.size x2 court_shoeCount court_claimCount court_suitCount _ hc_8) ⟨hx, hb, hml, hown, ht⟩ (cwV 1 ht g_X11_207 rfl rfl rfl (by decide +kernel) ⟨Nat.le_of_ble_eq_true rfl, Nat.le_of_ble_eq_true rfl⟩) (va_recv hK hP (ci := 2) (q0 := 2) rfl rfl) hP hD hS hK hA [2] [0, 1, 3] rfl rfl rfl rfl (by decide) rfl hl.1 (Nat.le_of_ble_eq_true rfl) dX11_keep_20 ⟨Nat.zero_le _, Nat.zero_le _⟩ (fun r u H locs hq hP hD hS => ?_)
      obtain ⟨hq1, hq2⟩ := hq; cases hq2; subst hq1
      have hP : va_P D classes (wl_X11_keep ad cs h_pl h_pl_elements root_places court_shoeCount court_claimCount court_suitCount pl_holds pl_suit pl_size) H := hP.sub [0, 1, 3, 2] rfl
      have hD : va_D A (wl_X11_keep ad cs h_pl h_pl_elements root_places court_shoeCount court_claimCount court_suitCount pl_holds pl_suit pl_size) := hD.sub [0, 1, 3, 2] rfl rfl
      by_cases c_9 : r_6 = true
      · have h := zk_t c_9 h
        cases h
      · have h := zk_f c_9 h
        refine W.eq (g2 := F0 m 23 ls [.null]) (by rw [if_neg c_9]; rfl) ?_
        refine lv_ifnonnullN hx hb dX11_keep_23 ?_
        refine lv_iconst (v := (-1 : Int32)) hx hb dX11_keep_26 (by decide) ?_
        exact W.iret (v := (-1 : Int32)) hx hb hr (fun t ht2 hW => ⟨⟨(-1 : Int32), (pl_holds, pl_suit), rfl, Option.some.inj h, by rw [ht2]; exact hP, hD⟩, hS.F ht2⟩) hS.2.2 dX11_keep_27 hlocks
  · have h := zk_f c_4 h
    refine W.eq (g2 := F0 m 5 ls [.null]) (by rw [if_neg c_4]; rfl) ?_
    refine lv_astore_nN (lv' := [(3, .null), (0, .ref (ad 0)), (1, .int x1), (2, .int x2)]) hx hb dX11_keep_5 rfl hl (by decide) rfl (fun ls hl => ?_)
    refine lv_aload_nN hx hb dX11_keep_6 rfl (lv_at hl 0 rfl) ?_
    refine lv_ifnullN (tgt := 26) hx hb dX11_keep_7 (by decide) ?_
    refine lv_iconst (v := (-1 : Int32)) hx hb dX11_keep_26 (by decide) ?_
    exact W.iret (v := (-1 : Int32)) hx hb hr (fun t ht2 hW => ⟨⟨(-1 : Int32), (pl_holds, pl_suit), rfl, Option.some.inj h, by rw [ht2]; exact hP, hD⟩, hS.F ht2⟩) hS.2.2 dX11_keep_27 hlocks
set_option maxHeartbeats 4000000 in
set_option maxRecDepth 100000 in
theorem c_X11_keep (l : Launch) (D : va_G) (cs : Nat → ClassId) (ad : Nat → Nat) (h_pl : Nat) (h_pl_elements : Nat) (sz : Nat) (x1 : Int32) (x2 : Int32) (root_places : Nat → Option Nat) (court_shoeCount : Int32) (court_claimCount : Int32) (court_suitCount : Int32) (pl_holds : Int32) (pl_suit : Int32) (pl_size : Int32) (R : Int32 × Int32 × Int32) (h : f_X11_keep h_pl  x1 x2 root_places court_shoeCount court_claimCount court_suitCount pl_holds pl_suit pl_size = some R) : Met l yX11_keep (z_X11_keep) rm_X11_keep (va_Pc [.ref (ad 0), .int x1, .int x2] (zPre D cs (wl_X11_keep ad cs h_pl h_pl_elements root_places court_shoeCount court_claimCount court_suitCount pl_holds pl_suit pl_size) sz)) (Q_X11_keep D cs ad h_pl h_pl_elements root_places court_shoeCount court_claimCount court_suitCount pl_size (va_A (wl_X11_keep ad cs h_pl h_pl_elements root_places court_shoeCount court_claimCount court_suitCount pl_holds pl_suit pl_size) sz) R) 0 0 (va_A (wl_X11_keep ad cs h_pl h_pl_elements root_places court_shoeCount court_claimCount court_suitCount pl_holds pl_suit pl_size) sz) := by
  refine Met.ofW (cc := cX11_keep) (maxL := 4) (ret := (some .int)) (by decide) rfl ?_
  intro p e s m args below meth c s₁ B hml hv
  obtain ⟨rfl, hsz, hP, hK, hD0⟩ := hv
  subst hsz
  have hD := hD0.self (sz := s.heap.size)
  have C0 : zC p s m _ meth c cX11_keep 4 (some .int) RX11 zW := ⟨B.exec, B.bytes, B.returns, hml, findClass_of_methodNamed B.named, fun w hw => atoms_spec (ws := z_X11_keep) B.pre w (List.mem_cons_of_mem _ hw), B.notSynchronized⟩
  have hA : ∀ q : Nat, s.heap.size ≤ q → va_A (wl_X11_keep ad cs h_pl h_pl_elements root_places court_shoeCount court_claimCount court_suitCount pl_holds pl_suit pl_size) s.heap.size q := fun q h => Or.inr h
  have hl := lv_entry ([.ref (ad 0), .int x1, .int x2]) (n := 4) (Nat.le_of_ble_eq_true rfl)
  rw [lg_entry_eq]
  generalize (lg_sl ([.ref (ad 0), .int x1, .int x2]) ++ List.replicate (4 - (lg_sl ([.ref (ad 0), .int x1, .int x2])).length) Slot.unset).toArray = ls at hl ⊢
  exact L_X11_keep_0 C0 hK hA   x1 x2 pl_holds pl_suit h s.heap [] ls hP hD va_S.rf hl
theorem kw_1250 : Cond.methodLink RX11 359 yX6_becomeRow ∈ zW := zwI (i := 1250) (by decide +kernel) (by decide +kernel)
theorem kw_1251 : Cond.instanceMethod yX6_becomeRow ∈ zW := zwI (i := 1251) (by decide +kernel) (by decide +kernel)
theorem kw_1252 : Cond.selects RX6 yX6_becomeRow yX6_becomeRow ∈ zW := zwI (i := 1252) (by decide +kernel) (by decide +kernel)
theorem kw_1253 : Cond.code yX6_becomeRow cX6_becomeRow 3 none ∈ zW := zwI (i := 1253) (by decide +kernel) (by decide +kernel)
theorem dX11_row_0 : decode cX11_row 0 = .ok (.aload_n 0, 1) := by decide +kernel
theorem dX11_row_1 : decode cX11_row 1 = .ok (.iload_n 1, 1) := by decide +kernel
theorem dX11_row_2 : decode cX11_row 2 = .ok (.invokevirtual 111, 3) := by decide +kernel
theorem dX11_row_5 : decode cX11_row 5 = .ok (.astore 4, 2) := by decide +kernel
theorem dX11_row_7 : decode cX11_row 7 = .ok (.aload 4, 2) := by decide +kernel
theorem dX11_row_9 : decode cX11_row 9 = .ok (.ifnull 18, 3) := by decide +kernel
theorem dX11_row_12 : decode cX11_row 12 = .ok (.iload_n 2, 1) := by decide +kernel
theorem dX11_row_13 : decode cX11_row 13 = .ok (.ifCond .lt 14, 3) := by decide +kernel
theorem dX11_row_16 : decode cX11_row 16 = .ok (.iload_n 2, 1) := by decide +kernel
theorem dX11_row_17 : decode cX11_row 17 = .ok (.iconst 4, 1) := by decide +kernel
theorem dX11_row_18 : decode cX11_row 18 = .ok (.if_icmp .gt 9, 3) := by decide +kernel
theorem dX11_row_21 : decode cX11_row 21 = .ok (.iload_n 3, 1) := by decide +kernel
theorem dX11_row_22 : decode cX11_row 22 = .ok (.bipush 60, 2) := by decide +kernel
theorem dX11_row_24 : decode cX11_row 24 = .ok (.if_icmp .le 5, 3) := by decide +kernel
theorem dX11_row_27 : decode cX11_row 27 = .ok (.iconst (-1), 1) := by decide +kernel
theorem dX11_row_28 : decode cX11_row 28 = .ok (.ireturn, 1) := by decide +kernel
theorem dX11_row_29 : decode cX11_row 29 = .ok (.iload_n 3, 1) := by decide +kernel
theorem dX11_row_30 : decode cX11_row 30 = .ok (.ifCond .ge 6, 3) := by decide +kernel
theorem dX11_row_33 : decode cX11_row 33 = .ok (.bipush (-14), 2) := by decide +kernel
theorem dX11_row_35 : decode cX11_row 35 = .ok (.ireturn, 1) := by decide +kernel
theorem dX11_row_36 : decode cX11_row 36 = .ok (.aload 4, 2) := by decide +kernel
theorem dX11_row_38 : decode cX11_row 38 = .ok (.iload_n 2, 1) := by decide +kernel
theorem dX11_row_39 : decode cX11_row 39 = .ok (.iload_n 3, 1) := by decide +kernel
theorem dX11_row_40 : decode cX11_row 40 = .ok (.invokevirtual 359, 3) := by decide +kernel
theorem dX11_row_43 : decode cX11_row 43 = .ok (.iconst 1, 1) := by decide +kernel
theorem dX11_row_44 : decode cX11_row 44 = .ok (.ireturn, 1) := by decide +kernel
abbrev z_X11_row : List Cond := .code yX11_row cX11_row 5 (some .int) :: zW
abbrev wl_X11_row (ad : Nat → Nat) (cs : Nat → ClassId) (h_pl : Nat) (h_pl_elements : Nat) (root_places : Nat → Option Nat) (pl_holds : Int32) (pl_suit : Int32) (pl_size : Int32) (pl_elements : Nat → Int64) : va_W := [((ad 0), .inr (11, [.ref (ad 4), .ref (ad 15), .ref (ad 23), .ref (ad 25), .ref (ad 26), .ref (ad 28), .ref (ad 34), .ref (ad 39), .ref (ad 1), .ref (ad 2), .ref (ad 3)])), ((ad 1), .inl (cs 7, 6, .inr (.inr (.inr (.inr root_places))))), (h_pl, .inr (6, [.int pl_holds, .int pl_suit, .int pl_size, .ref h_pl_elements])), (h_pl_elements, .inl (cs 1, 60, .inr (.inl pl_elements)))]
def Q_X11_row (D : va_G) (cs : Nat → ClassId) (ad : Nat → Nat) (h_pl : Nat) (h_pl_elements : Nat) (root_places : Nat → Option Nat) (pl_suit : Int32) (A : Nat → Prop) (R : Int32 × Int32 × Int32 × (Nat → Int64)) : Array Value → State → Outcome → State → Prop :=
  va_Qi (fun (r : Int32) (u : Int32 × Int32 × (Nat → Int64)) => (r, u) = R) (fun (u : Int32 × Int32 × (Nat → Int64)) (t : State) => va_P D classes (wl_X11_row ad cs h_pl h_pl_elements root_places u.1 pl_suit u.2.1 u.2.2) t.heap ∧ va_D A (wl_X11_row ad cs h_pl h_pl_elements root_places u.1 pl_suit u.2.1 u.2.2)) A
abbrev rm_X11_row : Room := { frames := 2, cells := 0, slots := 0, locals := 46 }
theorem g_X11_359 : GoodIn zW (wsV RX11 359 RX6 yX6_becomeRow z_X6_becomeRow) := zGV kw_1250 kw_1251 kw_1252 kw_94 kw_1253
def B_X11_row_0 (h_pl : Nat)   (root_places : Nat → Option Nat) (pl_suit : Int32) (x1 : Int32) (x2 : Int32) (x3 : Int32) (pl_holds : Int32) (pl_size : Int32) (pl_elements : Nat → Int64) : Option (Int32 × Int32 × Int32 × (Nat → Int64)) :=
  (zk_b2 (f_X11_placeAt h_pl x1 root_places pl_holds pl_suit pl_size) (fun r_1 u_2 => (if r_1 = true then (if x2 < 0 then (some ((-1 : Int32), pl_holds, pl_size, pl_elements)) else (if (4 : Int32) < x2 then (some ((-1 : Int32), pl_holds, pl_size, pl_elements)) else (if x3 ≤ (60 : Int32) then (if 0 ≤ x3 then (zk_b3 (f_X6_becomeRow x2 x3 pl_holds pl_suit pl_size pl_elements) (fun u_9 u_10 u_11 => (some ((1 : Int32), u_9, u_10, u_11)))) else (some ((-14 : Int32), pl_holds, pl_size, pl_elements))) else (some ((-1 : Int32), pl_holds, pl_size, pl_elements))))) else (some ((-1 : Int32), pl_holds, pl_size, pl_elements)))))
def f_X11_row (h_pl : Nat)  (x1 : Int32) (x2 : Int32) (x3 : Int32) (root_places : Nat → Option Nat) (pl_holds : Int32) (pl_suit : Int32) (pl_size : Int32) (pl_elements : Nat → Int64) : Option (Int32 × Int32 × Int32 × (Nat → Int64)) := B_X11_row_0 h_pl  root_places pl_suit x1 x2 x3 pl_holds pl_size pl_elements
set_option maxHeartbeats 4000000 in
set_option maxRecDepth 100000 in
theorem L_X11_row_0 {p : Program} {l : Launch} {e : Env} {s : State} {m : MethodId} {args : Array Value} {below : List Frame} {meth : Method} {c : Code} {A : Nat → Prop} {D : va_G} {cs : Nat → ClassId} {ad : Nat → Nat} {h_pl : Nat} {h_pl_elements : Nat} {root_places : Nat → Option Nat} {pl_suit : Int32} {R : Int32 × Int32 × Int32 × (Nat → Int64)} (C0 : zC p s m args meth c cX11_row 5 (some .int) RX11 zW) (hK : va_K D classes (zT cs) s) (hA : ∀ q : Nat, s.heap.size ≤ q → A q) (x1 : Int32) (x2 : Int32) (x3 : Int32) (pl_holds : Int32) (pl_size : Int32) (pl_elements : Nat → Int64) (h : B_X11_row_0 h_pl root_places pl_suit x1 x2 x3 pl_holds pl_size pl_elements = some R) (H : Heap) (locs : List Loc) (ls : Array Slot) (hP : va_P D classes (wl_X11_row ad cs h_pl h_pl_elements root_places pl_holds pl_suit pl_size pl_elements) H) (hD : va_D A (wl_X11_row ad cs h_pl h_pl_elements root_places pl_holds pl_suit pl_size pl_elements)) (hS : va_S A s.heap H locs) (hl : lv_has ls 5 [(0, .ref (ad 0)), (1, .int x1), (2, .int x2), (3, .int x3)]) : W p l e rm_X11_row s m args below meth c H locs 0 0 (MQ below (Q_X11_row D cs ad h_pl h_pl_elements root_places pl_suit A R) args s 0 0 A) (F0 m 0 ls []) := by
  obtain ⟨hx, hb, hr, hml, hown, ht, hlocks⟩ := id C0
  refine lv_aload_n hx hb dX11_row_0 rfl (lv_at hl 0 rfl) ?_
  refine lv_iload_n hx hb dX11_row_1 rfl (lv_at hl 1 rfl) ?_
  obtain ⟨r_1, u_2, hc_3, h⟩ := zk_o2 h
  refine zk_vq (post := (fun r u => r = (if r_1 = true then some h_pl else none) ∧ u = (u_2))) (w1 := fun u => (wl_X11_placeAt ad cs h_pl h_pl_elements root_places pl_holds pl_suit pl_size)) (As := [.int x1]) (rest := []) (c_X11_placeAt l D cs ad h_pl h_pl_elements H.size x1 root_places pl_holds pl_suit pl_size _ hc_3) ⟨hx, hb, hml, hown, ht⟩ (cwV 1 ht g_X11_111 rfl rfl rfl (by decide +kernel) ⟨Nat.le_of_ble_eq_true rfl, Nat.le_of_ble_eq_true rfl⟩) (va_recv hK hP (ci := 11) (q0 := 0) rfl rfl) hP hD hS hK hA [0, 1, 2] [3] rfl rfl rfl rfl (by decide) rfl hl.1 (Nat.le_of_ble_eq_true rfl) dX11_row_2 ⟨Nat.zero_le _, Nat.zero_le _⟩ (fun r u H locs hq hP hD hS => ?_)
  obtain ⟨hq1, hq2⟩ := hq; cases hq2; subst hq1
  have hP : va_P D classes (wl_X11_row ad cs h_pl h_pl_elements root_places pl_holds pl_suit pl_size pl_elements) H := hP.sub [1, 2, 3, 0] rfl
  have hD : va_D A (wl_X11_row ad cs h_pl h_pl_elements root_places pl_holds pl_suit pl_size pl_elements) := hD.sub [1, 2, 3, 0] rfl rfl
  by_cases c_4 : r_1 = true
  · have h := zk_t c_4 h
    refine W.eq (g2 := F0 m 5 ls [.ref h_pl]) (by rw [if_pos c_4]; rfl) ?_
    refine lv_astore (lv' := [(4, .ref h_pl), (0, .ref (ad 0)), (1, .int x1), (2, .int x2), (3, .int x3)]) hx hb dX11_row_5 hl (by decide) rfl (fun ls hl => ?_)
    refine lv_aload hx hb dX11_row_7 (lv_at hl 0 rfl) ?_
    refine lv_ifnull hx hb dX11_row_9 ?_
    refine lv_iload_n hx hb dX11_row_12 rfl (lv_at hl 3 rfl) ?_
    refine lv_if_lt (tgt := 27) hx hb dX11_row_13 (by decide) (fun c_5 => ?_) (fun c_5 => ?_)
    · have h := zk_t c_5 h
      refine lv_iconst (v := (-1 : Int32)) hx hb dX11_row_27 (by decide) ?_
      exact W.iret (v := (-1 : Int32)) hx hb hr (fun t ht2 hW => ⟨⟨(-1 : Int32), (pl_holds, pl_size, pl_elements), rfl, Option.some.inj h, by rw [ht2]; exact hP, hD⟩, hS.F ht2⟩) hS.2.2 dX11_row_28 hlocks
    · have h := zk_f c_5 h
      refine lv_iload_n hx hb dX11_row_16 rfl (lv_at hl 3 rfl) ?_
      refine lv_iconst (v := (4 : Int32)) hx hb dX11_row_17 (by decide) ?_
      refine lv_icmp_gt (tgt := 27) hx hb dX11_row_18 (by decide) (fun c_6 => ?_) (fun c_6 => ?_)
      · have h := zk_t c_6 h
        refine lv_iconst (v := (-1 : Int32)) hx hb dX11_row_27 (by decide) ?_
        exact W.iret (v := (-1 : Int32)) hx hb hr (fun t ht2 hW => ⟨⟨(-1 : Int32), (pl_holds, pl_size, pl_elements), rfl, Option.some.inj h, by rw [ht2]; exact hP, hD⟩, hS.F ht2⟩) hS.2.2 dX11_row_28 hlocks
      · have h := zk_f c_6 h
        refine lv_iload_n hx hb dX11_row_21 rfl (lv_at hl 4 rfl) ?_
        refine lv_bipush (v := (60 : Int32)) hx hb dX11_row_22 (by decide) ?_
        refine lv_icmp_le (tgt := 29) hx hb dX11_row_24 (by decide) (fun c_7 => ?_) (fun c_7 => ?_)
        · have h := zk_t c_7 h
          refine lv_iload_n hx hb dX11_row_29 rfl (lv_at hl 4 rfl) ?_
          refine lv_if_ge (tgt := 36) hx hb dX11_row_30 (by decide) (fun c_8 => ?_) (fun c_8 => ?_)
          · have h := zk_t c_8 h
            refine lv_aload hx hb dX11_row_36 (lv_at hl 0 rfl) ?_
            refine lv_iload_n hx hb dX11_row_38 rfl (lv_at hl 3 rfl) ?_
            refine lv_iload_n hx hb dX11_row_39 rfl (lv_at hl 4 rfl) ?_
            obtain ⟨u_9, u_10, u_11, hc_12, h⟩ := zk_o3 h
            refine zk_vv (post := (fun u => u = (u_9, u_10, u_11))) (w1 := fun u => (wl_X6_becomeRow ad cs h_pl h_pl_elements u.1 pl_suit u.2.1 u.2.2)) (As := [.int x2, .int x3]) (rest := []) (c_X6_becomeRow l D cs ad h_pl h_pl_elements H.size x2 x3 pl_holds pl_suit pl_size pl_elements _ hc_12) ⟨hx, hb, hml, hown, ht⟩ (cwV 2 ht g_X11_359 rfl rfl rfl (by decide +kernel) ⟨Nat.le_of_ble_eq_true rfl, Nat.le_of_ble_eq_true rfl⟩) (va_recv hK hP (ci := 6) (q0 := 2) rfl rfl) hP hD hS hK hA [2, 3] [0, 1] rfl rfl rfl rfl (by decide) rfl hl.1 (Nat.le_of_ble_eq_true rfl) dX11_row_40 ⟨Nat.zero_le _, Nat.zero_le _⟩ (fun u H locs hq hP hD hS => ?_)
            cases hq
            have hP : va_P D classes (wl_X11_row ad cs h_pl h_pl_elements root_places u_9 pl_suit u_10 u_11) H := hP.sub [0, 1, 2, 3] rfl
            have hD : va_D A (wl_X11_row ad cs h_pl h_pl_elements root_places u_9 pl_suit u_10 u_11) := hD.sub [0, 1, 2, 3] rfl rfl
            refine lv_iconst (v := (1 : Int32)) hx hb dX11_row_43 (by decide) ?_
            exact W.iret (v := (1 : Int32)) hx hb hr (fun t ht2 hW => ⟨⟨(1 : Int32), (u_9, u_10, u_11), rfl, Option.some.inj h, by rw [ht2]; exact hP, hD⟩, hS.F ht2⟩) hS.2.2 dX11_row_44 hlocks
          · have h := zk_f c_8 h
            refine lv_bipush (v := (-14 : Int32)) hx hb dX11_row_33 (by decide) ?_
            exact W.iret (v := (-14 : Int32)) hx hb hr (fun t ht2 hW => ⟨⟨(-14 : Int32), (pl_holds, pl_size, pl_elements), rfl, Option.some.inj h, by rw [ht2]; exact hP, hD⟩, hS.F ht2⟩) hS.2.2 dX11_row_35 hlocks
        · have h := zk_f c_7 h
          refine lv_iconst (v := (-1 : Int32)) hx hb dX11_row_27 (by decide) ?_
          exact W.iret (v := (-1 : Int32)) hx hb hr (fun t ht2 hW => ⟨⟨(-1 : Int32), (pl_holds, pl_size, pl_elements), rfl, Option.some.inj h, by rw [ht2]; exact hP, hD⟩, hS.F ht2⟩) hS.2.2 dX11_row_28 hlocks
  · have h := zk_f c_4 h
    refine W.eq (g2 := F0 m 5 ls [.null]) (by rw [if_neg c_4]; rfl) ?_
    refine lv_astoreN (lv' := [(4, .null), (0, .ref (ad 0)), (1, .int x1), (2, .int x2), (3, .int x3)]) hx hb dX11_row_5 hl (by decide) rfl (fun ls hl => ?_)
    refine lv_aloadN hx hb dX11_row_7 (lv_at hl 0 rfl) ?_
    refine lv_ifnullN (tgt := 27) hx hb dX11_row_9 (by decide) ?_
    refine lv_iconst (v := (-1 : Int32)) hx hb dX11_row_27 (by decide) ?_
    exact W.iret (v := (-1 : Int32)) hx hb hr (fun t ht2 hW => ⟨⟨(-1 : Int32), (pl_holds, pl_size, pl_elements), rfl, Option.some.inj h, by rw [ht2]; exact hP, hD⟩, hS.F ht2⟩) hS.2.2 dX11_row_28 hlocks
set_option maxHeartbeats 4000000 in
set_option maxRecDepth 100000 in
theorem c_X11_row (l : Launch) (D : va_G) (cs : Nat → ClassId) (ad : Nat → Nat) (h_pl : Nat) (h_pl_elements : Nat) (sz : Nat) (x1 : Int32) (x2 : Int32) (x3 : Int32) (root_places : Nat → Option Nat) (pl_holds : Int32) (pl_suit : Int32) (pl_size : Int32) (pl_elements : Nat → Int64) (R : Int32 × Int32 × Int32 × (Nat → Int64)) (h : f_X11_row h_pl  x1 x2 x3 root_places pl_holds pl_suit pl_size pl_elements = some R) : Met l yX11_row (z_X11_row) rm_X11_row (va_Pc [.ref (ad 0), .int x1, .int x2, .int x3] (zPre D cs (wl_X11_row ad cs h_pl h_pl_elements root_places pl_holds pl_suit pl_size pl_elements) sz)) (Q_X11_row D cs ad h_pl h_pl_elements root_places pl_suit (va_A (wl_X11_row ad cs h_pl h_pl_elements root_places pl_holds pl_suit pl_size pl_elements) sz) R) 0 0 (va_A (wl_X11_row ad cs h_pl h_pl_elements root_places pl_holds pl_suit pl_size pl_elements) sz) := by
  refine Met.ofW (cc := cX11_row) (maxL := 5) (ret := (some .int)) (by decide) rfl ?_
  intro p e s m args below meth c s₁ B hml hv
  obtain ⟨rfl, hsz, hP, hK, hD0⟩ := hv
  subst hsz
  have hD := hD0.self (sz := s.heap.size)
  have C0 : zC p s m _ meth c cX11_row 5 (some .int) RX11 zW := ⟨B.exec, B.bytes, B.returns, hml, findClass_of_methodNamed B.named, fun w hw => atoms_spec (ws := z_X11_row) B.pre w (List.mem_cons_of_mem _ hw), B.notSynchronized⟩
  have hA : ∀ q : Nat, s.heap.size ≤ q → va_A (wl_X11_row ad cs h_pl h_pl_elements root_places pl_holds pl_suit pl_size pl_elements) s.heap.size q := fun q h => Or.inr h
  have hl := lv_entry ([.ref (ad 0), .int x1, .int x2, .int x3]) (n := 5) (Nat.le_of_ble_eq_true rfl)
  rw [lg_entry_eq]
  generalize (lg_sl ([.ref (ad 0), .int x1, .int x2, .int x3]) ++ List.replicate (5 - (lg_sl ([.ref (ad 0), .int x1, .int x2, .int x3])).length) Slot.unset).toArray = ls at hl ⊢
  exact L_X11_row_0 C0 hK hA   x1 x2 x3 pl_holds pl_size pl_elements h s.heap [] ls hP hD va_S.rf hl
theorem kw_686 : Cond.fieldLink RX11 365 "AlreadyJudged$Place" "elements" "[J" ∈ zW := zwI (i := 686) (by decide +kernel) (by decide +kernel)
theorem kw_1259 : Cond.methodLink RX11 362 yX6_refusalOf ∈ zW := zwI (i := 1259) (by decide +kernel) (by decide +kernel)
theorem kw_1260 : Cond.instanceMethod yX6_refusalOf ∈ zW := zwI (i := 1260) (by decide +kernel) (by decide +kernel)
theorem kw_1261 : Cond.selects RX6 yX6_refusalOf yX6_refusalOf ∈ zW := zwI (i := 1261) (by decide +kernel) (by decide +kernel)
theorem kw_1262 : Cond.code yX6_refusalOf cX6_refusalOf 2 (some .int) ∈ zW := zwI (i := 1262) (by decide +kernel) (by decide +kernel)
theorem kw_1264 : Cond.methodLink RX11 369 yX6_lowestBits ∈ zW := zwI (i := 1264) (by decide +kernel) (by decide +kernel)
theorem kw_1265 : Cond.instanceMethod yX6_lowestBits ∈ zW := zwI (i := 1265) (by decide +kernel) (by decide +kernel)
theorem kw_1266 : Cond.selects RX6 yX6_lowestBits yX6_lowestBits ∈ zW := zwI (i := 1266) (by decide +kernel) (by decide +kernel)
theorem kw_1267 : Cond.code yX6_lowestBits cX6_lowestBits 3 (some .long) ∈ zW := zwI (i := 1267) (by decide +kernel) (by decide +kernel)
theorem dX11_put_0 : decode cX11_put 0 = .ok (.aload_n 0, 1) := by decide +kernel
theorem dX11_put_1 : decode cX11_put 1 = .ok (.iload_n 1, 1) := by decide +kernel
theorem dX11_put_2 : decode cX11_put 2 = .ok (.invokevirtual 111, 3) := by decide +kernel
theorem dX11_put_5 : decode cX11_put 5 = .ok (.astore 5, 2) := by decide +kernel
theorem dX11_put_7 : decode cX11_put 7 = .ok (.aload 5, 2) := by decide +kernel
theorem dX11_put_9 : decode cX11_put 9 = .ok (.ifnonnull 5, 3) := by decide +kernel
theorem dX11_put_12 : decode cX11_put 12 = .ok (.iconst (-1), 1) := by decide +kernel
theorem dX11_put_13 : decode cX11_put 13 = .ok (.ireturn, 1) := by decide +kernel
theorem dX11_put_14 : decode cX11_put 14 = .ok (.aload 5, 2) := by decide +kernel
theorem dX11_put_16 : decode cX11_put 16 = .ok (.iload_n 2, 1) := by decide +kernel
theorem dX11_put_17 : decode cX11_put 17 = .ok (.invokevirtual 362, 3) := by decide +kernel
theorem dX11_put_20 : decode cX11_put 20 = .ok (.istore 6, 2) := by decide +kernel
theorem dX11_put_22 : decode cX11_put 22 = .ok (.iload 6, 2) := by decide +kernel
theorem dX11_put_24 : decode cX11_put 24 = .ok (.ifCond .ge 6, 3) := by decide +kernel
theorem dX11_put_27 : decode cX11_put 27 = .ok (.iload 6, 2) := by decide +kernel
theorem dX11_put_29 : decode cX11_put 29 = .ok (.ireturn, 1) := by decide +kernel
theorem dX11_put_30 : decode cX11_put 30 = .ok (.aload 5, 2) := by decide +kernel
theorem dX11_put_32 : decode cX11_put 32 = .ok (.getfield 365, 3) := by decide +kernel
theorem dX11_put_35 : decode cX11_put 35 = .ok (.iload_n 2, 1) := by decide +kernel
theorem dX11_put_36 : decode cX11_put 36 = .ok (.aload 5, 2) := by decide +kernel
theorem dX11_put_38 : decode cX11_put 38 = .ok (.lload_n 3, 1) := by decide +kernel
theorem dX11_put_39 : decode cX11_put 39 = .ok (.invokevirtual 369, 3) := by decide +kernel
theorem dX11_put_42 : decode cX11_put 42 = .ok (.lastore, 1) := by decide +kernel
theorem dX11_put_43 : decode cX11_put 43 = .ok (.iconst 1, 1) := by decide +kernel
theorem dX11_put_44 : decode cX11_put 44 = .ok (.ireturn, 1) := by decide +kernel
abbrev z_X11_put : List Cond := .code yX11_put cX11_put 7 (some .int) :: zW
abbrev wl_X11_put (ad : Nat → Nat) (cs : Nat → ClassId) (h_pl : Nat) (h_pl_elements : Nat) (root_places : Nat → Option Nat) (pl_holds : Int32) (pl_suit : Int32) (pl_size : Int32) (pl_elements : Nat → Int64) : va_W := [((ad 0), .inr (11, [.ref (ad 4), .ref (ad 15), .ref (ad 23), .ref (ad 25), .ref (ad 26), .ref (ad 28), .ref (ad 34), .ref (ad 39), .ref (ad 1), .ref (ad 2), .ref (ad 3)])), ((ad 1), .inl (cs 7, 6, .inr (.inr (.inr (.inr root_places))))), (h_pl, .inr (6, [.int pl_holds, .int pl_suit, .int pl_size, .ref h_pl_elements])), (h_pl_elements, .inl (cs 1, 60, .inr (.inl pl_elements)))]
def Q_X11_put (D : va_G) (cs : Nat → ClassId) (ad : Nat → Nat) (h_pl : Nat) (h_pl_elements : Nat) (root_places : Nat → Option Nat) (pl_holds : Int32) (pl_suit : Int32) (pl_size : Int32) (A : Nat → Prop) (R : Int32 × (Nat → Int64)) : Array Value → State → Outcome → State → Prop :=
  va_Qi (fun (r : Int32) (u : (Nat → Int64)) => (r, u) = R) (fun (u : (Nat → Int64)) (t : State) => va_P D classes (wl_X11_put ad cs h_pl h_pl_elements root_places pl_holds pl_suit pl_size u) t.heap ∧ va_D A (wl_X11_put ad cs h_pl h_pl_elements root_places pl_holds pl_suit pl_size u)) A
abbrev rm_X11_put : Room := { frames := 2, cells := 0, slots := 0, locals := 43 }
theorem g_X11_362 : GoodIn zW (wsV RX11 362 RX6 yX6_refusalOf z_X6_refusalOf) := zGV kw_1259 kw_1260 kw_1261 kw_94 kw_1262
theorem g_X11_369 : GoodIn zW (wsV RX11 369 RX6 yX6_lowestBits z_X6_lowestBits) := zGV kw_1264 kw_1265 kw_1266 kw_94 kw_1267
def B_X11_put_0 (h_pl : Nat)   (root_places : Nat → Option Nat) (pl_holds : Int32) (pl_suit : Int32) (pl_size : Int32) (x1 : Int32) (x2 : Int32) (x3 : Int64) (pl_elements : Nat → Int64) : Option (Int32 × (Nat → Int64)) :=
  (zk_b2 (f_X11_placeAt h_pl x1 root_places pl_holds pl_suit pl_size) (fun r_1 u_2 => (if r_1 = true then (zk_b2 (f_X6_refusalOf x2 pl_holds pl_suit pl_size) (fun r_5 u_6 => (if 0 ≤ r_5 then (zk_b2 (f_X6_lowestBits x3 pl_holds pl_suit pl_size) (fun r_9 u_10 => (if (x2 < 0 ∨ 60 ≤ x2.toNatClampNeg) then none else (zk_let (vp_updL pl_elements x2.toNatClampNeg r_9) (fun f_13 => (some ((1 : Int32), f_13))))))) else (some (r_5, pl_elements))))) else (some ((-1 : Int32), pl_elements)))))
def f_X11_put (h_pl : Nat)  (x1 : Int32) (x2 : Int32) (x3 : Int64) (root_places : Nat → Option Nat) (pl_holds : Int32) (pl_suit : Int32) (pl_size : Int32) (pl_elements : Nat → Int64) : Option (Int32 × (Nat → Int64)) := B_X11_put_0 h_pl  root_places pl_holds pl_suit pl_size x1 x2 x3 pl_elements
set_option maxHeartbeats 4000000 in
set_option maxRecDepth 100000 in
theorem L_X11_put_0 {p : Program} {l : Launch} {e : Env} {s : State} {m : MethodId} {args : Array Value} {below : List Frame} {meth : Method} {c : Code} {A : Nat → Prop} {D : va_G} {cs : Nat → ClassId} {ad : Nat → Nat} {h_pl : Nat} {h_pl_elements : Nat} {root_places : Nat → Option Nat} {pl_holds : Int32} {pl_suit : Int32} {pl_size : Int32} {R : Int32 × (Nat → Int64)} (C0 : zC p s m args meth c cX11_put 7 (some .int) RX11 zW) (hK : va_K D classes (zT cs) s) (hA : ∀ q : Nat, s.heap.size ≤ q → A q) (x1 : Int32) (x2 : Int32) (x3 : Int64) (pl_elements : Nat → Int64) (h : B_X11_put_0 h_pl root_places pl_holds pl_suit pl_size x1 x2 x3 pl_elements = some R) (H : Heap) (locs : List Loc) (ls : Array Slot) (hP : va_P D classes (wl_X11_put ad cs h_pl h_pl_elements root_places pl_holds pl_suit pl_size pl_elements) H) (hD : va_D A (wl_X11_put ad cs h_pl h_pl_elements root_places pl_holds pl_suit pl_size pl_elements)) (hS : va_S A s.heap H locs) (hl : lv_has ls 7 [(0, .ref (ad 0)), (1, .int x1), (2, .int x2), (3, .long x3)]) : W p l e rm_X11_put s m args below meth c H locs 0 0 (MQ below (Q_X11_put D cs ad h_pl h_pl_elements root_places pl_holds pl_suit pl_size A R) args s 0 0 A) (F0 m 0 ls []) := by
  obtain ⟨hx, hb, hr, hml, hown, ht, hlocks⟩ := id C0
  refine lv_aload_n hx hb dX11_put_0 rfl (lv_at hl 0 rfl) ?_
  refine lv_iload_n hx hb dX11_put_1 rfl (lv_at hl 1 rfl) ?_
  obtain ⟨r_1, u_2, hc_3, h⟩ := zk_o2 h
  refine zk_vq (post := (fun r u => r = (if r_1 = true then some h_pl else none) ∧ u = (u_2))) (w1 := fun u => (wl_X11_placeAt ad cs h_pl h_pl_elements root_places pl_holds pl_suit pl_size)) (As := [.int x1]) (rest := []) (c_X11_placeAt l D cs ad h_pl h_pl_elements H.size x1 root_places pl_holds pl_suit pl_size _ hc_3) ⟨hx, hb, hml, hown, ht⟩ (cwV 1 ht g_X11_111 rfl rfl rfl (by decide +kernel) ⟨Nat.le_of_ble_eq_true rfl, Nat.le_of_ble_eq_true rfl⟩) (va_recv hK hP (ci := 11) (q0 := 0) rfl rfl) hP hD hS hK hA [0, 1, 2] [3] rfl rfl rfl rfl (by decide) rfl hl.1 (Nat.le_of_ble_eq_true rfl) dX11_put_2 ⟨Nat.zero_le _, Nat.zero_le _⟩ (fun r u H locs hq hP hD hS => ?_)
  obtain ⟨hq1, hq2⟩ := hq; cases hq2; subst hq1
  have hP : va_P D classes (wl_X11_put ad cs h_pl h_pl_elements root_places pl_holds pl_suit pl_size pl_elements) H := hP.sub [1, 2, 3, 0] rfl
  have hD : va_D A (wl_X11_put ad cs h_pl h_pl_elements root_places pl_holds pl_suit pl_size pl_elements) := hD.sub [1, 2, 3, 0] rfl rfl
  by_cases c_4 : r_1 = true
  · have h := zk_t c_4 h
    refine W.eq (g2 := F0 m 5 ls [.ref h_pl]) (by rw [if_pos c_4]; rfl) ?_
    refine lv_astore (lv' := [(5, .ref h_pl), (0, .ref (ad 0)), (1, .int x1), (2, .int x2), (3, .long x3)]) hx hb dX11_put_5 hl (by decide) rfl (fun ls hl => ?_)
    refine lv_aload hx hb dX11_put_7 (lv_at hl 0 rfl) ?_
    refine lv_ifnonnull (tgt := 14) hx hb dX11_put_9 (by decide) ?_
    refine lv_aload hx hb dX11_put_14 (lv_at hl 0 rfl) ?_
    refine lv_iload_n hx hb dX11_put_16 rfl (lv_at hl 3 rfl) ?_
    obtain ⟨r_5, u_6, hc_7, h⟩ := zk_o2 h
    refine zk_vi (post := (fun r u => (r, u) = (r_5, u_6))) (w1 := fun u => (wl_X6_refusalOf ad cs h_pl h_pl_elements pl_holds pl_suit pl_size)) (As := [.int x2]) (rest := []) (c_X6_refusalOf l D cs ad h_pl h_pl_elements H.size x2 pl_holds pl_suit pl_size _ hc_7) ⟨hx, hb, hml, hown, ht⟩ (cwV 1 ht g_X11_362 rfl rfl rfl (by decide +kernel) ⟨Nat.le_of_ble_eq_true rfl, Nat.le_of_ble_eq_true rfl⟩) (va_recv hK hP (ci := 6) (q0 := 2) rfl rfl) hP hD hS hK hA [2] [0, 1, 3] rfl rfl rfl rfl (by decide) rfl hl.1 (Nat.le_of_ble_eq_true rfl) dX11_put_17 ⟨Nat.zero_le _, Nat.zero_le _⟩ (fun r u H locs hq hP hD hS => ?_)
    cases hq
    have hP : va_P D classes (wl_X11_put ad cs h_pl h_pl_elements root_places pl_holds pl_suit pl_size pl_elements) H := hP.sub [0, 1, 3, 2] rfl
    have hD : va_D A (wl_X11_put ad cs h_pl h_pl_elements root_places pl_holds pl_suit pl_size pl_elements) := hD.sub [0, 1, 3, 2] rfl rfl
    refine lv_istore (lv' := [(6, .int r_5), (5, .ref h_pl), (0, .ref (ad 0)), (1, .int x1), (2, .int x2), (3, .long x3)]) hx hb dX11_put_20 hl (by decide) rfl (fun ls hl => ?_)
    refine lv_iload hx hb dX11_put_22 (lv_at hl 0 rfl) ?_
    refine lv_if_ge (tgt := 30) hx hb dX11_put_24 (by decide) (fun c_8 => ?_) (fun c_8 => ?_)
    · have h := zk_t c_8 h
      refine lv_aload hx hb dX11_put_30 (lv_at hl 1 rfl) ?_
      refine va_get (D := D) (ci := 6) (v := .ref h_pl_elements) (C := RX6) (T := TX6) (N := 4) hx hb ht iX6 hown hK hP 2 rfl rfl 3 (by decide) (ht _ kw_686) (fun _ h9 => h9) rfl dX11_put_32 ?_
      refine lv_iload_n hx hb dX11_put_35 rfl (lv_at hl 4 rfl) ?_
      refine lv_aload hx hb dX11_put_36 (lv_at hl 1 rfl) ?_
      refine lv_lload_n hx hb dX11_put_38 rfl (lv_at hl 5 rfl) ?_
      obtain ⟨r_9, u_10, hc_11, h⟩ := zk_o2 h
      refine zk_vl (post := (fun r u => (r, u) = (r_9, u_10))) (w1 := fun u => (wl_X6_lowestBits ad cs h_pl h_pl_elements pl_holds pl_suit pl_size)) (As := [.long x3]) (rest := [.int x2, .ref h_pl_elements]) (c_X6_lowestBits l D cs ad h_pl h_pl_elements H.size x3 pl_holds pl_suit pl_size _ hc_11) ⟨hx, hb, hml, hown, ht⟩ (cwV 1 ht g_X11_369 rfl rfl rfl (by decide +kernel) ⟨Nat.le_of_ble_eq_true rfl, Nat.le_of_ble_eq_true rfl⟩) (va_recv hK hP (ci := 6) (q0 := 2) rfl rfl) hP hD hS hK hA [2] [0, 1, 3] rfl rfl rfl rfl (by decide) rfl hl.1 (Nat.le_of_ble_eq_true rfl) dX11_put_39 ⟨Nat.zero_le _, Nat.zero_le _⟩ (fun r u H locs hq hP hD hS => ?_)
      cases hq
      have hP : va_P D classes (wl_X11_put ad cs h_pl h_pl_elements root_places pl_holds pl_suit pl_size pl_elements) H := hP.sub [0, 1, 3, 2] rfl
      have hD : va_D A (wl_X11_put ad cs h_pl h_pl_elements root_places pl_holds pl_suit pl_size pl_elements) := hD.sub [0, 1, 3, 2] rfl rfl
      obtain ⟨g_12, h⟩ := zk_gd h
      obtain ⟨f_13, ef_13, h⟩ := zk_lt h
      refine va_last hx hb hK hP hD hS 3 1 rfl rfl g_12 dX11_put_42 (fun H locs hP hD hS => ?_)
      have hP : va_P D classes (wl_X11_put ad cs h_pl h_pl_elements root_places pl_holds pl_suit pl_size f_13) H := by rw [ef_13]; exact hP
      have hD : va_D A (wl_X11_put ad cs h_pl h_pl_elements root_places pl_holds pl_suit pl_size f_13) := by rw [ef_13]; exact hD
      refine lv_iconst (v := (1 : Int32)) hx hb dX11_put_43 (by decide) ?_
      exact W.iret (v := (1 : Int32)) hx hb hr (fun t ht2 hW => ⟨⟨(1 : Int32), f_13, rfl, Option.some.inj h, by rw [ht2]; exact hP, hD⟩, hS.F ht2⟩) hS.2.2 dX11_put_44 hlocks
    · have h := zk_f c_8 h
      refine lv_iload hx hb dX11_put_27 (lv_at hl 0 rfl) ?_
      exact W.iret (v := r_5) hx hb hr (fun t ht2 hW => ⟨⟨r_5, pl_elements, rfl, Option.some.inj h, by rw [ht2]; exact hP, hD⟩, hS.F ht2⟩) hS.2.2 dX11_put_29 hlocks
  · have h := zk_f c_4 h
    refine W.eq (g2 := F0 m 5 ls [.null]) (by rw [if_neg c_4]; rfl) ?_
    refine lv_astoreN (lv' := [(5, .null), (0, .ref (ad 0)), (1, .int x1), (2, .int x2), (3, .long x3)]) hx hb dX11_put_5 hl (by decide) rfl (fun ls hl => ?_)
    refine lv_aloadN hx hb dX11_put_7 (lv_at hl 0 rfl) ?_
    refine lv_ifnonnullN hx hb dX11_put_9 ?_
    refine lv_iconst (v := (-1 : Int32)) hx hb dX11_put_12 (by decide) ?_
    exact W.iret (v := (-1 : Int32)) hx hb hr (fun t ht2 hW => ⟨⟨(-1 : Int32), pl_elements, rfl, Option.some.inj h, by rw [ht2]; exact hP, hD⟩, hS.F ht2⟩) hS.2.2 dX11_put_13 hlocks
set_option maxHeartbeats 4000000 in
set_option maxRecDepth 100000 in
theorem c_X11_put (l : Launch) (D : va_G) (cs : Nat → ClassId) (ad : Nat → Nat) (h_pl : Nat) (h_pl_elements : Nat) (sz : Nat) (x1 : Int32) (x2 : Int32) (x3 : Int64) (root_places : Nat → Option Nat) (pl_holds : Int32) (pl_suit : Int32) (pl_size : Int32) (pl_elements : Nat → Int64) (R : Int32 × (Nat → Int64)) (h : f_X11_put h_pl  x1 x2 x3 root_places pl_holds pl_suit pl_size pl_elements = some R) : Met l yX11_put (z_X11_put) rm_X11_put (va_Pc [.ref (ad 0), .int x1, .int x2, .long x3] (zPre D cs (wl_X11_put ad cs h_pl h_pl_elements root_places pl_holds pl_suit pl_size pl_elements) sz)) (Q_X11_put D cs ad h_pl h_pl_elements root_places pl_holds pl_suit pl_size (va_A (wl_X11_put ad cs h_pl h_pl_elements root_places pl_holds pl_suit pl_size pl_elements) sz) R) 0 0 (va_A (wl_X11_put ad cs h_pl h_pl_elements root_places pl_holds pl_suit pl_size pl_elements) sz) := by
  refine Met.ofW (cc := cX11_put) (maxL := 7) (ret := (some .int)) (by decide) rfl ?_
  intro p e s m args below meth c s₁ B hml hv
  obtain ⟨rfl, hsz, hP, hK, hD0⟩ := hv
  subst hsz
  have hD := hD0.self (sz := s.heap.size)
  have C0 : zC p s m _ meth c cX11_put 7 (some .int) RX11 zW := ⟨B.exec, B.bytes, B.returns, hml, findClass_of_methodNamed B.named, fun w hw => atoms_spec (ws := z_X11_put) B.pre w (List.mem_cons_of_mem _ hw), B.notSynchronized⟩
  have hA : ∀ q : Nat, s.heap.size ≤ q → va_A (wl_X11_put ad cs h_pl h_pl_elements root_places pl_holds pl_suit pl_size pl_elements) s.heap.size q := fun q h => Or.inr h
  have hl := lv_entry ([.ref (ad 0), .int x1, .int x2, .long x3]) (n := 7) (Nat.le_of_ble_eq_true rfl)
  rw [lg_entry_eq]
  generalize (lg_sl ([.ref (ad 0), .int x1, .int x2, .long x3]) ++ List.replicate (7 - (lg_sl ([.ref (ad 0), .int x1, .int x2, .long x3])).length) Slot.unset).toArray = ls at hl ⊢
  exact L_X11_put_0 C0 hK hA   x1 x2 x3 pl_elements h s.heap [] ls hP hD va_S.rf hl
theorem kw_1272 : Cond.constantLong RX11 373 (-9223372036854775808 : Int64) ∈ zW := zwI (i := 1272) (by decide +kernel) (by decide +kernel)
theorem dX11_element_0 : decode cX11_element 0 = .ok (.aload_n 0, 1) := by decide +kernel
theorem dX11_element_1 : decode cX11_element 1 = .ok (.iload_n 1, 1) := by decide +kernel
theorem dX11_element_2 : decode cX11_element 2 = .ok (.invokevirtual 111, 3) := by decide +kernel
theorem dX11_element_5 : decode cX11_element 5 = .ok (.astore_n 3, 1) := by decide +kernel
theorem dX11_element_6 : decode cX11_element 6 = .ok (.aload_n 3, 1) := by decide +kernel
theorem dX11_element_7 : decode cX11_element 7 = .ok (.ifnull 11, 3) := by decide +kernel
theorem dX11_element_10 : decode cX11_element 10 = .ok (.aload_n 3, 1) := by decide +kernel
theorem dX11_element_11 : decode cX11_element 11 = .ok (.iload_n 2, 1) := by decide +kernel
theorem dX11_element_12 : decode cX11_element 12 = .ok (.invokevirtual 362, 3) := by decide +kernel
theorem dX11_element_15 : decode cX11_element 15 = .ok (.ifCond .ge 7, 3) := by decide +kernel
theorem dX11_element_18 : decode cX11_element 18 = .ok (.ldc2_w 373, 3) := by decide +kernel
theorem dX11_element_21 : decode cX11_element 21 = .ok (.lreturn, 1) := by decide +kernel
theorem dX11_element_22 : decode cX11_element 22 = .ok (.aload_n 3, 1) := by decide +kernel
theorem dX11_element_23 : decode cX11_element 23 = .ok (.getfield 365, 3) := by decide +kernel
theorem dX11_element_26 : decode cX11_element 26 = .ok (.iload_n 2, 1) := by decide +kernel
theorem dX11_element_27 : decode cX11_element 27 = .ok (.laload, 1) := by decide +kernel
theorem dX11_element_28 : decode cX11_element 28 = .ok (.lreturn, 1) := by decide +kernel
abbrev z_X11_element : List Cond := .code yX11_element cX11_element 4 (some .long) :: zW
abbrev wl_X11_element (ad : Nat → Nat) (cs : Nat → ClassId) (h_pl : Nat) (h_pl_elements : Nat) (root_places : Nat → Option Nat) (pl_holds : Int32) (pl_suit : Int32) (pl_size : Int32) (pl_elements : Nat → Int64) : va_W := [((ad 0), .inr (11, [.ref (ad 4), .ref (ad 15), .ref (ad 23), .ref (ad 25), .ref (ad 26), .ref (ad 28), .ref (ad 34), .ref (ad 39), .ref (ad 1), .ref (ad 2), .ref (ad 3)])), ((ad 1), .inl (cs 7, 6, .inr (.inr (.inr (.inr root_places))))), (h_pl, .inr (6, [.int pl_holds, .int pl_suit, .int pl_size, .ref h_pl_elements])), (h_pl_elements, .inl (cs 1, 60, .inr (.inl pl_elements)))]
def Q_X11_element (D : va_G) (cs : Nat → ClassId) (ad : Nat → Nat) (h_pl : Nat) (h_pl_elements : Nat) (root_places : Nat → Option Nat) (pl_holds : Int32) (pl_suit : Int32) (pl_size : Int32) (pl_elements : Nat → Int64) (A : Nat → Prop) (R : Int64 × Unit) : Array Value → State → Outcome → State → Prop :=
  va_Ql (fun (r : Int64) (u : Unit) => (r, u) = R) (fun (u : Unit) (t : State) => va_P D classes (wl_X11_element ad cs h_pl h_pl_elements root_places pl_holds pl_suit pl_size pl_elements) t.heap ∧ va_D A (wl_X11_element ad cs h_pl h_pl_elements root_places pl_holds pl_suit pl_size pl_elements)) A
abbrev rm_X11_element : Room := { frames := 2, cells := 0, slots := 0, locals := 43 }
def B_X11_element_0 (h_pl : Nat)   (root_places : Nat → Option Nat) (pl_holds : Int32) (pl_suit : Int32) (pl_size : Int32) (pl_elements : Nat → Int64) (x1 : Int32) (x2 : Int32) : Option (Int64 × Unit) :=
  (zk_b2 (f_X11_placeAt h_pl x1 root_places pl_holds pl_suit pl_size) (fun r_1 u_2 => (if r_1 = true then (zk_b2 (f_X6_refusalOf x2 pl_holds pl_suit pl_size) (fun r_5 u_6 => (if 0 ≤ r_5 then (if (x2 < 0 ∨ 60 ≤ x2.toNatClampNeg) then none else (some (pl_elements x2.toNatClampNeg, ()))) else (some ((-9223372036854775808 : Int64), ()))))) else (some ((-9223372036854775808 : Int64), ())))))
def f_X11_element (h_pl : Nat)  (x1 : Int32) (x2 : Int32) (root_places : Nat → Option Nat) (pl_holds : Int32) (pl_suit : Int32) (pl_size : Int32) (pl_elements : Nat → Int64) : Option (Int64 × Unit) := B_X11_element_0 h_pl  root_places pl_holds pl_suit pl_size pl_elements x1 x2 
set_option maxHeartbeats 4000000 in
set_option maxRecDepth 100000 in
theorem L_X11_element_0 {p : Program} {l : Launch} {e : Env} {s : State} {m : MethodId} {args : Array Value} {below : List Frame} {meth : Method} {c : Code} {A : Nat → Prop} {D : va_G} {cs : Nat → ClassId} {ad : Nat → Nat} {h_pl : Nat} {h_pl_elements : Nat} {root_places : Nat → Option Nat} {pl_holds : Int32} {pl_suit : Int32} {pl_size : Int32} {pl_elements : Nat → Int64} {R : Int64 × Unit} (C0 : zC p s m args meth c cX11_element 4 (some .long) RX11 zW) (hK : va_K D classes (zT cs) s) (hA : ∀ q : Nat, s.heap.size ≤ q → A q) (x1 : Int32) (x2 : Int32) (h : B_X11_element_0 h_pl root_places pl_holds pl_suit pl_size pl_elements x1 x2 = some R) (H : Heap) (locs : List Loc) (ls : Array Slot) (hP : va_P D classes (wl_X11_element ad cs h_pl h_pl_elements root_places pl_holds pl_suit pl_size pl_elements) H) (hD : va_D A (wl_X11_element ad cs h_pl h_pl_elements root_places pl_holds pl_suit pl_size pl_elements)) (hS : va_S A s.heap H locs) (hl : lv_has ls 4 [(0, .ref (ad 0)), (1, .int x1), (2, .int x2)]) : W p l e rm_X11_element s m args below meth c H locs 0 0 (MQ below (Q_X11_element D cs ad h_pl h_pl_elements root_places pl_holds pl_suit pl_size pl_elements A R) args s 0 0 A) (F0 m 0 ls []) := by
  obtain ⟨hx, hb, hr, hml, hown, ht, hlocks⟩ := id C0
  refine lv_aload_n hx hb dX11_element_0 rfl (lv_at hl 0 rfl) ?_
  refine lv_iload_n hx hb dX11_element_1 rfl (lv_at hl 1 rfl) ?_
  obtain ⟨r_1, u_2, hc_3, h⟩ := zk_o2 h
  refine zk_vq (post := (fun r u => r = (if r_1 = true then some h_pl else none) ∧ u = (u_2))) (w1 := fun u => (wl_X11_placeAt ad cs h_pl h_pl_elements root_places pl_holds pl_suit pl_size)) (As := [.int x1]) (rest := []) (c_X11_placeAt l D cs ad h_pl h_pl_elements H.size x1 root_places pl_holds pl_suit pl_size _ hc_3) ⟨hx, hb, hml, hown, ht⟩ (cwV 1 ht g_X11_111 rfl rfl rfl (by decide +kernel) ⟨Nat.le_of_ble_eq_true rfl, Nat.le_of_ble_eq_true rfl⟩) (va_recv hK hP (ci := 11) (q0 := 0) rfl rfl) hP hD hS hK hA [0, 1, 2] [3] rfl rfl rfl rfl (by decide) rfl hl.1 (Nat.le_of_ble_eq_true rfl) dX11_element_2 ⟨Nat.zero_le _, Nat.zero_le _⟩ (fun r u H locs hq hP hD hS => ?_)
  obtain ⟨hq1, hq2⟩ := hq; cases hq2; subst hq1
  have hP : va_P D classes (wl_X11_element ad cs h_pl h_pl_elements root_places pl_holds pl_suit pl_size pl_elements) H := hP.sub [1, 2, 3, 0] rfl
  have hD : va_D A (wl_X11_element ad cs h_pl h_pl_elements root_places pl_holds pl_suit pl_size pl_elements) := hD.sub [1, 2, 3, 0] rfl rfl
  by_cases c_4 : r_1 = true
  · have h := zk_t c_4 h
    refine W.eq (g2 := F0 m 5 ls [.ref h_pl]) (by rw [if_pos c_4]; rfl) ?_
    refine lv_astore_n (lv' := [(3, .ref h_pl), (0, .ref (ad 0)), (1, .int x1), (2, .int x2)]) hx hb dX11_element_5 rfl hl (by decide) rfl (fun ls hl => ?_)
    refine lv_aload_n hx hb dX11_element_6 rfl (lv_at hl 0 rfl) ?_
    refine lv_ifnull hx hb dX11_element_7 ?_
    refine lv_aload_n hx hb dX11_element_10 rfl (lv_at hl 0 rfl) ?_
    refine lv_iload_n hx hb dX11_element_11 rfl (lv_at hl 3 rfl) ?_
    obtain ⟨r_5, u_6, hc_7, h⟩ := zk_o2 h
    refine zk_vi (post := (fun r u => (r, u) = (r_5, u_6))) (w1 := fun u => (wl_X6_refusalOf ad cs h_pl h_pl_elements pl_holds pl_suit pl_size)) (As := [.int x2]) (rest := []) (c_X6_refusalOf l D cs ad h_pl h_pl_elements H.size x2 pl_holds pl_suit pl_size _ hc_7) ⟨hx, hb, hml, hown, ht⟩ (cwV 1 ht g_X11_362 rfl rfl rfl (by decide +kernel) ⟨Nat.le_of_ble_eq_true rfl, Nat.le_of_ble_eq_true rfl⟩) (va_recv hK hP (ci := 6) (q0 := 2) rfl rfl) hP hD hS hK hA [2] [0, 1, 3] rfl rfl rfl rfl (by decide) rfl hl.1 (Nat.le_of_ble_eq_true rfl) dX11_element_12 ⟨Nat.zero_le _, Nat.zero_le _⟩ (fun r u H locs hq hP hD hS => ?_)
    cases hq
    have hP : va_P D classes (wl_X11_element ad cs h_pl h_pl_elements root_places pl_holds pl_suit pl_size pl_elements) H := hP.sub [0, 1, 3, 2] rfl
    have hD : va_D A (wl_X11_element ad cs h_pl h_pl_elements root_places pl_holds pl_suit pl_size pl_elements) := hD.sub [0, 1, 3, 2] rfl rfl
    refine lv_if_ge (tgt := 22) hx hb dX11_element_15 (by decide) (fun c_8 => ?_) (fun c_8 => ?_)
    · have h := zk_t c_8 h
      refine lv_aload_n hx hb dX11_element_22 rfl (lv_at hl 0 rfl) ?_
      refine va_get (D := D) (ci := 6) (v := .ref h_pl_elements) (C := RX6) (T := TX6) (N := 4) hx hb ht iX6 hown hK hP 2 rfl rfl 3 (by decide) (ht _ kw_686) (fun _ h9 => h9) rfl dX11_element_23 ?_
      refine lv_iload_n hx hb dX11_element_26 rfl (lv_at hl 3 rfl) ?_
      obtain ⟨g_9, h⟩ := zk_gd h
      refine va_lald hx hb hK hP 3 1 rfl rfl g_9 dX11_element_27 ?_
      exact W.lret (v := pl_elements x2.toNatClampNeg) hx hb hr (fun t ht2 hW => ⟨⟨pl_elements x2.toNatClampNeg, (), rfl, Option.some.inj h, by rw [ht2]; exact hP, hD⟩, hS.F ht2⟩) hS.2.2 dX11_element_28 hlocks
    · have h := zk_f c_8 h
      refine lv_ldc2 (v := (-9223372036854775808 : Int64)) hx hb hown (ht _ kw_1272) dX11_element_18 ?_
      exact W.lret (v := (-9223372036854775808 : Int64)) hx hb hr (fun t ht2 hW => ⟨⟨(-9223372036854775808 : Int64), (), rfl, Option.some.inj h, by rw [ht2]; exact hP, hD⟩, hS.F ht2⟩) hS.2.2 dX11_element_21 hlocks
  · have h := zk_f c_4 h
    refine W.eq (g2 := F0 m 5 ls [.null]) (by rw [if_neg c_4]; rfl) ?_
    refine lv_astore_nN (lv' := [(3, .null), (0, .ref (ad 0)), (1, .int x1), (2, .int x2)]) hx hb dX11_element_5 rfl hl (by decide) rfl (fun ls hl => ?_)
    refine lv_aload_nN hx hb dX11_element_6 rfl (lv_at hl 0 rfl) ?_
    refine lv_ifnullN (tgt := 18) hx hb dX11_element_7 (by decide) ?_
    refine lv_ldc2 (v := (-9223372036854775808 : Int64)) hx hb hown (ht _ kw_1272) dX11_element_18 ?_
    exact W.lret (v := (-9223372036854775808 : Int64)) hx hb hr (fun t ht2 hW => ⟨⟨(-9223372036854775808 : Int64), (), rfl, Option.some.inj h, by rw [ht2]; exact hP, hD⟩, hS.F ht2⟩) hS.2.2 dX11_element_21 hlocks
set_option maxHeartbeats 4000000 in
set_option maxRecDepth 100000 in
theorem c_X11_element (l : Launch) (D : va_G) (cs : Nat → ClassId) (ad : Nat → Nat) (h_pl : Nat) (h_pl_elements : Nat) (sz : Nat) (x1 : Int32) (x2 : Int32) (root_places : Nat → Option Nat) (pl_holds : Int32) (pl_suit : Int32) (pl_size : Int32) (pl_elements : Nat → Int64) (R : Int64 × Unit) (h : f_X11_element h_pl  x1 x2 root_places pl_holds pl_suit pl_size pl_elements = some R) : Met l yX11_element (z_X11_element) rm_X11_element (va_Pc [.ref (ad 0), .int x1, .int x2] (zPre D cs (wl_X11_element ad cs h_pl h_pl_elements root_places pl_holds pl_suit pl_size pl_elements) sz)) (Q_X11_element D cs ad h_pl h_pl_elements root_places pl_holds pl_suit pl_size pl_elements (va_A (wl_X11_element ad cs h_pl h_pl_elements root_places pl_holds pl_suit pl_size pl_elements) sz) R) 0 0 (va_A (wl_X11_element ad cs h_pl h_pl_elements root_places pl_holds pl_suit pl_size pl_elements) sz) := by
  refine Met.ofW (cc := cX11_element) (maxL := 4) (ret := (some .long)) (by decide) rfl ?_
  intro p e s m args below meth c s₁ B hml hv
  obtain ⟨rfl, hsz, hP, hK, hD0⟩ := hv
  subst hsz
  have hD := hD0.self (sz := s.heap.size)
  have C0 : zC p s m _ meth c cX11_element 4 (some .long) RX11 zW := ⟨B.exec, B.bytes, B.returns, hml, findClass_of_methodNamed B.named, fun w hw => atoms_spec (ws := z_X11_element) B.pre w (List.mem_cons_of_mem _ hw), B.notSynchronized⟩
  have hA : ∀ q : Nat, s.heap.size ≤ q → va_A (wl_X11_element ad cs h_pl h_pl_elements root_places pl_holds pl_suit pl_size pl_elements) s.heap.size q := fun q h => Or.inr h
  have hl := lv_entry ([.ref (ad 0), .int x1, .int x2]) (n := 4) (Nat.le_of_ble_eq_true rfl)
  rw [lg_entry_eq]
  generalize (lg_sl ([.ref (ad 0), .int x1, .int x2]) ++ List.replicate (4 - (lg_sl ([.ref (ad 0), .int x1, .int x2])).length) Slot.unset).toArray = ls at hl ⊢
  exact L_X11_element_0 C0 hK hA   x1 x2  h s.heap [] ls hP hD va_S.rf hl
theorem kw_757 : Cond.methodLink RX11 375 yX6_hasRange ∈ zW := zwI (i := 757) (by decide +kernel) (by decide +kernel)
theorem dX11_shift_0 : decode cX11_shift 0 = .ok (.aload_n 0, 1) := by decide +kernel
theorem dX11_shift_1 : decode cX11_shift 1 = .ok (.iload_n 1, 1) := by decide +kernel
theorem dX11_shift_2 : decode cX11_shift 2 = .ok (.invokevirtual 111, 3) := by decide +kernel
theorem dX11_shift_5 : decode cX11_shift 5 = .ok (.astore 6, 2) := by decide +kernel
theorem dX11_shift_7 : decode cX11_shift 7 = .ok (.aload_n 0, 1) := by decide +kernel
theorem dX11_shift_8 : decode cX11_shift 8 = .ok (.iload_n 3, 1) := by decide +kernel
theorem dX11_shift_9 : decode cX11_shift 9 = .ok (.invokevirtual 111, 3) := by decide +kernel
theorem dX11_shift_12 : decode cX11_shift 12 = .ok (.astore 7, 2) := by decide +kernel
theorem dX11_shift_14 : decode cX11_shift 14 = .ok (.aload 6, 2) := by decide +kernel
theorem dX11_shift_16 : decode cX11_shift 16 = .ok (.ifnull 8, 3) := by decide +kernel
theorem dX11_shift_19 : decode cX11_shift 19 = .ok (.aload 7, 2) := by decide +kernel
theorem dX11_shift_21 : decode cX11_shift 21 = .ok (.ifnonnull 5, 3) := by decide +kernel
theorem dX11_shift_24 : decode cX11_shift 24 = .ok (.iconst (-1), 1) := by decide +kernel
theorem dX11_shift_25 : decode cX11_shift 25 = .ok (.ireturn, 1) := by decide +kernel
theorem dX11_shift_26 : decode cX11_shift 26 = .ok (.aload 6, 2) := by decide +kernel
theorem dX11_shift_28 : decode cX11_shift 28 = .ok (.getfield 115, 3) := by decide +kernel
theorem dX11_shift_31 : decode cX11_shift 31 = .ok (.iconst (-1), 1) := by decide +kernel
theorem dX11_shift_32 : decode cX11_shift 32 = .ok (.if_icmp .eq 12, 3) := by decide +kernel
theorem dX11_shift_35 : decode cX11_shift 35 = .ok (.aload 7, 2) := by decide +kernel
theorem dX11_shift_37 : decode cX11_shift 37 = .ok (.getfield 115, 3) := by decide +kernel
theorem dX11_shift_40 : decode cX11_shift 40 = .ok (.iconst (-1), 1) := by decide +kernel
theorem dX11_shift_41 : decode cX11_shift 41 = .ok (.if_icmp .ne 6, 3) := by decide +kernel
theorem dX11_shift_44 : decode cX11_shift 44 = .ok (.bipush (-11), 2) := by decide +kernel
theorem dX11_shift_46 : decode cX11_shift 46 = .ok (.ireturn, 1) := by decide +kernel
theorem dX11_shift_47 : decode cX11_shift 47 = .ok (.aload 6, 2) := by decide +kernel
theorem dX11_shift_49 : decode cX11_shift 49 = .ok (.getfield 115, 3) := by decide +kernel
theorem dX11_shift_52 : decode cX11_shift 52 = .ok (.iconst 5, 1) := by decide +kernel
theorem dX11_shift_53 : decode cX11_shift 53 = .ok (.if_icmp .eq 16, 3) := by decide +kernel
theorem dX11_shift_56 : decode cX11_shift 56 = .ok (.aload 6, 2) := by decide +kernel
theorem dX11_shift_58 : decode cX11_shift 58 = .ok (.getfield 115, 3) := by decide +kernel
theorem dX11_shift_61 : decode cX11_shift 61 = .ok (.aload 7, 2) := by decide +kernel
theorem dX11_shift_63 : decode cX11_shift 63 = .ok (.getfield 115, 3) := by decide +kernel
theorem dX11_shift_66 : decode cX11_shift 66 = .ok (.if_icmp .eq 6, 3) := by decide +kernel
theorem dX11_shift_69 : decode cX11_shift 69 = .ok (.bipush (-12), 2) := by decide +kernel
theorem dX11_shift_71 : decode cX11_shift 71 = .ok (.ireturn, 1) := by decide +kernel
theorem dX11_shift_72 : decode cX11_shift 72 = .ok (.aload 6, 2) := by decide +kernel
theorem dX11_shift_74 : decode cX11_shift 74 = .ok (.iload_n 2, 1) := by decide +kernel
theorem dX11_shift_75 : decode cX11_shift 75 = .ok (.iload 5, 2) := by decide +kernel
theorem dX11_shift_77 : decode cX11_shift 77 = .ok (.invokevirtual 375, 3) := by decide +kernel
theorem dX11_shift_80 : decode cX11_shift 80 = .ok (.ifCond .eq 15, 3) := by decide +kernel
theorem dX11_shift_83 : decode cX11_shift 83 = .ok (.aload 7, 2) := by decide +kernel
theorem dX11_shift_85 : decode cX11_shift 85 = .ok (.iload 4, 2) := by decide +kernel
theorem dX11_shift_87 : decode cX11_shift 87 = .ok (.iload 5, 2) := by decide +kernel
theorem dX11_shift_89 : decode cX11_shift 89 = .ok (.invokevirtual 375, 3) := by decide +kernel
theorem dX11_shift_92 : decode cX11_shift 92 = .ok (.ifCond .ne 6, 3) := by decide +kernel
theorem dX11_shift_95 : decode cX11_shift 95 = .ok (.bipush (-13), 2) := by decide +kernel
theorem dX11_shift_97 : decode cX11_shift 97 = .ok (.ireturn, 1) := by decide +kernel
theorem dX11_shift_98 : decode cX11_shift 98 = .ok (.aload 6, 2) := by decide +kernel
theorem dX11_shift_100 : decode cX11_shift 100 = .ok (.getfield 365, 3) := by decide +kernel
theorem dX11_shift_103 : decode cX11_shift 103 = .ok (.iload_n 2, 1) := by decide +kernel
theorem dX11_shift_104 : decode cX11_shift 104 = .ok (.aload 7, 2) := by decide +kernel
theorem dX11_shift_106 : decode cX11_shift 106 = .ok (.getfield 365, 3) := by decide +kernel
theorem dX11_shift_109 : decode cX11_shift 109 = .ok (.iload 4, 2) := by decide +kernel
theorem dX11_shift_111 : decode cX11_shift 111 = .ok (.iload 5, 2) := by decide +kernel
abbrev z_X11_shift : List Cond := .code yX11_shift cX11_shift 8 (some .int) :: zW
abbrev wl_X11_shift (ad : Nat → Nat) (cs : Nat → ClassId) (h_pl : Nat) (h_pl_elements : Nat) (root_places : Nat → Option Nat) (pl_holds : Int32) (pl_suit : Int32) (pl_size : Int32) : va_W := [((ad 0), .inr (11, [.ref (ad 4), .ref (ad 15), .ref (ad 23), .ref (ad 25), .ref (ad 26), .ref (ad 28), .ref (ad 34), .ref (ad 39), .ref (ad 1), .ref (ad 2), .ref (ad 3)])), ((ad 1), .inl (cs 7, 6, .inr (.inr (.inr (.inr root_places))))), (h_pl, .inr (6, [.int pl_holds, .int pl_suit, .int pl_size, .ref h_pl_elements]))]
def Q_X11_shift (D : va_G) (cs : Nat → ClassId) (ad : Nat → Nat) (h_pl : Nat) (h_pl_elements : Nat) (root_places : Nat → Option Nat) (pl_holds : Int32) (pl_suit : Int32) (pl_size : Int32) (A : Nat → Prop) (R : Int32 × Unit) : Array Value → State → Outcome → State → Prop :=
  va_Qi (fun (r : Int32) (u : Unit) => (r, u) = R) (fun (u : Unit) (t : State) => va_P D classes (wl_X11_shift ad cs h_pl h_pl_elements root_places pl_holds pl_suit pl_size) t.heap ∧ va_D A (wl_X11_shift ad cs h_pl h_pl_elements root_places pl_holds pl_suit pl_size)) A
abbrev rm_X11_shift : Room := { frames := 1, cells := 0, slots := 0, locals := 22 }
theorem g_X11_375 : GoodIn zW (wsV RX11 375 RX6 yX6_hasRange z_X6_hasRange) := zGV kw_757 kw_758 kw_759 kw_94 kw_760
def B_X11_shift_0 (h_pl : Nat)   (root_places : Nat → Option Nat) (pl_holds : Int32) (pl_suit : Int32) (pl_size : Int32) (x1 : Int32) (x2 : Int32) (x3 : Int32) (x4 : Int32) (x5 : Int32) : Option (Int32 × Unit) :=
  (zk_b2 (f_X11_placeAt h_pl x1 root_places pl_holds pl_suit pl_size) (fun r_1 u_2 => (if r_1 = true then (zk_b2 (f_X11_placeAt h_pl x3 root_places pl_holds pl_suit pl_size) (fun r_5 u_6 => (if r_5 = true then (if pl_holds = (-1 : Int32) then (some ((-11 : Int32), ())) else (if pl_holds = (-1 : Int32) then (some ((-11 : Int32), ())) else (if pl_holds = (5 : Int32) then (some ((-12 : Int32), ())) else (if pl_holds = pl_holds then (zk_b2 (f_X6_hasRange x2 x5 pl_holds pl_suit pl_size) (fun r_13 u_14 => (if r_13 = 0 then (some ((-13 : Int32), ())) else (zk_b2 (f_X6_hasRange x4 x5 pl_holds pl_suit pl_size) (fun r_17 u_18 => (if r_17 = 0 then (some ((-13 : Int32), ())) else none)))))) else (some ((-12 : Int32), ())))))) else (some ((-1 : Int32), ()))))) else (zk_b2 (f_X11_placeAt h_pl x3 root_places pl_holds pl_suit pl_size) (fun r_21 u_22 => (if r_21 = true then (some ((-1 : Int32), ())) else (some ((-1 : Int32), ()))))))))
def f_X11_shift (h_pl : Nat)  (x1 : Int32) (x2 : Int32) (x3 : Int32) (x4 : Int32) (x5 : Int32) (root_places : Nat → Option Nat) (pl_holds : Int32) (pl_suit : Int32) (pl_size : Int32) : Option (Int32 × Unit) := B_X11_shift_0 h_pl  root_places pl_holds pl_suit pl_size x1 x2 x3 x4 x5 
set_option maxHeartbeats 4000000 in
set_option maxRecDepth 100000 in
theorem L_X11_shift_0 {p : Program} {l : Launch} {e : Env} {s : State} {m : MethodId} {args : Array Value} {below : List Frame} {meth : Method} {c : Code} {A : Nat → Prop} {D : va_G} {cs : Nat → ClassId} {ad : Nat → Nat} {h_pl : Nat} {h_pl_elements : Nat} {root_places : Nat → Option Nat} {pl_holds : Int32} {pl_suit : Int32} {pl_size : Int32} {R : Int32 × Unit} (C0 : zC p s m args meth c cX11_shift 8 (some .int) RX11 zW) (hK : va_K D classes (zT cs) s) (hA : ∀ q : Nat, s.heap.size ≤ q → A q) (x1 : Int32) (x2 : Int32) (x3 : Int32) (x4 : Int32) (x5 : Int32) (h : B_X11_shift_0 h_pl root_places pl_holds pl_suit pl_size x1 x2 x3 x4 x5 = some R) (H : Heap) (locs : List Loc) (ls : Array Slot) (hP : va_P D classes (wl_X11_shift ad cs h_pl h_pl_elements root_places pl_holds pl_suit pl_size) H) (hD : va_D A (wl_X11_shift ad cs h_pl h_pl_elements root_places pl_holds pl_suit pl_size)) (hS : va_S A s.heap H locs) (hl : lv_has ls 8 [(0, .ref (ad 0)), (1, .int x1), (2, .int x2), (3, .int x3), (4, .int x4), (5, .int x5)]) : W p l e rm_X11_shift s m args below meth c H locs 0 0 (MQ below (Q_X11_shift D cs ad h_pl h_pl_elements root_places pl_holds pl_suit pl_size A R) args s 0 0 A) (F0 m 0 ls []) := by
  obtain ⟨hx, hb, hr, hml, hown, ht, hlocks⟩ := id C0
  refine lv_aload_n hx hb dX11_shift_0 rfl (lv_at hl 0 rfl) ?_
  refine lv_iload_n hx hb dX11_shift_1 rfl (lv_at hl 1 rfl) ?_
  obtain ⟨r_1, u_2, hc_3, h⟩ := zk_o2 h
  refine zk_vq (post := (fun r u => r = (if r_1 = true then some h_pl else none) ∧ u = (u_2))) (w1 := fun u => (wl_X11_placeAt ad cs h_pl h_pl_elements root_places pl_holds pl_suit pl_size)) (As := [.int x1]) (rest := []) (c_X11_placeAt l D cs ad h_pl h_pl_elements H.size x1 root_places pl_holds pl_suit pl_size _ hc_3) ⟨hx, hb, hml, hown, ht⟩ (cwV 1 ht g_X11_111 rfl rfl rfl (by decide +kernel) ⟨Nat.le_of_ble_eq_true rfl, Nat.le_of_ble_eq_true rfl⟩) (va_recv hK hP (ci := 11) (q0 := 0) rfl rfl) hP hD hS hK hA [0, 1, 2] [] rfl rfl rfl rfl (by decide) rfl hl.1 (Nat.le_of_ble_eq_true rfl) dX11_shift_2 ⟨Nat.zero_le _, Nat.zero_le _⟩ (fun r u H locs hq hP hD hS => ?_)
  obtain ⟨hq1, hq2⟩ := hq; cases hq2; subst hq1
  have hP : va_P D classes (wl_X11_shift ad cs h_pl h_pl_elements root_places pl_holds pl_suit pl_size) H := hP.sub [0, 1, 2] rfl
  have hD : va_D A (wl_X11_shift ad cs h_pl h_pl_elements root_places pl_holds pl_suit pl_size) := hD.sub [0, 1, 2] rfl rfl
  by_cases c_4 : r_1 = true
  · have h := zk_t c_4 h
    refine W.eq (g2 := F0 m 5 ls [.ref h_pl]) (by rw [if_pos c_4]; rfl) ?_
    refine lv_astore (lv' := [(6, .ref h_pl), (0, .ref (ad 0)), (1, .int x1), (2, .int x2), (3, .int x3), (4, .int x4), (5, .int x5)]) hx hb dX11_shift_5 hl (by decide) rfl (fun ls hl => ?_)
    refine lv_aload_n hx hb dX11_shift_7 rfl (lv_at hl 1 rfl) ?_
    refine lv_iload_n hx hb dX11_shift_8 rfl (lv_at hl 4 rfl) ?_
    obtain ⟨r_5, u_6, hc_7, h⟩ := zk_o2 h
    refine zk_vq (post := (fun r u => r = (if r_5 = true then some h_pl else none) ∧ u = (u_6))) (w1 := fun u => (wl_X11_placeAt ad cs h_pl h_pl_elements root_places pl_holds pl_suit pl_size)) (As := [.int x3]) (rest := []) (c_X11_placeAt l D cs ad h_pl h_pl_elements H.size x3 root_places pl_holds pl_suit pl_size _ hc_7) ⟨hx, hb, hml, hown, ht⟩ (cwV 1 ht g_X11_111 rfl rfl rfl (by decide +kernel) ⟨Nat.le_of_ble_eq_true rfl, Nat.le_of_ble_eq_true rfl⟩) (va_recv hK hP (ci := 11) (q0 := 0) rfl rfl) hP hD hS hK hA [0, 1, 2] [] rfl rfl rfl rfl (by decide) rfl hl.1 (Nat.le_of_ble_eq_true rfl) dX11_shift_9 ⟨Nat.zero_le _, Nat.zero_le _⟩ (fun r u H locs hq hP hD hS => ?_)
    obtain ⟨hq1, hq2⟩ := hq; cases hq2; subst hq1
    have hP : va_P D classes (wl_X11_shift ad cs h_pl h_pl_elements root_places pl_holds pl_suit pl_size) H := hP.sub [0, 1, 2] rfl
    have hD : va_D A (wl_X11_shift ad cs h_pl h_pl_elements root_places pl_holds pl_suit pl_size) := hD.sub [0, 1, 2] rfl rfl
    by_cases c_8 : r_5 = true
    · have h := zk_t c_8 h
      refine W.eq (g2 := F0 m 12 ls [.ref h_pl]) (by rw [if_pos c_8]; rfl) ?_
      refine lv_astore (lv' := [(7, .ref h_pl), (6, .ref h_pl), (0, .ref (ad 0)), (1, .int x1), (2, .int x2), (3, .int x3), (4, .int x4), (5, .int x5)]) hx hb dX11_shift_12 hl (by decide) rfl (fun ls hl => ?_)
      refine lv_aload hx hb dX11_shift_14 (lv_at hl 1 rfl) ?_
      refine lv_ifnull hx hb dX11_shift_16 ?_
      refine lv_aload hx hb dX11_shift_19 (lv_at hl 0 rfl) ?_
      refine lv_ifnonnull (tgt := 26) hx hb dX11_shift_21 (by decide) ?_
      refine lv_aload hx hb dX11_shift_26 (lv_at hl 1 rfl) ?_
      refine va_get (D := D) (ci := 6) (v := .int pl_holds) (C := RX6) (T := TX6) (N := 4) hx hb ht iX6 hown hK hP 2 rfl rfl 0 (by decide) (ht _ kw_681) (fun _ h9 => h9) rfl dX11_shift_28 ?_
      refine lv_iconst (v := (-1 : Int32)) hx hb dX11_shift_31 (by decide) ?_
      refine lv_icmp_eq (tgt := 44) hx hb dX11_shift_32 (by decide) (fun c_9 => ?_) (fun c_9 => ?_)
      · have h := zk_t c_9 h
        refine lv_bipush (v := (-11 : Int32)) hx hb dX11_shift_44 (by decide) ?_
        exact W.iret (v := (-11 : Int32)) hx hb hr (fun t ht2 hW => ⟨⟨(-11 : Int32), (), rfl, Option.some.inj h, by rw [ht2]; exact hP, hD⟩, hS.F ht2⟩) hS.2.2 dX11_shift_46 hlocks
      · have h := zk_f c_9 h
        refine lv_aload hx hb dX11_shift_35 (lv_at hl 0 rfl) ?_
        refine va_get (D := D) (ci := 6) (v := .int pl_holds) (C := RX6) (T := TX6) (N := 4) hx hb ht iX6 hown hK hP 2 rfl rfl 0 (by decide) (ht _ kw_681) (fun _ h9 => h9) rfl dX11_shift_37 ?_
        refine lv_iconst (v := (-1 : Int32)) hx hb dX11_shift_40 (by decide) ?_
        refine lv_icmp_ne (tgt := 47) hx hb dX11_shift_41 (by decide) (fun c_10 => ?_) (fun c_10 => ?_)
        · have h := zk_f c_10 h
          refine lv_aload hx hb dX11_shift_47 (lv_at hl 1 rfl) ?_
          refine va_get (D := D) (ci := 6) (v := .int pl_holds) (C := RX6) (T := TX6) (N := 4) hx hb ht iX6 hown hK hP 2 rfl rfl 0 (by decide) (ht _ kw_681) (fun _ h9 => h9) rfl dX11_shift_49 ?_
          refine lv_iconst (v := (5 : Int32)) hx hb dX11_shift_52 (by decide) ?_
          refine lv_icmp_eq (tgt := 69) hx hb dX11_shift_53 (by decide) (fun c_11 => ?_) (fun c_11 => ?_)
          · have h := zk_t c_11 h
            refine lv_bipush (v := (-12 : Int32)) hx hb dX11_shift_69 (by decide) ?_
            exact W.iret (v := (-12 : Int32)) hx hb hr (fun t ht2 hW => ⟨⟨(-12 : Int32), (), rfl, Option.some.inj h, by rw [ht2]; exact hP, hD⟩, hS.F ht2⟩) hS.2.2 dX11_shift_71 hlocks
          · have h := zk_f c_11 h
            refine lv_aload hx hb dX11_shift_56 (lv_at hl 1 rfl) ?_
            refine va_get (D := D) (ci := 6) (v := .int pl_holds) (C := RX6) (T := TX6) (N := 4) hx hb ht iX6 hown hK hP 2 rfl rfl 0 (by decide) (ht _ kw_681) (fun _ h9 => h9) rfl dX11_shift_58 ?_
            refine lv_aload hx hb dX11_shift_61 (lv_at hl 0 rfl) ?_
            refine va_get (D := D) (ci := 6) (v := .int pl_holds) (C := RX6) (T := TX6) (N := 4) hx hb ht iX6 hown hK hP 2 rfl rfl 0 (by decide) (ht _ kw_681) (fun _ h9 => h9) rfl dX11_shift_63 ?_
            refine lv_icmp_eq (tgt := 72) hx hb dX11_shift_66 (by decide) (fun c_12 => ?_) (fun c_12 => ?_)
            · have h := zk_t c_12 h
              refine lv_aload hx hb dX11_shift_72 (lv_at hl 1 rfl) ?_
              refine lv_iload_n hx hb dX11_shift_74 rfl (lv_at hl 4 rfl) ?_
              refine lv_iload hx hb dX11_shift_75 (lv_at hl 7 rfl) ?_
              obtain ⟨r_13, u_14, hc_15, h⟩ := zk_o2 h
              refine zk_vi (post := (fun r u => (r, u) = (r_13, u_14))) (w1 := fun u => (wl_X6_hasRange ad cs h_pl h_pl_elements pl_holds pl_suit pl_size)) (As := [.int x2, .int x5]) (rest := []) (c_X6_hasRange l D cs ad h_pl h_pl_elements H.size x2 x5 pl_holds pl_suit pl_size _ hc_15) ⟨hx, hb, hml, hown, ht⟩ (cwV 2 ht g_X11_375 rfl rfl rfl (by decide +kernel) ⟨Nat.le_of_ble_eq_true rfl, Nat.le_of_ble_eq_true rfl⟩) (va_recv hK hP (ci := 6) (q0 := 2) rfl rfl) hP hD hS hK hA [2] [0, 1] rfl rfl rfl rfl (by decide) rfl hl.1 (Nat.le_of_ble_eq_true rfl) dX11_shift_77 ⟨Nat.zero_le _, Nat.zero_le _⟩ (fun r u H locs hq hP hD hS => ?_)
              cases hq
              have hP : va_P D classes (wl_X11_shift ad cs h_pl h_pl_elements root_places pl_holds pl_suit pl_size) H := hP.sub [0, 1, 2] rfl
              have hD : va_D A (wl_X11_shift ad cs h_pl h_pl_elements root_places pl_holds pl_suit pl_size) := hD.sub [0, 1, 2] rfl rfl
              refine lv_if_eq (tgt := 95) hx hb dX11_shift_80 (by decide) (fun c_16 => ?_) (fun c_16 => ?_)
              · have h := zk_t c_16 h
                refine lv_bipush (v := (-13 : Int32)) hx hb dX11_shift_95 (by decide) ?_
                exact W.iret (v := (-13 : Int32)) hx hb hr (fun t ht2 hW => ⟨⟨(-13 : Int32), (), rfl, Option.some.inj h, by rw [ht2]; exact hP, hD⟩, hS.F ht2⟩) hS.2.2 dX11_shift_97 hlocks
              · have h := zk_f c_16 h
                refine lv_aload hx hb dX11_shift_83 (lv_at hl 0 rfl) ?_
                refine lv_iload hx hb dX11_shift_85 (lv_at hl 6 rfl) ?_
                refine lv_iload hx hb dX11_shift_87 (lv_at hl 7 rfl) ?_
                obtain ⟨r_17, u_18, hc_19, h⟩ := zk_o2 h
                refine zk_vi (post := (fun r u => (r, u) = (r_17, u_18))) (w1 := fun u => (wl_X6_hasRange ad cs h_pl h_pl_elements pl_holds pl_suit pl_size)) (As := [.int x4, .int x5]) (rest := []) (c_X6_hasRange l D cs ad h_pl h_pl_elements H.size x4 x5 pl_holds pl_suit pl_size _ hc_19) ⟨hx, hb, hml, hown, ht⟩ (cwV 2 ht g_X11_375 rfl rfl rfl (by decide +kernel) ⟨Nat.le_of_ble_eq_true rfl, Nat.le_of_ble_eq_true rfl⟩) (va_recv hK hP (ci := 6) (q0 := 2) rfl rfl) hP hD hS hK hA [2] [0, 1] rfl rfl rfl rfl (by decide) rfl hl.1 (Nat.le_of_ble_eq_true rfl) dX11_shift_89 ⟨Nat.zero_le _, Nat.zero_le _⟩ (fun r u H locs hq hP hD hS => ?_)
                cases hq
                have hP : va_P D classes (wl_X11_shift ad cs h_pl h_pl_elements root_places pl_holds pl_suit pl_size) H := hP.sub [0, 1, 2] rfl
                have hD : va_D A (wl_X11_shift ad cs h_pl h_pl_elements root_places pl_holds pl_suit pl_size) := hD.sub [0, 1, 2] rfl rfl
                refine lv_if_ne (tgt := 98) hx hb dX11_shift_92 (by decide) (fun c_20 => ?_) (fun c_20 => ?_)
                · have h := zk_f c_20 h
                  refine lv_aload hx hb dX11_shift_98 (lv_at hl 1 rfl) ?_
                  refine va_get (D := D) (ci := 6) (v := .ref h_pl_elements) (C := RX6) (T := TX6) (N := 4) hx hb ht iX6 hown hK hP 2 rfl rfl 3 (by decide) (ht _ kw_686) (fun _ h9 => h9) rfl dX11_shift_100 ?_
                  refine lv_iload_n hx hb dX11_shift_103 rfl (lv_at hl 4 rfl) ?_
                  refine lv_aload hx hb dX11_shift_104 (lv_at hl 0 rfl) ?_
                  refine va_get (D := D) (ci := 6) (v := .ref h_pl_elements) (C := RX6) (T := TX6) (N := 4) hx hb ht iX6 hown hK hP 2 rfl rfl 3 (by decide) (ht _ kw_686) (fun _ h9 => h9) rfl dX11_shift_106 ?_
                  refine lv_iload hx hb dX11_shift_109 (lv_at hl 6 rfl) ?_
                  refine lv_iload hx hb dX11_shift_111 (lv_at hl 7 rfl) ?_
                  cases h
                · have h := zk_t c_20 h
                  refine lv_bipush (v := (-13 : Int32)) hx hb dX11_shift_95 (by decide) ?_
                  exact W.iret (v := (-13 : Int32)) hx hb hr (fun t ht2 hW => ⟨⟨(-13 : Int32), (), rfl, Option.some.inj h, by rw [ht2]; exact hP, hD⟩, hS.F ht2⟩) hS.2.2 dX11_shift_97 hlocks
            · have h := zk_f c_12 h
              refine lv_bipush (v := (-12 : Int32)) hx hb dX11_shift_69 (by decide) ?_
              exact W.iret (v := (-12 : Int32)) hx hb hr (fun t ht2 hW => ⟨⟨(-12 : Int32), (), rfl, Option.some.inj h, by rw [ht2]; exact hP, hD⟩, hS.F ht2⟩) hS.2.2 dX11_shift_71 hlocks
        · have h := zk_t c_10 h
          refine lv_bipush (v := (-11 : Int32)) hx hb dX11_shift_44 (by decide) ?_
          exact W.iret (v := (-11 : Int32)) hx hb hr (fun t ht2 hW => ⟨⟨(-11 : Int32), (), rfl, Option.some.inj h, by rw [ht2]; exact hP, hD⟩, hS.F ht2⟩) hS.2.2 dX11_shift_46 hlocks
    · have h := zk_f c_8 h
      refine W.eq (g2 := F0 m 12 ls [.null]) (by rw [if_neg c_8]; rfl) ?_
      refine lv_astoreN (lv' := [(7, .null), (6, .ref h_pl), (0, .ref (ad 0)), (1, .int x1), (2, .int x2), (3, .int x3), (4, .int x4), (5, .int x5)]) hx hb dX11_shift_12 hl (by decide) rfl (fun ls hl => ?_)
      refine lv_aload hx hb dX11_shift_14 (lv_at hl 1 rfl) ?_
      refine lv_ifnull hx hb dX11_shift_16 ?_
      refine lv_aloadN hx hb dX11_shift_19 (lv_at hl 0 rfl) ?_
      refine lv_ifnonnullN hx hb dX11_shift_21 ?_
      refine lv_iconst (v := (-1 : Int32)) hx hb dX11_shift_24 (by decide) ?_
      exact W.iret (v := (-1 : Int32)) hx hb hr (fun t ht2 hW => ⟨⟨(-1 : Int32), (), rfl, Option.some.inj h, by rw [ht2]; exact hP, hD⟩, hS.F ht2⟩) hS.2.2 dX11_shift_25 hlocks
  · have h := zk_f c_4 h
    refine W.eq (g2 := F0 m 5 ls [.null]) (by rw [if_neg c_4]; rfl) ?_
    refine lv_astoreN (lv' := [(6, .null), (0, .ref (ad 0)), (1, .int x1), (2, .int x2), (3, .int x3), (4, .int x4), (5, .int x5)]) hx hb dX11_shift_5 hl (by decide) rfl (fun ls hl => ?_)
    refine lv_aload_n hx hb dX11_shift_7 rfl (lv_at hl 1 rfl) ?_
    refine lv_iload_n hx hb dX11_shift_8 rfl (lv_at hl 4 rfl) ?_
    obtain ⟨r_21, u_22, hc_23, h⟩ := zk_o2 h
    refine zk_vq (post := (fun r u => r = (if r_21 = true then some h_pl else none) ∧ u = (u_22))) (w1 := fun u => (wl_X11_placeAt ad cs h_pl h_pl_elements root_places pl_holds pl_suit pl_size)) (As := [.int x3]) (rest := []) (c_X11_placeAt l D cs ad h_pl h_pl_elements H.size x3 root_places pl_holds pl_suit pl_size _ hc_23) ⟨hx, hb, hml, hown, ht⟩ (cwV 1 ht g_X11_111 rfl rfl rfl (by decide +kernel) ⟨Nat.le_of_ble_eq_true rfl, Nat.le_of_ble_eq_true rfl⟩) (va_recv hK hP (ci := 11) (q0 := 0) rfl rfl) hP hD hS hK hA [0, 1, 2] [] rfl rfl rfl rfl (by decide) rfl hl.1 (Nat.le_of_ble_eq_true rfl) dX11_shift_9 ⟨Nat.zero_le _, Nat.zero_le _⟩ (fun r u H locs hq hP hD hS => ?_)
    obtain ⟨hq1, hq2⟩ := hq; cases hq2; subst hq1
    have hP : va_P D classes (wl_X11_shift ad cs h_pl h_pl_elements root_places pl_holds pl_suit pl_size) H := hP.sub [0, 1, 2] rfl
    have hD : va_D A (wl_X11_shift ad cs h_pl h_pl_elements root_places pl_holds pl_suit pl_size) := hD.sub [0, 1, 2] rfl rfl
    by_cases c_24 : r_21 = true
    · have h := zk_t c_24 h
      refine W.eq (g2 := F0 m 12 ls [.ref h_pl]) (by rw [if_pos c_24]; rfl) ?_
      refine lv_astore (lv' := [(7, .ref h_pl), (6, .null), (0, .ref (ad 0)), (1, .int x1), (2, .int x2), (3, .int x3), (4, .int x4), (5, .int x5)]) hx hb dX11_shift_12 hl (by decide) rfl (fun ls hl => ?_)
      refine lv_aloadN hx hb dX11_shift_14 (lv_at hl 1 rfl) ?_
      refine lv_ifnullN (tgt := 24) hx hb dX11_shift_16 (by decide) ?_
      refine lv_iconst (v := (-1 : Int32)) hx hb dX11_shift_24 (by decide) ?_
      exact W.iret (v := (-1 : Int32)) hx hb hr (fun t ht2 hW => ⟨⟨(-1 : Int32), (), rfl, Option.some.inj h, by rw [ht2]; exact hP, hD⟩, hS.F ht2⟩) hS.2.2 dX11_shift_25 hlocks
    · have h := zk_f c_24 h
      refine W.eq (g2 := F0 m 12 ls [.null]) (by rw [if_neg c_24]; rfl) ?_
      refine lv_astoreN (lv' := [(7, .null), (6, .null), (0, .ref (ad 0)), (1, .int x1), (2, .int x2), (3, .int x3), (4, .int x4), (5, .int x5)]) hx hb dX11_shift_12 hl (by decide) rfl (fun ls hl => ?_)
      refine lv_aloadN hx hb dX11_shift_14 (lv_at hl 1 rfl) ?_
      refine lv_ifnullN (tgt := 24) hx hb dX11_shift_16 (by decide) ?_
      refine lv_iconst (v := (-1 : Int32)) hx hb dX11_shift_24 (by decide) ?_
      exact W.iret (v := (-1 : Int32)) hx hb hr (fun t ht2 hW => ⟨⟨(-1 : Int32), (), rfl, Option.some.inj h, by rw [ht2]; exact hP, hD⟩, hS.F ht2⟩) hS.2.2 dX11_shift_25 hlocks
set_option maxHeartbeats 4000000 in
set_option maxRecDepth 100000 in
theorem c_X11_shift (l : Launch) (D : va_G) (cs : Nat → ClassId) (ad : Nat → Nat) (h_pl : Nat) (h_pl_elements : Nat) (sz : Nat) (x1 : Int32) (x2 : Int32) (x3 : Int32) (x4 : Int32) (x5 : Int32) (root_places : Nat → Option Nat) (pl_holds : Int32) (pl_suit : Int32) (pl_size : Int32) (R : Int32 × Unit) (h : f_X11_shift h_pl  x1 x2 x3 x4 x5 root_places pl_holds pl_suit pl_size = some R) : Met l yX11_shift (z_X11_shift) rm_X11_shift (va_Pc [.ref (ad 0), .int x1, .int x2, .int x3, .int x4, .int x5] (zPre D cs (wl_X11_shift ad cs h_pl h_pl_elements root_places pl_holds pl_suit pl_size) sz)) (Q_X11_shift D cs ad h_pl h_pl_elements root_places pl_holds pl_suit pl_size (va_A (wl_X11_shift ad cs h_pl h_pl_elements root_places pl_holds pl_suit pl_size) sz) R) 0 0 (va_A (wl_X11_shift ad cs h_pl h_pl_elements root_places pl_holds pl_suit pl_size) sz) := by
  refine Met.ofW (cc := cX11_shift) (maxL := 8) (ret := (some .int)) (by decide) rfl ?_
  intro p e s m args below meth c s₁ B hml hv
  obtain ⟨rfl, hsz, hP, hK, hD0⟩ := hv
  subst hsz
  have hD := hD0.self (sz := s.heap.size)
  have C0 : zC p s m _ meth c cX11_shift 8 (some .int) RX11 zW := ⟨B.exec, B.bytes, B.returns, hml, findClass_of_methodNamed B.named, fun w hw => atoms_spec (ws := z_X11_shift) B.pre w (List.mem_cons_of_mem _ hw), B.notSynchronized⟩
  have hA : ∀ q : Nat, s.heap.size ≤ q → va_A (wl_X11_shift ad cs h_pl h_pl_elements root_places pl_holds pl_suit pl_size) s.heap.size q := fun q h => Or.inr h
  have hl := lv_entry ([.ref (ad 0), .int x1, .int x2, .int x3, .int x4, .int x5]) (n := 8) (Nat.le_of_ble_eq_true rfl)
  rw [lg_entry_eq]
  generalize (lg_sl ([.ref (ad 0), .int x1, .int x2, .int x3, .int x4, .int x5]) ++ List.replicate (8 - (lg_sl ([.ref (ad 0), .int x1, .int x2, .int x3, .int x4, .int x5])).length) Slot.unset).toArray = ls at hl ⊢
  exact L_X11_shift_0 C0 hK hA   x1 x2 x3 x4 x5  h s.heap [] ls hP hD va_S.rf hl
theorem dX11_taken_0 : decode cX11_taken 0 = .ok (.aload_n 0, 1) := by decide +kernel
theorem dX11_taken_1 : decode cX11_taken 1 = .ok (.iload_n 1, 1) := by decide +kernel
theorem dX11_taken_2 : decode cX11_taken 2 = .ok (.invokevirtual 111, 3) := by decide +kernel
theorem dX11_taken_5 : decode cX11_taken 5 = .ok (.astore_n 3, 1) := by decide +kernel
theorem dX11_taken_6 : decode cX11_taken 6 = .ok (.aload_n 3, 1) := by decide +kernel
theorem dX11_taken_7 : decode cX11_taken 7 = .ok (.ifnull 13, 3) := by decide +kernel
theorem dX11_taken_10 : decode cX11_taken 10 = .ok (.iload_n 2, 1) := by decide +kernel
theorem dX11_taken_11 : decode cX11_taken 11 = .ok (.ifCond .lt 9, 3) := by decide +kernel
theorem dX11_taken_14 : decode cX11_taken 14 = .ok (.iload_n 2, 1) := by decide +kernel
theorem dX11_taken_15 : decode cX11_taken 15 = .ok (.bipush 7, 2) := by decide +kernel
theorem dX11_taken_17 : decode cX11_taken 17 = .ok (.if_icmp .lt 5, 3) := by decide +kernel
theorem dX11_taken_20 : decode cX11_taken 20 = .ok (.iconst (-1), 1) := by decide +kernel
theorem dX11_taken_21 : decode cX11_taken 21 = .ok (.ireturn, 1) := by decide +kernel
theorem dX11_taken_22 : decode cX11_taken 22 = .ok (.aload_n 3, 1) := by decide +kernel
theorem dX11_taken_23 : decode cX11_taken 23 = .ok (.getfield 115, 3) := by decide +kernel
theorem dX11_taken_26 : decode cX11_taken 26 = .ok (.iconst (-1), 1) := by decide +kernel
theorem dX11_taken_27 : decode cX11_taken 27 = .ok (.if_icmp .ne 6, 3) := by decide +kernel
theorem dX11_taken_30 : decode cX11_taken 30 = .ok (.bipush (-11), 2) := by decide +kernel
theorem dX11_taken_32 : decode cX11_taken 32 = .ok (.ireturn, 1) := by decide +kernel
theorem dX11_taken_33 : decode cX11_taken 33 = .ok (.aload_n 3, 1) := by decide +kernel
theorem dX11_taken_34 : decode cX11_taken 34 = .ok (.getfield 115, 3) := by decide +kernel
theorem dX11_taken_37 : decode cX11_taken 37 = .ok (.iconst 5, 1) := by decide +kernel
theorem dX11_taken_38 : decode cX11_taken 38 = .ok (.if_icmp .ne 17, 3) := by decide +kernel
theorem dX11_taken_41 : decode cX11_taken 41 = .ok (.aload_n 0, 1) := by decide +kernel
theorem dX11_taken_42 : decode cX11_taken 42 = .ok (.getfield 10, 3) := by decide +kernel
theorem dX11_taken_45 : decode cX11_taken 45 = .ok (.aload_n 3, 1) := by decide +kernel
theorem dX11_taken_46 : decode cX11_taken 46 = .ok (.getfield 356, 3) := by decide +kernel
theorem dX11_taken_49 : decode cX11_taken 49 = .ok (.invokevirtual 207, 3) := by decide +kernel
theorem dX11_taken_52 : decode cX11_taken 52 = .ok (.goto 4, 3) := by decide +kernel
theorem dX11_taken_55 : decode cX11_taken 55 = .ok (.aconst_null, 1) := by decide +kernel
theorem dX11_taken_56 : decode cX11_taken 56 = .ok (.astore 4, 2) := by decide +kernel
theorem dX11_taken_58 : decode cX11_taken 58 = .ok (.aload 4, 2) := by decide +kernel
theorem dX11_taken_60 : decode cX11_taken 60 = .ok (.ifnull 15, 3) := by decide +kernel
theorem dX11_taken_75 : decode cX11_taken 75 = .ok (.bipush (-12), 2) := by decide +kernel
theorem dX11_taken_77 : decode cX11_taken 77 = .ok (.ireturn, 1) := by decide +kernel
abbrev z_X11_taken : List Cond := .code yX11_taken cX11_taken 5 (some .int) :: zW
abbrev wl_X11_taken (ad : Nat → Nat) (cs : Nat → ClassId) (h_pl : Nat) (h_pl_elements : Nat) (root_places : Nat → Option Nat) (court_shoeCount : Int32) (court_claimCount : Int32) (court_suitCount : Int32) (pl_holds : Int32) (pl_suit : Int32) (pl_size : Int32) : va_W := [((ad 0), .inr (11, [.ref (ad 4), .ref (ad 15), .ref (ad 23), .ref (ad 25), .ref (ad 26), .ref (ad 28), .ref (ad 34), .ref (ad 39), .ref (ad 1), .ref (ad 2), .ref (ad 3)])), ((ad 1), .inl (cs 7, 6, .inr (.inr (.inr (.inr root_places))))), ((ad 4), .inr (2, [.ref (ad 5), .ref (ad 6), .ref (ad 7), .ref (ad 8), .ref (ad 9), .ref (ad 10), .ref (ad 11), .ref (ad 12), .ref (ad 13), .ref (ad 14), .int court_shoeCount, .int court_claimCount, .int court_suitCount])), (h_pl, .inr (6, [.int pl_holds, .int pl_suit, .int pl_size, .ref h_pl_elements]))]
def Q_X11_taken (D : va_G) (cs : Nat → ClassId) (ad : Nat → Nat) (h_pl : Nat) (h_pl_elements : Nat) (root_places : Nat → Option Nat) (court_shoeCount : Int32) (court_claimCount : Int32) (court_suitCount : Int32) (pl_holds : Int32) (pl_suit : Int32) (pl_size : Int32) (A : Nat → Prop) (R : Int32 × Unit) : Array Value → State → Outcome → State → Prop :=
  va_Qi (fun (r : Int32) (u : Unit) => (r, u) = R) (fun (u : Unit) (t : State) => va_P D classes (wl_X11_taken ad cs h_pl h_pl_elements root_places court_shoeCount court_claimCount court_suitCount pl_holds pl_suit pl_size) t.heap ∧ va_D A (wl_X11_taken ad cs h_pl h_pl_elements root_places court_shoeCount court_claimCount court_suitCount pl_holds pl_suit pl_size)) A
abbrev rm_X11_taken : Room := { frames := 1, cells := 0, slots := 0, locals := 21 }
def B_X11_taken_56 (h_pl : Nat)   (root_places : Nat → Option Nat) (court_shoeCount : Int32) (court_claimCount : Int32) (court_suitCount : Int32) (pl_holds : Int32) (pl_suit : Int32) (pl_size : Int32) (x2 : Int32) : Option (Int32 × Unit) :=
  (some ((-12 : Int32), ()))
def B_X11_taken_0 (h_pl : Nat)   (root_places : Nat → Option Nat) (court_shoeCount : Int32) (court_claimCount : Int32) (court_suitCount : Int32) (pl_holds : Int32) (pl_suit : Int32) (pl_size : Int32) (x1 : Int32) (x2 : Int32) : Option (Int32 × Unit) :=
  (zk_b2 (f_X11_placeAt h_pl x1 root_places pl_holds pl_suit pl_size) (fun r_1 u_2 => (if r_1 = true then (if x2 < 0 then (some ((-1 : Int32), ())) else (if x2 < (7 : Int32) then (if pl_holds = (-1 : Int32) then (some ((-11 : Int32), ())) else (if pl_holds = (5 : Int32) then (zk_b2 (f_X2_suitAt pl_suit court_shoeCount court_claimCount court_suitCount) (fun r_9 u_10 => (if r_9 = true then none else (B_X11_taken_56 h_pl root_places court_shoeCount court_claimCount court_suitCount pl_holds pl_suit pl_size x2)))) else (B_X11_taken_56 h_pl root_places court_shoeCount court_claimCount court_suitCount pl_holds pl_suit pl_size x2))) else (some ((-1 : Int32), ())))) else (some ((-1 : Int32), ())))))
def f_X11_taken (h_pl : Nat)  (x1 : Int32) (x2 : Int32) (root_places : Nat → Option Nat) (court_shoeCount : Int32) (court_claimCount : Int32) (court_suitCount : Int32) (pl_holds : Int32) (pl_suit : Int32) (pl_size : Int32) : Option (Int32 × Unit) := B_X11_taken_0 h_pl  root_places court_shoeCount court_claimCount court_suitCount pl_holds pl_suit pl_size x1 x2 
set_option maxHeartbeats 4000000 in
set_option maxRecDepth 100000 in
theorem L_X11_taken_56 {p : Program} {l : Launch} {e : Env} {s : State} {m : MethodId} {args : Array Value} {below : List Frame} {meth : Method} {c : Code} {A : Nat → Prop} {D : va_G} {cs : Nat → ClassId} {ad : Nat → Nat} {h_pl : Nat} {h_pl_elements : Nat} {root_places : Nat → Option Nat} {court_shoeCount : Int32} {court_claimCount : Int32} {court_suitCount : Int32} {pl_holds : Int32} {pl_suit : Int32} {pl_size : Int32} {R : Int32 × Unit} (C0 : zC p s m args meth c cX11_taken 5 (some .int) RX11 zW) (hK : va_K D classes (zT cs) s) (hA : ∀ q : Nat, s.heap.size ≤ q → A q) (x2 : Int32) (h : B_X11_taken_56 h_pl root_places court_shoeCount court_claimCount court_suitCount pl_holds pl_suit pl_size x2 = some R) (H : Heap) (locs : List Loc) (ls : Array Slot) (hP : va_P D classes (wl_X11_taken ad cs h_pl h_pl_elements root_places court_shoeCount court_claimCount court_suitCount pl_holds pl_suit pl_size) H) (hD : va_D A (wl_X11_taken ad cs h_pl h_pl_elements root_places court_shoeCount court_claimCount court_suitCount pl_holds pl_suit pl_size)) (hS : va_S A s.heap H locs) (hl : lv_has ls 5 [(2, .int x2)]) : W p l e rm_X11_taken s m args below meth c H locs 0 0 (MQ below (Q_X11_taken D cs ad h_pl h_pl_elements root_places court_shoeCount court_claimCount court_suitCount pl_holds pl_suit pl_size A R) args s 0 0 A) (F0 m 56 ls [.null]) := by
  obtain ⟨hx, hb, hr, hml, hown, ht, hlocks⟩ := id C0
  refine lv_astoreN (lv' := [(4, .null), (2, .int x2)]) hx hb dX11_taken_56 hl (by decide) rfl (fun ls hl => ?_)
  refine lv_aloadN hx hb dX11_taken_58 (lv_at hl 0 rfl) ?_
  refine lv_ifnullN (tgt := 75) hx hb dX11_taken_60 (by decide) ?_
  refine lv_bipush (v := (-12 : Int32)) hx hb dX11_taken_75 (by decide) ?_
  exact W.iret (v := (-12 : Int32)) hx hb hr (fun t ht2 hW => ⟨⟨(-12 : Int32), (), rfl, Option.some.inj h, by rw [ht2]; exact hP, hD⟩, hS.F ht2⟩) hS.2.2 dX11_taken_77 hlocks
set_option maxHeartbeats 4000000 in
set_option maxRecDepth 100000 in
theorem L_X11_taken_0 {p : Program} {l : Launch} {e : Env} {s : State} {m : MethodId} {args : Array Value} {below : List Frame} {meth : Method} {c : Code} {A : Nat → Prop} {D : va_G} {cs : Nat → ClassId} {ad : Nat → Nat} {h_pl : Nat} {h_pl_elements : Nat} {root_places : Nat → Option Nat} {court_shoeCount : Int32} {court_claimCount : Int32} {court_suitCount : Int32} {pl_holds : Int32} {pl_suit : Int32} {pl_size : Int32} {R : Int32 × Unit} (C0 : zC p s m args meth c cX11_taken 5 (some .int) RX11 zW) (hK : va_K D classes (zT cs) s) (hA : ∀ q : Nat, s.heap.size ≤ q → A q) (x1 : Int32) (x2 : Int32) (h : B_X11_taken_0 h_pl root_places court_shoeCount court_claimCount court_suitCount pl_holds pl_suit pl_size x1 x2 = some R) (H : Heap) (locs : List Loc) (ls : Array Slot) (hP : va_P D classes (wl_X11_taken ad cs h_pl h_pl_elements root_places court_shoeCount court_claimCount court_suitCount pl_holds pl_suit pl_size) H) (hD : va_D A (wl_X11_taken ad cs h_pl h_pl_elements root_places court_shoeCount court_claimCount court_suitCount pl_holds pl_suit pl_size)) (hS : va_S A s.heap H locs) (hl : lv_has ls 5 [(0, .ref (ad 0)), (1, .int x1), (2, .int x2)]) : W p l e rm_X11_taken s m args below meth c H locs 0 0 (MQ below (Q_X11_taken D cs ad h_pl h_pl_elements root_places court_shoeCount court_claimCount court_suitCount pl_holds pl_suit pl_size A R) args s 0 0 A) (F0 m 0 ls []) := by
  obtain ⟨hx, hb, hr, hml, hown, ht, hlocks⟩ := id C0
  refine lv_aload_n hx hb dX11_taken_0 rfl (lv_at hl 0 rfl) ?_
  refine lv_iload_n hx hb dX11_taken_1 rfl (lv_at hl 1 rfl) ?_
  obtain ⟨r_1, u_2, hc_3, h⟩ := zk_o2 h
  refine zk_vq (post := (fun r u => r = (if r_1 = true then some h_pl else none) ∧ u = (u_2))) (w1 := fun u => (wl_X11_placeAt ad cs h_pl h_pl_elements root_places pl_holds pl_suit pl_size)) (As := [.int x1]) (rest := []) (c_X11_placeAt l D cs ad h_pl h_pl_elements H.size x1 root_places pl_holds pl_suit pl_size _ hc_3) ⟨hx, hb, hml, hown, ht⟩ (cwV 1 ht g_X11_111 rfl rfl rfl (by decide +kernel) ⟨Nat.le_of_ble_eq_true rfl, Nat.le_of_ble_eq_true rfl⟩) (va_recv hK hP (ci := 11) (q0 := 0) rfl rfl) hP hD hS hK hA [0, 1, 3] [2] rfl rfl rfl rfl (by decide) rfl hl.1 (Nat.le_of_ble_eq_true rfl) dX11_taken_2 ⟨Nat.zero_le _, Nat.zero_le _⟩ (fun r u H locs hq hP hD hS => ?_)
  obtain ⟨hq1, hq2⟩ := hq; cases hq2; subst hq1
  have hP : va_P D classes (wl_X11_taken ad cs h_pl h_pl_elements root_places court_shoeCount court_claimCount court_suitCount pl_holds pl_suit pl_size) H := hP.sub [1, 2, 0, 3] rfl
  have hD : va_D A (wl_X11_taken ad cs h_pl h_pl_elements root_places court_shoeCount court_claimCount court_suitCount pl_holds pl_suit pl_size) := hD.sub [1, 2, 0, 3] rfl rfl
  by_cases c_4 : r_1 = true
  · have h := zk_t c_4 h
    refine W.eq (g2 := F0 m 5 ls [.ref h_pl]) (by rw [if_pos c_4]; rfl) ?_
    refine lv_astore_n (lv' := [(3, .ref h_pl), (0, .ref (ad 0)), (1, .int x1), (2, .int x2)]) hx hb dX11_taken_5 rfl hl (by decide) rfl (fun ls hl => ?_)
    refine lv_aload_n hx hb dX11_taken_6 rfl (lv_at hl 0 rfl) ?_
    refine lv_ifnull hx hb dX11_taken_7 ?_
    refine lv_iload_n hx hb dX11_taken_10 rfl (lv_at hl 3 rfl) ?_
    refine lv_if_lt (tgt := 20) hx hb dX11_taken_11 (by decide) (fun c_5 => ?_) (fun c_5 => ?_)
    · have h := zk_t c_5 h
      refine lv_iconst (v := (-1 : Int32)) hx hb dX11_taken_20 (by decide) ?_
      exact W.iret (v := (-1 : Int32)) hx hb hr (fun t ht2 hW => ⟨⟨(-1 : Int32), (), rfl, Option.some.inj h, by rw [ht2]; exact hP, hD⟩, hS.F ht2⟩) hS.2.2 dX11_taken_21 hlocks
    · have h := zk_f c_5 h
      refine lv_iload_n hx hb dX11_taken_14 rfl (lv_at hl 3 rfl) ?_
      refine lv_bipush (v := (7 : Int32)) hx hb dX11_taken_15 (by decide) ?_
      refine lv_icmp_lt (tgt := 22) hx hb dX11_taken_17 (by decide) (fun c_6 => ?_) (fun c_6 => ?_)
      · have h := zk_t c_6 h
        refine lv_aload_n hx hb dX11_taken_22 rfl (lv_at hl 0 rfl) ?_
        refine va_get (D := D) (ci := 6) (v := .int pl_holds) (C := RX6) (T := TX6) (N := 4) hx hb ht iX6 hown hK hP 3 rfl rfl 0 (by decide) (ht _ kw_681) (fun _ h9 => h9) rfl dX11_taken_23 ?_
        refine lv_iconst (v := (-1 : Int32)) hx hb dX11_taken_26 (by decide) ?_
        refine lv_icmp_ne (tgt := 33) hx hb dX11_taken_27 (by decide) (fun c_7 => ?_) (fun c_7 => ?_)
        · have h := zk_f c_7 h
          refine lv_aload_n hx hb dX11_taken_33 rfl (lv_at hl 0 rfl) ?_
          refine va_get (D := D) (ci := 6) (v := .int pl_holds) (C := RX6) (T := TX6) (N := 4) hx hb ht iX6 hown hK hP 3 rfl rfl 0 (by decide) (ht _ kw_681) (fun _ h9 => h9) rfl dX11_taken_34 ?_
          refine lv_iconst (v := (5 : Int32)) hx hb dX11_taken_37 (by decide) ?_
          refine lv_icmp_ne (tgt := 55) hx hb dX11_taken_38 (by decide) (fun c_8 => ?_) (fun c_8 => ?_)
          · have h := zk_f c_8 h
            refine lv_null hx hb dX11_taken_55 ?_
            exact L_X11_taken_56 C0 hK hA   x2 h H locs ls hP hD hS (lv_sub hl [3] rfl)
          · have h := zk_t c_8 h
            refine lv_aload_n hx hb dX11_taken_41 rfl (lv_at hl 1 rfl) ?_
            refine va_get (D := D) (ci := 11) (v := .ref (ad 4)) (C := RX11) (T := TX11) (N := 11) hx hb ht iX11 hown hK hP 0 rfl rfl 0 (by decide) (ht _ kw_696) (fun _ h9 => h9) rfl dX11_taken_42 ?_
            refine lv_aload_n hx hb dX11_taken_45 rfl (lv_at hl 0 rfl) ?_
            refine va_get (D := D) (ci := 6) (v := .int pl_suit) (C := RX6) (T := TX6) (N := 4) hx hb ht iX6 hown hK hP 3 rfl rfl 1 (by decide) (ht _ kw_682) (fun _ h9 => h9) rfl dX11_taken_46 ?_
            obtain ⟨r_9, u_10, hc_11, h⟩ := zk_o2 h
            refine zk_vq (post := (fun r u => r = (if r_9 = true then some 0 else none) ∧ u = (u_10))) (w1 := fun u => (wl_X2_suitAt ad cs court_shoeCount court_claimCount court_suitCount)) (As := [.int pl_suit]) (rest := []) (c_X2_suitAt l D cs ad  H.size pl_suit court_shoeCount court_claimCount court_suitCount _ hc_11) ⟨hx, hb, hml, hown, ht⟩ (cwV 1 ht g_X11_207 rfl rfl rfl (by decide +kernel) ⟨Nat.le_of_ble_eq_true rfl, Nat.le_of_ble_eq_true rfl⟩) (va_recv hK hP (ci := 2) (q0 := 2) rfl rfl) hP hD hS hK hA [2] [0, 1, 3] rfl rfl rfl rfl (by decide) rfl hl.1 (Nat.le_of_ble_eq_true rfl) dX11_taken_49 ⟨Nat.zero_le _, Nat.zero_le _⟩ (fun r u H locs hq hP hD hS => ?_)
            obtain ⟨hq1, hq2⟩ := hq; cases hq2; subst hq1
            have hP : va_P D classes (wl_X11_taken ad cs h_pl h_pl_elements root_places court_shoeCount court_claimCount court_suitCount pl_holds pl_suit pl_size) H := hP.sub [0, 1, 3, 2] rfl
            have hD : va_D A (wl_X11_taken ad cs h_pl h_pl_elements root_places court_shoeCount court_claimCount court_suitCount pl_holds pl_suit pl_size) := hD.sub [0, 1, 3, 2] rfl rfl
            by_cases c_12 : r_9 = true
            · have h := zk_t c_12 h
              cases h
            · have h := zk_f c_12 h
              refine W.eq (g2 := F0 m 52 ls [.null]) (by rw [if_neg c_12]; rfl) ?_
              refine lv_goto (tgt := 56) hx hb dX11_taken_52 (by decide) ?_
              exact L_X11_taken_56 C0 hK hA   x2 h H locs ls hP hD hS (lv_sub hl [3] rfl)
        · have h := zk_t c_7 h
          refine lv_bipush (v := (-11 : Int32)) hx hb dX11_taken_30 (by decide) ?_
          exact W.iret (v := (-11 : Int32)) hx hb hr (fun t ht2 hW => ⟨⟨(-11 : Int32), (), rfl, Option.some.inj h, by rw [ht2]; exact hP, hD⟩, hS.F ht2⟩) hS.2.2 dX11_taken_32 hlocks
      · have h := zk_f c_6 h
        refine lv_iconst (v := (-1 : Int32)) hx hb dX11_taken_20 (by decide) ?_
        exact W.iret (v := (-1 : Int32)) hx hb hr (fun t ht2 hW => ⟨⟨(-1 : Int32), (), rfl, Option.some.inj h, by rw [ht2]; exact hP, hD⟩, hS.F ht2⟩) hS.2.2 dX11_taken_21 hlocks
  · have h := zk_f c_4 h
    refine W.eq (g2 := F0 m 5 ls [.null]) (by rw [if_neg c_4]; rfl) ?_
    refine lv_astore_nN (lv' := [(3, .null), (0, .ref (ad 0)), (1, .int x1), (2, .int x2)]) hx hb dX11_taken_5 rfl hl (by decide) rfl (fun ls hl => ?_)
    refine lv_aload_nN hx hb dX11_taken_6 rfl (lv_at hl 0 rfl) ?_
    refine lv_ifnullN (tgt := 20) hx hb dX11_taken_7 (by decide) ?_
    refine lv_iconst (v := (-1 : Int32)) hx hb dX11_taken_20 (by decide) ?_
    exact W.iret (v := (-1 : Int32)) hx hb hr (fun t ht2 hW => ⟨⟨(-1 : Int32), (), rfl, Option.some.inj h, by rw [ht2]; exact hP, hD⟩, hS.F ht2⟩) hS.2.2 dX11_taken_21 hlocks
set_option maxHeartbeats 4000000 in
set_option maxRecDepth 100000 in
theorem c_X11_taken (l : Launch) (D : va_G) (cs : Nat → ClassId) (ad : Nat → Nat) (h_pl : Nat) (h_pl_elements : Nat) (sz : Nat) (x1 : Int32) (x2 : Int32) (root_places : Nat → Option Nat) (court_shoeCount : Int32) (court_claimCount : Int32) (court_suitCount : Int32) (pl_holds : Int32) (pl_suit : Int32) (pl_size : Int32) (R : Int32 × Unit) (h : f_X11_taken h_pl  x1 x2 root_places court_shoeCount court_claimCount court_suitCount pl_holds pl_suit pl_size = some R) : Met l yX11_taken (z_X11_taken) rm_X11_taken (va_Pc [.ref (ad 0), .int x1, .int x2] (zPre D cs (wl_X11_taken ad cs h_pl h_pl_elements root_places court_shoeCount court_claimCount court_suitCount pl_holds pl_suit pl_size) sz)) (Q_X11_taken D cs ad h_pl h_pl_elements root_places court_shoeCount court_claimCount court_suitCount pl_holds pl_suit pl_size (va_A (wl_X11_taken ad cs h_pl h_pl_elements root_places court_shoeCount court_claimCount court_suitCount pl_holds pl_suit pl_size) sz) R) 0 0 (va_A (wl_X11_taken ad cs h_pl h_pl_elements root_places court_shoeCount court_claimCount court_suitCount pl_holds pl_suit pl_size) sz) := by
  refine Met.ofW (cc := cX11_taken) (maxL := 5) (ret := (some .int)) (by decide) rfl ?_
  intro p e s m args below meth c s₁ B hml hv
  obtain ⟨rfl, hsz, hP, hK, hD0⟩ := hv
  subst hsz
  have hD := hD0.self (sz := s.heap.size)
  have C0 : zC p s m _ meth c cX11_taken 5 (some .int) RX11 zW := ⟨B.exec, B.bytes, B.returns, hml, findClass_of_methodNamed B.named, fun w hw => atoms_spec (ws := z_X11_taken) B.pre w (List.mem_cons_of_mem _ hw), B.notSynchronized⟩
  have hA : ∀ q : Nat, s.heap.size ≤ q → va_A (wl_X11_taken ad cs h_pl h_pl_elements root_places court_shoeCount court_claimCount court_suitCount pl_holds pl_suit pl_size) s.heap.size q := fun q h => Or.inr h
  have hl := lv_entry ([.ref (ad 0), .int x1, .int x2]) (n := 5) (Nat.le_of_ble_eq_true rfl)
  rw [lg_entry_eq]
  generalize (lg_sl ([.ref (ad 0), .int x1, .int x2]) ++ List.replicate (5 - (lg_sl ([.ref (ad 0), .int x1, .int x2])).length) Slot.unset).toArray = ls at hl ⊢
  exact L_X11_taken_0 C0 hK hA   x1 x2  h s.heap [] ls hP hD va_S.rf hl
