theorem kw_825 : Cond.methodLink RX3 88 yX3_lawGives ∈ zW := zwI (i := 825) (by decide +kernel) (by decide +kernel)
theorem kw_826 : Cond.instanceMethod yX3_lawGives ∈ zW := zwI (i := 826) (by decide +kernel) (by decide +kernel)
theorem kw_827 : Cond.selects RX3 yX3_lawGives yX3_lawGives ∈ zW := zwI (i := 827) (by decide +kernel) (by decide +kernel)
theorem kw_828 : Cond.code yX3_lawGives cX3_lawGives 3 (some .int) ∈ zW := zwI (i := 828) (by decide +kernel) (by decide +kernel)
theorem dX3_landsHeeded_0 : decode cX3_landsHeeded 0 = .ok (.aload_n 0, 1) := by decide +kernel
theorem dX3_landsHeeded_1 : decode cX3_landsHeeded 1 = .ok (.iload_n 1, 1) := by decide +kernel
theorem dX3_landsHeeded_2 : decode cX3_landsHeeded 2 = .ok (.putfield 44, 3) := by decide +kernel
theorem dX3_landsHeeded_5 : decode cX3_landsHeeded 5 = .ok (.aload_n 0, 1) := by decide +kernel
theorem dX3_landsHeeded_6 : decode cX3_landsHeeded 6 = .ok (.getfield 9, 3) := by decide +kernel
theorem dX3_landsHeeded_9 : decode cX3_landsHeeded 9 = .ok (.iconst 0, 1) := by decide +kernel
theorem dX3_landsHeeded_10 : decode cX3_landsHeeded 10 = .ok (.invokestatic 64, 3) := by decide +kernel
theorem dX3_landsHeeded_13 : decode cX3_landsHeeded 13 = .ok (.aload_n 0, 1) := by decide +kernel
theorem dX3_landsHeeded_14 : decode cX3_landsHeeded 14 = .ok (.getfield 9, 3) := by decide +kernel
theorem dX3_landsHeeded_17 : decode cX3_landsHeeded 17 = .ok (.iconst 0, 1) := by decide +kernel
theorem dX3_landsHeeded_18 : decode cX3_landsHeeded 18 = .ok (.iconst 1, 1) := by decide +kernel
theorem dX3_landsHeeded_19 : decode cX3_landsHeeded 19 = .ok (.iastore, 1) := by decide +kernel
theorem dX3_landsHeeded_20 : decode cX3_landsHeeded 20 = .ok (.aload_n 0, 1) := by decide +kernel
theorem dX3_landsHeeded_21 : decode cX3_landsHeeded 21 = .ok (.getfield 9, 3) := by decide +kernel
theorem dX3_landsHeeded_24 : decode cX3_landsHeeded 24 = .ok (.iconst 1, 1) := by decide +kernel
theorem dX3_landsHeeded_25 : decode cX3_landsHeeded 25 = .ok (.iconst 1, 1) := by decide +kernel
theorem dX3_landsHeeded_26 : decode cX3_landsHeeded 26 = .ok (.iastore, 1) := by decide +kernel
theorem dX3_landsHeeded_27 : decode cX3_landsHeeded 27 = .ok (.aload_n 0, 1) := by decide +kernel
theorem dX3_landsHeeded_28 : decode cX3_landsHeeded 28 = .ok (.getfield 9, 3) := by decide +kernel
theorem dX3_landsHeeded_31 : decode cX3_landsHeeded 31 = .ok (.iconst 4, 1) := by decide +kernel
theorem dX3_landsHeeded_32 : decode cX3_landsHeeded 32 = .ok (.iload_n 1, 1) := by decide +kernel
theorem dX3_landsHeeded_33 : decode cX3_landsHeeded 33 = .ok (.iastore, 1) := by decide +kernel
theorem dX3_landsHeeded_34 : decode cX3_landsHeeded 34 = .ok (.iconst 0, 1) := by decide +kernel
theorem dX3_landsHeeded_35 : decode cX3_landsHeeded 35 = .ok (.istore_n 2, 1) := by decide +kernel
theorem dX3_landsHeeded_36 : decode cX3_landsHeeded 36 = .ok (.iconst 0, 1) := by decide +kernel
theorem dX3_landsHeeded_37 : decode cX3_landsHeeded 37 = .ok (.istore_n 3, 1) := by decide +kernel
theorem dX3_landsHeeded_38 : decode cX3_landsHeeded 38 = .ok (.iload_n 3, 1) := by decide +kernel
theorem dX3_landsHeeded_39 : decode cX3_landsHeeded 39 = .ok (.bipush 8, 2) := by decide +kernel
theorem dX3_landsHeeded_41 : decode cX3_landsHeeded 41 = .ok (.if_icmp .ge 34, 3) := by decide +kernel
theorem dX3_landsHeeded_44 : decode cX3_landsHeeded 44 = .ok (.aload_n 0, 1) := by decide +kernel
theorem dX3_landsHeeded_45 : decode cX3_landsHeeded 45 = .ok (.getfield 9, 3) := by decide +kernel
theorem dX3_landsHeeded_48 : decode cX3_landsHeeded 48 = .ok (.iconst 3, 1) := by decide +kernel
theorem dX3_landsHeeded_49 : decode cX3_landsHeeded 49 = .ok (.iload_n 3, 1) := by decide +kernel
theorem dX3_landsHeeded_50 : decode cX3_landsHeeded 50 = .ok (.iastore, 1) := by decide +kernel
theorem dX3_landsHeeded_51 : decode cX3_landsHeeded 51 = .ok (.iload_n 2, 1) := by decide +kernel
theorem dX3_landsHeeded_52 : decode cX3_landsHeeded 52 = .ok (.aload_n 0, 1) := by decide +kernel
theorem dX3_landsHeeded_53 : decode cX3_landsHeeded 53 = .ok (.iconst 3, 1) := by decide +kernel
theorem dX3_landsHeeded_54 : decode cX3_landsHeeded 54 = .ok (.invokevirtual 88, 3) := by decide +kernel
theorem dX3_landsHeeded_57 : decode cX3_landsHeeded 57 = .ok (.ifCond .eq 9, 3) := by decide +kernel
theorem dX3_landsHeeded_60 : decode cX3_landsHeeded 60 = .ok (.iconst 1, 1) := by decide +kernel
theorem dX3_landsHeeded_61 : decode cX3_landsHeeded 61 = .ok (.iload_n 3, 1) := by decide +kernel
theorem dX3_landsHeeded_62 : decode cX3_landsHeeded 62 = .ok (.ishl, 1) := by decide +kernel
theorem dX3_landsHeeded_63 : decode cX3_landsHeeded 63 = .ok (.goto 4, 3) := by decide +kernel
theorem dX3_landsHeeded_66 : decode cX3_landsHeeded 66 = .ok (.iconst 0, 1) := by decide +kernel
theorem dX3_landsHeeded_67 : decode cX3_landsHeeded 67 = .ok (.ior, 1) := by decide +kernel
theorem dX3_landsHeeded_68 : decode cX3_landsHeeded 68 = .ok (.istore_n 2, 1) := by decide +kernel
theorem dX3_landsHeeded_69 : decode cX3_landsHeeded 69 = .ok (.iinc 3 1, 3) := by decide +kernel
theorem dX3_landsHeeded_72 : decode cX3_landsHeeded 72 = .ok (.goto (-34), 3) := by decide +kernel
theorem dX3_landsHeeded_75 : decode cX3_landsHeeded 75 = .ok (.iload_n 2, 1) := by decide +kernel
theorem dX3_landsHeeded_76 : decode cX3_landsHeeded 76 = .ok (.ireturn, 1) := by decide +kernel
abbrev z_X3_landsHeeded : List Cond := .code yX3_landsHeeded cX3_landsHeeded 4 (some .int) :: zW
abbrev wl_X3_landsHeeded (ad : Nat → Nat) (cs : Nat → ClassId) (h_la : Nat) (h_la_code : Nat) (court_shoeCount : Int32) (court_claimCount : Int32) (court_suitCount : Int32) (court_laws : Nat → Option Nat) (inq_day : Int32) (inq_land : Int32) (inq_shoeLeftOut : Int32) (inq_names : Nat → Int32) (inq_stack : Nat → Int32) (la_code : Nat → Int32) (la_code_n : Nat) : va_W := [((ad 4), .inr (2, [.ref (ad 5), .ref (ad 6), .ref (ad 7), .ref (ad 8), .ref (ad 9), .ref (ad 10), .ref (ad 11), .ref (ad 12), .ref (ad 13), .ref (ad 14), .int court_shoeCount, .int court_claimCount, .int court_suitCount])), ((ad 14), .inl (cs 6, 32, .inr (.inr (.inr (.inr court_laws))))), ((ad 15), .inr (3, [.ref (ad 4), .ref (ad 16), .ref (ad 17), .ref (ad 18), .ref (ad 19), .ref (ad 20), .ref (ad 21), .ref (ad 22), .int inq_day, .int inq_land, .int inq_shoeLeftOut])), ((ad 16), .inl (cs 0, 11, .inl inq_names)), ((ad 17), .inl (cs 0, 36, .inl inq_stack)), (h_la, .inr (4, [.ref h_la_code])), (h_la_code, .inl (cs 0, la_code_n, .inl la_code))]
def Q_X3_landsHeeded (D : va_G) (cs : Nat → ClassId) (ad : Nat → Nat) (h_la : Nat) (h_la_code : Nat) (court_shoeCount : Int32) (court_claimCount : Int32) (court_suitCount : Int32) (court_laws : Nat → Option Nat) (inq_day : Int32) (inq_shoeLeftOut : Int32) (la_code : Nat → Int32) (la_code_n : Nat) (A : Nat → Prop) (R : Int32 × Int32 × (Nat → Int32) × (Nat → Int32)) : Array Value → State → Outcome → State → Prop :=
  va_Qi (fun (r : Int32) (u : Int32 × (Nat → Int32) × (Nat → Int32)) => (r, u) = R) (fun (u : Int32 × (Nat → Int32) × (Nat → Int32)) (t : State) => va_P D classes (wl_X3_landsHeeded ad cs h_la h_la_code court_shoeCount court_claimCount court_suitCount court_laws inq_day u.1 inq_shoeLeftOut u.2.1 u.2.2 la_code la_code_n) t.heap ∧ va_D A (wl_X3_landsHeeded ad cs h_la h_la_code court_shoeCount court_claimCount court_suitCount court_laws inq_day u.1 inq_shoeLeftOut u.2.1 u.2.2 la_code la_code_n)) A
abbrev rm_X3_landsHeeded : Room := { frames := 3, cells := 0, slots := 0, locals := 69 }
theorem g_X3_88 : GoodIn zW (wsV RX3 88 RX3 yX3_lawGives z_X3_lawGives) := zGV kw_825 kw_826 kw_827 kw_77 kw_828
def B_X3_landsHeeded_67 (h_la : Nat)  (g38 : Int32 → Int32 → Int32 → (Nat → Int32) → (Nat → Int32) → (Option (Int32 × Int32 × (Nat → Int32) × (Nat → Int32)))) (court_shoeCount : Int32) (court_claimCount : Int32) (court_suitCount : Int32) (court_laws : Nat → Option Nat) (inq_day : Int32) (inq_shoeLeftOut : Int32) (la_code : Nat → Int32) (la_code_n : Nat) (x3 : Int32) (s0 : Int32) (s1 : Int32) (inq_land : Int32) (inq_names : Nat → Int32) (inq_stack : Nat → Int32) : Option (Int32 × Int32 × (Nat → Int32) × (Nat → Int32)) :=
  (zk_let (s1 ||| s0) (fun v_12 => (zk_let (x3 + (1 : Int32)) (fun v_13 => (g38 v_12 v_13 inq_land inq_names inq_stack)))))
def B_X3_landsHeeded_38 (h_la : Nat)  (g38 : Int32 → Int32 → Int32 → (Nat → Int32) → (Nat → Int32) → (Option (Int32 × Int32 × (Nat → Int32) × (Nat → Int32)))) (court_shoeCount : Int32) (court_claimCount : Int32) (court_suitCount : Int32) (court_laws : Nat → Option Nat) (inq_day : Int32) (inq_shoeLeftOut : Int32) (la_code : Nat → Int32) (la_code_n : Nat) (x2 : Int32) (x3 : Int32) (inq_land : Int32) (inq_names : Nat → Int32) (inq_stack : Nat → Int32) : Option (Int32 × Int32 × (Nat → Int32) × (Nat → Int32)) :=
  (if (8 : Int32) ≤ x3 then (some (x2, inq_land, inq_names, inq_stack)) else (zk_let (upd inq_names (3 : Int32).toNatClampNeg x3) (fun f_7 => (zk_b2 (f_X3_lawGives h_la (3 : Int32) court_shoeCount court_claimCount court_suitCount court_laws inq_day inq_land inq_shoeLeftOut f_7 inq_stack la_code la_code_n) (fun r_8 u_9 => (if r_8 = 0 then (B_X3_landsHeeded_67 h_la g38 court_shoeCount court_claimCount court_suitCount court_laws inq_day inq_shoeLeftOut la_code la_code_n x3 (0 : Int32) x2 inq_land f_7 u_9) else (B_X3_landsHeeded_67 h_la g38 court_shoeCount court_claimCount court_suitCount court_laws inq_day inq_shoeLeftOut la_code la_code_n x3 ((1 : Int32) <<< (x3 &&& 31)) x2 inq_land f_7 u_9)))))))
def B_X3_landsHeeded_0 (h_la : Nat)  (g38 : Int32 → Int32 → Int32 → (Nat → Int32) → (Nat → Int32) → (Option (Int32 × Int32 × (Nat → Int32) × (Nat → Int32)))) (court_shoeCount : Int32) (court_claimCount : Int32) (court_suitCount : Int32) (court_laws : Nat → Option Nat) (inq_day : Int32) (inq_shoeLeftOut : Int32) (la_code : Nat → Int32) (la_code_n : Nat) (x1 : Int32) (inq_land : Int32) (inq_names : Nat → Int32) (inq_stack : Nat → Int32) : Option (Int32 × Int32 × (Nat → Int32) × (Nat → Int32)) :=
  (zk_b1 (f_J7_fill_53178 4000 (0 : Int32) inq_names 11) (fun u_1 => (zk_let (upd u_1 (0 : Int32).toNatClampNeg (1 : Int32)) (fun f_3 => (zk_let (upd f_3 (1 : Int32).toNatClampNeg (1 : Int32)) (fun f_4 => (zk_let (upd f_4 (4 : Int32).toNatClampNeg x1) (fun f_5 => (g38 (0 : Int32) (0 : Int32) x1 f_5 inq_stack)))))))))
def G_X3_landsHeeded (h_la : Nat)  (court_shoeCount : Int32) (court_claimCount : Int32) (court_suitCount : Int32) (court_laws : Nat → Option Nat) (inq_day : Int32) (inq_shoeLeftOut : Int32) (la_code : Nat → Int32) (la_code_n : Nat) (n : Nat) : (Int32 → Int32 → Int32 → (Nat → Int32) → (Nat → Int32) → (Option (Int32 × Int32 × (Nat → Int32) × (Nat → Int32)))) :=
  Nat.rec (motive := fun _ => (Int32 → Int32 → Int32 → (Nat → Int32) → (Nat → Int32) → (Option (Int32 × Int32 × (Nat → Int32) × (Nat → Int32))))) ((fun _ _ _ _ _ => none)) (fun _ ih => (B_X3_landsHeeded_38 h_la  ih court_shoeCount court_claimCount court_suitCount court_laws inq_day inq_shoeLeftOut la_code la_code_n)) n
def f_X3_landsHeeded (h_la : Nat)  (n : Nat) (x1 : Int32) (court_shoeCount : Int32) (court_claimCount : Int32) (court_suitCount : Int32) (court_laws : Nat → Option Nat) (inq_day : Int32) (inq_land : Int32) (inq_shoeLeftOut : Int32) (inq_names : Nat → Int32) (inq_stack : Nat → Int32) (la_code : Nat → Int32) (la_code_n : Nat) : Option (Int32 × Int32 × (Nat → Int32) × (Nat → Int32)) := B_X3_landsHeeded_0 h_la  ((G_X3_landsHeeded h_la  court_shoeCount court_claimCount court_suitCount court_laws inq_day inq_shoeLeftOut la_code la_code_n n)) court_shoeCount court_claimCount court_suitCount court_laws inq_day inq_shoeLeftOut la_code la_code_n x1 inq_land inq_names inq_stack
set_option maxHeartbeats 4000000 in
set_option maxRecDepth 100000 in
theorem L_X3_landsHeeded_67 {p : Program} {l : Launch} {e : Env} {s : State} {m : MethodId} {args : Array Value} {below : List Frame} {meth : Method} {c : Code} {A : Nat → Prop} {D : va_G} {cs : Nat → ClassId} {ad : Nat → Nat} {h_la : Nat} {h_la_code : Nat} {court_shoeCount : Int32} {court_claimCount : Int32} {court_suitCount : Int32} {court_laws : Nat → Option Nat} {inq_day : Int32} {inq_shoeLeftOut : Int32} {la_code : Nat → Int32} {la_code_n : Nat} {R : Int32 × Int32 × (Nat → Int32) × (Nat → Int32)} {g38 : Int32 → Int32 → Int32 → (Nat → Int32) → (Nat → Int32) → (Option (Int32 × Int32 × (Nat → Int32) × (Nat → Int32)))} (C0 : zC p s m args meth c cX3_landsHeeded 4 (some .int) RX3 zW) (hK : va_K D classes (zT cs) s) (hA : ∀ q : Nat, s.heap.size ≤ q → A q) (ih38 : ∀ (x2 : Int32) (x3 : Int32) (inq_land : Int32) (inq_names : Nat → Int32) (inq_stack : Nat → Int32) (h : g38 x2 x3 inq_land inq_names inq_stack = some R) (H : Heap) (locs : List Loc) (ls : Array Slot) (hP : va_P D classes (wl_X3_landsHeeded ad cs h_la h_la_code court_shoeCount court_claimCount court_suitCount court_laws inq_day inq_land inq_shoeLeftOut inq_names inq_stack la_code la_code_n) H) (hD : va_D A (wl_X3_landsHeeded ad cs h_la h_la_code court_shoeCount court_claimCount court_suitCount court_laws inq_day inq_land inq_shoeLeftOut inq_names inq_stack la_code la_code_n)) (hS : va_S A s.heap H locs) (hl : lv_has ls 4 [(0, .ref (ad 15)), (2, .int x2), (3, .int x3)]), W p l e rm_X3_landsHeeded s m args below meth c H locs 0 0 (MQ below (Q_X3_landsHeeded D cs ad h_la h_la_code court_shoeCount court_claimCount court_suitCount court_laws inq_day inq_shoeLeftOut la_code la_code_n A R) args s 0 0 A) (F0 m 38 ls [])) (x3 : Int32) (s0 : Int32) (s1 : Int32) (inq_land : Int32) (inq_names : Nat → Int32) (inq_stack : Nat → Int32) (h : B_X3_landsHeeded_67 h_la g38 court_shoeCount court_claimCount court_suitCount court_laws inq_day inq_shoeLeftOut la_code la_code_n x3 s0 s1 inq_land inq_names inq_stack = some R) (H : Heap) (locs : List Loc) (ls : Array Slot) (hP : va_P D classes (wl_X3_landsHeeded ad cs h_la h_la_code court_shoeCount court_claimCount court_suitCount court_laws inq_day inq_land inq_shoeLeftOut inq_names inq_stack la_code la_code_n) H) (hD : va_D A (wl_X3_landsHeeded ad cs h_la h_la_code court_shoeCount court_claimCount court_suitCount court_laws inq_day inq_land inq_shoeLeftOut inq_names inq_stack la_code la_code_n)) (hS : va_S A s.heap H locs) (hl : lv_has ls 4 [(0, .ref (ad 15)), (3, .int x3)]) : W p l e rm_X3_landsHeeded s m args below meth c H locs 0 0 (MQ below (Q_X3_landsHeeded D cs ad h_la h_la_code court_shoeCount court_claimCount court_suitCount court_laws inq_day inq_shoeLeftOut la_code la_code_n A R) args s 0 0 A) (F0 m 67 ls [.int s0, .int s1]) := by
  obtain ⟨hx, hb, hr, hml, hown, ht, hlocks⟩ := id C0
  refine lv_ior hx hb dX3_landsHeeded_67 ?_
  obtain ⟨v_12, ev_12, h⟩ := zk_lt h
  refine W.eq (g2 := F0 m 68 ls [.int v_12]) (by rw [ev_12]) ?_
  refine lv_istore_n (lv' := [(2, .int v_12), (0, .ref (ad 15)), (3, .int x3)]) hx hb dX3_landsHeeded_68 rfl hl (by decide) rfl (fun ls hl => ?_)
  obtain ⟨v_13, ev_13, h⟩ := zk_lt h
  refine lv_iinc (v := v_13) (lv' := [(3, .int v_13), (2, .int v_12), (0, .ref (ad 15))]) hx hb dX3_landsHeeded_69 hl (k := 2) rfl (by rw [ev_13]; rfl) (by decide) rfl (fun ls hl => ?_)
  refine lv_goto (tgt := 38) hx hb dX3_landsHeeded_72 (by decide) ?_
  exact ih38 v_12 v_13 inq_land inq_names inq_stack h H locs ls hP hD hS (lv_sub hl [2, 1, 0] rfl)
set_option maxHeartbeats 4000000 in
set_option maxRecDepth 100000 in
theorem L_X3_landsHeeded_38 {p : Program} {l : Launch} {e : Env} {s : State} {m : MethodId} {args : Array Value} {below : List Frame} {meth : Method} {c : Code} {A : Nat → Prop} {D : va_G} {cs : Nat → ClassId} {ad : Nat → Nat} {h_la : Nat} {h_la_code : Nat} {court_shoeCount : Int32} {court_claimCount : Int32} {court_suitCount : Int32} {court_laws : Nat → Option Nat} {inq_day : Int32} {inq_shoeLeftOut : Int32} {la_code : Nat → Int32} {la_code_n : Nat} {R : Int32 × Int32 × (Nat → Int32) × (Nat → Int32)} {g38 : Int32 → Int32 → Int32 → (Nat → Int32) → (Nat → Int32) → (Option (Int32 × Int32 × (Nat → Int32) × (Nat → Int32)))} (C0 : zC p s m args meth c cX3_landsHeeded 4 (some .int) RX3 zW) (hK : va_K D classes (zT cs) s) (hA : ∀ q : Nat, s.heap.size ≤ q → A q) (ih38 : ∀ (x2 : Int32) (x3 : Int32) (inq_land : Int32) (inq_names : Nat → Int32) (inq_stack : Nat → Int32) (h : g38 x2 x3 inq_land inq_names inq_stack = some R) (H : Heap) (locs : List Loc) (ls : Array Slot) (hP : va_P D classes (wl_X3_landsHeeded ad cs h_la h_la_code court_shoeCount court_claimCount court_suitCount court_laws inq_day inq_land inq_shoeLeftOut inq_names inq_stack la_code la_code_n) H) (hD : va_D A (wl_X3_landsHeeded ad cs h_la h_la_code court_shoeCount court_claimCount court_suitCount court_laws inq_day inq_land inq_shoeLeftOut inq_names inq_stack la_code la_code_n)) (hS : va_S A s.heap H locs) (hl : lv_has ls 4 [(0, .ref (ad 15)), (2, .int x2), (3, .int x3)]), W p l e rm_X3_landsHeeded s m args below meth c H locs 0 0 (MQ below (Q_X3_landsHeeded D cs ad h_la h_la_code court_shoeCount court_claimCount court_suitCount court_laws inq_day inq_shoeLeftOut la_code la_code_n A R) args s 0 0 A) (F0 m 38 ls [])) (x2 : Int32) (x3 : Int32) (inq_land : Int32) (inq_names : Nat → Int32) (inq_stack : Nat → Int32) (h : B_X3_landsHeeded_38 h_la g38 court_shoeCount court_claimCount court_suitCount court_laws inq_day inq_shoeLeftOut la_code la_code_n x2 x3 inq_land inq_names inq_stack = some R) (H : Heap) (locs : List Loc) (ls : Array Slot) (hP : va_P D classes (wl_X3_landsHeeded ad cs h_la h_la_code court_shoeCount court_claimCount court_suitCount court_laws inq_day inq_land inq_shoeLeftOut inq_names inq_stack la_code la_code_n) H) (hD : va_D A (wl_X3_landsHeeded ad cs h_la h_la_code court_shoeCount court_claimCount court_suitCount court_laws inq_day inq_land inq_shoeLeftOut inq_names inq_stack la_code la_code_n)) (hS : va_S A s.heap H locs) (hl : lv_has ls 4 [(0, .ref (ad 15)), (2, .int x2), (3, .int x3)]) : W p l e rm_X3_landsHeeded s m args below meth c H locs 0 0 (MQ below (Q_X3_landsHeeded D cs ad h_la h_la_code court_shoeCount court_claimCount court_suitCount court_laws inq_day inq_shoeLeftOut la_code la_code_n A R) args s 0 0 A) (F0 m 38 ls []) := by
  obtain ⟨hx, hb, hr, hml, hown, ht, hlocks⟩ := id C0
  refine lv_iload_n hx hb dX3_landsHeeded_38 rfl (lv_at hl 2 rfl) ?_
  refine lv_bipush (v := (8 : Int32)) hx hb dX3_landsHeeded_39 (by decide) ?_
  refine lv_icmp_ge (tgt := 75) hx hb dX3_landsHeeded_41 (by decide) (fun c_6 => ?_) (fun c_6 => ?_)
  · have h := zk_t c_6 h
    refine lv_iload_n hx hb dX3_landsHeeded_75 rfl (lv_at hl 1 rfl) ?_
    exact W.iret (v := x2) hx hb hr (fun t ht2 hW => ⟨⟨x2, (inq_land, inq_names, inq_stack), rfl, Option.some.inj h, by rw [ht2]; exact hP, hD⟩, hS.F ht2⟩) hS.2.2 dX3_landsHeeded_76 hlocks
  · have h := zk_f c_6 h
    refine lv_aload_n hx hb dX3_landsHeeded_44 rfl (lv_at hl 0 rfl) ?_
    refine va_get (D := D) (ci := 3) (v := .ref (ad 16)) (C := RX3) (T := TX3) (N := 11) hx hb ht iX3 hown hK hP 2 rfl rfl 1 (by decide) (ht _ kw_193) (fun _ h9 => h9) rfl dX3_landsHeeded_45 ?_
    refine lv_iconst (v := (3 : Int32)) hx hb dX3_landsHeeded_48 (by decide) ?_
    refine lv_iload_n hx hb dX3_landsHeeded_49 rfl (lv_at hl 2 rfl) ?_
    obtain ⟨f_7, ef_7, h⟩ := zk_lt h
    refine va_iast hx hb hK hP hD hS 3 0 rfl rfl (by unfold vp_in; decide) dX3_landsHeeded_50 (fun H locs hP hD hS => ?_)
    have hP : va_P D classes (wl_X3_landsHeeded ad cs h_la h_la_code court_shoeCount court_claimCount court_suitCount court_laws inq_day inq_land inq_shoeLeftOut f_7 inq_stack la_code la_code_n) H := by rw [ef_7]; exact hP
    have hD : va_D A (wl_X3_landsHeeded ad cs h_la h_la_code court_shoeCount court_claimCount court_suitCount court_laws inq_day inq_land inq_shoeLeftOut f_7 inq_stack la_code la_code_n) := by rw [ef_7]; exact hD
    refine lv_iload_n hx hb dX3_landsHeeded_51 rfl (lv_at hl 1 rfl) ?_
    refine lv_aload_n hx hb dX3_landsHeeded_52 rfl (lv_at hl 0 rfl) ?_
    refine lv_iconst (v := (3 : Int32)) hx hb dX3_landsHeeded_53 (by decide) ?_
    obtain ⟨r_8, u_9, hc_10, h⟩ := zk_o2 h
    refine zk_vi (post := (fun r u => (r, u) = (r_8, u_9))) (w1 := fun u => (wl_X3_lawGives ad cs h_la h_la_code court_shoeCount court_claimCount court_suitCount court_laws inq_day inq_land inq_shoeLeftOut f_7 u la_code la_code_n)) (As := [.int (3 : Int32)]) (rest := [.int x2]) (c_X3_lawGives l D cs ad h_la h_la_code H.size (3 : Int32) court_shoeCount court_claimCount court_suitCount court_laws inq_day inq_land inq_shoeLeftOut f_7 inq_stack la_code la_code_n _ hc_10) ⟨hx, hb, hml, hown, ht⟩ (cwV 1 ht g_X3_88 rfl rfl rfl (by decide +kernel) ⟨Nat.le_of_ble_eq_true rfl, Nat.le_of_ble_eq_true rfl⟩) (va_recv hK hP (ci := 3) (q0 := 2) rfl rfl) hP hD hS hK hA [0, 1, 2, 3, 4, 5, 6] [] rfl rfl rfl rfl (by decide) rfl hl.1 (Nat.le_of_ble_eq_true rfl) dX3_landsHeeded_54 ⟨Nat.zero_le _, Nat.zero_le _⟩ (fun r u H locs hq hP hD hS => ?_)
    cases hq
    have hP : va_P D classes (wl_X3_landsHeeded ad cs h_la h_la_code court_shoeCount court_claimCount court_suitCount court_laws inq_day inq_land inq_shoeLeftOut f_7 u_9 la_code la_code_n) H := hP.sub [0, 1, 2, 3, 4, 5, 6] rfl
    have hD : va_D A (wl_X3_landsHeeded ad cs h_la h_la_code court_shoeCount court_claimCount court_suitCount court_laws inq_day inq_land inq_shoeLeftOut f_7 u_9 la_code la_code_n) := hD.sub [0, 1, 2, 3, 4, 5, 6] rfl rfl
    refine lv_if_eq (tgt := 66) hx hb dX3_landsHeeded_57 (by decide) (fun c_11 => ?_) (fun c_11 => ?_)
    · have h := zk_t c_11 h
      refine lv_iconst (v := (0 : Int32)) hx hb dX3_landsHeeded_66 (by decide) ?_
      exact L_X3_landsHeeded_67 C0 hK hA  ih38 x3 (0 : Int32) x2 inq_land f_7 u_9 h H locs ls hP hD hS (lv_sub hl [0, 2] rfl)
    · have h := zk_f c_11 h
      refine lv_iconst (v := (1 : Int32)) hx hb dX3_landsHeeded_60 (by decide) ?_
      refine lv_iload_n hx hb dX3_landsHeeded_61 rfl (lv_at hl 2 rfl) ?_
      refine lv_ishl hx hb dX3_landsHeeded_62 ?_
      refine lv_goto (tgt := 67) hx hb dX3_landsHeeded_63 (by decide) ?_
      exact L_X3_landsHeeded_67 C0 hK hA  ih38 x3 ((1 : Int32) <<< (x3 &&& 31)) x2 inq_land f_7 u_9 h H locs ls hP hD hS (lv_sub hl [0, 2] rfl)
set_option maxHeartbeats 4000000 in
set_option maxRecDepth 100000 in
theorem L_X3_landsHeeded_0 {p : Program} {l : Launch} {e : Env} {s : State} {m : MethodId} {args : Array Value} {below : List Frame} {meth : Method} {c : Code} {A : Nat → Prop} {D : va_G} {cs : Nat → ClassId} {ad : Nat → Nat} {h_la : Nat} {h_la_code : Nat} {court_shoeCount : Int32} {court_claimCount : Int32} {court_suitCount : Int32} {court_laws : Nat → Option Nat} {inq_day : Int32} {inq_shoeLeftOut : Int32} {la_code : Nat → Int32} {la_code_n : Nat} {R : Int32 × Int32 × (Nat → Int32) × (Nat → Int32)} {g38 : Int32 → Int32 → Int32 → (Nat → Int32) → (Nat → Int32) → (Option (Int32 × Int32 × (Nat → Int32) × (Nat → Int32)))} (C0 : zC p s m args meth c cX3_landsHeeded 4 (some .int) RX3 zW) (hK : va_K D classes (zT cs) s) (hA : ∀ q : Nat, s.heap.size ≤ q → A q) (ih38 : ∀ (x2 : Int32) (x3 : Int32) (inq_land : Int32) (inq_names : Nat → Int32) (inq_stack : Nat → Int32) (h : g38 x2 x3 inq_land inq_names inq_stack = some R) (H : Heap) (locs : List Loc) (ls : Array Slot) (hP : va_P D classes (wl_X3_landsHeeded ad cs h_la h_la_code court_shoeCount court_claimCount court_suitCount court_laws inq_day inq_land inq_shoeLeftOut inq_names inq_stack la_code la_code_n) H) (hD : va_D A (wl_X3_landsHeeded ad cs h_la h_la_code court_shoeCount court_claimCount court_suitCount court_laws inq_day inq_land inq_shoeLeftOut inq_names inq_stack la_code la_code_n)) (hS : va_S A s.heap H locs) (hl : lv_has ls 4 [(0, .ref (ad 15)), (2, .int x2), (3, .int x3)]), W p l e rm_X3_landsHeeded s m args below meth c H locs 0 0 (MQ below (Q_X3_landsHeeded D cs ad h_la h_la_code court_shoeCount court_claimCount court_suitCount court_laws inq_day inq_shoeLeftOut la_code la_code_n A R) args s 0 0 A) (F0 m 38 ls [])) (x1 : Int32) (inq_land : Int32) (inq_names : Nat → Int32) (inq_stack : Nat → Int32) (h : B_X3_landsHeeded_0 h_la g38 court_shoeCount court_claimCount court_suitCount court_laws inq_day inq_shoeLeftOut la_code la_code_n x1 inq_land inq_names inq_stack = some R) (H : Heap) (locs : List Loc) (ls : Array Slot) (hP : va_P D classes (wl_X3_landsHeeded ad cs h_la h_la_code court_shoeCount court_claimCount court_suitCount court_laws inq_day inq_land inq_shoeLeftOut inq_names inq_stack la_code la_code_n) H) (hD : va_D A (wl_X3_landsHeeded ad cs h_la h_la_code court_shoeCount court_claimCount court_suitCount court_laws inq_day inq_land inq_shoeLeftOut inq_names inq_stack la_code la_code_n)) (hS : va_S A s.heap H locs) (hl : lv_has ls 4 [(0, .ref (ad 15)), (1, .int x1)]) : W p l e rm_X3_landsHeeded s m args below meth c H locs 0 0 (MQ below (Q_X3_landsHeeded D cs ad h_la h_la_code court_shoeCount court_claimCount court_suitCount court_laws inq_day inq_shoeLeftOut la_code la_code_n A R) args s 0 0 A) (F0 m 0 ls []) := by
  obtain ⟨hx, hb, hr, hml, hown, ht, hlocks⟩ := id C0
  refine lv_aload_n hx hb dX3_landsHeeded_0 rfl (lv_at hl 0 rfl) ?_
  refine lv_iload_n hx hb dX3_landsHeeded_1 rfl (lv_at hl 1 rfl) ?_
  refine va_put (D := D) (ci := 3) (v := .int x1) (ty := .int) (C := RX3) (T := TX3) (N := 11) hx hb ht iX3 tyX3 tyX3_ok nmX3 hown hK hP hD hS 2 rfl rfl 9 (by decide) (ht _ kw_202) (fun _ h9 => h9) rfl (by decide +kernel) rfl rfl (Nat.le_of_ble_eq_true rfl) dX3_landsHeeded_2 (fun H locs hP hD hS => ?_)
  have hP : va_P D classes (wl_X3_landsHeeded ad cs h_la h_la_code court_shoeCount court_claimCount court_suitCount court_laws inq_day x1 inq_shoeLeftOut inq_names inq_stack la_code la_code_n) H := hP
  have hD : va_D A (wl_X3_landsHeeded ad cs h_la h_la_code court_shoeCount court_claimCount court_suitCount court_laws inq_day x1 inq_shoeLeftOut inq_names inq_stack la_code la_code_n) := hD
  refine lv_aload_n hx hb dX3_landsHeeded_5 rfl (lv_at hl 0 rfl) ?_
  refine va_get (D := D) (ci := 3) (v := .ref (ad 16)) (C := RX3) (T := TX3) (N := 11) hx hb ht iX3 hown hK hP 2 rfl rfl 1 (by decide) (ht _ kw_193) (fun _ h9 => h9) rfl dX3_landsHeeded_6 ?_
  refine lv_iconst (v := (0 : Int32)) hx hb dX3_landsHeeded_9 (by decide) ?_
  obtain ⟨u_1, hc_2, h⟩ := zk_o1 h
  refine zk_sv (post := (fun u => u = u_1)) (w1 := fun u => (wl_J7_fill_53178 ad cs (ad 16) u 11)) (As := [.ref (ad 16), .int (0 : Int32)]) (rest := []) (c_J7_fill_53178 l D cs ad (ad 16) H.size 4000 (0 : Int32) inq_names 11 _ hc_2) ⟨hx, hb, hml, hown, ht⟩ (va_cwS 2 ht g_X3_64 rfl rfl rfl (by decide +kernel) ⟨Nat.le_of_ble_eq_true rfl, Nat.le_of_ble_eq_true rfl⟩) hP hD hS hK hA [3] [0, 1, 2, 4, 5, 6] rfl rfl rfl rfl (by decide) rfl hl.1 (Nat.le_of_ble_eq_true rfl) dX3_landsHeeded_10 ⟨Nat.zero_le _, Nat.zero_le _⟩ (fun u H locs hq hP hD hS => ?_)
  cases hq
  have hP : va_P D classes (wl_X3_landsHeeded ad cs h_la h_la_code court_shoeCount court_claimCount court_suitCount court_laws inq_day x1 inq_shoeLeftOut u_1 inq_stack la_code la_code_n) H := hP.sub [0, 1, 2, 6, 3, 4, 5] rfl
  have hD : va_D A (wl_X3_landsHeeded ad cs h_la h_la_code court_shoeCount court_claimCount court_suitCount court_laws inq_day x1 inq_shoeLeftOut u_1 inq_stack la_code la_code_n) := hD.sub [0, 1, 2, 6, 3, 4, 5] rfl rfl
  refine lv_aload_n hx hb dX3_landsHeeded_13 rfl (lv_at hl 0 rfl) ?_
  refine va_get (D := D) (ci := 3) (v := .ref (ad 16)) (C := RX3) (T := TX3) (N := 11) hx hb ht iX3 hown hK hP 2 rfl rfl 1 (by decide) (ht _ kw_193) (fun _ h9 => h9) rfl dX3_landsHeeded_14 ?_
  refine lv_iconst (v := (0 : Int32)) hx hb dX3_landsHeeded_17 (by decide) ?_
  refine lv_iconst (v := (1 : Int32)) hx hb dX3_landsHeeded_18 (by decide) ?_
  obtain ⟨f_3, ef_3, h⟩ := zk_lt h
  refine va_iast hx hb hK hP hD hS 3 0 rfl rfl (by unfold vp_in; decide) dX3_landsHeeded_19 (fun H locs hP hD hS => ?_)
  have hP : va_P D classes (wl_X3_landsHeeded ad cs h_la h_la_code court_shoeCount court_claimCount court_suitCount court_laws inq_day x1 inq_shoeLeftOut f_3 inq_stack la_code la_code_n) H := by rw [ef_3]; exact hP
  have hD : va_D A (wl_X3_landsHeeded ad cs h_la h_la_code court_shoeCount court_claimCount court_suitCount court_laws inq_day x1 inq_shoeLeftOut f_3 inq_stack la_code la_code_n) := by rw [ef_3]; exact hD
  refine lv_aload_n hx hb dX3_landsHeeded_20 rfl (lv_at hl 0 rfl) ?_
  refine va_get (D := D) (ci := 3) (v := .ref (ad 16)) (C := RX3) (T := TX3) (N := 11) hx hb ht iX3 hown hK hP 2 rfl rfl 1 (by decide) (ht _ kw_193) (fun _ h9 => h9) rfl dX3_landsHeeded_21 ?_
  refine lv_iconst (v := (1 : Int32)) hx hb dX3_landsHeeded_24 (by decide) ?_
  refine lv_iconst (v := (1 : Int32)) hx hb dX3_landsHeeded_25 (by decide) ?_
  obtain ⟨f_4, ef_4, h⟩ := zk_lt h
  refine va_iast hx hb hK hP hD hS 3 0 rfl rfl (by unfold vp_in; decide) dX3_landsHeeded_26 (fun H locs hP hD hS => ?_)
  have hP : va_P D classes (wl_X3_landsHeeded ad cs h_la h_la_code court_shoeCount court_claimCount court_suitCount court_laws inq_day x1 inq_shoeLeftOut f_4 inq_stack la_code la_code_n) H := by rw [ef_4]; exact hP
  have hD : va_D A (wl_X3_landsHeeded ad cs h_la h_la_code court_shoeCount court_claimCount court_suitCount court_laws inq_day x1 inq_shoeLeftOut f_4 inq_stack la_code la_code_n) := by rw [ef_4]; exact hD
  refine lv_aload_n hx hb dX3_landsHeeded_27 rfl (lv_at hl 0 rfl) ?_
  refine va_get (D := D) (ci := 3) (v := .ref (ad 16)) (C := RX3) (T := TX3) (N := 11) hx hb ht iX3 hown hK hP 2 rfl rfl 1 (by decide) (ht _ kw_193) (fun _ h9 => h9) rfl dX3_landsHeeded_28 ?_
  refine lv_iconst (v := (4 : Int32)) hx hb dX3_landsHeeded_31 (by decide) ?_
  refine lv_iload_n hx hb dX3_landsHeeded_32 rfl (lv_at hl 1 rfl) ?_
  obtain ⟨f_5, ef_5, h⟩ := zk_lt h
  refine va_iast hx hb hK hP hD hS 3 0 rfl rfl (by unfold vp_in; decide) dX3_landsHeeded_33 (fun H locs hP hD hS => ?_)
  have hP : va_P D classes (wl_X3_landsHeeded ad cs h_la h_la_code court_shoeCount court_claimCount court_suitCount court_laws inq_day x1 inq_shoeLeftOut f_5 inq_stack la_code la_code_n) H := by rw [ef_5]; exact hP
  have hD : va_D A (wl_X3_landsHeeded ad cs h_la h_la_code court_shoeCount court_claimCount court_suitCount court_laws inq_day x1 inq_shoeLeftOut f_5 inq_stack la_code la_code_n) := by rw [ef_5]; exact hD
  refine lv_iconst (v := (0 : Int32)) hx hb dX3_landsHeeded_34 (by decide) ?_
  refine lv_istore_n (lv' := [(2, .int (0 : Int32)), (0, .ref (ad 15)), (1, .int x1)]) hx hb dX3_landsHeeded_35 rfl hl (by decide) rfl (fun ls hl => ?_)
  refine lv_iconst (v := (0 : Int32)) hx hb dX3_landsHeeded_36 (by decide) ?_
  refine lv_istore_n (lv' := [(3, .int (0 : Int32)), (2, .int (0 : Int32)), (0, .ref (ad 15)), (1, .int x1)]) hx hb dX3_landsHeeded_37 rfl hl (by decide) rfl (fun ls hl => ?_)
  exact ih38 (0 : Int32) (0 : Int32) x1 f_5 inq_stack h H locs ls hP hD hS (lv_sub hl [2, 1, 0] rfl)
theorem LG_X3_landsHeeded {p : Program} {l : Launch} {e : Env} {s : State} {m : MethodId} {args : Array Value} {below : List Frame} {meth : Method} {c : Code} {A : Nat → Prop} {D : va_G} {cs : Nat → ClassId} {ad : Nat → Nat} {h_la : Nat} {h_la_code : Nat} {court_shoeCount : Int32} {court_claimCount : Int32} {court_suitCount : Int32} {court_laws : Nat → Option Nat} {inq_day : Int32} {inq_shoeLeftOut : Int32} {la_code : Nat → Int32} {la_code_n : Nat} {R : Int32 × Int32 × (Nat → Int32) × (Nat → Int32)} (C0 : zC p s m args meth c cX3_landsHeeded 4 (some .int) RX3 zW) (hK : va_K D classes (zT cs) s) (hA : ∀ q : Nat, s.heap.size ≤ q → A q) : ∀ n : Nat, (∀ (x2 : Int32) (x3 : Int32) (inq_land : Int32) (inq_names : Nat → Int32) (inq_stack : Nat → Int32) (h : (G_X3_landsHeeded h_la  court_shoeCount court_claimCount court_suitCount court_laws inq_day inq_shoeLeftOut la_code la_code_n n) x2 x3 inq_land inq_names inq_stack = some R) (H : Heap) (locs : List Loc) (ls : Array Slot) (hP : va_P D classes (wl_X3_landsHeeded ad cs h_la h_la_code court_shoeCount court_claimCount court_suitCount court_laws inq_day inq_land inq_shoeLeftOut inq_names inq_stack la_code la_code_n) H) (hD : va_D A (wl_X3_landsHeeded ad cs h_la h_la_code court_shoeCount court_claimCount court_suitCount court_laws inq_day inq_land inq_shoeLeftOut inq_names inq_stack la_code la_code_n)) (hS : va_S A s.heap H locs) (hl : lv_has ls 4 [(0, .ref (ad 15)), (2, .int x2), (3, .int x3)]), W p l e rm_X3_landsHeeded s m args below meth c H locs 0 0 (MQ below (Q_X3_landsHeeded D cs ad h_la h_la_code court_shoeCount court_claimCount court_suitCount court_laws inq_day inq_shoeLeftOut la_code la_code_n A R) args s 0 0 A) (F0 m 38 ls [])) := by
  intro n
  induction n with
  | zero =>
    refine ?_ <;> (intros; rename_i h _ _ _ _ _ _ _; cases h)
  | succ n ih =>
    exact L_X3_landsHeeded_38 C0 hK hA  ih
set_option maxHeartbeats 4000000 in
set_option maxRecDepth 100000 in
theorem c_X3_landsHeeded (l : Launch) (D : va_G) (cs : Nat → ClassId) (ad : Nat → Nat) (h_la : Nat) (h_la_code : Nat) (sz : Nat) (n : Nat) (x1 : Int32) (court_shoeCount : Int32) (court_claimCount : Int32) (court_suitCount : Int32) (court_laws : Nat → Option Nat) (inq_day : Int32) (inq_land : Int32) (inq_shoeLeftOut : Int32) (inq_names : Nat → Int32) (inq_stack : Nat → Int32) (la_code : Nat → Int32) (la_code_n : Nat) (R : Int32 × Int32 × (Nat → Int32) × (Nat → Int32)) (h : f_X3_landsHeeded h_la  n x1 court_shoeCount court_claimCount court_suitCount court_laws inq_day inq_land inq_shoeLeftOut inq_names inq_stack la_code la_code_n = some R) : Met l yX3_landsHeeded (z_X3_landsHeeded) rm_X3_landsHeeded (va_Pc [.ref (ad 15), .int x1] (zPre D cs (wl_X3_landsHeeded ad cs h_la h_la_code court_shoeCount court_claimCount court_suitCount court_laws inq_day inq_land inq_shoeLeftOut inq_names inq_stack la_code la_code_n) sz)) (Q_X3_landsHeeded D cs ad h_la h_la_code court_shoeCount court_claimCount court_suitCount court_laws inq_day inq_shoeLeftOut la_code la_code_n (va_A (wl_X3_landsHeeded ad cs h_la h_la_code court_shoeCount court_claimCount court_suitCount court_laws inq_day inq_land inq_shoeLeftOut inq_names inq_stack la_code la_code_n) sz) R) 0 0 (va_A (wl_X3_landsHeeded ad cs h_la h_la_code court_shoeCount court_claimCount court_suitCount court_laws inq_day inq_land inq_shoeLeftOut inq_names inq_stack la_code la_code_n) sz) := by
  refine Met.ofW (cc := cX3_landsHeeded) (maxL := 4) (ret := (some .int)) (by decide) rfl ?_
  intro p e s m args below meth c s₁ B hml hv
  obtain ⟨rfl, hsz, hP, hK, hD0⟩ := hv
  subst hsz
  have hD := hD0.self (sz := s.heap.size)
  have C0 : zC p s m _ meth c cX3_landsHeeded 4 (some .int) RX3 zW := ⟨B.exec, B.bytes, B.returns, hml, findClass_of_methodNamed B.named, fun w hw => atoms_spec (ws := z_X3_landsHeeded) B.pre w (List.mem_cons_of_mem _ hw), B.notSynchronized⟩
  have hA : ∀ q : Nat, s.heap.size ≤ q → va_A (wl_X3_landsHeeded ad cs h_la h_la_code court_shoeCount court_claimCount court_suitCount court_laws inq_day inq_land inq_shoeLeftOut inq_names inq_stack la_code la_code_n) s.heap.size q := fun q h => Or.inr h
  have hl := lv_entry ([.ref (ad 15), .int x1]) (n := 4) (Nat.le_of_ble_eq_true rfl)
  rw [lg_entry_eq]
  generalize (lg_sl ([.ref (ad 15), .int x1]) ++ List.replicate (4 - (lg_sl ([.ref (ad 15), .int x1])).length) Slot.unset).toArray = ls at hl ⊢
  exact L_X3_landsHeeded_0 C0 hK hA  ((LG_X3_landsHeeded C0 hK hA  n)) x1 inq_land inq_names inq_stack h s.heap [] ls hP hD va_S.rf hl
theorem kw_144 : Cond.fieldLink RX3 169 "AlreadyJudged$Court" "suits" "[LAlreadyJudged$Suit;" ∈ zW := zwI (i := 144) (by decide +kernel) (by decide +kernel)
theorem kw_156 : Cond.fieldLink RX3 166 "AlreadyJudged$Court" "suitCount" "I" ∈ zW := zwI (i := 156) (by decide +kernel) (by decide +kernel)
theorem dX3_firstCloser_0 : decode cX3_firstCloser 0 = .ok (.iconst 0, 1) := by decide +kernel
theorem dX3_firstCloser_1 : decode cX3_firstCloser 1 = .ok (.istore 4, 2) := by decide +kernel
theorem dX3_firstCloser_3 : decode cX3_firstCloser 3 = .ok (.iload 4, 2) := by decide +kernel
theorem dX3_firstCloser_5 : decode cX3_firstCloser 5 = .ok (.aload_n 0, 1) := by decide +kernel
theorem dX3_firstCloser_6 : decode cX3_firstCloser 6 = .ok (.getfield 36, 3) := by decide +kernel
theorem dX3_firstCloser_9 : decode cX3_firstCloser 9 = .ok (.getfield 166, 3) := by decide +kernel
theorem dX3_firstCloser_12 : decode cX3_firstCloser 12 = .ok (.if_icmp .ge 46, 3) := by decide +kernel
theorem dX3_firstCloser_15 : decode cX3_firstCloser 15 = .ok (.aload_n 0, 1) := by decide +kernel
theorem dX3_firstCloser_16 : decode cX3_firstCloser 16 = .ok (.getfield 36, 3) := by decide +kernel
theorem dX3_firstCloser_19 : decode cX3_firstCloser 19 = .ok (.getfield 169, 3) := by decide +kernel
theorem dX3_firstCloser_22 : decode cX3_firstCloser 22 = .ok (.iload 4, 2) := by decide +kernel
theorem dX3_firstCloser_52 : decode cX3_firstCloser 52 = .ok (.iinc 4 1, 3) := by decide +kernel
theorem dX3_firstCloser_55 : decode cX3_firstCloser 55 = .ok (.goto (-52), 3) := by decide +kernel
theorem dX3_firstCloser_58 : decode cX3_firstCloser 58 = .ok (.bipush (-2), 2) := by decide +kernel
theorem dX3_firstCloser_60 : decode cX3_firstCloser 60 = .ok (.ireturn, 1) := by decide +kernel
abbrev z_X3_firstCloser : List Cond := .code yX3_firstCloser cX3_firstCloser 6 (some .int) :: zW
abbrev wl_X3_firstCloser (ad : Nat → Nat) (cs : Nat → ClassId)  (court_shoeCount : Int32) (court_claimCount : Int32) (court_suitCount : Int32) (inq_day : Int32) (inq_land : Int32) (inq_shoeLeftOut : Int32) : va_W := [((ad 4), .inr (2, [.ref (ad 5), .ref (ad 6), .ref (ad 7), .ref (ad 8), .ref (ad 9), .ref (ad 10), .ref (ad 11), .ref (ad 12), .ref (ad 13), .ref (ad 14), .int court_shoeCount, .int court_claimCount, .int court_suitCount])), ((ad 15), .inr (3, [.ref (ad 4), .ref (ad 16), .ref (ad 17), .ref (ad 18), .ref (ad 19), .ref (ad 20), .ref (ad 21), .ref (ad 22), .int inq_day, .int inq_land, .int inq_shoeLeftOut]))]
def Q_X3_firstCloser (D : va_G) (cs : Nat → ClassId) (ad : Nat → Nat)  (court_shoeCount : Int32) (court_claimCount : Int32) (court_suitCount : Int32) (inq_day : Int32) (inq_land : Int32) (inq_shoeLeftOut : Int32) (A : Nat → Prop) (R : Int32 × Unit) : Array Value → State → Outcome → State → Prop :=
  va_Qi (fun (r : Int32) (u : Unit) => (r, u) = R) (fun (u : Unit) (t : State) => va_P D classes (wl_X3_firstCloser ad cs court_shoeCount court_claimCount court_suitCount inq_day inq_land inq_shoeLeftOut) t.heap ∧ va_D A (wl_X3_firstCloser ad cs court_shoeCount court_claimCount court_suitCount inq_day inq_land inq_shoeLeftOut)) A
abbrev rm_X3_firstCloser : Room := { frames := 0, cells := 0, slots := 0, locals := 0 }
def B_X3_firstCloser_52   (g3 : Int32 → Int32 → Int32 → Int32 → (Option (Int32 × Unit))) (court_shoeCount : Int32) (court_claimCount : Int32) (court_suitCount : Int32) (inq_day : Int32) (inq_land : Int32) (inq_shoeLeftOut : Int32) (x1 : Int32) (x2 : Int32) (x3 : Int32) (x4 : Int32) : Option (Int32 × Unit) :=
  (zk_let (x4 + (1 : Int32)) (fun v_2 => (g3 x1 x2 x3 v_2)))
def B_X3_firstCloser_3   (g3 : Int32 → Int32 → Int32 → Int32 → (Option (Int32 × Unit))) (court_shoeCount : Int32) (court_claimCount : Int32) (court_suitCount : Int32) (inq_day : Int32) (inq_land : Int32) (inq_shoeLeftOut : Int32) (x1 : Int32) (x2 : Int32) (x3 : Int32) (x4 : Int32) : Option (Int32 × Unit) :=
  (if court_suitCount ≤ x4 then (some ((-2 : Int32), ())) else none)
def B_X3_firstCloser_0   (g3 : Int32 → Int32 → Int32 → Int32 → (Option (Int32 × Unit))) (court_shoeCount : Int32) (court_claimCount : Int32) (court_suitCount : Int32) (inq_day : Int32) (inq_land : Int32) (inq_shoeLeftOut : Int32) (x1 : Int32) (x2 : Int32) (x3 : Int32) : Option (Int32 × Unit) :=
  (g3 x1 x2 x3 (0 : Int32))
def G_X3_firstCloser   (court_shoeCount : Int32) (court_claimCount : Int32) (court_suitCount : Int32) (inq_day : Int32) (inq_land : Int32) (inq_shoeLeftOut : Int32) (n : Nat) : (Int32 → Int32 → Int32 → Int32 → (Option (Int32 × Unit))) :=
  Nat.rec (motive := fun _ => (Int32 → Int32 → Int32 → Int32 → (Option (Int32 × Unit)))) ((fun _ _ _ _ => none)) (fun _ ih => (B_X3_firstCloser_3   ih court_shoeCount court_claimCount court_suitCount inq_day inq_land inq_shoeLeftOut)) n
def f_X3_firstCloser   (n : Nat) (x1 : Int32) (x2 : Int32) (x3 : Int32) (court_shoeCount : Int32) (court_claimCount : Int32) (court_suitCount : Int32) (inq_day : Int32) (inq_land : Int32) (inq_shoeLeftOut : Int32) : Option (Int32 × Unit) := B_X3_firstCloser_0   ((G_X3_firstCloser   court_shoeCount court_claimCount court_suitCount inq_day inq_land inq_shoeLeftOut n)) court_shoeCount court_claimCount court_suitCount inq_day inq_land inq_shoeLeftOut x1 x2 x3 
set_option maxHeartbeats 4000000 in
set_option maxRecDepth 100000 in
theorem L_X3_firstCloser_52 {p : Program} {l : Launch} {e : Env} {s : State} {m : MethodId} {args : Array Value} {below : List Frame} {meth : Method} {c : Code} {A : Nat → Prop} {D : va_G} {cs : Nat → ClassId} {ad : Nat → Nat} {court_shoeCount : Int32} {court_claimCount : Int32} {court_suitCount : Int32} {inq_day : Int32} {inq_land : Int32} {inq_shoeLeftOut : Int32} {R : Int32 × Unit} {g3 : Int32 → Int32 → Int32 → Int32 → (Option (Int32 × Unit))} (C0 : zC p s m args meth c cX3_firstCloser 6 (some .int) RX3 zW) (hK : va_K D classes (zT cs) s) (hA : ∀ q : Nat, s.heap.size ≤ q → A q) (ih3 : ∀ (x1 : Int32) (x2 : Int32) (x3 : Int32) (x4 : Int32) (h : g3 x1 x2 x3 x4 = some R) (H : Heap) (locs : List Loc) (ls : Array Slot) (hP : va_P D classes (wl_X3_firstCloser ad cs court_shoeCount court_claimCount court_suitCount inq_day inq_land inq_shoeLeftOut) H) (hD : va_D A (wl_X3_firstCloser ad cs court_shoeCount court_claimCount court_suitCount inq_day inq_land inq_shoeLeftOut)) (hS : va_S A s.heap H locs) (hl : lv_has ls 6 [(0, .ref (ad 15)), (1, .int x1), (2, .int x2), (3, .int x3), (4, .int x4)]), W p l e rm_X3_firstCloser s m args below meth c H locs 0 0 (MQ below (Q_X3_firstCloser D cs ad court_shoeCount court_claimCount court_suitCount inq_day inq_land inq_shoeLeftOut A R) args s 0 0 A) (F0 m 3 ls [])) (x1 : Int32) (x2 : Int32) (x3 : Int32) (x4 : Int32) (h : B_X3_firstCloser_52 g3 court_shoeCount court_claimCount court_suitCount inq_day inq_land inq_shoeLeftOut x1 x2 x3 x4 = some R) (H : Heap) (locs : List Loc) (ls : Array Slot) (hP : va_P D classes (wl_X3_firstCloser ad cs court_shoeCount court_claimCount court_suitCount inq_day inq_land inq_shoeLeftOut) H) (hD : va_D A (wl_X3_firstCloser ad cs court_shoeCount court_claimCount court_suitCount inq_day inq_land inq_shoeLeftOut)) (hS : va_S A s.heap H locs) (hl : lv_has ls 6 [(0, .ref (ad 15)), (1, .int x1), (2, .int x2), (3, .int x3), (4, .int x4)]) : W p l e rm_X3_firstCloser s m args below meth c H locs 0 0 (MQ below (Q_X3_firstCloser D cs ad court_shoeCount court_claimCount court_suitCount inq_day inq_land inq_shoeLeftOut A R) args s 0 0 A) (F0 m 52 ls []) := by
  obtain ⟨hx, hb, hr, hml, hown, ht, hlocks⟩ := id C0
  obtain ⟨v_2, ev_2, h⟩ := zk_lt h
  refine lv_iinc (v := v_2) (lv' := [(4, .int v_2), (0, .ref (ad 15)), (1, .int x1), (2, .int x2), (3, .int x3)]) hx hb dX3_firstCloser_52 hl (k := 4) rfl (by rw [ev_2]; rfl) (by decide) rfl (fun ls hl => ?_)
  refine lv_goto (tgt := 3) hx hb dX3_firstCloser_55 (by decide) ?_
  exact ih3 x1 x2 x3 v_2 h H locs ls hP hD hS (lv_sub hl [1, 2, 3, 4, 0] rfl)
set_option maxHeartbeats 4000000 in
set_option maxRecDepth 100000 in
theorem L_X3_firstCloser_3 {p : Program} {l : Launch} {e : Env} {s : State} {m : MethodId} {args : Array Value} {below : List Frame} {meth : Method} {c : Code} {A : Nat → Prop} {D : va_G} {cs : Nat → ClassId} {ad : Nat → Nat} {court_shoeCount : Int32} {court_claimCount : Int32} {court_suitCount : Int32} {inq_day : Int32} {inq_land : Int32} {inq_shoeLeftOut : Int32} {R : Int32 × Unit} {g3 : Int32 → Int32 → Int32 → Int32 → (Option (Int32 × Unit))} (C0 : zC p s m args meth c cX3_firstCloser 6 (some .int) RX3 zW) (hK : va_K D classes (zT cs) s) (hA : ∀ q : Nat, s.heap.size ≤ q → A q) (ih3 : ∀ (x1 : Int32) (x2 : Int32) (x3 : Int32) (x4 : Int32) (h : g3 x1 x2 x3 x4 = some R) (H : Heap) (locs : List Loc) (ls : Array Slot) (hP : va_P D classes (wl_X3_firstCloser ad cs court_shoeCount court_claimCount court_suitCount inq_day inq_land inq_shoeLeftOut) H) (hD : va_D A (wl_X3_firstCloser ad cs court_shoeCount court_claimCount court_suitCount inq_day inq_land inq_shoeLeftOut)) (hS : va_S A s.heap H locs) (hl : lv_has ls 6 [(0, .ref (ad 15)), (1, .int x1), (2, .int x2), (3, .int x3), (4, .int x4)]), W p l e rm_X3_firstCloser s m args below meth c H locs 0 0 (MQ below (Q_X3_firstCloser D cs ad court_shoeCount court_claimCount court_suitCount inq_day inq_land inq_shoeLeftOut A R) args s 0 0 A) (F0 m 3 ls [])) (x1 : Int32) (x2 : Int32) (x3 : Int32) (x4 : Int32) (h : B_X3_firstCloser_3 g3 court_shoeCount court_claimCount court_suitCount inq_day inq_land inq_shoeLeftOut x1 x2 x3 x4 = some R) (H : Heap) (locs : List Loc) (ls : Array Slot) (hP : va_P D classes (wl_X3_firstCloser ad cs court_shoeCount court_claimCount court_suitCount inq_day inq_land inq_shoeLeftOut) H) (hD : va_D A (wl_X3_firstCloser ad cs court_shoeCount court_claimCount court_suitCount inq_day inq_land inq_shoeLeftOut)) (hS : va_S A s.heap H locs) (hl : lv_has ls 6 [(0, .ref (ad 15)), (1, .int x1), (2, .int x2), (3, .int x3), (4, .int x4)]) : W p l e rm_X3_firstCloser s m args below meth c H locs 0 0 (MQ below (Q_X3_firstCloser D cs ad court_shoeCount court_claimCount court_suitCount inq_day inq_land inq_shoeLeftOut A R) args s 0 0 A) (F0 m 3 ls []) := by
  obtain ⟨hx, hb, hr, hml, hown, ht, hlocks⟩ := id C0
  refine lv_iload hx hb dX3_firstCloser_3 (lv_at hl 4 rfl) ?_
  refine lv_aload_n hx hb dX3_firstCloser_5 rfl (lv_at hl 0 rfl) ?_
  refine va_get (D := D) (ci := 3) (v := .ref (ad 4)) (C := RX3) (T := TX3) (N := 11) hx hb ht iX3 hown hK hP 1 rfl rfl 0 (by decide) (ht _ kw_191) (fun _ h9 => h9) rfl dX3_firstCloser_6 ?_
  refine va_get (D := D) (ci := 2) (v := .int court_suitCount) (C := RX2) (T := TX2) (N := 13) hx hb ht iX2 hown hK hP 0 rfl rfl 12 (by decide) (ht _ kw_156) (fun _ h9 => h9) rfl dX3_firstCloser_9 ?_
  refine lv_icmp_ge (tgt := 58) hx hb dX3_firstCloser_12 (by decide) (fun c_1 => ?_) (fun c_1 => ?_)
  · have h := zk_t c_1 h
    refine lv_bipush (v := (-2 : Int32)) hx hb dX3_firstCloser_58 (by decide) ?_
    exact W.iret (v := (-2 : Int32)) hx hb hr (fun t ht2 hW => ⟨⟨(-2 : Int32), (), rfl, Option.some.inj h, by rw [ht2]; exact hP, hD⟩, hS.F ht2⟩) hS.2.2 dX3_firstCloser_60 hlocks
  · have h := zk_f c_1 h
    refine lv_aload_n hx hb dX3_firstCloser_15 rfl (lv_at hl 0 rfl) ?_
    refine va_get (D := D) (ci := 3) (v := .ref (ad 4)) (C := RX3) (T := TX3) (N := 11) hx hb ht iX3 hown hK hP 1 rfl rfl 0 (by decide) (ht _ kw_191) (fun _ h9 => h9) rfl dX3_firstCloser_16 ?_
    refine va_get (D := D) (ci := 2) (v := .ref (ad 13)) (C := RX2) (T := TX2) (N := 13) hx hb ht iX2 hown hK hP 0 rfl rfl 8 (by decide) (ht _ kw_144) (fun _ h9 => h9) rfl dX3_firstCloser_19 ?_
    refine lv_iload hx hb dX3_firstCloser_22 (lv_at hl 4 rfl) ?_
    cases h
set_option maxHeartbeats 4000000 in
set_option maxRecDepth 100000 in
theorem L_X3_firstCloser_0 {p : Program} {l : Launch} {e : Env} {s : State} {m : MethodId} {args : Array Value} {below : List Frame} {meth : Method} {c : Code} {A : Nat → Prop} {D : va_G} {cs : Nat → ClassId} {ad : Nat → Nat} {court_shoeCount : Int32} {court_claimCount : Int32} {court_suitCount : Int32} {inq_day : Int32} {inq_land : Int32} {inq_shoeLeftOut : Int32} {R : Int32 × Unit} {g3 : Int32 → Int32 → Int32 → Int32 → (Option (Int32 × Unit))} (C0 : zC p s m args meth c cX3_firstCloser 6 (some .int) RX3 zW) (hK : va_K D classes (zT cs) s) (hA : ∀ q : Nat, s.heap.size ≤ q → A q) (ih3 : ∀ (x1 : Int32) (x2 : Int32) (x3 : Int32) (x4 : Int32) (h : g3 x1 x2 x3 x4 = some R) (H : Heap) (locs : List Loc) (ls : Array Slot) (hP : va_P D classes (wl_X3_firstCloser ad cs court_shoeCount court_claimCount court_suitCount inq_day inq_land inq_shoeLeftOut) H) (hD : va_D A (wl_X3_firstCloser ad cs court_shoeCount court_claimCount court_suitCount inq_day inq_land inq_shoeLeftOut)) (hS : va_S A s.heap H locs) (hl : lv_has ls 6 [(0, .ref (ad 15)), (1, .int x1), (2, .int x2), (3, .int x3), (4, .int x4)]), W p l e rm_X3_firstCloser s m args below meth c H locs 0 0 (MQ below (Q_X3_firstCloser D cs ad court_shoeCount court_claimCount court_suitCount inq_day inq_land inq_shoeLeftOut A R) args s 0 0 A) (F0 m 3 ls [])) (x1 : Int32) (x2 : Int32) (x3 : Int32) (h : B_X3_firstCloser_0 g3 court_shoeCount court_claimCount court_suitCount inq_day inq_land inq_shoeLeftOut x1 x2 x3 = some R) (H : Heap) (locs : List Loc) (ls : Array Slot) (hP : va_P D classes (wl_X3_firstCloser ad cs court_shoeCount court_claimCount court_suitCount inq_day inq_land inq_shoeLeftOut) H) (hD : va_D A (wl_X3_firstCloser ad cs court_shoeCount court_claimCount court_suitCount inq_day inq_land inq_shoeLeftOut)) (hS : va_S A s.heap H locs) (hl : lv_has ls 6 [(0, .ref (ad 15)), (1, .int x1), (2, .int x2), (3, .int x3)]) : W p l e rm_X3_firstCloser s m args below meth c H locs 0 0 (MQ below (Q_X3_firstCloser D cs ad court_shoeCount court_claimCount court_suitCount inq_day inq_land inq_shoeLeftOut A R) args s 0 0 A) (F0 m 0 ls []) := by
  obtain ⟨hx, hb, hr, hml, hown, ht, hlocks⟩ := id C0
  refine lv_iconst (v := (0 : Int32)) hx hb dX3_firstCloser_0 (by decide) ?_
  refine lv_istore (lv' := [(4, .int (0 : Int32)), (0, .ref (ad 15)), (1, .int x1), (2, .int x2), (3, .int x3)]) hx hb dX3_firstCloser_1 hl (by decide) rfl (fun ls hl => ?_)
  exact ih3 x1 x2 x3 (0 : Int32) h H locs ls hP hD hS (lv_sub hl [1, 2, 3, 4, 0] rfl)
theorem LG_X3_firstCloser {p : Program} {l : Launch} {e : Env} {s : State} {m : MethodId} {args : Array Value} {below : List Frame} {meth : Method} {c : Code} {A : Nat → Prop} {D : va_G} {cs : Nat → ClassId} {ad : Nat → Nat} {court_shoeCount : Int32} {court_claimCount : Int32} {court_suitCount : Int32} {inq_day : Int32} {inq_land : Int32} {inq_shoeLeftOut : Int32} {R : Int32 × Unit} (C0 : zC p s m args meth c cX3_firstCloser 6 (some .int) RX3 zW) (hK : va_K D classes (zT cs) s) (hA : ∀ q : Nat, s.heap.size ≤ q → A q) : ∀ n : Nat, (∀ (x1 : Int32) (x2 : Int32) (x3 : Int32) (x4 : Int32) (h : (G_X3_firstCloser   court_shoeCount court_claimCount court_suitCount inq_day inq_land inq_shoeLeftOut n) x1 x2 x3 x4 = some R) (H : Heap) (locs : List Loc) (ls : Array Slot) (hP : va_P D classes (wl_X3_firstCloser ad cs court_shoeCount court_claimCount court_suitCount inq_day inq_land inq_shoeLeftOut) H) (hD : va_D A (wl_X3_firstCloser ad cs court_shoeCount court_claimCount court_suitCount inq_day inq_land inq_shoeLeftOut)) (hS : va_S A s.heap H locs) (hl : lv_has ls 6 [(0, .ref (ad 15)), (1, .int x1), (2, .int x2), (3, .int x3), (4, .int x4)]), W p l e rm_X3_firstCloser s m args below meth c H locs 0 0 (MQ below (Q_X3_firstCloser D cs ad court_shoeCount court_claimCount court_suitCount inq_day inq_land inq_shoeLeftOut A R) args s 0 0 A) (F0 m 3 ls [])) := by
  intro n
  induction n with
  | zero =>
    refine ?_ <;> (intros; rename_i h _ _ _ _ _ _ _; cases h)
  | succ n ih =>
    exact L_X3_firstCloser_3 C0 hK hA  ih
set_option maxHeartbeats 4000000 in
set_option maxRecDepth 100000 in
theorem c_X3_firstCloser (l : Launch) (D : va_G) (cs : Nat → ClassId) (ad : Nat → Nat) (sz : Nat) (n : Nat) (x1 : Int32) (x2 : Int32) (x3 : Int32) (court_shoeCount : Int32) (court_claimCount : Int32) (court_suitCount : Int32) (inq_day : Int32) (inq_land : Int32) (inq_shoeLeftOut : Int32) (R : Int32 × Unit) (h : f_X3_firstCloser   n x1 x2 x3 court_shoeCount court_claimCount court_suitCount inq_day inq_land inq_shoeLeftOut = some R) : Met l yX3_firstCloser (z_X3_firstCloser) rm_X3_firstCloser (va_Pc [.ref (ad 15), .int x1, .int x2, .int x3] (zPre D cs (wl_X3_firstCloser ad cs court_shoeCount court_claimCount court_suitCount inq_day inq_land inq_shoeLeftOut) sz)) (Q_X3_firstCloser D cs ad court_shoeCount court_claimCount court_suitCount inq_day inq_land inq_shoeLeftOut (va_A (wl_X3_firstCloser ad cs court_shoeCount court_claimCount court_suitCount inq_day inq_land inq_shoeLeftOut) sz) R) 0 0 (va_A (wl_X3_firstCloser ad cs court_shoeCount court_claimCount court_suitCount inq_day inq_land inq_shoeLeftOut) sz) := by
  refine Met.ofW (cc := cX3_firstCloser) (maxL := 6) (ret := (some .int)) (by decide) rfl ?_
  intro p e s m args below meth c s₁ B hml hv
  obtain ⟨rfl, hsz, hP, hK, hD0⟩ := hv
  subst hsz
  have hD := hD0.self (sz := s.heap.size)
  have C0 : zC p s m _ meth c cX3_firstCloser 6 (some .int) RX3 zW := ⟨B.exec, B.bytes, B.returns, hml, findClass_of_methodNamed B.named, fun w hw => atoms_spec (ws := z_X3_firstCloser) B.pre w (List.mem_cons_of_mem _ hw), B.notSynchronized⟩
  have hA : ∀ q : Nat, s.heap.size ≤ q → va_A (wl_X3_firstCloser ad cs court_shoeCount court_claimCount court_suitCount inq_day inq_land inq_shoeLeftOut) s.heap.size q := fun q h => Or.inr h
  have hl := lv_entry ([.ref (ad 15), .int x1, .int x2, .int x3]) (n := 6) (Nat.le_of_ble_eq_true rfl)
  rw [lg_entry_eq]
  generalize (lg_sl ([.ref (ad 15), .int x1, .int x2, .int x3]) ++ List.replicate (6 - (lg_sl ([.ref (ad 15), .int x1, .int x2, .int x3])).length) Slot.unset).toArray = ls at hl ⊢
  exact L_X3_firstCloser_0 C0 hK hA  ((LG_X3_firstCloser C0 hK hA  n)) x1 x2 x3  h s.heap [] ls hP hD va_S.rf hl
theorem dX3_findPoint_0 : decode cX3_findPoint 0 = .ok (.iconst 0, 1) := by decide +kernel
theorem dX3_findPoint_1 : decode cX3_findPoint 1 = .ok (.istore 5, 2) := by decide +kernel
theorem dX3_findPoint_3 : decode cX3_findPoint 3 = .ok (.iconst 0, 1) := by decide +kernel
theorem dX3_findPoint_4 : decode cX3_findPoint 4 = .ok (.istore 6, 2) := by decide +kernel
theorem dX3_findPoint_6 : decode cX3_findPoint 6 = .ok (.iconst (-1), 1) := by decide +kernel
theorem dX3_findPoint_7 : decode cX3_findPoint 7 = .ok (.istore 7, 2) := by decide +kernel
theorem dX3_findPoint_9 : decode cX3_findPoint 9 = .ok (.iconst 0, 1) := by decide +kernel
theorem dX3_findPoint_10 : decode cX3_findPoint 10 = .ok (.istore 8, 2) := by decide +kernel
theorem dX3_findPoint_12 : decode cX3_findPoint 12 = .ok (.iload 8, 2) := by decide +kernel
theorem dX3_findPoint_14 : decode cX3_findPoint 14 = .ok (.aload_n 0, 1) := by decide +kernel
theorem dX3_findPoint_15 : decode cX3_findPoint 15 = .ok (.getfield 36, 3) := by decide +kernel
theorem dX3_findPoint_18 : decode cX3_findPoint 18 = .ok (.getfield 166, 3) := by decide +kernel
theorem dX3_findPoint_21 : decode cX3_findPoint 21 = .ok (.if_icmp .ge 90, 3) := by decide +kernel
theorem dX3_findPoint_24 : decode cX3_findPoint 24 = .ok (.aload_n 0, 1) := by decide +kernel
theorem dX3_findPoint_25 : decode cX3_findPoint 25 = .ok (.getfield 36, 3) := by decide +kernel
theorem dX3_findPoint_28 : decode cX3_findPoint 28 = .ok (.getfield 169, 3) := by decide +kernel
theorem dX3_findPoint_31 : decode cX3_findPoint 31 = .ok (.iload 8, 2) := by decide +kernel
theorem dX3_findPoint_105 : decode cX3_findPoint 105 = .ok (.iinc 8 1, 3) := by decide +kernel
theorem dX3_findPoint_108 : decode cX3_findPoint 108 = .ok (.goto (-96), 3) := by decide +kernel
theorem dX3_findPoint_111 : decode cX3_findPoint 111 = .ok (.iload 5, 2) := by decide +kernel
theorem dX3_findPoint_113 : decode cX3_findPoint 113 = .ok (.iconst 3, 1) := by decide +kernel
theorem dX3_findPoint_114 : decode cX3_findPoint 114 = .ok (.if_icmp .ne 10, 3) := by decide +kernel
theorem dX3_findPoint_117 : decode cX3_findPoint 117 = .ok (.iload 6, 2) := by decide +kernel
theorem dX3_findPoint_119 : decode cX3_findPoint 119 = .ok (.iconst 4, 1) := by decide +kernel
theorem dX3_findPoint_120 : decode cX3_findPoint 120 = .ok (.iadd, 1) := by decide +kernel
theorem dX3_findPoint_121 : decode cX3_findPoint 121 = .ok (.goto 5, 3) := by decide +kernel
theorem dX3_findPoint_124 : decode cX3_findPoint 124 = .ok (.iload 6, 2) := by decide +kernel
theorem dX3_findPoint_126 : decode cX3_findPoint 126 = .ok (.ireturn, 1) := by decide +kernel
abbrev z_X3_findPoint : List Cond := .code yX3_findPoint cX3_findPoint 10 (some .int) :: zW
abbrev wl_X3_findPoint (ad : Nat → Nat) (cs : Nat → ClassId)  (court_shoeCount : Int32) (court_claimCount : Int32) (court_suitCount : Int32) (inq_day : Int32) (inq_land : Int32) (inq_shoeLeftOut : Int32) : va_W := [((ad 4), .inr (2, [.ref (ad 5), .ref (ad 6), .ref (ad 7), .ref (ad 8), .ref (ad 9), .ref (ad 10), .ref (ad 11), .ref (ad 12), .ref (ad 13), .ref (ad 14), .int court_shoeCount, .int court_claimCount, .int court_suitCount])), ((ad 15), .inr (3, [.ref (ad 4), .ref (ad 16), .ref (ad 17), .ref (ad 18), .ref (ad 19), .ref (ad 20), .ref (ad 21), .ref (ad 22), .int inq_day, .int inq_land, .int inq_shoeLeftOut]))]
def Q_X3_findPoint (D : va_G) (cs : Nat → ClassId) (ad : Nat → Nat)  (court_shoeCount : Int32) (court_claimCount : Int32) (court_suitCount : Int32) (inq_day : Int32) (inq_land : Int32) (inq_shoeLeftOut : Int32) (A : Nat → Prop) (R : Int32 × Unit) : Array Value → State → Outcome → State → Prop :=
  va_Qi (fun (r : Int32) (u : Unit) => (r, u) = R) (fun (u : Unit) (t : State) => va_P D classes (wl_X3_findPoint ad cs court_shoeCount court_claimCount court_suitCount inq_day inq_land inq_shoeLeftOut) t.heap ∧ va_D A (wl_X3_findPoint ad cs court_shoeCount court_claimCount court_suitCount inq_day inq_land inq_shoeLeftOut)) A
abbrev rm_X3_findPoint : Room := { frames := 0, cells := 0, slots := 0, locals := 0 }
def B_X3_findPoint_105   (g12 : Int32 → Int32 → Int32 → Int32 → Int32 → Int32 → Int32 → Int32 → (Option (Int32 × Unit))) (court_shoeCount : Int32) (court_claimCount : Int32) (court_suitCount : Int32) (inq_day : Int32) (inq_land : Int32) (inq_shoeLeftOut : Int32) (x1 : Int32) (x2 : Int32) (x3 : Int32) (x4 : Int32) (x5 : Int32) (x6 : Int32) (x7 : Int32) (x8 : Int32) : Option (Int32 × Unit) :=
  (zk_let (x8 + (1 : Int32)) (fun v_3 => (g12 x1 x2 x3 x4 x5 x6 x7 v_3)))
def B_X3_findPoint_12   (g12 : Int32 → Int32 → Int32 → Int32 → Int32 → Int32 → Int32 → Int32 → (Option (Int32 × Unit))) (court_shoeCount : Int32) (court_claimCount : Int32) (court_suitCount : Int32) (inq_day : Int32) (inq_land : Int32) (inq_shoeLeftOut : Int32) (x1 : Int32) (x2 : Int32) (x3 : Int32) (x4 : Int32) (x5 : Int32) (x6 : Int32) (x7 : Int32) (x8 : Int32) : Option (Int32 × Unit) :=
  (if court_suitCount ≤ x8 then (if x5 = (3 : Int32) then (some (x6 + (4 : Int32), ())) else (some (x6, ()))) else none)
def B_X3_findPoint_0   (g12 : Int32 → Int32 → Int32 → Int32 → Int32 → Int32 → Int32 → Int32 → (Option (Int32 × Unit))) (court_shoeCount : Int32) (court_claimCount : Int32) (court_suitCount : Int32) (inq_day : Int32) (inq_land : Int32) (inq_shoeLeftOut : Int32) (x1 : Int32) (x2 : Int32) (x3 : Int32) (x4 : Int32) : Option (Int32 × Unit) :=
  (g12 x1 x2 x3 x4 (0 : Int32) (0 : Int32) (-1 : Int32) (0 : Int32))
def G_X3_findPoint   (court_shoeCount : Int32) (court_claimCount : Int32) (court_suitCount : Int32) (inq_day : Int32) (inq_land : Int32) (inq_shoeLeftOut : Int32) (n : Nat) : (Int32 → Int32 → Int32 → Int32 → Int32 → Int32 → Int32 → Int32 → (Option (Int32 × Unit))) :=
  Nat.rec (motive := fun _ => (Int32 → Int32 → Int32 → Int32 → Int32 → Int32 → Int32 → Int32 → (Option (Int32 × Unit)))) ((fun _ _ _ _ _ _ _ _ => none)) (fun _ ih => (B_X3_findPoint_12   ih court_shoeCount court_claimCount court_suitCount inq_day inq_land inq_shoeLeftOut)) n
def f_X3_findPoint   (n : Nat) (x1 : Int32) (x2 : Int32) (x3 : Int32) (x4 : Int32) (court_shoeCount : Int32) (court_claimCount : Int32) (court_suitCount : Int32) (inq_day : Int32) (inq_land : Int32) (inq_shoeLeftOut : Int32) : Option (Int32 × Unit) := B_X3_findPoint_0   ((G_X3_findPoint   court_shoeCount court_claimCount court_suitCount inq_day inq_land inq_shoeLeftOut n)) court_shoeCount court_claimCount court_suitCount inq_day inq_land inq_shoeLeftOut x1 x2 x3 x4 
set_option maxHeartbeats 4000000 in
set_option maxRecDepth 100000 in
theorem L_X3_findPoint_105 {p : Program} {l : Launch} {e : Env} {s : State} {m : MethodId} {args : Array Value} {below : List Frame} {meth : Method} {c : Code} {A : Nat → Prop} {D : va_G} {cs : Nat → ClassId} {ad : Nat → Nat} {court_shoeCount : Int32} {court_claimCount : Int32} {court_suitCount : Int32} {inq_day : Int32} {inq_land : Int32} {inq_shoeLeftOut : Int32} {R : Int32 × Unit} {g12 : Int32 → Int32 → Int32 → Int32 → Int32 → Int32 → Int32 → Int32 → (Option (Int32 × Unit))} (C0 : zC p s m args meth c cX3_findPoint 10 (some .int) RX3 zW) (hK : va_K D classes (zT cs) s) (hA : ∀ q : Nat, s.heap.size ≤ q → A q) (ih12 : ∀ (x1 : Int32) (x2 : Int32) (x3 : Int32) (x4 : Int32) (x5 : Int32) (x6 : Int32) (x7 : Int32) (x8 : Int32) (h : g12 x1 x2 x3 x4 x5 x6 x7 x8 = some R) (H : Heap) (locs : List Loc) (ls : Array Slot) (hP : va_P D classes (wl_X3_findPoint ad cs court_shoeCount court_claimCount court_suitCount inq_day inq_land inq_shoeLeftOut) H) (hD : va_D A (wl_X3_findPoint ad cs court_shoeCount court_claimCount court_suitCount inq_day inq_land inq_shoeLeftOut)) (hS : va_S A s.heap H locs) (hl : lv_has ls 10 [(0, .ref (ad 15)), (1, .int x1), (2, .int x2), (3, .int x3), (4, .int x4), (5, .int x5), (6, .int x6), (7, .int x7), (8, .int x8)]), W p l e rm_X3_findPoint s m args below meth c H locs 0 0 (MQ below (Q_X3_findPoint D cs ad court_shoeCount court_claimCount court_suitCount inq_day inq_land inq_shoeLeftOut A R) args s 0 0 A) (F0 m 12 ls [])) (x1 : Int32) (x2 : Int32) (x3 : Int32) (x4 : Int32) (x5 : Int32) (x6 : Int32) (x7 : Int32) (x8 : Int32) (h : B_X3_findPoint_105 g12 court_shoeCount court_claimCount court_suitCount inq_day inq_land inq_shoeLeftOut x1 x2 x3 x4 x5 x6 x7 x8 = some R) (H : Heap) (locs : List Loc) (ls : Array Slot) (hP : va_P D classes (wl_X3_findPoint ad cs court_shoeCount court_claimCount court_suitCount inq_day inq_land inq_shoeLeftOut) H) (hD : va_D A (wl_X3_findPoint ad cs court_shoeCount court_claimCount court_suitCount inq_day inq_land inq_shoeLeftOut)) (hS : va_S A s.heap H locs) (hl : lv_has ls 10 [(0, .ref (ad 15)), (1, .int x1), (2, .int x2), (3, .int x3), (4, .int x4), (5, .int x5), (6, .int x6), (7, .int x7), (8, .int x8)]) : W p l e rm_X3_findPoint s m args below meth c H locs 0 0 (MQ below (Q_X3_findPoint D cs ad court_shoeCount court_claimCount court_suitCount inq_day inq_land inq_shoeLeftOut A R) args s 0 0 A) (F0 m 105 ls []) := by
  obtain ⟨hx, hb, hr, hml, hown, ht, hlocks⟩ := id C0
  obtain ⟨v_3, ev_3, h⟩ := zk_lt h
  refine lv_iinc (v := v_3) (lv' := [(8, .int v_3), (0, .ref (ad 15)), (1, .int x1), (2, .int x2), (3, .int x3), (4, .int x4), (5, .int x5), (6, .int x6), (7, .int x7)]) hx hb dX3_findPoint_105 hl (k := 8) rfl (by rw [ev_3]; rfl) (by decide) rfl (fun ls hl => ?_)
  refine lv_goto (tgt := 12) hx hb dX3_findPoint_108 (by decide) ?_
  exact ih12 x1 x2 x3 x4 x5 x6 x7 v_3 h H locs ls hP hD hS (lv_sub hl [1, 2, 3, 4, 5, 6, 7, 8, 0] rfl)
set_option maxHeartbeats 4000000 in
set_option maxRecDepth 100000 in
theorem L_X3_findPoint_12 {p : Program} {l : Launch} {e : Env} {s : State} {m : MethodId} {args : Array Value} {below : List Frame} {meth : Method} {c : Code} {A : Nat → Prop} {D : va_G} {cs : Nat → ClassId} {ad : Nat → Nat} {court_shoeCount : Int32} {court_claimCount : Int32} {court_suitCount : Int32} {inq_day : Int32} {inq_land : Int32} {inq_shoeLeftOut : Int32} {R : Int32 × Unit} {g12 : Int32 → Int32 → Int32 → Int32 → Int32 → Int32 → Int32 → Int32 → (Option (Int32 × Unit))} (C0 : zC p s m args meth c cX3_findPoint 10 (some .int) RX3 zW) (hK : va_K D classes (zT cs) s) (hA : ∀ q : Nat, s.heap.size ≤ q → A q) (ih12 : ∀ (x1 : Int32) (x2 : Int32) (x3 : Int32) (x4 : Int32) (x5 : Int32) (x6 : Int32) (x7 : Int32) (x8 : Int32) (h : g12 x1 x2 x3 x4 x5 x6 x7 x8 = some R) (H : Heap) (locs : List Loc) (ls : Array Slot) (hP : va_P D classes (wl_X3_findPoint ad cs court_shoeCount court_claimCount court_suitCount inq_day inq_land inq_shoeLeftOut) H) (hD : va_D A (wl_X3_findPoint ad cs court_shoeCount court_claimCount court_suitCount inq_day inq_land inq_shoeLeftOut)) (hS : va_S A s.heap H locs) (hl : lv_has ls 10 [(0, .ref (ad 15)), (1, .int x1), (2, .int x2), (3, .int x3), (4, .int x4), (5, .int x5), (6, .int x6), (7, .int x7), (8, .int x8)]), W p l e rm_X3_findPoint s m args below meth c H locs 0 0 (MQ below (Q_X3_findPoint D cs ad court_shoeCount court_claimCount court_suitCount inq_day inq_land inq_shoeLeftOut A R) args s 0 0 A) (F0 m 12 ls [])) (x1 : Int32) (x2 : Int32) (x3 : Int32) (x4 : Int32) (x5 : Int32) (x6 : Int32) (x7 : Int32) (x8 : Int32) (h : B_X3_findPoint_12 g12 court_shoeCount court_claimCount court_suitCount inq_day inq_land inq_shoeLeftOut x1 x2 x3 x4 x5 x6 x7 x8 = some R) (H : Heap) (locs : List Loc) (ls : Array Slot) (hP : va_P D classes (wl_X3_findPoint ad cs court_shoeCount court_claimCount court_suitCount inq_day inq_land inq_shoeLeftOut) H) (hD : va_D A (wl_X3_findPoint ad cs court_shoeCount court_claimCount court_suitCount inq_day inq_land inq_shoeLeftOut)) (hS : va_S A s.heap H locs) (hl : lv_has ls 10 [(0, .ref (ad 15)), (1, .int x1), (2, .int x2), (3, .int x3), (4, .int x4), (5, .int x5), (6, .int x6), (7, .int x7), (8, .int x8)]) : W p l e rm_X3_findPoint s m args below meth c H locs 0 0 (MQ below (Q_X3_findPoint D cs ad court_shoeCount court_claimCount court_suitCount inq_day inq_land inq_shoeLeftOut A R) args s 0 0 A) (F0 m 12 ls []) := by
  obtain ⟨hx, hb, hr, hml, hown, ht, hlocks⟩ := id C0
  refine lv_iload hx hb dX3_findPoint_12 (lv_at hl 8 rfl) ?_
  refine lv_aload_n hx hb dX3_findPoint_14 rfl (lv_at hl 0 rfl) ?_
  refine va_get (D := D) (ci := 3) (v := .ref (ad 4)) (C := RX3) (T := TX3) (N := 11) hx hb ht iX3 hown hK hP 1 rfl rfl 0 (by decide) (ht _ kw_191) (fun _ h9 => h9) rfl dX3_findPoint_15 ?_
  refine va_get (D := D) (ci := 2) (v := .int court_suitCount) (C := RX2) (T := TX2) (N := 13) hx hb ht iX2 hown hK hP 0 rfl rfl 12 (by decide) (ht _ kw_156) (fun _ h9 => h9) rfl dX3_findPoint_18 ?_
  refine lv_icmp_ge (tgt := 111) hx hb dX3_findPoint_21 (by decide) (fun c_1 => ?_) (fun c_1 => ?_)
  · have h := zk_t c_1 h
    refine lv_iload hx hb dX3_findPoint_111 (lv_at hl 5 rfl) ?_
    refine lv_iconst (v := (3 : Int32)) hx hb dX3_findPoint_113 (by decide) ?_
    refine lv_icmp_ne (tgt := 124) hx hb dX3_findPoint_114 (by decide) (fun c_2 => ?_) (fun c_2 => ?_)
    · have h := zk_f c_2 h
      refine lv_iload hx hb dX3_findPoint_124 (lv_at hl 6 rfl) ?_
      exact W.iret (v := x6) hx hb hr (fun t ht2 hW => ⟨⟨x6, (), rfl, Option.some.inj h, by rw [ht2]; exact hP, hD⟩, hS.F ht2⟩) hS.2.2 dX3_findPoint_126 hlocks
    · have h := zk_t c_2 h
      refine lv_iload hx hb dX3_findPoint_117 (lv_at hl 6 rfl) ?_
      refine lv_iconst (v := (4 : Int32)) hx hb dX3_findPoint_119 (by decide) ?_
      refine lv_iadd hx hb dX3_findPoint_120 ?_
      refine lv_goto (tgt := 126) hx hb dX3_findPoint_121 (by decide) ?_
      exact W.iret (v := x6 + (4 : Int32)) hx hb hr (fun t ht2 hW => ⟨⟨x6 + (4 : Int32), (), rfl, Option.some.inj h, by rw [ht2]; exact hP, hD⟩, hS.F ht2⟩) hS.2.2 dX3_findPoint_126 hlocks
  · have h := zk_f c_1 h
    refine lv_aload_n hx hb dX3_findPoint_24 rfl (lv_at hl 0 rfl) ?_
    refine va_get (D := D) (ci := 3) (v := .ref (ad 4)) (C := RX3) (T := TX3) (N := 11) hx hb ht iX3 hown hK hP 1 rfl rfl 0 (by decide) (ht _ kw_191) (fun _ h9 => h9) rfl dX3_findPoint_25 ?_
    refine va_get (D := D) (ci := 2) (v := .ref (ad 13)) (C := RX2) (T := TX2) (N := 13) hx hb ht iX2 hown hK hP 0 rfl rfl 8 (by decide) (ht _ kw_144) (fun _ h9 => h9) rfl dX3_findPoint_28 ?_
    refine lv_iload hx hb dX3_findPoint_31 (lv_at hl 8 rfl) ?_
    cases h
set_option maxHeartbeats 4000000 in
set_option maxRecDepth 100000 in
theorem L_X3_findPoint_0 {p : Program} {l : Launch} {e : Env} {s : State} {m : MethodId} {args : Array Value} {below : List Frame} {meth : Method} {c : Code} {A : Nat → Prop} {D : va_G} {cs : Nat → ClassId} {ad : Nat → Nat} {court_shoeCount : Int32} {court_claimCount : Int32} {court_suitCount : Int32} {inq_day : Int32} {inq_land : Int32} {inq_shoeLeftOut : Int32} {R : Int32 × Unit} {g12 : Int32 → Int32 → Int32 → Int32 → Int32 → Int32 → Int32 → Int32 → (Option (Int32 × Unit))} (C0 : zC p s m args meth c cX3_findPoint 10 (some .int) RX3 zW) (hK : va_K D classes (zT cs) s) (hA : ∀ q : Nat, s.heap.size ≤ q → A q) (ih12 : ∀ (x1 : Int32) (x2 : Int32) (x3 : Int32) (x4 : Int32) (x5 : Int32) (x6 : Int32) (x7 : Int32) (x8 : Int32) (h : g12 x1 x2 x3 x4 x5 x6 x7 x8 = some R) (H : Heap) (locs : List Loc) (ls : Array Slot) (hP : va_P D classes (wl_X3_findPoint ad cs court_shoeCount court_claimCount court_suitCount inq_day inq_land inq_shoeLeftOut) H) (hD : va_D A (wl_X3_findPoint ad cs court_shoeCount court_claimCount court_suitCount inq_day inq_land inq_shoeLeftOut)) (hS : va_S A s.heap H locs) (hl : lv_has ls 10 [(0, .ref (ad 15)), (1, .int x1), (2, .int x2), (3, .int x3), (4, .int x4), (5, .int x5), (6, .int x6), (7, .int x7), (8, .int x8)]), W p l e rm_X3_findPoint s m args below meth c H locs 0 0 (MQ below (Q_X3_findPoint D cs ad court_shoeCount court_claimCount court_suitCount inq_day inq_land inq_shoeLeftOut A R) args s 0 0 A) (F0 m 12 ls [])) (x1 : Int32) (x2 : Int32) (x3 : Int32) (x4 : Int32) (h : B_X3_findPoint_0 g12 court_shoeCount court_claimCount court_suitCount inq_day inq_land inq_shoeLeftOut x1 x2 x3 x4 = some R) (H : Heap) (locs : List Loc) (ls : Array Slot) (hP : va_P D classes (wl_X3_findPoint ad cs court_shoeCount court_claimCount court_suitCount inq_day inq_land inq_shoeLeftOut) H) (hD : va_D A (wl_X3_findPoint ad cs court_shoeCount court_claimCount court_suitCount inq_day inq_land inq_shoeLeftOut)) (hS : va_S A s.heap H locs) (hl : lv_has ls 10 [(0, .ref (ad 15)), (1, .int x1), (2, .int x2), (3, .int x3), (4, .int x4)]) : W p l e rm_X3_findPoint s m args below meth c H locs 0 0 (MQ below (Q_X3_findPoint D cs ad court_shoeCount court_claimCount court_suitCount inq_day inq_land inq_shoeLeftOut A R) args s 0 0 A) (F0 m 0 ls []) := by
  obtain ⟨hx, hb, hr, hml, hown, ht, hlocks⟩ := id C0
  refine lv_iconst (v := (0 : Int32)) hx hb dX3_findPoint_0 (by decide) ?_
  refine lv_istore (lv' := [(5, .int (0 : Int32)), (0, .ref (ad 15)), (1, .int x1), (2, .int x2), (3, .int x3), (4, .int x4)]) hx hb dX3_findPoint_1 hl (by decide) rfl (fun ls hl => ?_)
  refine lv_iconst (v := (0 : Int32)) hx hb dX3_findPoint_3 (by decide) ?_
  refine lv_istore (lv' := [(6, .int (0 : Int32)), (5, .int (0 : Int32)), (0, .ref (ad 15)), (1, .int x1), (2, .int x2), (3, .int x3), (4, .int x4)]) hx hb dX3_findPoint_4 hl (by decide) rfl (fun ls hl => ?_)
  refine lv_iconst (v := (-1 : Int32)) hx hb dX3_findPoint_6 (by decide) ?_
  refine lv_istore (lv' := [(7, .int (-1 : Int32)), (6, .int (0 : Int32)), (5, .int (0 : Int32)), (0, .ref (ad 15)), (1, .int x1), (2, .int x2), (3, .int x3), (4, .int x4)]) hx hb dX3_findPoint_7 hl (by decide) rfl (fun ls hl => ?_)
  refine lv_iconst (v := (0 : Int32)) hx hb dX3_findPoint_9 (by decide) ?_
  refine lv_istore (lv' := [(8, .int (0 : Int32)), (7, .int (-1 : Int32)), (6, .int (0 : Int32)), (5, .int (0 : Int32)), (0, .ref (ad 15)), (1, .int x1), (2, .int x2), (3, .int x3), (4, .int x4)]) hx hb dX3_findPoint_10 hl (by decide) rfl (fun ls hl => ?_)
  exact ih12 x1 x2 x3 x4 (0 : Int32) (0 : Int32) (-1 : Int32) (0 : Int32) h H locs ls hP hD hS (lv_sub hl [4, 5, 6, 7, 8, 3, 2, 1, 0] rfl)
theorem LG_X3_findPoint {p : Program} {l : Launch} {e : Env} {s : State} {m : MethodId} {args : Array Value} {below : List Frame} {meth : Method} {c : Code} {A : Nat → Prop} {D : va_G} {cs : Nat → ClassId} {ad : Nat → Nat} {court_shoeCount : Int32} {court_claimCount : Int32} {court_suitCount : Int32} {inq_day : Int32} {inq_land : Int32} {inq_shoeLeftOut : Int32} {R : Int32 × Unit} (C0 : zC p s m args meth c cX3_findPoint 10 (some .int) RX3 zW) (hK : va_K D classes (zT cs) s) (hA : ∀ q : Nat, s.heap.size ≤ q → A q) : ∀ n : Nat, (∀ (x1 : Int32) (x2 : Int32) (x3 : Int32) (x4 : Int32) (x5 : Int32) (x6 : Int32) (x7 : Int32) (x8 : Int32) (h : (G_X3_findPoint   court_shoeCount court_claimCount court_suitCount inq_day inq_land inq_shoeLeftOut n) x1 x2 x3 x4 x5 x6 x7 x8 = some R) (H : Heap) (locs : List Loc) (ls : Array Slot) (hP : va_P D classes (wl_X3_findPoint ad cs court_shoeCount court_claimCount court_suitCount inq_day inq_land inq_shoeLeftOut) H) (hD : va_D A (wl_X3_findPoint ad cs court_shoeCount court_claimCount court_suitCount inq_day inq_land inq_shoeLeftOut)) (hS : va_S A s.heap H locs) (hl : lv_has ls 10 [(0, .ref (ad 15)), (1, .int x1), (2, .int x2), (3, .int x3), (4, .int x4), (5, .int x5), (6, .int x6), (7, .int x7), (8, .int x8)]), W p l e rm_X3_findPoint s m args below meth c H locs 0 0 (MQ below (Q_X3_findPoint D cs ad court_shoeCount court_claimCount court_suitCount inq_day inq_land inq_shoeLeftOut A R) args s 0 0 A) (F0 m 12 ls [])) := by
  intro n
  induction n with
  | zero =>
    refine ?_ <;> (intros; rename_i h _ _ _ _ _ _ _; cases h)
  | succ n ih =>
    exact L_X3_findPoint_12 C0 hK hA  ih
set_option maxHeartbeats 4000000 in
set_option maxRecDepth 100000 in
theorem c_X3_findPoint (l : Launch) (D : va_G) (cs : Nat → ClassId) (ad : Nat → Nat) (sz : Nat) (n : Nat) (x1 : Int32) (x2 : Int32) (x3 : Int32) (x4 : Int32) (court_shoeCount : Int32) (court_claimCount : Int32) (court_suitCount : Int32) (inq_day : Int32) (inq_land : Int32) (inq_shoeLeftOut : Int32) (R : Int32 × Unit) (h : f_X3_findPoint   n x1 x2 x3 x4 court_shoeCount court_claimCount court_suitCount inq_day inq_land inq_shoeLeftOut = some R) : Met l yX3_findPoint (z_X3_findPoint) rm_X3_findPoint (va_Pc [.ref (ad 15), .int x1, .int x2, .int x3, .int x4] (zPre D cs (wl_X3_findPoint ad cs court_shoeCount court_claimCount court_suitCount inq_day inq_land inq_shoeLeftOut) sz)) (Q_X3_findPoint D cs ad court_shoeCount court_claimCount court_suitCount inq_day inq_land inq_shoeLeftOut (va_A (wl_X3_findPoint ad cs court_shoeCount court_claimCount court_suitCount inq_day inq_land inq_shoeLeftOut) sz) R) 0 0 (va_A (wl_X3_findPoint ad cs court_shoeCount court_claimCount court_suitCount inq_day inq_land inq_shoeLeftOut) sz) := by
  refine Met.ofW (cc := cX3_findPoint) (maxL := 10) (ret := (some .int)) (by decide) rfl ?_
  intro p e s m args below meth c s₁ B hml hv
  obtain ⟨rfl, hsz, hP, hK, hD0⟩ := hv
  subst hsz
  have hD := hD0.self (sz := s.heap.size)
  have C0 : zC p s m _ meth c cX3_findPoint 10 (some .int) RX3 zW := ⟨B.exec, B.bytes, B.returns, hml, findClass_of_methodNamed B.named, fun w hw => atoms_spec (ws := z_X3_findPoint) B.pre w (List.mem_cons_of_mem _ hw), B.notSynchronized⟩
  have hA : ∀ q : Nat, s.heap.size ≤ q → va_A (wl_X3_findPoint ad cs court_shoeCount court_claimCount court_suitCount inq_day inq_land inq_shoeLeftOut) s.heap.size q := fun q h => Or.inr h
  have hl := lv_entry ([.ref (ad 15), .int x1, .int x2, .int x3, .int x4]) (n := 10) (Nat.le_of_ble_eq_true rfl)
  rw [lg_entry_eq]
  generalize (lg_sl ([.ref (ad 15), .int x1, .int x2, .int x3, .int x4]) ++ List.replicate (10 - (lg_sl ([.ref (ad 15), .int x1, .int x2, .int x3, .int x4])).length) Slot.unset).toArray = ls at hl ⊢
  exact L_X3_findPoint_0 C0 hK hA  ((LG_X3_findPoint C0 hK hA  n)) x1 x2 x3 x4  h s.heap [] ls hP hD va_S.rf hl
theorem kw_255 : Cond.fieldLink RX8 19 "AlreadyJudged$SuitReader" "fault" "I" ∈ zW := zwI (i := 255) (by decide +kernel) (by decide +kernel)
theorem dX8_judge_0 : decode cX8_judge 0 = .ok (.iload_n 1, 1) := by decide +kernel
theorem dX8_judge_1 : decode cX8_judge 1 = .ok (.ifCond .ne 15, 3) := by decide +kernel
theorem dX8_judge_4 : decode cX8_judge 4 = .ok (.aload_n 0, 1) := by decide +kernel
theorem dX8_judge_5 : decode cX8_judge 5 = .ok (.getfield 19, 3) := by decide +kernel
theorem dX8_judge_8 : decode cX8_judge 8 = .ok (.ifCond .ge 8, 3) := by decide +kernel
theorem dX8_judge_11 : decode cX8_judge 11 = .ok (.aload_n 0, 1) := by decide +kernel
theorem dX8_judge_12 : decode cX8_judge 12 = .ok (.iload_n 2, 1) := by decide +kernel
theorem dX8_judge_13 : decode cX8_judge 13 = .ok (.putfield 19, 3) := by decide +kernel
theorem dX8_judge_16 : decode cX8_judge 16 = .ok (.return_, 1) := by decide +kernel
abbrev z_X8_judge : List Cond := .code yX8_judge cX8_judge 3 none :: zW
abbrev wl_X8_judge (ad : Nat → Nat) (cs : Nat → ClassId)  (sr_at : Int32) (sr_numberAt : Int32) (sr_fault : Int32) : va_W := [((ad 25), .inr (8, [.ref (ad 23), .null, .int sr_at, .int sr_numberAt, .int sr_fault]))]
def Q_X8_judge (D : va_G) (cs : Nat → ClassId) (ad : Nat → Nat)  (sr_at : Int32) (sr_numberAt : Int32) (A : Nat → Prop) (R : Int32) : Array Value → State → Outcome → State → Prop :=
  va_Qv (fun u : Int32 => u = R) (fun (u : Int32) (t : State) => va_P D classes (wl_X8_judge ad cs sr_at sr_numberAt u) t.heap ∧ va_D A (wl_X8_judge ad cs sr_at sr_numberAt u)) A
abbrev rm_X8_judge : Room := { frames := 0, cells := 0, slots := 0, locals := 0 }
def B_X8_judge_0    (sr_at : Int32) (sr_numberAt : Int32) (x1 : Int32) (x2 : Int32) (sr_fault : Int32) : Option (Int32) :=
  (if x1 = 0 then (if 0 ≤ sr_fault then (some sr_fault) else (some x2)) else (some sr_fault))
def f_X8_judge   (x1 : Int32) (x2 : Int32) (sr_at : Int32) (sr_numberAt : Int32) (sr_fault : Int32) : Option (Int32) := B_X8_judge_0   sr_at sr_numberAt x1 x2 sr_fault
set_option maxHeartbeats 4000000 in
set_option maxRecDepth 100000 in
theorem L_X8_judge_0 {p : Program} {l : Launch} {e : Env} {s : State} {m : MethodId} {args : Array Value} {below : List Frame} {meth : Method} {c : Code} {A : Nat → Prop} {D : va_G} {cs : Nat → ClassId} {ad : Nat → Nat} {sr_at : Int32} {sr_numberAt : Int32} {R : Int32} (C0 : zC p s m args meth c cX8_judge 3 none RX8 zW) (hK : va_K D classes (zT cs) s) (hA : ∀ q : Nat, s.heap.size ≤ q → A q) (x1 : Int32) (x2 : Int32) (sr_fault : Int32) (h : B_X8_judge_0 sr_at sr_numberAt x1 x2 sr_fault = some R) (H : Heap) (locs : List Loc) (ls : Array Slot) (hP : va_P D classes (wl_X8_judge ad cs sr_at sr_numberAt sr_fault) H) (hD : va_D A (wl_X8_judge ad cs sr_at sr_numberAt sr_fault)) (hS : va_S A s.heap H locs) (hl : lv_has ls 3 [(0, .ref (ad 25)), (1, .int x1), (2, .int x2)]) : W p l e rm_X8_judge s m args below meth c H locs 0 0 (MQ below (Q_X8_judge D cs ad sr_at sr_numberAt A R) args s 0 0 A) (F0 m 0 ls []) := by
  obtain ⟨hx, hb, hr, hml, hown, ht, hlocks⟩ := id C0
  refine lv_iload_n hx hb dX8_judge_0 rfl (lv_at hl 1 rfl) ?_
  refine lv_if_ne (tgt := 16) hx hb dX8_judge_1 (by decide) (fun c_1 => ?_) (fun c_1 => ?_)
  · have h := zk_f c_1 h
    exact W.vret hx hb hr (fun t ht2 hW => ⟨⟨sr_fault, rfl, Option.some.inj h, by rw [ht2]; exact hP, hD⟩, hS.F ht2⟩) hS.2.2 dX8_judge_16 hlocks
  · have h := zk_t c_1 h
    refine lv_aload_n hx hb dX8_judge_4 rfl (lv_at hl 0 rfl) ?_
    refine va_get (D := D) (ci := 8) (v := .int sr_fault) (C := RX8) (T := TX8) (N := 5) hx hb ht iX8 hown hK hP 0 rfl rfl 4 (by decide) (ht _ kw_255) (fun _ h9 => h9) rfl dX8_judge_5 ?_
    refine lv_if_ge (tgt := 16) hx hb dX8_judge_8 (by decide) (fun c_2 => ?_) (fun c_2 => ?_)
    · have h := zk_t c_2 h
      exact W.vret hx hb hr (fun t ht2 hW => ⟨⟨sr_fault, rfl, Option.some.inj h, by rw [ht2]; exact hP, hD⟩, hS.F ht2⟩) hS.2.2 dX8_judge_16 hlocks
    · have h := zk_f c_2 h
      refine lv_aload_n hx hb dX8_judge_11 rfl (lv_at hl 0 rfl) ?_
      refine lv_iload_n hx hb dX8_judge_12 rfl (lv_at hl 2 rfl) ?_
      refine va_put (D := D) (ci := 8) (v := .int x2) (ty := .int) (C := RX8) (T := TX8) (N := 5) hx hb ht iX8 tyX8 tyX8_ok nmX8 hown hK hP hD hS 0 rfl rfl 4 (by decide) (ht _ kw_255) (fun _ h9 => h9) rfl (by decide +kernel) rfl rfl (Nat.le_of_ble_eq_true rfl) dX8_judge_13 (fun H locs hP hD hS => ?_)
      have hP : va_P D classes (wl_X8_judge ad cs sr_at sr_numberAt x2) H := hP
      have hD : va_D A (wl_X8_judge ad cs sr_at sr_numberAt x2) := hD
      exact W.vret hx hb hr (fun t ht2 hW => ⟨⟨x2, rfl, Option.some.inj h, by rw [ht2]; exact hP, hD⟩, hS.F ht2⟩) hS.2.2 dX8_judge_16 hlocks
set_option maxHeartbeats 4000000 in
set_option maxRecDepth 100000 in
theorem c_X8_judge (l : Launch) (D : va_G) (cs : Nat → ClassId) (ad : Nat → Nat) (sz : Nat) (x1 : Int32) (x2 : Int32) (sr_at : Int32) (sr_numberAt : Int32) (sr_fault : Int32) (R : Int32) (h : f_X8_judge   x1 x2 sr_at sr_numberAt sr_fault = some R) : Met l yX8_judge (z_X8_judge) rm_X8_judge (va_Pc [.ref (ad 25), .int x1, .int x2] (zPre D cs (wl_X8_judge ad cs sr_at sr_numberAt sr_fault) sz)) (Q_X8_judge D cs ad sr_at sr_numberAt (va_A (wl_X8_judge ad cs sr_at sr_numberAt sr_fault) sz) R) 0 0 (va_A (wl_X8_judge ad cs sr_at sr_numberAt sr_fault) sz) := by
  refine Met.ofW (cc := cX8_judge) (maxL := 3) (ret := none) (by decide) rfl ?_
  intro p e s m args below meth c s₁ B hml hv
  obtain ⟨rfl, hsz, hP, hK, hD0⟩ := hv
  subst hsz
  have hD := hD0.self (sz := s.heap.size)
  have C0 : zC p s m _ meth c cX8_judge 3 none RX8 zW := ⟨B.exec, B.bytes, B.returns, hml, findClass_of_methodNamed B.named, fun w hw => atoms_spec (ws := z_X8_judge) B.pre w (List.mem_cons_of_mem _ hw), B.notSynchronized⟩
  have hA : ∀ q : Nat, s.heap.size ≤ q → va_A (wl_X8_judge ad cs sr_at sr_numberAt sr_fault) s.heap.size q := fun q h => Or.inr h
  have hl := lv_entry ([.ref (ad 25), .int x1, .int x2]) (n := 3) (Nat.le_of_ble_eq_true rfl)
  rw [lg_entry_eq]
  generalize (lg_sl ([.ref (ad 25), .int x1, .int x2]) ++ List.replicate (3 - (lg_sl ([.ref (ad 25), .int x1, .int x2])).length) Slot.unset).toArray = ls at hl ⊢
  exact L_X8_judge_0 C0 hK hA   x1 x2 sr_fault h s.heap [] ls hP hD va_S.rf hl
theorem kw_79 : Cond.initialized RX8 ∈ zW := zwI (i := 79) (by decide +kernel) (by decide +kernel)
theorem kw_253 : Cond.fieldLink RX8 15 "AlreadyJudged$SuitReader" "at" "I" ∈ zW := zwI (i := 253) (by decide +kernel) (by decide +kernel)
theorem kw_254 : Cond.fieldLink RX8 69 "AlreadyJudged$SuitReader" "numberAt" "I" ∈ zW := zwI (i := 254) (by decide +kernel) (by decide +kernel)
theorem kw_558 : Cond.instanceMethod yX9_isDigitAt ∈ zW := zwI (i := 558) (by decide +kernel) (by decide +kernel)
theorem kw_559 : Cond.selects RX9 yX9_isDigitAt yX9_isDigitAt ∈ zW := zwI (i := 559) (by decide +kernel) (by decide +kernel)
theorem kw_560 : Cond.code yX9_isDigitAt cX9_isDigitAt 3 (some .boolean) ∈ zW := zwI (i := 560) (by decide +kernel) (by decide +kernel)
theorem kw_889 : Cond.methodLink RX8 122 yX9_isDigitAt ∈ zW := zwI (i := 889) (by decide +kernel) (by decide +kernel)
theorem kw_890 : Cond.methodLink RX8 48 yX8_judge ∈ zW := zwI (i := 890) (by decide +kernel) (by decide +kernel)
theorem kw_891 : Cond.instanceMethod yX8_judge ∈ zW := zwI (i := 891) (by decide +kernel) (by decide +kernel)
theorem kw_892 : Cond.selects RX8 yX8_judge yX8_judge ∈ zW := zwI (i := 892) (by decide +kernel) (by decide +kernel)
theorem kw_893 : Cond.code yX8_judge cX8_judge 3 none ∈ zW := zwI (i := 893) (by decide +kernel) (by decide +kernel)
theorem kw_894 : Cond.methodLink RX8 125 yX9_byteAt ∈ zW := zwI (i := 894) (by decide +kernel) (by decide +kernel)
theorem dX8_number_0 : decode cX8_number 0 = .ok (.aload_n 0, 1) := by decide +kernel
theorem dX8_number_1 : decode cX8_number 1 = .ok (.aload_n 0, 1) := by decide +kernel
theorem dX8_number_2 : decode cX8_number 2 = .ok (.getfield 15, 3) := by decide +kernel
theorem dX8_number_5 : decode cX8_number 5 = .ok (.putfield 69, 3) := by decide +kernel
theorem dX8_number_8 : decode cX8_number 8 = .ok (.aload_n 0, 1) := by decide +kernel
theorem dX8_number_9 : decode cX8_number 9 = .ok (.aload_n 0, 1) := by decide +kernel
theorem dX8_number_10 : decode cX8_number 10 = .ok (.getfield 9, 3) := by decide +kernel
theorem dX8_number_13 : decode cX8_number 13 = .ok (.aload_n 0, 1) := by decide +kernel
theorem dX8_number_14 : decode cX8_number 14 = .ok (.getfield 15, 3) := by decide +kernel
theorem dX8_number_17 : decode cX8_number 17 = .ok (.invokevirtual 122, 3) := by decide +kernel
theorem dX8_number_20 : decode cX8_number 20 = .ok (.aload_n 0, 1) := by decide +kernel
theorem dX8_number_21 : decode cX8_number 21 = .ok (.getfield 15, 3) := by decide +kernel
theorem dX8_number_24 : decode cX8_number 24 = .ok (.invokevirtual 48, 3) := by decide +kernel
theorem dX8_number_27 : decode cX8_number 27 = .ok (.iconst 0, 1) := by decide +kernel
theorem dX8_number_28 : decode cX8_number 28 = .ok (.istore_n 2, 1) := by decide +kernel
theorem dX8_number_29 : decode cX8_number 29 = .ok (.iconst 0, 1) := by decide +kernel
theorem dX8_number_30 : decode cX8_number 30 = .ok (.istore_n 3, 1) := by decide +kernel
theorem dX8_number_31 : decode cX8_number 31 = .ok (.iload_n 3, 1) := by decide +kernel
theorem dX8_number_32 : decode cX8_number 32 = .ok (.iload_n 1, 1) := by decide +kernel
theorem dX8_number_33 : decode cX8_number 33 = .ok (.if_icmp .ge 60, 3) := by decide +kernel
theorem dX8_number_36 : decode cX8_number 36 = .ok (.aload_n 0, 1) := by decide +kernel
theorem dX8_number_37 : decode cX8_number 37 = .ok (.getfield 19, 3) := by decide +kernel
theorem dX8_number_40 : decode cX8_number 40 = .ok (.ifCond .ge 53, 3) := by decide +kernel
theorem dX8_number_43 : decode cX8_number 43 = .ok (.aload_n 0, 1) := by decide +kernel
theorem dX8_number_44 : decode cX8_number 44 = .ok (.getfield 9, 3) := by decide +kernel
theorem dX8_number_47 : decode cX8_number 47 = .ok (.aload_n 0, 1) := by decide +kernel
theorem dX8_number_48 : decode cX8_number 48 = .ok (.getfield 15, 3) := by decide +kernel
theorem dX8_number_51 : decode cX8_number 51 = .ok (.invokevirtual 122, 3) := by decide +kernel
theorem dX8_number_54 : decode cX8_number 54 = .ok (.ifCond .eq 39, 3) := by decide +kernel
theorem dX8_number_57 : decode cX8_number 57 = .ok (.iload_n 2, 1) := by decide +kernel
theorem dX8_number_58 : decode cX8_number 58 = .ok (.bipush 10, 2) := by decide +kernel
theorem dX8_number_60 : decode cX8_number 60 = .ok (.imul, 1) := by decide +kernel
theorem dX8_number_61 : decode cX8_number 61 = .ok (.aload_n 0, 1) := by decide +kernel
theorem dX8_number_62 : decode cX8_number 62 = .ok (.getfield 9, 3) := by decide +kernel
theorem dX8_number_65 : decode cX8_number 65 = .ok (.aload_n 0, 1) := by decide +kernel
theorem dX8_number_66 : decode cX8_number 66 = .ok (.getfield 15, 3) := by decide +kernel
theorem dX8_number_69 : decode cX8_number 69 = .ok (.invokevirtual 125, 3) := by decide +kernel
theorem dX8_number_72 : decode cX8_number 72 = .ok (.iadd, 1) := by decide +kernel
theorem dX8_number_73 : decode cX8_number 73 = .ok (.bipush 48, 2) := by decide +kernel
theorem dX8_number_75 : decode cX8_number 75 = .ok (.isub, 1) := by decide +kernel
theorem dX8_number_76 : decode cX8_number 76 = .ok (.istore_n 2, 1) := by decide +kernel
theorem dX8_number_77 : decode cX8_number 77 = .ok (.aload_n 0, 1) := by decide +kernel
theorem dX8_number_78 : decode cX8_number 78 = .ok (.dup, 1) := by decide +kernel
theorem dX8_number_79 : decode cX8_number 79 = .ok (.getfield 15, 3) := by decide +kernel
theorem dX8_number_82 : decode cX8_number 82 = .ok (.iconst 1, 1) := by decide +kernel
theorem dX8_number_83 : decode cX8_number 83 = .ok (.iadd, 1) := by decide +kernel
theorem dX8_number_84 : decode cX8_number 84 = .ok (.putfield 15, 3) := by decide +kernel
theorem dX8_number_87 : decode cX8_number 87 = .ok (.iinc 3 1, 3) := by decide +kernel
theorem dX8_number_90 : decode cX8_number 90 = .ok (.goto (-59), 3) := by decide +kernel
theorem dX8_number_93 : decode cX8_number 93 = .ok (.iload_n 2, 1) := by decide +kernel
theorem dX8_number_94 : decode cX8_number 94 = .ok (.ireturn, 1) := by decide +kernel
abbrev z_X8_number : List Cond := .code yX8_number cX8_number 4 (some .int) :: zW
abbrev wl_X8_number (ad : Nat → Nat) (cs : Nat → ClassId)  (tape_size : Int32) (tape_bytes : Nat → Int32) (sr_at : Int32) (sr_numberAt : Int32) (sr_fault : Int32) : va_W := [((ad 23), .inr (9, [.ref (ad 24), .int tape_size])), ((ad 24), .inl (cs 0, 120, .inl tape_bytes)), ((ad 25), .inr (8, [.ref (ad 23), .null, .int sr_at, .int sr_numberAt, .int sr_fault]))]
def Q_X8_number (D : va_G) (cs : Nat → ClassId) (ad : Nat → Nat)  (tape_size : Int32) (tape_bytes : Nat → Int32) (A : Nat → Prop) (R : Int32 × Int32 × Int32 × Int32) : Array Value → State → Outcome → State → Prop :=
  va_Qi (fun (r : Int32) (u : Int32 × Int32 × Int32) => (r, u) = R) (fun (u : Int32 × Int32 × Int32) (t : State) => va_P D classes (wl_X8_number ad cs tape_size tape_bytes u.1 u.2.1 u.2.2) t.heap ∧ va_D A (wl_X8_number ad cs tape_size tape_bytes u.1 u.2.1 u.2.2)) A
abbrev rm_X8_number : Room := { frames := 2, cells := 0, slots := 0, locals := 43 }
theorem g_X8_122 : GoodIn zW (wsV RX8 122 RX9 yX9_isDigitAt z_X9_isDigitAt) := zGV kw_889 kw_558 kw_559 kw_78 kw_560
theorem g_X8_125 : GoodIn zW (wsV RX8 125 RX9 yX9_byteAt z_X9_byteAt) := zGV kw_894 kw_554 kw_555 kw_78 kw_556
theorem g_X8_48 : GoodIn zW (wsV RX8 48 RX8 yX8_judge z_X8_judge) := zGV kw_890 kw_891 kw_892 kw_79 kw_893
def B_X8_number_31   (g31 : Int32 → Int32 → Int32 → Int32 → Int32 → Int32 → (Option (Int32 × Int32 × Int32 × Int32))) (tape_size : Int32) (tape_bytes : Nat → Int32) (x1 : Int32) (x2 : Int32) (x3 : Int32) (sr_at : Int32) (sr_numberAt : Int32) (sr_fault : Int32) : Option (Int32 × Int32 × Int32 × Int32) :=
  (if x1 ≤ x3 then (some (x2, sr_at, sr_numberAt, sr_fault)) else (if 0 ≤ sr_fault then (some (x2, sr_at, sr_numberAt, sr_fault)) else (zk_b2 (f_X9_isDigitAt sr_at tape_size tape_bytes) (fun r_8 u_9 => (if r_8 = 0 then (some (x2, sr_at, sr_numberAt, sr_fault)) else (zk_b2 (f_X9_byteAt sr_at tape_size tape_bytes) (fun r_12 u_13 => (zk_let (((x2 * (10 : Int32)) + r_12) - (48 : Int32)) (fun v_15 => (zk_let (sr_at + (1 : Int32)) (fun v_16 => (zk_let (x3 + (1 : Int32)) (fun v_17 => (g31 x1 v_15 v_17 v_16 sr_numberAt sr_fault))))))))))))))
def B_X8_number_0   (g31 : Int32 → Int32 → Int32 → Int32 → Int32 → Int32 → (Option (Int32 × Int32 × Int32 × Int32))) (tape_size : Int32) (tape_bytes : Nat → Int32) (x1 : Int32) (sr_at : Int32) (sr_numberAt : Int32) (sr_fault : Int32) : Option (Int32 × Int32 × Int32 × Int32) :=
  (zk_b2 (f_X9_isDigitAt sr_at tape_size tape_bytes) (fun r_1 u_2 => (zk_b1 (f_X8_judge r_1 sr_at sr_at sr_at sr_fault) (fun u_4 => (g31 x1 (0 : Int32) (0 : Int32) sr_at sr_at u_4)))))
def G_X8_number   (tape_size : Int32) (tape_bytes : Nat → Int32) (n : Nat) : (Int32 → Int32 → Int32 → Int32 → Int32 → Int32 → (Option (Int32 × Int32 × Int32 × Int32))) :=
  Nat.rec (motive := fun _ => (Int32 → Int32 → Int32 → Int32 → Int32 → Int32 → (Option (Int32 × Int32 × Int32 × Int32)))) ((fun _ _ _ _ _ _ => none)) (fun _ ih => (B_X8_number_31   ih tape_size tape_bytes)) n
def f_X8_number   (n : Nat) (x1 : Int32) (tape_size : Int32) (tape_bytes : Nat → Int32) (sr_at : Int32) (sr_numberAt : Int32) (sr_fault : Int32) : Option (Int32 × Int32 × Int32 × Int32) := B_X8_number_0   ((G_X8_number   tape_size tape_bytes n)) tape_size tape_bytes x1 sr_at sr_numberAt sr_fault
set_option maxHeartbeats 4000000 in
set_option maxRecDepth 100000 in
theorem L_X8_number_31 {p : Program} {l : Launch} {e : Env} {s : State} {m : MethodId} {args : Array Value} {below : List Frame} {meth : Method} {c : Code} {A : Nat → Prop} {D : va_G} {cs : Nat → ClassId} {ad : Nat → Nat} {tape_size : Int32} {tape_bytes : Nat → Int32} {R : Int32 × Int32 × Int32 × Int32} {g31 : Int32 → Int32 → Int32 → Int32 → Int32 → Int32 → (Option (Int32 × Int32 × Int32 × Int32))} (C0 : zC p s m args meth c cX8_number 4 (some .int) RX8 zW) (hK : va_K D classes (zT cs) s) (hA : ∀ q : Nat, s.heap.size ≤ q → A q) (ih31 : ∀ (x1 : Int32) (x2 : Int32) (x3 : Int32) (sr_at : Int32) (sr_numberAt : Int32) (sr_fault : Int32) (h : g31 x1 x2 x3 sr_at sr_numberAt sr_fault = some R) (H : Heap) (locs : List Loc) (ls : Array Slot) (hP : va_P D classes (wl_X8_number ad cs tape_size tape_bytes sr_at sr_numberAt sr_fault) H) (hD : va_D A (wl_X8_number ad cs tape_size tape_bytes sr_at sr_numberAt sr_fault)) (hS : va_S A s.heap H locs) (hl : lv_has ls 4 [(0, .ref (ad 25)), (1, .int x1), (2, .int x2), (3, .int x3)]), W p l e rm_X8_number s m args below meth c H locs 0 0 (MQ below (Q_X8_number D cs ad tape_size tape_bytes A R) args s 0 0 A) (F0 m 31 ls [])) (x1 : Int32) (x2 : Int32) (x3 : Int32) (sr_at : Int32) (sr_numberAt : Int32) (sr_fault : Int32) (h : B_X8_number_31 g31 tape_size tape_bytes x1 x2 x3 sr_at sr_numberAt sr_fault = some R) (H : Heap) (locs : List Loc) (ls : Array Slot) (hP : va_P D classes (wl_X8_number ad cs tape_size tape_bytes sr_at sr_numberAt sr_fault) H) (hD : va_D A (wl_X8_number ad cs tape_size tape_bytes sr_at sr_numberAt sr_fault)) (hS : va_S A s.heap H locs) (hl : lv_has ls 4 [(0, .ref (ad 25)), (1, .int x1), (2, .int x2), (3, .int x3)]) : W p l e rm_X8_number s m args below meth c H locs 0 0 (MQ below (Q_X8_number D cs ad tape_size tape_bytes A R) args s 0 0 A) (F0 m 31 ls []) := by
  obtain ⟨hx, hb, hr, hml, hown, ht, hlocks⟩ := id C0
  refine lv_iload_n hx hb dX8_number_31 rfl (lv_at hl 3 rfl) ?_
  refine lv_iload_n hx hb dX8_number_32 rfl (lv_at hl 1 rfl) ?_
  refine lv_icmp_ge (tgt := 93) hx hb dX8_number_33 (by decide) (fun c_6 => ?_) (fun c_6 => ?_)
  · have h := zk_t c_6 h
    refine lv_iload_n hx hb dX8_number_93 rfl (lv_at hl 2 rfl) ?_
    exact W.iret (v := x2) hx hb hr (fun t ht2 hW => ⟨⟨x2, (sr_at, sr_numberAt, sr_fault), rfl, Option.some.inj h, by rw [ht2]; exact hP, hD⟩, hS.F ht2⟩) hS.2.2 dX8_number_94 hlocks
  · have h := zk_f c_6 h
    refine lv_aload_n hx hb dX8_number_36 rfl (lv_at hl 0 rfl) ?_
    refine va_get (D := D) (ci := 8) (v := .int sr_fault) (C := RX8) (T := TX8) (N := 5) hx hb ht iX8 hown hK hP 2 rfl rfl 4 (by decide) (ht _ kw_255) (fun _ h9 => h9) rfl dX8_number_37 ?_
    refine lv_if_ge (tgt := 93) hx hb dX8_number_40 (by decide) (fun c_7 => ?_) (fun c_7 => ?_)
    · have h := zk_t c_7 h
      refine lv_iload_n hx hb dX8_number_93 rfl (lv_at hl 2 rfl) ?_
      exact W.iret (v := x2) hx hb hr (fun t ht2 hW => ⟨⟨x2, (sr_at, sr_numberAt, sr_fault), rfl, Option.some.inj h, by rw [ht2]; exact hP, hD⟩, hS.F ht2⟩) hS.2.2 dX8_number_94 hlocks
    · have h := zk_f c_7 h
      refine lv_aload_n hx hb dX8_number_43 rfl (lv_at hl 0 rfl) ?_
      refine va_get (D := D) (ci := 8) (v := .ref (ad 23)) (C := RX8) (T := TX8) (N := 5) hx hb ht iX8 hown hK hP 2 rfl rfl 0 (by decide) (ht _ kw_251) (fun _ h9 => h9) rfl dX8_number_44 ?_
      refine lv_aload_n hx hb dX8_number_47 rfl (lv_at hl 0 rfl) ?_
      refine va_get (D := D) (ci := 8) (v := .int sr_at) (C := RX8) (T := TX8) (N := 5) hx hb ht iX8 hown hK hP 2 rfl rfl 2 (by decide) (ht _ kw_253) (fun _ h9 => h9) rfl dX8_number_48 ?_
      obtain ⟨r_8, u_9, hc_10, h⟩ := zk_o2 h
      refine zk_vi (post := (fun r u => (r, u) = (r_8, u_9))) (w1 := fun u => (wl_X9_isDigitAt ad cs tape_size tape_bytes)) (As := [.int sr_at]) (rest := []) (c_X9_isDigitAt l D cs ad  H.size sr_at tape_size tape_bytes _ hc_10) ⟨hx, hb, hml, hown, ht⟩ (cwV 1 ht g_X8_122 rfl rfl rfl (by decide +kernel) ⟨Nat.le_of_ble_eq_true rfl, Nat.le_of_ble_eq_true rfl⟩) (va_recv hK hP (ci := 9) (q0 := 0) rfl rfl) hP hD hS hK hA [0, 1] [2] rfl rfl rfl rfl (by decide) rfl hl.1 (Nat.le_of_ble_eq_true rfl) dX8_number_51 ⟨Nat.zero_le _, Nat.zero_le _⟩ (fun r u H locs hq hP hD hS => ?_)
      cases hq
      have hP : va_P D classes (wl_X8_number ad cs tape_size tape_bytes sr_at sr_numberAt sr_fault) H := hP.sub [1, 2, 0] rfl
      have hD : va_D A (wl_X8_number ad cs tape_size tape_bytes sr_at sr_numberAt sr_fault) := hD.sub [1, 2, 0] rfl rfl
      refine lv_if_eq (tgt := 93) hx hb dX8_number_54 (by decide) (fun c_11 => ?_) (fun c_11 => ?_)
      · have h := zk_t c_11 h
        refine lv_iload_n hx hb dX8_number_93 rfl (lv_at hl 2 rfl) ?_
        exact W.iret (v := x2) hx hb hr (fun t ht2 hW => ⟨⟨x2, (sr_at, sr_numberAt, sr_fault), rfl, Option.some.inj h, by rw [ht2]; exact hP, hD⟩, hS.F ht2⟩) hS.2.2 dX8_number_94 hlocks
      · have h := zk_f c_11 h
        refine lv_iload_n hx hb dX8_number_57 rfl (lv_at hl 2 rfl) ?_
        refine lv_bipush (v := (10 : Int32)) hx hb dX8_number_58 (by decide) ?_
        refine lv_imul hx hb dX8_number_60 ?_
        refine lv_aload_n hx hb dX8_number_61 rfl (lv_at hl 0 rfl) ?_
        refine va_get (D := D) (ci := 8) (v := .ref (ad 23)) (C := RX8) (T := TX8) (N := 5) hx hb ht iX8 hown hK hP 2 rfl rfl 0 (by decide) (ht _ kw_251) (fun _ h9 => h9) rfl dX8_number_62 ?_
        refine lv_aload_n hx hb dX8_number_65 rfl (lv_at hl 0 rfl) ?_
        refine va_get (D := D) (ci := 8) (v := .int sr_at) (C := RX8) (T := TX8) (N := 5) hx hb ht iX8 hown hK hP 2 rfl rfl 2 (by decide) (ht _ kw_253) (fun _ h9 => h9) rfl dX8_number_66 ?_
        obtain ⟨r_12, u_13, hc_14, h⟩ := zk_o2 h
        refine zk_vi (post := (fun r u => (r, u) = (r_12, u_13))) (w1 := fun u => (wl_X9_byteAt ad cs tape_size tape_bytes)) (As := [.int sr_at]) (rest := [.int (x2 * (10 : Int32))]) (c_X9_byteAt l D cs ad  H.size sr_at tape_size tape_bytes _ hc_14) ⟨hx, hb, hml, hown, ht⟩ (cwV 1 ht g_X8_125 rfl rfl rfl (by decide +kernel) ⟨Nat.le_of_ble_eq_true rfl, Nat.le_of_ble_eq_true rfl⟩) (va_recv hK hP (ci := 9) (q0 := 0) rfl rfl) hP hD hS hK hA [0, 1] [2] rfl rfl rfl rfl (by decide) rfl hl.1 (Nat.le_of_ble_eq_true rfl) dX8_number_69 ⟨Nat.zero_le _, Nat.zero_le _⟩ (fun r u H locs hq hP hD hS => ?_)
        cases hq
        have hP : va_P D classes (wl_X8_number ad cs tape_size tape_bytes sr_at sr_numberAt sr_fault) H := hP.sub [1, 2, 0] rfl
        have hD : va_D A (wl_X8_number ad cs tape_size tape_bytes sr_at sr_numberAt sr_fault) := hD.sub [1, 2, 0] rfl rfl
        refine lv_iadd hx hb dX8_number_72 ?_
        refine lv_bipush (v := (48 : Int32)) hx hb dX8_number_73 (by decide) ?_
        refine lv_isub hx hb dX8_number_75 ?_
        obtain ⟨v_15, ev_15, h⟩ := zk_lt h
        refine W.eq (g2 := F0 m 76 ls [.int v_15]) (by rw [ev_15]) ?_
        refine lv_istore_n (lv' := [(2, .int v_15), (0, .ref (ad 25)), (1, .int x1), (3, .int x3)]) hx hb dX8_number_76 rfl hl (by decide) rfl (fun ls hl => ?_)
        refine lv_aload_n hx hb dX8_number_77 rfl (lv_at hl 1 rfl) ?_
        refine lv_dup hx hb dX8_number_78 rfl ?_
        refine va_get (D := D) (ci := 8) (v := .int sr_at) (C := RX8) (T := TX8) (N := 5) hx hb ht iX8 hown hK hP 2 rfl rfl 2 (by decide) (ht _ kw_253) (fun _ h9 => h9) rfl dX8_number_79 ?_
        refine lv_iconst (v := (1 : Int32)) hx hb dX8_number_82 (by decide) ?_
        refine lv_iadd hx hb dX8_number_83 ?_
        obtain ⟨v_16, ev_16, h⟩ := zk_lt h
        refine W.eq (g2 := F0 m 84 ls [.int v_16, .ref (ad 25)]) (by rw [ev_16]) ?_
        refine va_put (D := D) (ci := 8) (v := .int v_16) (ty := .int) (C := RX8) (T := TX8) (N := 5) hx hb ht iX8 tyX8 tyX8_ok nmX8 hown hK hP hD hS 2 rfl rfl 2 (by decide) (ht _ kw_253) (fun _ h9 => h9) rfl (by decide +kernel) rfl rfl (Nat.le_of_ble_eq_true rfl) dX8_number_84 (fun H locs hP hD hS => ?_)
        have hP : va_P D classes (wl_X8_number ad cs tape_size tape_bytes v_16 sr_numberAt sr_fault) H := hP
        have hD : va_D A (wl_X8_number ad cs tape_size tape_bytes v_16 sr_numberAt sr_fault) := hD
        obtain ⟨v_17, ev_17, h⟩ := zk_lt h
        refine lv_iinc (v := v_17) (lv' := [(3, .int v_17), (2, .int v_15), (0, .ref (ad 25)), (1, .int x1)]) hx hb dX8_number_87 hl (k := 3) rfl (by rw [ev_17]; rfl) (by decide) rfl (fun ls hl => ?_)
        refine lv_goto (tgt := 31) hx hb dX8_number_90 (by decide) ?_
        exact ih31 x1 v_15 v_17 v_16 sr_numberAt sr_fault h H locs ls hP hD hS (lv_sub hl [2, 3, 1, 0] rfl)
set_option maxHeartbeats 4000000 in
set_option maxRecDepth 100000 in
theorem L_X8_number_0 {p : Program} {l : Launch} {e : Env} {s : State} {m : MethodId} {args : Array Value} {below : List Frame} {meth : Method} {c : Code} {A : Nat → Prop} {D : va_G} {cs : Nat → ClassId} {ad : Nat → Nat} {tape_size : Int32} {tape_bytes : Nat → Int32} {R : Int32 × Int32 × Int32 × Int32} {g31 : Int32 → Int32 → Int32 → Int32 → Int32 → Int32 → (Option (Int32 × Int32 × Int32 × Int32))} (C0 : zC p s m args meth c cX8_number 4 (some .int) RX8 zW) (hK : va_K D classes (zT cs) s) (hA : ∀ q : Nat, s.heap.size ≤ q → A q) (ih31 : ∀ (x1 : Int32) (x2 : Int32) (x3 : Int32) (sr_at : Int32) (sr_numberAt : Int32) (sr_fault : Int32) (h : g31 x1 x2 x3 sr_at sr_numberAt sr_fault = some R) (H : Heap) (locs : List Loc) (ls : Array Slot) (hP : va_P D classes (wl_X8_number ad cs tape_size tape_bytes sr_at sr_numberAt sr_fault) H) (hD : va_D A (wl_X8_number ad cs tape_size tape_bytes sr_at sr_numberAt sr_fault)) (hS : va_S A s.heap H locs) (hl : lv_has ls 4 [(0, .ref (ad 25)), (1, .int x1), (2, .int x2), (3, .int x3)]), W p l e rm_X8_number s m args below meth c H locs 0 0 (MQ below (Q_X8_number D cs ad tape_size tape_bytes A R) args s 0 0 A) (F0 m 31 ls [])) (x1 : Int32) (sr_at : Int32) (sr_numberAt : Int32) (sr_fault : Int32) (h : B_X8_number_0 g31 tape_size tape_bytes x1 sr_at sr_numberAt sr_fault = some R) (H : Heap) (locs : List Loc) (ls : Array Slot) (hP : va_P D classes (wl_X8_number ad cs tape_size tape_bytes sr_at sr_numberAt sr_fault) H) (hD : va_D A (wl_X8_number ad cs tape_size tape_bytes sr_at sr_numberAt sr_fault)) (hS : va_S A s.heap H locs) (hl : lv_has ls 4 [(0, .ref (ad 25)), (1, .int x1)]) : W p l e rm_X8_number s m args below meth c H locs 0 0 (MQ below (Q_X8_number D cs ad tape_size tape_bytes A R) args s 0 0 A) (F0 m 0 ls []) := by
  obtain ⟨hx, hb, hr, hml, hown, ht, hlocks⟩ := id C0
  refine lv_aload_n hx hb dX8_number_0 rfl (lv_at hl 0 rfl) ?_
  refine lv_aload_n hx hb dX8_number_1 rfl (lv_at hl 0 rfl) ?_
  refine va_get (D := D) (ci := 8) (v := .int sr_at) (C := RX8) (T := TX8) (N := 5) hx hb ht iX8 hown hK hP 2 rfl rfl 2 (by decide) (ht _ kw_253) (fun _ h9 => h9) rfl dX8_number_2 ?_
  refine va_put (D := D) (ci := 8) (v := .int sr_at) (ty := .int) (C := RX8) (T := TX8) (N := 5) hx hb ht iX8 tyX8 tyX8_ok nmX8 hown hK hP hD hS 2 rfl rfl 3 (by decide) (ht _ kw_254) (fun _ h9 => h9) rfl (by decide +kernel) rfl rfl (Nat.le_of_ble_eq_true rfl) dX8_number_5 (fun H locs hP hD hS => ?_)
  have hP : va_P D classes (wl_X8_number ad cs tape_size tape_bytes sr_at sr_at sr_fault) H := hP
  have hD : va_D A (wl_X8_number ad cs tape_size tape_bytes sr_at sr_at sr_fault) := hD
  refine lv_aload_n hx hb dX8_number_8 rfl (lv_at hl 0 rfl) ?_
  refine lv_aload_n hx hb dX8_number_9 rfl (lv_at hl 0 rfl) ?_
  refine va_get (D := D) (ci := 8) (v := .ref (ad 23)) (C := RX8) (T := TX8) (N := 5) hx hb ht iX8 hown hK hP 2 rfl rfl 0 (by decide) (ht _ kw_251) (fun _ h9 => h9) rfl dX8_number_10 ?_
  refine lv_aload_n hx hb dX8_number_13 rfl (lv_at hl 0 rfl) ?_
  refine va_get (D := D) (ci := 8) (v := .int sr_at) (C := RX8) (T := TX8) (N := 5) hx hb ht iX8 hown hK hP 2 rfl rfl 2 (by decide) (ht _ kw_253) (fun _ h9 => h9) rfl dX8_number_14 ?_
  obtain ⟨r_1, u_2, hc_3, h⟩ := zk_o2 h
  refine zk_vi (post := (fun r u => (r, u) = (r_1, u_2))) (w1 := fun u => (wl_X9_isDigitAt ad cs tape_size tape_bytes)) (As := [.int sr_at]) (rest := [.ref (ad 25)]) (c_X9_isDigitAt l D cs ad  H.size sr_at tape_size tape_bytes _ hc_3) ⟨hx, hb, hml, hown, ht⟩ (cwV 1 ht g_X8_122 rfl rfl rfl (by decide +kernel) ⟨Nat.le_of_ble_eq_true rfl, Nat.le_of_ble_eq_true rfl⟩) (va_recv hK hP (ci := 9) (q0 := 0) rfl rfl) hP hD hS hK hA [0, 1] [2] rfl rfl rfl rfl (by decide) rfl hl.1 (Nat.le_of_ble_eq_true rfl) dX8_number_17 ⟨Nat.zero_le _, Nat.zero_le _⟩ (fun r u H locs hq hP hD hS => ?_)
  cases hq
  have hP : va_P D classes (wl_X8_number ad cs tape_size tape_bytes sr_at sr_at sr_fault) H := hP.sub [1, 2, 0] rfl
  have hD : va_D A (wl_X8_number ad cs tape_size tape_bytes sr_at sr_at sr_fault) := hD.sub [1, 2, 0] rfl rfl
  refine lv_aload_n hx hb dX8_number_20 rfl (lv_at hl 0 rfl) ?_
  refine va_get (D := D) (ci := 8) (v := .int sr_at) (C := RX8) (T := TX8) (N := 5) hx hb ht iX8 hown hK hP 2 rfl rfl 2 (by decide) (ht _ kw_253) (fun _ h9 => h9) rfl dX8_number_21 ?_
  obtain ⟨u_4, hc_5, h⟩ := zk_o1 h
  refine zk_vv (post := (fun u => u = u_4)) (w1 := fun u => (wl_X8_judge ad cs sr_at sr_at u)) (As := [.int r_1, .int sr_at]) (rest := []) (c_X8_judge l D cs ad  H.size r_1 sr_at sr_at sr_at sr_fault _ hc_5) ⟨hx, hb, hml, hown, ht⟩ (cwV 2 ht g_X8_48 rfl rfl rfl (by decide +kernel) ⟨Nat.le_of_ble_eq_true rfl, Nat.le_of_ble_eq_true rfl⟩) (va_recv hK hP (ci := 8) (q0 := 2) rfl rfl) hP hD hS hK hA [2] [0, 1] rfl rfl rfl rfl (by decide) rfl hl.1 (Nat.le_of_ble_eq_true rfl) dX8_number_24 ⟨Nat.zero_le _, Nat.zero_le _⟩ (fun u H locs hq hP hD hS => ?_)
  cases hq
  have hP : va_P D classes (wl_X8_number ad cs tape_size tape_bytes sr_at sr_at u_4) H := hP.sub [0, 1, 2] rfl
  have hD : va_D A (wl_X8_number ad cs tape_size tape_bytes sr_at sr_at u_4) := hD.sub [0, 1, 2] rfl rfl
  refine lv_iconst (v := (0 : Int32)) hx hb dX8_number_27 (by decide) ?_
  refine lv_istore_n (lv' := [(2, .int (0 : Int32)), (0, .ref (ad 25)), (1, .int x1)]) hx hb dX8_number_28 rfl hl (by decide) rfl (fun ls hl => ?_)
  refine lv_iconst (v := (0 : Int32)) hx hb dX8_number_29 (by decide) ?_
  refine lv_istore_n (lv' := [(3, .int (0 : Int32)), (2, .int (0 : Int32)), (0, .ref (ad 25)), (1, .int x1)]) hx hb dX8_number_30 rfl hl (by decide) rfl (fun ls hl => ?_)
  exact ih31 x1 (0 : Int32) (0 : Int32) sr_at sr_at u_4 h H locs ls hP hD hS (lv_sub hl [2, 3, 1, 0] rfl)
theorem LG_X8_number {p : Program} {l : Launch} {e : Env} {s : State} {m : MethodId} {args : Array Value} {below : List Frame} {meth : Method} {c : Code} {A : Nat → Prop} {D : va_G} {cs : Nat → ClassId} {ad : Nat → Nat} {tape_size : Int32} {tape_bytes : Nat → Int32} {R : Int32 × Int32 × Int32 × Int32} (C0 : zC p s m args meth c cX8_number 4 (some .int) RX8 zW) (hK : va_K D classes (zT cs) s) (hA : ∀ q : Nat, s.heap.size ≤ q → A q) : ∀ n : Nat, (∀ (x1 : Int32) (x2 : Int32) (x3 : Int32) (sr_at : Int32) (sr_numberAt : Int32) (sr_fault : Int32) (h : (G_X8_number   tape_size tape_bytes n) x1 x2 x3 sr_at sr_numberAt sr_fault = some R) (H : Heap) (locs : List Loc) (ls : Array Slot) (hP : va_P D classes (wl_X8_number ad cs tape_size tape_bytes sr_at sr_numberAt sr_fault) H) (hD : va_D A (wl_X8_number ad cs tape_size tape_bytes sr_at sr_numberAt sr_fault)) (hS : va_S A s.heap H locs) (hl : lv_has ls 4 [(0, .ref (ad 25)), (1, .int x1), (2, .int x2), (3, .int x3)]), W p l e rm_X8_number s m args below meth c H locs 0 0 (MQ below (Q_X8_number D cs ad tape_size tape_bytes A R) args s 0 0 A) (F0 m 31 ls [])) := by
  intro n
  induction n with
  | zero =>
    refine ?_ <;> (intros; rename_i h _ _ _ _ _ _ _; cases h)
  | succ n ih =>
    exact L_X8_number_31 C0 hK hA  ih
set_option maxHeartbeats 4000000 in
set_option maxRecDepth 100000 in
theorem c_X8_number (l : Launch) (D : va_G) (cs : Nat → ClassId) (ad : Nat → Nat) (sz : Nat) (n : Nat) (x1 : Int32) (tape_size : Int32) (tape_bytes : Nat → Int32) (sr_at : Int32) (sr_numberAt : Int32) (sr_fault : Int32) (R : Int32 × Int32 × Int32 × Int32) (h : f_X8_number   n x1 tape_size tape_bytes sr_at sr_numberAt sr_fault = some R) : Met l yX8_number (z_X8_number) rm_X8_number (va_Pc [.ref (ad 25), .int x1] (zPre D cs (wl_X8_number ad cs tape_size tape_bytes sr_at sr_numberAt sr_fault) sz)) (Q_X8_number D cs ad tape_size tape_bytes (va_A (wl_X8_number ad cs tape_size tape_bytes sr_at sr_numberAt sr_fault) sz) R) 0 0 (va_A (wl_X8_number ad cs tape_size tape_bytes sr_at sr_numberAt sr_fault) sz) := by
  refine Met.ofW (cc := cX8_number) (maxL := 4) (ret := (some .int)) (by decide) rfl ?_
  intro p e s m args below meth c s₁ B hml hv
  obtain ⟨rfl, hsz, hP, hK, hD0⟩ := hv
  subst hsz
  have hD := hD0.self (sz := s.heap.size)
  have C0 : zC p s m _ meth c cX8_number 4 (some .int) RX8 zW := ⟨B.exec, B.bytes, B.returns, hml, findClass_of_methodNamed B.named, fun w hw => atoms_spec (ws := z_X8_number) B.pre w (List.mem_cons_of_mem _ hw), B.notSynchronized⟩
  have hA : ∀ q : Nat, s.heap.size ≤ q → va_A (wl_X8_number ad cs tape_size tape_bytes sr_at sr_numberAt sr_fault) s.heap.size q := fun q h => Or.inr h
  have hl := lv_entry ([.ref (ad 25), .int x1]) (n := 4) (Nat.le_of_ble_eq_true rfl)
  rw [lg_entry_eq]
  generalize (lg_sl ([.ref (ad 25), .int x1]) ++ List.replicate (4 - (lg_sl ([.ref (ad 25), .int x1])).length) Slot.unset).toArray = ls at hl ⊢
  exact L_X8_number_0 C0 hK hA  ((LG_X8_number C0 hK hA  n)) x1 sr_at sr_numberAt sr_fault h s.heap [] ls hP hD va_S.rf hl
theorem dX8_accept_0 : decode cX8_accept 0 = .ok (.aload_n 0, 1) := by decide +kernel
theorem dX8_accept_1 : decode cX8_accept 1 = .ok (.getfield 19, 3) := by decide +kernel
theorem dX8_accept_4 : decode cX8_accept 4 = .ok (.ifCond .ge 18, 3) := by decide +kernel
theorem dX8_accept_7 : decode cX8_accept 7 = .ok (.aload_n 0, 1) := by decide +kernel
theorem dX8_accept_8 : decode cX8_accept 8 = .ok (.getfield 9, 3) := by decide +kernel
theorem dX8_accept_11 : decode cX8_accept 11 = .ok (.aload_n 0, 1) := by decide +kernel
theorem dX8_accept_12 : decode cX8_accept 12 = .ok (.getfield 15, 3) := by decide +kernel
theorem dX8_accept_15 : decode cX8_accept 15 = .ok (.invokevirtual 125, 3) := by decide +kernel
theorem dX8_accept_18 : decode cX8_accept 18 = .ok (.iload_n 1, 1) := by decide +kernel
theorem dX8_accept_19 : decode cX8_accept 19 = .ok (.if_icmp .eq 5, 3) := by decide +kernel
theorem dX8_accept_22 : decode cX8_accept 22 = .ok (.iconst 0, 1) := by decide +kernel
theorem dX8_accept_23 : decode cX8_accept 23 = .ok (.ireturn, 1) := by decide +kernel
theorem dX8_accept_24 : decode cX8_accept 24 = .ok (.aload_n 0, 1) := by decide +kernel
theorem dX8_accept_25 : decode cX8_accept 25 = .ok (.dup, 1) := by decide +kernel
theorem dX8_accept_26 : decode cX8_accept 26 = .ok (.getfield 15, 3) := by decide +kernel
theorem dX8_accept_29 : decode cX8_accept 29 = .ok (.iconst 1, 1) := by decide +kernel
theorem dX8_accept_30 : decode cX8_accept 30 = .ok (.iadd, 1) := by decide +kernel
theorem dX8_accept_31 : decode cX8_accept 31 = .ok (.putfield 15, 3) := by decide +kernel
theorem dX8_accept_34 : decode cX8_accept 34 = .ok (.iconst 1, 1) := by decide +kernel
theorem dX8_accept_35 : decode cX8_accept 35 = .ok (.ireturn, 1) := by decide +kernel
abbrev z_X8_accept : List Cond := .code yX8_accept cX8_accept 2 (some .boolean) :: zW
abbrev wl_X8_accept (ad : Nat → Nat) (cs : Nat → ClassId)  (tape_size : Int32) (tape_bytes : Nat → Int32) (sr_at : Int32) (sr_numberAt : Int32) (sr_fault : Int32) : va_W := [((ad 23), .inr (9, [.ref (ad 24), .int tape_size])), ((ad 24), .inl (cs 0, 120, .inl tape_bytes)), ((ad 25), .inr (8, [.ref (ad 23), .null, .int sr_at, .int sr_numberAt, .int sr_fault]))]
def Q_X8_accept (D : va_G) (cs : Nat → ClassId) (ad : Nat → Nat)  (tape_size : Int32) (tape_bytes : Nat → Int32) (sr_numberAt : Int32) (sr_fault : Int32) (A : Nat → Prop) (R : Int32 × Int32) : Array Value → State → Outcome → State → Prop :=
  va_Qi (fun (r : Int32) (u : Int32) => (r, u) = R) (fun (u : Int32) (t : State) => va_P D classes (wl_X8_accept ad cs tape_size tape_bytes u sr_numberAt sr_fault) t.heap ∧ va_D A (wl_X8_accept ad cs tape_size tape_bytes u sr_numberAt sr_fault)) A
abbrev rm_X8_accept : Room := { frames := 1, cells := 0, slots := 0, locals := 21 }
def B_X8_accept_0    (tape_size : Int32) (tape_bytes : Nat → Int32) (sr_numberAt : Int32) (sr_fault : Int32) (x1 : Int32) (sr_at : Int32) : Option (Int32 × Int32) :=
  (if 0 ≤ sr_fault then (some ((0 : Int32), sr_at)) else (zk_b2 (f_X9_byteAt sr_at tape_size tape_bytes) (fun r_2 u_3 => (if r_2 = x1 then (zk_let (sr_at + (1 : Int32)) (fun v_6 => (some ((1 : Int32), v_6)))) else (some ((0 : Int32), sr_at))))))
def f_X8_accept   (x1 : Int32) (tape_size : Int32) (tape_bytes : Nat → Int32) (sr_at : Int32) (sr_numberAt : Int32) (sr_fault : Int32) : Option (Int32 × Int32) := B_X8_accept_0   tape_size tape_bytes sr_numberAt sr_fault x1 sr_at
set_option maxHeartbeats 4000000 in
set_option maxRecDepth 100000 in
theorem L_X8_accept_0 {p : Program} {l : Launch} {e : Env} {s : State} {m : MethodId} {args : Array Value} {below : List Frame} {meth : Method} {c : Code} {A : Nat → Prop} {D : va_G} {cs : Nat → ClassId} {ad : Nat → Nat} {tape_size : Int32} {tape_bytes : Nat → Int32} {sr_numberAt : Int32} {sr_fault : Int32} {R : Int32 × Int32} (C0 : zC p s m args meth c cX8_accept 2 (some .boolean) RX8 zW) (hK : va_K D classes (zT cs) s) (hA : ∀ q : Nat, s.heap.size ≤ q → A q) (x1 : Int32) (sr_at : Int32) (h : B_X8_accept_0 tape_size tape_bytes sr_numberAt sr_fault x1 sr_at = some R) (H : Heap) (locs : List Loc) (ls : Array Slot) (hP : va_P D classes (wl_X8_accept ad cs tape_size tape_bytes sr_at sr_numberAt sr_fault) H) (hD : va_D A (wl_X8_accept ad cs tape_size tape_bytes sr_at sr_numberAt sr_fault)) (hS : va_S A s.heap H locs) (hl : lv_has ls 2 [(0, .ref (ad 25)), (1, .int x1)]) : W p l e rm_X8_accept s m args below meth c H locs 0 0 (MQ below (Q_X8_accept D cs ad tape_size tape_bytes sr_numberAt sr_fault A R) args s 0 0 A) (F0 m 0 ls []) := by
  obtain ⟨hx, hb, hr, hml, hown, ht, hlocks⟩ := id C0
  refine lv_aload_n hx hb dX8_accept_0 rfl (lv_at hl 0 rfl) ?_
  refine va_get (D := D) (ci := 8) (v := .int sr_fault) (C := RX8) (T := TX8) (N := 5) hx hb ht iX8 hown hK hP 2 rfl rfl 4 (by decide) (ht _ kw_255) (fun _ h9 => h9) rfl dX8_accept_1 ?_
  refine lv_if_ge (tgt := 22) hx hb dX8_accept_4 (by decide) (fun c_1 => ?_) (fun c_1 => ?_)
  · have h := zk_t c_1 h
    refine lv_iconst (v := (0 : Int32)) hx hb dX8_accept_22 (by decide) ?_
    exact W.zret (ty := .boolean) (v := (0 : Int32)) hx hb hr rfl (fun t ht2 hW => ⟨⟨(0 : Int32), sr_at, rfl, Option.some.inj h, by rw [ht2]; exact hP, hD⟩, hS.F ht2⟩) hS.2.2 dX8_accept_23 hlocks
  · have h := zk_f c_1 h
    refine lv_aload_n hx hb dX8_accept_7 rfl (lv_at hl 0 rfl) ?_
    refine va_get (D := D) (ci := 8) (v := .ref (ad 23)) (C := RX8) (T := TX8) (N := 5) hx hb ht iX8 hown hK hP 2 rfl rfl 0 (by decide) (ht _ kw_251) (fun _ h9 => h9) rfl dX8_accept_8 ?_
    refine lv_aload_n hx hb dX8_accept_11 rfl (lv_at hl 0 rfl) ?_
    refine va_get (D := D) (ci := 8) (v := .int sr_at) (C := RX8) (T := TX8) (N := 5) hx hb ht iX8 hown hK hP 2 rfl rfl 2 (by decide) (ht _ kw_253) (fun _ h9 => h9) rfl dX8_accept_12 ?_
    obtain ⟨r_2, u_3, hc_4, h⟩ := zk_o2 h
    refine zk_vi (post := (fun r u => (r, u) = (r_2, u_3))) (w1 := fun u => (wl_X9_byteAt ad cs tape_size tape_bytes)) (As := [.int sr_at]) (rest := []) (c_X9_byteAt l D cs ad  H.size sr_at tape_size tape_bytes _ hc_4) ⟨hx, hb, hml, hown, ht⟩ (cwV 1 ht g_X8_125 rfl rfl rfl (by decide +kernel) ⟨Nat.le_of_ble_eq_true rfl, Nat.le_of_ble_eq_true rfl⟩) (va_recv hK hP (ci := 9) (q0 := 0) rfl rfl) hP hD hS hK hA [0, 1] [2] rfl rfl rfl rfl (by decide) rfl hl.1 (Nat.le_of_ble_eq_true rfl) dX8_accept_15 ⟨Nat.zero_le _, Nat.zero_le _⟩ (fun r u H locs hq hP hD hS => ?_)
    cases hq
    have hP : va_P D classes (wl_X8_accept ad cs tape_size tape_bytes sr_at sr_numberAt sr_fault) H := hP.sub [1, 2, 0] rfl
    have hD : va_D A (wl_X8_accept ad cs tape_size tape_bytes sr_at sr_numberAt sr_fault) := hD.sub [1, 2, 0] rfl rfl
    refine lv_iload_n hx hb dX8_accept_18 rfl (lv_at hl 1 rfl) ?_
    refine lv_icmp_eq (tgt := 24) hx hb dX8_accept_19 (by decide) (fun c_5 => ?_) (fun c_5 => ?_)
    · have h := zk_t c_5 h
      refine lv_aload_n hx hb dX8_accept_24 rfl (lv_at hl 0 rfl) ?_
      refine lv_dup hx hb dX8_accept_25 rfl ?_
      refine va_get (D := D) (ci := 8) (v := .int sr_at) (C := RX8) (T := TX8) (N := 5) hx hb ht iX8 hown hK hP 2 rfl rfl 2 (by decide) (ht _ kw_253) (fun _ h9 => h9) rfl dX8_accept_26 ?_
      refine lv_iconst (v := (1 : Int32)) hx hb dX8_accept_29 (by decide) ?_
      refine lv_iadd hx hb dX8_accept_30 ?_
      obtain ⟨v_6, ev_6, h⟩ := zk_lt h
      refine W.eq (g2 := F0 m 31 ls [.int v_6, .ref (ad 25)]) (by rw [ev_6]) ?_
      refine va_put (D := D) (ci := 8) (v := .int v_6) (ty := .int) (C := RX8) (T := TX8) (N := 5) hx hb ht iX8 tyX8 tyX8_ok nmX8 hown hK hP hD hS 2 rfl rfl 2 (by decide) (ht _ kw_253) (fun _ h9 => h9) rfl (by decide +kernel) rfl rfl (Nat.le_of_ble_eq_true rfl) dX8_accept_31 (fun H locs hP hD hS => ?_)
      have hP : va_P D classes (wl_X8_accept ad cs tape_size tape_bytes v_6 sr_numberAt sr_fault) H := hP
      have hD : va_D A (wl_X8_accept ad cs tape_size tape_bytes v_6 sr_numberAt sr_fault) := hD
      refine lv_iconst (v := (1 : Int32)) hx hb dX8_accept_34 (by decide) ?_
      exact W.zret (ty := .boolean) (v := (1 : Int32)) hx hb hr rfl (fun t ht2 hW => ⟨⟨(1 : Int32), v_6, rfl, Option.some.inj h, by rw [ht2]; exact hP, hD⟩, hS.F ht2⟩) hS.2.2 dX8_accept_35 hlocks
    · have h := zk_f c_5 h
      refine lv_iconst (v := (0 : Int32)) hx hb dX8_accept_22 (by decide) ?_
      exact W.zret (ty := .boolean) (v := (0 : Int32)) hx hb hr rfl (fun t ht2 hW => ⟨⟨(0 : Int32), sr_at, rfl, Option.some.inj h, by rw [ht2]; exact hP, hD⟩, hS.F ht2⟩) hS.2.2 dX8_accept_23 hlocks
set_option maxHeartbeats 4000000 in
set_option maxRecDepth 100000 in
theorem c_X8_accept (l : Launch) (D : va_G) (cs : Nat → ClassId) (ad : Nat → Nat) (sz : Nat) (x1 : Int32) (tape_size : Int32) (tape_bytes : Nat → Int32) (sr_at : Int32) (sr_numberAt : Int32) (sr_fault : Int32) (R : Int32 × Int32) (h : f_X8_accept   x1 tape_size tape_bytes sr_at sr_numberAt sr_fault = some R) : Met l yX8_accept (z_X8_accept) rm_X8_accept (va_Pc [.ref (ad 25), .int x1] (zPre D cs (wl_X8_accept ad cs tape_size tape_bytes sr_at sr_numberAt sr_fault) sz)) (Q_X8_accept D cs ad tape_size tape_bytes sr_numberAt sr_fault (va_A (wl_X8_accept ad cs tape_size tape_bytes sr_at sr_numberAt sr_fault) sz) R) 0 0 (va_A (wl_X8_accept ad cs tape_size tape_bytes sr_at sr_numberAt sr_fault) sz) := by
  refine Met.ofW (cc := cX8_accept) (maxL := 2) (ret := (some .boolean)) (by decide) rfl ?_
  intro p e s m args below meth c s₁ B hml hv
  obtain ⟨rfl, hsz, hP, hK, hD0⟩ := hv
  subst hsz
  have hD := hD0.self (sz := s.heap.size)
  have C0 : zC p s m _ meth c cX8_accept 2 (some .boolean) RX8 zW := ⟨B.exec, B.bytes, B.returns, hml, findClass_of_methodNamed B.named, fun w hw => atoms_spec (ws := z_X8_accept) B.pre w (List.mem_cons_of_mem _ hw), B.notSynchronized⟩
  have hA : ∀ q : Nat, s.heap.size ≤ q → va_A (wl_X8_accept ad cs tape_size tape_bytes sr_at sr_numberAt sr_fault) s.heap.size q := fun q h => Or.inr h
  have hl := lv_entry ([.ref (ad 25), .int x1]) (n := 2) (Nat.le_of_ble_eq_true rfl)
  rw [lg_entry_eq]
  generalize (lg_sl ([.ref (ad 25), .int x1]) ++ List.replicate (2 - (lg_sl ([.ref (ad 25), .int x1])).length) Slot.unset).toArray = ls at hl ⊢
  exact L_X8_accept_0 C0 hK hA   x1 sr_at h s.heap [] ls hP hD va_S.rf hl
theorem kw_899 : Cond.methodLink RX8 86 yX8_accept ∈ zW := zwI (i := 899) (by decide +kernel) (by decide +kernel)
theorem kw_900 : Cond.instanceMethod yX8_accept ∈ zW := zwI (i := 900) (by decide +kernel) (by decide +kernel)
theorem kw_901 : Cond.selects RX8 yX8_accept yX8_accept ∈ zW := zwI (i := 901) (by decide +kernel) (by decide +kernel)
theorem kw_902 : Cond.code yX8_accept cX8_accept 2 (some .boolean) ∈ zW := zwI (i := 902) (by decide +kernel) (by decide +kernel)
theorem dX8_expect_0 : decode cX8_expect 0 = .ok (.aload_n 0, 1) := by decide +kernel
theorem dX8_expect_1 : decode cX8_expect 1 = .ok (.iload_n 1, 1) := by decide +kernel
theorem dX8_expect_2 : decode cX8_expect 2 = .ok (.invokevirtual 86, 3) := by decide +kernel
theorem dX8_expect_5 : decode cX8_expect 5 = .ok (.ifCond .ne 12, 3) := by decide +kernel
theorem dX8_expect_8 : decode cX8_expect 8 = .ok (.aload_n 0, 1) := by decide +kernel
theorem dX8_expect_9 : decode cX8_expect 9 = .ok (.iconst 0, 1) := by decide +kernel
theorem dX8_expect_10 : decode cX8_expect 10 = .ok (.aload_n 0, 1) := by decide +kernel
theorem dX8_expect_11 : decode cX8_expect 11 = .ok (.getfield 15, 3) := by decide +kernel
theorem dX8_expect_14 : decode cX8_expect 14 = .ok (.invokevirtual 48, 3) := by decide +kernel
theorem dX8_expect_17 : decode cX8_expect 17 = .ok (.return_, 1) := by decide +kernel
abbrev z_X8_expect : List Cond := .code yX8_expect cX8_expect 2 none :: zW
abbrev wl_X8_expect (ad : Nat → Nat) (cs : Nat → ClassId)  (tape_size : Int32) (tape_bytes : Nat → Int32) (sr_at : Int32) (sr_numberAt : Int32) (sr_fault : Int32) : va_W := [((ad 23), .inr (9, [.ref (ad 24), .int tape_size])), ((ad 24), .inl (cs 0, 120, .inl tape_bytes)), ((ad 25), .inr (8, [.ref (ad 23), .null, .int sr_at, .int sr_numberAt, .int sr_fault]))]
def Q_X8_expect (D : va_G) (cs : Nat → ClassId) (ad : Nat → Nat)  (tape_size : Int32) (tape_bytes : Nat → Int32) (sr_numberAt : Int32) (A : Nat → Prop) (R : Int32 × Int32) : Array Value → State → Outcome → State → Prop :=
  va_Qv (fun u : Int32 × Int32 => u = R) (fun (u : Int32 × Int32) (t : State) => va_P D classes (wl_X8_expect ad cs tape_size tape_bytes u.1 sr_numberAt u.2) t.heap ∧ va_D A (wl_X8_expect ad cs tape_size tape_bytes u.1 sr_numberAt u.2)) A
abbrev rm_X8_expect : Room := { frames := 2, cells := 0, slots := 0, locals := 42 }
theorem g_X8_86 : GoodIn zW (wsV RX8 86 RX8 yX8_accept z_X8_accept) := zGV kw_899 kw_900 kw_901 kw_79 kw_902
def B_X8_expect_0    (tape_size : Int32) (tape_bytes : Nat → Int32) (sr_numberAt : Int32) (x1 : Int32) (sr_at : Int32) (sr_fault : Int32) : Option (Int32 × Int32) :=
  (zk_b2 (f_X8_accept x1 tape_size tape_bytes sr_at sr_numberAt sr_fault) (fun r_1 u_2 => (if r_1 = 0 then (zk_b1 (f_X8_judge (0 : Int32) u_2 u_2 sr_numberAt sr_fault) (fun u_5 => (some (u_2, u_5)))) else (some (u_2, sr_fault)))))
def f_X8_expect   (x1 : Int32) (tape_size : Int32) (tape_bytes : Nat → Int32) (sr_at : Int32) (sr_numberAt : Int32) (sr_fault : Int32) : Option (Int32 × Int32) := B_X8_expect_0   tape_size tape_bytes sr_numberAt x1 sr_at sr_fault
set_option maxHeartbeats 4000000 in
set_option maxRecDepth 100000 in
theorem L_X8_expect_0 {p : Program} {l : Launch} {e : Env} {s : State} {m : MethodId} {args : Array Value} {below : List Frame} {meth : Method} {c : Code} {A : Nat → Prop} {D : va_G} {cs : Nat → ClassId} {ad : Nat → Nat} {tape_size : Int32} {tape_bytes : Nat → Int32} {sr_numberAt : Int32} {R : Int32 × Int32} (C0 : zC p s m args meth c cX8_expect 2 none RX8 zW) (hK : va_K D classes (zT cs) s) (hA : ∀ q : Nat, s.heap.size ≤ q → A q) (x1 : Int32) (sr_at : Int32) (sr_fault : Int32) (h : B_X8_expect_0 tape_size tape_bytes sr_numberAt x1 sr_at sr_fault = some R) (H : Heap) (locs : List Loc) (ls : Array Slot) (hP : va_P D classes (wl_X8_expect ad cs tape_size tape_bytes sr_at sr_numberAt sr_fault) H) (hD : va_D A (wl_X8_expect ad cs tape_size tape_bytes sr_at sr_numberAt sr_fault)) (hS : va_S A s.heap H locs) (hl : lv_has ls 2 [(0, .ref (ad 25)), (1, .int x1)]) : W p l e rm_X8_expect s m args below meth c H locs 0 0 (MQ below (Q_X8_expect D cs ad tape_size tape_bytes sr_numberAt A R) args s 0 0 A) (F0 m 0 ls []) := by
  obtain ⟨hx, hb, hr, hml, hown, ht, hlocks⟩ := id C0
  refine lv_aload_n hx hb dX8_expect_0 rfl (lv_at hl 0 rfl) ?_
  refine lv_iload_n hx hb dX8_expect_1 rfl (lv_at hl 1 rfl) ?_
  obtain ⟨r_1, u_2, hc_3, h⟩ := zk_o2 h
  refine zk_vi (post := (fun r u => (r, u) = (r_1, u_2))) (w1 := fun u => (wl_X8_accept ad cs tape_size tape_bytes u sr_numberAt sr_fault)) (As := [.int x1]) (rest := []) (c_X8_accept l D cs ad  H.size x1 tape_size tape_bytes sr_at sr_numberAt sr_fault _ hc_3) ⟨hx, hb, hml, hown, ht⟩ (cwV 1 ht g_X8_86 rfl rfl rfl (by decide +kernel) ⟨Nat.le_of_ble_eq_true rfl, Nat.le_of_ble_eq_true rfl⟩) (va_recv hK hP (ci := 8) (q0 := 2) rfl rfl) hP hD hS hK hA [0, 1, 2] [] rfl rfl rfl rfl (by decide) rfl hl.1 (Nat.le_of_ble_eq_true rfl) dX8_expect_2 ⟨Nat.zero_le _, Nat.zero_le _⟩ (fun r u H locs hq hP hD hS => ?_)
  cases hq
  have hP : va_P D classes (wl_X8_expect ad cs tape_size tape_bytes u_2 sr_numberAt sr_fault) H := hP.sub [0, 1, 2] rfl
  have hD : va_D A (wl_X8_expect ad cs tape_size tape_bytes u_2 sr_numberAt sr_fault) := hD.sub [0, 1, 2] rfl rfl
  refine lv_if_ne (tgt := 17) hx hb dX8_expect_5 (by decide) (fun c_4 => ?_) (fun c_4 => ?_)
  · have h := zk_f c_4 h
    exact W.vret hx hb hr (fun t ht2 hW => ⟨⟨(u_2, sr_fault), rfl, Option.some.inj h, by rw [ht2]; exact hP, hD⟩, hS.F ht2⟩) hS.2.2 dX8_expect_17 hlocks
  · have h := zk_t c_4 h
    refine lv_aload_n hx hb dX8_expect_8 rfl (lv_at hl 0 rfl) ?_
    refine lv_iconst (v := (0 : Int32)) hx hb dX8_expect_9 (by decide) ?_
    refine lv_aload_n hx hb dX8_expect_10 rfl (lv_at hl 0 rfl) ?_
    refine va_get (D := D) (ci := 8) (v := .int u_2) (C := RX8) (T := TX8) (N := 5) hx hb ht iX8 hown hK hP 2 rfl rfl 2 (by decide) (ht _ kw_253) (fun _ h9 => h9) rfl dX8_expect_11 ?_
    obtain ⟨u_5, hc_6, h⟩ := zk_o1 h
    refine zk_vv (post := (fun u => u = u_5)) (w1 := fun u => (wl_X8_judge ad cs u_2 sr_numberAt u)) (As := [.int (0 : Int32), .int u_2]) (rest := []) (c_X8_judge l D cs ad  H.size (0 : Int32) u_2 u_2 sr_numberAt sr_fault _ hc_6) ⟨hx, hb, hml, hown, ht⟩ (cwV 2 ht g_X8_48 rfl rfl rfl (by decide +kernel) ⟨Nat.le_of_ble_eq_true rfl, Nat.le_of_ble_eq_true rfl⟩) (va_recv hK hP (ci := 8) (q0 := 2) rfl rfl) hP hD hS hK hA [2] [0, 1] rfl rfl rfl rfl (by decide) rfl hl.1 (Nat.le_of_ble_eq_true rfl) dX8_expect_14 ⟨Nat.zero_le _, Nat.zero_le _⟩ (fun u H locs hq hP hD hS => ?_)
    cases hq
    have hP : va_P D classes (wl_X8_expect ad cs tape_size tape_bytes u_2 sr_numberAt u_5) H := hP.sub [0, 1, 2] rfl
    have hD : va_D A (wl_X8_expect ad cs tape_size tape_bytes u_2 sr_numberAt u_5) := hD.sub [0, 1, 2] rfl rfl
    exact W.vret hx hb hr (fun t ht2 hW => ⟨⟨(u_2, u_5), rfl, Option.some.inj h, by rw [ht2]; exact hP, hD⟩, hS.F ht2⟩) hS.2.2 dX8_expect_17 hlocks
set_option maxHeartbeats 4000000 in
set_option maxRecDepth 100000 in
theorem c_X8_expect (l : Launch) (D : va_G) (cs : Nat → ClassId) (ad : Nat → Nat) (sz : Nat) (x1 : Int32) (tape_size : Int32) (tape_bytes : Nat → Int32) (sr_at : Int32) (sr_numberAt : Int32) (sr_fault : Int32) (R : Int32 × Int32) (h : f_X8_expect   x1 tape_size tape_bytes sr_at sr_numberAt sr_fault = some R) : Met l yX8_expect (z_X8_expect) rm_X8_expect (va_Pc [.ref (ad 25), .int x1] (zPre D cs (wl_X8_expect ad cs tape_size tape_bytes sr_at sr_numberAt sr_fault) sz)) (Q_X8_expect D cs ad tape_size tape_bytes sr_numberAt (va_A (wl_X8_expect ad cs tape_size tape_bytes sr_at sr_numberAt sr_fault) sz) R) 0 0 (va_A (wl_X8_expect ad cs tape_size tape_bytes sr_at sr_numberAt sr_fault) sz) := by
  refine Met.ofW (cc := cX8_expect) (maxL := 2) (ret := none) (by decide) rfl ?_
  intro p e s m args below meth c s₁ B hml hv
  obtain ⟨rfl, hsz, hP, hK, hD0⟩ := hv
  subst hsz
  have hD := hD0.self (sz := s.heap.size)
  have C0 : zC p s m _ meth c cX8_expect 2 none RX8 zW := ⟨B.exec, B.bytes, B.returns, hml, findClass_of_methodNamed B.named, fun w hw => atoms_spec (ws := z_X8_expect) B.pre w (List.mem_cons_of_mem _ hw), B.notSynchronized⟩
  have hA : ∀ q : Nat, s.heap.size ≤ q → va_A (wl_X8_expect ad cs tape_size tape_bytes sr_at sr_numberAt sr_fault) s.heap.size q := fun q h => Or.inr h
  have hl := lv_entry ([.ref (ad 25), .int x1]) (n := 2) (Nat.le_of_ble_eq_true rfl)
  rw [lg_entry_eq]
  generalize (lg_sl ([.ref (ad 25), .int x1]) ++ List.replicate (2 - (lg_sl ([.ref (ad 25), .int x1])).length) Slot.unset).toArray = ls at hl ⊢
  exact L_X8_expect_0 C0 hK hA   x1 sr_at sr_fault h s.heap [] ls hP hD va_S.rf hl
theorem kw_303 : Cond.fieldLink RX8 66 "AlreadyJudged$Suit" "who" "I" ∈ zW := zwI (i := 303) (by decide +kernel) (by decide +kernel)
theorem kw_307 : Cond.fieldLink RX8 76 "AlreadyJudged$Suit" "against" "I" ∈ zW := zwI (i := 307) (by decide +kernel) (by decide +kernel)
theorem kw_885 : Cond.methodLink RX8 62 yX8_number ∈ zW := zwI (i := 885) (by decide +kernel) (by decide +kernel)
theorem kw_886 : Cond.instanceMethod yX8_number ∈ zW := zwI (i := 886) (by decide +kernel) (by decide +kernel)
theorem kw_887 : Cond.selects RX8 yX8_number yX8_number ∈ zW := zwI (i := 887) (by decide +kernel) (by decide +kernel)
theorem kw_888 : Cond.code yX8_number cX8_number 4 (some .int) ∈ zW := zwI (i := 888) (by decide +kernel) (by decide +kernel)
theorem kw_895 : Cond.methodLink RX8 72 yX8_expect ∈ zW := zwI (i := 895) (by decide +kernel) (by decide +kernel)
theorem kw_896 : Cond.instanceMethod yX8_expect ∈ zW := zwI (i := 896) (by decide +kernel) (by decide +kernel)
theorem kw_897 : Cond.selects RX8 yX8_expect yX8_expect ∈ zW := zwI (i := 897) (by decide +kernel) (by decide +kernel)
theorem kw_898 : Cond.code yX8_expect cX8_expect 2 none ∈ zW := zwI (i := 898) (by decide +kernel) (by decide +kernel)
theorem dX8_readSides_0 : decode cX8_readSides 0 = .ok (.aload_n 1, 1) := by decide +kernel
theorem dX8_readSides_1 : decode cX8_readSides 1 = .ok (.aload_n 0, 1) := by decide +kernel
theorem dX8_readSides_2 : decode cX8_readSides 2 = .ok (.iconst 2, 1) := by decide +kernel
theorem dX8_readSides_3 : decode cX8_readSides 3 = .ok (.invokevirtual 62, 3) := by decide +kernel
theorem dX8_readSides_6 : decode cX8_readSides 6 = .ok (.putfield 66, 3) := by decide +kernel
theorem dX8_readSides_9 : decode cX8_readSides 9 = .ok (.aload_n 0, 1) := by decide +kernel
theorem dX8_readSides_10 : decode cX8_readSides 10 = .ok (.aload_n 1, 1) := by decide +kernel
theorem dX8_readSides_11 : decode cX8_readSides 11 = .ok (.getfield 66, 3) := by decide +kernel
theorem dX8_readSides_14 : decode cX8_readSides 14 = .ok (.bipush 20, 2) := by decide +kernel
theorem dX8_readSides_16 : decode cX8_readSides 16 = .ok (.if_icmp .ge 7, 3) := by decide +kernel
theorem dX8_readSides_19 : decode cX8_readSides 19 = .ok (.iconst 1, 1) := by decide +kernel
theorem dX8_readSides_20 : decode cX8_readSides 20 = .ok (.goto 4, 3) := by decide +kernel
theorem dX8_readSides_23 : decode cX8_readSides 23 = .ok (.iconst 0, 1) := by decide +kernel
theorem dX8_readSides_24 : decode cX8_readSides 24 = .ok (.aload_n 0, 1) := by decide +kernel
theorem dX8_readSides_25 : decode cX8_readSides 25 = .ok (.getfield 69, 3) := by decide +kernel
theorem dX8_readSides_28 : decode cX8_readSides 28 = .ok (.invokevirtual 48, 3) := by decide +kernel
theorem dX8_readSides_31 : decode cX8_readSides 31 = .ok (.aload_n 0, 1) := by decide +kernel
theorem dX8_readSides_32 : decode cX8_readSides 32 = .ok (.bipush 62, 2) := by decide +kernel
theorem dX8_readSides_34 : decode cX8_readSides 34 = .ok (.invokevirtual 72, 3) := by decide +kernel
theorem dX8_readSides_37 : decode cX8_readSides 37 = .ok (.aload_n 1, 1) := by decide +kernel
theorem dX8_readSides_38 : decode cX8_readSides 38 = .ok (.aload_n 0, 1) := by decide +kernel
theorem dX8_readSides_39 : decode cX8_readSides 39 = .ok (.iconst 2, 1) := by decide +kernel
theorem dX8_readSides_40 : decode cX8_readSides 40 = .ok (.invokevirtual 62, 3) := by decide +kernel
theorem dX8_readSides_43 : decode cX8_readSides 43 = .ok (.putfield 76, 3) := by decide +kernel
theorem dX8_readSides_46 : decode cX8_readSides 46 = .ok (.aload_n 0, 1) := by decide +kernel
theorem dX8_readSides_47 : decode cX8_readSides 47 = .ok (.aload_n 1, 1) := by decide +kernel
theorem dX8_readSides_48 : decode cX8_readSides 48 = .ok (.getfield 76, 3) := by decide +kernel
theorem dX8_readSides_51 : decode cX8_readSides 51 = .ok (.bipush 20, 2) := by decide +kernel
theorem dX8_readSides_53 : decode cX8_readSides 53 = .ok (.if_icmp .ge 18, 3) := by decide +kernel
theorem dX8_readSides_56 : decode cX8_readSides 56 = .ok (.aload_n 1, 1) := by decide +kernel
theorem dX8_readSides_57 : decode cX8_readSides 57 = .ok (.getfield 76, 3) := by decide +kernel
theorem dX8_readSides_60 : decode cX8_readSides 60 = .ok (.aload_n 1, 1) := by decide +kernel
theorem dX8_readSides_61 : decode cX8_readSides 61 = .ok (.getfield 66, 3) := by decide +kernel
theorem dX8_readSides_64 : decode cX8_readSides 64 = .ok (.if_icmp .eq 7, 3) := by decide +kernel
theorem dX8_readSides_67 : decode cX8_readSides 67 = .ok (.iconst 1, 1) := by decide +kernel
theorem dX8_readSides_68 : decode cX8_readSides 68 = .ok (.goto 4, 3) := by decide +kernel
theorem dX8_readSides_71 : decode cX8_readSides 71 = .ok (.iconst 0, 1) := by decide +kernel
theorem dX8_readSides_72 : decode cX8_readSides 72 = .ok (.aload_n 0, 1) := by decide +kernel
theorem dX8_readSides_73 : decode cX8_readSides 73 = .ok (.getfield 69, 3) := by decide +kernel
theorem dX8_readSides_76 : decode cX8_readSides 76 = .ok (.invokevirtual 48, 3) := by decide +kernel
theorem dX8_readSides_79 : decode cX8_readSides 79 = .ok (.aload_n 0, 1) := by decide +kernel
theorem dX8_readSides_80 : decode cX8_readSides 80 = .ok (.bipush 58, 2) := by decide +kernel
theorem dX8_readSides_82 : decode cX8_readSides 82 = .ok (.invokevirtual 72, 3) := by decide +kernel
theorem dX8_readSides_85 : decode cX8_readSides 85 = .ok (.return_, 1) := by decide +kernel
abbrev z_X8_readSides : List Cond := .code yX8_readSides cX8_readSides 2 none :: zW
abbrev wl_X8_readSides (ad : Nat → Nat) (cs : Nat → ClassId) (h_su : Nat) (h_su_asked : Nat) (tape_size : Int32) (tape_bytes : Nat → Int32) (sr_at : Int32) (sr_numberAt : Int32) (sr_fault : Int32) (su_who : Int32) (su_against : Int32) (su_kind : Int32) (su_won : Int32) (su_day : Int32) (su_land : Int32) (su_undoneFrom : Int32) (su_askedCount : Int32) (su_askedBits : Int32) (su_first : Int32) (su_foundSo : Int32) (su_foundNot : Int32) (su_fought : Int32) (su_needed : Int32) : va_W := [((ad 23), .inr (9, [.ref (ad 24), .int tape_size])), ((ad 24), .inl (cs 0, 120, .inl tape_bytes)), ((ad 25), .inr (8, [.ref (ad 23), .null, .int sr_at, .int sr_numberAt, .int sr_fault])), (h_su, .inr (7, [.int su_who, .int su_against, .int su_kind, .int su_won, .int su_day, .int su_land, .int su_undoneFrom, .ref h_su_asked, .int su_askedCount, .int su_askedBits, .int su_first, .int su_foundSo, .int su_foundNot, .int su_fought, .int su_needed]))]
def Q_X8_readSides (D : va_G) (cs : Nat → ClassId) (ad : Nat → Nat) (h_su : Nat) (h_su_asked : Nat) (tape_size : Int32) (tape_bytes : Nat → Int32) (su_kind : Int32) (su_won : Int32) (su_day : Int32) (su_land : Int32) (su_undoneFrom : Int32) (su_askedCount : Int32) (su_askedBits : Int32) (su_first : Int32) (su_foundSo : Int32) (su_foundNot : Int32) (su_fought : Int32) (su_needed : Int32) (A : Nat → Prop) (R : Int32 × Int32 × Int32 × Int32 × Int32) : Array Value → State → Outcome → State → Prop :=
  va_Qv (fun u : Int32 × Int32 × Int32 × Int32 × Int32 => u = R) (fun (u : Int32 × Int32 × Int32 × Int32 × Int32) (t : State) => va_P D classes (wl_X8_readSides ad cs h_su h_su_asked tape_size tape_bytes u.1 u.2.1 u.2.2.1 u.2.2.2.1 u.2.2.2.2 su_kind su_won su_day su_land su_undoneFrom su_askedCount su_askedBits su_first su_foundSo su_foundNot su_fought su_needed) t.heap ∧ va_D A (wl_X8_readSides ad cs h_su h_su_asked tape_size tape_bytes u.1 u.2.1 u.2.2.1 u.2.2.2.1 u.2.2.2.2 su_kind su_won su_day su_land su_undoneFrom su_askedCount su_askedBits su_first su_foundSo su_foundNot su_fought su_needed)) A
abbrev rm_X8_readSides : Room := { frames := 3, cells := 0, slots := 0, locals := 66 }
theorem g_X8_62 : GoodIn zW (wsV RX8 62 RX8 yX8_number z_X8_number) := zGV kw_885 kw_886 kw_887 kw_79 kw_888
theorem g_X8_72 : GoodIn zW (wsV RX8 72 RX8 yX8_expect z_X8_expect) := zGV kw_895 kw_896 kw_897 kw_79 kw_898
def B_X8_readSides_72    (tape_size : Int32) (tape_bytes : Nat → Int32) (su_kind : Int32) (su_won : Int32) (su_day : Int32) (su_land : Int32) (su_undoneFrom : Int32) (su_askedCount : Int32) (su_askedBits : Int32) (su_first : Int32) (su_foundSo : Int32) (su_foundNot : Int32) (su_fought : Int32) (su_needed : Int32) (s0 : Int32) (sr_at : Int32) (sr_numberAt : Int32) (sr_fault : Int32) (su_who : Int32) (su_against : Int32) : Option (Int32 × Int32 × Int32 × Int32 × Int32) :=
  (zk_b1 (f_X8_judge s0 sr_numberAt sr_at sr_numberAt sr_fault) (fun u_19 => (zk_b2 (f_X8_expect (58 : Int32) tape_size tape_bytes sr_at sr_numberAt u_19) (fun u_21 u_22 => (some (u_21, sr_numberAt, u_22, su_who, su_against))))))
def B_X8_readSides_71    (tape_size : Int32) (tape_bytes : Nat → Int32) (su_kind : Int32) (su_won : Int32) (su_day : Int32) (su_land : Int32) (su_undoneFrom : Int32) (su_askedCount : Int32) (su_askedBits : Int32) (su_first : Int32) (su_foundSo : Int32) (su_foundNot : Int32) (su_fought : Int32) (su_needed : Int32) (sr_at : Int32) (sr_numberAt : Int32) (sr_fault : Int32) (su_who : Int32) (su_against : Int32) : Option (Int32 × Int32 × Int32 × Int32 × Int32) :=
  (B_X8_readSides_72 tape_size tape_bytes su_kind su_won su_day su_land su_undoneFrom su_askedCount su_askedBits su_first su_foundSo su_foundNot su_fought su_needed (0 : Int32) sr_at sr_numberAt sr_fault su_who su_against)
def B_X8_readSides_24    (tape_size : Int32) (tape_bytes : Nat → Int32) (su_kind : Int32) (su_won : Int32) (su_day : Int32) (su_land : Int32) (su_undoneFrom : Int32) (su_askedCount : Int32) (su_askedBits : Int32) (su_first : Int32) (su_foundSo : Int32) (su_foundNot : Int32) (su_fought : Int32) (su_needed : Int32) (s0 : Int32) (sr_at : Int32) (sr_numberAt : Int32) (sr_fault : Int32) (su_who : Int32) (su_against : Int32) : Option (Int32 × Int32 × Int32 × Int32 × Int32) :=
  (zk_b1 (f_X8_judge s0 sr_numberAt sr_at sr_numberAt sr_fault) (fun u_7 => (zk_b2 (f_X8_expect (62 : Int32) tape_size tape_bytes sr_at sr_numberAt u_7) (fun u_9 u_10 => (zk_b4 (f_X8_number 4000 (2 : Int32) tape_size tape_bytes u_9 sr_numberAt u_10) (fun r_12 u_13 u_14 u_15 => (if (20 : Int32) ≤ r_12 then (B_X8_readSides_71 tape_size tape_bytes su_kind su_won su_day su_land su_undoneFrom su_askedCount su_askedBits su_first su_foundSo su_foundNot su_fought su_needed u_13 u_14 u_15 su_who r_12) else (if r_12 = su_who then (B_X8_readSides_71 tape_size tape_bytes su_kind su_won su_day su_land su_undoneFrom su_askedCount su_askedBits su_first su_foundSo su_foundNot su_fought su_needed u_13 u_14 u_15 su_who r_12) else (B_X8_readSides_72 tape_size tape_bytes su_kind su_won su_day su_land su_undoneFrom su_askedCount su_askedBits su_first su_foundSo su_foundNot su_fought su_needed (1 : Int32) u_13 u_14 u_15 su_who r_12)))))))))
def B_X8_readSides_0    (tape_size : Int32) (tape_bytes : Nat → Int32) (su_kind : Int32) (su_won : Int32) (su_day : Int32) (su_land : Int32) (su_undoneFrom : Int32) (su_askedCount : Int32) (su_askedBits : Int32) (su_first : Int32) (su_foundSo : Int32) (su_foundNot : Int32) (su_fought : Int32) (su_needed : Int32) (sr_at : Int32) (sr_numberAt : Int32) (sr_fault : Int32) (su_who : Int32) (su_against : Int32) : Option (Int32 × Int32 × Int32 × Int32 × Int32) :=
  (zk_b4 (f_X8_number 4000 (2 : Int32) tape_size tape_bytes sr_at sr_numberAt sr_fault) (fun r_1 u_2 u_3 u_4 => (if (20 : Int32) ≤ r_1 then (B_X8_readSides_24 tape_size tape_bytes su_kind su_won su_day su_land su_undoneFrom su_askedCount su_askedBits su_first su_foundSo su_foundNot su_fought su_needed (0 : Int32) u_2 u_3 u_4 r_1 su_against) else (B_X8_readSides_24 tape_size tape_bytes su_kind su_won su_day su_land su_undoneFrom su_askedCount su_askedBits su_first su_foundSo su_foundNot su_fought su_needed (1 : Int32) u_2 u_3 u_4 r_1 su_against))))
def f_X8_readSides    (tape_size : Int32) (tape_bytes : Nat → Int32) (sr_at : Int32) (sr_numberAt : Int32) (sr_fault : Int32) (su_who : Int32) (su_against : Int32) (su_kind : Int32) (su_won : Int32) (su_day : Int32) (su_land : Int32) (su_undoneFrom : Int32) (su_askedCount : Int32) (su_askedBits : Int32) (su_first : Int32) (su_foundSo : Int32) (su_foundNot : Int32) (su_fought : Int32) (su_needed : Int32) : Option (Int32 × Int32 × Int32 × Int32 × Int32) := B_X8_readSides_0   tape_size tape_bytes su_kind su_won su_day su_land su_undoneFrom su_askedCount su_askedBits su_first su_foundSo su_foundNot su_fought su_needed  sr_at sr_numberAt sr_fault su_who su_against
set_option maxHeartbeats 4000000 in
set_option maxRecDepth 100000 in
theorem L_X8_readSides_72 {p : Program} {l : Launch} {e : Env} {s : State} {m : MethodId} {args : Array Value} {below : List Frame} {meth : Method} {c : Code} {A : Nat → Prop} {D : va_G} {cs : Nat → ClassId} {ad : Nat → Nat} {h_su : Nat} {h_su_asked : Nat} {tape_size : Int32} {tape_bytes : Nat → Int32} {su_kind : Int32} {su_won : Int32} {su_day : Int32} {su_land : Int32} {su_undoneFrom : Int32} {su_askedCount : Int32} {su_askedBits : Int32} {su_first : Int32} {su_foundSo : Int32} {su_foundNot : Int32} {su_fought : Int32} {su_needed : Int32} {R : Int32 × Int32 × Int32 × Int32 × Int32} (C0 : zC p s m args meth c cX8_readSides 2 none RX8 zW) (hK : va_K D classes (zT cs) s) (hA : ∀ q : Nat, s.heap.size ≤ q → A q) (s0 : Int32) (sr_at : Int32) (sr_numberAt : Int32) (sr_fault : Int32) (su_who : Int32) (su_against : Int32) (h : B_X8_readSides_72 tape_size tape_bytes su_kind su_won su_day su_land su_undoneFrom su_askedCount su_askedBits su_first su_foundSo su_foundNot su_fought su_needed s0 sr_at sr_numberAt sr_fault su_who su_against = some R) (H : Heap) (locs : List Loc) (ls : Array Slot) (hP : va_P D classes (wl_X8_readSides ad cs h_su h_su_asked tape_size tape_bytes sr_at sr_numberAt sr_fault su_who su_against su_kind su_won su_day su_land su_undoneFrom su_askedCount su_askedBits su_first su_foundSo su_foundNot su_fought su_needed) H) (hD : va_D A (wl_X8_readSides ad cs h_su h_su_asked tape_size tape_bytes sr_at sr_numberAt sr_fault su_who su_against su_kind su_won su_day su_land su_undoneFrom su_askedCount su_askedBits su_first su_foundSo su_foundNot su_fought su_needed)) (hS : va_S A s.heap H locs) (hl : lv_has ls 2 [(0, .ref (ad 25))]) : W p l e rm_X8_readSides s m args below meth c H locs 0 0 (MQ below (Q_X8_readSides D cs ad h_su h_su_asked tape_size tape_bytes su_kind su_won su_day su_land su_undoneFrom su_askedCount su_askedBits su_first su_foundSo su_foundNot su_fought su_needed A R) args s 0 0 A) (F0 m 72 ls [.int s0, .ref (ad 25)]) := by
  obtain ⟨hx, hb, hr, hml, hown, ht, hlocks⟩ := id C0
  refine lv_aload_n hx hb dX8_readSides_72 rfl (lv_at hl 0 rfl) ?_
  refine va_get (D := D) (ci := 8) (v := .int sr_numberAt) (C := RX8) (T := TX8) (N := 5) hx hb ht iX8 hown hK hP 2 rfl rfl 3 (by decide) (ht _ kw_254) (fun _ h9 => h9) rfl dX8_readSides_73 ?_
  obtain ⟨u_19, hc_20, h⟩ := zk_o1 h
  refine zk_vv (post := (fun u => u = u_19)) (w1 := fun u => (wl_X8_judge ad cs sr_at sr_numberAt u)) (As := [.int s0, .int sr_numberAt]) (rest := []) (c_X8_judge l D cs ad  H.size s0 sr_numberAt sr_at sr_numberAt sr_fault _ hc_20) ⟨hx, hb, hml, hown, ht⟩ (cwV 2 ht g_X8_48 rfl rfl rfl (by decide +kernel) ⟨Nat.le_of_ble_eq_true rfl, Nat.le_of_ble_eq_true rfl⟩) (va_recv hK hP (ci := 8) (q0 := 2) rfl rfl) hP hD hS hK hA [2] [0, 1, 3] rfl rfl rfl rfl (by decide) rfl hl.1 (Nat.le_of_ble_eq_true rfl) dX8_readSides_76 ⟨Nat.zero_le _, Nat.zero_le _⟩ (fun u H locs hq hP hD hS => ?_)
  cases hq
  have hP : va_P D classes (wl_X8_readSides ad cs h_su h_su_asked tape_size tape_bytes sr_at sr_numberAt u_19 su_who su_against su_kind su_won su_day su_land su_undoneFrom su_askedCount su_askedBits su_first su_foundSo su_foundNot su_fought su_needed) H := hP.sub [0, 1, 3, 2] rfl
  have hD : va_D A (wl_X8_readSides ad cs h_su h_su_asked tape_size tape_bytes sr_at sr_numberAt u_19 su_who su_against su_kind su_won su_day su_land su_undoneFrom su_askedCount su_askedBits su_first su_foundSo su_foundNot su_fought su_needed) := hD.sub [0, 1, 3, 2] rfl rfl
  refine lv_aload_n hx hb dX8_readSides_79 rfl (lv_at hl 0 rfl) ?_
  refine lv_bipush (v := (58 : Int32)) hx hb dX8_readSides_80 (by decide) ?_
  obtain ⟨u_21, u_22, hc_23, h⟩ := zk_o2 h
  refine zk_vv (post := (fun u => u = (u_21, u_22))) (w1 := fun u => (wl_X8_expect ad cs tape_size tape_bytes u.1 sr_numberAt u.2)) (As := [.int (58 : Int32)]) (rest := []) (c_X8_expect l D cs ad  H.size (58 : Int32) tape_size tape_bytes sr_at sr_numberAt u_19 _ hc_23) ⟨hx, hb, hml, hown, ht⟩ (cwV 1 ht g_X8_72 rfl rfl rfl (by decide +kernel) ⟨Nat.le_of_ble_eq_true rfl, Nat.le_of_ble_eq_true rfl⟩) (va_recv hK hP (ci := 8) (q0 := 2) rfl rfl) hP hD hS hK hA [0, 1, 2] [3] rfl rfl rfl rfl (by decide) rfl hl.1 (Nat.le_of_ble_eq_true rfl) dX8_readSides_82 ⟨Nat.zero_le _, Nat.zero_le _⟩ (fun u H locs hq hP hD hS => ?_)
  cases hq
  have hP : va_P D classes (wl_X8_readSides ad cs h_su h_su_asked tape_size tape_bytes u_21 sr_numberAt u_22 su_who su_against su_kind su_won su_day su_land su_undoneFrom su_askedCount su_askedBits su_first su_foundSo su_foundNot su_fought su_needed) H := hP.sub [1, 2, 3, 0] rfl
  have hD : va_D A (wl_X8_readSides ad cs h_su h_su_asked tape_size tape_bytes u_21 sr_numberAt u_22 su_who su_against su_kind su_won su_day su_land su_undoneFrom su_askedCount su_askedBits su_first su_foundSo su_foundNot su_fought su_needed) := hD.sub [1, 2, 3, 0] rfl rfl
  exact W.vret hx hb hr (fun t ht2 hW => ⟨⟨(u_21, sr_numberAt, u_22, su_who, su_against), rfl, Option.some.inj h, by rw [ht2]; exact hP, hD⟩, hS.F ht2⟩) hS.2.2 dX8_readSides_85 hlocks
set_option maxHeartbeats 4000000 in
set_option maxRecDepth 100000 in
theorem L_X8_readSides_71 {p : Program} {l : Launch} {e : Env} {s : State} {m : MethodId} {args : Array Value} {below : List Frame} {meth : Method} {c : Code} {A : Nat → Prop} {D : va_G} {cs : Nat → ClassId} {ad : Nat → Nat} {h_su : Nat} {h_su_asked : Nat} {tape_size : Int32} {tape_bytes : Nat → Int32} {su_kind : Int32} {su_won : Int32} {su_day : Int32} {su_land : Int32} {su_undoneFrom : Int32} {su_askedCount : Int32} {su_askedBits : Int32} {su_first : Int32} {su_foundSo : Int32} {su_foundNot : Int32} {su_fought : Int32} {su_needed : Int32} {R : Int32 × Int32 × Int32 × Int32 × Int32} (C0 : zC p s m args meth c cX8_readSides 2 none RX8 zW) (hK : va_K D classes (zT cs) s) (hA : ∀ q : Nat, s.heap.size ≤ q → A q) (sr_at : Int32) (sr_numberAt : Int32) (sr_fault : Int32) (su_who : Int32) (su_against : Int32) (h : B_X8_readSides_71 tape_size tape_bytes su_kind su_won su_day su_land su_undoneFrom su_askedCount su_askedBits su_first su_foundSo su_foundNot su_fought su_needed sr_at sr_numberAt sr_fault su_who su_against = some R) (H : Heap) (locs : List Loc) (ls : Array Slot) (hP : va_P D classes (wl_X8_readSides ad cs h_su h_su_asked tape_size tape_bytes sr_at sr_numberAt sr_fault su_who su_against su_kind su_won su_day su_land su_undoneFrom su_askedCount su_askedBits su_first su_foundSo su_foundNot su_fought su_needed) H) (hD : va_D A (wl_X8_readSides ad cs h_su h_su_asked tape_size tape_bytes sr_at sr_numberAt sr_fault su_who su_against su_kind su_won su_day su_land su_undoneFrom su_askedCount su_askedBits su_first su_foundSo su_foundNot su_fought su_needed)) (hS : va_S A s.heap H locs) (hl : lv_has ls 2 [(0, .ref (ad 25))]) : W p l e rm_X8_readSides s m args below meth c H locs 0 0 (MQ below (Q_X8_readSides D cs ad h_su h_su_asked tape_size tape_bytes su_kind su_won su_day su_land su_undoneFrom su_askedCount su_askedBits su_first su_foundSo su_foundNot su_fought su_needed A R) args s 0 0 A) (F0 m 71 ls [.ref (ad 25)]) := by
  obtain ⟨hx, hb, hr, hml, hown, ht, hlocks⟩ := id C0
  refine lv_iconst (v := (0 : Int32)) hx hb dX8_readSides_71 (by decide) ?_
  exact L_X8_readSides_72 C0 hK hA   (0 : Int32) sr_at sr_numberAt sr_fault su_who su_against h H locs ls hP hD hS (lv_sub hl [0] rfl)
set_option maxHeartbeats 4000000 in
set_option maxRecDepth 100000 in
theorem L_X8_readSides_24 {p : Program} {l : Launch} {e : Env} {s : State} {m : MethodId} {args : Array Value} {below : List Frame} {meth : Method} {c : Code} {A : Nat → Prop} {D : va_G} {cs : Nat → ClassId} {ad : Nat → Nat} {h_su : Nat} {h_su_asked : Nat} {tape_size : Int32} {tape_bytes : Nat → Int32} {su_kind : Int32} {su_won : Int32} {su_day : Int32} {su_land : Int32} {su_undoneFrom : Int32} {su_askedCount : Int32} {su_askedBits : Int32} {su_first : Int32} {su_foundSo : Int32} {su_foundNot : Int32} {su_fought : Int32} {su_needed : Int32} {R : Int32 × Int32 × Int32 × Int32 × Int32} (C0 : zC p s m args meth c cX8_readSides 2 none RX8 zW) (hK : va_K D classes (zT cs) s) (hA : ∀ q : Nat, s.heap.size ≤ q → A q) (s0 : Int32) (sr_at : Int32) (sr_numberAt : Int32) (sr_fault : Int32) (su_who : Int32) (su_against : Int32) (h : B_X8_readSides_24 tape_size tape_bytes su_kind su_won su_day su_land su_undoneFrom su_askedCount su_askedBits su_first su_foundSo su_foundNot su_fought su_needed s0 sr_at sr_numberAt sr_fault su_who su_against = some R) (H : Heap) (locs : List Loc) (ls : Array Slot) (hP : va_P D classes (wl_X8_readSides ad cs h_su h_su_asked tape_size tape_bytes sr_at sr_numberAt sr_fault su_who su_against su_kind su_won su_day su_land su_undoneFrom su_askedCount su_askedBits su_first su_foundSo su_foundNot su_fought su_needed) H) (hD : va_D A (wl_X8_readSides ad cs h_su h_su_asked tape_size tape_bytes sr_at sr_numberAt sr_fault su_who su_against su_kind su_won su_day su_land su_undoneFrom su_askedCount su_askedBits su_first su_foundSo su_foundNot su_fought su_needed)) (hS : va_S A s.heap H locs) (hl : lv_has ls 2 [(0, .ref (ad 25)), (1, .ref h_su)]) : W p l e rm_X8_readSides s m args below meth c H locs 0 0 (MQ below (Q_X8_readSides D cs ad h_su h_su_asked tape_size tape_bytes su_kind su_won su_day su_land su_undoneFrom su_askedCount su_askedBits su_first su_foundSo su_foundNot su_fought su_needed A R) args s 0 0 A) (F0 m 24 ls [.int s0, .ref (ad 25)]) := by
  obtain ⟨hx, hb, hr, hml, hown, ht, hlocks⟩ := id C0
  refine lv_aload_n hx hb dX8_readSides_24 rfl (lv_at hl 0 rfl) ?_
  refine va_get (D := D) (ci := 8) (v := .int sr_numberAt) (C := RX8) (T := TX8) (N := 5) hx hb ht iX8 hown hK hP 2 rfl rfl 3 (by decide) (ht _ kw_254) (fun _ h9 => h9) rfl dX8_readSides_25 ?_
  obtain ⟨u_7, hc_8, h⟩ := zk_o1 h
  refine zk_vv (post := (fun u => u = u_7)) (w1 := fun u => (wl_X8_judge ad cs sr_at sr_numberAt u)) (As := [.int s0, .int sr_numberAt]) (rest := []) (c_X8_judge l D cs ad  H.size s0 sr_numberAt sr_at sr_numberAt sr_fault _ hc_8) ⟨hx, hb, hml, hown, ht⟩ (cwV 2 ht g_X8_48 rfl rfl rfl (by decide +kernel) ⟨Nat.le_of_ble_eq_true rfl, Nat.le_of_ble_eq_true rfl⟩) (va_recv hK hP (ci := 8) (q0 := 2) rfl rfl) hP hD hS hK hA [2] [0, 1, 3] rfl rfl rfl rfl (by decide) rfl hl.1 (Nat.le_of_ble_eq_true rfl) dX8_readSides_28 ⟨Nat.zero_le _, Nat.zero_le _⟩ (fun u H locs hq hP hD hS => ?_)
  cases hq
  have hP : va_P D classes (wl_X8_readSides ad cs h_su h_su_asked tape_size tape_bytes sr_at sr_numberAt u_7 su_who su_against su_kind su_won su_day su_land su_undoneFrom su_askedCount su_askedBits su_first su_foundSo su_foundNot su_fought su_needed) H := hP.sub [0, 1, 3, 2] rfl
  have hD : va_D A (wl_X8_readSides ad cs h_su h_su_asked tape_size tape_bytes sr_at sr_numberAt u_7 su_who su_against su_kind su_won su_day su_land su_undoneFrom su_askedCount su_askedBits su_first su_foundSo su_foundNot su_fought su_needed) := hD.sub [0, 1, 3, 2] rfl rfl
  refine lv_aload_n hx hb dX8_readSides_31 rfl (lv_at hl 0 rfl) ?_
  refine lv_bipush (v := (62 : Int32)) hx hb dX8_readSides_32 (by decide) ?_
  obtain ⟨u_9, u_10, hc_11, h⟩ := zk_o2 h
  refine zk_vv (post := (fun u => u = (u_9, u_10))) (w1 := fun u => (wl_X8_expect ad cs tape_size tape_bytes u.1 sr_numberAt u.2)) (As := [.int (62 : Int32)]) (rest := []) (c_X8_expect l D cs ad  H.size (62 : Int32) tape_size tape_bytes sr_at sr_numberAt u_7 _ hc_11) ⟨hx, hb, hml, hown, ht⟩ (cwV 1 ht g_X8_72 rfl rfl rfl (by decide +kernel) ⟨Nat.le_of_ble_eq_true rfl, Nat.le_of_ble_eq_true rfl⟩) (va_recv hK hP (ci := 8) (q0 := 2) rfl rfl) hP hD hS hK hA [0, 1, 2] [3] rfl rfl rfl rfl (by decide) rfl hl.1 (Nat.le_of_ble_eq_true rfl) dX8_readSides_34 ⟨Nat.zero_le _, Nat.zero_le _⟩ (fun u H locs hq hP hD hS => ?_)
  cases hq
  have hP : va_P D classes (wl_X8_readSides ad cs h_su h_su_asked tape_size tape_bytes u_9 sr_numberAt u_10 su_who su_against su_kind su_won su_day su_land su_undoneFrom su_askedCount su_askedBits su_first su_foundSo su_foundNot su_fought su_needed) H := hP.sub [1, 2, 3, 0] rfl
  have hD : va_D A (wl_X8_readSides ad cs h_su h_su_asked tape_size tape_bytes u_9 sr_numberAt u_10 su_who su_against su_kind su_won su_day su_land su_undoneFrom su_askedCount su_askedBits su_first su_foundSo su_foundNot su_fought su_needed) := hD.sub [1, 2, 3, 0] rfl rfl
  refine lv_aload_n hx hb dX8_readSides_37 rfl (lv_at hl 1 rfl) ?_
  refine lv_aload_n hx hb dX8_readSides_38 rfl (lv_at hl 0 rfl) ?_
  refine lv_iconst (v := (2 : Int32)) hx hb dX8_readSides_39 (by decide) ?_
  obtain ⟨r_12, u_13, u_14, u_15, hc_16, h⟩ := zk_o4 h
  refine zk_vi (post := (fun r u => (r, u) = (r_12, u_13, u_14, u_15))) (w1 := fun u => (wl_X8_number ad cs tape_size tape_bytes u.1 u.2.1 u.2.2)) (As := [.int (2 : Int32)]) (rest := [.ref h_su]) (c_X8_number l D cs ad  H.size 4000 (2 : Int32) tape_size tape_bytes u_9 sr_numberAt u_10 _ hc_16) ⟨hx, hb, hml, hown, ht⟩ (cwV 1 ht g_X8_62 rfl rfl rfl (by decide +kernel) ⟨Nat.le_of_ble_eq_true rfl, Nat.le_of_ble_eq_true rfl⟩) (va_recv hK hP (ci := 8) (q0 := 2) rfl rfl) hP hD hS hK hA [0, 1, 2] [3] rfl rfl rfl rfl (by decide) rfl hl.1 (Nat.le_of_ble_eq_true rfl) dX8_readSides_40 ⟨Nat.zero_le _, Nat.zero_le _⟩ (fun r u H locs hq hP hD hS => ?_)
  cases hq
  have hP : va_P D classes (wl_X8_readSides ad cs h_su h_su_asked tape_size tape_bytes u_13 u_14 u_15 su_who su_against su_kind su_won su_day su_land su_undoneFrom su_askedCount su_askedBits su_first su_foundSo su_foundNot su_fought su_needed) H := hP.sub [1, 2, 3, 0] rfl
  have hD : va_D A (wl_X8_readSides ad cs h_su h_su_asked tape_size tape_bytes u_13 u_14 u_15 su_who su_against su_kind su_won su_day su_land su_undoneFrom su_askedCount su_askedBits su_first su_foundSo su_foundNot su_fought su_needed) := hD.sub [1, 2, 3, 0] rfl rfl
  refine va_put (D := D) (ci := 7) (v := .int r_12) (ty := .int) (C := RX7) (T := TX7) (N := 15) hx hb ht iX7 tyX7 tyX7_ok nmX7 hown hK hP hD hS 3 rfl rfl 1 (by decide) (ht _ kw_307) (fun _ h9 => h9) rfl (by decide +kernel) rfl rfl (Nat.le_of_ble_eq_true rfl) dX8_readSides_43 (fun H locs hP hD hS => ?_)
  have hP : va_P D classes (wl_X8_readSides ad cs h_su h_su_asked tape_size tape_bytes u_13 u_14 u_15 su_who r_12 su_kind su_won su_day su_land su_undoneFrom su_askedCount su_askedBits su_first su_foundSo su_foundNot su_fought su_needed) H := hP
  have hD : va_D A (wl_X8_readSides ad cs h_su h_su_asked tape_size tape_bytes u_13 u_14 u_15 su_who r_12 su_kind su_won su_day su_land su_undoneFrom su_askedCount su_askedBits su_first su_foundSo su_foundNot su_fought su_needed) := hD
  refine lv_aload_n hx hb dX8_readSides_46 rfl (lv_at hl 0 rfl) ?_
  refine lv_aload_n hx hb dX8_readSides_47 rfl (lv_at hl 1 rfl) ?_
  refine va_get (D := D) (ci := 7) (v := .int r_12) (C := RX7) (T := TX7) (N := 15) hx hb ht iX7 hown hK hP 3 rfl rfl 1 (by decide) (ht _ kw_307) (fun _ h9 => h9) rfl dX8_readSides_48 ?_
  refine lv_bipush (v := (20 : Int32)) hx hb dX8_readSides_51 (by decide) ?_
  refine lv_icmp_ge (tgt := 71) hx hb dX8_readSides_53 (by decide) (fun c_17 => ?_) (fun c_17 => ?_)
  · have h := zk_t c_17 h
    exact L_X8_readSides_71 C0 hK hA   u_13 u_14 u_15 su_who r_12 h H locs ls hP hD hS (lv_sub hl [0] rfl)
  · have h := zk_f c_17 h
    refine lv_aload_n hx hb dX8_readSides_56 rfl (lv_at hl 1 rfl) ?_
    refine va_get (D := D) (ci := 7) (v := .int r_12) (C := RX7) (T := TX7) (N := 15) hx hb ht iX7 hown hK hP 3 rfl rfl 1 (by decide) (ht _ kw_307) (fun _ h9 => h9) rfl dX8_readSides_57 ?_
    refine lv_aload_n hx hb dX8_readSides_60 rfl (lv_at hl 1 rfl) ?_
    refine va_get (D := D) (ci := 7) (v := .int su_who) (C := RX7) (T := TX7) (N := 15) hx hb ht iX7 hown hK hP 3 rfl rfl 0 (by decide) (ht _ kw_303) (fun _ h9 => h9) rfl dX8_readSides_61 ?_
    refine lv_icmp_eq (tgt := 71) hx hb dX8_readSides_64 (by decide) (fun c_18 => ?_) (fun c_18 => ?_)
    · have h := zk_t c_18 h
      exact L_X8_readSides_71 C0 hK hA   u_13 u_14 u_15 su_who r_12 h H locs ls hP hD hS (lv_sub hl [0] rfl)
    · have h := zk_f c_18 h
      refine lv_iconst (v := (1 : Int32)) hx hb dX8_readSides_67 (by decide) ?_
      refine lv_goto (tgt := 72) hx hb dX8_readSides_68 (by decide) ?_
      exact L_X8_readSides_72 C0 hK hA   (1 : Int32) u_13 u_14 u_15 su_who r_12 h H locs ls hP hD hS (lv_sub hl [0] rfl)
set_option maxHeartbeats 4000000 in
set_option maxRecDepth 100000 in
theorem L_X8_readSides_0 {p : Program} {l : Launch} {e : Env} {s : State} {m : MethodId} {args : Array Value} {below : List Frame} {meth : Method} {c : Code} {A : Nat → Prop} {D : va_G} {cs : Nat → ClassId} {ad : Nat → Nat} {h_su : Nat} {h_su_asked : Nat} {tape_size : Int32} {tape_bytes : Nat → Int32} {su_kind : Int32} {su_won : Int32} {su_day : Int32} {su_land : Int32} {su_undoneFrom : Int32} {su_askedCount : Int32} {su_askedBits : Int32} {su_first : Int32} {su_foundSo : Int32} {su_foundNot : Int32} {su_fought : Int32} {su_needed : Int32} {R : Int32 × Int32 × Int32 × Int32 × Int32} (C0 : zC p s m args meth c cX8_readSides 2 none RX8 zW) (hK : va_K D classes (zT cs) s) (hA : ∀ q : Nat, s.heap.size ≤ q → A q) (sr_at : Int32) (sr_numberAt : Int32) (sr_fault : Int32) (su_who : Int32) (su_against : Int32) (h : B_X8_readSides_0 tape_size tape_bytes su_kind su_won su_day su_land su_undoneFrom su_askedCount su_askedBits su_first su_foundSo su_foundNot su_fought su_needed sr_at sr_numberAt sr_fault su_who su_against = some R) (H : Heap) (locs : List Loc) (ls : Array Slot) (hP : va_P D classes (wl_X8_readSides ad cs h_su h_su_asked tape_size tape_bytes sr_at sr_numberAt sr_fault su_who su_against su_kind su_won su_day su_land su_undoneFrom su_askedCount su_askedBits su_first su_foundSo su_foundNot su_fought su_needed) H) (hD : va_D A (wl_X8_readSides ad cs h_su h_su_asked tape_size tape_bytes sr_at sr_numberAt sr_fault su_who su_against su_kind su_won su_day su_land su_undoneFrom su_askedCount su_askedBits su_first su_foundSo su_foundNot su_fought su_needed)) (hS : va_S A s.heap H locs) (hl : lv_has ls 2 [(0, .ref (ad 25)), (1, .ref h_su)]) : W p l e rm_X8_readSides s m args below meth c H locs 0 0 (MQ below (Q_X8_readSides D cs ad h_su h_su_asked tape_size tape_bytes su_kind su_won su_day su_land su_undoneFrom su_askedCount su_askedBits su_first su_foundSo su_foundNot su_fought su_needed A R) args s 0 0 A) (F0 m 0 ls []) := by
  obtain ⟨hx, hb, hr, hml, hown, ht, hlocks⟩ := id C0
  refine lv_aload_n hx hb dX8_readSides_0 rfl (lv_at hl 1 rfl) ?_
  refine lv_aload_n hx hb dX8_readSides_1 rfl (lv_at hl 0 rfl) ?_
  refine lv_iconst (v := (2 : Int32)) hx hb dX8_readSides_2 (by decide) ?_
  obtain ⟨r_1, u_2, u_3, u_4, hc_5, h⟩ := zk_o4 h
  refine zk_vi (post := (fun r u => (r, u) = (r_1, u_2, u_3, u_4))) (w1 := fun u => (wl_X8_number ad cs tape_size tape_bytes u.1 u.2.1 u.2.2)) (As := [.int (2 : Int32)]) (rest := [.ref h_su]) (c_X8_number l D cs ad  H.size 4000 (2 : Int32) tape_size tape_bytes sr_at sr_numberAt sr_fault _ hc_5) ⟨hx, hb, hml, hown, ht⟩ (cwV 1 ht g_X8_62 rfl rfl rfl (by decide +kernel) ⟨Nat.le_of_ble_eq_true rfl, Nat.le_of_ble_eq_true rfl⟩) (va_recv hK hP (ci := 8) (q0 := 2) rfl rfl) hP hD hS hK hA [0, 1, 2] [3] rfl rfl rfl rfl (by decide) rfl hl.1 (Nat.le_of_ble_eq_true rfl) dX8_readSides_3 ⟨Nat.zero_le _, Nat.zero_le _⟩ (fun r u H locs hq hP hD hS => ?_)
  cases hq
  have hP : va_P D classes (wl_X8_readSides ad cs h_su h_su_asked tape_size tape_bytes u_2 u_3 u_4 su_who su_against su_kind su_won su_day su_land su_undoneFrom su_askedCount su_askedBits su_first su_foundSo su_foundNot su_fought su_needed) H := hP.sub [1, 2, 3, 0] rfl
  have hD : va_D A (wl_X8_readSides ad cs h_su h_su_asked tape_size tape_bytes u_2 u_3 u_4 su_who su_against su_kind su_won su_day su_land su_undoneFrom su_askedCount su_askedBits su_first su_foundSo su_foundNot su_fought su_needed) := hD.sub [1, 2, 3, 0] rfl rfl
  refine va_put (D := D) (ci := 7) (v := .int r_1) (ty := .int) (C := RX7) (T := TX7) (N := 15) hx hb ht iX7 tyX7 tyX7_ok nmX7 hown hK hP hD hS 3 rfl rfl 0 (by decide) (ht _ kw_303) (fun _ h9 => h9) rfl (by decide +kernel) rfl rfl (Nat.le_of_ble_eq_true rfl) dX8_readSides_6 (fun H locs hP hD hS => ?_)
  have hP : va_P D classes (wl_X8_readSides ad cs h_su h_su_asked tape_size tape_bytes u_2 u_3 u_4 r_1 su_against su_kind su_won su_day su_land su_undoneFrom su_askedCount su_askedBits su_first su_foundSo su_foundNot su_fought su_needed) H := hP
  have hD : va_D A (wl_X8_readSides ad cs h_su h_su_asked tape_size tape_bytes u_2 u_3 u_4 r_1 su_against su_kind su_won su_day su_land su_undoneFrom su_askedCount su_askedBits su_first su_foundSo su_foundNot su_fought su_needed) := hD
  refine lv_aload_n hx hb dX8_readSides_9 rfl (lv_at hl 0 rfl) ?_
  refine lv_aload_n hx hb dX8_readSides_10 rfl (lv_at hl 1 rfl) ?_
  refine va_get (D := D) (ci := 7) (v := .int r_1) (C := RX7) (T := TX7) (N := 15) hx hb ht iX7 hown hK hP 3 rfl rfl 0 (by decide) (ht _ kw_303) (fun _ h9 => h9) rfl dX8_readSides_11 ?_
  refine lv_bipush (v := (20 : Int32)) hx hb dX8_readSides_14 (by decide) ?_
  refine lv_icmp_ge (tgt := 23) hx hb dX8_readSides_16 (by decide) (fun c_6 => ?_) (fun c_6 => ?_)
  · have h := zk_t c_6 h
    refine lv_iconst (v := (0 : Int32)) hx hb dX8_readSides_23 (by decide) ?_
    exact L_X8_readSides_24 C0 hK hA   (0 : Int32) u_2 u_3 u_4 r_1 su_against h H locs ls hP hD hS (lv_sub hl [0, 1] rfl)
  · have h := zk_f c_6 h
    refine lv_iconst (v := (1 : Int32)) hx hb dX8_readSides_19 (by decide) ?_
    refine lv_goto (tgt := 24) hx hb dX8_readSides_20 (by decide) ?_
    exact L_X8_readSides_24 C0 hK hA   (1 : Int32) u_2 u_3 u_4 r_1 su_against h H locs ls hP hD hS (lv_sub hl [0, 1] rfl)
set_option maxHeartbeats 4000000 in
set_option maxRecDepth 100000 in
theorem c_X8_readSides (l : Launch) (D : va_G) (cs : Nat → ClassId) (ad : Nat → Nat) (h_su : Nat) (h_su_asked : Nat) (sz : Nat)  (tape_size : Int32) (tape_bytes : Nat → Int32) (sr_at : Int32) (sr_numberAt : Int32) (sr_fault : Int32) (su_who : Int32) (su_against : Int32) (su_kind : Int32) (su_won : Int32) (su_day : Int32) (su_land : Int32) (su_undoneFrom : Int32) (su_askedCount : Int32) (su_askedBits : Int32) (su_first : Int32) (su_foundSo : Int32) (su_foundNot : Int32) (su_fought : Int32) (su_needed : Int32) (R : Int32 × Int32 × Int32 × Int32 × Int32) (h : f_X8_readSides    tape_size tape_bytes sr_at sr_numberAt sr_fault su_who su_against su_kind su_won su_day su_land su_undoneFrom su_askedCount su_askedBits su_first su_foundSo su_foundNot su_fought su_needed = some R) : Met l yX8_readSides (z_X8_readSides) rm_X8_readSides (va_Pc [.ref (ad 25), .ref h_su] (zPre D cs (wl_X8_readSides ad cs h_su h_su_asked tape_size tape_bytes sr_at sr_numberAt sr_fault su_who su_against su_kind su_won su_day su_land su_undoneFrom su_askedCount su_askedBits su_first su_foundSo su_foundNot su_fought su_needed) sz)) (Q_X8_readSides D cs ad h_su h_su_asked tape_size tape_bytes su_kind su_won su_day su_land su_undoneFrom su_askedCount su_askedBits su_first su_foundSo su_foundNot su_fought su_needed (va_A (wl_X8_readSides ad cs h_su h_su_asked tape_size tape_bytes sr_at sr_numberAt sr_fault su_who su_against su_kind su_won su_day su_land su_undoneFrom su_askedCount su_askedBits su_first su_foundSo su_foundNot su_fought su_needed) sz) R) 0 0 (va_A (wl_X8_readSides ad cs h_su h_su_asked tape_size tape_bytes sr_at sr_numberAt sr_fault su_who su_against su_kind su_won su_day su_land su_undoneFrom su_askedCount su_askedBits su_first su_foundSo su_foundNot su_fought su_needed) sz) := by
  refine Met.ofW (cc := cX8_readSides) (maxL := 2) (ret := none) (by decide) rfl ?_
  intro p e s m args below meth c s₁ B hml hv
  obtain ⟨rfl, hsz, hP, hK, hD0⟩ := hv
  subst hsz
  have hD := hD0.self (sz := s.heap.size)
  have C0 : zC p s m _ meth c cX8_readSides 2 none RX8 zW := ⟨B.exec, B.bytes, B.returns, hml, findClass_of_methodNamed B.named, fun w hw => atoms_spec (ws := z_X8_readSides) B.pre w (List.mem_cons_of_mem _ hw), B.notSynchronized⟩
  have hA : ∀ q : Nat, s.heap.size ≤ q → va_A (wl_X8_readSides ad cs h_su h_su_asked tape_size tape_bytes sr_at sr_numberAt sr_fault su_who su_against su_kind su_won su_day su_land su_undoneFrom su_askedCount su_askedBits su_first su_foundSo su_foundNot su_fought su_needed) s.heap.size q := fun q h => Or.inr h
  have hl := lv_entry ([.ref (ad 25), .ref h_su]) (n := 2) (Nat.le_of_ble_eq_true rfl)
  rw [lg_entry_eq]
  generalize (lg_sl ([.ref (ad 25), .ref h_su]) ++ List.replicate (2 - (lg_sl ([.ref (ad 25), .ref h_su])).length) Slot.unset).toArray = ls at hl ⊢
  exact L_X8_readSides_0 C0 hK hA    sr_at sr_numberAt sr_fault su_who su_against h s.heap [] ls hP hD va_S.rf hl
theorem kw_907 : Cond.methodLink RX8 79 yX7_hasAsked ∈ zW := zwI (i := 907) (by decide +kernel) (by decide +kernel)
theorem kw_908 : Cond.instanceMethod yX7_hasAsked ∈ zW := zwI (i := 908) (by decide +kernel) (by decide +kernel)
theorem kw_909 : Cond.selects RX7 yX7_hasAsked yX7_hasAsked ∈ zW := zwI (i := 909) (by decide +kernel) (by decide +kernel)
theorem kw_910 : Cond.code yX7_hasAsked cX7_hasAsked 2 (some .boolean) ∈ zW := zwI (i := 910) (by decide +kernel) (by decide +kernel)
theorem kw_911 : Cond.methodLink RX8 83 yX7_ask ∈ zW := zwI (i := 911) (by decide +kernel) (by decide +kernel)
theorem kw_912 : Cond.instanceMethod yX7_ask ∈ zW := zwI (i := 912) (by decide +kernel) (by decide +kernel)
theorem kw_913 : Cond.selects RX7 yX7_ask yX7_ask ∈ zW := zwI (i := 913) (by decide +kernel) (by decide +kernel)
theorem kw_914 : Cond.code yX7_ask cX7_ask 2 none ∈ zW := zwI (i := 914) (by decide +kernel) (by decide +kernel)
theorem dX8_readClaims_0 : decode cX8_readClaims 0 = .ok (.iconst 0, 1) := by decide +kernel
theorem dX8_readClaims_1 : decode cX8_readClaims 1 = .ok (.istore_n 3, 1) := by decide +kernel
theorem dX8_readClaims_2 : decode cX8_readClaims 2 = .ok (.iload_n 3, 1) := by decide +kernel
theorem dX8_readClaims_3 : decode cX8_readClaims 3 = .ok (.bipush 32, 2) := by decide +kernel
theorem dX8_readClaims_5 : decode cX8_readClaims 5 = .ok (.if_icmp .gt 74, 3) := by decide +kernel
theorem dX8_readClaims_8 : decode cX8_readClaims 8 = .ok (.aload_n 0, 1) := by decide +kernel
theorem dX8_readClaims_9 : decode cX8_readClaims 9 = .ok (.getfield 19, 3) := by decide +kernel
theorem dX8_readClaims_12 : decode cX8_readClaims 12 = .ok (.ifCond .ge 67, 3) := by decide +kernel
theorem dX8_readClaims_15 : decode cX8_readClaims 15 = .ok (.aload_n 0, 1) := by decide +kernel
theorem dX8_readClaims_16 : decode cX8_readClaims 16 = .ok (.iconst 2, 1) := by decide +kernel
theorem dX8_readClaims_17 : decode cX8_readClaims 17 = .ok (.invokevirtual 62, 3) := by decide +kernel
theorem dX8_readClaims_20 : decode cX8_readClaims 20 = .ok (.istore 4, 2) := by decide +kernel
theorem dX8_readClaims_22 : decode cX8_readClaims 22 = .ok (.aload_n 0, 1) := by decide +kernel
theorem dX8_readClaims_23 : decode cX8_readClaims 23 = .ok (.iload 4, 2) := by decide +kernel
theorem dX8_readClaims_25 : decode cX8_readClaims 25 = .ok (.iload_n 2, 1) := by decide +kernel
theorem dX8_readClaims_26 : decode cX8_readClaims 26 = .ok (.if_icmp .ge 16, 3) := by decide +kernel
theorem dX8_readClaims_29 : decode cX8_readClaims 29 = .ok (.aload_n 1, 1) := by decide +kernel
theorem dX8_readClaims_30 : decode cX8_readClaims 30 = .ok (.iload 4, 2) := by decide +kernel
theorem dX8_readClaims_32 : decode cX8_readClaims 32 = .ok (.invokevirtual 79, 3) := by decide +kernel
theorem dX8_readClaims_35 : decode cX8_readClaims 35 = .ok (.ifCond .ne 7, 3) := by decide +kernel
theorem dX8_readClaims_38 : decode cX8_readClaims 38 = .ok (.iconst 1, 1) := by decide +kernel
theorem dX8_readClaims_39 : decode cX8_readClaims 39 = .ok (.goto 4, 3) := by decide +kernel
theorem dX8_readClaims_42 : decode cX8_readClaims 42 = .ok (.iconst 0, 1) := by decide +kernel
theorem dX8_readClaims_43 : decode cX8_readClaims 43 = .ok (.aload_n 0, 1) := by decide +kernel
theorem dX8_readClaims_44 : decode cX8_readClaims 44 = .ok (.getfield 69, 3) := by decide +kernel
theorem dX8_readClaims_47 : decode cX8_readClaims 47 = .ok (.invokevirtual 48, 3) := by decide +kernel
theorem dX8_readClaims_50 : decode cX8_readClaims 50 = .ok (.aload_n 0, 1) := by decide +kernel
theorem dX8_readClaims_51 : decode cX8_readClaims 51 = .ok (.getfield 19, 3) := by decide +kernel
theorem dX8_readClaims_54 : decode cX8_readClaims 54 = .ok (.ifCond .ge 9, 3) := by decide +kernel
theorem dX8_readClaims_57 : decode cX8_readClaims 57 = .ok (.aload_n 1, 1) := by decide +kernel
theorem dX8_readClaims_58 : decode cX8_readClaims 58 = .ok (.iload 4, 2) := by decide +kernel
theorem dX8_readClaims_60 : decode cX8_readClaims 60 = .ok (.invokevirtual 83, 3) := by decide +kernel
theorem dX8_readClaims_63 : decode cX8_readClaims 63 = .ok (.aload_n 0, 1) := by decide +kernel
theorem dX8_readClaims_64 : decode cX8_readClaims 64 = .ok (.bipush 44, 2) := by decide +kernel
theorem dX8_readClaims_66 : decode cX8_readClaims 66 = .ok (.invokevirtual 86, 3) := by decide +kernel
theorem dX8_readClaims_69 : decode cX8_readClaims 69 = .ok (.ifCond .ne 4, 3) := by decide +kernel
theorem dX8_readClaims_72 : decode cX8_readClaims 72 = .ok (.return_, 1) := by decide +kernel
theorem dX8_readClaims_73 : decode cX8_readClaims 73 = .ok (.iinc 3 1, 3) := by decide +kernel
theorem dX8_readClaims_76 : decode cX8_readClaims 76 = .ok (.goto (-74), 3) := by decide +kernel
theorem dX8_readClaims_79 : decode cX8_readClaims 79 = .ok (.return_, 1) := by decide +kernel
abbrev z_X8_readClaims : List Cond := .code yX8_readClaims cX8_readClaims 5 none :: zW
abbrev wl_X8_readClaims (ad : Nat → Nat) (cs : Nat → ClassId) (h_su : Nat) (h_su_asked : Nat) (tape_size : Int32) (tape_bytes : Nat → Int32) (sr_at : Int32) (sr_numberAt : Int32) (sr_fault : Int32) (su_who : Int32) (su_against : Int32) (su_kind : Int32) (su_won : Int32) (su_day : Int32) (su_land : Int32) (su_undoneFrom : Int32) (su_askedCount : Int32) (su_askedBits : Int32) (su_first : Int32) (su_foundSo : Int32) (su_foundNot : Int32) (su_fought : Int32) (su_needed : Int32) (su_asked : Nat → Int32) : va_W := [((ad 23), .inr (9, [.ref (ad 24), .int tape_size])), ((ad 24), .inl (cs 0, 120, .inl tape_bytes)), ((ad 25), .inr (8, [.ref (ad 23), .null, .int sr_at, .int sr_numberAt, .int sr_fault])), (h_su, .inr (7, [.int su_who, .int su_against, .int su_kind, .int su_won, .int su_day, .int su_land, .int su_undoneFrom, .ref h_su_asked, .int su_askedCount, .int su_askedBits, .int su_first, .int su_foundSo, .int su_foundNot, .int su_fought, .int su_needed])), (h_su_asked, .inl (cs 0, 32, .inl su_asked))]
def Q_X8_readClaims (D : va_G) (cs : Nat → ClassId) (ad : Nat → Nat) (h_su : Nat) (h_su_asked : Nat) (tape_size : Int32) (tape_bytes : Nat → Int32) (su_who : Int32) (su_against : Int32) (su_kind : Int32) (su_won : Int32) (su_day : Int32) (su_land : Int32) (su_undoneFrom : Int32) (su_first : Int32) (su_foundSo : Int32) (su_foundNot : Int32) (su_fought : Int32) (su_needed : Int32) (A : Nat → Prop) (R : Int32 × Int32 × Int32 × Int32 × Int32 × (Nat → Int32)) : Array Value → State → Outcome → State → Prop :=
  va_Qv (fun u : Int32 × Int32 × Int32 × Int32 × Int32 × (Nat → Int32) => u = R) (fun (u : Int32 × Int32 × Int32 × Int32 × Int32 × (Nat → Int32)) (t : State) => va_P D classes (wl_X8_readClaims ad cs h_su h_su_asked tape_size tape_bytes u.1 u.2.1 u.2.2.1 su_who su_against su_kind su_won su_day su_land su_undoneFrom u.2.2.2.1 u.2.2.2.2.1 su_first su_foundSo su_foundNot su_fought su_needed u.2.2.2.2.2) t.heap ∧ va_D A (wl_X8_readClaims ad cs h_su h_su_asked tape_size tape_bytes u.1 u.2.1 u.2.2.1 su_who su_against su_kind su_won su_day su_land su_undoneFrom u.2.2.2.1 u.2.2.2.2.1 su_first su_foundSo su_foundNot su_fought su_needed u.2.2.2.2.2)) A
abbrev rm_X8_readClaims : Room := { frames := 3, cells := 0, slots := 0, locals := 66 }
theorem g_X8_79 : GoodIn zW (wsV RX8 79 RX7 yX7_hasAsked z_X7_hasAsked) := zGV kw_907 kw_908 kw_909 kw_82 kw_910
theorem g_X8_83 : GoodIn zW (wsV RX8 83 RX7 yX7_ask z_X7_ask) := zGV kw_911 kw_912 kw_913 kw_82 kw_914
def B_X8_readClaims_63   (g2 : Int32 → Int32 → Int32 → Int32 → Int32 → Int32 → Int32 → (Nat → Int32) → (Option (Int32 × Int32 × Int32 × Int32 × Int32 × (Nat → Int32)))) (tape_size : Int32) (tape_bytes : Nat → Int32) (su_who : Int32) (su_against : Int32) (su_kind : Int32) (su_won : Int32) (su_day : Int32) (su_land : Int32) (su_undoneFrom : Int32) (su_first : Int32) (su_foundSo : Int32) (su_foundNot : Int32) (su_fought : Int32) (su_needed : Int32) (x2 : Int32) (x3 : Int32) (sr_at : Int32) (sr_numberAt : Int32) (sr_fault : Int32) (su_askedCount : Int32) (su_askedBits : Int32) (su_asked : Nat → Int32) : Option (Int32 × Int32 × Int32 × Int32 × Int32 × (Nat → Int32)) :=
  (zk_b2 (f_X8_accept (44 : Int32) tape_size tape_bytes sr_at sr_numberAt sr_fault) (fun r_20 u_21 => (if r_20 = 0 then (some (u_21, sr_numberAt, sr_fault, su_askedCount, su_askedBits, su_asked)) else (zk_let (x3 + (1 : Int32)) (fun v_24 => (g2 x2 v_24 u_21 sr_numberAt sr_fault su_askedCount su_askedBits su_asked))))))
def B_X8_readClaims_43   (g2 : Int32 → Int32 → Int32 → Int32 → Int32 → Int32 → Int32 → (Nat → Int32) → (Option (Int32 × Int32 × Int32 × Int32 × Int32 × (Nat → Int32)))) (tape_size : Int32) (tape_bytes : Nat → Int32) (su_who : Int32) (su_against : Int32) (su_kind : Int32) (su_won : Int32) (su_day : Int32) (su_land : Int32) (su_undoneFrom : Int32) (su_first : Int32) (su_foundSo : Int32) (su_foundNot : Int32) (su_fought : Int32) (su_needed : Int32) (x2 : Int32) (x3 : Int32) (x4 : Int32) (s0 : Int32) (sr_at : Int32) (sr_numberAt : Int32) (sr_fault : Int32) (su_askedCount : Int32) (su_askedBits : Int32) (su_asked : Nat → Int32) : Option (Int32 × Int32 × Int32 × Int32 × Int32 × (Nat → Int32)) :=
  (zk_b1 (f_X8_judge s0 sr_numberAt sr_at sr_numberAt sr_fault) (fun u_13 => (if 0 ≤ u_13 then (B_X8_readClaims_63 g2 tape_size tape_bytes su_who su_against su_kind su_won su_day su_land su_undoneFrom su_first su_foundSo su_foundNot su_fought su_needed x2 x3 sr_at sr_numberAt u_13 su_askedCount su_askedBits su_asked) else (zk_b3 (f_X7_ask x4 su_who su_against su_kind su_won su_day su_land su_undoneFrom su_askedCount su_askedBits su_first su_foundSo su_foundNot su_fought su_needed su_asked) (fun u_16 u_17 u_18 => (B_X8_readClaims_63 g2 tape_size tape_bytes su_who su_against su_kind su_won su_day su_land su_undoneFrom su_first su_foundSo su_foundNot su_fought su_needed x2 x3 sr_at sr_numberAt u_13 u_16 u_17 u_18))))))
def B_X8_readClaims_42   (g2 : Int32 → Int32 → Int32 → Int32 → Int32 → Int32 → Int32 → (Nat → Int32) → (Option (Int32 × Int32 × Int32 × Int32 × Int32 × (Nat → Int32)))) (tape_size : Int32) (tape_bytes : Nat → Int32) (su_who : Int32) (su_against : Int32) (su_kind : Int32) (su_won : Int32) (su_day : Int32) (su_land : Int32) (su_undoneFrom : Int32) (su_first : Int32) (su_foundSo : Int32) (su_foundNot : Int32) (su_fought : Int32) (su_needed : Int32) (x2 : Int32) (x3 : Int32) (x4 : Int32) (sr_at : Int32) (sr_numberAt : Int32) (sr_fault : Int32) (su_askedCount : Int32) (su_askedBits : Int32) (su_asked : Nat → Int32) : Option (Int32 × Int32 × Int32 × Int32 × Int32 × (Nat → Int32)) :=
  (B_X8_readClaims_43 g2 tape_size tape_bytes su_who su_against su_kind su_won su_day su_land su_undoneFrom su_first su_foundSo su_foundNot su_fought su_needed x2 x3 x4 (0 : Int32) sr_at sr_numberAt sr_fault su_askedCount su_askedBits su_asked)
def B_X8_readClaims_2   (g2 : Int32 → Int32 → Int32 → Int32 → Int32 → Int32 → Int32 → (Nat → Int32) → (Option (Int32 × Int32 × Int32 × Int32 × Int32 × (Nat → Int32)))) (tape_size : Int32) (tape_bytes : Nat → Int32) (su_who : Int32) (su_against : Int32) (su_kind : Int32) (su_won : Int32) (su_day : Int32) (su_land : Int32) (su_undoneFrom : Int32) (su_first : Int32) (su_foundSo : Int32) (su_foundNot : Int32) (su_fought : Int32) (su_needed : Int32) (x2 : Int32) (x3 : Int32) (sr_at : Int32) (sr_numberAt : Int32) (sr_fault : Int32) (su_askedCount : Int32) (su_askedBits : Int32) (su_asked : Nat → Int32) : Option (Int32 × Int32 × Int32 × Int32 × Int32 × (Nat → Int32)) :=
  (if (32 : Int32) < x3 then (some (sr_at, sr_numberAt, sr_fault, su_askedCount, su_askedBits, su_asked)) else (if 0 ≤ sr_fault then (some (sr_at, sr_numberAt, sr_fault, su_askedCount, su_askedBits, su_asked)) else (zk_b4 (f_X8_number 4000 (2 : Int32) tape_size tape_bytes sr_at sr_numberAt sr_fault) (fun r_3 u_4 u_5 u_6 => (if x2 ≤ r_3 then (B_X8_readClaims_42 g2 tape_size tape_bytes su_who su_against su_kind su_won su_day su_land su_undoneFrom su_first su_foundSo su_foundNot su_fought su_needed x2 x3 r_3 u_4 u_5 u_6 su_askedCount su_askedBits su_asked) else (zk_b2 (f_X7_hasAsked r_3 su_who su_against su_kind su_won su_day su_land su_undoneFrom su_askedCount su_askedBits su_first su_foundSo su_foundNot su_fought su_needed) (fun r_9 u_10 => (if r_9 = 0 then (B_X8_readClaims_43 g2 tape_size tape_bytes su_who su_against su_kind su_won su_day su_land su_undoneFrom su_first su_foundSo su_foundNot su_fought su_needed x2 x3 r_3 (1 : Int32) u_4 u_5 u_6 su_askedCount su_askedBits su_asked) else (B_X8_readClaims_42 g2 tape_size tape_bytes su_who su_against su_kind su_won su_day su_land su_undoneFrom su_first su_foundSo su_foundNot su_fought su_needed x2 x3 r_3 u_4 u_5 u_6 su_askedCount su_askedBits su_asked)))))))))
def B_X8_readClaims_0   (g2 : Int32 → Int32 → Int32 → Int32 → Int32 → Int32 → Int32 → (Nat → Int32) → (Option (Int32 × Int32 × Int32 × Int32 × Int32 × (Nat → Int32)))) (tape_size : Int32) (tape_bytes : Nat → Int32) (su_who : Int32) (su_against : Int32) (su_kind : Int32) (su_won : Int32) (su_day : Int32) (su_land : Int32) (su_undoneFrom : Int32) (su_first : Int32) (su_foundSo : Int32) (su_foundNot : Int32) (su_fought : Int32) (su_needed : Int32) (x2 : Int32) (sr_at : Int32) (sr_numberAt : Int32) (sr_fault : Int32) (su_askedCount : Int32) (su_askedBits : Int32) (su_asked : Nat → Int32) : Option (Int32 × Int32 × Int32 × Int32 × Int32 × (Nat → Int32)) :=
  (g2 x2 (0 : Int32) sr_at sr_numberAt sr_fault su_askedCount su_askedBits su_asked)
def G_X8_readClaims   (tape_size : Int32) (tape_bytes : Nat → Int32) (su_who : Int32) (su_against : Int32) (su_kind : Int32) (su_won : Int32) (su_day : Int32) (su_land : Int32) (su_undoneFrom : Int32) (su_first : Int32) (su_foundSo : Int32) (su_foundNot : Int32) (su_fought : Int32) (su_needed : Int32) (n : Nat) : (Int32 → Int32 → Int32 → Int32 → Int32 → Int32 → Int32 → (Nat → Int32) → (Option (Int32 × Int32 × Int32 × Int32 × Int32 × (Nat → Int32)))) :=
  Nat.rec (motive := fun _ => (Int32 → Int32 → Int32 → Int32 → Int32 → Int32 → Int32 → (Nat → Int32) → (Option (Int32 × Int32 × Int32 × Int32 × Int32 × (Nat → Int32))))) ((fun _ _ _ _ _ _ _ _ => none)) (fun _ ih => (B_X8_readClaims_2   ih tape_size tape_bytes su_who su_against su_kind su_won su_day su_land su_undoneFrom su_first su_foundSo su_foundNot su_fought su_needed)) n
def f_X8_readClaims   (n : Nat) (x2 : Int32) (tape_size : Int32) (tape_bytes : Nat → Int32) (sr_at : Int32) (sr_numberAt : Int32) (sr_fault : Int32) (su_who : Int32) (su_against : Int32) (su_kind : Int32) (su_won : Int32) (su_day : Int32) (su_land : Int32) (su_undoneFrom : Int32) (su_askedCount : Int32) (su_askedBits : Int32) (su_first : Int32) (su_foundSo : Int32) (su_foundNot : Int32) (su_fought : Int32) (su_needed : Int32) (su_asked : Nat → Int32) : Option (Int32 × Int32 × Int32 × Int32 × Int32 × (Nat → Int32)) := B_X8_readClaims_0   ((G_X8_readClaims   tape_size tape_bytes su_who su_against su_kind su_won su_day su_land su_undoneFrom su_first su_foundSo su_foundNot su_fought su_needed n)) tape_size tape_bytes su_who su_against su_kind su_won su_day su_land su_undoneFrom su_first su_foundSo su_foundNot su_fought su_needed x2 sr_at sr_numberAt sr_fault su_askedCount su_askedBits su_asked
set_option maxHeartbeats 4000000 in
set_option maxRecDepth 100000 in
theorem L_X8_readClaims_63 {p : Program} {l : Launch} {e : Env} {s : State} {m : MethodId} {args : Array Value} {below : List Frame} {meth : Method} {c : Code} {A : Nat → Prop} {D : va_G} {cs : Nat → ClassId} {ad : Nat → Nat} {h_su : Nat} {h_su_asked : Nat} {tape_size : Int32} {tape_bytes : Nat → Int32} {su_who : Int32} {su_against : Int32} {su_kind : Int32} {su_won : Int32} {su_day : Int32} {su_land : Int32} {su_undoneFrom : Int32} {su_first : Int32} {su_foundSo : Int32} {su_foundNot : Int32} {su_fought : Int32} {su_needed : Int32} {R : Int32 × Int32 × Int32 × Int32 × Int32 × (Nat → Int32)} {g2 : Int32 → Int32 → Int32 → Int32 → Int32 → Int32 → Int32 → (Nat → Int32) → (Option (Int32 × Int32 × Int32 × Int32 × Int32 × (Nat → Int32)))} (C0 : zC p s m args meth c cX8_readClaims 5 none RX8 zW) (hK : va_K D classes (zT cs) s) (hA : ∀ q : Nat, s.heap.size ≤ q → A q) (ih2 : ∀ (x2 : Int32) (x3 : Int32) (sr_at : Int32) (sr_numberAt : Int32) (sr_fault : Int32) (su_askedCount : Int32) (su_askedBits : Int32) (su_asked : Nat → Int32) (h : g2 x2 x3 sr_at sr_numberAt sr_fault su_askedCount su_askedBits su_asked = some R) (H : Heap) (locs : List Loc) (ls : Array Slot) (hP : va_P D classes (wl_X8_readClaims ad cs h_su h_su_asked tape_size tape_bytes sr_at sr_numberAt sr_fault su_who su_against su_kind su_won su_day su_land su_undoneFrom su_askedCount su_askedBits su_first su_foundSo su_foundNot su_fought su_needed su_asked) H) (hD : va_D A (wl_X8_readClaims ad cs h_su h_su_asked tape_size tape_bytes sr_at sr_numberAt sr_fault su_who su_against su_kind su_won su_day su_land su_undoneFrom su_askedCount su_askedBits su_first su_foundSo su_foundNot su_fought su_needed su_asked)) (hS : va_S A s.heap H locs) (hl : lv_has ls 5 [(0, .ref (ad 25)), (1, .ref h_su), (2, .int x2), (3, .int x3)]), W p l e rm_X8_readClaims s m args below meth c H locs 0 0 (MQ below (Q_X8_readClaims D cs ad h_su h_su_asked tape_size tape_bytes su_who su_against su_kind su_won su_day su_land su_undoneFrom su_first su_foundSo su_foundNot su_fought su_needed A R) args s 0 0 A) (F0 m 2 ls [])) (x2 : Int32) (x3 : Int32) (sr_at : Int32) (sr_numberAt : Int32) (sr_fault : Int32) (su_askedCount : Int32) (su_askedBits : Int32) (su_asked : Nat → Int32) (h : B_X8_readClaims_63 g2 tape_size tape_bytes su_who su_against su_kind su_won su_day su_land su_undoneFrom su_first su_foundSo su_foundNot su_fought su_needed x2 x3 sr_at sr_numberAt sr_fault su_askedCount su_askedBits su_asked = some R) (H : Heap) (locs : List Loc) (ls : Array Slot) (hP : va_P D classes (wl_X8_readClaims ad cs h_su h_su_asked tape_size tape_bytes sr_at sr_numberAt sr_fault su_who su_against su_kind su_won su_day su_land su_undoneFrom su_askedCount su_askedBits su_first su_foundSo su_foundNot su_fought su_needed su_asked) H) (hD : va_D A (wl_X8_readClaims ad cs h_su h_su_asked tape_size tape_bytes sr_at sr_numberAt sr_fault su_who su_against su_kind su_won su_day su_land su_undoneFrom su_askedCount su_askedBits su_first su_foundSo su_foundNot su_fought su_needed su_asked)) (hS : va_S A s.heap H locs) (hl : lv_has ls 5 [(0, .ref (ad 25)), (1, .ref h_su), (2, .int x2), (3, .int x3)]) : W p l e rm_X8_readClaims s m args below meth c H locs 0 0 (MQ below (Q_X8_readClaims D cs ad h_su h_su_asked tape_size tape_bytes su_who su_against su_kind su_won su_day su_land su_undoneFrom su_first su_foundSo su_foundNot su_fought su_needed A R) args s 0 0 A) (F0 m 63 ls []) := by
  obtain ⟨hx, hb, hr, hml, hown, ht, hlocks⟩ := id C0
  refine lv_aload_n hx hb dX8_readClaims_63 rfl (lv_at hl 0 rfl) ?_
  refine lv_bipush (v := (44 : Int32)) hx hb dX8_readClaims_64 (by decide) ?_
  obtain ⟨r_20, u_21, hc_22, h⟩ := zk_o2 h
  refine zk_vi (post := (fun r u => (r, u) = (r_20, u_21))) (w1 := fun u => (wl_X8_accept ad cs tape_size tape_bytes u sr_numberAt sr_fault)) (As := [.int (44 : Int32)]) (rest := []) (c_X8_accept l D cs ad  H.size (44 : Int32) tape_size tape_bytes sr_at sr_numberAt sr_fault _ hc_22) ⟨hx, hb, hml, hown, ht⟩ (cwV 1 ht g_X8_86 rfl rfl rfl (by decide +kernel) ⟨Nat.le_of_ble_eq_true rfl, Nat.le_of_ble_eq_true rfl⟩) (va_recv hK hP (ci := 8) (q0 := 2) rfl rfl) hP hD hS hK hA [0, 1, 2] [3, 4] rfl rfl rfl rfl (by decide) rfl hl.1 (Nat.le_of_ble_eq_true rfl) dX8_readClaims_66 ⟨Nat.zero_le _, Nat.zero_le _⟩ (fun r u H locs hq hP hD hS => ?_)
  cases hq
  have hP : va_P D classes (wl_X8_readClaims ad cs h_su h_su_asked tape_size tape_bytes u_21 sr_numberAt sr_fault su_who su_against su_kind su_won su_day su_land su_undoneFrom su_askedCount su_askedBits su_first su_foundSo su_foundNot su_fought su_needed su_asked) H := hP.sub [2, 3, 4, 0, 1] rfl
  have hD : va_D A (wl_X8_readClaims ad cs h_su h_su_asked tape_size tape_bytes u_21 sr_numberAt sr_fault su_who su_against su_kind su_won su_day su_land su_undoneFrom su_askedCount su_askedBits su_first su_foundSo su_foundNot su_fought su_needed su_asked) := hD.sub [2, 3, 4, 0, 1] rfl rfl
  refine lv_if_ne (tgt := 73) hx hb dX8_readClaims_69 (by decide) (fun c_23 => ?_) (fun c_23 => ?_)
  · have h := zk_f c_23 h
    obtain ⟨v_24, ev_24, h⟩ := zk_lt h
    refine lv_iinc (v := v_24) (lv' := [(3, .int v_24), (0, .ref (ad 25)), (1, .ref h_su), (2, .int x2)]) hx hb dX8_readClaims_73 hl (k := 3) rfl (by rw [ev_24]; rfl) (by decide) rfl (fun ls hl => ?_)
    refine lv_goto (tgt := 2) hx hb dX8_readClaims_76 (by decide) ?_
    exact ih2 x2 v_24 u_21 sr_numberAt sr_fault su_askedCount su_askedBits su_asked h H locs ls hP hD hS (lv_sub hl [1, 2, 3, 0] rfl)
  · have h := zk_t c_23 h
    exact W.vret hx hb hr (fun t ht2 hW => ⟨⟨(u_21, sr_numberAt, sr_fault, su_askedCount, su_askedBits, su_asked), rfl, Option.some.inj h, by rw [ht2]; exact hP, hD⟩, hS.F ht2⟩) hS.2.2 dX8_readClaims_72 hlocks
set_option maxHeartbeats 4000000 in
set_option maxRecDepth 100000 in
theorem L_X8_readClaims_43 {p : Program} {l : Launch} {e : Env} {s : State} {m : MethodId} {args : Array Value} {below : List Frame} {meth : Method} {c : Code} {A : Nat → Prop} {D : va_G} {cs : Nat → ClassId} {ad : Nat → Nat} {h_su : Nat} {h_su_asked : Nat} {tape_size : Int32} {tape_bytes : Nat → Int32} {su_who : Int32} {su_against : Int32} {su_kind : Int32} {su_won : Int32} {su_day : Int32} {su_land : Int32} {su_undoneFrom : Int32} {su_first : Int32} {su_foundSo : Int32} {su_foundNot : Int32} {su_fought : Int32} {su_needed : Int32} {R : Int32 × Int32 × Int32 × Int32 × Int32 × (Nat → Int32)} {g2 : Int32 → Int32 → Int32 → Int32 → Int32 → Int32 → Int32 → (Nat → Int32) → (Option (Int32 × Int32 × Int32 × Int32 × Int32 × (Nat → Int32)))} (C0 : zC p s m args meth c cX8_readClaims 5 none RX8 zW) (hK : va_K D classes (zT cs) s) (hA : ∀ q : Nat, s.heap.size ≤ q → A q) (ih2 : ∀ (x2 : Int32) (x3 : Int32) (sr_at : Int32) (sr_numberAt : Int32) (sr_fault : Int32) (su_askedCount : Int32) (su_askedBits : Int32) (su_asked : Nat → Int32) (h : g2 x2 x3 sr_at sr_numberAt sr_fault su_askedCount su_askedBits su_asked = some R) (H : Heap) (locs : List Loc) (ls : Array Slot) (hP : va_P D classes (wl_X8_readClaims ad cs h_su h_su_asked tape_size tape_bytes sr_at sr_numberAt sr_fault su_who su_against su_kind su_won su_day su_land su_undoneFrom su_askedCount su_askedBits su_first su_foundSo su_foundNot su_fought su_needed su_asked) H) (hD : va_D A (wl_X8_readClaims ad cs h_su h_su_asked tape_size tape_bytes sr_at sr_numberAt sr_fault su_who su_against su_kind su_won su_day su_land su_undoneFrom su_askedCount su_askedBits su_first su_foundSo su_foundNot su_fought su_needed su_asked)) (hS : va_S A s.heap H locs) (hl : lv_has ls 5 [(0, .ref (ad 25)), (1, .ref h_su), (2, .int x2), (3, .int x3)]), W p l e rm_X8_readClaims s m args below meth c H locs 0 0 (MQ below (Q_X8_readClaims D cs ad h_su h_su_asked tape_size tape_bytes su_who su_against su_kind su_won su_day su_land su_undoneFrom su_first su_foundSo su_foundNot su_fought su_needed A R) args s 0 0 A) (F0 m 2 ls [])) (x2 : Int32) (x3 : Int32) (x4 : Int32) (s0 : Int32) (sr_at : Int32) (sr_numberAt : Int32) (sr_fault : Int32) (su_askedCount : Int32) (su_askedBits : Int32) (su_asked : Nat → Int32) (h : B_X8_readClaims_43 g2 tape_size tape_bytes su_who su_against su_kind su_won su_day su_land su_undoneFrom su_first su_foundSo su_foundNot su_fought su_needed x2 x3 x4 s0 sr_at sr_numberAt sr_fault su_askedCount su_askedBits su_asked = some R) (H : Heap) (locs : List Loc) (ls : Array Slot) (hP : va_P D classes (wl_X8_readClaims ad cs h_su h_su_asked tape_size tape_bytes sr_at sr_numberAt sr_fault su_who su_against su_kind su_won su_day su_land su_undoneFrom su_askedCount su_askedBits su_first su_foundSo su_foundNot su_fought su_needed su_asked) H) (hD : va_D A (wl_X8_readClaims ad cs h_su h_su_asked tape_size tape_bytes sr_at sr_numberAt sr_fault su_who su_against su_kind su_won su_day su_land su_undoneFrom su_askedCount su_askedBits su_first su_foundSo su_foundNot su_fought su_needed su_asked)) (hS : va_S A s.heap H locs) (hl : lv_has ls 5 [(0, .ref (ad 25)), (1, .ref h_su), (2, .int x2), (3, .int x3), (4, .int x4)]) : W p l e rm_X8_readClaims s m args below meth c H locs 0 0 (MQ below (Q_X8_readClaims D cs ad h_su h_su_asked tape_size tape_bytes su_who su_against su_kind su_won su_day su_land su_undoneFrom su_first su_foundSo su_foundNot su_fought su_needed A R) args s 0 0 A) (F0 m 43 ls [.int s0, .ref (ad 25)]) := by
  obtain ⟨hx, hb, hr, hml, hown, ht, hlocks⟩ := id C0
  refine lv_aload_n hx hb dX8_readClaims_43 rfl (lv_at hl 0 rfl) ?_
  refine va_get (D := D) (ci := 8) (v := .int sr_numberAt) (C := RX8) (T := TX8) (N := 5) hx hb ht iX8 hown hK hP 2 rfl rfl 3 (by decide) (ht _ kw_254) (fun _ h9 => h9) rfl dX8_readClaims_44 ?_
  obtain ⟨u_13, hc_14, h⟩ := zk_o1 h
  refine zk_vv (post := (fun u => u = u_13)) (w1 := fun u => (wl_X8_judge ad cs sr_at sr_numberAt u)) (As := [.int s0, .int sr_numberAt]) (rest := []) (c_X8_judge l D cs ad  H.size s0 sr_numberAt sr_at sr_numberAt sr_fault _ hc_14) ⟨hx, hb, hml, hown, ht⟩ (cwV 2 ht g_X8_48 rfl rfl rfl (by decide +kernel) ⟨Nat.le_of_ble_eq_true rfl, Nat.le_of_ble_eq_true rfl⟩) (va_recv hK hP (ci := 8) (q0 := 2) rfl rfl) hP hD hS hK hA [2] [0, 1, 3, 4] rfl rfl rfl rfl (by decide) rfl hl.1 (Nat.le_of_ble_eq_true rfl) dX8_readClaims_47 ⟨Nat.zero_le _, Nat.zero_le _⟩ (fun u H locs hq hP hD hS => ?_)
  cases hq
  have hP : va_P D classes (wl_X8_readClaims ad cs h_su h_su_asked tape_size tape_bytes sr_at sr_numberAt u_13 su_who su_against su_kind su_won su_day su_land su_undoneFrom su_askedCount su_askedBits su_first su_foundSo su_foundNot su_fought su_needed su_asked) H := hP.sub [0, 1, 4, 2, 3] rfl
  have hD : va_D A (wl_X8_readClaims ad cs h_su h_su_asked tape_size tape_bytes sr_at sr_numberAt u_13 su_who su_against su_kind su_won su_day su_land su_undoneFrom su_askedCount su_askedBits su_first su_foundSo su_foundNot su_fought su_needed su_asked) := hD.sub [0, 1, 4, 2, 3] rfl rfl
  refine lv_aload_n hx hb dX8_readClaims_50 rfl (lv_at hl 0 rfl) ?_
  refine va_get (D := D) (ci := 8) (v := .int u_13) (C := RX8) (T := TX8) (N := 5) hx hb ht iX8 hown hK hP 2 rfl rfl 4 (by decide) (ht _ kw_255) (fun _ h9 => h9) rfl dX8_readClaims_51 ?_
  refine lv_if_ge (tgt := 63) hx hb dX8_readClaims_54 (by decide) (fun c_15 => ?_) (fun c_15 => ?_)
  · have h := zk_t c_15 h
    exact L_X8_readClaims_63 C0 hK hA  ih2 x2 x3 sr_at sr_numberAt u_13 su_askedCount su_askedBits su_asked h H locs ls hP hD hS (lv_sub hl [0, 1, 2, 3] rfl)
  · have h := zk_f c_15 h
    refine lv_aload_n hx hb dX8_readClaims_57 rfl (lv_at hl 1 rfl) ?_
    refine lv_iload hx hb dX8_readClaims_58 (lv_at hl 4 rfl) ?_
    obtain ⟨u_16, u_17, u_18, hc_19, h⟩ := zk_o3 h
    refine zk_vv (post := (fun u => u = (u_16, u_17, u_18))) (w1 := fun u => (wl_X7_ask ad cs h_su h_su_asked su_who su_against su_kind su_won su_day su_land su_undoneFrom u.1 u.2.1 su_first su_foundSo su_foundNot su_fought su_needed u.2.2)) (As := [.int x4]) (rest := []) (c_X7_ask l D cs ad h_su h_su_asked H.size x4 su_who su_against su_kind su_won su_day su_land su_undoneFrom su_askedCount su_askedBits su_first su_foundSo su_foundNot su_fought su_needed su_asked _ hc_19) ⟨hx, hb, hml, hown, ht⟩ (cwV 1 ht g_X8_83 rfl rfl rfl (by decide +kernel) ⟨Nat.le_of_ble_eq_true rfl, Nat.le_of_ble_eq_true rfl⟩) (va_recv hK hP (ci := 7) (q0 := 3) rfl rfl) hP hD hS hK hA [3, 4] [0, 1, 2] rfl rfl rfl rfl (by decide) rfl hl.1 (Nat.le_of_ble_eq_true rfl) dX8_readClaims_60 ⟨Nat.zero_le _, Nat.zero_le _⟩ (fun u H locs hq hP hD hS => ?_)
    cases hq
    have hP : va_P D classes (wl_X8_readClaims ad cs h_su h_su_asked tape_size tape_bytes sr_at sr_numberAt u_13 su_who su_against su_kind su_won su_day su_land su_undoneFrom u_16 u_17 su_first su_foundSo su_foundNot su_fought su_needed u_18) H := hP.sub [0, 1, 2, 3, 4] rfl
    have hD : va_D A (wl_X8_readClaims ad cs h_su h_su_asked tape_size tape_bytes sr_at sr_numberAt u_13 su_who su_against su_kind su_won su_day su_land su_undoneFrom u_16 u_17 su_first su_foundSo su_foundNot su_fought su_needed u_18) := hD.sub [0, 1, 2, 3, 4] rfl rfl
    exact L_X8_readClaims_63 C0 hK hA  ih2 x2 x3 sr_at sr_numberAt u_13 u_16 u_17 u_18 h H locs ls hP hD hS (lv_sub hl [0, 1, 2, 3] rfl)
set_option maxHeartbeats 4000000 in
set_option maxRecDepth 100000 in
theorem L_X8_readClaims_42 {p : Program} {l : Launch} {e : Env} {s : State} {m : MethodId} {args : Array Value} {below : List Frame} {meth : Method} {c : Code} {A : Nat → Prop} {D : va_G} {cs : Nat → ClassId} {ad : Nat → Nat} {h_su : Nat} {h_su_asked : Nat} {tape_size : Int32} {tape_bytes : Nat → Int32} {su_who : Int32} {su_against : Int32} {su_kind : Int32} {su_won : Int32} {su_day : Int32} {su_land : Int32} {su_undoneFrom : Int32} {su_first : Int32} {su_foundSo : Int32} {su_foundNot : Int32} {su_fought : Int32} {su_needed : Int32} {R : Int32 × Int32 × Int32 × Int32 × Int32 × (Nat → Int32)} {g2 : Int32 → Int32 → Int32 → Int32 → Int32 → Int32 → Int32 → (Nat → Int32) → (Option (Int32 × Int32 × Int32 × Int32 × Int32 × (Nat → Int32)))} (C0 : zC p s m args meth c cX8_readClaims 5 none RX8 zW) (hK : va_K D classes (zT cs) s) (hA : ∀ q : Nat, s.heap.size ≤ q → A q) (ih2 : ∀ (x2 : Int32) (x3 : Int32) (sr_at : Int32) (sr_numberAt : Int32) (sr_fault : Int32) (su_askedCount : Int32) (su_askedBits : Int32) (su_asked : Nat → Int32) (h : g2 x2 x3 sr_at sr_numberAt sr_fault su_askedCount su_askedBits su_asked = some R) (H : Heap) (locs : List Loc) (ls : Array Slot) (hP : va_P D classes (wl_X8_readClaims ad cs h_su h_su_asked tape_size tape_bytes sr_at sr_numberAt sr_fault su_who su_against su_kind su_won su_day su_land su_undoneFrom su_askedCount su_askedBits su_first su_foundSo su_foundNot su_fought su_needed su_asked) H) (hD : va_D A (wl_X8_readClaims ad cs h_su h_su_asked tape_size tape_bytes sr_at sr_numberAt sr_fault su_who su_against su_kind su_won su_day su_land su_undoneFrom su_askedCount su_askedBits su_first su_foundSo su_foundNot su_fought su_needed su_asked)) (hS : va_S A s.heap H locs) (hl : lv_has ls 5 [(0, .ref (ad 25)), (1, .ref h_su), (2, .int x2), (3, .int x3)]), W p l e rm_X8_readClaims s m args below meth c H locs 0 0 (MQ below (Q_X8_readClaims D cs ad h_su h_su_asked tape_size tape_bytes su_who su_against su_kind su_won su_day su_land su_undoneFrom su_first su_foundSo su_foundNot su_fought su_needed A R) args s 0 0 A) (F0 m 2 ls [])) (x2 : Int32) (x3 : Int32) (x4 : Int32) (sr_at : Int32) (sr_numberAt : Int32) (sr_fault : Int32) (su_askedCount : Int32) (su_askedBits : Int32) (su_asked : Nat → Int32) (h : B_X8_readClaims_42 g2 tape_size tape_bytes su_who su_against su_kind su_won su_day su_land su_undoneFrom su_first su_foundSo su_foundNot su_fought su_needed x2 x3 x4 sr_at sr_numberAt sr_fault su_askedCount su_askedBits su_asked = some R) (H : Heap) (locs : List Loc) (ls : Array Slot) (hP : va_P D classes (wl_X8_readClaims ad cs h_su h_su_asked tape_size tape_bytes sr_at sr_numberAt sr_fault su_who su_against su_kind su_won su_day su_land su_undoneFrom su_askedCount su_askedBits su_first su_foundSo su_foundNot su_fought su_needed su_asked) H) (hD : va_D A (wl_X8_readClaims ad cs h_su h_su_asked tape_size tape_bytes sr_at sr_numberAt sr_fault su_who su_against su_kind su_won su_day su_land su_undoneFrom su_askedCount su_askedBits su_first su_foundSo su_foundNot su_fought su_needed su_asked)) (hS : va_S A s.heap H locs) (hl : lv_has ls 5 [(0, .ref (ad 25)), (1, .ref h_su), (2, .int x2), (3, .int x3), (4, .int x4)]) : W p l e rm_X8_readClaims s m args below meth c H locs 0 0 (MQ below (Q_X8_readClaims D cs ad h_su h_su_asked tape_size tape_bytes su_who su_against su_kind su_won su_day su_land su_undoneFrom su_first su_foundSo su_foundNot su_fought su_needed A R) args s 0 0 A) (F0 m 42 ls [.ref (ad 25)]) := by
  obtain ⟨hx, hb, hr, hml, hown, ht, hlocks⟩ := id C0
  refine lv_iconst (v := (0 : Int32)) hx hb dX8_readClaims_42 (by decide) ?_
  exact L_X8_readClaims_43 C0 hK hA  ih2 x2 x3 x4 (0 : Int32) sr_at sr_numberAt sr_fault su_askedCount su_askedBits su_asked h H locs ls hP hD hS (lv_sub hl [0, 1, 2, 3, 4] rfl)
set_option maxHeartbeats 4000000 in
set_option maxRecDepth 100000 in
theorem L_X8_readClaims_2 {p : Program} {l : Launch} {e : Env} {s : State} {m : MethodId} {args : Array Value} {below : List Frame} {meth : Method} {c : Code} {A : Nat → Prop} {D : va_G} {cs : Nat → ClassId} {ad : Nat → Nat} {h_su : Nat} {h_su_asked : Nat} {tape_size : Int32} {tape_bytes : Nat → Int32} {su_who : Int32} {su_against : Int32} {su_kind : Int32} {su_won : Int32} {su_day : Int32} {su_land : Int32} {su_undoneFrom : Int32} {su_first : Int32} {su_foundSo : Int32} {su_foundNot : Int32} {su_fought : Int32} {su_needed : Int32} {R : Int32 × Int32 × Int32 × Int32 × Int32 × (Nat → Int32)} {g2 : Int32 → Int32 → Int32 → Int32 → Int32 → Int32 → Int32 → (Nat → Int32) → (Option (Int32 × Int32 × Int32 × Int32 × Int32 × (Nat → Int32)))} (C0 : zC p s m args meth c cX8_readClaims 5 none RX8 zW) (hK : va_K D classes (zT cs) s) (hA : ∀ q : Nat, s.heap.size ≤ q → A q) (ih2 : ∀ (x2 : Int32) (x3 : Int32) (sr_at : Int32) (sr_numberAt : Int32) (sr_fault : Int32) (su_askedCount : Int32) (su_askedBits : Int32) (su_asked : Nat → Int32) (h : g2 x2 x3 sr_at sr_numberAt sr_fault su_askedCount su_askedBits su_asked = some R) (H : Heap) (locs : List Loc) (ls : Array Slot) (hP : va_P D classes (wl_X8_readClaims ad cs h_su h_su_asked tape_size tape_bytes sr_at sr_numberAt sr_fault su_who su_against su_kind su_won su_day su_land su_undoneFrom su_askedCount su_askedBits su_first su_foundSo su_foundNot su_fought su_needed su_asked) H) (hD : va_D A (wl_X8_readClaims ad cs h_su h_su_asked tape_size tape_bytes sr_at sr_numberAt sr_fault su_who su_against su_kind su_won su_day su_land su_undoneFrom su_askedCount su_askedBits su_first su_foundSo su_foundNot su_fought su_needed su_asked)) (hS : va_S A s.heap H locs) (hl : lv_has ls 5 [(0, .ref (ad 25)), (1, .ref h_su), (2, .int x2), (3, .int x3)]), W p l e rm_X8_readClaims s m args below meth c H locs 0 0 (MQ below (Q_X8_readClaims D cs ad h_su h_su_asked tape_size tape_bytes su_who su_against su_kind su_won su_day su_land su_undoneFrom su_first su_foundSo su_foundNot su_fought su_needed A R) args s 0 0 A) (F0 m 2 ls [])) (x2 : Int32) (x3 : Int32) (sr_at : Int32) (sr_numberAt : Int32) (sr_fault : Int32) (su_askedCount : Int32) (su_askedBits : Int32) (su_asked : Nat → Int32) (h : B_X8_readClaims_2 g2 tape_size tape_bytes su_who su_against su_kind su_won su_day su_land su_undoneFrom su_first su_foundSo su_foundNot su_fought su_needed x2 x3 sr_at sr_numberAt sr_fault su_askedCount su_askedBits su_asked = some R) (H : Heap) (locs : List Loc) (ls : Array Slot) (hP : va_P D classes (wl_X8_readClaims ad cs h_su h_su_asked tape_size tape_bytes sr_at sr_numberAt sr_fault su_who su_against su_kind su_won su_day su_land su_undoneFrom su_askedCount su_askedBits su_first su_foundSo su_foundNot su_fought su_needed su_asked) H) (hD : va_D A (wl_X8_readClaims ad cs h_su h_su_asked tape_size tape_bytes sr_at sr_numberAt sr_fault su_who su_against su_kind su_won su_day su_land su_undoneFrom su_askedCount su_askedBits su_first su_foundSo su_foundNot su_fought su_needed su_asked)) (hS : va_S A s.heap H locs) (hl : lv_has ls 5 [(0, .ref (ad 25)), (1, .ref h_su), (2, .int x2), (3, .int x3)]) : W p l e rm_X8_readClaims s m args below meth c H locs 0 0 (MQ below (Q_X8_readClaims D cs ad h_su h_su_asked tape_size tape_bytes su_who su_against su_kind su_won su_day su_land su_undoneFrom su_first su_foundSo su_foundNot su_fought su_needed A R) args s 0 0 A) (F0 m 2 ls []) := by
  obtain ⟨hx, hb, hr, hml, hown, ht, hlocks⟩ := id C0
  refine lv_iload_n hx hb dX8_readClaims_2 rfl (lv_at hl 3 rfl) ?_
  refine lv_bipush (v := (32 : Int32)) hx hb dX8_readClaims_3 (by decide) ?_
  refine lv_icmp_gt (tgt := 79) hx hb dX8_readClaims_5 (by decide) (fun c_1 => ?_) (fun c_1 => ?_)
  · have h := zk_t c_1 h
    exact W.vret hx hb hr (fun t ht2 hW => ⟨⟨(sr_at, sr_numberAt, sr_fault, su_askedCount, su_askedBits, su_asked), rfl, Option.some.inj h, by rw [ht2]; exact hP, hD⟩, hS.F ht2⟩) hS.2.2 dX8_readClaims_79 hlocks
  · have h := zk_f c_1 h
    refine lv_aload_n hx hb dX8_readClaims_8 rfl (lv_at hl 0 rfl) ?_
    refine va_get (D := D) (ci := 8) (v := .int sr_fault) (C := RX8) (T := TX8) (N := 5) hx hb ht iX8 hown hK hP 2 rfl rfl 4 (by decide) (ht _ kw_255) (fun _ h9 => h9) rfl dX8_readClaims_9 ?_
    refine lv_if_ge (tgt := 79) hx hb dX8_readClaims_12 (by decide) (fun c_2 => ?_) (fun c_2 => ?_)
    · have h := zk_t c_2 h
      exact W.vret hx hb hr (fun t ht2 hW => ⟨⟨(sr_at, sr_numberAt, sr_fault, su_askedCount, su_askedBits, su_asked), rfl, Option.some.inj h, by rw [ht2]; exact hP, hD⟩, hS.F ht2⟩) hS.2.2 dX8_readClaims_79 hlocks
    · have h := zk_f c_2 h
      refine lv_aload_n hx hb dX8_readClaims_15 rfl (lv_at hl 0 rfl) ?_
      refine lv_iconst (v := (2 : Int32)) hx hb dX8_readClaims_16 (by decide) ?_
      obtain ⟨r_3, u_4, u_5, u_6, hc_7, h⟩ := zk_o4 h
      refine zk_vi (post := (fun r u => (r, u) = (r_3, u_4, u_5, u_6))) (w1 := fun u => (wl_X8_number ad cs tape_size tape_bytes u.1 u.2.1 u.2.2)) (As := [.int (2 : Int32)]) (rest := []) (c_X8_number l D cs ad  H.size 4000 (2 : Int32) tape_size tape_bytes sr_at sr_numberAt sr_fault _ hc_7) ⟨hx, hb, hml, hown, ht⟩ (cwV 1 ht g_X8_62 rfl rfl rfl (by decide +kernel) ⟨Nat.le_of_ble_eq_true rfl, Nat.le_of_ble_eq_true rfl⟩) (va_recv hK hP (ci := 8) (q0 := 2) rfl rfl) hP hD hS hK hA [0, 1, 2] [3, 4] rfl rfl rfl rfl (by decide) rfl hl.1 (Nat.le_of_ble_eq_true rfl) dX8_readClaims_17 ⟨Nat.zero_le _, Nat.zero_le _⟩ (fun r u H locs hq hP hD hS => ?_)
      cases hq
      have hP : va_P D classes (wl_X8_readClaims ad cs h_su h_su_asked tape_size tape_bytes u_4 u_5 u_6 su_who su_against su_kind su_won su_day su_land su_undoneFrom su_askedCount su_askedBits su_first su_foundSo su_foundNot su_fought su_needed su_asked) H := hP.sub [2, 3, 4, 0, 1] rfl
      have hD : va_D A (wl_X8_readClaims ad cs h_su h_su_asked tape_size tape_bytes u_4 u_5 u_6 su_who su_against su_kind su_won su_day su_land su_undoneFrom su_askedCount su_askedBits su_first su_foundSo su_foundNot su_fought su_needed su_asked) := hD.sub [2, 3, 4, 0, 1] rfl rfl
      refine lv_istore (lv' := [(4, .int r_3), (0, .ref (ad 25)), (1, .ref h_su), (2, .int x2), (3, .int x3)]) hx hb dX8_readClaims_20 hl (by decide) rfl (fun ls hl => ?_)
      refine lv_aload_n hx hb dX8_readClaims_22 rfl (lv_at hl 1 rfl) ?_
      refine lv_iload hx hb dX8_readClaims_23 (lv_at hl 0 rfl) ?_
      refine lv_iload_n hx hb dX8_readClaims_25 rfl (lv_at hl 3 rfl) ?_
      refine lv_icmp_ge (tgt := 42) hx hb dX8_readClaims_26 (by decide) (fun c_8 => ?_) (fun c_8 => ?_)
      · have h := zk_t c_8 h
        exact L_X8_readClaims_42 C0 hK hA  ih2 x2 x3 r_3 u_4 u_5 u_6 su_askedCount su_askedBits su_asked h H locs ls hP hD hS (lv_sub hl [1, 2, 3, 4, 0] rfl)
      · have h := zk_f c_8 h
        refine lv_aload_n hx hb dX8_readClaims_29 rfl (lv_at hl 2 rfl) ?_
        refine lv_iload hx hb dX8_readClaims_30 (lv_at hl 0 rfl) ?_
        obtain ⟨r_9, u_10, hc_11, h⟩ := zk_o2 h
        refine zk_vi (post := (fun r u => (r, u) = (r_9, u_10))) (w1 := fun u => (wl_X7_hasAsked ad cs h_su h_su_asked su_who su_against su_kind su_won su_day su_land su_undoneFrom su_askedCount su_askedBits su_first su_foundSo su_foundNot su_fought su_needed)) (As := [.int r_3]) (rest := [.ref (ad 25)]) (c_X7_hasAsked l D cs ad h_su h_su_asked H.size r_3 su_who su_against su_kind su_won su_day su_land su_undoneFrom su_askedCount su_askedBits su_first su_foundSo su_foundNot su_fought su_needed _ hc_11) ⟨hx, hb, hml, hown, ht⟩ (cwV 1 ht g_X8_79 rfl rfl rfl (by decide +kernel) ⟨Nat.le_of_ble_eq_true rfl, Nat.le_of_ble_eq_true rfl⟩) (va_recv hK hP (ci := 7) (q0 := 3) rfl rfl) hP hD hS hK hA [3] [0, 1, 2, 4] rfl rfl rfl rfl (by decide) rfl hl.1 (Nat.le_of_ble_eq_true rfl) dX8_readClaims_32 ⟨Nat.zero_le _, Nat.zero_le _⟩ (fun r u H locs hq hP hD hS => ?_)
        cases hq
        have hP : va_P D classes (wl_X8_readClaims ad cs h_su h_su_asked tape_size tape_bytes u_4 u_5 u_6 su_who su_against su_kind su_won su_day su_land su_undoneFrom su_askedCount su_askedBits su_first su_foundSo su_foundNot su_fought su_needed su_asked) H := hP.sub [0, 1, 2, 4, 3] rfl
        have hD : va_D A (wl_X8_readClaims ad cs h_su h_su_asked tape_size tape_bytes u_4 u_5 u_6 su_who su_against su_kind su_won su_day su_land su_undoneFrom su_askedCount su_askedBits su_first su_foundSo su_foundNot su_fought su_needed su_asked) := hD.sub [0, 1, 2, 4, 3] rfl rfl
        refine lv_if_ne (tgt := 42) hx hb dX8_readClaims_35 (by decide) (fun c_12 => ?_) (fun c_12 => ?_)
        · have h := zk_f c_12 h
          exact L_X8_readClaims_42 C0 hK hA  ih2 x2 x3 r_3 u_4 u_5 u_6 su_askedCount su_askedBits su_asked h H locs ls hP hD hS (lv_sub hl [1, 2, 3, 4, 0] rfl)
        · have h := zk_t c_12 h
          refine lv_iconst (v := (1 : Int32)) hx hb dX8_readClaims_38 (by decide) ?_
          refine lv_goto (tgt := 43) hx hb dX8_readClaims_39 (by decide) ?_
          exact L_X8_readClaims_43 C0 hK hA  ih2 x2 x3 r_3 (1 : Int32) u_4 u_5 u_6 su_askedCount su_askedBits su_asked h H locs ls hP hD hS (lv_sub hl [1, 2, 3, 4, 0] rfl)
set_option maxHeartbeats 4000000 in
set_option maxRecDepth 100000 in
theorem L_X8_readClaims_0 {p : Program} {l : Launch} {e : Env} {s : State} {m : MethodId} {args : Array Value} {below : List Frame} {meth : Method} {c : Code} {A : Nat → Prop} {D : va_G} {cs : Nat → ClassId} {ad : Nat → Nat} {h_su : Nat} {h_su_asked : Nat} {tape_size : Int32} {tape_bytes : Nat → Int32} {su_who : Int32} {su_against : Int32} {su_kind : Int32} {su_won : Int32} {su_day : Int32} {su_land : Int32} {su_undoneFrom : Int32} {su_first : Int32} {su_foundSo : Int32} {su_foundNot : Int32} {su_fought : Int32} {su_needed : Int32} {R : Int32 × Int32 × Int32 × Int32 × Int32 × (Nat → Int32)} {g2 : Int32 → Int32 → Int32 → Int32 → Int32 → Int32 → Int32 → (Nat → Int32) → (Option (Int32 × Int32 × Int32 × Int32 × Int32 × (Nat → Int32)))} (C0 : zC p s m args meth c cX8_readClaims 5 none RX8 zW) (hK : va_K D classes (zT cs) s) (hA : ∀ q : Nat, s.heap.size ≤ q → A q) (ih2 : ∀ (x2 : Int32) (x3 : Int32) (sr_at : Int32) (sr_numberAt : Int32) (sr_fault : Int32) (su_askedCount : Int32) (su_askedBits : Int32) (su_asked : Nat → Int32) (h : g2 x2 x3 sr_at sr_numberAt sr_fault su_askedCount su_askedBits su_asked = some R) (H : Heap) (locs : List Loc) (ls : Array Slot) (hP : va_P D classes (wl_X8_readClaims ad cs h_su h_su_asked tape_size tape_bytes sr_at sr_numberAt sr_fault su_who su_against su_kind su_won su_day su_land su_undoneFrom su_askedCount su_askedBits su_first su_foundSo su_foundNot su_fought su_needed su_asked) H) (hD : va_D A (wl_X8_readClaims ad cs h_su h_su_asked tape_size tape_bytes sr_at sr_numberAt sr_fault su_who su_against su_kind su_won su_day su_land su_undoneFrom su_askedCount su_askedBits su_first su_foundSo su_foundNot su_fought su_needed su_asked)) (hS : va_S A s.heap H locs) (hl : lv_has ls 5 [(0, .ref (ad 25)), (1, .ref h_su), (2, .int x2), (3, .int x3)]), W p l e rm_X8_readClaims s m args below meth c H locs 0 0 (MQ below (Q_X8_readClaims D cs ad h_su h_su_asked tape_size tape_bytes su_who su_against su_kind su_won su_day su_land su_undoneFrom su_first su_foundSo su_foundNot su_fought su_needed A R) args s 0 0 A) (F0 m 2 ls [])) (x2 : Int32) (sr_at : Int32) (sr_numberAt : Int32) (sr_fault : Int32) (su_askedCount : Int32) (su_askedBits : Int32) (su_asked : Nat → Int32) (h : B_X8_readClaims_0 g2 tape_size tape_bytes su_who su_against su_kind su_won su_day su_land su_undoneFrom su_first su_foundSo su_foundNot su_fought su_needed x2 sr_at sr_numberAt sr_fault su_askedCount su_askedBits su_asked = some R) (H : Heap) (locs : List Loc) (ls : Array Slot) (hP : va_P D classes (wl_X8_readClaims ad cs h_su h_su_asked tape_size tape_bytes sr_at sr_numberAt sr_fault su_who su_against su_kind su_won su_day su_land su_undoneFrom su_askedCount su_askedBits su_first su_foundSo su_foundNot su_fought su_needed su_asked) H) (hD : va_D A (wl_X8_readClaims ad cs h_su h_su_asked tape_size tape_bytes sr_at sr_numberAt sr_fault su_who su_against su_kind su_won su_day su_land su_undoneFrom su_askedCount su_askedBits su_first su_foundSo su_foundNot su_fought su_needed su_asked)) (hS : va_S A s.heap H locs) (hl : lv_has ls 5 [(0, .ref (ad 25)), (1, .ref h_su), (2, .int x2)]) : W p l e rm_X8_readClaims s m args below meth c H locs 0 0 (MQ below (Q_X8_readClaims D cs ad h_su h_su_asked tape_size tape_bytes su_who su_against su_kind su_won su_day su_land su_undoneFrom su_first su_foundSo su_foundNot su_fought su_needed A R) args s 0 0 A) (F0 m 0 ls []) := by
  obtain ⟨hx, hb, hr, hml, hown, ht, hlocks⟩ := id C0
  refine lv_iconst (v := (0 : Int32)) hx hb dX8_readClaims_0 (by decide) ?_
  refine lv_istore_n (lv' := [(3, .int (0 : Int32)), (0, .ref (ad 25)), (1, .ref h_su), (2, .int x2)]) hx hb dX8_readClaims_1 rfl hl (by decide) rfl (fun ls hl => ?_)
  exact ih2 x2 (0 : Int32) sr_at sr_numberAt sr_fault su_askedCount su_askedBits su_asked h H locs ls hP hD hS (lv_sub hl [1, 2, 3, 0] rfl)
theorem LG_X8_readClaims {p : Program} {l : Launch} {e : Env} {s : State} {m : MethodId} {args : Array Value} {below : List Frame} {meth : Method} {c : Code} {A : Nat → Prop} {D : va_G} {cs : Nat → ClassId} {ad : Nat → Nat} {h_su : Nat} {h_su_asked : Nat} {tape_size : Int32} {tape_bytes : Nat → Int32} {su_who : Int32} {su_against : Int32} {su_kind : Int32} {su_won : Int32} {su_day : Int32} {su_land : Int32} {su_undoneFrom : Int32} {su_first : Int32} {su_foundSo : Int32} {su_foundNot : Int32} {su_fought : Int32} {su_needed : Int32} {R : Int32 × Int32 × Int32 × Int32 × Int32 × (Nat → Int32)} (C0 : zC p s m args meth c cX8_readClaims 5 none RX8 zW) (hK : va_K D classes (zT cs) s) (hA : ∀ q : Nat, s.heap.size ≤ q → A q) : ∀ n : Nat, (∀ (x2 : Int32) (x3 : Int32) (sr_at : Int32) (sr_numberAt : Int32) (sr_fault : Int32) (su_askedCount : Int32) (su_askedBits : Int32) (su_asked : Nat → Int32) (h : (G_X8_readClaims   tape_size tape_bytes su_who su_against su_kind su_won su_day su_land su_undoneFrom su_first su_foundSo su_foundNot su_fought su_needed n) x2 x3 sr_at sr_numberAt sr_fault su_askedCount su_askedBits su_asked = some R) (H : Heap) (locs : List Loc) (ls : Array Slot) (hP : va_P D classes (wl_X8_readClaims ad cs h_su h_su_asked tape_size tape_bytes sr_at sr_numberAt sr_fault su_who su_against su_kind su_won su_day su_land su_undoneFrom su_askedCount su_askedBits su_first su_foundSo su_foundNot su_fought su_needed su_asked) H) (hD : va_D A (wl_X8_readClaims ad cs h_su h_su_asked tape_size tape_bytes sr_at sr_numberAt sr_fault su_who su_against su_kind su_won su_day su_land su_undoneFrom su_askedCount su_askedBits su_first su_foundSo su_foundNot su_fought su_needed su_asked)) (hS : va_S A s.heap H locs) (hl : lv_has ls 5 [(0, .ref (ad 25)), (1, .ref h_su), (2, .int x2), (3, .int x3)]), W p l e rm_X8_readClaims s m args below meth c H locs 0 0 (MQ below (Q_X8_readClaims D cs ad h_su h_su_asked tape_size tape_bytes su_who su_against su_kind su_won su_day su_land su_undoneFrom su_first su_foundSo su_foundNot su_fought su_needed A R) args s 0 0 A) (F0 m 2 ls [])) := by
  intro n
  induction n with
  | zero =>
    refine ?_ <;> (intros; rename_i h _ _ _ _ _ _ _; cases h)
  | succ n ih =>
    exact L_X8_readClaims_2 C0 hK hA  ih
set_option maxHeartbeats 4000000 in
set_option maxRecDepth 100000 in
theorem c_X8_readClaims (l : Launch) (D : va_G) (cs : Nat → ClassId) (ad : Nat → Nat) (h_su : Nat) (h_su_asked : Nat) (sz : Nat) (n : Nat) (x2 : Int32) (tape_size : Int32) (tape_bytes : Nat → Int32) (sr_at : Int32) (sr_numberAt : Int32) (sr_fault : Int32) (su_who : Int32) (su_against : Int32) (su_kind : Int32) (su_won : Int32) (su_day : Int32) (su_land : Int32) (su_undoneFrom : Int32) (su_askedCount : Int32) (su_askedBits : Int32) (su_first : Int32) (su_foundSo : Int32) (su_foundNot : Int32) (su_fought : Int32) (su_needed : Int32) (su_asked : Nat → Int32) (R : Int32 × Int32 × Int32 × Int32 × Int32 × (Nat → Int32)) (h : f_X8_readClaims   n x2 tape_size tape_bytes sr_at sr_numberAt sr_fault su_who su_against su_kind su_won su_day su_land su_undoneFrom su_askedCount su_askedBits su_first su_foundSo su_foundNot su_fought su_needed su_asked = some R) : Met l yX8_readClaims (z_X8_readClaims) rm_X8_readClaims (va_Pc [.ref (ad 25), .ref h_su, .int x2] (zPre D cs (wl_X8_readClaims ad cs h_su h_su_asked tape_size tape_bytes sr_at sr_numberAt sr_fault su_who su_against su_kind su_won su_day su_land su_undoneFrom su_askedCount su_askedBits su_first su_foundSo su_foundNot su_fought su_needed su_asked) sz)) (Q_X8_readClaims D cs ad h_su h_su_asked tape_size tape_bytes su_who su_against su_kind su_won su_day su_land su_undoneFrom su_first su_foundSo su_foundNot su_fought su_needed (va_A (wl_X8_readClaims ad cs h_su h_su_asked tape_size tape_bytes sr_at sr_numberAt sr_fault su_who su_against su_kind su_won su_day su_land su_undoneFrom su_askedCount su_askedBits su_first su_foundSo su_foundNot su_fought su_needed su_asked) sz) R) 0 0 (va_A (wl_X8_readClaims ad cs h_su h_su_asked tape_size tape_bytes sr_at sr_numberAt sr_fault su_who su_against su_kind su_won su_day su_land su_undoneFrom su_askedCount su_askedBits su_first su_foundSo su_foundNot su_fought su_needed su_asked) sz) := by
  refine Met.ofW (cc := cX8_readClaims) (maxL := 5) (ret := none) (by decide) rfl ?_
  intro p e s m args below meth c s₁ B hml hv
  obtain ⟨rfl, hsz, hP, hK, hD0⟩ := hv
  subst hsz
  have hD := hD0.self (sz := s.heap.size)
  have C0 : zC p s m _ meth c cX8_readClaims 5 none RX8 zW := ⟨B.exec, B.bytes, B.returns, hml, findClass_of_methodNamed B.named, fun w hw => atoms_spec (ws := z_X8_readClaims) B.pre w (List.mem_cons_of_mem _ hw), B.notSynchronized⟩
  have hA : ∀ q : Nat, s.heap.size ≤ q → va_A (wl_X8_readClaims ad cs h_su h_su_asked tape_size tape_bytes sr_at sr_numberAt sr_fault su_who su_against su_kind su_won su_day su_land su_undoneFrom su_askedCount su_askedBits su_first su_foundSo su_foundNot su_fought su_needed su_asked) s.heap.size q := fun q h => Or.inr h
  have hl := lv_entry ([.ref (ad 25), .ref h_su, .int x2]) (n := 5) (Nat.le_of_ble_eq_true rfl)
  rw [lg_entry_eq]
  generalize (lg_sl ([.ref (ad 25), .ref h_su, .int x2]) ++ List.replicate (5 - (lg_sl ([.ref (ad 25), .ref h_su, .int x2])).length) Slot.unset).toArray = ls at hl ⊢
  exact L_X8_readClaims_0 C0 hK hA  ((LG_X8_readClaims C0 hK hA  n)) x2 sr_at sr_numberAt sr_fault su_askedCount su_askedBits su_asked h s.heap [] ls hP hD va_S.rf hl
