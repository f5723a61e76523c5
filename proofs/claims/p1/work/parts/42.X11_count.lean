theorem kw_430 : Cond.fieldLink RX11 390 "AlreadyJudged$Changes" "done" "I" ∈ zW := zwI (i := 430) (by decide +kernel) (by decide +kernel)
theorem dX11_count_0 : decode cX11_count 0 = .ok (.iload_n 1, 1) := by decide +kernel
theorem dX11_count_1 : decode cX11_count 1 = .ok (.tableswitch 99 0 6 #[43, 51, 59, 67, 75, 83, 91], 43) := by decide +kernel
theorem dX11_count_44 : decode cX11_count 44 = .ok (.aload_n 0, 1) := by decide +kernel
theorem dX11_count_45 : decode cX11_count 45 = .ok (.getfield 10, 3) := by decide +kernel
theorem dX11_count_48 : decode cX11_count 48 = .ok (.getfield 387, 3) := by decide +kernel
theorem dX11_count_51 : decode cX11_count 51 = .ok (.ireturn, 1) := by decide +kernel
theorem dX11_count_52 : decode cX11_count 52 = .ok (.aload_n 0, 1) := by decide +kernel
theorem dX11_count_53 : decode cX11_count 53 = .ok (.getfield 10, 3) := by decide +kernel
theorem dX11_count_56 : decode cX11_count 56 = .ok (.getfield 194, 3) := by decide +kernel
theorem dX11_count_59 : decode cX11_count 59 = .ok (.ireturn, 1) := by decide +kernel
theorem dX11_count_60 : decode cX11_count 60 = .ok (.aload_n 0, 1) := by decide +kernel
theorem dX11_count_61 : decode cX11_count 61 = .ok (.getfield 10, 3) := by decide +kernel
theorem dX11_count_64 : decode cX11_count 64 = .ok (.getfield 191, 3) := by decide +kernel
theorem dX11_count_67 : decode cX11_count 67 = .ok (.ireturn, 1) := by decide +kernel
theorem dX11_count_68 : decode cX11_count 68 = .ok (.aload_n 0, 1) := by decide +kernel
theorem dX11_count_69 : decode cX11_count 69 = .ok (.getfield 28, 3) := by decide +kernel
theorem dX11_count_72 : decode cX11_count 72 = .ok (.getfield 98, 3) := by decide +kernel
theorem dX11_count_75 : decode cX11_count 75 = .ok (.ireturn, 1) := by decide +kernel
theorem dX11_count_76 : decode cX11_count 76 = .ok (.aload_n 0, 1) := by decide +kernel
theorem dX11_count_77 : decode cX11_count 77 = .ok (.getfield 51, 3) := by decide +kernel
theorem dX11_count_80 : decode cX11_count 80 = .ok (.getfield 287, 3) := by decide +kernel
theorem dX11_count_83 : decode cX11_count 83 = .ok (.ireturn, 1) := by decide +kernel
theorem dX11_count_84 : decode cX11_count 84 = .ok (.aload_n 0, 1) := by decide +kernel
theorem dX11_count_85 : decode cX11_count 85 = .ok (.getfield 58, 3) := by decide +kernel
theorem dX11_count_88 : decode cX11_count 88 = .ok (.getfield 390, 3) := by decide +kernel
theorem dX11_count_91 : decode cX11_count 91 = .ok (.ireturn, 1) := by decide +kernel
theorem dX11_count_92 : decode cX11_count 92 = .ok (.aload_n 0, 1) := by decide +kernel
theorem dX11_count_93 : decode cX11_count 93 = .ok (.getfield 65, 3) := by decide +kernel
theorem dX11_count_96 : decode cX11_count 96 = .ok (.getfield 328, 3) := by decide +kernel
theorem dX11_count_99 : decode cX11_count 99 = .ok (.ireturn, 1) := by decide +kernel
theorem dX11_count_100 : decode cX11_count 100 = .ok (.iconst (-1), 1) := by decide +kernel
theorem dX11_count_101 : decode cX11_count 101 = .ok (.ireturn, 1) := by decide +kernel
abbrev z_X11_count : List Cond := .code yX11_count cX11_count 2 (some .int) :: zW
abbrev wl_X11_count (ad : Nat → Nat) (cs : Nat → ClassId)  (court_shoeCount : Int32) (court_claimCount : Int32) (court_suitCount : Int32) (tape_size : Int32) (wishes_size : Int32) (wishes_brought : Value) (wishes_best : Int32) (wishes_bestRow : Int32) (chg_done : Int32) (chg_size : Int32) (acts_ran : Int32) (acts_kind : Int32) (acts_number : Int32) (acts_claims : Int32) : va_W := [((ad 0), .inr (11, [.ref (ad 4), .ref (ad 15), .ref (ad 23), .ref (ad 25), .ref (ad 26), .ref (ad 28), .ref (ad 34), .ref (ad 39), .ref (ad 1), .ref (ad 2), .ref (ad 3)])), ((ad 4), .inr (2, [.ref (ad 5), .ref (ad 6), .ref (ad 7), .ref (ad 8), .ref (ad 9), .ref (ad 10), .ref (ad 11), .ref (ad 12), .ref (ad 13), .ref (ad 14), .int court_shoeCount, .int court_claimCount, .int court_suitCount])), ((ad 23), .inr (9, [.ref (ad 24), .int tape_size])), ((ad 28), .inr (10, [.ref (ad 29), .ref (ad 30), .int wishes_size, .ref (ad 31), .ref (ad 32), .ref (ad 33), wishes_brought, .int wishes_best, .int wishes_bestRow])), ((ad 34), .inr (1, [.ref (ad 4), .ref (ad 35), .ref (ad 36), .ref (ad 37), .ref (ad 38), .int chg_done, .int chg_size])), ((ad 39), .inr (0, [.ref (ad 40), .int acts_ran, .int acts_kind, .int acts_number, .int acts_claims]))]
def Q_X11_count (D : va_G) (cs : Nat → ClassId) (ad : Nat → Nat)  (court_shoeCount : Int32) (court_claimCount : Int32) (court_suitCount : Int32) (tape_size : Int32) (wishes_size : Int32) (wishes_brought : Value) (wishes_best : Int32) (wishes_bestRow : Int32) (chg_done : Int32) (chg_size : Int32) (acts_ran : Int32) (acts_kind : Int32) (acts_number : Int32) (acts_claims : Int32) (A : Nat → Prop) (R : Int32 × Unit) : Array Value → State → Outcome → State → Prop :=
  va_Qi (fun (r : Int32) (u : Unit) => (r, u) = R) (fun (u : Unit) (t : State) => va_P D classes (wl_X11_count ad cs court_shoeCount court_claimCount court_suitCount tape_size wishes_size wishes_brought wishes_best wishes_bestRow chg_done chg_size acts_ran acts_kind acts_number acts_claims) t.heap ∧ va_D A (wl_X11_count ad cs court_shoeCount court_claimCount court_suitCount tape_size wishes_size wishes_brought wishes_best wishes_bestRow chg_done chg_size acts_ran acts_kind acts_number acts_claims)) A
abbrev rm_X11_count : Room := { frames := 0, cells := 0, slots := 0, locals := 0 }
def B_X11_count_0    (court_shoeCount : Int32) (court_claimCount : Int32) (court_suitCount : Int32) (tape_size : Int32) (wishes_size : Int32) (wishes_brought : Value) (wishes_best : Int32) (wishes_bestRow : Int32) (chg_done : Int32) (chg_size : Int32) (acts_ran : Int32) (acts_kind : Int32) (acts_number : Int32) (acts_claims : Int32) (x1 : Int32) : Option (Int32 × Unit) :=
  (if x1 = (0 : Int32) then (some (court_shoeCount, ())) else (if x1 = (1 : Int32) then (some (court_claimCount, ())) else (if x1 = (2 : Int32) then (some (court_suitCount, ())) else (if x1 = (3 : Int32) then (some (tape_size, ())) else (if x1 = (4 : Int32) then (some (wishes_size, ())) else (if x1 = (5 : Int32) then (some (chg_done, ())) else (if x1 = (6 : Int32) then (some (acts_ran, ())) else (some ((-1 : Int32), ())))))))))
def f_X11_count   (x1 : Int32) (court_shoeCount : Int32) (court_claimCount : Int32) (court_suitCount : Int32) (tape_size : Int32) (wishes_size : Int32) (wishes_brought : Value) (wishes_best : Int32) (wishes_bestRow : Int32) (chg_done : Int32) (chg_size : Int32) (acts_ran : Int32) (acts_kind : Int32) (acts_number : Int32) (acts_claims : Int32) : Option (Int32 × Unit) := B_X11_count_0   court_shoeCount court_claimCount court_suitCount tape_size wishes_size wishes_brought wishes_best wishes_bestRow chg_done chg_size acts_ran acts_kind acts_number acts_claims x1 
set_option maxHeartbeats 4000000 in
set_option maxRecDepth 100000 in
theorem L_X11_count_0 {p : Program} {l : Launch} {e : Env} {s : State} {m : MethodId} {args : Array Value} {below : List Frame} {meth : Method} {c : Code} {A : Nat → Prop} {D : va_G} {cs : Nat → ClassId} {ad : Nat → Nat} {court_shoeCount : Int32} {court_claimCount : Int32} {court_suitCount : Int32} {tape_size : Int32} {wishes_size : Int32} {wishes_brought : Value} {wishes_best : Int32} {wishes_bestRow : Int32} {chg_done : Int32} {chg_size : Int32} {acts_ran : Int32} {acts_kind : Int32} {acts_number : Int32} {acts_claims : Int32} {R : Int32 × Unit} (C0 : zC p s m args meth c cX11_count 2 (some .int) RX11 zW) (hK : va_K D classes (zT cs) s) (hA : ∀ q : Nat, s.heap.size ≤ q → A q) (x1 : Int32) (h : B_X11_count_0 court_shoeCount court_claimCount court_suitCount tape_size wishes_size wishes_brought wishes_best wishes_bestRow chg_done chg_size acts_ran acts_kind acts_number acts_claims x1 = some R) (H : Heap) (locs : List Loc) (ls : Array Slot) (hP : va_P D classes (wl_X11_count ad cs court_shoeCount court_claimCount court_suitCount tape_size wishes_size wishes_brought wishes_best wishes_bestRow chg_done chg_size acts_ran acts_kind acts_number acts_claims) H) (hD : va_D A (wl_X11_count ad cs court_shoeCount court_claimCount court_suitCount tape_size wishes_size wishes_brought wishes_best wishes_bestRow chg_done chg_size acts_ran acts_kind acts_number acts_claims)) (hS : va_S A s.heap H locs) (hl : lv_has ls 2 [(0, .ref (ad 0)), (1, .int x1)]) : W p l e rm_X11_count s m args below meth c H locs 0 0 (MQ below (Q_X11_count D cs ad court_shoeCount court_claimCount court_suitCount tape_size wishes_size wishes_brought wishes_best wishes_bestRow chg_done chg_size acts_ran acts_kind acts_number acts_claims A R) args s 0 0 A) (F0 m 0 ls []) := by
  obtain ⟨hx, hb, hr, hml, hown, ht, hlocks⟩ := id C0
  refine lv_iload_n hx hb dX11_count_0 rfl (lv_at hl 1 rfl) ?_
  by_cases c_1 : x1 = (0 : Int32)
  · have h := zk_t c_1 h
    refine lv_tableIn (tgt := 44) hx hb dX11_count_1 (by rw [c_1]; decide) (by rw [c_1]; decide) (by rw [c_1]; rfl) (by decide) ?_
    refine lv_aload_n hx hb dX11_count_44 rfl (lv_at hl 0 rfl) ?_
    refine va_get (D := D) (ci := 11) (v := .ref (ad 4)) (C := RX11) (T := TX11) (N := 11) hx hb ht iX11 hown hK hP 0 rfl rfl 0 (by decide) (ht _ kw_696) (fun _ h9 => h9) rfl dX11_count_45 ?_
    refine va_get (D := D) (ci := 2) (v := .int court_shoeCount) (C := RX2) (T := TX2) (N := 13) hx hb ht iX2 hown hK hP 1 rfl rfl 10 (by decide) (ht _ kw_151) (fun _ h9 => h9) rfl dX11_count_48 ?_
    exact W.iret (v := court_shoeCount) hx hb hr (fun t ht2 hW => ⟨⟨court_shoeCount, (), rfl, Option.some.inj h, by rw [ht2]; exact hP, hD⟩, hS.F ht2⟩) hS.2.2 dX11_count_51 hlocks
  · have h := zk_f c_1 h
    by_cases c_2 : x1 = (1 : Int32)
    · have h := zk_t c_2 h
      refine lv_tableIn (tgt := 52) hx hb dX11_count_1 (by rw [c_2]; decide) (by rw [c_2]; decide) (by rw [c_2]; rfl) (by decide) ?_
      refine lv_aload_n hx hb dX11_count_52 rfl (lv_at hl 0 rfl) ?_
      refine va_get (D := D) (ci := 11) (v := .ref (ad 4)) (C := RX11) (T := TX11) (N := 11) hx hb ht iX11 hown hK hP 0 rfl rfl 0 (by decide) (ht _ kw_696) (fun _ h9 => h9) rfl dX11_count_53 ?_
      refine va_get (D := D) (ci := 2) (v := .int court_claimCount) (C := RX2) (T := TX2) (N := 13) hx hb ht iX2 hown hK hP 1 rfl rfl 11 (by decide) (ht _ kw_153) (fun _ h9 => h9) rfl dX11_count_56 ?_
      exact W.iret (v := court_claimCount) hx hb hr (fun t ht2 hW => ⟨⟨court_claimCount, (), rfl, Option.some.inj h, by rw [ht2]; exact hP, hD⟩, hS.F ht2⟩) hS.2.2 dX11_count_59 hlocks
    · have h := zk_f c_2 h
      by_cases c_3 : x1 = (2 : Int32)
      · have h := zk_t c_3 h
        refine lv_tableIn (tgt := 60) hx hb dX11_count_1 (by rw [c_3]; decide) (by rw [c_3]; decide) (by rw [c_3]; rfl) (by decide) ?_
        refine lv_aload_n hx hb dX11_count_60 rfl (lv_at hl 0 rfl) ?_
        refine va_get (D := D) (ci := 11) (v := .ref (ad 4)) (C := RX11) (T := TX11) (N := 11) hx hb ht iX11 hown hK hP 0 rfl rfl 0 (by decide) (ht _ kw_696) (fun _ h9 => h9) rfl dX11_count_61 ?_
        refine va_get (D := D) (ci := 2) (v := .int court_suitCount) (C := RX2) (T := TX2) (N := 13) hx hb ht iX2 hown hK hP 1 rfl rfl 12 (by decide) (ht _ kw_155) (fun _ h9 => h9) rfl dX11_count_64 ?_
        exact W.iret (v := court_suitCount) hx hb hr (fun t ht2 hW => ⟨⟨court_suitCount, (), rfl, Option.some.inj h, by rw [ht2]; exact hP, hD⟩, hS.F ht2⟩) hS.2.2 dX11_count_67 hlocks
      · have h := zk_f c_3 h
        by_cases c_4 : x1 = (3 : Int32)
        · have h := zk_t c_4 h
          refine lv_tableIn (tgt := 68) hx hb dX11_count_1 (by rw [c_4]; decide) (by rw [c_4]; decide) (by rw [c_4]; rfl) (by decide) ?_
          refine lv_aload_n hx hb dX11_count_68 rfl (lv_at hl 0 rfl) ?_
          refine va_get (D := D) (ci := 11) (v := .ref (ad 23)) (C := RX11) (T := TX11) (N := 11) hx hb ht iX11 hown hK hP 0 rfl rfl 2 (by decide) (ht _ kw_698) (fun _ h9 => h9) rfl dX11_count_69 ?_
          refine va_get (D := D) (ci := 9) (v := .int tape_size) (C := RX9) (T := TX9) (N := 2) hx hb ht iX9 hown hK hP 2 rfl rfl 1 (by decide) (ht _ kw_236) (fun _ h9 => h9) rfl dX11_count_72 ?_
          exact W.iret (v := tape_size) hx hb hr (fun t ht2 hW => ⟨⟨tape_size, (), rfl, Option.some.inj h, by rw [ht2]; exact hP, hD⟩, hS.F ht2⟩) hS.2.2 dX11_count_75 hlocks
        · have h := zk_f c_4 h
          by_cases c_5 : x1 = (4 : Int32)
          · have h := zk_t c_5 h
            refine lv_tableIn (tgt := 76) hx hb dX11_count_1 (by rw [c_5]; decide) (by rw [c_5]; decide) (by rw [c_5]; rfl) (by decide) ?_
            refine lv_aload_n hx hb dX11_count_76 rfl (lv_at hl 0 rfl) ?_
            refine va_get (D := D) (ci := 11) (v := .ref (ad 28)) (C := RX11) (T := TX11) (N := 11) hx hb ht iX11 hown hK hP 0 rfl rfl 5 (by decide) (ht _ kw_701) (fun _ h9 => h9) rfl dX11_count_77 ?_
            refine va_get (D := D) (ci := 10) (v := .int wishes_size) (C := RX10) (T := TX10) (N := 9) hx hb ht iX10 hown hK hP 3 rfl rfl 2 (by decide) (ht _ kw_390) (fun _ h9 => h9) rfl dX11_count_80 ?_
            exact W.iret (v := wishes_size) hx hb hr (fun t ht2 hW => ⟨⟨wishes_size, (), rfl, Option.some.inj h, by rw [ht2]; exact hP, hD⟩, hS.F ht2⟩) hS.2.2 dX11_count_83 hlocks
          · have h := zk_f c_5 h
            by_cases c_6 : x1 = (5 : Int32)
            · have h := zk_t c_6 h
              refine lv_tableIn (tgt := 84) hx hb dX11_count_1 (by rw [c_6]; decide) (by rw [c_6]; decide) (by rw [c_6]; rfl) (by decide) ?_
              refine lv_aload_n hx hb dX11_count_84 rfl (lv_at hl 0 rfl) ?_
              refine va_get (D := D) (ci := 11) (v := .ref (ad 34)) (C := RX11) (T := TX11) (N := 11) hx hb ht iX11 hown hK hP 0 rfl rfl 6 (by decide) (ht _ kw_702) (fun _ h9 => h9) rfl dX11_count_85 ?_
              refine va_get (D := D) (ci := 1) (v := .int chg_done) (C := RX1) (T := TX1) (N := 7) hx hb ht iX1 hown hK hP 4 rfl rfl 5 (by decide) (ht _ kw_430) (fun _ h9 => h9) rfl dX11_count_88 ?_
              exact W.iret (v := chg_done) hx hb hr (fun t ht2 hW => ⟨⟨chg_done, (), rfl, Option.some.inj h, by rw [ht2]; exact hP, hD⟩, hS.F ht2⟩) hS.2.2 dX11_count_91 hlocks
            · have h := zk_f c_6 h
              by_cases c_7 : x1 = (6 : Int32)
              · have h := zk_t c_7 h
                refine lv_tableIn (tgt := 92) hx hb dX11_count_1 (by rw [c_7]; decide) (by rw [c_7]; decide) (by rw [c_7]; rfl) (by decide) ?_
                refine lv_aload_n hx hb dX11_count_92 rfl (lv_at hl 0 rfl) ?_
                refine va_get (D := D) (ci := 11) (v := .ref (ad 39)) (C := RX11) (T := TX11) (N := 11) hx hb ht iX11 hown hK hP 0 rfl rfl 7 (by decide) (ht _ kw_703) (fun _ h9 => h9) rfl dX11_count_93 ?_
                refine va_get (D := D) (ci := 0) (v := .int acts_ran) (C := RX0) (T := TX0) (N := 5) hx hb ht iX0 hown hK hP 5 rfl rfl 1 (by decide) (ht _ kw_456) (fun _ h9 => h9) rfl dX11_count_96 ?_
                exact W.iret (v := acts_ran) hx hb hr (fun t ht2 hW => ⟨⟨acts_ran, (), rfl, Option.some.inj h, by rw [ht2]; exact hP, hD⟩, hS.F ht2⟩) hS.2.2 dX11_count_99 hlocks
              · have h := zk_f c_7 h
                refine lv_tableOut (tgt := 100) hx hb dX11_count_1 (zk_out (lo := 0) (hi := 6) [(0 : Int32), (1 : Int32), (2 : Int32), (3 : Int32), (4 : Int32), (5 : Int32), (6 : Int32)] (by decide +kernel) (List.forall_mem_cons.mpr ⟨c_1, List.forall_mem_cons.mpr ⟨c_2, List.forall_mem_cons.mpr ⟨c_3, List.forall_mem_cons.mpr ⟨c_4, List.forall_mem_cons.mpr ⟨c_5, List.forall_mem_cons.mpr ⟨c_6, List.forall_mem_cons.mpr ⟨c_7, fun _ h => absurd h List.not_mem_nil⟩⟩⟩⟩⟩⟩⟩)) (by decide) ?_
                refine lv_iconst (v := (-1 : Int32)) hx hb dX11_count_100 (by decide) ?_
                exact W.iret (v := (-1 : Int32)) hx hb hr (fun t ht2 hW => ⟨⟨(-1 : Int32), (), rfl, Option.some.inj h, by rw [ht2]; exact hP, hD⟩, hS.F ht2⟩) hS.2.2 dX11_count_101 hlocks
set_option maxHeartbeats 4000000 in
set_option maxRecDepth 100000 in
theorem c_X11_count (l : Launch) (D : va_G) (cs : Nat → ClassId) (ad : Nat → Nat) (sz : Nat) (x1 : Int32) (court_shoeCount : Int32) (court_claimCount : Int32) (court_suitCount : Int32) (tape_size : Int32) (wishes_size : Int32) (wishes_brought : Value) (wishes_best : Int32) (wishes_bestRow : Int32) (chg_done : Int32) (chg_size : Int32) (acts_ran : Int32) (acts_kind : Int32) (acts_number : Int32) (acts_claims : Int32) (R : Int32 × Unit) (h : f_X11_count   x1 court_shoeCount court_claimCount court_suitCount tape_size wishes_size wishes_brought wishes_best wishes_bestRow chg_done chg_size acts_ran acts_kind acts_number acts_claims = some R) : Met l yX11_count (z_X11_count) rm_X11_count (va_Pc [.ref (ad 0), .int x1] (zPre D cs (wl_X11_count ad cs court_shoeCount court_claimCount court_suitCount tape_size wishes_size wishes_brought wishes_best wishes_bestRow chg_done chg_size acts_ran acts_kind acts_number acts_claims) sz)) (Q_X11_count D cs ad court_shoeCount court_claimCount court_suitCount tape_size wishes_size wishes_brought wishes_best wishes_bestRow chg_done chg_size acts_ran acts_kind acts_number acts_claims (va_A (wl_X11_count ad cs court_shoeCount court_claimCount court_suitCount tape_size wishes_size wishes_brought wishes_best wishes_bestRow chg_done chg_size acts_ran acts_kind acts_number acts_claims) sz) R) 0 0 (va_A (wl_X11_count ad cs court_shoeCount court_claimCount court_suitCount tape_size wishes_size wishes_brought wishes_best wishes_bestRow chg_done chg_size acts_ran acts_kind acts_number acts_claims) sz) := by
  refine Met.ofW (cc := cX11_count) (maxL := 2) (ret := (some .int)) (by decide) rfl ?_
  intro p e s m args below meth c s₁ B hml hv
  obtain ⟨rfl, hsz, hP, hK, hD0⟩ := hv
  subst hsz
  have hD := hD0.self (sz := s.heap.size)
  have C0 : zC p s m _ meth c cX11_count 2 (some .int) RX11 zW := ⟨B.exec, B.bytes, B.returns, hml, findClass_of_methodNamed B.named, fun w hw => atoms_spec (ws := z_X11_count) B.pre w (List.mem_cons_of_mem _ hw), B.notSynchronized⟩
  have hA : ∀ q : Nat, s.heap.size ≤ q → va_A (wl_X11_count ad cs court_shoeCount court_claimCount court_suitCount tape_size wishes_size wishes_brought wishes_best wishes_bestRow chg_done chg_size acts_ran acts_kind acts_number acts_claims) s.heap.size q := fun q h => Or.inr h
  have hl := lv_entry ([.ref (ad 0), .int x1]) (n := 2) (Nat.le_of_ble_eq_true rfl)
  rw [lg_entry_eq]
  generalize (lg_sl ([.ref (ad 0), .int x1]) ++ List.replicate (2 - (lg_sl ([.ref (ad 0), .int x1])).length) Slot.unset).toArray = ls at hl ⊢
  exact L_X11_count_0 C0 hK hA   x1  h s.heap [] ls hP hD va_S.rf hl
abbrev wl_X11_shiftB (ad : Nat → Nat) (cs : Nat → ClassId) (h_pl : Nat) (h_pl_elements : Nat) (h_pm : Nat) (h_pm_elements : Nat) (root_places : Nat → Option Nat) (pl_holds : Int32) (pl_suit : Int32) (pl_size : Int32) (pm_holds : Int32) (pm_suit : Int32) (pm_size : Int32) : va_W := [((ad 0), .inr (11, [.ref (ad 4), .ref (ad 15), .ref (ad 23), .ref (ad 25), .ref (ad 26), .ref (ad 28), .ref (ad 34), .ref (ad 39), .ref (ad 1), .ref (ad 2), .ref (ad 3)])), ((ad 1), .inl (cs 7, 6, .inr (.inr (.inr (.inr root_places))))), (h_pl, .inr (6, [.int pl_holds, .int pl_suit, .int pl_size, .ref h_pl_elements])), (h_pm, .inr (6, [.int pm_holds, .int pm_suit, .int pm_size, .ref h_pm_elements]))]
def Q_X11_shiftB (D : va_G) (cs : Nat → ClassId) (ad : Nat → Nat) (h_pl : Nat) (h_pl_elements : Nat) (h_pm : Nat) (h_pm_elements : Nat) (root_places : Nat → Option Nat) (pl_holds : Int32) (pl_suit : Int32) (pl_size : Int32) (pm_holds : Int32) (pm_suit : Int32) (pm_size : Int32) (A : Nat → Prop) (R : Int32 × Unit) : Array Value → State → Outcome → State → Prop :=
  va_Qi (fun (r : Int32) (u : Unit) => (r, u) = R) (fun (u : Unit) (t : State) => va_P D classes (wl_X11_shiftB ad cs h_pl h_pl_elements h_pm h_pm_elements root_places pl_holds pl_suit pl_size pm_holds pm_suit pm_size) t.heap ∧ va_D A (wl_X11_shiftB ad cs h_pl h_pl_elements h_pm h_pm_elements root_places pl_holds pl_suit pl_size pm_holds pm_suit pm_size)) A
abbrev rm_X11_shiftB : Room := { frames := 1, cells := 0, slots := 0, locals := 22 }
def B_X11_shiftB_0 (h_pl : Nat) (h_pm : Nat)   (root_places : Nat → Option Nat) (pl_holds : Int32) (pl_suit : Int32) (pl_size : Int32) (pm_holds : Int32) (pm_suit : Int32) (pm_size : Int32) (x1 : Int32) (x2 : Int32) (x3 : Int32) (x4 : Int32) (x5 : Int32) : Option (Int32 × Unit) :=
  (zk_b2 (f_X11_placeAt h_pl x1 root_places pl_holds pl_suit pl_size) (fun r_1 u_2 => (if r_1 = true then (zk_b2 (f_X11_placeAt h_pm x3 root_places pm_holds pm_suit pm_size) (fun r_5 u_6 => (if r_5 = true then (if pl_holds = (-1 : Int32) then (some ((-11 : Int32), ())) else (if pm_holds = (-1 : Int32) then (some ((-11 : Int32), ())) else (if pl_holds = (5 : Int32) then (some ((-12 : Int32), ())) else (if pl_holds = pm_holds then (zk_b2 (f_X6_hasRange x2 x5 pl_holds pl_suit pl_size) (fun r_13 u_14 => (if r_13 = 0 then (some ((-13 : Int32), ())) else (zk_b2 (f_X6_hasRange x4 x5 pm_holds pm_suit pm_size) (fun r_17 u_18 => (if r_17 = 0 then (some ((-13 : Int32), ())) else none)))))) else (some ((-12 : Int32), ())))))) else (some ((-1 : Int32), ()))))) else (zk_b2 (f_X11_placeAt h_pm x3 root_places pm_holds pm_suit pm_size) (fun r_21 u_22 => (if r_21 = true then (some ((-1 : Int32), ())) else (some ((-1 : Int32), ()))))))))
def f_X11_shiftB (h_pl : Nat) (h_pm : Nat)  (x1 : Int32) (x2 : Int32) (x3 : Int32) (x4 : Int32) (x5 : Int32) (root_places : Nat → Option Nat) (pl_holds : Int32) (pl_suit : Int32) (pl_size : Int32) (pm_holds : Int32) (pm_suit : Int32) (pm_size : Int32) : Option (Int32 × Unit) := B_X11_shiftB_0 h_pl h_pm  root_places pl_holds pl_suit pl_size pm_holds pm_suit pm_size x1 x2 x3 x4 x5 
set_option maxHeartbeats 4000000 in
set_option maxRecDepth 100000 in
theorem L_X11_shiftB_0 {p : Program} {l : Launch} {e : Env} {s : State} {m : MethodId} {args : Array Value} {below : List Frame} {meth : Method} {c : Code} {A : Nat → Prop} {D : va_G} {cs : Nat → ClassId} {ad : Nat → Nat} {h_pl : Nat} {h_pl_elements : Nat} {h_pm : Nat} {h_pm_elements : Nat} {root_places : Nat → Option Nat} {pl_holds : Int32} {pl_suit : Int32} {pl_size : Int32} {pm_holds : Int32} {pm_suit : Int32} {pm_size : Int32} {R : Int32 × Unit} (C0 : zC p s m args meth c cX11_shift 8 (some .int) RX11 zW) (hK : va_K D classes (zT cs) s) (hA : ∀ q : Nat, s.heap.size ≤ q → A q) (x1 : Int32) (x2 : Int32) (x3 : Int32) (x4 : Int32) (x5 : Int32) (h : B_X11_shiftB_0 h_pl h_pm root_places pl_holds pl_suit pl_size pm_holds pm_suit pm_size x1 x2 x3 x4 x5 = some R) (H : Heap) (locs : List Loc) (ls : Array Slot) (hP : va_P D classes (wl_X11_shiftB ad cs h_pl h_pl_elements h_pm h_pm_elements root_places pl_holds pl_suit pl_size pm_holds pm_suit pm_size) H) (hD : va_D A (wl_X11_shiftB ad cs h_pl h_pl_elements h_pm h_pm_elements root_places pl_holds pl_suit pl_size pm_holds pm_suit pm_size)) (hS : va_S A s.heap H locs) (hl : lv_has ls 8 [(0, .ref (ad 0)), (1, .int x1), (2, .int x2), (3, .int x3), (4, .int x4), (5, .int x5)]) : W p l e rm_X11_shiftB s m args below meth c H locs 0 0 (MQ below (Q_X11_shiftB D cs ad h_pl h_pl_elements h_pm h_pm_elements root_places pl_holds pl_suit pl_size pm_holds pm_suit pm_size A R) args s 0 0 A) (F0 m 0 ls []) := by
  obtain ⟨hx, hb, hr, hml, hown, ht, hlocks⟩ := id C0
  refine lv_aload_n hx hb dX11_shift_0 rfl (lv_at hl 0 rfl) ?_
  refine lv_iload_n hx hb dX11_shift_1 rfl (lv_at hl 1 rfl) ?_
  obtain ⟨r_1, u_2, hc_3, h⟩ := zk_o2 h
  refine zk_vq (post := (fun r u => r = (if r_1 = true then some h_pl else none) ∧ u = (u_2))) (w1 := fun u => (wl_X11_placeAt ad cs h_pl h_pl_elements root_places pl_holds pl_suit pl_size)) (As := [.int x1]) (rest := []) (c_X11_placeAt l D cs ad h_pl h_pl_elements H.size x1 root_places pl_holds pl_suit pl_size _ hc_3) ⟨hx, hb, hml, hown, ht⟩ (cwV 1 ht g_X11_111 rfl rfl rfl (by decide +kernel) ⟨Nat.le_of_ble_eq_true rfl, Nat.le_of_ble_eq_true rfl⟩) (va_recv hK hP (ci := 11) (q0 := 0) rfl rfl) hP hD hS hK hA [0, 1, 2] [3] rfl rfl rfl rfl (by decide) rfl hl.1 (Nat.le_of_ble_eq_true rfl) dX11_shift_2 ⟨Nat.zero_le _, Nat.zero_le _⟩ (fun r u H locs hq hP hD hS => ?_)
  obtain ⟨hq1, hq2⟩ := hq; cases hq2; subst hq1
  have hP : va_P D classes (wl_X11_shiftB ad cs h_pl h_pl_elements h_pm h_pm_elements root_places pl_holds pl_suit pl_size pm_holds pm_suit pm_size) H := hP.sub [1, 2, 3, 0] rfl
  have hD : va_D A (wl_X11_shiftB ad cs h_pl h_pl_elements h_pm h_pm_elements root_places pl_holds pl_suit pl_size pm_holds pm_suit pm_size) := hD.sub [1, 2, 3, 0] rfl rfl
  by_cases c_4 : r_1 = true
  · have h := zk_t c_4 h
    refine W.eq (g2 := F0 m 5 ls [.ref h_pl]) (by rw [if_pos c_4]; rfl) ?_
    refine lv_astore (lv' := [(6, .ref h_pl), (0, .ref (ad 0)), (1, .int x1), (2, .int x2), (3, .int x3), (4, .int x4), (5, .int x5)]) hx hb dX11_shift_5 hl (by decide) rfl (fun ls hl => ?_)
    refine lv_aload_n hx hb dX11_shift_7 rfl (lv_at hl 1 rfl) ?_
    refine lv_iload_n hx hb dX11_shift_8 rfl (lv_at hl 4 rfl) ?_
    obtain ⟨r_5, u_6, hc_7, h⟩ := zk_o2 h
    refine zk_vq (post := (fun r u => r = (if r_5 = true then some h_pm else none) ∧ u = (u_6))) (w1 := fun u => (wl_X11_placeAt ad cs h_pm h_pm_elements root_places pm_holds pm_suit pm_size)) (As := [.int x3]) (rest := []) (c_X11_placeAt l D cs ad h_pm h_pm_elements H.size x3 root_places pm_holds pm_suit pm_size _ hc_7) ⟨hx, hb, hml, hown, ht⟩ (cwV 1 ht g_X11_111 rfl rfl rfl (by decide +kernel) ⟨Nat.le_of_ble_eq_true rfl, Nat.le_of_ble_eq_true rfl⟩) (va_recv hK hP (ci := 11) (q0 := 0) rfl rfl) hP hD hS hK hA [0, 1, 3] [2] rfl rfl rfl rfl (by decide) rfl hl.1 (Nat.le_of_ble_eq_true rfl) dX11_shift_9 ⟨Nat.zero_le _, Nat.zero_le _⟩ (fun r u H locs hq hP hD hS => ?_)
    obtain ⟨hq1, hq2⟩ := hq; cases hq2; subst hq1
    have hP : va_P D classes (wl_X11_shiftB ad cs h_pl h_pl_elements h_pm h_pm_elements root_places pl_holds pl_suit pl_size pm_holds pm_suit pm_size) H := hP.sub [1, 2, 0, 3] rfl
    have hD : va_D A (wl_X11_shiftB ad cs h_pl h_pl_elements h_pm h_pm_elements root_places pl_holds pl_suit pl_size pm_holds pm_suit pm_size) := hD.sub [1, 2, 0, 3] rfl rfl
    by_cases c_8 : r_5 = true
    · have h := zk_t c_8 h
      refine W.eq (g2 := F0 m 12 ls [.ref h_pm]) (by rw [if_pos c_8]; rfl) ?_
      refine lv_astore (lv' := [(7, .ref h_pm), (6, .ref h_pl), (0, .ref (ad 0)), (1, .int x1), (2, .int x2), (3, .int x3), (4, .int x4), (5, .int x5)]) hx hb dX11_shift_12 hl (by decide) rfl (fun ls hl => ?_)
      refine lv_aload hx hb dX11_shift_14 (lv_at hl 1 rfl) ?_
      refine lv_ifnull hx hb dX11_shift_16 ?_
      refine lv_aload hx hb dX11_shift_19 (lv_at hl 0 rfl) ?_
      refine lv_ifnonnull (tgt := 26) hx hb dX11_shift_21 (by decide) ?_
      refine lv_aload hx hb dX11_shift_26 (lv_at hl 1 rfl) ?_
      refine va_get (D := D) (ci := 6) (v := .int pl_holds) (C := RX6) (T := TX6) (N := 4) hx hb ht iX6 hown hK hP 2 rfl rfl 0 (by decide) (ht _ kw_681) (fun _ h9 => h9) rfl dX11_shift_28 ?_
      refine lv_iconst (v := (-1 : Int32)) hx hb dX11_shift_31 (by decide) ?_
      refine lv_icmp_eq (tgt := 44) hx hb dX11_shift_32 (by decide) (fun c_9 => ?_) (fun c_9 => ?_)
      · have h := zk_t c_9 h
        refine lv_bipush (v := (-11 : Int32)) hx hb dX11_shift_44 (by decide) ?_
        exact W.iret (v := (-11 : Int32)) hx hb hr (fun t ht2 hW => ⟨⟨(-11 : Int32), (), rfl, Option.some.inj h, by rw [ht2]; exact hP, hD⟩, hS.F ht2⟩) hS.2.2 dX11_shift_46 hlocks
      · have h := zk_f c_9 h
        refine lv_aload hx hb dX11_shift_35 (lv_at hl 0 rfl) ?_
        refine va_get (D := D) (ci := 6) (v := .int pm_holds) (C := RX6) (T := TX6) (N := 4) hx hb ht iX6 hown hK hP 3 rfl rfl 0 (by decide) (ht _ kw_681) (fun _ h9 => h9) rfl dX11_shift_37 ?_
        refine lv_iconst (v := (-1 : Int32)) hx hb dX11_shift_40 (by decide) ?_
        refine lv_icmp_ne (tgt := 47) hx hb dX11_shift_41 (by decide) (fun c_10 => ?_) (fun c_10 => ?_)
        · have h := zk_f c_10 h
          refine lv_aload hx hb dX11_shift_47 (lv_at hl 1 rfl) ?_
          refine va_get (D := D) (ci := 6) (v := .int pl_holds) (C := RX6) (T := TX6) (N := 4) hx hb ht iX6 hown hK hP 2 rfl rfl 0 (by decide) (ht _ kw_681) (fun _ h9 => h9) rfl dX11_shift_49 ?_
          refine lv_iconst (v := (5 : Int32)) hx hb dX11_shift_52 (by decide) ?_
          refine lv_icmp_eq (tgt := 69) hx hb dX11_shift_53 (by decide) (fun c_11 => ?_) (fun c_11 => ?_)
          · have h := zk_t c_11 h
            refine lv_bipush (v := (-12 : Int32)) hx hb dX11_shift_69 (by decide) ?_
            exact W.iret (v := (-12 : Int32)) hx hb hr (fun t ht2 hW => ⟨⟨(-12 : Int32), (), rfl, Option.some.inj h, by rw [ht2]; exact hP, hD⟩, hS.F ht2⟩) hS.2.2 dX11_shift_71 hlocks
          · have h := zk_f c_11 h
            refine lv_aload hx hb dX11_shift_56 (lv_at hl 1 rfl) ?_
            refine va_get (D := D) (ci := 6) (v := .int pl_holds) (C := RX6) (T := TX6) (N := 4) hx hb ht iX6 hown hK hP 2 rfl rfl 0 (by decide) (ht _ kw_681) (fun _ h9 => h9) rfl dX11_shift_58 ?_
            refine lv_aload hx hb dX11_shift_61 (lv_at hl 0 rfl) ?_
            refine va_get (D := D) (ci := 6) (v := .int pm_holds) (C := RX6) (T := TX6) (N := 4) hx hb ht iX6 hown hK hP 3 rfl rfl 0 (by decide) (ht _ kw_681) (fun _ h9 => h9) rfl dX11_shift_63 ?_
            refine lv_icmp_eq (tgt := 72) hx hb dX11_shift_66 (by decide) (fun c_12 => ?_) (fun c_12 => ?_)
            · have h := zk_t c_12 h
              refine lv_aload hx hb dX11_shift_72 (lv_at hl 1 rfl) ?_
              refine lv_iload_n hx hb dX11_shift_74 rfl (lv_at hl 4 rfl) ?_
              refine lv_iload hx hb dX11_shift_75 (lv_at hl 7 rfl) ?_
              obtain ⟨r_13, u_14, hc_15, h⟩ := zk_o2 h
              refine zk_vi (post := (fun r u => (r, u) = (r_13, u_14))) (w1 := fun u => (wl_X6_hasRange ad cs h_pl h_pl_elements pl_holds pl_suit pl_size)) (As := [.int x2, .int x5]) (rest := []) (c_X6_hasRange l D cs ad h_pl h_pl_elements H.size x2 x5 pl_holds pl_suit pl_size _ hc_15) ⟨hx, hb, hml, hown, ht⟩ (cwV 2 ht g_X11_375 rfl rfl rfl (by decide +kernel) ⟨Nat.le_of_ble_eq_true rfl, Nat.le_of_ble_eq_true rfl⟩) (va_recv hK hP (ci := 6) (q0 := 2) rfl rfl) hP hD hS hK hA [2] [0, 1, 3] rfl rfl rfl rfl (by decide) rfl hl.1 (Nat.le_of_ble_eq_true rfl) dX11_shift_77 ⟨Nat.zero_le _, Nat.zero_le _⟩ (fun r u H locs hq hP hD hS => ?_)
              cases hq
              have hP : va_P D classes (wl_X11_shiftB ad cs h_pl h_pl_elements h_pm h_pm_elements root_places pl_holds pl_suit pl_size pm_holds pm_suit pm_size) H := hP.sub [0, 1, 3, 2] rfl
              have hD : va_D A (wl_X11_shiftB ad cs h_pl h_pl_elements h_pm h_pm_elements root_places pl_holds pl_suit pl_size pm_holds pm_suit pm_size) := hD.sub [0, 1, 3, 2] rfl rfl
              refine lv_if_eq (tgt := 95) hx hb dX11_shift_80 (by decide) (fun c_16 => ?_) (fun c_16 => ?_)
              · have h := zk_t c_16 h
                refine lv_bipush (v := (-13 : Int32)) hx hb dX11_shift_95 (by decide) ?_
                exact W.iret (v := (-13 : Int32)) hx hb hr (fun t ht2 hW => ⟨⟨(-13 : Int32), (), rfl, Option.some.inj h, by rw [ht2]; exact hP, hD⟩, hS.F ht2⟩) hS.2.2 dX11_shift_97 hlocks
              · have h := zk_f c_16 h
                refine lv_aload hx hb dX11_shift_83 (lv_at hl 0 rfl) ?_
                refine lv_iload hx hb dX11_shift_85 (lv_at hl 6 rfl) ?_
                refine lv_iload hx hb dX11_shift_87 (lv_at hl 7 rfl) ?_
                obtain ⟨r_17, u_18, hc_19, h⟩ := zk_o2 h
                refine zk_vi (post := (fun r u => (r, u) = (r_17, u_18))) (w1 := fun u => (wl_X6_hasRange ad cs h_pm h_pm_elements pm_holds pm_suit pm_size)) (As := [.int x4, .int x5]) (rest := []) (c_X6_hasRange l D cs ad h_pm h_pm_elements H.size x4 x5 pm_holds pm_suit pm_size _ hc_19) ⟨hx, hb, hml, hown, ht⟩ (cwV 2 ht g_X11_375 rfl rfl rfl (by decide +kernel) ⟨Nat.le_of_ble_eq_true rfl, Nat.le_of_ble_eq_true rfl⟩) (va_recv hK hP (ci := 6) (q0 := 3) rfl rfl) hP hD hS hK hA [3] [0, 1, 2] rfl rfl rfl rfl (by decide) rfl hl.1 (Nat.le_of_ble_eq_true rfl) dX11_shift_89 ⟨Nat.zero_le _, Nat.zero_le _⟩ (fun r u H locs hq hP hD hS => ?_)
                cases hq
                have hP : va_P D classes (wl_X11_shiftB ad cs h_pl h_pl_elements h_pm h_pm_elements root_places pl_holds pl_suit pl_size pm_holds pm_suit pm_size) H := hP.sub [0, 1, 2, 3] rfl
                have hD : va_D A (wl_X11_shiftB ad cs h_pl h_pl_elements h_pm h_pm_elements root_places pl_holds pl_suit pl_size pm_holds pm_suit pm_size) := hD.sub [0, 1, 2, 3] rfl rfl
                refine lv_if_ne (tgt := 98) hx hb dX11_shift_92 (by decide) (fun c_20 => ?_) (fun c_20 => ?_)
                · have h := zk_f c_20 h
                  refine lv_aload hx hb dX11_shift_98 (lv_at hl 1 rfl) ?_
                  refine va_get (D := D) (ci := 6) (v := .ref h_pl_elements) (C := RX6) (T := TX6) (N := 4) hx hb ht iX6 hown hK hP 2 rfl rfl 3 (by decide) (ht _ kw_686) (fun _ h9 => h9) rfl dX11_shift_100 ?_
                  refine lv_iload_n hx hb dX11_shift_103 rfl (lv_at hl 4 rfl) ?_
                  refine lv_aload hx hb dX11_shift_104 (lv_at hl 0 rfl) ?_
                  refine va_get (D := D) (ci := 6) (v := .ref h_pm_elements) (C := RX6) (T := TX6) (N := 4) hx hb ht iX6 hown hK hP 3 rfl rfl 3 (by decide) (ht _ kw_686) (fun _ h9 => h9) rfl dX11_shift_106 ?_
                  refine lv_iload hx hb dX11_shift_109 (lv_at hl 6 rfl) ?_
                  refine lv_iload hx hb dX11_shift_111 (lv_at hl 7 rfl) ?_
                  cases h
                · have h := zk_t c_20 h
                  refine lv_bipush (v := (-13 : Int32)) hx hb dX11_shift_95 (by decide) ?_
                  exact W.iret (v := (-13 : Int32)) hx hb hr (fun t ht2 hW => ⟨⟨(-13 : Int32), (), rfl, Option.some.inj h, by rw [ht2]; exact hP, hD⟩, hS.F ht2⟩) hS.2.2 dX11_shift_97 hlocks
            · have h := zk_f c_12 h
              refine lv_bipush (v := (-12 : Int32)) hx hb dX11_shift_69 (by decide) ?_
              exact W.iret (v := (-12 : Int32)) hx hb hr (fun t ht2 hW => ⟨⟨(-12 : Int32), (), rfl, Option.some.inj h, by rw [ht2]; exact hP, hD⟩, hS.F ht2⟩) hS.2.2 dX11_shift_71 hlocks
        · have h := zk_t c_10 h
          refine lv_bipush (v := (-11 : Int32)) hx hb dX11_shift_44 (by decide) ?_
          exact W.iret (v := (-11 : Int32)) hx hb hr (fun t ht2 hW => ⟨⟨(-11 : Int32), (), rfl, Option.some.inj h, by rw [ht2]; exact hP, hD⟩, hS.F ht2⟩) hS.2.2 dX11_shift_46 hlocks
    · have h := zk_f c_8 h
      refine W.eq (g2 := F0 m 12 ls [.null]) (by rw [if_neg c_8]; rfl) ?_
      refine lv_astoreN (lv' := [(7, .null), (6, .ref h_pl), (0, .ref (ad 0)), (1, .int x1), (2, .int x2), (3, .int x3), (4, .int x4), (5, .int x5)]) hx hb dX11_shift_12 hl (by decide) rfl (fun ls hl => ?_)
      refine lv_aload hx hb dX11_shift_14 (lv_at hl 1 rfl) ?_
      refine lv_ifnull hx hb dX11_shift_16 ?_
      refine lv_aloadN hx hb dX11_shift_19 (lv_at hl 0 rfl) ?_
      refine lv_ifnonnullN hx hb dX11_shift_21 ?_
      refine lv_iconst (v := (-1 : Int32)) hx hb dX11_shift_24 (by decide) ?_
      exact W.iret (v := (-1 : Int32)) hx hb hr (fun t ht2 hW => ⟨⟨(-1 : Int32), (), rfl, Option.some.inj h, by rw [ht2]; exact hP, hD⟩, hS.F ht2⟩) hS.2.2 dX11_shift_25 hlocks
  · have h := zk_f c_4 h
    refine W.eq (g2 := F0 m 5 ls [.null]) (by rw [if_neg c_4]; rfl) ?_
    refine lv_astoreN (lv' := [(6, .null), (0, .ref (ad 0)), (1, .int x1), (2, .int x2), (3, .int x3), (4, .int x4), (5, .int x5)]) hx hb dX11_shift_5 hl (by decide) rfl (fun ls hl => ?_)
    refine lv_aload_n hx hb dX11_shift_7 rfl (lv_at hl 1 rfl) ?_
    refine lv_iload_n hx hb dX11_shift_8 rfl (lv_at hl 4 rfl) ?_
    obtain ⟨r_21, u_22, hc_23, h⟩ := zk_o2 h
    refine zk_vq (post := (fun r u => r = (if r_21 = true then some h_pm else none) ∧ u = (u_22))) (w1 := fun u => (wl_X11_placeAt ad cs h_pm h_pm_elements root_places pm_holds pm_suit pm_size)) (As := [.int x3]) (rest := []) (c_X11_placeAt l D cs ad h_pm h_pm_elements H.size x3 root_places pm_holds pm_suit pm_size _ hc_23) ⟨hx, hb, hml, hown, ht⟩ (cwV 1 ht g_X11_111 rfl rfl rfl (by decide +kernel) ⟨Nat.le_of_ble_eq_true rfl, Nat.le_of_ble_eq_true rfl⟩) (va_recv hK hP (ci := 11) (q0 := 0) rfl rfl) hP hD hS hK hA [0, 1, 3] [2] rfl rfl rfl rfl (by decide) rfl hl.1 (Nat.le_of_ble_eq_true rfl) dX11_shift_9 ⟨Nat.zero_le _, Nat.zero_le _⟩ (fun r u H locs hq hP hD hS => ?_)
    obtain ⟨hq1, hq2⟩ := hq; cases hq2; subst hq1
    have hP : va_P D classes (wl_X11_shiftB ad cs h_pl h_pl_elements h_pm h_pm_elements root_places pl_holds pl_suit pl_size pm_holds pm_suit pm_size) H := hP.sub [1, 2, 0, 3] rfl
    have hD : va_D A (wl_X11_shiftB ad cs h_pl h_pl_elements h_pm h_pm_elements root_places pl_holds pl_suit pl_size pm_holds pm_suit pm_size) := hD.sub [1, 2, 0, 3] rfl rfl
    by_cases c_24 : r_21 = true
    · have h := zk_t c_24 h
      refine W.eq (g2 := F0 m 12 ls [.ref h_pm]) (by rw [if_pos c_24]; rfl) ?_
      refine lv_astore (lv' := [(7, .ref h_pm), (6, .null), (0, .ref (ad 0)), (1, .int x1), (2, .int x2), (3, .int x3), (4, .int x4), (5, .int x5)]) hx hb dX11_shift_12 hl (by decide) rfl (fun ls hl => ?_)
      refine lv_aloadN hx hb dX11_shift_14 (lv_at hl 1 rfl) ?_
      refine lv_ifnullN (tgt := 24) hx hb dX11_shift_16 (by decide) ?_
      refine lv_iconst (v := (-1 : Int32)) hx hb dX11_shift_24 (by decide) ?_
      exact W.iret (v := (-1 : Int32)) hx hb hr (fun t ht2 hW => ⟨⟨(-1 : Int32), (), rfl, Option.some.inj h, by rw [ht2]; exact hP, hD⟩, hS.F ht2⟩) hS.2.2 dX11_shift_25 hlocks
    · have h := zk_f c_24 h
      refine W.eq (g2 := F0 m 12 ls [.null]) (by rw [if_neg c_24]; rfl) ?_
      refine lv_astoreN (lv' := [(7, .null), (6, .null), (0, .ref (ad 0)), (1, .int x1), (2, .int x2), (3, .int x3), (4, .int x4), (5, .int x5)]) hx hb dX11_shift_12 hl (by decide) rfl (fun ls hl => ?_)
      refine lv_aloadN hx hb dX11_shift_14 (lv_at hl 1 rfl) ?_
      refine lv_ifnullN (tgt := 24) hx hb dX11_shift_16 (by decide) ?_
      refine lv_iconst (v := (-1 : Int32)) hx hb dX11_shift_24 (by decide) ?_
      exact W.iret (v := (-1 : Int32)) hx hb hr (fun t ht2 hW => ⟨⟨(-1 : Int32), (), rfl, Option.some.inj h, by rw [ht2]; exact hP, hD⟩, hS.F ht2⟩) hS.2.2 dX11_shift_25 hlocks
set_option maxHeartbeats 4000000 in
set_option maxRecDepth 100000 in
theorem c_X11_shiftB (l : Launch) (D : va_G) (cs : Nat → ClassId) (ad : Nat → Nat) (h_pl : Nat) (h_pl_elements : Nat) (h_pm : Nat) (h_pm_elements : Nat) (sz : Nat) (x1 : Int32) (x2 : Int32) (x3 : Int32) (x4 : Int32) (x5 : Int32) (root_places : Nat → Option Nat) (pl_holds : Int32) (pl_suit : Int32) (pl_size : Int32) (pm_holds : Int32) (pm_suit : Int32) (pm_size : Int32) (R : Int32 × Unit) (h : f_X11_shiftB h_pl h_pm  x1 x2 x3 x4 x5 root_places pl_holds pl_suit pl_size pm_holds pm_suit pm_size = some R) : Met l yX11_shift (z_X11_shift) rm_X11_shiftB (va_Pc [.ref (ad 0), .int x1, .int x2, .int x3, .int x4, .int x5] (zPre D cs (wl_X11_shiftB ad cs h_pl h_pl_elements h_pm h_pm_elements root_places pl_holds pl_suit pl_size pm_holds pm_suit pm_size) sz)) (Q_X11_shiftB D cs ad h_pl h_pl_elements h_pm h_pm_elements root_places pl_holds pl_suit pl_size pm_holds pm_suit pm_size (va_A (wl_X11_shiftB ad cs h_pl h_pl_elements h_pm h_pm_elements root_places pl_holds pl_suit pl_size pm_holds pm_suit pm_size) sz) R) 0 0 (va_A (wl_X11_shiftB ad cs h_pl h_pl_elements h_pm h_pm_elements root_places pl_holds pl_suit pl_size pm_holds pm_suit pm_size) sz) := by
  refine Met.ofW (cc := cX11_shift) (maxL := 8) (ret := (some .int)) (by decide) rfl ?_
  intro p e s m args below meth c s₁ B hml hv
  obtain ⟨rfl, hsz, hP, hK, hD0⟩ := hv
  subst hsz
  have hD := hD0.self (sz := s.heap.size)
  have C0 : zC p s m _ meth c cX11_shift 8 (some .int) RX11 zW := ⟨B.exec, B.bytes, B.returns, hml, findClass_of_methodNamed B.named, fun w hw => atoms_spec (ws := z_X11_shift) B.pre w (List.mem_cons_of_mem _ hw), B.notSynchronized⟩
  have hA : ∀ q : Nat, s.heap.size ≤ q → va_A (wl_X11_shiftB ad cs h_pl h_pl_elements h_pm h_pm_elements root_places pl_holds pl_suit pl_size pm_holds pm_suit pm_size) s.heap.size q := fun q h => Or.inr h
  have hl := lv_entry ([.ref (ad 0), .int x1, .int x2, .int x3, .int x4, .int x5]) (n := 8) (Nat.le_of_ble_eq_true rfl)
  rw [lg_entry_eq]
  generalize (lg_sl ([.ref (ad 0), .int x1, .int x2, .int x3, .int x4, .int x5]) ++ List.replicate (8 - (lg_sl ([.ref (ad 0), .int x1, .int x2, .int x3, .int x4, .int x5])).length) Slot.unset).toArray = ls at hl ⊢
  exact L_X11_shiftB_0 C0 hK hA   x1 x2 x3 x4 x5  h s.heap [] ls hP hD va_S.rf hl
