
theorem law_O {s : State} {b : Nat} (hts : ∀ w ∈ lw_tbl, w.before #[Value.ref b] s = true) : zO s :=
  ⟨va_AO.of (hts (Cond.arrayOver (.object "AlreadyJudged$Suit")) (List.mem_of_getElem? (i := 113) (by decide +kernel))), va_AO.of (hts (Cond.arrayOver (.object "AlreadyJudged$Law")) (List.mem_of_getElem? (i := 115) (by decide +kernel))), va_AO.of (hts (Cond.arrayOver (.object "AlreadyJudged$Place")) (List.mem_of_getElem? (i := 473) (by decide +kernel))), List.forall_mem_cons.mpr ⟨va_Nw.of rfl (hts (Cond.methodLinkNest RX11 9 yX2_init "AlreadyJudged") (List.mem_of_getElem? (i := 108) (by decide +kernel))), List.forall_mem_cons.mpr ⟨va_Nw.of rfl (hts (Cond.methodLinkNest RX11 27 yX9_init "AlreadyJudged") (List.mem_of_getElem? (i := 231) (by decide +kernel))), List.forall_mem_cons.mpr ⟨va_Nw.of rfl (hts (Cond.methodLinkNest RX11 50 yX10_init "AlreadyJudged") (List.mem_of_getElem? (i := 293) (by decide +kernel))), List.forall_mem_cons.mpr ⟨va_Nw.of rfl (hts (Cond.methodLinkNest RX10 29 yX7_init "AlreadyJudged") (List.mem_of_getElem? (i := 299) (by decide +kernel))), List.forall_mem_cons.mpr ⟨va_Nw.of rfl (hts (Cond.methodLinkNest RX11 64 yX0_init "AlreadyJudged") (List.mem_of_getElem? (i := 449) (by decide +kernel))), List.forall_mem_cons.mpr ⟨va_Nw.of rfl (hts (Cond.methodLinkNest RX11 102 yX6_init "AlreadyJudged") (List.mem_of_getElem? (i := 676) (by decide +kernel))), List.forall_mem_cons.mpr ⟨va_Nw.of rfl (hts (Cond.methodLinkNest RX2 48 yX11_isDay "AlreadyJudged") (List.mem_of_getElem? (i := 737) (by decide +kernel))), List.forall_mem_cons.mpr ⟨va_Nw.of rfl (hts (Cond.methodLinkNest RX8 58 yX7_init "AlreadyJudged") (List.mem_of_getElem? (i := 876) (by decide +kernel))), List.forall_mem_cons.mpr ⟨va_Nw.of rfl (hts (Cond.methodLinkNest RX11 294 yX10_seek "AlreadyJudged") (List.mem_of_getElem? (i := 1121) (by decide +kernel))), List.forall_mem_cons.mpr ⟨va_Nw.of rfl (hts (Cond.methodLinkNest RX11 341 yX0_closes "AlreadyJudged") (List.mem_of_getElem? (i := 1211) (by decide +kernel))), List.forall_mem_cons.mpr ⟨va_Nw.of rfl (hts (Cond.methodLinkNest RX11 344 yX0_settles "AlreadyJudged") (List.mem_of_getElem? (i := 1223) (by decide +kernel))), List.forall_mem_cons.mpr ⟨va_Nw.of rfl (hts (Cond.methodLinkNest RX11 347 yX0_binds "AlreadyJudged") (List.mem_of_getElem? (i := 1232) (by decide +kernel))), List.forall_mem_cons.mpr ⟨va_Nw.of rfl (hts (Cond.methodLinkNest RX11 350 yX0_tells "AlreadyJudged") (List.mem_of_getElem? (i := 1233) (by decide +kernel))), fun _ h => absurd h List.not_mem_nil⟩⟩⟩⟩⟩⟩⟩⟩⟩⟩⟩⟩⟩⟩
set_option maxHeartbeats 8000000 in
set_option maxRecDepth 100000 in
theorem law_K {s : State} {b : Nat} (hts : ∀ w ∈ lw_tbl, w.before #[Value.ref b] s = true) : ∃ (D : va_G) (cs : Nat → ClassId), va_K D classes (zT cs) s := by
  obtain ⟨c0, i0, h0⟩ := u_known (C := RX0) (T := TX0) (N := 5) (n := 5) hts (fun w hw => (List.mem_filter.mp (iX0 w hw)).1) (hts _ (List.mem_filter.mp kw_448).1)
  obtain ⟨c1, i1, h1⟩ := u_known (C := RX1) (T := TX1) (N := 7) (n := 7) hts (fun w hw => (List.mem_filter.mp (iX1 w hw)).1) (hts _ (List.mem_filter.mp kw_419).1)
  obtain ⟨c2, i2, h2⟩ := u_known (C := RX2) (T := TX2) (N := 13) (n := 13) hts (fun w hw => (List.mem_filter.mp (iX2 w hw)).1) (hts _ (List.mem_filter.mp kw_107).1)
  obtain ⟨c3, i3, h3⟩ := u_known (C := RX3) (T := TX3) (N := 11) (n := 11) hts (fun w hw => (List.mem_filter.mp (iX3 w hw)).1) (hts _ (List.mem_filter.mp kw_186).1)
  obtain ⟨c4, i4, h4⟩ := u_known (C := RX4) (T := TX4) (N := 1) (n := 1) hts (fun w hw => (List.mem_filter.mp (iX4 w hw)).1) (hts _ (List.mem_filter.mp kw_651).1)
  obtain ⟨c5, i5, h5⟩ := u_known (C := RX5) (T := TX5) (N := 5) (n := 5) hts (fun w hw => (List.mem_filter.mp (iX5 w hw)).1) (hts _ (List.mem_filter.mp kw_269).1)
  obtain ⟨c6, i6, h6⟩ := u_known (C := RX6) (T := TX6) (N := 4) (n := 4) hts (fun w hw => (List.mem_filter.mp (iX6 w hw)).1) (hts _ (List.mem_filter.mp kw_675).1)
  obtain ⟨c7, i7, h7⟩ := u_known (C := RX7) (T := TX7) (N := 15) (n := 15) hts (fun w hw => (List.mem_filter.mp (iX7 w hw)).1) (hts _ (List.mem_filter.mp kw_298).1)
  obtain ⟨c8, i8, h8⟩ := u_known (C := RX8) (T := TX8) (N := 5) (n := 5) hts (fun w hw => (List.mem_filter.mp (iX8 w hw)).1) (hts _ (List.mem_filter.mp kw_246).1)
  obtain ⟨c9, i9, h9⟩ := u_known (C := RX9) (T := TX9) (N := 2) (n := 2) hts (fun w hw => (List.mem_filter.mp (iX9 w hw)).1) (hts _ (List.mem_filter.mp kw_230).1)
  obtain ⟨c10, i10, h10⟩ := u_known (C := RX10) (T := TX10) (N := 9) (n := 9) hts (fun w hw => (List.mem_filter.mp (iX10 w hw)).1) (hts _ (List.mem_filter.mp kw_292).1)
  obtain ⟨c11, i11, h11⟩ := u_known (C := RX11) (T := TX11) (N := 11) (n := 11) hts (fun w hw => (List.mem_filter.mp (iX11 w hw)).1) (hts _ (List.mem_filter.mp kw_99).1)
  obtain ⟨c12, i12, h12⟩ := u_known (C := RX12) (T := TX12) (N := 60) (n := 60) hts (fun w hw => (List.mem_filter.mp (iX12 w hw)).1) (hts _ (List.mem_filter.mp kw_1291).1)
  obtain ⟨a0, A0⟩ := zk_arr (ty := .int) (by intro C h; cases h) (hts _ (List.mem_filter.mp kw_184).1)
  obtain ⟨a1, A1⟩ := zk_arr (ty := .long) (by intro C h; cases h) (hts _ (List.mem_filter.mp kw_228).1)
  obtain ⟨a2, A2⟩ := zk_arr (ty := .byte) (by intro C h; cases h) (hts _ (List.mem_filter.mp kw_674).1)
  obtain ⟨a3, A3⟩ := zk_arr (ty := .short) (by intro C h; cases h) (hts _ (List.mem_filter.mp kw_1476).1)
  obtain ⟨a4, A4⟩ := zk_arr (ty := .boolean) (by intro C h; cases h) (hts _ (List.mem_filter.mp kw_1477).1)
  obtain ⟨a5, A5⟩ := zk_arq (C := "AlreadyJudged$Suit") (hts (Cond.arrayOver (.object "AlreadyJudged$Suit")) (List.mem_of_getElem? (i := 113) (by decide +kernel)))
  obtain ⟨a6, A6⟩ := zk_arq (C := "AlreadyJudged$Law") (hts (Cond.arrayOver (.object "AlreadyJudged$Law")) (List.mem_of_getElem? (i := 115) (by decide +kernel)))
  obtain ⟨a7, A7⟩ := zk_arq (C := "AlreadyJudged$Place") (hts (Cond.arrayOver (.object "AlreadyJudged$Place")) (List.mem_of_getElem? (i := 473) (by decide +kernel)))
  refine ⟨(fun k => [c0, c1, c2, c3, c4, c5, c6, c7, c8, c9, c10, c11, c12].getD k c0, fun k => [i0, i1, i2, i3, i4, i5, i6, i7, i8, i9, i10, i11, i12].getD k i0), fun k => [a0, a1, a2, a3, a4, a5, a6, a7].getD k a0, ?_, ?_⟩
  · intro k q hq
    match k, hq with
    | 0, hq => cases hq; exact h0
    | 1, hq => cases hq; exact h1
    | 2, hq => cases hq; exact h2
    | 3, hq => cases hq; exact h3
    | 4, hq => cases hq; exact h4
    | 5, hq => cases hq; exact h5
    | 6, hq => cases hq; exact h6
    | 7, hq => cases hq; exact h7
    | 8, hq => cases hq; exact h8
    | 9, hq => cases hq; exact h9
    | 10, hq => cases hq; exact h10
    | 11, hq => cases hq; exact h11
    | 12, hq => cases hq; exact h12
    | k + 13, hq => simp [classes, vwCl] at hq
  · intro k q hq
    match k, hq with
    | 0, hq => cases hq; exact A0
    | 1, hq => cases hq; exact A1
    | 2, hq => cases hq; exact A2
    | 3, hq => cases hq; exact A3
    | 4, hq => cases hq; exact A4
    | 5, hq => cases hq; exact A5
    | 6, hq => cases hq; exact A6
    | 7, hq => cases hq; exact A7
    | k + 8, hq => simp [zT] at hq
