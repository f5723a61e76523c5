theorem kw_98 : Cond.classLink R_law 7 RX11 ∈ zW := zwC (i := 24) zc_1 rfl rfl
theorem kw_99 : Cond.instantiable RX11 11 ∈ zW := zwC (i := 25) zc_1 rfl rfl
theorem kw_100 : Cond.methodLink R_law 9 yX11_init ∈ zW := zwC (i := 26) zc_1 rfl rfl
theorem kw_101 : Cond.instanceMethod yX11_init ∈ zW := zwC (i := 27) zc_1 rfl rfl
theorem kw_102 : Cond.code yX11_init cX11_init 4 none ∈ zW := zwC (i := 28) zc_1 rfl rfl
theorem kw_1290 : Cond.classLink R_law 10 RX12 ∈ zW := zwC (i := 16) zc_6 rfl rfl
theorem kw_1291 : Cond.instantiable RX12 60 ∈ zW := zwC (i := 17) zc_6 rfl rfl
theorem kw_1292 : Cond.methodLink R_law 12 yX12_init ∈ zW := zwC (i := 18) zc_6 rfl rfl
theorem kw_1293 : Cond.instanceMethod yX12_init ∈ zW := zwC (i := 19) zc_6 rfl rfl
theorem kw_1294 : Cond.code yX12_init cX12_init 1 none ∈ zW := zwC (i := 20) zc_6 rfl rfl
theorem dL_law_0 : decode cL_law 0 = .ok (.new 7, 3) := zo_187 zh_cL_law_0 0 rfl
theorem dL_law_3 : decode cL_law 3 = .ok (.dup, 1) := zo_89 zh_cL_law_0 3 rfl
theorem dL_law_4 : decode cL_law 4 = .ok (.invokespecial 9, 3) := zo_183 zh_cL_law_0 4 rfl
theorem dL_law_7 : decode cL_law 7 = .ok (.astore_n 1, 1) := zo_76 zh_cL_law_0 7 rfl
theorem dL_law_8 : decode cL_law 8 = .ok (.new 10, 3) := zo_187 zh_cL_law_0 8 rfl
theorem dL_law_11 : decode cL_law 11 = .ok (.dup, 1) := zo_89 zh_cL_law_0 11 rfl
theorem dL_law_12 : decode cL_law 12 = .ok (.invokespecial 12, 3) := zo_183 zh_cL_law_0 12 rfl
theorem dL_law_15 : decode cL_law 15 = .ok (.astore_n 2, 1) := zo_77 zh_cL_law_0 15 rfl
theorem dL_law_16 : decode cL_law 16 = .ok (.iconst 0, 1) := zo_3 zh_cL_law_0 16 rfl
theorem dL_law_17 : decode cL_law 17 = .ok (.istore_n 3, 1) := zo_62 zh_cL_law_0 17 rfl
section ZKV
variable {p : Program} {l : Launch} {e : Env} {R : Room} {s : State} {m : MethodId} {args : Array Value} {below : List Frame} {meth : Method} {c : Code} {H : Heap} {locs : List Loc} {cells slots : Nat} {Q : State → Prop} {ls : Array Slot} {pc : Nat}
variable {A : Nat → Prop} {D : va_G} {cs : Nat → ClassId} {ws wc : va_W} {S : Type} {w1 : S → va_W} {y : MethodName} {wsY : List Cond} {rm : Room} {C own host : String} {index maxL mc ms n nL : Nat} {bytes cc : ByteArray} {ret : Option FieldType} {b : Nat} {As rest : List Value} {k : (Nat → Nat) × (Nat → Nat)}
theorem zk_ivE {post : S → Prop} (hE : zE k A s) (hO : zO s) (hM : Met l y wsY rm (va_Pc (.ref b :: As) (zPreE k D cs wc H.size)) (va_Qv post (fun (u : S) (t : State) => va_P D classes (w1 u) t.heap ∧ va_D (va_A wc H.size) (w1 u)) (va_A wc H.size)) mc ms (va_A wc H.size))
    (S0 : CallFix p m c cc nL s args zW own) (cw : CallB R s args own index y bytes maxL none wsY rm mc ms n ∧ y.name = "<init>" ∧ (Cond.instanceMethod y).before args s = true)
    (hP : va_P D classes ws H) (hD : va_D A ws) (hS : va_S A s.heap H locs) (hK : va_K D classes (zT cs) s) (hA : ∀ q : Nat, s.heap.size ≤ q → A q) (isC isR : List Nat) (hC : isC.map (fun i => ws[i]?) = wc.map some) (hnC : va_nd isC = true) (hR : isR.map (fun i => ws[i]?) = (isR.filterMap (fun i => ws[i]?)).map some) (hn : va_nd isR = true) (hdis : ∀ i ∈ isR, i ∉ isC)
    (hlen : As.length = n) (hsize : ls.size = nL) (hW : (rest.map fun v => v.category).sum ≤ 8) (hdg : decode cc pc = .ok (.invokespecial index, 3)) (hf : cells + mc ≤ R.cells ∧ slots + ms ≤ R.slots)
    (kk : ∀ (u : S) (H1 : Heap) (locs1 : List Loc), post u → va_P D classes (isR.filterMap (fun i => ws[i]?) ++ w1 u) H1 → va_D A (isR.filterMap (fun i => ws[i]?) ++ w1 u) → va_S A s.heap H1 locs1 → W p l e R s m args below meth c H1 locs1 (cells + mc) (slots + ms) Q (F0 m (pc + 3) ls rest)) :
    W p l e R s m args below meth c H locs cells slots Q (F0 m pc ls (As.reverse ++ .ref b :: rest)) := by
  have hPc : va_P D classes wc H := hP.sub isC (zk_fm hC)
  have hDc : va_D A wc := hD.sub isC hnC hC
  have hFc := va_free hD hS hA isC hC
  refine va_callv (va_runI (As := As) (rest := rest) S0 hM cw ⟨zPreE_blind, fun U hU hW => ⟨rfl, ⟨⟨by rw [hU], by rw [hU]; exact hPc, va_K.moved hW.alike hK, hDc.weaken (fun _ _ _ _ => trivial)⟩, zO.warm hW hO⟩, hE.go hW hU hS hFc⟩⟩ rfl hlen hsize rfl (lv_room hW) hdg hf) hS (fun q _ h => hFc q h) hFc (fun u t H1 locs1 ht hvm hw hB hz1 hk1 hS1 => ?_)
  have hB : va_P D classes (w1 u) t.heap ∧ va_D (va_A wc H.size) (w1 u) := hB
  rw [ht] at hB
  obtain ⟨hP2, hD2⟩ := va_join hP hD isC isR hC hR hn hdis hk1 hFc hB.1 hB.2
  exact kk u H1 locs1 hw hP2 hD2 hS1
end ZKV
def mi0 : Nat → Int32 := fun n => ([0, 0, 0, 0, 0, 0, 0, 0, 0, 0, 0, 0, 0, 0, 0, 0, 0] : List Int32).getD n 0
def ma0 : Nat → Nat → Int32 := fun n => ([(fun _ => 0), (fun _ => 0), (fun _ => 0), (fun _ => 0), (fun _ => 0), (fun _ => 0), (fun _ => 0), (fun _ => 0), (fun _ => 0), (fun _ => 0), (fun _ => 0), (fun _ => 0), (fun _ => 0), (fun _ => 0), (fun _ => 0), (fun _ => 0), (fun _ => 0), (fun _ => 0), (fun _ => 0), (fun _ => 0), (fun _ => 0), (fun _ => 0), (fun _ => 0), (fun _ => 0), (fun _ => 0), (fun _ => 0), (fun _ => 0), (fun _ => 0), (fun _ => 0), (fun _ => 0), (fun _ => 0), (fun _ => 0), (fun _ => 0), (fun _ => 0), (fun _ => 0), (fun _ => 0), (fun _ => 0), (fun _ => 0), (fun _ => 0), (upd (upd (upd (upd (upd (upd (fun _ => 0) ((0 : Int32)).toNatClampNeg (-1 : Int32)) ((1 : Int32)).toNatClampNeg (-1 : Int32)) ((2 : Int32)).toNatClampNeg (-1 : Int32)) ((3 : Int32)).toNatClampNeg (-1 : Int32)) ((4 : Int32)).toNatClampNeg (-1 : Int32)) ((5 : Int32)).toNatClampNeg (-1 : Int32)), (fun _ => 0)] : List (Nat → Int32)).getD n (fun _ => 0)
def ml0 : Nat → Nat → Int64 := fun _ _ => 0
def zm0 : MT := (mi0, ma0, ml0)
theorem zAR_ud {lo hi : Int} {f : Nat → Int32} (h : AR lo hi f) {t : Nat} {v : Int32} (hv : lo ≤ v.toInt ∧ v.toInt ≤ hi) : AR lo hi (upd f t v) := by
  intro i
  unfold upd
  by_cases c : i = t
  · rw [if_pos c]; exact hv
  · rw [if_neg c]; exact h i
theorem zm0_0 : 0 ≤ (mi0 1).toInt ∧ (mi0 1).toInt ≤ 40 := by decide +kernel
theorem zm0_1 : 0 ≤ (mi0 2).toInt ∧ (mi0 2).toInt ≤ 32 := by decide +kernel
theorem zm0_2 : 0 ≤ (mi0 3).toInt ∧ (mi0 3).toInt ≤ 120 := by decide +kernel
theorem zm0_3 : 0 ≤ (mi0 4).toInt ∧ (mi0 4).toInt ≤ 120 := by decide +kernel
theorem zm0_4 : -1 ≤ (mi0 5).toInt ∧ (mi0 5).toInt ≤ 120 := by decide +kernel
theorem zm0_5 : 0 ≤ (mi0 6).toInt ∧ (mi0 6).toInt ≤ 40 := by decide +kernel
theorem zm0_6 : 0 ≤ (mi0 7).toInt ∧ (mi0 7).toInt ≤ 40 := by decide +kernel
theorem zm0_7 : 0 ≤ (mi0 8).toInt ∧ (mi0 8).toInt ≤ 40 := by decide +kernel
theorem zm0_8 : 0 ≤ (mi0 9).toInt ∧ (mi0 9).toInt ≤ 6 := by decide +kernel
theorem zm0_9 : 0 ≤ (mi0 10).toInt ∧ (mi0 10).toInt ≤ 130 := by decide +kernel
theorem zm0_10 : 0 ≤ (mi0 12).toInt ∧ (mi0 12).toInt ≤ 5 := by decide +kernel
theorem zm0_11 : AR (0) (19) (ma0 4) := zAR0 (by decide)
theorem zm0_12 : AR (0) (19) (ma0 5) := zAR0 (by decide)
theorem zm0_13 : AR (0) (31) (ma0 18) := zAR0 (by decide)
theorem zm0_14 : AQ (ma0 16) := (fun k => ⟨(by decide : 0 ≤ (0 : Int32).toInt ∧ (0 : Int32).toInt ≤ 61), fun _ => (by decide : (0 : Int32).toInt ≤ 1)⟩)
theorem zm0_15 : AR (0) (31) (ma0 34) := zAR0 (by decide)
theorem zm0_16 : AR (-6) (39) (ma0 39) := (zAR_ud (zAR_ud (zAR_ud (zAR_ud (zAR_ud (zAR_ud (zAR0 (by decide)) (by decide)) (by decide)) (by decide)) (by decide)) (by decide)) (by decide))
theorem zm0_17 : AR (0) (60) (ma0 40) := zAR0 (by decide)
theorem zm0_18 : AR (0) (39) (ma0 21) := zAR0 (by decide)
theorem zm0_19 : AR (0) (61) (ma0 26) := zAR0 (by decide)
theorem zm0_20 : AR (-128) (127) (ma0 8) := zAR0 (by decide)
theorem zm0_21 : SL (mi0 6) (ma0 14) := (fun k hk => absurd hk (by rw [show (mi0 6).toInt.toNat = 0 by decide +kernel]; exact Nat.not_lt_zero k))
theorem zm0_22 : LW (ma0 24) (ma0 25) (ma0 26) (ma0 27) (ma0 28) := (fun p hp l hl => absurd hl (by show ¬ l < (0 : Int32).toInt.toNat; rw [show (0 : Int32).toInt.toNat = 0 by decide]; exact Nat.not_lt_zero l))
theorem zm0_23 : (mi0 7).toInt + (mi0 8).toInt ≤ 40 := by decide +kernel
theorem zm0_I : IM zm0 := ⟨zm0_0, zm0_1, zm0_2, zm0_3, zm0_4, zm0_5, zm0_6, zm0_7, zm0_8, zm0_9, zm0_10, zm0_11, zm0_12, zm0_13, zm0_14, zm0_15, zm0_16, zm0_17, zm0_18, zm0_19, zm0_20, zm0_21, zm0_22, zm0_23⟩
theorem zk_rg (A B : va_W) (n : Nat) (h : A.length = n) : (List.range n).map (fun i => (A ++ B)[i]?) = A.map some := by
  subst h
  refine List.ext_getElem (by simp) (fun i h1 h2 => ?_)
  have h3 : i < A.length := by simpa using h2
  rw [List.getElem_map, List.getElem_map, List.getElem_range, List.getElem?_append_left h3, List.getElem?_eq_getElem h3]
theorem zk_rf (A B : va_W) (n : Nat) (h : A.length = n) : (List.range n).filterMap (fun i => (A ++ B)[i]?) = A := zk_fm (zk_rg A B n h)
theorem zk_rh (A B : va_W) (n : Nat) (h : A.length = n) : (List.range n).map (fun i => (A ++ B)[i]?) = ((List.range n).filterMap (fun i => (A ++ B)[i]?)).map some := by
  rw [zk_rf A B n h]; exact zk_rg A B n h
theorem zk_rn (A : va_W) (q : Nat × va_E) : [A.length].map (fun i => (A ++ [q])[i]?) = ([q] : va_W).map some := by
  show [(A ++ [q])[A.length]?] = [some q]
  rw [List.getElem?_append_right (Nat.le_refl _), Nat.sub_self]
  rfl
theorem zk_nd1 (n : Nat) : va_nd [n] = true := zk_ndl _ (List.pairwise_singleton _ _)
set_option maxRecDepth 100000 in
theorem law_am (hM : Nat) (qm : Nat → Nat) (cs : Nat → ClassId) : ∃ am : Nat → Nat, hM = am 41 ∧ WM am cs zm0 = [(hM, .inr (12, [.int 0, .int 0, .ref (qm 0), .ref (qm 1), .ref (qm 2), .ref (qm 3), .int 0, .ref (qm 4), .ref (qm 5), .ref (qm 6), .ref (qm 7), .ref (qm 8), .int 0, .int 0, .int 0, .int 0, .ref (qm 9), .ref (qm 10), .ref (qm 11), .ref (qm 12), .ref (qm 13), .ref (qm 14), .ref (qm 15), .ref (qm 16), .ref (qm 17), .ref (qm 18), .ref (qm 19), .int 0, .int 0, .ref (qm 20), .ref (qm 21), .ref (qm 22), .ref (qm 23), .int 0, .int 0, .ref (qm 24), .ref (qm 25), .ref (qm 26), .ref (qm 27), .ref (qm 28), .ref (qm 29), .ref (qm 30), .ref (qm 31), .ref (qm 32), .ref (qm 33), .int 0, .int 0, .ref (qm 34), .ref (qm 35), .int 0, .int 0, .ref (qm 36), .ref (qm 37), .int 0, .int 0, .ref (qm 38), .ref (qm 39), .ref (qm 40), .ref (qm 41), .ref (qm 42)])), ((qm 0), .inl (cs 0, 40, .inl (fun _ => 0))), ((qm 1), .inl (cs 0, 40, .inl (fun _ => 0))), ((qm 2), .inl (cs 0, 40, .inl (fun _ => 0))), ((qm 3), .inl (cs 0, 40, .inl (fun _ => 0))), ((qm 4), .inl (cs 0, 32, .inl (fun _ => 0))), ((qm 5), .inl (cs 0, 32, .inl (fun _ => 0))), ((qm 6), .inl (cs 0, 32, .inl (fun _ => 0))), ((qm 7), .inl (cs 0, 32, .inl (fun _ => 0))), ((qm 8), .inl (cs 2, 120, .inl (fun _ => 0))), ((qm 9), .inl (cs 0, 45, .inl (fun _ => 0))), ((qm 10), .inl (cs 0, 45, .inl (fun _ => 0))), ((qm 11), .inl (cs 0, 45, .inl (fun _ => 0))), ((qm 12), .inl (cs 0, 45, .inl (fun _ => 0))), ((qm 13), .inl (cs 0, 45, .inl (fun _ => 0))), ((qm 14), .inl (cs 0, 45, .inl (fun _ => 0))), ((qm 15), .inl (cs 0, 45, .inl (fun _ => 0))), ((qm 16), .inl (cs 0, 45, .inl (fun _ => 0))), ((qm 17), .inl (cs 0, 45, .inl (fun _ => 0))), ((qm 18), .inl (cs 2, 1440, .inl (fun _ => 0))), ((qm 19), .inl (cs 2, 1440, .inl (fun _ => 0))), ((qm 20), .inl (cs 0, 40, .inl (fun _ => 0))), ((qm 21), .inl (cs 0, 40, .inl (fun _ => 0))), ((qm 22), .inl (cs 0, 40, .inl (fun _ => 0))), ((qm 23), .inl (cs 0, 40, .inl (fun _ => 0))), ((qm 24), .inl (cs 2, 4290, .inl (fun _ => 0))), ((qm 25), .inl (cs 0, 4290, .inl (fun _ => 0))), ((qm 26), .inl (cs 0, 33, .inl (fun _ => 0))), ((qm 27), .inl (cs 3, 2013, .inl (fun _ => 0))), ((qm 28), .inl (cs 3, 2013, .inl (fun _ => 0))), ((qm 29), .inl (cs 0, 11, .inl (fun _ => 0))), ((qm 30), .inl (cs 0, 130, .inl (fun _ => 0))), ((qm 31), .inl (cs 4, 240, .inl (fun _ => 0))), ((qm 32), .inl (cs 0, 20, .inl (fun _ => 0))), ((qm 33), .inl (cs 0, 7, .inl (fun _ => 0))), ((qm 34), .inl (cs 0, 5, .inl (fun _ => 0))), ((qm 35), .inl (cs 0, 5, .inl (fun _ => 0))), ((qm 36), .inl (cs 0, 5376, .inl (fun _ => 0))), ((qm 37), .inl (cs 0, 20, .inl (fun _ => 0))), ((qm 38), .inl (cs 0, 24, .inl (fun _ => 0))), ((qm 39), .inl (cs 0, 6, .inl (upd (upd (upd (upd (upd (upd (fun _ => 0) ((0 : Int32)).toNatClampNeg (-1 : Int32)) ((1 : Int32)).toNatClampNeg (-1 : Int32)) ((2 : Int32)).toNatClampNeg (-1 : Int32)) ((3 : Int32)).toNatClampNeg (-1 : Int32)) ((4 : Int32)).toNatClampNeg (-1 : Int32)) ((5 : Int32)).toNatClampNeg (-1 : Int32)))), ((qm 40), .inl (cs 0, 6, .inl (fun _ => 0))), ((qm 41), .inl (cs 1, 360, .inr (.inl (fun _ => 0)))), ((qm 42), .inl (cs 1, 60, .inr (.inl (fun _ => 0))))] := ⟨fun k => Nat.rec (motive := fun _ => Nat) hM (fun n _ => qm n) (k - 41), rfl, rfl⟩
set_option maxHeartbeats 8000000 in
set_option maxRecDepth 100000 in
theorem law_new {p : Program} {l : Launch} {e : Env} {s : State} {m : MethodId} {below : List Frame} {meth : Method} {c : Code} {b L : Nat} {xs : Nat → Int32} {D : va_G} {cs : Nat → ClassId} {k : (Nat → Nat) × (Nat → Nat)} (hL : L ≤ 3072) (C0 : lw_At p s m meth c b L xs) (hK : va_K D classes (zT cs) s) (hO : zO s) (hE : zE k (fun q : Nat => s.heap.size ≤ q) s) (ls : Array Slot) (hl : lv_has ls 4 [(0, .ref b)]) : W p l e room_1 s m #[Value.ref b] below meth c s.heap [] 0 0 (lw_Z below #[Value.ref b] s) (F0 m 0 ls []) := by
  obtain ⟨hx, hb, hr, hml, hown, hts, hX, hbl, hlocks, hgv⟩ := id C0
  have hA : ∀ q : Nat, s.heap.size ≤ q → (fun q : Nat => s.heap.size ≤ q) q := fun _ h => h
  have hbA : ¬ (fun q : Nat => s.heap.size ≤ q) b := Nat.not_le.mpr hbl
  have ht : ∀ w ∈ zW, w.before #[Value.ref b] s = true := fun w hw => hts w (List.mem_filter.mp hw).1
  have hS : va_S (fun q : Nat => s.heap.size ≤ q) s.heap s.heap [] := va_S.rf
  have hP : va_P D classes [] s.heap := fun k q h => by simp at h
  have hD : va_D (fun q : Nat => s.heap.size ≤ q) [] := ⟨fun i j p q h => by simp at h, fun k q h => by simp at h⟩
  refine va_new (ci := 11) (fs := [.null, .null, .null, .null, .null, .null, .null, .null, .null, .null, .null]) (C := RX11) (T := TX11) (N := 11) hx hb ht iX11 tyX11 tyX11_ok hown (ht _ kw_98) (ht _ kw_99) (ht _ kw_75) hK hP hD hS hA rfl (zkDX11) (Nat.le_of_ble_eq_true rfl) (Nat.le_of_ble_eq_true rfl) dL_law_0 (fun hR H hP hD hS => ?_)
  have hP : va_P D classes [(hR, .inr (11, [.null, .null, .null, .null, .null, .null, .null, .null, .null, .null, .null]))] H := hP
  have hD : va_D (fun q : Nat => s.heap.size ≤ q) [(hR, .inr (11, [.null, .null, .null, .null, .null, .null, .null, .null, .null, .null, .null]))] := hD
  refine lv_dup hx hb dL_law_3 rfl ?_
  refine zk_ivE (post := (fun (z : (Nat → Nat) × ZT) => z.1 0 = hR ∧ IX z.1 cs z.2 ∧ z.2.1 = zi0 ∧ z.2.2.1 = za0 ∧ z.2.2.2.1 = zl0)) (w1 := fun (z : (Nat → Nat) × ZT) => WX z.1 cs z.2) (As := []) (rest := [.ref hR]) hE hO (ci_root l D cs k hR H.size) ⟨hx, hb, hml, hown, ht⟩ (cwI 0 ht (zGN kw_102) rfl rfl rfl (ht _ kw_75) (ht _ kw_100) (ht _ kw_101) rfl (by decide +kernel) ⟨Nat.le_of_ble_eq_true rfl, Nat.le_of_ble_eq_true rfl⟩) hP hD hS hK hA [0] [] rfl rfl rfl rfl (by decide) rfl hl.1 (Nat.le_of_ble_eq_true rfl) dL_law_4 ⟨Nat.le_of_ble_eq_true rfl, Nat.le_of_ble_eq_true rfl⟩ (fun z H locs hq hP hD hS => ?_)
  obtain ⟨ad, z⟩ := z
  obtain ⟨e0, hI, s1, s2, s3⟩ := hq
  dsimp only at e0 hI s1 s2 s3
  subst e0
  have hP : va_P D classes (WX ad cs z) H := hP
  have hD : va_D (fun q : Nat => s.heap.size ≤ q) (WX ad cs z) := hD
  refine lv_astore_n (lv' := [(1, .ref (ad 0)), (0, .ref b)]) hx hb dL_law_7 rfl hl (by decide) rfl (fun ls hl => ?_)
  refine va_new (ci := 12) (fs := [.int 0, .int 0, .null, .null, .null, .null, .int 0, .null, .null, .null, .null, .null, .int 0, .int 0, .int 0, .int 0, .null, .null, .null, .null, .null, .null, .null, .null, .null, .null, .null, .int 0, .int 0, .null, .null, .null, .null, .int 0, .int 0, .null, .null, .null, .null, .null, .null, .null, .null, .null, .null, .int 0, .int 0, .null, .null, .int 0, .int 0, .null, .null, .int 0, .int 0, .null, .null, .null, .null, .null]) (C := RX12) (T := TX12) (N := 60) hx hb ht iX12 tyX12 tyX12_ok hown (ht _ kw_1290) (ht _ kw_1291) (ht _ kw_95) hK hP hD hS hA rfl (zkDX12) (Nat.le_of_ble_eq_true rfl) (Nat.le_of_ble_eq_true rfl) dL_law_8 (fun hM H hP hD hS => ?_)
  have hP : va_P D classes (WX ad cs z ++ [(hM, .inr (12, [.int 0, .int 0, .null, .null, .null, .null, .int 0, .null, .null, .null, .null, .null, .int 0, .int 0, .int 0, .int 0, .null, .null, .null, .null, .null, .null, .null, .null, .null, .null, .null, .int 0, .int 0, .null, .null, .null, .null, .int 0, .int 0, .null, .null, .null, .null, .null, .null, .null, .null, .null, .null, .int 0, .int 0, .null, .null, .int 0, .int 0, .null, .null, .int 0, .int 0, .null, .null, .null, .null, .null]))]) H := hP
  have hD : va_D (fun q : Nat => s.heap.size ≤ q) (WX ad cs z ++ [(hM, .inr (12, [.int 0, .int 0, .null, .null, .null, .null, .int 0, .null, .null, .null, .null, .null, .int 0, .int 0, .int 0, .int 0, .null, .null, .null, .null, .null, .null, .null, .null, .null, .null, .null, .int 0, .int 0, .null, .null, .null, .null, .int 0, .int 0, .null, .null, .null, .null, .null, .null, .null, .null, .null, .null, .int 0, .int 0, .null, .null, .int 0, .int 0, .null, .null, .int 0, .int 0, .null, .null, .null, .null, .null]))]) := hD
  refine lv_dup hx hb dL_law_11 rfl ?_
  refine zk_iv (post := fun _ => True) (w1 := fun (u : Nat → Nat) => [(hM, .inr (12, [.int 0, .int 0, .ref (u 0), .ref (u 1), .ref (u 2), .ref (u 3), .int 0, .ref (u 4), .ref (u 5), .ref (u 6), .ref (u 7), .ref (u 8), .int 0, .int 0, .int 0, .int 0, .ref (u 9), .ref (u 10), .ref (u 11), .ref (u 12), .ref (u 13), .ref (u 14), .ref (u 15), .ref (u 16), .ref (u 17), .ref (u 18), .ref (u 19), .int 0, .int 0, .ref (u 20), .ref (u 21), .ref (u 22), .ref (u 23), .int 0, .int 0, .ref (u 24), .ref (u 25), .ref (u 26), .ref (u 27), .ref (u 28), .ref (u 29), .ref (u 30), .ref (u 31), .ref (u 32), .ref (u 33), .int 0, .int 0, .ref (u 34), .ref (u 35), .int 0, .int 0, .ref (u 36), .ref (u 37), .int 0, .int 0, .ref (u 38), .ref (u 39), .ref (u 40), .ref (u 41), .ref (u 42)])), ((u 0), .inl (cs 0, 40, .inl (fun _ => 0))), ((u 1), .inl (cs 0, 40, .inl (fun _ => 0))), ((u 2), .inl (cs 0, 40, .inl (fun _ => 0))), ((u 3), .inl (cs 0, 40, .inl (fun _ => 0))), ((u 4), .inl (cs 0, 32, .inl (fun _ => 0))), ((u 5), .inl (cs 0, 32, .inl (fun _ => 0))), ((u 6), .inl (cs 0, 32, .inl (fun _ => 0))), ((u 7), .inl (cs 0, 32, .inl (fun _ => 0))), ((u 8), .inl (cs 2, 120, .inl (fun _ => 0))), ((u 9), .inl (cs 0, 45, .inl (fun _ => 0))), ((u 10), .inl (cs 0, 45, .inl (fun _ => 0))), ((u 11), .inl (cs 0, 45, .inl (fun _ => 0))), ((u 12), .inl (cs 0, 45, .inl (fun _ => 0))), ((u 13), .inl (cs 0, 45, .inl (fun _ => 0))), ((u 14), .inl (cs 0, 45, .inl (fun _ => 0))), ((u 15), .inl (cs 0, 45, .inl (fun _ => 0))), ((u 16), .inl (cs 0, 45, .inl (fun _ => 0))), ((u 17), .inl (cs 0, 45, .inl (fun _ => 0))), ((u 18), .inl (cs 2, 1440, .inl (fun _ => 0))), ((u 19), .inl (cs 2, 1440, .inl (fun _ => 0))), ((u 20), .inl (cs 0, 40, .inl (fun _ => 0))), ((u 21), .inl (cs 0, 40, .inl (fun _ => 0))), ((u 22), .inl (cs 0, 40, .inl (fun _ => 0))), ((u 23), .inl (cs 0, 40, .inl (fun _ => 0))), ((u 24), .inl (cs 2, 4290, .inl (fun _ => 0))), ((u 25), .inl (cs 0, 4290, .inl (fun _ => 0))), ((u 26), .inl (cs 0, 33, .inl (fun _ => 0))), ((u 27), .inl (cs 3, 2013, .inl (fun _ => 0))), ((u 28), .inl (cs 3, 2013, .inl (fun _ => 0))), ((u 29), .inl (cs 0, 11, .inl (fun _ => 0))), ((u 30), .inl (cs 0, 130, .inl (fun _ => 0))), ((u 31), .inl (cs 4, 240, .inl (fun _ => 0))), ((u 32), .inl (cs 0, 20, .inl (fun _ => 0))), ((u 33), .inl (cs 0, 7, .inl (fun _ => 0))), ((u 34), .inl (cs 0, 5, .inl (fun _ => 0))), ((u 35), .inl (cs 0, 5, .inl (fun _ => 0))), ((u 36), .inl (cs 0, 5376, .inl (fun _ => 0))), ((u 37), .inl (cs 0, 20, .inl (fun _ => 0))), ((u 38), .inl (cs 0, 24, .inl (fun _ => 0))), ((u 39), .inl (cs 0, 6, .inl (upd (upd (upd (upd (upd (upd (fun _ => 0) ((0 : Int32)).toNatClampNeg (-1 : Int32)) ((1 : Int32)).toNatClampNeg (-1 : Int32)) ((2 : Int32)).toNatClampNeg (-1 : Int32)) ((3 : Int32)).toNatClampNeg (-1 : Int32)) ((4 : Int32)).toNatClampNeg (-1 : Int32)) ((5 : Int32)).toNatClampNeg (-1 : Int32)))), ((u 40), .inl (cs 0, 6, .inl (fun _ => 0))), ((u 41), .inl (cs 1, 360, .inr (.inl (fun _ => 0)))), ((u 42), .inl (cs 1, 60, .inr (.inl (fun _ => 0))))]) (As := []) (rest := [.ref hM]) (ci_X12_init l D cs hM H.size) ⟨hx, hb, hml, hown, ht⟩ (cwI 0 ht (zGN kw_1294) rfl rfl rfl (ht _ kw_95) (ht _ kw_1292) (ht _ kw_1293) rfl (by decide +kernel) ⟨Nat.le_of_ble_eq_true rfl, Nat.le_of_ble_eq_true rfl⟩) hP hD hS hK hA [(WX ad cs z).length] (List.range (WX ad cs z).length) (zk_rn _ _) (zk_nd1 _) (zk_rh _ _ _ rfl) (zk_ndr _) (fun i hi => by
    have h8 := List.mem_range.mp hi
    intro h9
    have h7 := List.mem_singleton.mp h9
    omega) rfl hl.1 (Nat.le_of_ble_eq_true rfl) dL_law_12 ⟨Nat.le_of_ble_eq_true rfl, Nat.le_of_ble_eq_true rfl⟩ (fun qm H locs hq hP hD hS => ?_)
  rw [zk_rf _ _ _ rfl] at hP hD
  obtain ⟨am, eM, eZ⟩ := law_am hM qm cs
  have hP : va_P D classes (WM am cs zm0 ++ WX ad cs z) H := by rw [eZ]; exact zP_perm List.perm_append_comm hP
  have hD : va_D (fun q : Nat => s.heap.size ≤ q) (WM am cs zm0 ++ WX ad cs z) := by rw [eZ]; exact zD_perm List.perm_append_comm hD
  rw [eM]
  refine lv_astore_n (lv' := [(2, .ref (am 41)), (1, .ref (ad 0)), (0, .ref b)]) hx hb dL_law_15 rfl hl (by decide) rfl (fun ls hl => ?_)
  refine lv_iconst (v := (0 : Int32)) hx hb dL_law_16 (by decide) ?_
  refine lv_istore_n (lv' := [(3, .int (0 : Int32)), (2, .ref (am 41)), (1, .ref (ad 0)), (0, .ref b)]) hx hb dL_law_17 rfl hl (by decide) rfl (fun ls hl => ?_)
  refine W.widen (k := 2000) (n := 200000) (Nat.le_of_ble_eq_true rfl) (Nat.le_of_ble_eq_true rfl) ?_
  exact law_loop C0 hK hO hE hL 600 0 (0 : Int32) z zm0 2000 200000 (by decide) (by decide) (by omega) (Nat.le_of_ble_eq_true rfl) (Nat.le_of_ble_eq_true rfl) hI zm0_I (⟨(congrFun s1 1).trans (show zi0 1 = mi0 2 from rfl), (congrFun s2 6).trans (show za0 6 = ma0 4 from rfl), (congrFun s2 7).trans (show za0 7 = ma0 5 from rfl), (congrFun s2 8).trans (show za0 8 = ma0 6 from rfl), (congrFun s2 9).trans (show za0 9 = ma0 7 from rfl), (congrFun s1 0).trans (show zi0 0 = mi0 1 from rfl), (congrFun s1 2).trans (show zi0 2 = mi0 6 from rfl), (congrFun s1 6).trans (show zi0 6 = mi0 3 from rfl), (congrFun s2 2).trans (show za0 2 = ma0 0 from rfl), (congrFun s2 3).trans (show za0 3 = ma0 1 from rfl), (congrFun s2 4).trans (show za0 4 = ma0 2 from rfl), (congrFun s2 5).trans (show za0 5 = ma0 3 from rfl), (congrFun s1 13).trans (show zi0 13 = mi0 12 from rfl), (congrFun s2 17).trans (show za0 17 = ma0 34 from rfl), (congrFun s2 18).trans (show za0 18 = ma0 35 from rfl), (congrFun s1 32).trans (show zi0 32 = mi0 16 from rfl), (congrFun s2 27).trans (show za0 27 = ma0 38 from rfl), (congrFun s1 30).trans (show zi0 30 = mi0 7 from rfl), (congrFun s2 23).trans (show za0 23 = ma0 20 from rfl), (congrFun s2 24).trans (show za0 24 = ma0 21 from rfl), (congrFun s2 25).trans (show za0 25 = ma0 22 from rfl), (congrFun s2 26).trans (show za0 26 = ma0 23 from rfl), (TR_00 ((congrFun s1 6).trans (show zi0 6 = 0 from rfl))), (PLR_00 ((congrFun s1 36).trans (show zi0 36 = -1 from rfl)) ((congrFun s1 38).trans (show zi0 38 = 0 from rfl)) ((congrFun s3 2).trans (show zl0 2 = (fun _ => 0) from rfl)) (show ma0 39 0 = -1 from rfl) (show ma0 40 0 = 0 from rfl) (fun _ => rfl)), (PLR_00 ((congrFun s1 39).trans (show zi0 39 = -1 from rfl)) ((congrFun s1 41).trans (show zi0 41 = 0 from rfl)) ((congrFun s3 3).trans (show zl0 3 = (fun _ => 0) from rfl)) (show ma0 39 1 = -1 from rfl) (show ma0 40 1 = 0 from rfl) (fun _ => rfl)), (PLR_00 ((congrFun s1 42).trans (show zi0 42 = -1 from rfl)) ((congrFun s1 44).trans (show zi0 44 = 0 from rfl)) ((congrFun s3 4).trans (show zl0 4 = (fun _ => 0) from rfl)) (show ma0 39 2 = -1 from rfl) (show ma0 40 2 = 0 from rfl) (fun _ => rfl)), (PLR_00 ((congrFun s1 45).trans (show zi0 45 = -1 from rfl)) ((congrFun s1 47).trans (show zi0 47 = 0 from rfl)) ((congrFun s3 5).trans (show zl0 5 = (fun _ => 0) from rfl)) (show ma0 39 3 = -1 from rfl) (show ma0 40 3 = 0 from rfl) (fun _ => rfl)), (PLR_00 ((congrFun s1 48).trans (show zi0 48 = -1 from rfl)) ((congrFun s1 50).trans (show zi0 50 = 0 from rfl)) ((congrFun s3 6).trans (show zl0 6 = (fun _ => 0) from rfl)) (show ma0 39 4 = -1 from rfl) (show ma0 40 4 = 0 from rfl) (fun _ => rfl)), (PLR_00 ((congrFun s1 51).trans (show zi0 51 = -1 from rfl)) ((congrFun s1 53).trans (show zi0 53 = 0 from rfl)) ((congrFun s3 7).trans (show zl0 7 = (fun _ => 0) from rfl)) (show ma0 39 5 = -1 from rfl) (show ma0 40 5 = 0 from rfl) (fun _ => rfl)), (SZ_00 ((congrFun s1 31).trans (show zi0 31 = 0 from rfl)) (show mi0 7 = 0 from rfl) (show mi0 8 = 0 from rfl)), (CV_00 ((congrFun s1 31).trans (show zi0 31 = 0 from rfl))), (WU_00 ((congrFun s1 2).trans (show zi0 2 = 0 from rfl))), (WU_00 ((congrFun s1 2).trans (show zi0 2 = 0 from rfl))), (SUS_00 ((congrFun s1 2).trans (show zi0 2 = 0 from rfl)))⟩) H locs ls hP hD hS (lv_sub hl [3, 2, 1, 0] rfl)
