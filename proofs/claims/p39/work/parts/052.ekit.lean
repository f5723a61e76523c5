theorem kw_87 : Cond.initialized RJ3 ∈ zW := zwC (i := 13) zc_1 rfl rfl
theorem kw_509 : Cond.fieldLink RJ0 1053 "jdk/internal/util/Preconditions" "SIOOBE_FORMATTER" "Ljava/util/function/BiFunction;" ∈ zW := zwC (i := 195) zc_2 rfl rfl
theorem kw_511 : Cond.methodLink RJ0 1059 yJ3_checkIndex_8e157 ∈ zW := zwC (i := 197) zc_2 rfl rfl
theorem kw_512 : Cond.static yJ3_checkIndex_8e157 ∈ zW := zwC (i := 198) zc_2 rfl rfl
theorem kw_513 : Cond.code yJ3_checkIndex_8e157 cJ3_checkIndex_8e157 3 (some .int) ∈ zW := zwC (i := 199) zc_2 rfl rfl
theorem zh_cJ0_checkIndex_df160_0 : zck [26, 27, 178, 4, 29, 184, 4, 35, 87, 177] (zdu 0 cJ0_checkIndex_df160.data.toList) = true := by decide +kernel
theorem dJ0_checkIndex_df160_0 : decode cJ0_checkIndex_df160 0 = .ok (.iload_n 0, 1) := zo_26 zh_cJ0_checkIndex_df160_0 0 rfl
theorem dJ0_checkIndex_df160_1 : decode cJ0_checkIndex_df160 1 = .ok (.iload_n 1, 1) := zo_27 zh_cJ0_checkIndex_df160_0 1 rfl
theorem zo_178 {c : ByteArray} {s : Nat} {K : List Nat} (h : zck K (zdu s c.data.toList) = true) (k : Nat) {v : Nat} (hk : zt3 K k 178 v = true) : decode c (s + k) = .ok (.getstatic v, 3) := zde ((zbd (zu1 (zh3 h hk).1)).trans ((zbd (f := fun x => pure (Instr.getstatic x)) (zh3 h hk).2).trans rfl))
theorem dJ0_checkIndex_df160_2 : decode cJ0_checkIndex_df160 2 = .ok (.getstatic 1053, 3) := zo_178 zh_cJ0_checkIndex_df160_0 2 rfl
theorem dJ0_checkIndex_df160_5 : decode cJ0_checkIndex_df160 5 = .ok (.invokestatic 1059, 3) := zo_184 zh_cJ0_checkIndex_df160_0 5 rfl
theorem dJ0_checkIndex_df160_8 : decode cJ0_checkIndex_df160 8 = .ok (.pop, 1) := zo_87 zh_cJ0_checkIndex_df160_0 8 rfl
theorem dJ0_checkIndex_df160_9 : decode cJ0_checkIndex_df160 9 = .ok (.return_, 1) := zo_177 zh_cJ0_checkIndex_df160_0 9 rfl
theorem zh_cJ3_checkIndex_8e157_0 : zck [26, 155, 0, 8, 26, 27, 161, 0, 10, 44, 26, 27, 184, 0, 95, 191, 26, 172] (zdu 0 cJ3_checkIndex_8e157.data.toList) = true := by decide +kernel
theorem dJ3_checkIndex_8e157_0 : decode cJ3_checkIndex_8e157 0 = .ok (.iload_n 0, 1) := zo_26 zh_cJ3_checkIndex_8e157_0 0 rfl
theorem dJ3_checkIndex_8e157_1 : decode cJ3_checkIndex_8e157 1 = .ok (.ifCond .lt 8, 3) := zo_p155 zh_cJ3_checkIndex_8e157_0 1 8 rfl rfl
theorem dJ3_checkIndex_8e157_4 : decode cJ3_checkIndex_8e157 4 = .ok (.iload_n 0, 1) := zo_26 zh_cJ3_checkIndex_8e157_0 4 rfl
theorem dJ3_checkIndex_8e157_5 : decode cJ3_checkIndex_8e157 5 = .ok (.iload_n 1, 1) := zo_27 zh_cJ3_checkIndex_8e157_0 5 rfl
theorem dJ3_checkIndex_8e157_6 : decode cJ3_checkIndex_8e157 6 = .ok (.if_icmp .lt 10, 3) := zo_p161 zh_cJ3_checkIndex_8e157_0 6 10 rfl rfl
theorem dJ3_checkIndex_8e157_16 : decode cJ3_checkIndex_8e157 16 = .ok (.iload_n 0, 1) := zo_26 zh_cJ3_checkIndex_8e157_0 16 rfl
theorem dJ3_checkIndex_8e157_17 : decode cJ3_checkIndex_8e157 17 = .ok (.ireturn, 1) := zo_172 zh_cJ3_checkIndex_8e157_0 17 rfl
def zStr : List (String × Nat × String) := [(RX11, 393, "a&k=1|a&k=6|a&k=3"), (RX11, 395, "f&n"), (RX11, 397, "n<3"), (RX11, 399, "1"), (RX5, 83, "kwdlhascrfn")]
def zLen : List Nat := [17, 3, 3, 1, 11]
def zByt : List (List Int32) := [[97, 38, 107, 61, 49, 124, 97, 38, 107, 61, 54, 124, 97, 38, 107, 61, 51], [102, 38, 110], [110, 60, 51], [49], [107, 119, 100, 108, 104, 97, 115, 99, 114, 102, 110]]
def zE (k : (Nat → Nat) × (Nat → Nat)) (A : Nat → Prop) (U : State) : Prop := vk_S 5 zLen zByt k.1 k.2 A U U.heap ∧ (∀ (i : Nat) (q : String × Nat × String), zStr[i]? = some q → vk_R q.1 q.2.1 q.2.2 (k.1 i) U) ∧ va_Z "java/lang/String" "COMPACT_STRINGS" "Z" (.int 1) A U U.heap ∧ va_Zq "jdk/internal/util/Preconditions" "SIOOBE_FORMATTER" "Ljava/util/function/BiFunction;" A U U.heap ∧ va_Nw (.castable "[I" "java/lang/Cloneable") U
theorem zE.go {k : (Nat → Nat) × (Nat → Nat)} {A B : Nat → Prop} {s U : State} {H : Heap} {locs : List Loc} (h : zE k A s) (hW : s.WarmedH U.vm) (hU : U.heap = H) (hS : va_S A s.heap H locs) (hF : ∀ q, B q → A q) : zE k B U := by
  subst hU
  exact ⟨((h.1.moved hW.alike).kept hS.2.1).narrow hF, fun i q hq => vk_R.warm hW (h.2.1 i q hq), ((h.2.2.1.moved hW.alike).kept hS.2.1).narrow hF, ((h.2.2.2.1.moved hW.alike).kept hS.2.1).narrow hF, va_Nw.warmC hW h.2.2.2.2⟩
theorem zE.calling {k : (Nat → Nat) × (Nat → Nat)} {A : Nat → Prop} {U : State} {g : JFrame} {mk : MethodId} {a : Array Value} (h : zE k A U) : zE k A (U.calling g mk a) :=
  ⟨vk_S.moved (u := U) (U := U.calling g mk a) (Vm.Alike.refl U.vm) h.1, fun i q hq => vk_R.same (u := U) (U := U.calling g mk a) rfl (h.2.1 i q hq), va_Z.moved (u := U) (U := U.calling g mk a) (Vm.Alike.refl U.vm) h.2.2.1, va_Zq.moved (u := U) (U := U.calling g mk a) (Vm.Alike.refl U.vm) h.2.2.2.1, va_Nw.same rfl (U := U.calling g mk a) rfl h.2.2.2.2⟩
def zPreE (k : (Nat → Nat) × (Nat → Nat)) (D : va_G) (cs : Nat → ClassId) (w : va_W) (sz : Nat) : State → Prop := fun U => zPreO D cs w sz U ∧ zE k (va_A w sz) U
theorem zPreE_blind {k : (Nat → Nat) × (Nat → Nat)} {D : va_G} {cs : Nat → ClassId} {w : va_W} {sz : Nat} {As : List Value} : FrameBlind (va_Pc As (zPreE k D cs w sz)) := fun a U g mk q => by
  obtain ⟨q0, q1, qE⟩ := q
  exact ⟨q0, (zPreO_blind (As := As) a U g mk ⟨q0, q1⟩).2, qE.calling⟩
theorem zk_nc {x : Int32} {ty : FieldType} (h : ¬ ¬ (narrow ty (.int x) = .int x)) : narrow ty (.int x) = .int x := Decidable.not_not.mp h
section ZKE
variable {p : Program} {l : Launch} {e : Env} {R : Room} {s : State} {m : MethodId} {args : Array Value} {below : List Frame} {meth : Method} {c : Code} {H : Heap} {locs : List Loc} {cells slots : Nat} {Q : State → Prop} {ls : Array Slot} {pc : Nat}
variable {A : Nat → Prop} {D : va_G} {cs : Nat → ClassId} {ws wc : va_W} {S : Type} {w1 : S → va_W} {y : MethodName} {wsY : List Cond} {rm : Room} {C own host : String} {index maxL mc ms n nL : Nat} {bytes cc : ByteArray} {ret : Option FieldType} {b : Nat} {As rest : List Value} {k : (Nat → Nat) × (Nat → Nat)}
theorem zk_viE {post : Int32 → S → Prop} (hE : zE k A s) (hO : zO s) (hM : Met l y wsY rm (va_Pc (.ref b :: As) (zPreE k D cs wc H.size)) (va_Qi post (fun (u : S) (t : State) => va_P D classes (w1 u) t.heap ∧ va_D (va_A wc H.size) (w1 u)) (va_A wc H.size)) mc ms (va_A wc H.size))
    (S0 : CallFix p m c cc nL s args zW own) (cw : CallW R s args own C index y bytes maxL ret wsY rm mc ms n) (hrv : ∃ cellB : Cell, H[b]? = some cellB ∧ cellB.vm.isStatics = false ∧ s.vm.findClass C = some cellB.cls)
    (hP : va_P D classes ws H) (hD : va_D A ws) (hS : va_S A s.heap H locs) (hK : va_K D classes (zT cs) s) (hA : ∀ q : Nat, s.heap.size ≤ q → A q) (isC isR : List Nat) (hC : isC.map (fun i => ws[i]?) = wc.map some) (hnC : va_nd isC = true) (hR : isR.map (fun i => ws[i]?) = (isR.filterMap (fun i => ws[i]?)).map some) (hn : va_nd isR = true) (hdis : ∀ i ∈ isR, i ∉ isC)
    (hlen : As.length = n) (hsize : ls.size = nL) (hW : (rest.map fun v => v.category).sum ≤ 8) (hdg : decode cc pc = .ok (.invokevirtual index, 3)) (hf : cells + mc ≤ R.cells ∧ slots + ms ≤ R.slots)
    (kk : ∀ (r : Int32) (u : S) (H1 : Heap) (locs1 : List Loc), post r u → va_P D classes (isR.filterMap (fun i => ws[i]?) ++ w1 u) H1 → va_D A (isR.filterMap (fun i => ws[i]?) ++ w1 u) → va_S A s.heap H1 locs1 → W p l e R s m args below meth c H1 locs1 (cells + mc) (slots + ms) Q (F0 m (pc + 3) ls (.int r :: rest))) :
    W p l e R s m args below meth c H locs cells slots Q (F0 m pc ls (As.reverse ++ .ref b :: rest)) := by
  have hPc : va_P D classes wc H := hP.sub isC (zk_fm hC)
  have hDc : va_D A wc := hD.sub isC hnC hC
  have hFc := va_free hD hS hA isC hC
  refine va_calli (va_runV (As := As) (rest := rest) S0 hM cw ⟨zPreE_blind, hrv, fun U hU hW => ⟨rfl, ⟨⟨by rw [hU], by rw [hU]; exact hPc, va_K.moved hW.alike hK, hDc.weaken (fun _ _ _ _ => trivial)⟩, zO.warm hW hO⟩, hE.go hW hU hS hFc⟩⟩ rfl hlen hsize rfl (lv_room hW) hdg hf) hS (fun q _ h => hFc q h) hFc (fun r u t H1 locs1 ht hvm hw hB hz1 hk1 hS1 => ?_)
  have hB : va_P D classes (w1 u) t.heap ∧ va_D (va_A wc H.size) (w1 u) := hB
  rw [ht] at hB
  obtain ⟨hP2, hD2⟩ := va_join hP hD isC isR hC hR hn hdis hk1 hFc hB.1 hB.2
  exact kk r u H1 locs1 hw hP2 hD2 hS1
theorem zk_vvE {post : S → Prop} (hE : zE k A s) (hO : zO s) (hM : Met l y wsY rm (va_Pc (.ref b :: As) (zPreE k D cs wc H.size)) (va_Qv post (fun (u : S) (t : State) => va_P D classes (w1 u) t.heap ∧ va_D (va_A wc H.size) (w1 u)) (va_A wc H.size)) mc ms (va_A wc H.size))
    (S0 : CallFix p m c cc nL s args zW own) (cw : CallW R s args own C index y bytes maxL ret wsY rm mc ms n) (hrv : ∃ cellB : Cell, H[b]? = some cellB ∧ cellB.vm.isStatics = false ∧ s.vm.findClass C = some cellB.cls)
    (hP : va_P D classes ws H) (hD : va_D A ws) (hS : va_S A s.heap H locs) (hK : va_K D classes (zT cs) s) (hA : ∀ q : Nat, s.heap.size ≤ q → A q) (isC isR : List Nat) (hC : isC.map (fun i => ws[i]?) = wc.map some) (hnC : va_nd isC = true) (hR : isR.map (fun i => ws[i]?) = (isR.filterMap (fun i => ws[i]?)).map some) (hn : va_nd isR = true) (hdis : ∀ i ∈ isR, i ∉ isC)
    (hlen : As.length = n) (hsize : ls.size = nL) (hW : (rest.map fun v => v.category).sum ≤ 8) (hdg : decode cc pc = .ok (.invokevirtual index, 3)) (hf : cells + mc ≤ R.cells ∧ slots + ms ≤ R.slots)
    (kk : ∀ (u : S) (H1 : Heap) (locs1 : List Loc), post u → va_P D classes (isR.filterMap (fun i => ws[i]?) ++ w1 u) H1 → va_D A (isR.filterMap (fun i => ws[i]?) ++ w1 u) → va_S A s.heap H1 locs1 → W p l e R s m args below meth c H1 locs1 (cells + mc) (slots + ms) Q (F0 m (pc + 3) ls (rest))) :
    W p l e R s m args below meth c H locs cells slots Q (F0 m pc ls (As.reverse ++ .ref b :: rest)) := by
  have hPc : va_P D classes wc H := hP.sub isC (zk_fm hC)
  have hDc : va_D A wc := hD.sub isC hnC hC
  have hFc := va_free hD hS hA isC hC
  refine va_callv (va_runV (As := As) (rest := rest) S0 hM cw ⟨zPreE_blind, hrv, fun U hU hW => ⟨rfl, ⟨⟨by rw [hU], by rw [hU]; exact hPc, va_K.moved hW.alike hK, hDc.weaken (fun _ _ _ _ => trivial)⟩, zO.warm hW hO⟩, hE.go hW hU hS hFc⟩⟩ rfl hlen hsize rfl (lv_room hW) hdg hf) hS (fun q _ h => hFc q h) hFc (fun u t H1 locs1 ht hvm hw hB hz1 hk1 hS1 => ?_)
  have hB : va_P D classes (w1 u) t.heap ∧ va_D (va_A wc H.size) (w1 u) := hB
  rw [ht] at hB
  obtain ⟨hP2, hD2⟩ := va_join hP hD isC isR hC hR hn hdis hk1 hFc hB.1 hB.2
  exact kk u H1 locs1 hw hP2 hD2 hS1
theorem zk_vqE {post : Option Nat → S → Prop} (hE : zE k A s) (hO : zO s) (hM : Met l y wsY rm (va_Pc (.ref b :: As) (zPreE k D cs wc H.size)) (va_Qq post (fun (u : S) (t : State) => va_P D classes (w1 u) t.heap ∧ va_D (va_A wc H.size) (w1 u)) (va_A wc H.size)) mc ms (va_A wc H.size))
    (S0 : CallFix p m c cc nL s args zW own) (cw : CallW R s args own C index y bytes maxL ret wsY rm mc ms n) (hrv : ∃ cellB : Cell, H[b]? = some cellB ∧ cellB.vm.isStatics = false ∧ s.vm.findClass C = some cellB.cls)
    (hP : va_P D classes ws H) (hD : va_D A ws) (hS : va_S A s.heap H locs) (hK : va_K D classes (zT cs) s) (hA : ∀ q : Nat, s.heap.size ≤ q → A q) (isC isR : List Nat) (hC : isC.map (fun i => ws[i]?) = wc.map some) (hnC : va_nd isC = true) (hR : isR.map (fun i => ws[i]?) = (isR.filterMap (fun i => ws[i]?)).map some) (hn : va_nd isR = true) (hdis : ∀ i ∈ isR, i ∉ isC)
    (hlen : As.length = n) (hsize : ls.size = nL) (hW : (rest.map fun v => v.category).sum ≤ 8) (hdg : decode cc pc = .ok (.invokevirtual index, 3)) (hf : cells + mc ≤ R.cells ∧ slots + ms ≤ R.slots)
    (kk : ∀ (r : Option Nat) (u : S) (H1 : Heap) (locs1 : List Loc), post r u → va_P D classes (isR.filterMap (fun i => ws[i]?) ++ w1 u) H1 → va_D A (isR.filterMap (fun i => ws[i]?) ++ w1 u) → va_S A s.heap H1 locs1 → W p l e R s m args below meth c H1 locs1 (cells + mc) (slots + ms) Q (F0 m (pc + 3) ls (va_rf r :: rest))) :
    W p l e R s m args below meth c H locs cells slots Q (F0 m pc ls (As.reverse ++ .ref b :: rest)) := by
  have hPc : va_P D classes wc H := hP.sub isC (zk_fm hC)
  have hDc : va_D A wc := hD.sub isC hnC hC
  have hFc := va_free hD hS hA isC hC
  refine va_callq (va_runV (As := As) (rest := rest) S0 hM cw ⟨zPreE_blind, hrv, fun U hU hW => ⟨rfl, ⟨⟨by rw [hU], by rw [hU]; exact hPc, va_K.moved hW.alike hK, hDc.weaken (fun _ _ _ _ => trivial)⟩, zO.warm hW hO⟩, hE.go hW hU hS hFc⟩⟩ rfl hlen hsize rfl (lv_room hW) hdg hf) hS (fun q _ h => hFc q h) hFc (fun r u t H1 locs1 ht hvm hw hB hz1 hk1 hS1 => ?_)
  have hB : va_P D classes (w1 u) t.heap ∧ va_D (va_A wc H.size) (w1 u) := hB
  rw [ht] at hB
  obtain ⟨hP2, hD2⟩ := va_join hP hD isC isR hC hR hn hdis hk1 hFc hB.1 hB.2
  exact kk r u H1 locs1 hw hP2 hD2 hS1
theorem zk_siE {post : Int32 → S → Prop} (hE : zE k A s) (hO : zO s) (hM : Met l y wsY rm (va_Pc As (zPreE k D cs wc H.size)) (va_Qi post (fun (u : S) (t : State) => va_P D classes (w1 u) t.heap ∧ va_D (va_A wc H.size) (w1 u)) (va_A wc H.size)) mc ms (va_A wc H.size))
    (S0 : CallFix p m c cc nL s args zW own) (cw : CallB R s args own index y bytes maxL ret wsY rm mc ms n ∧ (Cond.static y).before args s = true)
    (hP : va_P D classes ws H) (hD : va_D A ws) (hS : va_S A s.heap H locs) (hK : va_K D classes (zT cs) s) (hA : ∀ q : Nat, s.heap.size ≤ q → A q) (isC isR : List Nat) (hC : isC.map (fun i => ws[i]?) = wc.map some) (hnC : va_nd isC = true) (hR : isR.map (fun i => ws[i]?) = (isR.filterMap (fun i => ws[i]?)).map some) (hn : va_nd isR = true) (hdis : ∀ i ∈ isR, i ∉ isC)
    (hlen : As.length = n) (hsize : ls.size = nL) (hW : (rest.map fun v => v.category).sum ≤ 8) (hdg : decode cc pc = .ok (.invokestatic index, 3)) (hf : cells + mc ≤ R.cells ∧ slots + ms ≤ R.slots)
    (kk : ∀ (r : Int32) (u : S) (H1 : Heap) (locs1 : List Loc), post r u → va_P D classes (isR.filterMap (fun i => ws[i]?) ++ w1 u) H1 → va_D A (isR.filterMap (fun i => ws[i]?) ++ w1 u) → va_S A s.heap H1 locs1 → W p l e R s m args below meth c H1 locs1 (cells + mc) (slots + ms) Q (F0 m (pc + 3) ls (.int r :: rest))) :
    W p l e R s m args below meth c H locs cells slots Q (F0 m pc ls (As.reverse ++ rest)) := by
  have hPc : va_P D classes wc H := hP.sub isC (zk_fm hC)
  have hDc : va_D A wc := hD.sub isC hnC hC
  have hFc := va_free hD hS hA isC hC
  refine va_calli (va_runS (As := As) (rest := rest) S0 hM cw ⟨zPreE_blind, fun U hU hW => ⟨rfl, ⟨⟨by rw [hU], by rw [hU]; exact hPc, va_K.moved hW.alike hK, hDc.weaken (fun _ _ _ _ => trivial)⟩, zO.warm hW hO⟩, hE.go hW hU hS hFc⟩⟩ rfl hlen hsize rfl (lv_room hW) hdg hf) hS (fun q _ h => hFc q h) hFc (fun r u t H1 locs1 ht hvm hw hB hz1 hk1 hS1 => ?_)
  have hB : va_P D classes (w1 u) t.heap ∧ va_D (va_A wc H.size) (w1 u) := hB
  rw [ht] at hB
  obtain ⟨hP2, hD2⟩ := va_join hP hD isC isR hC hR hn hdis hk1 hFc hB.1 hB.2
  exact kk r u H1 locs1 hw hP2 hD2 hS1
theorem zk_svE {post : S → Prop} (hE : zE k A s) (hO : zO s) (hM : Met l y wsY rm (va_Pc As (zPreE k D cs wc H.size)) (va_Qv post (fun (u : S) (t : State) => va_P D classes (w1 u) t.heap ∧ va_D (va_A wc H.size) (w1 u)) (va_A wc H.size)) mc ms (va_A wc H.size))
    (S0 : CallFix p m c cc nL s args zW own) (cw : CallB R s args own index y bytes maxL ret wsY rm mc ms n ∧ (Cond.static y).before args s = true)
    (hP : va_P D classes ws H) (hD : va_D A ws) (hS : va_S A s.heap H locs) (hK : va_K D classes (zT cs) s) (hA : ∀ q : Nat, s.heap.size ≤ q → A q) (isC isR : List Nat) (hC : isC.map (fun i => ws[i]?) = wc.map some) (hnC : va_nd isC = true) (hR : isR.map (fun i => ws[i]?) = (isR.filterMap (fun i => ws[i]?)).map some) (hn : va_nd isR = true) (hdis : ∀ i ∈ isR, i ∉ isC)
    (hlen : As.length = n) (hsize : ls.size = nL) (hW : (rest.map fun v => v.category).sum ≤ 8) (hdg : decode cc pc = .ok (.invokestatic index, 3)) (hf : cells + mc ≤ R.cells ∧ slots + ms ≤ R.slots)
    (kk : ∀ (u : S) (H1 : Heap) (locs1 : List Loc), post u → va_P D classes (isR.filterMap (fun i => ws[i]?) ++ w1 u) H1 → va_D A (isR.filterMap (fun i => ws[i]?) ++ w1 u) → va_S A s.heap H1 locs1 → W p l e R s m args below meth c H1 locs1 (cells + mc) (slots + ms) Q (F0 m (pc + 3) ls (rest))) :
    W p l e R s m args below meth c H locs cells slots Q (F0 m pc ls (As.reverse ++ rest)) := by
  have hPc : va_P D classes wc H := hP.sub isC (zk_fm hC)
  have hDc : va_D A wc := hD.sub isC hnC hC
  have hFc := va_free hD hS hA isC hC
  refine va_callv (va_runS (As := As) (rest := rest) S0 hM cw ⟨zPreE_blind, fun U hU hW => ⟨rfl, ⟨⟨by rw [hU], by rw [hU]; exact hPc, va_K.moved hW.alike hK, hDc.weaken (fun _ _ _ _ => trivial)⟩, zO.warm hW hO⟩, hE.go hW hU hS hFc⟩⟩ rfl hlen hsize rfl (lv_room hW) hdg hf) hS (fun q _ h => hFc q h) hFc (fun u t H1 locs1 ht hvm hw hB hz1 hk1 hS1 => ?_)
  have hB : va_P D classes (w1 u) t.heap ∧ va_D (va_A wc H.size) (w1 u) := hB
  rw [ht] at hB
  obtain ⟨hP2, hD2⟩ := va_join hP hD isC isR hC hR hn hdis hk1 hFc hB.1 hB.2
  exact kk u H1 locs1 hw hP2 hD2 hS1
theorem zk_sqE {post : Option Nat → S → Prop} (hE : zE k A s) (hO : zO s) (hM : Met l y wsY rm (va_Pc As (zPreE k D cs wc H.size)) (va_Qq post (fun (u : S) (t : State) => va_P D classes (w1 u) t.heap ∧ va_D (va_A wc H.size) (w1 u)) (va_A wc H.size)) mc ms (va_A wc H.size))
    (S0 : CallFix p m c cc nL s args zW own) (cw : CallB R s args own index y bytes maxL ret wsY rm mc ms n ∧ (Cond.static y).before args s = true)
    (hP : va_P D classes ws H) (hD : va_D A ws) (hS : va_S A s.heap H locs) (hK : va_K D classes (zT cs) s) (hA : ∀ q : Nat, s.heap.size ≤ q → A q) (isC isR : List Nat) (hC : isC.map (fun i => ws[i]?) = wc.map some) (hnC : va_nd isC = true) (hR : isR.map (fun i => ws[i]?) = (isR.filterMap (fun i => ws[i]?)).map some) (hn : va_nd isR = true) (hdis : ∀ i ∈ isR, i ∉ isC)
    (hlen : As.length = n) (hsize : ls.size = nL) (hW : (rest.map fun v => v.category).sum ≤ 8) (hdg : decode cc pc = .ok (.invokestatic index, 3)) (hf : cells + mc ≤ R.cells ∧ slots + ms ≤ R.slots)
    (kk : ∀ (r : Option Nat) (u : S) (H1 : Heap) (locs1 : List Loc), post r u → va_P D classes (isR.filterMap (fun i => ws[i]?) ++ w1 u) H1 → va_D A (isR.filterMap (fun i => ws[i]?) ++ w1 u) → va_S A s.heap H1 locs1 → W p l e R s m args below meth c H1 locs1 (cells + mc) (slots + ms) Q (F0 m (pc + 3) ls (va_rf r :: rest))) :
    W p l e R s m args below meth c H locs cells slots Q (F0 m pc ls (As.reverse ++ rest)) := by
  have hPc : va_P D classes wc H := hP.sub isC (zk_fm hC)
  have hDc : va_D A wc := hD.sub isC hnC hC
  have hFc := va_free hD hS hA isC hC
  refine va_callq (va_runS (As := As) (rest := rest) S0 hM cw ⟨zPreE_blind, fun U hU hW => ⟨rfl, ⟨⟨by rw [hU], by rw [hU]; exact hPc, va_K.moved hW.alike hK, hDc.weaken (fun _ _ _ _ => trivial)⟩, zO.warm hW hO⟩, hE.go hW hU hS hFc⟩⟩ rfl hlen hsize rfl (lv_room hW) hdg hf) hS (fun q _ h => hFc q h) hFc (fun r u t H1 locs1 ht hvm hw hB hz1 hk1 hS1 => ?_)
  have hB : va_P D classes (w1 u) t.heap ∧ va_D (va_A wc H.size) (w1 u) := hB
  rw [ht] at hB
  obtain ⟨hP2, hD2⟩ := va_join hP hD isC isR hC hR hn hdis hk1 hFc hB.1 hB.2
  exact kk r u H1 locs1 hw hP2 hD2 hS1
end ZKE
abbrev z_J3_checkIndex_8e157 : List Cond := .code yJ3_checkIndex_8e157 cJ3_checkIndex_8e157 3 (some .int) :: zW
set_option maxHeartbeats 4000000 in
set_option maxRecDepth 100000 in
theorem cx_checkIndex (l : Launch) (D : va_G) (cs : Nat → ClassId) (k : (Nat → Nat) × (Nat → Nat)) (o : Option Nat) (sz : Nat) (x0 x1 : Int32) (h0 : ¬ x0 < 0) (h1 : x0 < x1) : Met l yJ3_checkIndex_8e157 z_J3_checkIndex_8e157 ({ frames := 0, cells := 0, slots := 0, locals := 0 } : Room) (va_Pc [.int x0, .int x1, va_rf o] (zPreE k D cs [] sz)) (va_Qi (fun (_ : Int32) (_ : Unit) => True) (fun (_ : Unit) (t : State) => va_P D classes [] t.heap ∧ va_D (va_A [] sz) []) (va_A [] sz)) 0 0 (va_A [] sz) := by
  refine Met.ofW (cc := cJ3_checkIndex_8e157) (maxL := 3) (ret := (some .int)) (by decide) rfl ?_
  intro p e s m args below meth c s₁ B hml hv
  obtain ⟨rfl, ⟨⟨hsz, hP, hK, hD0⟩, hO⟩, hE⟩ := hv
  subst hsz
  have hx := B.exec
  have hb := B.bytes
  have hr := B.returns
  have hlocks := B.notSynchronized
  cases o with
  | none =>
    have hl := lv_entry ([.int x0, .int x1, .null]) (n := 3) (Nat.le_of_ble_eq_true rfl)
    show W p l e _ s m _ below meth c s.heap [] 0 0 _ (entryFrame m ([.int x0, .int x1, .null] : List Value).toArray 3)
    rw [lg_entry_eq]
    generalize (lg_sl ([.int x0, .int x1, .null]) ++ List.replicate (3 - (lg_sl ([.int x0, .int x1, .null])).length) Slot.unset).toArray = ls at hl ⊢
    refine lv_iload_n hx hb dJ3_checkIndex_8e157_0 rfl (lv_at hl 0 rfl) ?_
    refine lv_if_lt (tgt := 9) hx hb dJ3_checkIndex_8e157_1 (by decide) (fun c1 => absurd c1 h0) (fun c1 => ?_)
    refine lv_iload_n hx hb dJ3_checkIndex_8e157_4 rfl (lv_at hl 0 rfl) ?_
    refine lv_iload_n hx hb dJ3_checkIndex_8e157_5 rfl (lv_at hl 1 rfl) ?_
    refine lv_icmp_lt (tgt := 16) hx hb dJ3_checkIndex_8e157_6 (by decide) (fun c2 => ?_) (fun c2 => absurd h1 c2)
    refine lv_iload_n hx hb dJ3_checkIndex_8e157_16 rfl (lv_at hl 0 rfl) ?_
    exact W.iret (v := x0) hx hb hr (fun t ht2 hW => ⟨⟨x0, (), rfl, trivial, fun k q h => by simp at h, ⟨fun i j p q h => by simp at h, fun k q h => by simp at h⟩⟩, va_S.rf.F ht2⟩) (fun q h => by cases h) dJ3_checkIndex_8e157_17 hlocks
  | some t =>
    have hl := lv_entry ([.int x0, .int x1, .ref t]) (n := 3) (Nat.le_of_ble_eq_true rfl)
    show W p l e _ s m _ below meth c s.heap [] 0 0 _ (entryFrame m ([.int x0, .int x1, .ref t] : List Value).toArray 3)
    rw [lg_entry_eq]
    generalize (lg_sl ([.int x0, .int x1, .ref t]) ++ List.replicate (3 - (lg_sl ([.int x0, .int x1, .ref t])).length) Slot.unset).toArray = ls at hl ⊢
    refine lv_iload_n hx hb dJ3_checkIndex_8e157_0 rfl (lv_at hl 0 rfl) ?_
    refine lv_if_lt (tgt := 9) hx hb dJ3_checkIndex_8e157_1 (by decide) (fun c1 => absurd c1 h0) (fun c1 => ?_)
    refine lv_iload_n hx hb dJ3_checkIndex_8e157_4 rfl (lv_at hl 0 rfl) ?_
    refine lv_iload_n hx hb dJ3_checkIndex_8e157_5 rfl (lv_at hl 1 rfl) ?_
    refine lv_icmp_lt (tgt := 16) hx hb dJ3_checkIndex_8e157_6 (by decide) (fun c2 => ?_) (fun c2 => absurd h1 c2)
    refine lv_iload_n hx hb dJ3_checkIndex_8e157_16 rfl (lv_at hl 0 rfl) ?_
    exact W.iret (v := x0) hx hb hr (fun t ht2 hW => ⟨⟨x0, (), rfl, trivial, fun k q h => by simp at h, ⟨fun i j p q h => by simp at h, fun k q h => by simp at h⟩⟩, va_S.rf.F ht2⟩) (fun q h => by cases h) dJ3_checkIndex_8e157_17 hlocks
theorem g_J0_checkIndex : GoodIn zW (va_wsS RJ0 1059 yJ3_checkIndex_8e157 z_J3_checkIndex_8e157) := zGS kw_511 kw_512 kw_87 kw_513
abbrev z_J0_checkIndex_df160 : List Cond := .code yJ0_checkIndex_df160 cJ0_checkIndex_df160 2 none :: zW
abbrev rm_J0_checkIndex_df160 : Room := { frames := 1, cells := 0, slots := 0, locals := 22 }
set_option maxHeartbeats 4000000 in
set_option maxRecDepth 100000 in
theorem cx_checkIndex2 (l : Launch) (D : va_G) (cs : Nat → ClassId) (k : (Nat → Nat) × (Nat → Nat)) (sz : Nat) (x0 x1 : Int32) (h0 : ¬ x0 < 0) (h1 : x0 < x1) : Met l yJ0_checkIndex_df160 z_J0_checkIndex_df160 rm_J0_checkIndex_df160 (va_Pc [.int x0, .int x1] (zPreE k D cs [] sz)) (va_Qv (fun (_ : Unit) => True) (fun (_ : Unit) (t : State) => va_P D classes [] t.heap ∧ va_D (va_A [] sz) []) (va_A [] sz)) 0 0 (va_A [] sz) := by
  refine Met.ofW (cc := cJ0_checkIndex_df160) (maxL := 2) (ret := none) (by decide) rfl ?_
  intro p e s m args below meth c s₁ B hml hv
  obtain ⟨rfl, ⟨⟨hsz, hP, hK, hD0⟩, hO⟩, hE⟩ := hv
  subst hsz
  have hx := B.exec
  have hb := B.bytes
  have hr := B.returns
  have hlocks := B.notSynchronized
  have hown : s.vm.findClass RJ0 = some m.cls := findClass_of_methodNamed B.named
  have ht : ∀ w ∈ zW, w.before _ s = true := fun w hw => atoms_spec (ws := z_J0_checkIndex_df160) B.pre w (List.mem_cons_of_mem _ hw)
  have hA : ∀ q : Nat, s.heap.size ≤ q → va_A [] s.heap.size q := fun q h => Or.inr h
  have hD := hD0.self (sz := s.heap.size)
  have hS : va_S (va_A [] s.heap.size) s.heap s.heap [] := va_S.rf
  have hl := lv_entry ([.int x0, .int x1]) (n := 2) (Nat.le_of_ble_eq_true rfl)
  rw [lg_entry_eq]
  generalize (lg_sl ([.int x0, .int x1]) ++ List.replicate (2 - (lg_sl ([.int x0, .int x1])).length) Slot.unset).toArray = ls at hl ⊢
  rcases hE.2.2.2.1 with hZ | ⟨t, hZ⟩
  · skip
    refine lv_iload_n hx hb dJ0_checkIndex_df160_0 rfl (lv_at hl 0 rfl) ?_
    refine lv_iload_n hx hb dJ0_checkIndex_df160_1 rfl (lv_at hl 1 rfl) ?_
    refine va_gets (v := .null) hx hb hZ hS hown (ht _ kw_509) (fun _ h9 => h9) dJ0_checkIndex_df160_2 ?_
    refine zk_siE (post := fun _ _ => True) (w1 := fun _ => []) (As := [.int x0, .int x1, .null]) (rest := []) hE hO (cx_checkIndex l D cs k none s.heap.size x0 x1 h0 h1) ⟨hx, hb, hml, hown, ht⟩ (va_cwS 3 ht g_J0_checkIndex rfl rfl rfl (by decide +kernel) ⟨Nat.le_of_ble_eq_true rfl, Nat.le_of_ble_eq_true rfl⟩) hP hD hS hK hA [] [] rfl rfl rfl rfl (by decide) rfl hl.1 (Nat.le_of_ble_eq_true rfl) dJ0_checkIndex_df160_5 ⟨Nat.zero_le _, Nat.zero_le _⟩ (fun r u H locs hq hP hD hS => ?_)
    refine lv_pop hx hb dJ0_checkIndex_df160_8 rfl ?_
    exact W.vret hx hb hr (fun t ht2 hW => ⟨⟨(), rfl, trivial, by rw [ht2]; exact hP, hD⟩, hS.F ht2⟩) hS.2.2 dJ0_checkIndex_df160_9 hlocks
  · skip
    refine lv_iload_n hx hb dJ0_checkIndex_df160_0 rfl (lv_at hl 0 rfl) ?_
    refine lv_iload_n hx hb dJ0_checkIndex_df160_1 rfl (lv_at hl 1 rfl) ?_
    refine va_gets (v := .ref t) hx hb hZ hS hown (ht _ kw_509) (fun _ h9 => h9) dJ0_checkIndex_df160_2 ?_
    refine zk_siE (post := fun _ _ => True) (w1 := fun _ => []) (As := [.int x0, .int x1, .ref t]) (rest := []) hE hO (cx_checkIndex l D cs k (some t) s.heap.size x0 x1 h0 h1) ⟨hx, hb, hml, hown, ht⟩ (va_cwS 3 ht g_J0_checkIndex rfl rfl rfl (by decide +kernel) ⟨Nat.le_of_ble_eq_true rfl, Nat.le_of_ble_eq_true rfl⟩) hP hD hS hK hA [] [] rfl rfl rfl rfl (by decide) rfl hl.1 (Nat.le_of_ble_eq_true rfl) dJ0_checkIndex_df160_5 ⟨Nat.zero_le _, Nat.zero_le _⟩ (fun r u H locs hq hP hD hS => ?_)
    refine lv_pop hx hb dJ0_checkIndex_df160_8 rfl ?_
    exact W.vret hx hb hr (fun t ht2 hW => ⟨⟨(), rfl, trivial, by rw [ht2]; exact hP, hD⟩, hS.F ht2⟩) hS.2.2 dJ0_checkIndex_df160_9 hlocks
theorem kw_493 : Cond.fieldLink RJ0 38 "java/lang/String" "COMPACT_STRINGS" "Z" ∈ zW := zwC (i := 179) zc_2 rfl rfl
theorem kw_1904 : Cond.fieldLink RJ0 15 "java/lang/String" "coder" "B" ∈ zW := zwC (i := 150) zc_8 rfl rfl
theorem zh_cJ0_coder_7d493_0 : zck [178, 0, 38, 153, 0, 10, 42, 180, 0, 15, 167, 0, 4, 4, 172] (zdu 0 cJ0_coder_7d493.data.toList) = true := by decide +kernel
theorem dJ0_coder_7d493_0 : decode cJ0_coder_7d493 0 = .ok (.getstatic 38, 3) := zo_178 zh_cJ0_coder_7d493_0 0 rfl
theorem dJ0_coder_7d493_3 : decode cJ0_coder_7d493 3 = .ok (.ifCond .eq 10, 3) := zo_p153 zh_cJ0_coder_7d493_0 3 10 rfl rfl
theorem dJ0_coder_7d493_6 : decode cJ0_coder_7d493 6 = .ok (.aload_n 0, 1) := zo_42 zh_cJ0_coder_7d493_0 6 rfl
theorem dJ0_coder_7d493_7 : decode cJ0_coder_7d493 7 = .ok (.getfield 15, 3) := zo_180 zh_cJ0_coder_7d493_0 7 rfl
theorem dJ0_coder_7d493_10 : decode cJ0_coder_7d493 10 = .ok (.goto 4, 3) := zo_p167 zh_cJ0_coder_7d493_0 10 4 rfl rfl
theorem dJ0_coder_7d493_14 : decode cJ0_coder_7d493 14 = .ok (.ireturn, 1) := zo_172 zh_cJ0_coder_7d493_0 14 rfl
abbrev z_J0_coder_7d493 : List Cond := .code yJ0_coder_7d493 cJ0_coder_7d493 1 (some .byte) :: zW
abbrev wl_J0_coder_7d493 (ad : Nat → Nat) (cs : Nat → ClassId)   : va_W := []
def Q_J0_coder_7d493 (D : va_G) (cs : Nat → ClassId) (ad : Nat → Nat)   (A : Nat → Prop) (R : Int32 × Unit) : Array Value → State → Outcome → State → Prop :=
  va_Qi (fun (r : Int32) (u : Unit) => (r, u) = R) (fun (u : Unit) (t : State) => va_P D classes (wl_J0_coder_7d493 ad cs ) t.heap ∧ va_D A (wl_J0_coder_7d493 ad cs )) A
abbrev rm_J0_coder_7d493 : Room := { frames := 0, cells := 0, slots := 0, locals := 0 }
def B_J0_coder_7d493_0     (i0 : Nat) : Option (Int32 × Unit) :=
  (if ¬ (narrow .byte (.int (0 : Int32)) = .int (0 : Int32)) then none else (some ((0 : Int32), ())))
def f_J0_coder_7d493   (i0 : Nat)  : Option (Int32 × Unit) := B_J0_coder_7d493_0    i0 
set_option maxHeartbeats 4000000 in
set_option maxRecDepth 100000 in
theorem L_J0_coder_7d493_0 {p : Program} {l : Launch} {e : Env} {s : State} {m : MethodId} {args : Array Value} {below : List Frame} {meth : Method} {c : Code} {A : Nat → Prop} {D : va_G} {cs : Nat → ClassId} {ad : Nat → Nat} {R : Int32 × Unit} (C0 : zC p s m args meth c cJ0_coder_7d493 1 (some .byte) RJ0 zW) (hK : va_K D classes (zT cs) s) {k : (Nat → Nat) × (Nat → Nat)} (hO : zO s) (hE : zE k A s) {i0 : Nat} (hi0 : i0 < 5) (hA : ∀ q : Nat, s.heap.size ≤ q → A q)  (h : B_J0_coder_7d493_0 i0 = some R) (H : Heap) (locs : List Loc) (ls : Array Slot) (hP : va_P D classes (wl_J0_coder_7d493 ad cs ) H) (hD : va_D A (wl_J0_coder_7d493 ad cs )) (hS : va_S A s.heap H locs) (hl : lv_has ls 1 [(0, .ref (k.1 i0))]) : W p l e rm_J0_coder_7d493 s m args below meth c H locs 0 0 (MQ below (Q_J0_coder_7d493 D cs ad  A R) args s 0 0 A) (F0 m 0 ls []) := by
  obtain ⟨hx, hb, hr, hml, hown, ht, hlocks⟩ := id C0
  refine va_gets (v := .int (1 : Int32)) hx hb hE.2.2.1 hS hown (ht _ kw_493) (fun _ h9 => h9) dJ0_coder_7d493_0 ?_
  refine lv_if_eq (tgt := 13) hx hb dJ0_coder_7d493_3 (by decide) (fun c_1 => ?_) (fun c_1 => ?_)
  · exact absurd c_1 (by decide)
  · refine lv_aload_n hx hb dJ0_coder_7d493_6 rfl (lv_at hl 0 rfl) ?_
    refine vk_getf (v := .int (0 : Int32)) hx hb (hE.1.1 i0 hi0).2.1 hS hown (ht _ kw_1904) (fun _ h9 => h9) dJ0_coder_7d493_7 ?_
    refine lv_goto (tgt := 14) hx hb dJ0_coder_7d493_10 (by decide) ?_
    obtain ⟨g_2, h⟩ := zk_gd h
    exact W.zret (ty := .byte) (v := (0 : Int32)) hx hb hr (zk_nc g_2) (fun t ht2 hW => ⟨⟨(0 : Int32), (), rfl, Option.some.inj h, by rw [ht2]; exact hP, hD⟩, hS.F ht2⟩) hS.2.2 dJ0_coder_7d493_14 hlocks
set_option maxHeartbeats 4000000 in
set_option maxRecDepth 100000 in
theorem c_J0_coder_7d493 (l : Launch) (D : va_G) (cs : Nat → ClassId) (ad : Nat → Nat) (k : (Nat → Nat) × (Nat → Nat)) (i0 : Nat) (hi0 : i0 < 5) (sz : Nat)   (R : Int32 × Unit) (h : f_J0_coder_7d493   i0  = some R) : Met l yJ0_coder_7d493 (z_J0_coder_7d493) rm_J0_coder_7d493 (va_Pc [.ref (k.1 i0)] (zPreE k D cs (wl_J0_coder_7d493 ad cs ) sz)) (Q_J0_coder_7d493 D cs ad  (va_A (wl_J0_coder_7d493 ad cs ) sz) R) 0 0 (va_A (wl_J0_coder_7d493 ad cs ) sz) := by
  refine Met.ofW (cc := cJ0_coder_7d493) (maxL := 1) (ret := (some .byte)) (by decide) rfl ?_
  intro p e s m args below meth c s₁ B hml hv
  obtain ⟨rfl, ⟨⟨hsz, hP, hK, hD0⟩, hO⟩, hE⟩ := hv
  subst hsz
  have hD := hD0.self (sz := s.heap.size)
  have C0 : zC p s m _ meth c cJ0_coder_7d493 1 (some .byte) RJ0 zW := ⟨B.exec, B.bytes, B.returns, hml, findClass_of_methodNamed B.named, fun w hw => atoms_spec (ws := z_J0_coder_7d493) B.pre w (List.mem_cons_of_mem _ hw), B.notSynchronized⟩
  have hA : ∀ q : Nat, s.heap.size ≤ q → va_A (wl_J0_coder_7d493 ad cs ) s.heap.size q := fun q h => Or.inr h
  have hl := lv_entry ([.ref (k.1 i0)]) (n := 1) (Nat.le_of_ble_eq_true rfl)
  rw [lg_entry_eq]
  generalize (lg_sl ([.ref (k.1 i0)]) ++ List.replicate (1 - (lg_sl ([.ref (k.1 i0)])).length) Slot.unset).toArray = ls at hl ⊢
  exact L_J0_coder_7d493_0 C0 hK hO hE hi0 hA     h s.heap [] ls hP hD va_S.rf hl
theorem zh_cJ0_isLatin1_aae02_0 : zck [178, 0, 38, 153, 0, 14, 42, 180, 0, 15, 154, 0, 7, 4, 167, 0, 4, 3, 172] (zdu 0 cJ0_isLatin1_aae02.data.toList) = true := by decide +kernel
theorem dJ0_isLatin1_aae02_0 : decode cJ0_isLatin1_aae02 0 = .ok (.getstatic 38, 3) := zo_178 zh_cJ0_isLatin1_aae02_0 0 rfl
theorem dJ0_isLatin1_aae02_3 : decode cJ0_isLatin1_aae02 3 = .ok (.ifCond .eq 14, 3) := zo_p153 zh_cJ0_isLatin1_aae02_0 3 14 rfl rfl
theorem dJ0_isLatin1_aae02_6 : decode cJ0_isLatin1_aae02 6 = .ok (.aload_n 0, 1) := zo_42 zh_cJ0_isLatin1_aae02_0 6 rfl
theorem dJ0_isLatin1_aae02_7 : decode cJ0_isLatin1_aae02 7 = .ok (.getfield 15, 3) := zo_180 zh_cJ0_isLatin1_aae02_0 7 rfl
theorem dJ0_isLatin1_aae02_10 : decode cJ0_isLatin1_aae02 10 = .ok (.ifCond .ne 7, 3) := zo_p154 zh_cJ0_isLatin1_aae02_0 10 7 rfl rfl
theorem dJ0_isLatin1_aae02_13 : decode cJ0_isLatin1_aae02 13 = .ok (.iconst 1, 1) := zo_4 zh_cJ0_isLatin1_aae02_0 13 rfl
theorem dJ0_isLatin1_aae02_14 : decode cJ0_isLatin1_aae02 14 = .ok (.goto 4, 3) := zo_p167 zh_cJ0_isLatin1_aae02_0 14 4 rfl rfl
theorem dJ0_isLatin1_aae02_18 : decode cJ0_isLatin1_aae02 18 = .ok (.ireturn, 1) := zo_172 zh_cJ0_isLatin1_aae02_0 18 rfl
abbrev z_J0_isLatin1_aae02 : List Cond := .code yJ0_isLatin1_aae02 cJ0_isLatin1_aae02 1 (some .boolean) :: zW
abbrev wl_J0_isLatin1_aae02 (ad : Nat → Nat) (cs : Nat → ClassId)   : va_W := []
def Q_J0_isLatin1_aae02 (D : va_G) (cs : Nat → ClassId) (ad : Nat → Nat)   (A : Nat → Prop) (R : Int32 × Unit) : Array Value → State → Outcome → State → Prop :=
  va_Qi (fun (r : Int32) (u : Unit) => (r, u) = R) (fun (u : Unit) (t : State) => va_P D classes (wl_J0_isLatin1_aae02 ad cs ) t.heap ∧ va_D A (wl_J0_isLatin1_aae02 ad cs )) A
abbrev rm_J0_isLatin1_aae02 : Room := { frames := 0, cells := 0, slots := 0, locals := 0 }
def B_J0_isLatin1_aae02_0     (i0 : Nat) : Option (Int32 × Unit) :=
  (some ((1 : Int32), ()))
def f_J0_isLatin1_aae02   (i0 : Nat)  : Option (Int32 × Unit) := B_J0_isLatin1_aae02_0    i0 
set_option maxHeartbeats 4000000 in
set_option maxRecDepth 100000 in
theorem L_J0_isLatin1_aae02_0 {p : Program} {l : Launch} {e : Env} {s : State} {m : MethodId} {args : Array Value} {below : List Frame} {meth : Method} {c : Code} {A : Nat → Prop} {D : va_G} {cs : Nat → ClassId} {ad : Nat → Nat} {R : Int32 × Unit} (C0 : zC p s m args meth c cJ0_isLatin1_aae02 1 (some .boolean) RJ0 zW) (hK : va_K D classes (zT cs) s) {k : (Nat → Nat) × (Nat → Nat)} (hO : zO s) (hE : zE k A s) {i0 : Nat} (hi0 : i0 < 5) (hA : ∀ q : Nat, s.heap.size ≤ q → A q)  (h : B_J0_isLatin1_aae02_0 i0 = some R) (H : Heap) (locs : List Loc) (ls : Array Slot) (hP : va_P D classes (wl_J0_isLatin1_aae02 ad cs ) H) (hD : va_D A (wl_J0_isLatin1_aae02 ad cs )) (hS : va_S A s.heap H locs) (hl : lv_has ls 1 [(0, .ref (k.1 i0))]) : W p l e rm_J0_isLatin1_aae02 s m args below meth c H locs 0 0 (MQ below (Q_J0_isLatin1_aae02 D cs ad  A R) args s 0 0 A) (F0 m 0 ls []) := by
  obtain ⟨hx, hb, hr, hml, hown, ht, hlocks⟩ := id C0
  refine va_gets (v := .int (1 : Int32)) hx hb hE.2.2.1 hS hown (ht _ kw_493) (fun _ h9 => h9) dJ0_isLatin1_aae02_0 ?_
  refine lv_if_eq (tgt := 17) hx hb dJ0_isLatin1_aae02_3 (by decide) (fun c_1 => ?_) (fun c_1 => ?_)
  · exact absurd c_1 (by decide)
  · refine lv_aload_n hx hb dJ0_isLatin1_aae02_6 rfl (lv_at hl 0 rfl) ?_
    refine vk_getf (v := .int (0 : Int32)) hx hb (hE.1.1 i0 hi0).2.1 hS hown (ht _ kw_1904) (fun _ h9 => h9) dJ0_isLatin1_aae02_7 ?_
    refine lv_if_ne (tgt := 17) hx hb dJ0_isLatin1_aae02_10 (by decide) (fun c_2 => ?_) (fun c_2 => ?_)
    · exact absurd c_2 (by decide)
    · refine lv_iconst (v := (1 : Int32)) hx hb dJ0_isLatin1_aae02_13 (by decide) ?_
      refine lv_goto (tgt := 18) hx hb dJ0_isLatin1_aae02_14 (by decide) ?_
      exact W.zret (ty := .boolean) (v := (1 : Int32)) hx hb hr rfl (fun t ht2 hW => ⟨⟨(1 : Int32), (), rfl, Option.some.inj h, by rw [ht2]; exact hP, hD⟩, hS.F ht2⟩) hS.2.2 dJ0_isLatin1_aae02_18 hlocks
set_option maxHeartbeats 4000000 in
set_option maxRecDepth 100000 in
theorem c_J0_isLatin1_aae02 (l : Launch) (D : va_G) (cs : Nat → ClassId) (ad : Nat → Nat) (k : (Nat → Nat) × (Nat → Nat)) (i0 : Nat) (hi0 : i0 < 5) (sz : Nat)   (R : Int32 × Unit) (h : f_J0_isLatin1_aae02   i0  = some R) : Met l yJ0_isLatin1_aae02 (z_J0_isLatin1_aae02) rm_J0_isLatin1_aae02 (va_Pc [.ref (k.1 i0)] (zPreE k D cs (wl_J0_isLatin1_aae02 ad cs ) sz)) (Q_J0_isLatin1_aae02 D cs ad  (va_A (wl_J0_isLatin1_aae02 ad cs ) sz) R) 0 0 (va_A (wl_J0_isLatin1_aae02 ad cs ) sz) := by
  refine Met.ofW (cc := cJ0_isLatin1_aae02) (maxL := 1) (ret := (some .boolean)) (by decide) rfl ?_
  intro p e s m args below meth c s₁ B hml hv
  obtain ⟨rfl, ⟨⟨hsz, hP, hK, hD0⟩, hO⟩, hE⟩ := hv
  subst hsz
  have hD := hD0.self (sz := s.heap.size)
  have C0 : zC p s m _ meth c cJ0_isLatin1_aae02 1 (some .boolean) RJ0 zW := ⟨B.exec, B.bytes, B.returns, hml, findClass_of_methodNamed B.named, fun w hw => atoms_spec (ws := z_J0_isLatin1_aae02) B.pre w (List.mem_cons_of_mem _ hw), B.notSynchronized⟩
  have hA : ∀ q : Nat, s.heap.size ≤ q → va_A (wl_J0_isLatin1_aae02 ad cs ) s.heap.size q := fun q h => Or.inr h
  have hl := lv_entry ([.ref (k.1 i0)]) (n := 1) (Nat.le_of_ble_eq_true rfl)
  rw [lg_entry_eq]
  generalize (lg_sl ([.ref (k.1 i0)]) ++ List.replicate (1 - (lg_sl ([.ref (k.1 i0)])).length) Slot.unset).toArray = ls at hl ⊢
  exact L_J0_isLatin1_aae02_0 C0 hK hO hE hi0 hA     h s.heap [] ls hP hD va_S.rf hl
theorem kw_85 : Cond.initialized "java/lang/String" ∈ zW := zwC (i := 11) zc_1 rfl rfl
theorem kw_489 : Cond.methodLink RJ0 335 yJ0_coder_7d493 ∈ zW := zwC (i := 175) zc_2 rfl rfl
theorem kw_490 : Cond.instanceMethod yJ0_coder_7d493 ∈ zW := zwC (i := 176) zc_2 rfl rfl
theorem kw_491 : Cond.selects RJ0 yJ0_coder_7d493 yJ0_coder_7d493 ∈ zW := zwC (i := 177) zc_2 rfl rfl
theorem kw_492 : Cond.code yJ0_coder_7d493 cJ0_coder_7d493 1 (some .byte) ∈ zW := zwC (i := 178) zc_2 rfl rfl
theorem kw_1903 : Cond.fieldLink RJ0 9 "java/lang/String" "value" "[B" ∈ zW := zwC (i := 149) zc_8 rfl rfl
theorem zh_cJ0_length_8abf5_0 : zck [42, 180, 0, 9, 190, 42, 182, 1, 79, 122, 172] (zdu 0 cJ0_length_8abf5.data.toList) = true := by decide +kernel
theorem dJ0_length_8abf5_0 : decode cJ0_length_8abf5 0 = .ok (.aload_n 0, 1) := zo_42 zh_cJ0_length_8abf5_0 0 rfl
theorem dJ0_length_8abf5_1 : decode cJ0_length_8abf5 1 = .ok (.getfield 9, 3) := zo_180 zh_cJ0_length_8abf5_0 1 rfl
theorem dJ0_length_8abf5_4 : decode cJ0_length_8abf5 4 = .ok (.arraylength, 1) := zo_190 zh_cJ0_length_8abf5_0 4 rfl
theorem dJ0_length_8abf5_5 : decode cJ0_length_8abf5 5 = .ok (.aload_n 0, 1) := zo_42 zh_cJ0_length_8abf5_0 5 rfl
theorem dJ0_length_8abf5_6 : decode cJ0_length_8abf5 6 = .ok (.invokevirtual 335, 3) := zo_182 zh_cJ0_length_8abf5_0 6 rfl
theorem dJ0_length_8abf5_9 : decode cJ0_length_8abf5 9 = .ok (.ishr, 1) := zo_122 zh_cJ0_length_8abf5_0 9 rfl
theorem dJ0_length_8abf5_10 : decode cJ0_length_8abf5 10 = .ok (.ireturn, 1) := zo_172 zh_cJ0_length_8abf5_0 10 rfl
abbrev z_J0_length_8abf5 : List Cond := .code yJ0_length_8abf5 cJ0_length_8abf5 1 (some .int) :: zW
abbrev wl_J0_length_8abf5 (ad : Nat → Nat) (cs : Nat → ClassId)   : va_W := []
def Q_J0_length_8abf5 (D : va_G) (cs : Nat → ClassId) (ad : Nat → Nat)   (A : Nat → Prop) (R : Int32 × Unit) : Array Value → State → Outcome → State → Prop :=
  va_Qi (fun (r : Int32) (u : Unit) => (r, u) = R) (fun (u : Unit) (t : State) => va_P D classes (wl_J0_length_8abf5 ad cs ) t.heap ∧ va_D A (wl_J0_length_8abf5 ad cs )) A
abbrev rm_J0_length_8abf5 : Room := { frames := 1, cells := 0, slots := 0, locals := 20 }
theorem g_J0_335 : GoodIn zW (wsV RJ0 335 RJ0 yJ0_coder_7d493 z_J0_coder_7d493) := zGV kw_489 kw_490 kw_491 kw_85 kw_492
theorem hd_J0_coder_7d493 : yJ0_coder_7d493.cls ≠ "java/lang/invoke/MethodHandle" ∧ yJ0_coder_7d493.cls ≠ "java/lang/invoke/VarHandle" ∧ (parseMethodDescriptor yJ0_coder_7d493.desc).map (fun d => d.parameters.length) = some 0 := by decide +kernel
def B_J0_length_8abf5_0     (i0 : Nat) : Option (Int32 × Unit) :=
  (zk_b2 (f_J0_coder_7d493 i0) (fun r_1 u_2 => (some ((Int32.ofNat (zLen.getD i0 0)) >>> (r_1 &&& 31), ()))))
def f_J0_length_8abf5   (i0 : Nat)  : Option (Int32 × Unit) := B_J0_length_8abf5_0    i0 
set_option maxHeartbeats 4000000 in
set_option maxRecDepth 100000 in
theorem L_J0_length_8abf5_0 {p : Program} {l : Launch} {e : Env} {s : State} {m : MethodId} {args : Array Value} {below : List Frame} {meth : Method} {c : Code} {A : Nat → Prop} {D : va_G} {cs : Nat → ClassId} {ad : Nat → Nat} {R : Int32 × Unit} (C0 : zC p s m args meth c cJ0_length_8abf5 1 (some .int) RJ0 zW) (hK : va_K D classes (zT cs) s) {k : (Nat → Nat) × (Nat → Nat)} (hO : zO s) (hE : zE k A s) {i0 : Nat} (hi0 : i0 < 5) (hA : ∀ q : Nat, s.heap.size ≤ q → A q)  (h : B_J0_length_8abf5_0 i0 = some R) (H : Heap) (locs : List Loc) (ls : Array Slot) (hP : va_P D classes (wl_J0_length_8abf5 ad cs ) H) (hD : va_D A (wl_J0_length_8abf5 ad cs )) (hS : va_S A s.heap H locs) (hl : lv_has ls 1 [(0, .ref (k.1 i0))]) : W p l e rm_J0_length_8abf5 s m args below meth c H locs 0 0 (MQ below (Q_J0_length_8abf5 D cs ad  A R) args s 0 0 A) (F0 m 0 ls []) := by
  obtain ⟨hx, hb, hr, hml, hown, ht, hlocks⟩ := id C0
  refine lv_aload_n hx hb dJ0_length_8abf5_0 rfl (lv_at hl 0 rfl) ?_
  refine vk_getf (v := .ref (k.2 i0)) hx hb (hE.1.1 i0 hi0).2.2.1 hS hown (ht _ kw_1903) (fun _ h9 => h9) dJ0_length_8abf5_1 ?_
  refine va_tlen (v := Int32.ofNat (zLen.getD i0 0)) hx hb (hE.1.1 i0 hi0).2.2.2 hS rfl dJ0_length_8abf5_4 ?_
  refine lv_aload_n hx hb dJ0_length_8abf5_5 rfl (lv_at hl 0 rfl) ?_
  obtain ⟨r_1, u_2, hc_3, h⟩ := zk_o2 h
  refine zk_viE (post := (fun r u => (r, u) = (r_1, u_2))) (w1 := fun u => (wl_J0_coder_7d493 ad cs )) (As := []) (rest := [.int (Int32.ofNat (zLen.getD i0 0))]) hE hO (c_J0_coder_7d493 l D cs ad k i0 hi0 H.size  (r_1, u_2) hc_3) ⟨hx, hb, hml, hown, ht⟩ (cwV 0 ht g_J0_335 rfl rfl rfl ⟨rfl, hd_J0_coder_7d493⟩ ⟨Nat.le_of_ble_eq_true rfl, Nat.le_of_ble_eq_true rfl⟩) (vk_recv hE.1 hi0 hS) hP hD hS hK hA [] [] rfl rfl rfl rfl (by decide) rfl hl.1 (Nat.le_of_ble_eq_true rfl) dJ0_length_8abf5_6 ⟨Nat.zero_le _, Nat.zero_le _⟩ (fun r u H locs hq hP hD hS => ?_)
  cases hq
  have hP : va_P D classes (wl_J0_length_8abf5 ad cs ) H := hP.sub [] rfl
  have hD : va_D A (wl_J0_length_8abf5 ad cs ) := hD.sub [] rfl rfl
  refine lv_ishr hx hb dJ0_length_8abf5_9 ?_
  exact W.iret (v := (Int32.ofNat (zLen.getD i0 0)) >>> (r_1 &&& 31)) hx hb hr (fun t ht2 hW => ⟨⟨(Int32.ofNat (zLen.getD i0 0)) >>> (r_1 &&& 31), (), rfl, Option.some.inj h, by rw [ht2]; exact hP, hD⟩, hS.F ht2⟩) hS.2.2 dJ0_length_8abf5_10 hlocks
set_option maxHeartbeats 4000000 in
set_option maxRecDepth 100000 in
theorem c_J0_length_8abf5 (l : Launch) (D : va_G) (cs : Nat → ClassId) (ad : Nat → Nat) (k : (Nat → Nat) × (Nat → Nat)) (i0 : Nat) (hi0 : i0 < 5) (sz : Nat)   (R : Int32 × Unit) (h : f_J0_length_8abf5   i0  = some R) : Met l yJ0_length_8abf5 (z_J0_length_8abf5) rm_J0_length_8abf5 (va_Pc [.ref (k.1 i0)] (zPreE k D cs (wl_J0_length_8abf5 ad cs ) sz)) (Q_J0_length_8abf5 D cs ad  (va_A (wl_J0_length_8abf5 ad cs ) sz) R) 0 0 (va_A (wl_J0_length_8abf5 ad cs ) sz) := by
  refine Met.ofW (cc := cJ0_length_8abf5) (maxL := 1) (ret := (some .int)) (by decide) rfl ?_
  intro p e s m args below meth c s₁ B hml hv
  obtain ⟨rfl, ⟨⟨hsz, hP, hK, hD0⟩, hO⟩, hE⟩ := hv
  subst hsz
  have hD := hD0.self (sz := s.heap.size)
  have C0 : zC p s m _ meth c cJ0_length_8abf5 1 (some .int) RJ0 zW := ⟨B.exec, B.bytes, B.returns, hml, findClass_of_methodNamed B.named, fun w hw => atoms_spec (ws := z_J0_length_8abf5) B.pre w (List.mem_cons_of_mem _ hw), B.notSynchronized⟩
  have hA : ∀ q : Nat, s.heap.size ≤ q → va_A (wl_J0_length_8abf5 ad cs ) s.heap.size q := fun q h => Or.inr h
  have hl := lv_entry ([.ref (k.1 i0)]) (n := 1) (Nat.le_of_ble_eq_true rfl)
  rw [lg_entry_eq]
  generalize (lg_sl ([.ref (k.1 i0)]) ++ List.replicate (1 - (lg_sl ([.ref (k.1 i0)])).length) Slot.unset).toArray = ls at hl ⊢
  exact L_J0_length_8abf5_0 C0 hK hO hE hi0 hA     h s.heap [] ls hP hD va_S.rf hl
theorem kw_506 : Cond.methodLink RJ1 9 yJ0_checkIndex_df160 ∈ zW := zwC (i := 192) zc_2 rfl rfl
theorem kw_507 : Cond.static yJ0_checkIndex_df160 ∈ zW := zwC (i := 193) zc_2 rfl rfl
theorem kw_508 : Cond.code yJ0_checkIndex_df160 cJ0_checkIndex_df160 2 none ∈ zW := zwC (i := 194) zc_2 rfl rfl
theorem zh_cJ1_charAt_3b067_0 : zck [27, 42, 190, 184, 0, 9, 42, 27, 51, 17, 0, 255, 126, 146, 172] (zdu 0 cJ1_charAt_3b067.data.toList) = true := by decide +kernel
theorem dJ1_charAt_3b067_0 : decode cJ1_charAt_3b067 0 = .ok (.iload_n 1, 1) := zo_27 zh_cJ1_charAt_3b067_0 0 rfl
theorem dJ1_charAt_3b067_1 : decode cJ1_charAt_3b067 1 = .ok (.aload_n 0, 1) := zo_42 zh_cJ1_charAt_3b067_0 1 rfl
theorem dJ1_charAt_3b067_2 : decode cJ1_charAt_3b067 2 = .ok (.arraylength, 1) := zo_190 zh_cJ1_charAt_3b067_0 2 rfl
theorem dJ1_charAt_3b067_3 : decode cJ1_charAt_3b067 3 = .ok (.invokestatic 9, 3) := zo_184 zh_cJ1_charAt_3b067_0 3 rfl
theorem dJ1_charAt_3b067_6 : decode cJ1_charAt_3b067 6 = .ok (.aload_n 0, 1) := zo_42 zh_cJ1_charAt_3b067_0 6 rfl
theorem dJ1_charAt_3b067_7 : decode cJ1_charAt_3b067 7 = .ok (.iload_n 1, 1) := zo_27 zh_cJ1_charAt_3b067_0 7 rfl
theorem dJ1_charAt_3b067_8 : decode cJ1_charAt_3b067 8 = .ok (.baload, 1) := zo_51 zh_cJ1_charAt_3b067_0 8 rfl
theorem dJ1_charAt_3b067_9 : decode cJ1_charAt_3b067 9 = .ok (.sipush 255, 3) := zo_p17 zh_cJ1_charAt_3b067_0 9 255 rfl rfl
theorem dJ1_charAt_3b067_12 : decode cJ1_charAt_3b067 12 = .ok (.iand, 1) := zo_126 zh_cJ1_charAt_3b067_0 12 rfl
theorem zo_146 {c : ByteArray} {s : Nat} {K : List Nat} (h : zck K (zdu s c.data.toList) = true) (k : Nat) (hk : zt1 K k 146 = true) : decode c (s + k) = .ok (.i2c, 1) := zde ((zbd (zu1 (zh1 h hk))).trans rfl)
theorem dJ1_charAt_3b067_13 : decode cJ1_charAt_3b067 13 = .ok (.i2c, 1) := zo_146 zh_cJ1_charAt_3b067_0 13 rfl
theorem dJ1_charAt_3b067_14 : decode cJ1_charAt_3b067 14 = .ok (.ireturn, 1) := zo_172 zh_cJ1_charAt_3b067_0 14 rfl
abbrev z_J1_charAt_3b067 : List Cond := .code yJ1_charAt_3b067 cJ1_charAt_3b067 2 (some .char) :: zW
abbrev wl_J1_charAt_3b067 (ad : Nat → Nat) (cs : Nat → ClassId)   : va_W := []
def Q_J1_charAt_3b067 (D : va_G) (cs : Nat → ClassId) (ad : Nat → Nat)   (A : Nat → Prop) (R : Int32 × Unit) : Array Value → State → Outcome → State → Prop :=
  va_Qi (fun (r : Int32) (u : Unit) => (r, u) = R) (fun (u : Unit) (t : State) => va_P D classes (wl_J1_charAt_3b067 ad cs ) t.heap ∧ va_D A (wl_J1_charAt_3b067 ad cs )) A
abbrev rm_J1_charAt_3b067 : Room := { frames := 2, cells := 0, slots := 0, locals := 43 }
theorem g_J1_9 : GoodIn zW (va_wsS RJ1 9 yJ0_checkIndex_df160 z_J0_checkIndex_df160) := zGS kw_506 kw_507 kw_85 kw_508
def B_J1_charAt_3b067_0     (i0 : Nat) (x1 : Int32) : Option (Int32 × Unit) :=
  (if (x1 < 0 ∨ (Int32.ofNat (zLen.getD i0 0)) ≤ x1) then none else (if (x1 < 0 ∨ (zLen.getD i0 0) ≤ x1.toNatClampNeg) then none else (if ¬ (narrow .char (.int (((((zByt.getD i0 []).getD x1.toNatClampNeg 0) &&& (255 : Int32)).toUInt32 % 65536).toInt32)) = .int (((((zByt.getD i0 []).getD x1.toNatClampNeg 0) &&& (255 : Int32)).toUInt32 % 65536).toInt32)) then none else (some (((((zByt.getD i0 []).getD x1.toNatClampNeg 0) &&& (255 : Int32)).toUInt32 % 65536).toInt32, ())))))
def f_J1_charAt_3b067   (i0 : Nat) (x1 : Int32)  : Option (Int32 × Unit) := B_J1_charAt_3b067_0    i0 x1 
set_option maxHeartbeats 4000000 in
set_option maxRecDepth 100000 in
theorem L_J1_charAt_3b067_0 {p : Program} {l : Launch} {e : Env} {s : State} {m : MethodId} {args : Array Value} {below : List Frame} {meth : Method} {c : Code} {A : Nat → Prop} {D : va_G} {cs : Nat → ClassId} {ad : Nat → Nat} {R : Int32 × Unit} (C0 : zC p s m args meth c cJ1_charAt_3b067 2 (some .char) RJ1 zW) (hK : va_K D classes (zT cs) s) {k : (Nat → Nat) × (Nat → Nat)} (hO : zO s) (hE : zE k A s) {i0 : Nat} (hi0 : i0 < 5) (hA : ∀ q : Nat, s.heap.size ≤ q → A q) (x1 : Int32) (h : B_J1_charAt_3b067_0 i0 x1 = some R) (H : Heap) (locs : List Loc) (ls : Array Slot) (hP : va_P D classes (wl_J1_charAt_3b067 ad cs ) H) (hD : va_D A (wl_J1_charAt_3b067 ad cs )) (hS : va_S A s.heap H locs) (hl : lv_has ls 2 [(0, .ref (k.2 i0)), (1, .int x1)]) : W p l e rm_J1_charAt_3b067 s m args below meth c H locs 0 0 (MQ below (Q_J1_charAt_3b067 D cs ad  A R) args s 0 0 A) (F0 m 0 ls []) := by
  obtain ⟨hx, hb, hr, hml, hown, ht, hlocks⟩ := id C0
  refine lv_iload_n hx hb dJ1_charAt_3b067_0 rfl (lv_at hl 1 rfl) ?_
  refine lv_aload_n hx hb dJ1_charAt_3b067_1 rfl (lv_at hl 0 rfl) ?_
  refine va_tlen (v := Int32.ofNat (zLen.getD i0 0)) hx hb (hE.1.1 i0 hi0).2.2.2 hS rfl dJ1_charAt_3b067_2 ?_
  obtain ⟨g_1, h⟩ := zk_gd h
  refine zk_svE (post := fun _ => True) (w1 := fun _ => []) (As := [.int x1, .int (Int32.ofNat (zLen.getD i0 0))]) (rest := []) hE hO (cx_checkIndex2 l D cs k H.size x1 (Int32.ofNat (zLen.getD i0 0)) (fun z => g_1 (Or.inl z)) (by have := fun z => g_1 (Or.inr z); exact Int32.not_le.mp this)) ⟨hx, hb, hml, hown, ht⟩ (va_cwS 2 ht g_J1_9 rfl rfl rfl (by decide +kernel) ⟨Nat.le_of_ble_eq_true rfl, Nat.le_of_ble_eq_true rfl⟩) hP hD hS hK hA [] [] rfl rfl rfl rfl (by decide) rfl hl.1 (Nat.le_of_ble_eq_true rfl) dJ1_charAt_3b067_3 ⟨Nat.zero_le _, Nat.zero_le _⟩ (fun u H locs hq hP hD hS => ?_)
  have hP : va_P D classes (wl_J1_charAt_3b067 ad cs ) H := hP.sub [] rfl
  have hD : va_D A (wl_J1_charAt_3b067 ad cs ) := hD.sub [] rfl rfl
  refine lv_aload_n hx hb dJ1_charAt_3b067_6 rfl (lv_at hl 0 rfl) ?_
  refine lv_iload_n hx hb dJ1_charAt_3b067_7 rfl (lv_at hl 1 rfl) ?_
  obtain ⟨g_3, h⟩ := zk_gd h
  refine va_tb (v := .int ((zByt.getD i0 []).getD x1.toNatClampNeg 0)) hx hb (hE.1.1 i0 hi0).2.2.2 hS g_3 rfl dJ1_charAt_3b067_8 ?_
  refine lv_sipush (v := (255 : Int32)) hx hb dJ1_charAt_3b067_9 (by decide) ?_
  refine lv_iand hx hb dJ1_charAt_3b067_12 ?_
  refine lv_i2c (v := ((((zByt.getD i0 []).getD x1.toNatClampNeg 0) &&& (255 : Int32)).toUInt32 % 65536).toInt32) hx hb dJ1_charAt_3b067_13 rfl ?_
  obtain ⟨g_4, h⟩ := zk_gd h
  exact W.zret (ty := .char) (v := ((((zByt.getD i0 []).getD x1.toNatClampNeg 0) &&& (255 : Int32)).toUInt32 % 65536).toInt32) hx hb hr (zk_nc g_4) (fun t ht2 hW => ⟨⟨((((zByt.getD i0 []).getD x1.toNatClampNeg 0) &&& (255 : Int32)).toUInt32 % 65536).toInt32, (), rfl, Option.some.inj h, by rw [ht2]; exact hP, hD⟩, hS.F ht2⟩) hS.2.2 dJ1_charAt_3b067_14 hlocks
set_option maxHeartbeats 4000000 in
set_option maxRecDepth 100000 in
theorem c_J1_charAt_3b067 (l : Launch) (D : va_G) (cs : Nat → ClassId) (ad : Nat → Nat) (k : (Nat → Nat) × (Nat → Nat)) (i0 : Nat) (hi0 : i0 < 5) (sz : Nat) (x1 : Int32)  (R : Int32 × Unit) (h : f_J1_charAt_3b067   i0 x1  = some R) : Met l yJ1_charAt_3b067 (z_J1_charAt_3b067) rm_J1_charAt_3b067 (va_Pc [.ref (k.2 i0), .int x1] (zPreE k D cs (wl_J1_charAt_3b067 ad cs ) sz)) (Q_J1_charAt_3b067 D cs ad  (va_A (wl_J1_charAt_3b067 ad cs ) sz) R) 0 0 (va_A (wl_J1_charAt_3b067 ad cs ) sz) := by
  refine Met.ofW (cc := cJ1_charAt_3b067) (maxL := 2) (ret := (some .char)) (by decide) rfl ?_
  intro p e s m args below meth c s₁ B hml hv
  obtain ⟨rfl, ⟨⟨hsz, hP, hK, hD0⟩, hO⟩, hE⟩ := hv
  subst hsz
  have hD := hD0.self (sz := s.heap.size)
  have C0 : zC p s m _ meth c cJ1_charAt_3b067 2 (some .char) RJ1 zW := ⟨B.exec, B.bytes, B.returns, hml, findClass_of_methodNamed B.named, fun w hw => atoms_spec (ws := z_J1_charAt_3b067) B.pre w (List.mem_cons_of_mem _ hw), B.notSynchronized⟩
  have hA : ∀ q : Nat, s.heap.size ≤ q → va_A (wl_J1_charAt_3b067 ad cs ) s.heap.size q := fun q h => Or.inr h
  have hl := lv_entry ([.ref (k.2 i0), .int x1]) (n := 2) (Nat.le_of_ble_eq_true rfl)
  rw [lg_entry_eq]
  generalize (lg_sl ([.ref (k.2 i0), .int x1]) ++ List.replicate (2 - (lg_sl ([.ref (k.2 i0), .int x1])).length) Slot.unset).toArray = ls at hl ⊢
  exact L_J1_charAt_3b067_0 C0 hK hO hE hi0 hA   x1  h s.heap [] ls hP hD va_S.rf hl
theorem kw_86 : Cond.initialized RJ1 ∈ zW := zwC (i := 12) zc_1 rfl rfl
theorem kw_499 : Cond.methodLink RJ0 492 yJ0_isLatin1_aae02 ∈ zW := zwC (i := 185) zc_2 rfl rfl
theorem kw_500 : Cond.instanceMethod yJ0_isLatin1_aae02 ∈ zW := zwC (i := 186) zc_2 rfl rfl
theorem kw_501 : Cond.selects RJ0 yJ0_isLatin1_aae02 yJ0_isLatin1_aae02 ∈ zW := zwC (i := 187) zc_2 rfl rfl
theorem kw_502 : Cond.code yJ0_isLatin1_aae02 cJ0_isLatin1_aae02 1 (some .boolean) ∈ zW := zwC (i := 188) zc_2 rfl rfl
theorem kw_503 : Cond.methodLink RJ0 495 yJ1_charAt_3b067 ∈ zW := zwC (i := 189) zc_2 rfl rfl
theorem kw_504 : Cond.static yJ1_charAt_3b067 ∈ zW := zwC (i := 190) zc_2 rfl rfl
theorem kw_505 : Cond.code yJ1_charAt_3b067 cJ1_charAt_3b067 2 (some .char) ∈ zW := zwC (i := 191) zc_2 rfl rfl
theorem zh_cJ0_charAt_5068e_0 : zck [42, 182, 1, 236, 153, 0, 12, 42, 180, 0, 9, 27, 184, 1, 239, 172, 42, 180, 0, 9, 27, 184] (zdu 0 cJ0_charAt_5068e.data.toList) = true := by decide +kernel
theorem dJ0_charAt_5068e_0 : decode cJ0_charAt_5068e 0 = .ok (.aload_n 0, 1) := zo_42 zh_cJ0_charAt_5068e_0 0 rfl
theorem dJ0_charAt_5068e_1 : decode cJ0_charAt_5068e 1 = .ok (.invokevirtual 492, 3) := zo_182 zh_cJ0_charAt_5068e_0 1 rfl
theorem dJ0_charAt_5068e_4 : decode cJ0_charAt_5068e 4 = .ok (.ifCond .eq 12, 3) := zo_p153 zh_cJ0_charAt_5068e_0 4 12 rfl rfl
theorem dJ0_charAt_5068e_7 : decode cJ0_charAt_5068e 7 = .ok (.aload_n 0, 1) := zo_42 zh_cJ0_charAt_5068e_0 7 rfl
theorem dJ0_charAt_5068e_8 : decode cJ0_charAt_5068e 8 = .ok (.getfield 9, 3) := zo_180 zh_cJ0_charAt_5068e_0 8 rfl
theorem dJ0_charAt_5068e_11 : decode cJ0_charAt_5068e 11 = .ok (.iload_n 1, 1) := zo_27 zh_cJ0_charAt_5068e_0 11 rfl
theorem dJ0_charAt_5068e_12 : decode cJ0_charAt_5068e 12 = .ok (.invokestatic 495, 3) := zo_184 zh_cJ0_charAt_5068e_0 12 rfl
theorem dJ0_charAt_5068e_15 : decode cJ0_charAt_5068e 15 = .ok (.ireturn, 1) := zo_172 zh_cJ0_charAt_5068e_0 15 rfl
theorem dJ0_charAt_5068e_16 : decode cJ0_charAt_5068e 16 = .ok (.aload_n 0, 1) := zo_42 zh_cJ0_charAt_5068e_0 16 rfl
theorem dJ0_charAt_5068e_17 : decode cJ0_charAt_5068e 17 = .ok (.getfield 9, 3) := zo_180 zh_cJ0_charAt_5068e_0 17 rfl
theorem zh_cJ0_charAt_5068e_1 : zck [27, 184, 1, 242, 172] (zdu 20 cJ0_charAt_5068e.data.toList) = true := by decide +kernel
theorem dJ0_charAt_5068e_20 : decode cJ0_charAt_5068e 20 = .ok (.iload_n 1, 1) := zo_27 zh_cJ0_charAt_5068e_1 0 rfl
abbrev z_J0_charAt_5068e : List Cond := .code yJ0_charAt_5068e cJ0_charAt_5068e 2 (some .char) :: zW
abbrev wl_J0_charAt_5068e (ad : Nat → Nat) (cs : Nat → ClassId)   : va_W := []
def Q_J0_charAt_5068e (D : va_G) (cs : Nat → ClassId) (ad : Nat → Nat)   (A : Nat → Prop) (R : Int32 × Unit) : Array Value → State → Outcome → State → Prop :=
  va_Qi (fun (r : Int32) (u : Unit) => (r, u) = R) (fun (u : Unit) (t : State) => va_P D classes (wl_J0_charAt_5068e ad cs ) t.heap ∧ va_D A (wl_J0_charAt_5068e ad cs )) A
abbrev rm_J0_charAt_5068e : Room := { frames := 3, cells := 0, slots := 0, locals := 64 }
theorem g_J0_492 : GoodIn zW (wsV RJ0 492 RJ0 yJ0_isLatin1_aae02 z_J0_isLatin1_aae02) := zGV kw_499 kw_500 kw_501 kw_85 kw_502
theorem g_J0_495 : GoodIn zW (va_wsS RJ0 495 yJ1_charAt_3b067 z_J1_charAt_3b067) := zGS kw_503 kw_504 kw_86 kw_505
theorem hd_J0_isLatin1_aae02 : yJ0_isLatin1_aae02.cls ≠ "java/lang/invoke/MethodHandle" ∧ yJ0_isLatin1_aae02.cls ≠ "java/lang/invoke/VarHandle" ∧ (parseMethodDescriptor yJ0_isLatin1_aae02.desc).map (fun d => d.parameters.length) = some 0 := by decide +kernel
theorem hd_J1_charAt_3b067 : yJ1_charAt_3b067.cls ≠ "java/lang/invoke/MethodHandle" ∧ yJ1_charAt_3b067.cls ≠ "java/lang/invoke/VarHandle" ∧ (parseMethodDescriptor yJ1_charAt_3b067.desc).map (fun d => d.parameters.length) = some 2 := by decide +kernel
def B_J0_charAt_5068e_0     (i0 : Nat) (x1 : Int32) : Option (Int32 × Unit) :=
  (zk_b2 (f_J0_isLatin1_aae02 i0) (fun r_1 u_2 => (if r_1 = 0 then none else (zk_b2 (f_J1_charAt_3b067 i0 x1) (fun r_5 u_6 => (if ¬ (narrow .char (.int r_5) = .int r_5) then none else (some (r_5, ()))))))))
def f_J0_charAt_5068e   (i0 : Nat) (x1 : Int32)  : Option (Int32 × Unit) := B_J0_charAt_5068e_0    i0 x1 
set_option maxHeartbeats 4000000 in
set_option maxRecDepth 100000 in
theorem L_J0_charAt_5068e_0 {p : Program} {l : Launch} {e : Env} {s : State} {m : MethodId} {args : Array Value} {below : List Frame} {meth : Method} {c : Code} {A : Nat → Prop} {D : va_G} {cs : Nat → ClassId} {ad : Nat → Nat} {R : Int32 × Unit} (C0 : zC p s m args meth c cJ0_charAt_5068e 2 (some .char) RJ0 zW) (hK : va_K D classes (zT cs) s) {k : (Nat → Nat) × (Nat → Nat)} (hO : zO s) (hE : zE k A s) {i0 : Nat} (hi0 : i0 < 5) (hA : ∀ q : Nat, s.heap.size ≤ q → A q) (x1 : Int32) (h : B_J0_charAt_5068e_0 i0 x1 = some R) (H : Heap) (locs : List Loc) (ls : Array Slot) (hP : va_P D classes (wl_J0_charAt_5068e ad cs ) H) (hD : va_D A (wl_J0_charAt_5068e ad cs )) (hS : va_S A s.heap H locs) (hl : lv_has ls 2 [(0, .ref (k.1 i0)), (1, .int x1)]) : W p l e rm_J0_charAt_5068e s m args below meth c H locs 0 0 (MQ below (Q_J0_charAt_5068e D cs ad  A R) args s 0 0 A) (F0 m 0 ls []) := by
  obtain ⟨hx, hb, hr, hml, hown, ht, hlocks⟩ := id C0
  refine lv_aload_n hx hb dJ0_charAt_5068e_0 rfl (lv_at hl 0 rfl) ?_
  obtain ⟨r_1, u_2, hc_3, h⟩ := zk_o2 h
  refine zk_viE (post := (fun r u => (r, u) = (r_1, u_2))) (w1 := fun u => (wl_J0_isLatin1_aae02 ad cs )) (As := []) (rest := []) hE hO (c_J0_isLatin1_aae02 l D cs ad k i0 hi0 H.size  (r_1, u_2) hc_3) ⟨hx, hb, hml, hown, ht⟩ (cwV 0 ht g_J0_492 rfl rfl rfl ⟨rfl, hd_J0_isLatin1_aae02⟩ ⟨Nat.le_of_ble_eq_true rfl, Nat.le_of_ble_eq_true rfl⟩) (vk_recv hE.1 hi0 hS) hP hD hS hK hA [] [] rfl rfl rfl rfl (by decide) rfl hl.1 (Nat.le_of_ble_eq_true rfl) dJ0_charAt_5068e_1 ⟨Nat.zero_le _, Nat.zero_le _⟩ (fun r u H locs hq hP hD hS => ?_)
  cases hq
  have hP : va_P D classes (wl_J0_charAt_5068e ad cs ) H := hP.sub [] rfl
  have hD : va_D A (wl_J0_charAt_5068e ad cs ) := hD.sub [] rfl rfl
  refine lv_if_eq (tgt := 16) hx hb dJ0_charAt_5068e_4 (by decide) (fun c_4 => ?_) (fun c_4 => ?_)
  · have h := zk_t c_4 h
    refine lv_aload_n hx hb dJ0_charAt_5068e_16 rfl (lv_at hl 0 rfl) ?_
    refine vk_getf (v := .ref (k.2 i0)) hx hb (hE.1.1 i0 hi0).2.2.1 hS hown (ht _ kw_1903) (fun _ h9 => h9) dJ0_charAt_5068e_17 ?_
    refine lv_iload_n hx hb dJ0_charAt_5068e_20 rfl (lv_at hl 1 rfl) ?_
    cases h
  · have h := zk_f c_4 h
    refine lv_aload_n hx hb dJ0_charAt_5068e_7 rfl (lv_at hl 0 rfl) ?_
    refine vk_getf (v := .ref (k.2 i0)) hx hb (hE.1.1 i0 hi0).2.2.1 hS hown (ht _ kw_1903) (fun _ h9 => h9) dJ0_charAt_5068e_8 ?_
    refine lv_iload_n hx hb dJ0_charAt_5068e_11 rfl (lv_at hl 1 rfl) ?_
    obtain ⟨r_5, u_6, hc_7, h⟩ := zk_o2 h
    refine zk_siE (post := (fun r u => (r, u) = (r_5, u_6))) (w1 := fun u => (wl_J1_charAt_3b067 ad cs )) (As := [.ref (k.2 i0), .int x1]) (rest := []) hE hO (c_J1_charAt_3b067 l D cs ad k i0 hi0 H.size x1 (r_5, u_6) hc_7) ⟨hx, hb, hml, hown, ht⟩ (va_cwS 2 ht g_J0_495 rfl rfl rfl hd_J1_charAt_3b067 ⟨Nat.le_of_ble_eq_true rfl, Nat.le_of_ble_eq_true rfl⟩) hP hD hS hK hA [] [] rfl rfl rfl rfl (by decide) rfl hl.1 (Nat.le_of_ble_eq_true rfl) dJ0_charAt_5068e_12 ⟨Nat.zero_le _, Nat.zero_le _⟩ (fun r u H locs hq hP hD hS => ?_)
    cases hq
    have hP : va_P D classes (wl_J0_charAt_5068e ad cs ) H := hP.sub [] rfl
    have hD : va_D A (wl_J0_charAt_5068e ad cs ) := hD.sub [] rfl rfl
    obtain ⟨g_8, h⟩ := zk_gd h
    exact W.zret (ty := .char) (v := r_5) hx hb hr (zk_nc g_8) (fun t ht2 hW => ⟨⟨r_5, (), rfl, Option.some.inj h, by rw [ht2]; exact hP, hD⟩, hS.F ht2⟩) hS.2.2 dJ0_charAt_5068e_15 hlocks
set_option maxHeartbeats 4000000 in
set_option maxRecDepth 100000 in
theorem c_J0_charAt_5068e (l : Launch) (D : va_G) (cs : Nat → ClassId) (ad : Nat → Nat) (k : (Nat → Nat) × (Nat → Nat)) (i0 : Nat) (hi0 : i0 < 5) (sz : Nat) (x1 : Int32)  (R : Int32 × Unit) (h : f_J0_charAt_5068e   i0 x1  = some R) : Met l yJ0_charAt_5068e (z_J0_charAt_5068e) rm_J0_charAt_5068e (va_Pc [.ref (k.1 i0), .int x1] (zPreE k D cs (wl_J0_charAt_5068e ad cs ) sz)) (Q_J0_charAt_5068e D cs ad  (va_A (wl_J0_charAt_5068e ad cs ) sz) R) 0 0 (va_A (wl_J0_charAt_5068e ad cs ) sz) := by
  refine Met.ofW (cc := cJ0_charAt_5068e) (maxL := 2) (ret := (some .char)) (by decide) rfl ?_
  intro p e s m args below meth c s₁ B hml hv
  obtain ⟨rfl, ⟨⟨hsz, hP, hK, hD0⟩, hO⟩, hE⟩ := hv
  subst hsz
  have hD := hD0.self (sz := s.heap.size)
  have C0 : zC p s m _ meth c cJ0_charAt_5068e 2 (some .char) RJ0 zW := ⟨B.exec, B.bytes, B.returns, hml, findClass_of_methodNamed B.named, fun w hw => atoms_spec (ws := z_J0_charAt_5068e) B.pre w (List.mem_cons_of_mem _ hw), B.notSynchronized⟩
  have hA : ∀ q : Nat, s.heap.size ≤ q → va_A (wl_J0_charAt_5068e ad cs ) s.heap.size q := fun q h => Or.inr h
  have hl := lv_entry ([.ref (k.1 i0), .int x1]) (n := 2) (Nat.le_of_ble_eq_true rfl)
  rw [lg_entry_eq]
  generalize (lg_sl ([.ref (k.1 i0), .int x1]) ++ List.replicate (2 - (lg_sl ([.ref (k.1 i0), .int x1])).length) Slot.unset).toArray = ls at hl ⊢
  exact L_J0_charAt_5068e_0 C0 hK hO hE hi0 hA   x1  h s.heap [] ls hP hD va_S.rf hl
theorem zh_cJ1_canEncode_9a6ad_0 : zck [26, 155, 0, 14, 26, 17, 0, 255, 163, 0, 7, 4, 167, 0, 4, 3, 172] (zdu 0 cJ1_canEncode_9a6ad.data.toList) = true := by decide +kernel
theorem dJ1_canEncode_9a6ad_0 : decode cJ1_canEncode_9a6ad 0 = .ok (.iload_n 0, 1) := zo_26 zh_cJ1_canEncode_9a6ad_0 0 rfl
theorem dJ1_canEncode_9a6ad_1 : decode cJ1_canEncode_9a6ad 1 = .ok (.ifCond .lt 14, 3) := zo_p155 zh_cJ1_canEncode_9a6ad_0 1 14 rfl rfl
theorem dJ1_canEncode_9a6ad_4 : decode cJ1_canEncode_9a6ad 4 = .ok (.iload_n 0, 1) := zo_26 zh_cJ1_canEncode_9a6ad_0 4 rfl
theorem dJ1_canEncode_9a6ad_5 : decode cJ1_canEncode_9a6ad 5 = .ok (.sipush 255, 3) := zo_p17 zh_cJ1_canEncode_9a6ad_0 5 255 rfl rfl
theorem dJ1_canEncode_9a6ad_8 : decode cJ1_canEncode_9a6ad 8 = .ok (.if_icmp .gt 7, 3) := zo_p163 zh_cJ1_canEncode_9a6ad_0 8 7 rfl rfl
theorem dJ1_canEncode_9a6ad_11 : decode cJ1_canEncode_9a6ad 11 = .ok (.iconst 1, 1) := zo_4 zh_cJ1_canEncode_9a6ad_0 11 rfl
theorem dJ1_canEncode_9a6ad_12 : decode cJ1_canEncode_9a6ad 12 = .ok (.goto 4, 3) := zo_p167 zh_cJ1_canEncode_9a6ad_0 12 4 rfl rfl
theorem dJ1_canEncode_9a6ad_15 : decode cJ1_canEncode_9a6ad 15 = .ok (.iconst 0, 1) := zo_3 zh_cJ1_canEncode_9a6ad_0 15 rfl
theorem dJ1_canEncode_9a6ad_16 : decode cJ1_canEncode_9a6ad 16 = .ok (.ireturn, 1) := zo_172 zh_cJ1_canEncode_9a6ad_0 16 rfl
abbrev z_J1_canEncode_9a6ad : List Cond := .code yJ1_canEncode_9a6ad cJ1_canEncode_9a6ad 1 (some .boolean) :: zW
abbrev wl_J1_canEncode_9a6ad (ad : Nat → Nat) (cs : Nat → ClassId)   : va_W := []
def Q_J1_canEncode_9a6ad (D : va_G) (cs : Nat → ClassId) (ad : Nat → Nat)   (A : Nat → Prop) (R : Int32 × Unit) : Array Value → State → Outcome → State → Prop :=
  va_Qi (fun (r : Int32) (u : Unit) => (r, u) = R) (fun (u : Unit) (t : State) => va_P D classes (wl_J1_canEncode_9a6ad ad cs ) t.heap ∧ va_D A (wl_J1_canEncode_9a6ad ad cs )) A
abbrev rm_J1_canEncode_9a6ad : Room := { frames := 0, cells := 0, slots := 0, locals := 0 }
def B_J1_canEncode_9a6ad_0     (x0 : Int32) : Option (Int32 × Unit) :=
  (if x0 < 0 then (some ((0 : Int32), ())) else (if (255 : Int32) < x0 then (some ((0 : Int32), ())) else (some ((1 : Int32), ()))))
def f_J1_canEncode_9a6ad   (x0 : Int32)  : Option (Int32 × Unit) := B_J1_canEncode_9a6ad_0    x0 
set_option maxHeartbeats 4000000 in
set_option maxRecDepth 100000 in
theorem L_J1_canEncode_9a6ad_0 {p : Program} {l : Launch} {e : Env} {s : State} {m : MethodId} {args : Array Value} {below : List Frame} {meth : Method} {c : Code} {A : Nat → Prop} {D : va_G} {cs : Nat → ClassId} {ad : Nat → Nat} {R : Int32 × Unit} (C0 : zC p s m args meth c cJ1_canEncode_9a6ad 1 (some .boolean) RJ1 zW) (hK : va_K D classes (zT cs) s) (hA : ∀ q : Nat, s.heap.size ≤ q → A q) (x0 : Int32) (h : B_J1_canEncode_9a6ad_0 x0 = some R) (H : Heap) (locs : List Loc) (ls : Array Slot) (hP : va_P D classes (wl_J1_canEncode_9a6ad ad cs ) H) (hD : va_D A (wl_J1_canEncode_9a6ad ad cs )) (hS : va_S A s.heap H locs) (hl : lv_has ls 1 [(0, .int x0)]) : W p l e rm_J1_canEncode_9a6ad s m args below meth c H locs 0 0 (MQ below (Q_J1_canEncode_9a6ad D cs ad  A R) args s 0 0 A) (F0 m 0 ls []) := by
  obtain ⟨hx, hb, hr, hml, hown, ht, hlocks⟩ := id C0
  refine lv_iload_n hx hb dJ1_canEncode_9a6ad_0 rfl (lv_at hl 0 rfl) ?_
  refine lv_if_lt (tgt := 15) hx hb dJ1_canEncode_9a6ad_1 (by decide) (fun c_1 => ?_) (fun c_1 => ?_)
  · have h := zk_t c_1 h
    refine lv_iconst (v := (0 : Int32)) hx hb dJ1_canEncode_9a6ad_15 (by decide) ?_
    exact W.zret (ty := .boolean) (v := (0 : Int32)) hx hb hr rfl (fun t ht2 hW => ⟨⟨(0 : Int32), (), rfl, Option.some.inj h, by rw [ht2]; exact hP, hD⟩, hS.F ht2⟩) hS.2.2 dJ1_canEncode_9a6ad_16 hlocks
  · have h := zk_f c_1 h
    refine lv_iload_n hx hb dJ1_canEncode_9a6ad_4 rfl (lv_at hl 0 rfl) ?_
    refine lv_sipush (v := (255 : Int32)) hx hb dJ1_canEncode_9a6ad_5 (by decide) ?_
    refine lv_icmp_gt (tgt := 15) hx hb dJ1_canEncode_9a6ad_8 (by decide) (fun c_2 => ?_) (fun c_2 => ?_)
    · have h := zk_t c_2 h
      refine lv_iconst (v := (0 : Int32)) hx hb dJ1_canEncode_9a6ad_15 (by decide) ?_
      exact W.zret (ty := .boolean) (v := (0 : Int32)) hx hb hr rfl (fun t ht2 hW => ⟨⟨(0 : Int32), (), rfl, Option.some.inj h, by rw [ht2]; exact hP, hD⟩, hS.F ht2⟩) hS.2.2 dJ1_canEncode_9a6ad_16 hlocks
    · have h := zk_f c_2 h
      refine lv_iconst (v := (1 : Int32)) hx hb dJ1_canEncode_9a6ad_11 (by decide) ?_
      refine lv_goto (tgt := 16) hx hb dJ1_canEncode_9a6ad_12 (by decide) ?_
      exact W.zret (ty := .boolean) (v := (1 : Int32)) hx hb hr rfl (fun t ht2 hW => ⟨⟨(1 : Int32), (), rfl, Option.some.inj h, by rw [ht2]; exact hP, hD⟩, hS.F ht2⟩) hS.2.2 dJ1_canEncode_9a6ad_16 hlocks
set_option maxHeartbeats 4000000 in
set_option maxRecDepth 100000 in
theorem c_J1_canEncode_9a6ad (l : Launch) (D : va_G) (cs : Nat → ClassId) (ad : Nat → Nat) (sz : Nat) (x0 : Int32)  (R : Int32 × Unit) (h : f_J1_canEncode_9a6ad   x0  = some R) : Met l yJ1_canEncode_9a6ad (z_J1_canEncode_9a6ad) rm_J1_canEncode_9a6ad (va_Pc [.int x0] (zPre D cs (wl_J1_canEncode_9a6ad ad cs ) sz)) (Q_J1_canEncode_9a6ad D cs ad  (va_A (wl_J1_canEncode_9a6ad ad cs ) sz) R) 0 0 (va_A (wl_J1_canEncode_9a6ad ad cs ) sz) := by
  refine Met.ofW (cc := cJ1_canEncode_9a6ad) (maxL := 1) (ret := (some .boolean)) (by decide) rfl ?_
  intro p e s m args below meth c s₁ B hml hv
  obtain ⟨rfl, hsz, hP, hK, hD0⟩ := hv
  subst hsz
  have hD := hD0.self (sz := s.heap.size)
  have C0 : zC p s m _ meth c cJ1_canEncode_9a6ad 1 (some .boolean) RJ1 zW := ⟨B.exec, B.bytes, B.returns, hml, findClass_of_methodNamed B.named, fun w hw => atoms_spec (ws := z_J1_canEncode_9a6ad) B.pre w (List.mem_cons_of_mem _ hw), B.notSynchronized⟩
  have hA : ∀ q : Nat, s.heap.size ≤ q → va_A (wl_J1_canEncode_9a6ad ad cs ) s.heap.size q := fun q h => Or.inr h
  have hl := lv_entry ([.int x0]) (n := 1) (Nat.le_of_ble_eq_true rfl)
  rw [lg_entry_eq]
  generalize (lg_sl ([.int x0]) ++ List.replicate (1 - (lg_sl ([.int x0])).length) Slot.unset).toArray = ls at hl ⊢
  exact L_J1_canEncode_9a6ad_0 C0 hK hA   x0  h s.heap [] ls hP hD va_S.rf hl
theorem zh_cJ1_indexOfChar_4cfef_0 : zck [27, 145, 54, 4, 28, 54, 5, 21, 5, 29, 162, 0, 21, 42, 21, 5, 51, 21, 4, 160, 0, 6] (zdu 0 cJ1_indexOfChar_4cfef.data.toList) = true := by decide +kernel
theorem dJ1_indexOfChar_4cfef_0 : decode cJ1_indexOfChar_4cfef 0 = .ok (.iload_n 1, 1) := zo_27 zh_cJ1_indexOfChar_4cfef_0 0 rfl
theorem dJ1_indexOfChar_4cfef_1 : decode cJ1_indexOfChar_4cfef 1 = .ok (.i2b, 1) := zo_145 zh_cJ1_indexOfChar_4cfef_0 1 rfl
theorem dJ1_indexOfChar_4cfef_2 : decode cJ1_indexOfChar_4cfef 2 = .ok (.istore 4, 2) := zo_54 zh_cJ1_indexOfChar_4cfef_0 2 rfl
theorem dJ1_indexOfChar_4cfef_4 : decode cJ1_indexOfChar_4cfef 4 = .ok (.iload_n 2, 1) := zo_28 zh_cJ1_indexOfChar_4cfef_0 4 rfl
theorem dJ1_indexOfChar_4cfef_5 : decode cJ1_indexOfChar_4cfef 5 = .ok (.istore 5, 2) := zo_54 zh_cJ1_indexOfChar_4cfef_0 5 rfl
theorem dJ1_indexOfChar_4cfef_7 : decode cJ1_indexOfChar_4cfef 7 = .ok (.iload 5, 2) := zo_21 zh_cJ1_indexOfChar_4cfef_0 7 rfl
theorem dJ1_indexOfChar_4cfef_9 : decode cJ1_indexOfChar_4cfef 9 = .ok (.iload_n 3, 1) := zo_29 zh_cJ1_indexOfChar_4cfef_0 9 rfl
theorem dJ1_indexOfChar_4cfef_10 : decode cJ1_indexOfChar_4cfef 10 = .ok (.if_icmp .ge 21, 3) := zo_p162 zh_cJ1_indexOfChar_4cfef_0 10 21 rfl rfl
theorem dJ1_indexOfChar_4cfef_13 : decode cJ1_indexOfChar_4cfef 13 = .ok (.aload_n 0, 1) := zo_42 zh_cJ1_indexOfChar_4cfef_0 13 rfl
theorem dJ1_indexOfChar_4cfef_14 : decode cJ1_indexOfChar_4cfef 14 = .ok (.iload 5, 2) := zo_21 zh_cJ1_indexOfChar_4cfef_0 14 rfl
theorem dJ1_indexOfChar_4cfef_16 : decode cJ1_indexOfChar_4cfef 16 = .ok (.baload, 1) := zo_51 zh_cJ1_indexOfChar_4cfef_0 16 rfl
theorem dJ1_indexOfChar_4cfef_17 : decode cJ1_indexOfChar_4cfef 17 = .ok (.iload 4, 2) := zo_21 zh_cJ1_indexOfChar_4cfef_0 17 rfl
theorem dJ1_indexOfChar_4cfef_19 : decode cJ1_indexOfChar_4cfef 19 = .ok (.if_icmp .ne 6, 3) := zo_p160 zh_cJ1_indexOfChar_4cfef_0 19 6 rfl rfl
theorem zh_cJ1_indexOfChar_4cfef_1 : zck [0, 6, 21, 5, 172, 132, 5, 1, 167, 255, 235, 2, 172] (zdu 20 cJ1_indexOfChar_4cfef.data.toList) = true := by decide +kernel
theorem dJ1_indexOfChar_4cfef_22 : decode cJ1_indexOfChar_4cfef 22 = .ok (.iload 5, 2) := zo_21 zh_cJ1_indexOfChar_4cfef_1 2 rfl
theorem dJ1_indexOfChar_4cfef_24 : decode cJ1_indexOfChar_4cfef 24 = .ok (.ireturn, 1) := zo_172 zh_cJ1_indexOfChar_4cfef_1 4 rfl
theorem dJ1_indexOfChar_4cfef_25 : decode cJ1_indexOfChar_4cfef 25 = .ok (.iinc 5 1, 3) := zo_p132 zh_cJ1_indexOfChar_4cfef_1 5 1 rfl rfl
theorem dJ1_indexOfChar_4cfef_28 : decode cJ1_indexOfChar_4cfef 28 = .ok (.goto (-21), 3) := zo_n167 zh_cJ1_indexOfChar_4cfef_1 8 20 rfl rfl
theorem dJ1_indexOfChar_4cfef_31 : decode cJ1_indexOfChar_4cfef 31 = .ok (.iconst (-1), 1) := zo_2 zh_cJ1_indexOfChar_4cfef_1 11 rfl
theorem dJ1_indexOfChar_4cfef_32 : decode cJ1_indexOfChar_4cfef 32 = .ok (.ireturn, 1) := zo_172 zh_cJ1_indexOfChar_4cfef_1 12 rfl
abbrev z_J1_indexOfChar_4cfef : List Cond := .code yJ1_indexOfChar_4cfef cJ1_indexOfChar_4cfef 6 (some .int) :: zW
abbrev wl_J1_indexOfChar_4cfef (ad : Nat → Nat) (cs : Nat → ClassId)   : va_W := []
def Q_J1_indexOfChar_4cfef (D : va_G) (cs : Nat → ClassId) (ad : Nat → Nat)   (A : Nat → Prop) (R : Int32 × Unit) : Array Value → State → Outcome → State → Prop :=
  va_Qi (fun (r : Int32) (u : Unit) => (r, u) = R) (fun (u : Unit) (t : State) => va_P D classes (wl_J1_indexOfChar_4cfef ad cs ) t.heap ∧ va_D A (wl_J1_indexOfChar_4cfef ad cs )) A
abbrev rm_J1_indexOfChar_4cfef : Room := { frames := 0, cells := 0, slots := 0, locals := 0 }
def B_J1_indexOfChar_4cfef_7   (g7 : Nat → Int32 → Int32 → Int32 → (Option (Int32 × Unit)))  (i0 : Nat) (x3 : Int32) (x4 : Int32) (x5 : Int32) : Option (Int32 × Unit) :=
  (if x3 ≤ x5 then (some ((-1 : Int32), ())) else (if (x5 < 0 ∨ (zLen.getD i0 0) ≤ x5.toNatClampNeg) then none else (if ((zByt.getD i0 []).getD x5.toNatClampNeg 0) = x4 then (some (x5, ())) else (zk_let (x5 + (1 : Int32)) (fun v_5 => (g7 i0 x3 x4 v_5))))))
def B_J1_indexOfChar_4cfef_0   (g7 : Nat → Int32 → Int32 → Int32 → (Option (Int32 × Unit)))  (i0 : Nat) (x1 : Int32) (x2 : Int32) (x3 : Int32) : Option (Int32 × Unit) :=
  (zk_let (x1.toInt8.toInt32) (fun v_1 => (g7 i0 x3 v_1 x2)))
def G_J1_indexOfChar_4cfef    (n : Nat) : (Nat → Int32 → Int32 → Int32 → (Option (Int32 × Unit))) :=
  Nat.rec (motive := fun _ => (Nat → Int32 → Int32 → Int32 → (Option (Int32 × Unit)))) ((fun _ _ _ _ => none)) (fun _ ih => (B_J1_indexOfChar_4cfef_7   ih )) n
def f_J1_indexOfChar_4cfef   (n : Nat) (i0 : Nat) (x1 : Int32) (x2 : Int32) (x3 : Int32)  : Option (Int32 × Unit) := B_J1_indexOfChar_4cfef_0   ((G_J1_indexOfChar_4cfef    n))  i0 x1 x2 x3 
set_option maxHeartbeats 4000000 in
set_option maxRecDepth 100000 in
theorem L_J1_indexOfChar_4cfef_7 {p : Program} {l : Launch} {e : Env} {s : State} {m : MethodId} {args : Array Value} {below : List Frame} {meth : Method} {c : Code} {A : Nat → Prop} {D : va_G} {cs : Nat → ClassId} {ad : Nat → Nat} {R : Int32 × Unit} {g7 : Nat → Int32 → Int32 → Int32 → (Option (Int32 × Unit))} (C0 : zC p s m args meth c cJ1_indexOfChar_4cfef 6 (some .int) RJ1 zW) (hK : va_K D classes (zT cs) s) {k : (Nat → Nat) × (Nat → Nat)} (hO : zO s) (hE : zE k A s) {i0 : Nat} (hi0 : i0 < 5) (hA : ∀ q : Nat, s.heap.size ≤ q → A q) (ih7 : ∀ (x3 : Int32) (x4 : Int32) (x5 : Int32) (h : g7 i0 x3 x4 x5 = some R) (H : Heap) (locs : List Loc) (ls : Array Slot) (hP : va_P D classes (wl_J1_indexOfChar_4cfef ad cs ) H) (hD : va_D A (wl_J1_indexOfChar_4cfef ad cs )) (hS : va_S A s.heap H locs) (hl : lv_has ls 6 [(0, .ref (k.2 i0)), (3, .int x3), (4, .int x4), (5, .int x5)]), W p l e rm_J1_indexOfChar_4cfef s m args below meth c H locs 0 0 (MQ below (Q_J1_indexOfChar_4cfef D cs ad  A R) args s 0 0 A) (F0 m 7 ls [])) (x3 : Int32) (x4 : Int32) (x5 : Int32) (h : B_J1_indexOfChar_4cfef_7 g7 i0 x3 x4 x5 = some R) (H : Heap) (locs : List Loc) (ls : Array Slot) (hP : va_P D classes (wl_J1_indexOfChar_4cfef ad cs ) H) (hD : va_D A (wl_J1_indexOfChar_4cfef ad cs )) (hS : va_S A s.heap H locs) (hl : lv_has ls 6 [(0, .ref (k.2 i0)), (3, .int x3), (4, .int x4), (5, .int x5)]) : W p l e rm_J1_indexOfChar_4cfef s m args below meth c H locs 0 0 (MQ below (Q_J1_indexOfChar_4cfef D cs ad  A R) args s 0 0 A) (F0 m 7 ls []) := by
  obtain ⟨hx, hb, hr, hml, hown, ht, hlocks⟩ := id C0
  refine lv_iload hx hb dJ1_indexOfChar_4cfef_7 (lv_at hl 3 rfl) ?_
  refine lv_iload_n hx hb dJ1_indexOfChar_4cfef_9 rfl (lv_at hl 1 rfl) ?_
  refine lv_icmp_ge (tgt := 31) hx hb dJ1_indexOfChar_4cfef_10 (by decide) (fun c_2 => ?_) (fun c_2 => ?_)
  · have h := zk_t c_2 h
    refine lv_iconst (v := (-1 : Int32)) hx hb dJ1_indexOfChar_4cfef_31 (by decide) ?_
    exact W.iret (v := (-1 : Int32)) hx hb hr (fun t ht2 hW => ⟨⟨(-1 : Int32), (), rfl, Option.some.inj h, by rw [ht2]; exact hP, hD⟩, hS.F ht2⟩) hS.2.2 dJ1_indexOfChar_4cfef_32 hlocks
  · have h := zk_f c_2 h
    refine lv_aload_n hx hb dJ1_indexOfChar_4cfef_13 rfl (lv_at hl 0 rfl) ?_
    refine lv_iload hx hb dJ1_indexOfChar_4cfef_14 (lv_at hl 3 rfl) ?_
    obtain ⟨g_3, h⟩ := zk_gd h
    refine va_tb (v := .int ((zByt.getD i0 []).getD x5.toNatClampNeg 0)) hx hb (hE.1.1 i0 hi0).2.2.2 hS g_3 rfl dJ1_indexOfChar_4cfef_16 ?_
    refine lv_iload hx hb dJ1_indexOfChar_4cfef_17 (lv_at hl 2 rfl) ?_
    refine lv_icmp_ne (tgt := 25) hx hb dJ1_indexOfChar_4cfef_19 (by decide) (fun c_4 => ?_) (fun c_4 => ?_)
    · have h := zk_f c_4 h
      obtain ⟨v_5, ev_5, h⟩ := zk_lt h
      refine lv_iinc (v := v_5) (lv' := [(5, .int v_5), (0, .ref (k.2 i0)), (3, .int x3), (4, .int x4)]) hx hb dJ1_indexOfChar_4cfef_25 hl (k := 3) rfl (by rw [ev_5]; rfl) (by decide) rfl (fun ls hl => ?_)
      refine lv_goto (tgt := 7) hx hb dJ1_indexOfChar_4cfef_28 (by decide) ?_
      exact ih7 x3 x4 v_5 h H locs ls hP hD hS (lv_sub hl [1, 2, 3, 0] rfl)
    · have h := zk_t c_4 h
      refine lv_iload hx hb dJ1_indexOfChar_4cfef_22 (lv_at hl 3 rfl) ?_
      exact W.iret (v := x5) hx hb hr (fun t ht2 hW => ⟨⟨x5, (), rfl, Option.some.inj h, by rw [ht2]; exact hP, hD⟩, hS.F ht2⟩) hS.2.2 dJ1_indexOfChar_4cfef_24 hlocks
set_option maxHeartbeats 4000000 in
set_option maxRecDepth 100000 in
theorem L_J1_indexOfChar_4cfef_0 {p : Program} {l : Launch} {e : Env} {s : State} {m : MethodId} {args : Array Value} {below : List Frame} {meth : Method} {c : Code} {A : Nat → Prop} {D : va_G} {cs : Nat → ClassId} {ad : Nat → Nat} {R : Int32 × Unit} {g7 : Nat → Int32 → Int32 → Int32 → (Option (Int32 × Unit))} (C0 : zC p s m args meth c cJ1_indexOfChar_4cfef 6 (some .int) RJ1 zW) (hK : va_K D classes (zT cs) s) {k : (Nat → Nat) × (Nat → Nat)} (hO : zO s) (hE : zE k A s) {i0 : Nat} (hi0 : i0 < 5) (hA : ∀ q : Nat, s.heap.size ≤ q → A q) (ih7 : ∀ (x3 : Int32) (x4 : Int32) (x5 : Int32) (h : g7 i0 x3 x4 x5 = some R) (H : Heap) (locs : List Loc) (ls : Array Slot) (hP : va_P D classes (wl_J1_indexOfChar_4cfef ad cs ) H) (hD : va_D A (wl_J1_indexOfChar_4cfef ad cs )) (hS : va_S A s.heap H locs) (hl : lv_has ls 6 [(0, .ref (k.2 i0)), (3, .int x3), (4, .int x4), (5, .int x5)]), W p l e rm_J1_indexOfChar_4cfef s m args below meth c H locs 0 0 (MQ below (Q_J1_indexOfChar_4cfef D cs ad  A R) args s 0 0 A) (F0 m 7 ls [])) (x1 : Int32) (x2 : Int32) (x3 : Int32) (h : B_J1_indexOfChar_4cfef_0 g7 i0 x1 x2 x3 = some R) (H : Heap) (locs : List Loc) (ls : Array Slot) (hP : va_P D classes (wl_J1_indexOfChar_4cfef ad cs ) H) (hD : va_D A (wl_J1_indexOfChar_4cfef ad cs )) (hS : va_S A s.heap H locs) (hl : lv_has ls 6 [(0, .ref (k.2 i0)), (1, .int x1), (2, .int x2), (3, .int x3)]) : W p l e rm_J1_indexOfChar_4cfef s m args below meth c H locs 0 0 (MQ below (Q_J1_indexOfChar_4cfef D cs ad  A R) args s 0 0 A) (F0 m 0 ls []) := by
  obtain ⟨hx, hb, hr, hml, hown, ht, hlocks⟩ := id C0
  refine lv_iload_n hx hb dJ1_indexOfChar_4cfef_0 rfl (lv_at hl 1 rfl) ?_
  refine lv_i2b (v := x1.toInt8.toInt32) hx hb dJ1_indexOfChar_4cfef_1 rfl ?_
  obtain ⟨v_1, ev_1, h⟩ := zk_lt h
  refine W.eq (g2 := F0 m 2 ls [.int v_1]) (by rw [ev_1]) ?_
  refine lv_istore (lv' := [(4, .int v_1), (0, .ref (k.2 i0)), (1, .int x1), (2, .int x2), (3, .int x3)]) hx hb dJ1_indexOfChar_4cfef_2 hl (by decide) rfl (fun ls hl => ?_)
  refine lv_iload_n hx hb dJ1_indexOfChar_4cfef_4 rfl (lv_at hl 3 rfl) ?_
  refine lv_istore (lv' := [(5, .int x2), (4, .int v_1), (0, .ref (k.2 i0)), (1, .int x1), (2, .int x2), (3, .int x3)]) hx hb dJ1_indexOfChar_4cfef_5 hl (by decide) rfl (fun ls hl => ?_)
  exact ih7 x3 v_1 x2 h H locs ls hP hD hS (lv_sub hl [2, 5, 1, 0] rfl)
theorem LG_J1_indexOfChar_4cfef {p : Program} {l : Launch} {e : Env} {s : State} {m : MethodId} {args : Array Value} {below : List Frame} {meth : Method} {c : Code} {A : Nat → Prop} {D : va_G} {cs : Nat → ClassId} {ad : Nat → Nat} {R : Int32 × Unit} (C0 : zC p s m args meth c cJ1_indexOfChar_4cfef 6 (some .int) RJ1 zW) (hK : va_K D classes (zT cs) s) {k : (Nat → Nat) × (Nat → Nat)} (hO : zO s) (hE : zE k A s) {i0 : Nat} (hi0 : i0 < 5) (hA : ∀ q : Nat, s.heap.size ≤ q → A q) : ∀ n : Nat, (∀ (x3 : Int32) (x4 : Int32) (x5 : Int32) (h : (G_J1_indexOfChar_4cfef    n) i0 x3 x4 x5 = some R) (H : Heap) (locs : List Loc) (ls : Array Slot) (hP : va_P D classes (wl_J1_indexOfChar_4cfef ad cs ) H) (hD : va_D A (wl_J1_indexOfChar_4cfef ad cs )) (hS : va_S A s.heap H locs) (hl : lv_has ls 6 [(0, .ref (k.2 i0)), (3, .int x3), (4, .int x4), (5, .int x5)]), W p l e rm_J1_indexOfChar_4cfef s m args below meth c H locs 0 0 (MQ below (Q_J1_indexOfChar_4cfef D cs ad  A R) args s 0 0 A) (F0 m 7 ls [])) := by
  intro n
  induction n with
  | zero =>
    refine ?_ <;> (intros; rename_i h _ _ _ _ _ _ _; cases h)
  | succ n ih =>
    exact L_J1_indexOfChar_4cfef_7 C0 hK hO hE hi0 hA  ih
set_option maxHeartbeats 4000000 in
set_option maxRecDepth 100000 in
theorem c_J1_indexOfChar_4cfef (l : Launch) (D : va_G) (cs : Nat → ClassId) (ad : Nat → Nat) (k : (Nat → Nat) × (Nat → Nat)) (i0 : Nat) (hi0 : i0 < 5) (sz : Nat) (n : Nat) (x1 : Int32) (x2 : Int32) (x3 : Int32)  (R : Int32 × Unit) (h : f_J1_indexOfChar_4cfef   n i0 x1 x2 x3  = some R) : Met l yJ1_indexOfChar_4cfef (z_J1_indexOfChar_4cfef) rm_J1_indexOfChar_4cfef (va_Pc [.ref (k.2 i0), .int x1, .int x2, .int x3] (zPreE k D cs (wl_J1_indexOfChar_4cfef ad cs ) sz)) (Q_J1_indexOfChar_4cfef D cs ad  (va_A (wl_J1_indexOfChar_4cfef ad cs ) sz) R) 0 0 (va_A (wl_J1_indexOfChar_4cfef ad cs ) sz) := by
  refine Met.ofW (cc := cJ1_indexOfChar_4cfef) (maxL := 6) (ret := (some .int)) (by decide) rfl ?_
  intro p e s m args below meth c s₁ B hml hv
  obtain ⟨rfl, ⟨⟨hsz, hP, hK, hD0⟩, hO⟩, hE⟩ := hv
  subst hsz
  have hD := hD0.self (sz := s.heap.size)
  have C0 : zC p s m _ meth c cJ1_indexOfChar_4cfef 6 (some .int) RJ1 zW := ⟨B.exec, B.bytes, B.returns, hml, findClass_of_methodNamed B.named, fun w hw => atoms_spec (ws := z_J1_indexOfChar_4cfef) B.pre w (List.mem_cons_of_mem _ hw), B.notSynchronized⟩
  have hA : ∀ q : Nat, s.heap.size ≤ q → va_A (wl_J1_indexOfChar_4cfef ad cs ) s.heap.size q := fun q h => Or.inr h
  have hl := lv_entry ([.ref (k.2 i0), .int x1, .int x2, .int x3]) (n := 6) (Nat.le_of_ble_eq_true rfl)
  rw [lg_entry_eq]
  generalize (lg_sl ([.ref (k.2 i0), .int x1, .int x2, .int x3]) ++ List.replicate (6 - (lg_sl ([.ref (k.2 i0), .int x1, .int x2, .int x3])).length) Slot.unset).toArray = ls at hl ⊢
  exact L_J1_indexOfChar_4cfef_0 C0 hK hO hE hi0 hA  ((LG_J1_indexOfChar_4cfef C0 hK hO hE hi0 hA  n)) x1 x2 x3  h s.heap [] ls hP hD va_S.rf hl
theorem kw_599 : Cond.methodLink RJ1 88 yJ1_canEncode_9a6ad ∈ zW := zwC (i := 45) zc_3 rfl rfl
theorem kw_600 : Cond.static yJ1_canEncode_9a6ad ∈ zW := zwC (i := 46) zc_3 rfl rfl
theorem kw_601 : Cond.code yJ1_canEncode_9a6ad cJ1_canEncode_9a6ad 1 (some .boolean) ∈ zW := zwC (i := 47) zc_3 rfl rfl
theorem kw_602 : Cond.methodLink RJ1 92 Lib.Math.max.name ∈ zW := zwC (i := 48) zc_3 rfl rfl
theorem kw_605 : Cond.methodLink RJ1 38 Lib.Math.min.name ∈ zW := zwC (i := 51) zc_3 rfl rfl
theorem kw_608 : Cond.methodLink RJ1 95 yJ1_indexOfChar_4cfef ∈ zW := zwC (i := 54) zc_3 rfl rfl
theorem kw_609 : Cond.static yJ1_indexOfChar_4cfef ∈ zW := zwC (i := 55) zc_3 rfl rfl
theorem kw_610 : Cond.code yJ1_indexOfChar_4cfef cJ1_indexOfChar_4cfef 6 (some .int) ∈ zW := zwC (i := 56) zc_3 rfl rfl
theorem zh_cJ1_indexOf_4cfef_0 : zck [27, 184, 0, 88, 154, 0, 5, 2, 172, 28, 3, 184, 0, 92, 61, 29, 42, 190, 184, 0, 38, 62] (zdu 0 cJ1_indexOf_4cfef.data.toList) = true := by decide +kernel
theorem dJ1_indexOf_4cfef_0 : decode cJ1_indexOf_4cfef 0 = .ok (.iload_n 1, 1) := zo_27 zh_cJ1_indexOf_4cfef_0 0 rfl
theorem dJ1_indexOf_4cfef_1 : decode cJ1_indexOf_4cfef 1 = .ok (.invokestatic 88, 3) := zo_184 zh_cJ1_indexOf_4cfef_0 1 rfl
theorem dJ1_indexOf_4cfef_4 : decode cJ1_indexOf_4cfef 4 = .ok (.ifCond .ne 5, 3) := zo_p154 zh_cJ1_indexOf_4cfef_0 4 5 rfl rfl
theorem dJ1_indexOf_4cfef_7 : decode cJ1_indexOf_4cfef 7 = .ok (.iconst (-1), 1) := zo_2 zh_cJ1_indexOf_4cfef_0 7 rfl
theorem dJ1_indexOf_4cfef_8 : decode cJ1_indexOf_4cfef 8 = .ok (.ireturn, 1) := zo_172 zh_cJ1_indexOf_4cfef_0 8 rfl
theorem dJ1_indexOf_4cfef_9 : decode cJ1_indexOf_4cfef 9 = .ok (.iload_n 2, 1) := zo_28 zh_cJ1_indexOf_4cfef_0 9 rfl
theorem dJ1_indexOf_4cfef_10 : decode cJ1_indexOf_4cfef 10 = .ok (.iconst 0, 1) := zo_3 zh_cJ1_indexOf_4cfef_0 10 rfl
theorem dJ1_indexOf_4cfef_11 : decode cJ1_indexOf_4cfef 11 = .ok (.invokestatic 92, 3) := zo_184 zh_cJ1_indexOf_4cfef_0 11 rfl
theorem dJ1_indexOf_4cfef_14 : decode cJ1_indexOf_4cfef 14 = .ok (.istore_n 2, 1) := zo_61 zh_cJ1_indexOf_4cfef_0 14 rfl
theorem dJ1_indexOf_4cfef_15 : decode cJ1_indexOf_4cfef 15 = .ok (.iload_n 3, 1) := zo_29 zh_cJ1_indexOf_4cfef_0 15 rfl
theorem dJ1_indexOf_4cfef_16 : decode cJ1_indexOf_4cfef 16 = .ok (.aload_n 0, 1) := zo_42 zh_cJ1_indexOf_4cfef_0 16 rfl
theorem dJ1_indexOf_4cfef_17 : decode cJ1_indexOf_4cfef 17 = .ok (.arraylength, 1) := zo_190 zh_cJ1_indexOf_4cfef_0 17 rfl
theorem dJ1_indexOf_4cfef_18 : decode cJ1_indexOf_4cfef 18 = .ok (.invokestatic 38, 3) := zo_184 zh_cJ1_indexOf_4cfef_0 18 rfl
theorem zh_cJ1_indexOf_4cfef_1 : zck [38, 62, 28, 29, 161, 0, 5, 2, 172, 42, 27, 28, 29, 184, 0, 95, 172] (zdu 20 cJ1_indexOf_4cfef.data.toList) = true := by decide +kernel
theorem dJ1_indexOf_4cfef_21 : decode cJ1_indexOf_4cfef 21 = .ok (.istore_n 3, 1) := zo_62 zh_cJ1_indexOf_4cfef_1 1 rfl
theorem dJ1_indexOf_4cfef_22 : decode cJ1_indexOf_4cfef 22 = .ok (.iload_n 2, 1) := zo_28 zh_cJ1_indexOf_4cfef_1 2 rfl
theorem dJ1_indexOf_4cfef_23 : decode cJ1_indexOf_4cfef 23 = .ok (.iload_n 3, 1) := zo_29 zh_cJ1_indexOf_4cfef_1 3 rfl
theorem dJ1_indexOf_4cfef_24 : decode cJ1_indexOf_4cfef 24 = .ok (.if_icmp .lt 5, 3) := zo_p161 zh_cJ1_indexOf_4cfef_1 4 5 rfl rfl
theorem dJ1_indexOf_4cfef_27 : decode cJ1_indexOf_4cfef 27 = .ok (.iconst (-1), 1) := zo_2 zh_cJ1_indexOf_4cfef_1 7 rfl
theorem dJ1_indexOf_4cfef_28 : decode cJ1_indexOf_4cfef 28 = .ok (.ireturn, 1) := zo_172 zh_cJ1_indexOf_4cfef_1 8 rfl
theorem dJ1_indexOf_4cfef_29 : decode cJ1_indexOf_4cfef 29 = .ok (.aload_n 0, 1) := zo_42 zh_cJ1_indexOf_4cfef_1 9 rfl
theorem dJ1_indexOf_4cfef_30 : decode cJ1_indexOf_4cfef 30 = .ok (.iload_n 1, 1) := zo_27 zh_cJ1_indexOf_4cfef_1 10 rfl
theorem dJ1_indexOf_4cfef_31 : decode cJ1_indexOf_4cfef 31 = .ok (.iload_n 2, 1) := zo_28 zh_cJ1_indexOf_4cfef_1 11 rfl
theorem dJ1_indexOf_4cfef_32 : decode cJ1_indexOf_4cfef 32 = .ok (.iload_n 3, 1) := zo_29 zh_cJ1_indexOf_4cfef_1 12 rfl
theorem dJ1_indexOf_4cfef_33 : decode cJ1_indexOf_4cfef 33 = .ok (.invokestatic 95, 3) := zo_184 zh_cJ1_indexOf_4cfef_1 13 rfl
theorem dJ1_indexOf_4cfef_36 : decode cJ1_indexOf_4cfef 36 = .ok (.ireturn, 1) := zo_172 zh_cJ1_indexOf_4cfef_1 16 rfl
abbrev z_J1_indexOf_4cfef : List Cond := .code yJ1_indexOf_4cfef cJ1_indexOf_4cfef 4 (some .int) :: zW
abbrev wl_J1_indexOf_4cfef (ad : Nat → Nat) (cs : Nat → ClassId)   : va_W := []
def Q_J1_indexOf_4cfef (D : va_G) (cs : Nat → ClassId) (ad : Nat → Nat)   (A : Nat → Prop) (R : Int32 × Unit) : Array Value → State → Outcome → State → Prop :=
  va_Qi (fun (r : Int32) (u : Unit) => (r, u) = R) (fun (u : Unit) (t : State) => va_P D classes (wl_J1_indexOf_4cfef ad cs ) t.heap ∧ va_D A (wl_J1_indexOf_4cfef ad cs )) A
abbrev rm_J1_indexOf_4cfef : Room := { frames := 1, cells := 0, slots := 0, locals := 25 }
theorem g_J1_88 : GoodIn zW (va_wsS RJ1 88 yJ1_canEncode_9a6ad z_J1_canEncode_9a6ad) := zGS kw_599 kw_600 kw_86 kw_601
theorem g_J1_95 : GoodIn zW (va_wsS RJ1 95 yJ1_indexOfChar_4cfef z_J1_indexOfChar_4cfef) := zGS kw_608 kw_609 kw_86 kw_610
theorem hd_J1_canEncode_9a6ad : yJ1_canEncode_9a6ad.cls ≠ "java/lang/invoke/MethodHandle" ∧ yJ1_canEncode_9a6ad.cls ≠ "java/lang/invoke/VarHandle" ∧ (parseMethodDescriptor yJ1_canEncode_9a6ad.desc).map (fun d => d.parameters.length) = some 1 := by decide +kernel
theorem hd_J1_indexOfChar_4cfef : yJ1_indexOfChar_4cfef.cls ≠ "java/lang/invoke/MethodHandle" ∧ yJ1_indexOfChar_4cfef.cls ≠ "java/lang/invoke/VarHandle" ∧ (parseMethodDescriptor yJ1_indexOfChar_4cfef.desc).map (fun d => d.parameters.length) = some 4 := by decide +kernel
def B_J1_indexOf_4cfef_0     (i0 : Nat) (x1 : Int32) (x2 : Int32) (x3 : Int32) : Option (Int32 × Unit) :=
  (zk_b2 (f_J1_canEncode_9a6ad x1) (fun r_1 u_2 => (if r_1 = 0 then (some ((-1 : Int32), ())) else (zk_let (if x2 < (0 : Int32) then (0 : Int32) else x2) (fun v_5 => (zk_let (if (Int32.ofNat (zLen.getD i0 0)) < x3 then (Int32.ofNat (zLen.getD i0 0)) else x3) (fun v_6 => (if v_5 < v_6 then (zk_b2 (f_J1_indexOfChar_4cfef 100000 i0 x1 v_5 v_6) (fun r_8 u_9 => (some (r_8, ())))) else (some ((-1 : Int32), ()))))))))))
def f_J1_indexOf_4cfef   (i0 : Nat) (x1 : Int32) (x2 : Int32) (x3 : Int32)  : Option (Int32 × Unit) := B_J1_indexOf_4cfef_0    i0 x1 x2 x3 
set_option maxHeartbeats 4000000 in
set_option maxRecDepth 100000 in
theorem L_J1_indexOf_4cfef_0 {p : Program} {l : Launch} {e : Env} {s : State} {m : MethodId} {args : Array Value} {below : List Frame} {meth : Method} {c : Code} {A : Nat → Prop} {D : va_G} {cs : Nat → ClassId} {ad : Nat → Nat} {R : Int32 × Unit} (C0 : zC p s m args meth c cJ1_indexOf_4cfef 4 (some .int) RJ1 zW) (hK : va_K D classes (zT cs) s) {k : (Nat → Nat) × (Nat → Nat)} (hO : zO s) (hE : zE k A s) {i0 : Nat} (hi0 : i0 < 5) (hA : ∀ q : Nat, s.heap.size ≤ q → A q) (x1 : Int32) (x2 : Int32) (x3 : Int32) (h : B_J1_indexOf_4cfef_0 i0 x1 x2 x3 = some R) (H : Heap) (locs : List Loc) (ls : Array Slot) (hP : va_P D classes (wl_J1_indexOf_4cfef ad cs ) H) (hD : va_D A (wl_J1_indexOf_4cfef ad cs )) (hS : va_S A s.heap H locs) (hl : lv_has ls 4 [(0, .ref (k.2 i0)), (1, .int x1), (2, .int x2), (3, .int x3)]) : W p l e rm_J1_indexOf_4cfef s m args below meth c H locs 0 0 (MQ below (Q_J1_indexOf_4cfef D cs ad  A R) args s 0 0 A) (F0 m 0 ls []) := by
  obtain ⟨hx, hb, hr, hml, hown, ht, hlocks⟩ := id C0
  refine lv_iload_n hx hb dJ1_indexOf_4cfef_0 rfl (lv_at hl 1 rfl) ?_
  obtain ⟨r_1, u_2, hc_3, h⟩ := zk_o2 h
  refine zz_si (post := (fun r u => (r, u) = (r_1, u_2))) (w1 := fun u => (wl_J1_canEncode_9a6ad ad cs )) (As := [.int x1]) (rest := []) (c_J1_canEncode_9a6ad l D cs ad  H.size x1 (r_1, u_2) hc_3) ⟨hx, hb, hml, hown, ht⟩ (va_cwS 1 ht g_J1_88 rfl rfl rfl hd_J1_canEncode_9a6ad ⟨Nat.le_of_ble_eq_true rfl, Nat.le_of_ble_eq_true rfl⟩) hP hD hS hK hA [] rfl rfl [] rfl (fun _ => rfl) rfl hl.1 (Nat.le_of_ble_eq_true rfl) dJ1_indexOf_4cfef_1 ⟨Nat.zero_le _, Nat.zero_le _⟩ (fun r u H locs hq hP hS => ?_)
  cases hq
  have hP : va_P D classes (wl_J1_indexOf_4cfef ad cs ) H := hP
  refine lv_if_ne (tgt := 9) hx hb dJ1_indexOf_4cfef_4 (by decide) (fun c_4 => ?_) (fun c_4 => ?_)
  · have h := zk_f c_4 h
    refine lv_iload_n hx hb dJ1_indexOf_4cfef_9 rfl (lv_at hl 2 rfl) ?_
    refine lv_iconst (v := (0 : Int32)) hx hb dJ1_indexOf_4cfef_10 (by decide) ?_
    refine va_mmax hx hb (by rw [hml]; exact hl.1.symm) hown (ht _ kw_602) (ht _ kw_603) (ht _ kw_89) (ht _ kw_604) (Nat.le_of_ble_eq_true rfl) (Nat.le_of_ble_eq_true rfl) (Nat.le_of_ble_eq_true rfl) (Nat.le_of_ble_eq_true rfl) dJ1_indexOf_4cfef_11 ?_
    obtain ⟨v_5, ev_5, h⟩ := zk_lt h
    refine W.eq (g2 := F0 m 14 ls [.int v_5]) (by rw [ev_5]) ?_
    refine lv_istore_n (lv' := [(2, .int v_5), (0, .ref (k.2 i0)), (1, .int x1), (3, .int x3)]) hx hb dJ1_indexOf_4cfef_14 rfl hl (by decide) rfl (fun ls hl => ?_)
    refine lv_iload_n hx hb dJ1_indexOf_4cfef_15 rfl (lv_at hl 3 rfl) ?_
    refine lv_aload_n hx hb dJ1_indexOf_4cfef_16 rfl (lv_at hl 1 rfl) ?_
    refine va_tlen (v := Int32.ofNat (zLen.getD i0 0)) hx hb (hE.1.1 i0 hi0).2.2.2 hS rfl dJ1_indexOf_4cfef_17 ?_
    refine va_mmin hx hb (by rw [hml]; exact hl.1.symm) hown (ht _ kw_605) (ht _ kw_606) (ht _ kw_89) (ht _ kw_607) (Nat.le_of_ble_eq_true rfl) (Nat.le_of_ble_eq_true rfl) (Nat.le_of_ble_eq_true rfl) (Nat.le_of_ble_eq_true rfl) dJ1_indexOf_4cfef_18 ?_
    obtain ⟨v_6, ev_6, h⟩ := zk_lt h
    refine W.eq (g2 := F0 m 21 ls [.int v_6]) (by rw [ev_6]) ?_
    refine lv_istore_n (lv' := [(3, .int v_6), (2, .int v_5), (0, .ref (k.2 i0)), (1, .int x1)]) hx hb dJ1_indexOf_4cfef_21 rfl hl (by decide) rfl (fun ls hl => ?_)
    refine lv_iload_n hx hb dJ1_indexOf_4cfef_22 rfl (lv_at hl 1 rfl) ?_
    refine lv_iload_n hx hb dJ1_indexOf_4cfef_23 rfl (lv_at hl 0 rfl) ?_
    refine lv_icmp_lt (tgt := 29) hx hb dJ1_indexOf_4cfef_24 (by decide) (fun c_7 => ?_) (fun c_7 => ?_)
    · have h := zk_t c_7 h
      refine lv_aload_n hx hb dJ1_indexOf_4cfef_29 rfl (lv_at hl 2 rfl) ?_
      refine lv_iload_n hx hb dJ1_indexOf_4cfef_30 rfl (lv_at hl 3 rfl) ?_
      refine lv_iload_n hx hb dJ1_indexOf_4cfef_31 rfl (lv_at hl 1 rfl) ?_
      refine lv_iload_n hx hb dJ1_indexOf_4cfef_32 rfl (lv_at hl 0 rfl) ?_
      obtain ⟨r_8, u_9, hc_10, h⟩ := zk_o2 h
      refine zk_siE (post := (fun r u => (r, u) = (r_8, u_9))) (w1 := fun u => (wl_J1_indexOfChar_4cfef ad cs )) (As := [.ref (k.2 i0), .int x1, .int v_5, .int v_6]) (rest := []) hE hO (c_J1_indexOfChar_4cfef l D cs ad k i0 hi0 H.size 100000 x1 v_5 v_6 (r_8, u_9) hc_10) ⟨hx, hb, hml, hown, ht⟩ (va_cwS 4 ht g_J1_95 rfl rfl rfl hd_J1_indexOfChar_4cfef ⟨Nat.le_of_ble_eq_true rfl, Nat.le_of_ble_eq_true rfl⟩) hP hD hS hK hA [] [] rfl rfl rfl rfl (by decide) rfl hl.1 (Nat.le_of_ble_eq_true rfl) dJ1_indexOf_4cfef_33 ⟨Nat.zero_le _, Nat.zero_le _⟩ (fun r u H locs hq hP hD hS => ?_)
      cases hq
      have hP : va_P D classes (wl_J1_indexOf_4cfef ad cs ) H := hP.sub [] rfl
      have hD : va_D A (wl_J1_indexOf_4cfef ad cs ) := hD.sub [] rfl rfl
      exact W.iret (v := r_8) hx hb hr (fun t ht2 hW => ⟨⟨r_8, (), rfl, Option.some.inj h, by rw [ht2]; exact hP, hD⟩, hS.F ht2⟩) hS.2.2 dJ1_indexOf_4cfef_36 hlocks
    · have h := zk_f c_7 h
      refine lv_iconst (v := (-1 : Int32)) hx hb dJ1_indexOf_4cfef_27 (by decide) ?_
      exact W.iret (v := (-1 : Int32)) hx hb hr (fun t ht2 hW => ⟨⟨(-1 : Int32), (), rfl, Option.some.inj h, by rw [ht2]; exact hP, hD⟩, hS.F ht2⟩) hS.2.2 dJ1_indexOf_4cfef_28 hlocks
  · have h := zk_t c_4 h
    refine lv_iconst (v := (-1 : Int32)) hx hb dJ1_indexOf_4cfef_7 (by decide) ?_
    exact W.iret (v := (-1 : Int32)) hx hb hr (fun t ht2 hW => ⟨⟨(-1 : Int32), (), rfl, Option.some.inj h, by rw [ht2]; exact hP, hD⟩, hS.F ht2⟩) hS.2.2 dJ1_indexOf_4cfef_8 hlocks
set_option maxHeartbeats 4000000 in
set_option maxRecDepth 100000 in
theorem c_J1_indexOf_4cfef (l : Launch) (D : va_G) (cs : Nat → ClassId) (ad : Nat → Nat) (k : (Nat → Nat) × (Nat → Nat)) (i0 : Nat) (hi0 : i0 < 5) (sz : Nat) (x1 : Int32) (x2 : Int32) (x3 : Int32)  (R : Int32 × Unit) (h : f_J1_indexOf_4cfef   i0 x1 x2 x3  = some R) : Met l yJ1_indexOf_4cfef (z_J1_indexOf_4cfef) rm_J1_indexOf_4cfef (va_Pc [.ref (k.2 i0), .int x1, .int x2, .int x3] (zPreE k D cs (wl_J1_indexOf_4cfef ad cs ) sz)) (Q_J1_indexOf_4cfef D cs ad  (va_A (wl_J1_indexOf_4cfef ad cs ) sz) R) 0 0 (va_A (wl_J1_indexOf_4cfef ad cs ) sz) := by
  refine Met.ofW (cc := cJ1_indexOf_4cfef) (maxL := 4) (ret := (some .int)) (by decide) rfl ?_
  intro p e s m args below meth c s₁ B hml hv
  obtain ⟨rfl, ⟨⟨hsz, hP, hK, hD0⟩, hO⟩, hE⟩ := hv
  subst hsz
  have hD := hD0.self (sz := s.heap.size)
  have C0 : zC p s m _ meth c cJ1_indexOf_4cfef 4 (some .int) RJ1 zW := ⟨B.exec, B.bytes, B.returns, hml, findClass_of_methodNamed B.named, fun w hw => atoms_spec (ws := z_J1_indexOf_4cfef) B.pre w (List.mem_cons_of_mem _ hw), B.notSynchronized⟩
  have hA : ∀ q : Nat, s.heap.size ≤ q → va_A (wl_J1_indexOf_4cfef ad cs ) s.heap.size q := fun q h => Or.inr h
  have hl := lv_entry ([.ref (k.2 i0), .int x1, .int x2, .int x3]) (n := 4) (Nat.le_of_ble_eq_true rfl)
  rw [lg_entry_eq]
  generalize (lg_sl ([.ref (k.2 i0), .int x1, .int x2, .int x3]) ++ List.replicate (4 - (lg_sl ([.ref (k.2 i0), .int x1, .int x2, .int x3])).length) Slot.unset).toArray = ls at hl ⊢
  exact L_J1_indexOf_4cfef_0 C0 hK hO hE hi0 hA   x1 x2 x3  h s.heap [] ls hP hD va_S.rf hl
theorem kw_486 : Cond.instanceMethod yJ0_length_8abf5 ∈ zW := zwC (i := 172) zc_2 rfl rfl
theorem kw_487 : Cond.selects RJ0 yJ0_length_8abf5 yJ0_length_8abf5 ∈ zW := zwC (i := 173) zc_2 rfl rfl
theorem kw_488 : Cond.code yJ0_length_8abf5 cJ0_length_8abf5 1 (some .int) ∈ zW := zwC (i := 174) zc_2 rfl rfl
theorem kw_595 : Cond.methodLink RJ0 505 yJ0_length_8abf5 ∈ zW := zwC (i := 41) zc_3 rfl rfl
theorem kw_596 : Cond.methodLink RJ0 637 yJ1_indexOf_4cfef ∈ zW := zwC (i := 42) zc_3 rfl rfl
theorem kw_597 : Cond.static yJ1_indexOf_4cfef ∈ zW := zwC (i := 43) zc_3 rfl rfl
theorem kw_598 : Cond.code yJ1_indexOf_4cfef cJ1_indexOf_4cfef 4 (some .int) ∈ zW := zwC (i := 44) zc_3 rfl rfl
theorem zh_cJ0_indexOf_7cf53_0 : zck [42, 182, 1, 236, 153, 0, 19, 42, 180, 0, 9, 27, 28, 42, 182, 1, 249, 184, 2, 125, 167, 0] (zdu 0 cJ0_indexOf_7cf53.data.toList) = true := by decide +kernel
theorem dJ0_indexOf_7cf53_0 : decode cJ0_indexOf_7cf53 0 = .ok (.aload_n 0, 1) := zo_42 zh_cJ0_indexOf_7cf53_0 0 rfl
theorem dJ0_indexOf_7cf53_1 : decode cJ0_indexOf_7cf53 1 = .ok (.invokevirtual 492, 3) := zo_182 zh_cJ0_indexOf_7cf53_0 1 rfl
theorem dJ0_indexOf_7cf53_4 : decode cJ0_indexOf_7cf53 4 = .ok (.ifCond .eq 19, 3) := zo_p153 zh_cJ0_indexOf_7cf53_0 4 19 rfl rfl
theorem dJ0_indexOf_7cf53_7 : decode cJ0_indexOf_7cf53 7 = .ok (.aload_n 0, 1) := zo_42 zh_cJ0_indexOf_7cf53_0 7 rfl
theorem dJ0_indexOf_7cf53_8 : decode cJ0_indexOf_7cf53 8 = .ok (.getfield 9, 3) := zo_180 zh_cJ0_indexOf_7cf53_0 8 rfl
theorem dJ0_indexOf_7cf53_11 : decode cJ0_indexOf_7cf53 11 = .ok (.iload_n 1, 1) := zo_27 zh_cJ0_indexOf_7cf53_0 11 rfl
theorem dJ0_indexOf_7cf53_12 : decode cJ0_indexOf_7cf53 12 = .ok (.iload_n 2, 1) := zo_28 zh_cJ0_indexOf_7cf53_0 12 rfl
theorem dJ0_indexOf_7cf53_13 : decode cJ0_indexOf_7cf53 13 = .ok (.aload_n 0, 1) := zo_42 zh_cJ0_indexOf_7cf53_0 13 rfl
theorem dJ0_indexOf_7cf53_14 : decode cJ0_indexOf_7cf53 14 = .ok (.invokevirtual 505, 3) := zo_182 zh_cJ0_indexOf_7cf53_0 14 rfl
theorem dJ0_indexOf_7cf53_17 : decode cJ0_indexOf_7cf53 17 = .ok (.invokestatic 637, 3) := zo_184 zh_cJ0_indexOf_7cf53_0 17 rfl
theorem zh_cJ0_indexOf_7cf53_1 : zck [167, 0, 16, 42, 180, 0, 9, 27, 28, 42, 182, 1, 249, 184, 2, 128, 172] (zdu 20 cJ0_indexOf_7cf53.data.toList) = true := by decide +kernel
theorem dJ0_indexOf_7cf53_20 : decode cJ0_indexOf_7cf53 20 = .ok (.goto 16, 3) := zo_p167 zh_cJ0_indexOf_7cf53_1 0 16 rfl rfl
theorem dJ0_indexOf_7cf53_23 : decode cJ0_indexOf_7cf53 23 = .ok (.aload_n 0, 1) := zo_42 zh_cJ0_indexOf_7cf53_1 3 rfl
theorem dJ0_indexOf_7cf53_24 : decode cJ0_indexOf_7cf53 24 = .ok (.getfield 9, 3) := zo_180 zh_cJ0_indexOf_7cf53_1 4 rfl
theorem dJ0_indexOf_7cf53_27 : decode cJ0_indexOf_7cf53 27 = .ok (.iload_n 1, 1) := zo_27 zh_cJ0_indexOf_7cf53_1 7 rfl
theorem dJ0_indexOf_7cf53_28 : decode cJ0_indexOf_7cf53 28 = .ok (.iload_n 2, 1) := zo_28 zh_cJ0_indexOf_7cf53_1 8 rfl
theorem dJ0_indexOf_7cf53_29 : decode cJ0_indexOf_7cf53 29 = .ok (.aload_n 0, 1) := zo_42 zh_cJ0_indexOf_7cf53_1 9 rfl
theorem dJ0_indexOf_7cf53_30 : decode cJ0_indexOf_7cf53 30 = .ok (.invokevirtual 505, 3) := zo_182 zh_cJ0_indexOf_7cf53_1 10 rfl
theorem dJ0_indexOf_7cf53_36 : decode cJ0_indexOf_7cf53 36 = .ok (.ireturn, 1) := zo_172 zh_cJ0_indexOf_7cf53_1 16 rfl
abbrev z_J0_indexOf_7cf53 : List Cond := .code yJ0_indexOf_7cf53 cJ0_indexOf_7cf53 3 (some .int) :: zW
abbrev wl_J0_indexOf_7cf53 (ad : Nat → Nat) (cs : Nat → ClassId)   : va_W := []
def Q_J0_indexOf_7cf53 (D : va_G) (cs : Nat → ClassId) (ad : Nat → Nat)   (A : Nat → Prop) (R : Int32 × Unit) : Array Value → State → Outcome → State → Prop :=
  va_Qi (fun (r : Int32) (u : Unit) => (r, u) = R) (fun (u : Unit) (t : State) => va_P D classes (wl_J0_indexOf_7cf53 ad cs ) t.heap ∧ va_D A (wl_J0_indexOf_7cf53 ad cs )) A
abbrev rm_J0_indexOf_7cf53 : Room := { frames := 2, cells := 0, slots := 0, locals := 48 }
theorem g_J0_505 : GoodIn zW (wsV RJ0 505 RJ0 yJ0_length_8abf5 z_J0_length_8abf5) := zGV kw_595 kw_486 kw_487 kw_85 kw_488
theorem g_J0_637 : GoodIn zW (va_wsS RJ0 637 yJ1_indexOf_4cfef z_J1_indexOf_4cfef) := zGS kw_596 kw_597 kw_86 kw_598
theorem hd_J0_length_8abf5 : yJ0_length_8abf5.cls ≠ "java/lang/invoke/MethodHandle" ∧ yJ0_length_8abf5.cls ≠ "java/lang/invoke/VarHandle" ∧ (parseMethodDescriptor yJ0_length_8abf5.desc).map (fun d => d.parameters.length) = some 0 := by decide +kernel
theorem hd_J1_indexOf_4cfef : yJ1_indexOf_4cfef.cls ≠ "java/lang/invoke/MethodHandle" ∧ yJ1_indexOf_4cfef.cls ≠ "java/lang/invoke/VarHandle" ∧ (parseMethodDescriptor yJ1_indexOf_4cfef.desc).map (fun d => d.parameters.length) = some 4 := by decide +kernel
def B_J0_indexOf_7cf53_0     (i0 : Nat) (x1 : Int32) (x2 : Int32) : Option (Int32 × Unit) :=
  (zk_b2 (f_J0_isLatin1_aae02 i0) (fun r_1 u_2 => (if r_1 = 0 then (zk_b2 (f_J0_length_8abf5 i0) (fun r_5 u_6 => none)) else (zk_b2 (f_J0_length_8abf5 i0) (fun r_8 u_9 => (zk_b2 (f_J1_indexOf_4cfef i0 x1 x2 r_8) (fun r_11 u_12 => (some (r_11, ())))))))))
def f_J0_indexOf_7cf53   (i0 : Nat) (x1 : Int32) (x2 : Int32)  : Option (Int32 × Unit) := B_J0_indexOf_7cf53_0    i0 x1 x2 
set_option maxHeartbeats 4000000 in
set_option maxRecDepth 100000 in
theorem L_J0_indexOf_7cf53_0 {p : Program} {l : Launch} {e : Env} {s : State} {m : MethodId} {args : Array Value} {below : List Frame} {meth : Method} {c : Code} {A : Nat → Prop} {D : va_G} {cs : Nat → ClassId} {ad : Nat → Nat} {R : Int32 × Unit} (C0 : zC p s m args meth c cJ0_indexOf_7cf53 3 (some .int) RJ0 zW) (hK : va_K D classes (zT cs) s) {k : (Nat → Nat) × (Nat → Nat)} (hO : zO s) (hE : zE k A s) {i0 : Nat} (hi0 : i0 < 5) (hA : ∀ q : Nat, s.heap.size ≤ q → A q) (x1 : Int32) (x2 : Int32) (h : B_J0_indexOf_7cf53_0 i0 x1 x2 = some R) (H : Heap) (locs : List Loc) (ls : Array Slot) (hP : va_P D classes (wl_J0_indexOf_7cf53 ad cs ) H) (hD : va_D A (wl_J0_indexOf_7cf53 ad cs )) (hS : va_S A s.heap H locs) (hl : lv_has ls 3 [(0, .ref (k.1 i0)), (1, .int x1), (2, .int x2)]) : W p l e rm_J0_indexOf_7cf53 s m args below meth c H locs 0 0 (MQ below (Q_J0_indexOf_7cf53 D cs ad  A R) args s 0 0 A) (F0 m 0 ls []) := by
  obtain ⟨hx, hb, hr, hml, hown, ht, hlocks⟩ := id C0
  refine lv_aload_n hx hb dJ0_indexOf_7cf53_0 rfl (lv_at hl 0 rfl) ?_
  obtain ⟨r_1, u_2, hc_3, h⟩ := zk_o2 h
  refine zk_viE (post := (fun r u => (r, u) = (r_1, u_2))) (w1 := fun u => (wl_J0_isLatin1_aae02 ad cs )) (As := []) (rest := []) hE hO (c_J0_isLatin1_aae02 l D cs ad k i0 hi0 H.size  (r_1, u_2) hc_3) ⟨hx, hb, hml, hown, ht⟩ (cwV 0 ht g_J0_492 rfl rfl rfl ⟨rfl, hd_J0_isLatin1_aae02⟩ ⟨Nat.le_of_ble_eq_true rfl, Nat.le_of_ble_eq_true rfl⟩) (vk_recv hE.1 hi0 hS) hP hD hS hK hA [] [] rfl rfl rfl rfl (by decide) rfl hl.1 (Nat.le_of_ble_eq_true rfl) dJ0_indexOf_7cf53_1 ⟨Nat.zero_le _, Nat.zero_le _⟩ (fun r u H locs hq hP hD hS => ?_)
  cases hq
  have hP : va_P D classes (wl_J0_indexOf_7cf53 ad cs ) H := hP.sub [] rfl
  have hD : va_D A (wl_J0_indexOf_7cf53 ad cs ) := hD.sub [] rfl rfl
  refine lv_if_eq (tgt := 23) hx hb dJ0_indexOf_7cf53_4 (by decide) (fun c_4 => ?_) (fun c_4 => ?_)
  · have h := zk_t c_4 h
    refine lv_aload_n hx hb dJ0_indexOf_7cf53_23 rfl (lv_at hl 0 rfl) ?_
    refine vk_getf (v := .ref (k.2 i0)) hx hb (hE.1.1 i0 hi0).2.2.1 hS hown (ht _ kw_1903) (fun _ h9 => h9) dJ0_indexOf_7cf53_24 ?_
    refine lv_iload_n hx hb dJ0_indexOf_7cf53_27 rfl (lv_at hl 1 rfl) ?_
    refine lv_iload_n hx hb dJ0_indexOf_7cf53_28 rfl (lv_at hl 2 rfl) ?_
    refine lv_aload_n hx hb dJ0_indexOf_7cf53_29 rfl (lv_at hl 0 rfl) ?_
    obtain ⟨r_5, u_6, hc_7, h⟩ := zk_o2 h
    refine zk_viE (post := (fun r u => (r, u) = (r_5, u_6))) (w1 := fun u => (wl_J0_length_8abf5 ad cs )) (As := []) (rest := [.int x2, .int x1, .ref (k.2 i0)]) hE hO (c_J0_length_8abf5 l D cs ad k i0 hi0 H.size  (r_5, u_6) hc_7) ⟨hx, hb, hml, hown, ht⟩ (cwV 0 ht g_J0_505 rfl rfl rfl ⟨rfl, hd_J0_length_8abf5⟩ ⟨Nat.le_of_ble_eq_true rfl, Nat.le_of_ble_eq_true rfl⟩) (vk_recv hE.1 hi0 hS) hP hD hS hK hA [] [] rfl rfl rfl rfl (by decide) rfl hl.1 (Nat.le_of_ble_eq_true rfl) dJ0_indexOf_7cf53_30 ⟨Nat.zero_le _, Nat.zero_le _⟩ (fun r u H locs hq hP hD hS => ?_)
    cases hq
    have hP : va_P D classes (wl_J0_indexOf_7cf53 ad cs ) H := hP.sub [] rfl
    have hD : va_D A (wl_J0_indexOf_7cf53 ad cs ) := hD.sub [] rfl rfl
    cases h
  · have h := zk_f c_4 h
    refine lv_aload_n hx hb dJ0_indexOf_7cf53_7 rfl (lv_at hl 0 rfl) ?_
    refine vk_getf (v := .ref (k.2 i0)) hx hb (hE.1.1 i0 hi0).2.2.1 hS hown (ht _ kw_1903) (fun _ h9 => h9) dJ0_indexOf_7cf53_8 ?_
    refine lv_iload_n hx hb dJ0_indexOf_7cf53_11 rfl (lv_at hl 1 rfl) ?_
    refine lv_iload_n hx hb dJ0_indexOf_7cf53_12 rfl (lv_at hl 2 rfl) ?_
    refine lv_aload_n hx hb dJ0_indexOf_7cf53_13 rfl (lv_at hl 0 rfl) ?_
    obtain ⟨r_8, u_9, hc_10, h⟩ := zk_o2 h
    refine zk_viE (post := (fun r u => (r, u) = (r_8, u_9))) (w1 := fun u => (wl_J0_length_8abf5 ad cs )) (As := []) (rest := [.int x2, .int x1, .ref (k.2 i0)]) hE hO (c_J0_length_8abf5 l D cs ad k i0 hi0 H.size  (r_8, u_9) hc_10) ⟨hx, hb, hml, hown, ht⟩ (cwV 0 ht g_J0_505 rfl rfl rfl ⟨rfl, hd_J0_length_8abf5⟩ ⟨Nat.le_of_ble_eq_true rfl, Nat.le_of_ble_eq_true rfl⟩) (vk_recv hE.1 hi0 hS) hP hD hS hK hA [] [] rfl rfl rfl rfl (by decide) rfl hl.1 (Nat.le_of_ble_eq_true rfl) dJ0_indexOf_7cf53_14 ⟨Nat.zero_le _, Nat.zero_le _⟩ (fun r u H locs hq hP hD hS => ?_)
    cases hq
    have hP : va_P D classes (wl_J0_indexOf_7cf53 ad cs ) H := hP.sub [] rfl
    have hD : va_D A (wl_J0_indexOf_7cf53 ad cs ) := hD.sub [] rfl rfl
    obtain ⟨r_11, u_12, hc_13, h⟩ := zk_o2 h
    refine zk_siE (post := (fun r u => (r, u) = (r_11, u_12))) (w1 := fun u => (wl_J1_indexOf_4cfef ad cs )) (As := [.ref (k.2 i0), .int x1, .int x2, .int r_8]) (rest := []) hE hO (c_J1_indexOf_4cfef l D cs ad k i0 hi0 H.size x1 x2 r_8 (r_11, u_12) hc_13) ⟨hx, hb, hml, hown, ht⟩ (va_cwS 4 ht g_J0_637 rfl rfl rfl hd_J1_indexOf_4cfef ⟨Nat.le_of_ble_eq_true rfl, Nat.le_of_ble_eq_true rfl⟩) hP hD hS hK hA [] [] rfl rfl rfl rfl (by decide) rfl hl.1 (Nat.le_of_ble_eq_true rfl) dJ0_indexOf_7cf53_17 ⟨Nat.zero_le _, Nat.zero_le _⟩ (fun r u H locs hq hP hD hS => ?_)
    cases hq
    have hP : va_P D classes (wl_J0_indexOf_7cf53 ad cs ) H := hP.sub [] rfl
    have hD : va_D A (wl_J0_indexOf_7cf53 ad cs ) := hD.sub [] rfl rfl
    refine lv_goto (tgt := 36) hx hb dJ0_indexOf_7cf53_20 (by decide) ?_
    exact W.iret (v := r_11) hx hb hr (fun t ht2 hW => ⟨⟨r_11, (), rfl, Option.some.inj h, by rw [ht2]; exact hP, hD⟩, hS.F ht2⟩) hS.2.2 dJ0_indexOf_7cf53_36 hlocks
set_option maxHeartbeats 4000000 in
set_option maxRecDepth 100000 in
theorem c_J0_indexOf_7cf53 (l : Launch) (D : va_G) (cs : Nat → ClassId) (ad : Nat → Nat) (k : (Nat → Nat) × (Nat → Nat)) (i0 : Nat) (hi0 : i0 < 5) (sz : Nat) (x1 : Int32) (x2 : Int32)  (R : Int32 × Unit) (h : f_J0_indexOf_7cf53   i0 x1 x2  = some R) : Met l yJ0_indexOf_7cf53 (z_J0_indexOf_7cf53) rm_J0_indexOf_7cf53 (va_Pc [.ref (k.1 i0), .int x1, .int x2] (zPreE k D cs (wl_J0_indexOf_7cf53 ad cs ) sz)) (Q_J0_indexOf_7cf53 D cs ad  (va_A (wl_J0_indexOf_7cf53 ad cs ) sz) R) 0 0 (va_A (wl_J0_indexOf_7cf53 ad cs ) sz) := by
  refine Met.ofW (cc := cJ0_indexOf_7cf53) (maxL := 3) (ret := (some .int)) (by decide) rfl ?_
  intro p e s m args below meth c s₁ B hml hv
  obtain ⟨rfl, ⟨⟨hsz, hP, hK, hD0⟩, hO⟩, hE⟩ := hv
  subst hsz
  have hD := hD0.self (sz := s.heap.size)
  have C0 : zC p s m _ meth c cJ0_indexOf_7cf53 3 (some .int) RJ0 zW := ⟨B.exec, B.bytes, B.returns, hml, findClass_of_methodNamed B.named, fun w hw => atoms_spec (ws := z_J0_indexOf_7cf53) B.pre w (List.mem_cons_of_mem _ hw), B.notSynchronized⟩
  have hA : ∀ q : Nat, s.heap.size ≤ q → va_A (wl_J0_indexOf_7cf53 ad cs ) s.heap.size q := fun q h => Or.inr h
  have hl := lv_entry ([.ref (k.1 i0), .int x1, .int x2]) (n := 3) (Nat.le_of_ble_eq_true rfl)
  rw [lg_entry_eq]
  generalize (lg_sl ([.ref (k.1 i0), .int x1, .int x2]) ++ List.replicate (3 - (lg_sl ([.ref (k.1 i0), .int x1, .int x2])).length) Slot.unset).toArray = ls at hl ⊢
  exact L_J0_indexOf_7cf53_0 C0 hK hO hE hi0 hA   x1 x2  h s.heap [] ls hP hD va_S.rf hl
theorem kw_591 : Cond.methodLink RJ0 633 yJ0_indexOf_7cf53 ∈ zW := zwC (i := 37) zc_3 rfl rfl
theorem kw_592 : Cond.instanceMethod yJ0_indexOf_7cf53 ∈ zW := zwC (i := 38) zc_3 rfl rfl
theorem kw_593 : Cond.selects RJ0 yJ0_indexOf_7cf53 yJ0_indexOf_7cf53 ∈ zW := zwC (i := 39) zc_3 rfl rfl
theorem kw_594 : Cond.code yJ0_indexOf_7cf53 cJ0_indexOf_7cf53 3 (some .int) ∈ zW := zwC (i := 40) zc_3 rfl rfl
theorem zh_cJ0_indexOf_0f7a4_0 : zck [42, 27, 3, 182, 2, 121, 172] (zdu 0 cJ0_indexOf_0f7a4.data.toList) = true := by decide +kernel
theorem dJ0_indexOf_0f7a4_0 : decode cJ0_indexOf_0f7a4 0 = .ok (.aload_n 0, 1) := zo_42 zh_cJ0_indexOf_0f7a4_0 0 rfl
theorem dJ0_indexOf_0f7a4_1 : decode cJ0_indexOf_0f7a4 1 = .ok (.iload_n 1, 1) := zo_27 zh_cJ0_indexOf_0f7a4_0 1 rfl
theorem dJ0_indexOf_0f7a4_2 : decode cJ0_indexOf_0f7a4 2 = .ok (.iconst 0, 1) := zo_3 zh_cJ0_indexOf_0f7a4_0 2 rfl
theorem dJ0_indexOf_0f7a4_3 : decode cJ0_indexOf_0f7a4 3 = .ok (.invokevirtual 633, 3) := zo_182 zh_cJ0_indexOf_0f7a4_0 3 rfl
theorem dJ0_indexOf_0f7a4_6 : decode cJ0_indexOf_0f7a4 6 = .ok (.ireturn, 1) := zo_172 zh_cJ0_indexOf_0f7a4_0 6 rfl
abbrev z_J0_indexOf_0f7a4 : List Cond := .code yJ0_indexOf_0f7a4 cJ0_indexOf_0f7a4 2 (some .int) :: zW
abbrev wl_J0_indexOf_0f7a4 (ad : Nat → Nat) (cs : Nat → ClassId)   : va_W := []
def Q_J0_indexOf_0f7a4 (D : va_G) (cs : Nat → ClassId) (ad : Nat → Nat)   (A : Nat → Prop) (R : Int32 × Unit) : Array Value → State → Outcome → State → Prop :=
  va_Qi (fun (r : Int32) (u : Unit) => (r, u) = R) (fun (u : Unit) (t : State) => va_P D classes (wl_J0_indexOf_0f7a4 ad cs ) t.heap ∧ va_D A (wl_J0_indexOf_0f7a4 ad cs )) A
abbrev rm_J0_indexOf_0f7a4 : Room := { frames := 3, cells := 0, slots := 0, locals := 70 }
theorem g_J0_633 : GoodIn zW (wsV RJ0 633 RJ0 yJ0_indexOf_7cf53 z_J0_indexOf_7cf53) := zGV kw_591 kw_592 kw_593 kw_85 kw_594
theorem hd_J0_indexOf_7cf53 : yJ0_indexOf_7cf53.cls ≠ "java/lang/invoke/MethodHandle" ∧ yJ0_indexOf_7cf53.cls ≠ "java/lang/invoke/VarHandle" ∧ (parseMethodDescriptor yJ0_indexOf_7cf53.desc).map (fun d => d.parameters.length) = some 2 := by decide +kernel
def B_J0_indexOf_0f7a4_0     (i0 : Nat) (x1 : Int32) : Option (Int32 × Unit) :=
  (zk_b2 (f_J0_indexOf_7cf53 i0 x1 (0 : Int32)) (fun r_1 u_2 => (some (r_1, ()))))
def f_J0_indexOf_0f7a4   (i0 : Nat) (x1 : Int32)  : Option (Int32 × Unit) := B_J0_indexOf_0f7a4_0    i0 x1 
set_option maxHeartbeats 4000000 in
set_option maxRecDepth 100000 in
theorem L_J0_indexOf_0f7a4_0 {p : Program} {l : Launch} {e : Env} {s : State} {m : MethodId} {args : Array Value} {below : List Frame} {meth : Method} {c : Code} {A : Nat → Prop} {D : va_G} {cs : Nat → ClassId} {ad : Nat → Nat} {R : Int32 × Unit} (C0 : zC p s m args meth c cJ0_indexOf_0f7a4 2 (some .int) RJ0 zW) (hK : va_K D classes (zT cs) s) {k : (Nat → Nat) × (Nat → Nat)} (hO : zO s) (hE : zE k A s) {i0 : Nat} (hi0 : i0 < 5) (hA : ∀ q : Nat, s.heap.size ≤ q → A q) (x1 : Int32) (h : B_J0_indexOf_0f7a4_0 i0 x1 = some R) (H : Heap) (locs : List Loc) (ls : Array Slot) (hP : va_P D classes (wl_J0_indexOf_0f7a4 ad cs ) H) (hD : va_D A (wl_J0_indexOf_0f7a4 ad cs )) (hS : va_S A s.heap H locs) (hl : lv_has ls 2 [(0, .ref (k.1 i0)), (1, .int x1)]) : W p l e rm_J0_indexOf_0f7a4 s m args below meth c H locs 0 0 (MQ below (Q_J0_indexOf_0f7a4 D cs ad  A R) args s 0 0 A) (F0 m 0 ls []) := by
  obtain ⟨hx, hb, hr, hml, hown, ht, hlocks⟩ := id C0
  refine lv_aload_n hx hb dJ0_indexOf_0f7a4_0 rfl (lv_at hl 0 rfl) ?_
  refine lv_iload_n hx hb dJ0_indexOf_0f7a4_1 rfl (lv_at hl 1 rfl) ?_
  refine lv_iconst (v := (0 : Int32)) hx hb dJ0_indexOf_0f7a4_2 (by decide) ?_
  obtain ⟨r_1, u_2, hc_3, h⟩ := zk_o2 h
  refine zk_viE (post := (fun r u => (r, u) = (r_1, u_2))) (w1 := fun u => (wl_J0_indexOf_7cf53 ad cs )) (As := [.int x1, .int (0 : Int32)]) (rest := []) hE hO (c_J0_indexOf_7cf53 l D cs ad k i0 hi0 H.size x1 (0 : Int32) (r_1, u_2) hc_3) ⟨hx, hb, hml, hown, ht⟩ (cwV 2 ht g_J0_633 rfl rfl rfl ⟨rfl, hd_J0_indexOf_7cf53⟩ ⟨Nat.le_of_ble_eq_true rfl, Nat.le_of_ble_eq_true rfl⟩) (vk_recv hE.1 hi0 hS) hP hD hS hK hA [] [] rfl rfl rfl rfl (by decide) rfl hl.1 (Nat.le_of_ble_eq_true rfl) dJ0_indexOf_0f7a4_3 ⟨Nat.zero_le _, Nat.zero_le _⟩ (fun r u H locs hq hP hD hS => ?_)
  cases hq
  have hP : va_P D classes (wl_J0_indexOf_0f7a4 ad cs ) H := hP.sub [] rfl
  have hD : va_D A (wl_J0_indexOf_0f7a4 ad cs ) := hD.sub [] rfl rfl
  exact W.iret (v := r_1) hx hb hr (fun t ht2 hW => ⟨⟨r_1, (), rfl, Option.some.inj h, by rw [ht2]; exact hP, hD⟩, hS.F ht2⟩) hS.2.2 dJ0_indexOf_0f7a4_6 hlocks
set_option maxHeartbeats 4000000 in
set_option maxRecDepth 100000 in
theorem c_J0_indexOf_0f7a4 (l : Launch) (D : va_G) (cs : Nat → ClassId) (ad : Nat → Nat) (k : (Nat → Nat) × (Nat → Nat)) (i0 : Nat) (hi0 : i0 < 5) (sz : Nat) (x1 : Int32)  (R : Int32 × Unit) (h : f_J0_indexOf_0f7a4   i0 x1  = some R) : Met l yJ0_indexOf_0f7a4 (z_J0_indexOf_0f7a4) rm_J0_indexOf_0f7a4 (va_Pc [.ref (k.1 i0), .int x1] (zPreE k D cs (wl_J0_indexOf_0f7a4 ad cs ) sz)) (Q_J0_indexOf_0f7a4 D cs ad  (va_A (wl_J0_indexOf_0f7a4 ad cs ) sz) R) 0 0 (va_A (wl_J0_indexOf_0f7a4 ad cs ) sz) := by
  refine Met.ofW (cc := cJ0_indexOf_0f7a4) (maxL := 2) (ret := (some .int)) (by decide) rfl ?_
  intro p e s m args below meth c s₁ B hml hv
  obtain ⟨rfl, ⟨⟨hsz, hP, hK, hD0⟩, hO⟩, hE⟩ := hv
  subst hsz
  have hD := hD0.self (sz := s.heap.size)
  have C0 : zC p s m _ meth c cJ0_indexOf_0f7a4 2 (some .int) RJ0 zW := ⟨B.exec, B.bytes, B.returns, hml, findClass_of_methodNamed B.named, fun w hw => atoms_spec (ws := z_J0_indexOf_0f7a4) B.pre w (List.mem_cons_of_mem _ hw), B.notSynchronized⟩
  have hA : ∀ q : Nat, s.heap.size ≤ q → va_A (wl_J0_indexOf_0f7a4 ad cs ) s.heap.size q := fun q h => Or.inr h
  have hl := lv_entry ([.ref (k.1 i0), .int x1]) (n := 2) (Nat.le_of_ble_eq_true rfl)
  rw [lg_entry_eq]
  generalize (lg_sl ([.ref (k.1 i0), .int x1]) ++ List.replicate (2 - (lg_sl ([.ref (k.1 i0), .int x1])).length) Slot.unset).toArray = ls at hl ⊢
  exact L_J0_indexOf_0f7a4_0 C0 hK hO hE hi0 hA   x1  h s.heap [] ls hP hD va_S.rf hl
theorem kw_485 : Cond.methodLink RX9 19 yJ0_length_8abf5 ∈ zW := zwC (i := 171) zc_2 rfl rfl
theorem kw_495 : Cond.methodLink RX9 25 yJ0_charAt_5068e ∈ zW := zwC (i := 181) zc_2 rfl rfl
theorem kw_496 : Cond.instanceMethod yJ0_charAt_5068e ∈ zW := zwC (i := 182) zc_2 rfl rfl
theorem kw_497 : Cond.selects RJ0 yJ0_charAt_5068e yJ0_charAt_5068e ∈ zW := zwC (i := 183) zc_2 rfl rfl
theorem kw_498 : Cond.code yJ0_charAt_5068e cJ0_charAt_5068e 2 (some .char) ∈ zW := zwC (i := 184) zc_2 rfl rfl
theorem kw_533 : Cond.methodLink RX9 29 yX9_add ∈ zW := zwC (i := 219) zc_2 rfl rfl
theorem zh_cX9_write_0 : zck [42, 3, 181, 0, 15, 3, 61, 28, 43, 182, 0, 19, 162, 0, 18, 42, 43, 28, 182, 0, 25, 182] (zdu 0 cX9_write.data.toList) = true := by decide +kernel
theorem dX9_write_0 : decode cX9_write 0 = .ok (.aload_n 0, 1) := zo_42 zh_cX9_write_0 0 rfl
theorem dX9_write_1 : decode cX9_write 1 = .ok (.iconst 0, 1) := zo_3 zh_cX9_write_0 1 rfl
theorem dX9_write_2 : decode cX9_write 2 = .ok (.putfield 15, 3) := zo_181 zh_cX9_write_0 2 rfl
theorem dX9_write_5 : decode cX9_write 5 = .ok (.iconst 0, 1) := zo_3 zh_cX9_write_0 5 rfl
theorem dX9_write_6 : decode cX9_write 6 = .ok (.istore_n 2, 1) := zo_61 zh_cX9_write_0 6 rfl
theorem dX9_write_7 : decode cX9_write 7 = .ok (.iload_n 2, 1) := zo_28 zh_cX9_write_0 7 rfl
theorem dX9_write_8 : decode cX9_write 8 = .ok (.aload_n 1, 1) := zo_43 zh_cX9_write_0 8 rfl
theorem dX9_write_9 : decode cX9_write 9 = .ok (.invokevirtual 19, 3) := zo_182 zh_cX9_write_0 9 rfl
theorem dX9_write_12 : decode cX9_write 12 = .ok (.if_icmp .ge 18, 3) := zo_p162 zh_cX9_write_0 12 18 rfl rfl
theorem dX9_write_15 : decode cX9_write 15 = .ok (.aload_n 0, 1) := zo_42 zh_cX9_write_0 15 rfl
theorem dX9_write_16 : decode cX9_write 16 = .ok (.aload_n 1, 1) := zo_43 zh_cX9_write_0 16 rfl
theorem dX9_write_17 : decode cX9_write 17 = .ok (.iload_n 2, 1) := zo_28 zh_cX9_write_0 17 rfl
theorem dX9_write_18 : decode cX9_write 18 = .ok (.invokevirtual 25, 3) := zo_182 zh_cX9_write_0 18 rfl
theorem zh_cX9_write_1 : zck [25, 182, 0, 29, 132, 2, 1, 167, 255, 236, 177] (zdu 20 cX9_write.data.toList) = true := by decide +kernel
theorem dX9_write_21 : decode cX9_write 21 = .ok (.invokevirtual 29, 3) := zo_182 zh_cX9_write_1 1 rfl
theorem dX9_write_24 : decode cX9_write 24 = .ok (.iinc 2 1, 3) := zo_p132 zh_cX9_write_1 4 1 rfl rfl
theorem dX9_write_27 : decode cX9_write 27 = .ok (.goto (-20), 3) := zo_n167 zh_cX9_write_1 7 19 rfl rfl
theorem dX9_write_30 : decode cX9_write 30 = .ok (.return_, 1) := zo_177 zh_cX9_write_1 10 rfl
abbrev z_X9_write : List Cond := .code yX9_write cX9_write 3 none :: zW
abbrev wl_X9_write (ad : Nat → Nat) (cs : Nat → ClassId)  (tape_size : Int32) (tape_bytes : Nat → Int32) : va_W := [((ad 23), .inr (9, [.ref (ad 24), .int tape_size])), ((ad 24), .inl (cs 0, 120, .inl tape_bytes))]
def Q_X9_write (D : va_G) (cs : Nat → ClassId) (ad : Nat → Nat)   (A : Nat → Prop) (R : Int32 × (Nat → Int32)) : Array Value → State → Outcome → State → Prop :=
  va_Qv (fun u : Int32 × (Nat → Int32) => u = R) (fun (u : Int32 × (Nat → Int32)) (t : State) => va_P D classes (wl_X9_write ad cs u.1 u.2) t.heap ∧ va_D A (wl_X9_write ad cs u.1 u.2)) A
abbrev rm_X9_write : Room := { frames := 4, cells := 0, slots := 0, locals := 85 }
theorem g_X9_19 : GoodIn zW (wsV RX9 19 RJ0 yJ0_length_8abf5 z_J0_length_8abf5) := zGV kw_485 kw_486 kw_487 kw_85 kw_488
theorem g_X9_25 : GoodIn zW (wsV RX9 25 RJ0 yJ0_charAt_5068e z_J0_charAt_5068e) := zGV kw_495 kw_496 kw_497 kw_85 kw_498
theorem g_X9_29 : GoodIn zW (wsV RX9 29 RX9 yX9_add z_X9_add) := zGV kw_533 kw_534 kw_535 kw_78 kw_536
theorem hd_J0_charAt_5068e : yJ0_charAt_5068e.cls ≠ "java/lang/invoke/MethodHandle" ∧ yJ0_charAt_5068e.cls ≠ "java/lang/invoke/VarHandle" ∧ (parseMethodDescriptor yJ0_charAt_5068e.desc).map (fun d => d.parameters.length) = some 1 := by decide +kernel
def B_X9_write_7   (g7 : Nat → Int32 → Int32 → (Nat → Int32) → (Option (Int32 × (Nat → Int32))))  (i0 : Nat) (x2 : Int32) (tape_size : Int32) (tape_bytes : Nat → Int32) : Option (Int32 × (Nat → Int32)) :=
  (zk_b2 (f_J0_length_8abf5 i0) (fun r_1 u_2 => (if r_1 ≤ x2 then (some (tape_size, tape_bytes)) else (zk_b2 (f_J0_charAt_5068e i0 x2) (fun r_5 u_6 => (zk_b2 (f_X9_add r_5 tape_size tape_bytes) (fun u_8 u_9 => (zk_let (x2 + (1 : Int32)) (fun v_11 => (g7 i0 v_11 u_8 u_9))))))))))
def B_X9_write_0   (g7 : Nat → Int32 → Int32 → (Nat → Int32) → (Option (Int32 × (Nat → Int32))))  (i0 : Nat) (tape_size : Int32) (tape_bytes : Nat → Int32) : Option (Int32 × (Nat → Int32)) :=
  (g7 i0 (0 : Int32) (0 : Int32) tape_bytes)
def G_X9_write    (n : Nat) : (Nat → Int32 → Int32 → (Nat → Int32) → (Option (Int32 × (Nat → Int32)))) :=
  Nat.rec (motive := fun _ => (Nat → Int32 → Int32 → (Nat → Int32) → (Option (Int32 × (Nat → Int32))))) ((fun _ _ _ _ => none)) (fun _ ih => (B_X9_write_7   ih )) n
def f_X9_write   (n : Nat) (i0 : Nat) (tape_size : Int32) (tape_bytes : Nat → Int32) : Option (Int32 × (Nat → Int32)) := B_X9_write_0   ((G_X9_write    n))  i0 tape_size tape_bytes
set_option maxHeartbeats 4000000 in
set_option maxRecDepth 100000 in
theorem L_X9_write_7 {p : Program} {l : Launch} {e : Env} {s : State} {m : MethodId} {args : Array Value} {below : List Frame} {meth : Method} {c : Code} {A : Nat → Prop} {D : va_G} {cs : Nat → ClassId} {ad : Nat → Nat} {R : Int32 × (Nat → Int32)} {g7 : Nat → Int32 → Int32 → (Nat → Int32) → (Option (Int32 × (Nat → Int32)))} (C0 : zC p s m args meth c cX9_write 3 none RX9 zW) (hK : va_K D classes (zT cs) s) {k : (Nat → Nat) × (Nat → Nat)} (hO : zO s) (hE : zE k A s) {i0 : Nat} (hi0 : i0 < 5) (hA : ∀ q : Nat, s.heap.size ≤ q → A q) (ih7 : ∀ (x2 : Int32) (tape_size : Int32) (tape_bytes : Nat → Int32) (h : g7 i0 x2 tape_size tape_bytes = some R) (H : Heap) (locs : List Loc) (ls : Array Slot) (hP : va_P D classes (wl_X9_write ad cs tape_size tape_bytes) H) (hD : va_D A (wl_X9_write ad cs tape_size tape_bytes)) (hS : va_S A s.heap H locs) (hl : lv_has ls 3 [(0, .ref (ad 23)), (1, .ref (k.1 i0)), (2, .int x2)]), W p l e rm_X9_write s m args below meth c H locs 0 0 (MQ below (Q_X9_write D cs ad  A R) args s 0 0 A) (F0 m 7 ls [])) (x2 : Int32) (tape_size : Int32) (tape_bytes : Nat → Int32) (h : B_X9_write_7 g7 i0 x2 tape_size tape_bytes = some R) (H : Heap) (locs : List Loc) (ls : Array Slot) (hP : va_P D classes (wl_X9_write ad cs tape_size tape_bytes) H) (hD : va_D A (wl_X9_write ad cs tape_size tape_bytes)) (hS : va_S A s.heap H locs) (hl : lv_has ls 3 [(0, .ref (ad 23)), (1, .ref (k.1 i0)), (2, .int x2)]) : W p l e rm_X9_write s m args below meth c H locs 0 0 (MQ below (Q_X9_write D cs ad  A R) args s 0 0 A) (F0 m 7 ls []) := by
  obtain ⟨hx, hb, hr, hml, hown, ht, hlocks⟩ := id C0
  refine lv_iload_n hx hb dX9_write_7 rfl (lv_at hl 2 rfl) ?_
  refine lv_aload_n hx hb dX9_write_8 rfl (lv_at hl 1 rfl) ?_
  obtain ⟨r_1, u_2, hc_3, h⟩ := zk_o2 h
  refine zk_viE (post := (fun r u => (r, u) = (r_1, u_2))) (w1 := fun u => (wl_J0_length_8abf5 ad cs )) (As := []) (rest := [.int x2]) hE hO (c_J0_length_8abf5 l D cs ad k i0 hi0 H.size  (r_1, u_2) hc_3) ⟨hx, hb, hml, hown, ht⟩ (cwV 0 ht g_X9_19 rfl rfl rfl ⟨rfl, hd_J0_length_8abf5⟩ ⟨Nat.le_of_ble_eq_true rfl, Nat.le_of_ble_eq_true rfl⟩) (vk_recv hE.1 hi0 hS) hP hD hS hK hA [] [0, 1] rfl rfl rfl rfl (by decide) rfl hl.1 (Nat.le_of_ble_eq_true rfl) dX9_write_9 ⟨Nat.zero_le _, Nat.zero_le _⟩ (fun r u H locs hq hP hD hS => ?_)
  cases hq
  have hP : va_P D classes (wl_X9_write ad cs tape_size tape_bytes) H := hP.sub [0, 1] rfl
  have hD : va_D A (wl_X9_write ad cs tape_size tape_bytes) := hD.sub [0, 1] rfl rfl
  refine lv_icmp_ge (tgt := 30) hx hb dX9_write_12 (by decide) (fun c_4 => ?_) (fun c_4 => ?_)
  · have h := zk_t c_4 h
    exact W.vret hx hb hr (fun t ht2 hW => ⟨⟨(tape_size, tape_bytes), rfl, Option.some.inj h, by rw [ht2]; exact hP, hD⟩, hS.F ht2⟩) hS.2.2 dX9_write_30 hlocks
  · have h := zk_f c_4 h
    refine lv_aload_n hx hb dX9_write_15 rfl (lv_at hl 0 rfl) ?_
    refine lv_aload_n hx hb dX9_write_16 rfl (lv_at hl 1 rfl) ?_
    refine lv_iload_n hx hb dX9_write_17 rfl (lv_at hl 2 rfl) ?_
    obtain ⟨r_5, u_6, hc_7, h⟩ := zk_o2 h
    refine zk_viE (post := (fun r u => (r, u) = (r_5, u_6))) (w1 := fun u => (wl_J0_charAt_5068e ad cs )) (As := [.int x2]) (rest := [.ref (ad 23)]) hE hO (c_J0_charAt_5068e l D cs ad k i0 hi0 H.size x2 (r_5, u_6) hc_7) ⟨hx, hb, hml, hown, ht⟩ (cwV 1 ht g_X9_25 rfl rfl rfl ⟨rfl, hd_J0_charAt_5068e⟩ ⟨Nat.le_of_ble_eq_true rfl, Nat.le_of_ble_eq_true rfl⟩) (vk_recv hE.1 hi0 hS) hP hD hS hK hA [] [0, 1] rfl rfl rfl rfl (by decide) rfl hl.1 (Nat.le_of_ble_eq_true rfl) dX9_write_18 ⟨Nat.zero_le _, Nat.zero_le _⟩ (fun r u H locs hq hP hD hS => ?_)
    cases hq
    have hP : va_P D classes (wl_X9_write ad cs tape_size tape_bytes) H := hP.sub [0, 1] rfl
    have hD : va_D A (wl_X9_write ad cs tape_size tape_bytes) := hD.sub [0, 1] rfl rfl
    obtain ⟨u_8, u_9, hc_10, h⟩ := zk_o2 h
    refine zz_vv (post := (fun u => u = (u_8, u_9))) (w1 := fun u => (wl_X9_add ad cs u.1 u.2)) (As := [.int r_5]) (rest := []) (c_X9_add l D cs ad  H.size r_5 tape_size tape_bytes (u_8, u_9) hc_10) ⟨hx, hb, hml, hown, ht⟩ (cwV 1 ht g_X9_29 rfl rfl rfl ⟨rfl, hd_X9_add⟩ ⟨Nat.le_of_ble_eq_true rfl, Nat.le_of_ble_eq_true rfl⟩) (va_recv hK hP (ci := 9) (q0 := 0) rfl rfl) hP hD hS hK hA [0, 1] rfl rfl [(ad 23), (ad 24)] rfl (fun _ => rfl) rfl hl.1 (Nat.le_of_ble_eq_true rfl) dX9_write_21 ⟨Nat.zero_le _, Nat.zero_le _⟩ (fun u H locs hq hP hS => ?_)
    cases hq
    have hP : va_P D classes (wl_X9_write ad cs u_8 u_9) H := hP
    have hD : va_D A (wl_X9_write ad cs u_8 u_9) := zDk hD [(ad 23), (ad 24)] rfl rfl
    obtain ⟨v_11, ev_11, h⟩ := zk_lt h
    refine lv_iinc (v := v_11) (lv' := [(2, .int v_11), (0, .ref (ad 23)), (1, .ref (k.1 i0))]) hx hb dX9_write_24 hl (k := 2) rfl (by rw [ev_11]; rfl) (by decide) rfl (fun ls hl => ?_)
    refine lv_goto (tgt := 7) hx hb dX9_write_27 (by decide) ?_
    exact ih7 v_11 u_8 u_9 h H locs ls hP hD hS (lv_sub hl [1, 2, 0] rfl)
set_option maxHeartbeats 4000000 in
set_option maxRecDepth 100000 in
theorem L_X9_write_0 {p : Program} {l : Launch} {e : Env} {s : State} {m : MethodId} {args : Array Value} {below : List Frame} {meth : Method} {c : Code} {A : Nat → Prop} {D : va_G} {cs : Nat → ClassId} {ad : Nat → Nat} {R : Int32 × (Nat → Int32)} {g7 : Nat → Int32 → Int32 → (Nat → Int32) → (Option (Int32 × (Nat → Int32)))} (C0 : zC p s m args meth c cX9_write 3 none RX9 zW) (hK : va_K D classes (zT cs) s) {k : (Nat → Nat) × (Nat → Nat)} (hO : zO s) (hE : zE k A s) {i0 : Nat} (hi0 : i0 < 5) (hA : ∀ q : Nat, s.heap.size ≤ q → A q) (ih7 : ∀ (x2 : Int32) (tape_size : Int32) (tape_bytes : Nat → Int32) (h : g7 i0 x2 tape_size tape_bytes = some R) (H : Heap) (locs : List Loc) (ls : Array Slot) (hP : va_P D classes (wl_X9_write ad cs tape_size tape_bytes) H) (hD : va_D A (wl_X9_write ad cs tape_size tape_bytes)) (hS : va_S A s.heap H locs) (hl : lv_has ls 3 [(0, .ref (ad 23)), (1, .ref (k.1 i0)), (2, .int x2)]), W p l e rm_X9_write s m args below meth c H locs 0 0 (MQ below (Q_X9_write D cs ad  A R) args s 0 0 A) (F0 m 7 ls [])) (tape_size : Int32) (tape_bytes : Nat → Int32) (h : B_X9_write_0 g7 i0 tape_size tape_bytes = some R) (H : Heap) (locs : List Loc) (ls : Array Slot) (hP : va_P D classes (wl_X9_write ad cs tape_size tape_bytes) H) (hD : va_D A (wl_X9_write ad cs tape_size tape_bytes)) (hS : va_S A s.heap H locs) (hl : lv_has ls 3 [(0, .ref (ad 23)), (1, .ref (k.1 i0))]) : W p l e rm_X9_write s m args below meth c H locs 0 0 (MQ below (Q_X9_write D cs ad  A R) args s 0 0 A) (F0 m 0 ls []) := by
  obtain ⟨hx, hb, hr, hml, hown, ht, hlocks⟩ := id C0
  refine lv_aload_n hx hb dX9_write_0 rfl (lv_at hl 0 rfl) ?_
  refine lv_iconst (v := (0 : Int32)) hx hb dX9_write_1 (by decide) ?_
  refine va_put (D := D) (ci := 9) (v := .int (0 : Int32)) (ty := .int) (C := RX9) (T := TX9) (N := 2) hx hb ht iX9 tyX9 tyX9_ok nmX9 hown hK hP hD hS 0 rfl rfl 1 (by decide) (ht _ kw_237) (fun _ h9 => h9) rfl (by decide +kernel) rfl rfl (Nat.le_of_ble_eq_true rfl) dX9_write_2 (fun H locs hP hD hS => ?_)
  have hP : va_P D classes (wl_X9_write ad cs (0 : Int32) tape_bytes) H := hP
  have hD : va_D A (wl_X9_write ad cs (0 : Int32) tape_bytes) := hD
  refine lv_iconst (v := (0 : Int32)) hx hb dX9_write_5 (by decide) ?_
  refine lv_istore_n (lv' := [(2, .int (0 : Int32)), (0, .ref (ad 23)), (1, .ref (k.1 i0))]) hx hb dX9_write_6 rfl hl (by decide) rfl (fun ls hl => ?_)
  exact ih7 (0 : Int32) (0 : Int32) tape_bytes h H locs ls hP hD hS (lv_sub hl [1, 2, 0] rfl)
theorem LG_X9_write {p : Program} {l : Launch} {e : Env} {s : State} {m : MethodId} {args : Array Value} {below : List Frame} {meth : Method} {c : Code} {A : Nat → Prop} {D : va_G} {cs : Nat → ClassId} {ad : Nat → Nat} {R : Int32 × (Nat → Int32)} (C0 : zC p s m args meth c cX9_write 3 none RX9 zW) (hK : va_K D classes (zT cs) s) {k : (Nat → Nat) × (Nat → Nat)} (hO : zO s) (hE : zE k A s) {i0 : Nat} (hi0 : i0 < 5) (hA : ∀ q : Nat, s.heap.size ≤ q → A q) : ∀ n : Nat, (∀ (x2 : Int32) (tape_size : Int32) (tape_bytes : Nat → Int32) (h : (G_X9_write    n) i0 x2 tape_size tape_bytes = some R) (H : Heap) (locs : List Loc) (ls : Array Slot) (hP : va_P D classes (wl_X9_write ad cs tape_size tape_bytes) H) (hD : va_D A (wl_X9_write ad cs tape_size tape_bytes)) (hS : va_S A s.heap H locs) (hl : lv_has ls 3 [(0, .ref (ad 23)), (1, .ref (k.1 i0)), (2, .int x2)]), W p l e rm_X9_write s m args below meth c H locs 0 0 (MQ below (Q_X9_write D cs ad  A R) args s 0 0 A) (F0 m 7 ls [])) := by
  intro n
  induction n with
  | zero =>
    refine ?_ <;> (intros; rename_i h _ _ _ _ _ _ _; cases h)
  | succ n ih =>
    exact L_X9_write_7 C0 hK hO hE hi0 hA  ih
set_option maxHeartbeats 4000000 in
set_option maxRecDepth 100000 in
theorem c_X9_write (l : Launch) (D : va_G) (cs : Nat → ClassId) (ad : Nat → Nat) (k : (Nat → Nat) × (Nat → Nat)) (i0 : Nat) (hi0 : i0 < 5) (sz : Nat) (n : Nat)  (tape_size : Int32) (tape_bytes : Nat → Int32) (R : Int32 × (Nat → Int32)) (h : f_X9_write   n i0 tape_size tape_bytes = some R) : Met l yX9_write (z_X9_write) rm_X9_write (va_Pc [.ref (ad 23), .ref (k.1 i0)] (zPreE k D cs (wl_X9_write ad cs tape_size tape_bytes) sz)) (Q_X9_write D cs ad  (va_A (wl_X9_write ad cs tape_size tape_bytes) sz) R) 0 0 (va_A (wl_X9_write ad cs tape_size tape_bytes) sz) := by
  refine Met.ofW (cc := cX9_write) (maxL := 3) (ret := none) (by decide) rfl ?_
  intro p e s m args below meth c s₁ B hml hv
  obtain ⟨rfl, ⟨⟨hsz, hP, hK, hD0⟩, hO⟩, hE⟩ := hv
  subst hsz
  have hD := hD0.self (sz := s.heap.size)
  have C0 : zC p s m _ meth c cX9_write 3 none RX9 zW := ⟨B.exec, B.bytes, B.returns, hml, findClass_of_methodNamed B.named, fun w hw => atoms_spec (ws := z_X9_write) B.pre w (List.mem_cons_of_mem _ hw), B.notSynchronized⟩
  have hA : ∀ q : Nat, s.heap.size ≤ q → va_A (wl_X9_write ad cs tape_size tape_bytes) s.heap.size q := fun q h => Or.inr h
  have hl := lv_entry ([.ref (ad 23), .ref (k.1 i0)]) (n := 3) (Nat.le_of_ble_eq_true rfl)
  rw [lg_entry_eq]
  generalize (lg_sl ([.ref (ad 23), .ref (k.1 i0)]) ++ List.replicate (3 - (lg_sl ([.ref (ad 23), .ref (k.1 i0)])).length) Slot.unset).toArray = ls at hl ⊢
  exact L_X9_write_0 C0 hK hO hE hi0 hA  ((LG_X9_write C0 hK hO hE hi0 hA  n))  tape_size tape_bytes h s.heap [] ls hP hD va_S.rf hl
theorem kw_274 : Cond.fieldLink RX5 15 "AlreadyJudged$LawReader" "tape" "LAlreadyJudged$Tape;" ∈ zW := zwC (i := 200) zc_1 rfl rfl
theorem kw_277 : Cond.fieldLink RX5 19 "AlreadyJudged$LawReader" "at" "I" ∈ zW := zwC (i := 203) zc_1 rfl rfl
theorem kw_278 : Cond.fieldLink RX5 26 "AlreadyJudged$LawReader" "fault" "I" ∈ zW := zwC (i := 204) zc_1 rfl rfl
theorem kw_553 : Cond.methodLink RX5 68 yX9_byteAt ∈ zW := zwC (i := 239) zc_2 rfl rfl
theorem zh_cX5_accept_0 : zck [42, 180, 0, 26, 156, 0, 18, 42, 180, 0, 15, 42, 180, 0, 19, 182, 0, 68, 27, 159, 0, 5] (zdu 0 cX5_accept.data.toList) = true := by decide +kernel
theorem dX5_accept_0 : decode cX5_accept 0 = .ok (.aload_n 0, 1) := zo_42 zh_cX5_accept_0 0 rfl
theorem dX5_accept_1 : decode cX5_accept 1 = .ok (.getfield 26, 3) := zo_180 zh_cX5_accept_0 1 rfl
theorem dX5_accept_4 : decode cX5_accept 4 = .ok (.ifCond .ge 18, 3) := zo_p156 zh_cX5_accept_0 4 18 rfl rfl
theorem dX5_accept_7 : decode cX5_accept 7 = .ok (.aload_n 0, 1) := zo_42 zh_cX5_accept_0 7 rfl
theorem dX5_accept_8 : decode cX5_accept 8 = .ok (.getfield 15, 3) := zo_180 zh_cX5_accept_0 8 rfl
theorem dX5_accept_11 : decode cX5_accept 11 = .ok (.aload_n 0, 1) := zo_42 zh_cX5_accept_0 11 rfl
theorem dX5_accept_12 : decode cX5_accept 12 = .ok (.getfield 19, 3) := zo_180 zh_cX5_accept_0 12 rfl
theorem dX5_accept_15 : decode cX5_accept 15 = .ok (.invokevirtual 68, 3) := zo_182 zh_cX5_accept_0 15 rfl
theorem dX5_accept_18 : decode cX5_accept 18 = .ok (.iload_n 1, 1) := zo_27 zh_cX5_accept_0 18 rfl
theorem dX5_accept_19 : decode cX5_accept 19 = .ok (.if_icmp .eq 5, 3) := zo_p159 zh_cX5_accept_0 19 5 rfl rfl
theorem zh_cX5_accept_1 : zck [0, 5, 3, 172, 42, 89, 180, 0, 19, 4, 96, 181, 0, 19, 4, 172] (zdu 20 cX5_accept.data.toList) = true := by decide +kernel
theorem dX5_accept_22 : decode cX5_accept 22 = .ok (.iconst 0, 1) := zo_3 zh_cX5_accept_1 2 rfl
theorem dX5_accept_23 : decode cX5_accept 23 = .ok (.ireturn, 1) := zo_172 zh_cX5_accept_1 3 rfl
theorem dX5_accept_24 : decode cX5_accept 24 = .ok (.aload_n 0, 1) := zo_42 zh_cX5_accept_1 4 rfl
theorem dX5_accept_25 : decode cX5_accept 25 = .ok (.dup, 1) := zo_89 zh_cX5_accept_1 5 rfl
theorem dX5_accept_26 : decode cX5_accept 26 = .ok (.getfield 19, 3) := zo_180 zh_cX5_accept_1 6 rfl
theorem dX5_accept_29 : decode cX5_accept 29 = .ok (.iconst 1, 1) := zo_4 zh_cX5_accept_1 9 rfl
theorem dX5_accept_30 : decode cX5_accept 30 = .ok (.iadd, 1) := zo_96 zh_cX5_accept_1 10 rfl
theorem dX5_accept_31 : decode cX5_accept 31 = .ok (.putfield 19, 3) := zo_181 zh_cX5_accept_1 11 rfl
theorem dX5_accept_34 : decode cX5_accept 34 = .ok (.iconst 1, 1) := zo_4 zh_cX5_accept_1 14 rfl
theorem dX5_accept_35 : decode cX5_accept 35 = .ok (.ireturn, 1) := zo_172 zh_cX5_accept_1 15 rfl
abbrev z_X5_accept : List Cond := .code yX5_accept cX5_accept 2 (some .boolean) :: zW
abbrev wl_X5_accept (ad : Nat → Nat) (cs : Nat → ClassId)  (tape_size : Int32) (tape_bytes : Nat → Int32) (lr_size : Int32) (lr_at : Int32) (lr_fault : Int32) : va_W := [((ad 23), .inr (9, [.ref (ad 24), .int tape_size])), ((ad 24), .inl (cs 0, 120, .inl tape_bytes)), ((ad 26), .inr (5, [.ref (ad 23), .ref (ad 27), .int lr_size, .int lr_at, .int lr_fault]))]
def Q_X5_accept (D : va_G) (cs : Nat → ClassId) (ad : Nat → Nat)  (tape_size : Int32) (tape_bytes : Nat → Int32) (lr_size : Int32) (lr_fault : Int32) (A : Nat → Prop) (R : Int32 × Int32) : Array Value → State → Outcome → State → Prop :=
  va_Qi (fun (r : Int32) (u : Int32) => (r, u) = R) (fun (u : Int32) (t : State) => va_P D classes (wl_X5_accept ad cs tape_size tape_bytes lr_size u lr_fault) t.heap ∧ va_D A (wl_X5_accept ad cs tape_size tape_bytes lr_size u lr_fault)) A
abbrev rm_X5_accept : Room := { frames := 1, cells := 0, slots := 0, locals := 21 }
theorem g_X5_68 : GoodIn zW (wsV RX5 68 RX9 yX9_byteAt z_X9_byteAt) := zGV kw_553 kw_554 kw_555 kw_78 kw_556
def B_X5_accept_0    (tape_size : Int32) (tape_bytes : Nat → Int32) (lr_size : Int32) (lr_fault : Int32) (x1 : Int32) (lr_at : Int32) : Option (Int32 × Int32) :=
  (if 0 ≤ lr_fault then (some ((0 : Int32), lr_at)) else (zk_b2 (f_X9_byteAt lr_at tape_size tape_bytes) (fun r_2 u_3 => (if r_2 = x1 then (zk_let (lr_at + (1 : Int32)) (fun v_6 => (some ((1 : Int32), v_6)))) else (some ((0 : Int32), lr_at))))))
def f_X5_accept   (x1 : Int32) (tape_size : Int32) (tape_bytes : Nat → Int32) (lr_size : Int32) (lr_at : Int32) (lr_fault : Int32) : Option (Int32 × Int32) := B_X5_accept_0   tape_size tape_bytes lr_size lr_fault x1 lr_at
set_option maxHeartbeats 4000000 in
set_option maxRecDepth 100000 in
theorem L_X5_accept_0 {p : Program} {l : Launch} {e : Env} {s : State} {m : MethodId} {args : Array Value} {below : List Frame} {meth : Method} {c : Code} {A : Nat → Prop} {D : va_G} {cs : Nat → ClassId} {ad : Nat → Nat} {tape_size : Int32} {tape_bytes : Nat → Int32} {lr_size : Int32} {lr_fault : Int32} {R : Int32 × Int32} (C0 : zC p s m args meth c cX5_accept 2 (some .boolean) RX5 zW) (hK : va_K D classes (zT cs) s) (hA : ∀ q : Nat, s.heap.size ≤ q → A q) (x1 : Int32) (lr_at : Int32) (h : B_X5_accept_0 tape_size tape_bytes lr_size lr_fault x1 lr_at = some R) (H : Heap) (locs : List Loc) (ls : Array Slot) (hP : va_P D classes (wl_X5_accept ad cs tape_size tape_bytes lr_size lr_at lr_fault) H) (hD : va_D A (wl_X5_accept ad cs tape_size tape_bytes lr_size lr_at lr_fault)) (hS : va_S A s.heap H locs) (hl : lv_has ls 2 [(0, .ref (ad 26)), (1, .int x1)]) : W p l e rm_X5_accept s m args below meth c H locs 0 0 (MQ below (Q_X5_accept D cs ad tape_size tape_bytes lr_size lr_fault A R) args s 0 0 A) (F0 m 0 ls []) := by
  obtain ⟨hx, hb, hr, hml, hown, ht, hlocks⟩ := id C0
  refine lv_aload_n hx hb dX5_accept_0 rfl (lv_at hl 0 rfl) ?_
  refine va_get (D := D) (ci := 5) (v := .int lr_fault) (C := RX5) (T := TX5) (N := 5) hx hb ht iX5 hown hK hP 2 rfl rfl 4 (by decide) (ht _ kw_278) (fun _ h9 => h9) rfl dX5_accept_1 ?_
  refine lv_if_ge (tgt := 22) hx hb dX5_accept_4 (by decide) (fun c_1 => ?_) (fun c_1 => ?_)
  · have h := zk_t c_1 h
    refine lv_iconst (v := (0 : Int32)) hx hb dX5_accept_22 (by decide) ?_
    exact W.zret (ty := .boolean) (v := (0 : Int32)) hx hb hr rfl (fun t ht2 hW => ⟨⟨(0 : Int32), lr_at, rfl, Option.some.inj h, by rw [ht2]; exact hP, hD⟩, hS.F ht2⟩) hS.2.2 dX5_accept_23 hlocks
  · have h := zk_f c_1 h
    refine lv_aload_n hx hb dX5_accept_7 rfl (lv_at hl 0 rfl) ?_
    refine va_get (D := D) (ci := 5) (v := .ref (ad 23)) (C := RX5) (T := TX5) (N := 5) hx hb ht iX5 hown hK hP 2 rfl rfl 0 (by decide) (ht _ kw_274) (fun _ h9 => h9) rfl dX5_accept_8 ?_
    refine lv_aload_n hx hb dX5_accept_11 rfl (lv_at hl 0 rfl) ?_
    refine va_get (D := D) (ci := 5) (v := .int lr_at) (C := RX5) (T := TX5) (N := 5) hx hb ht iX5 hown hK hP 2 rfl rfl 3 (by decide) (ht _ kw_277) (fun _ h9 => h9) rfl dX5_accept_12 ?_
    obtain ⟨r_2, u_3, hc_4, h⟩ := zk_o2 h
    refine zz_vi (post := (fun r u => (r, u) = (r_2, u_3))) (w1 := fun u => (wl_X9_byteAt ad cs tape_size tape_bytes)) (As := [.int lr_at]) (rest := []) (c_X9_byteAt l D cs ad  H.size lr_at tape_size tape_bytes (r_2, u_3) hc_4) ⟨hx, hb, hml, hown, ht⟩ (cwV 1 ht g_X5_68 rfl rfl rfl ⟨rfl, hd_X9_byteAt⟩ ⟨Nat.le_of_ble_eq_true rfl, Nat.le_of_ble_eq_true rfl⟩) (va_recv hK hP (ci := 9) (q0 := 0) rfl rfl) hP hD hS hK hA [0, 1] rfl rfl [(ad 23), (ad 24)] rfl (fun _ => rfl) rfl hl.1 (Nat.le_of_ble_eq_true rfl) dX5_accept_15 ⟨Nat.zero_le _, Nat.zero_le _⟩ (fun r u H locs hq hP hS => ?_)
    cases hq
    have hP : va_P D classes (wl_X5_accept ad cs tape_size tape_bytes lr_size lr_at lr_fault) H := hP
    have hD : va_D A (wl_X5_accept ad cs tape_size tape_bytes lr_size lr_at lr_fault) := zDk hD [(ad 23), (ad 24), (ad 26)] rfl rfl
    refine lv_iload_n hx hb dX5_accept_18 rfl (lv_at hl 1 rfl) ?_
    refine lv_icmp_eq (tgt := 24) hx hb dX5_accept_19 (by decide) (fun c_5 => ?_) (fun c_5 => ?_)
    · have h := zk_t c_5 h
      refine lv_aload_n hx hb dX5_accept_24 rfl (lv_at hl 0 rfl) ?_
      refine lv_dup hx hb dX5_accept_25 rfl ?_
      refine va_get (D := D) (ci := 5) (v := .int lr_at) (C := RX5) (T := TX5) (N := 5) hx hb ht iX5 hown hK hP 2 rfl rfl 3 (by decide) (ht _ kw_277) (fun _ h9 => h9) rfl dX5_accept_26 ?_
      refine lv_iconst (v := (1 : Int32)) hx hb dX5_accept_29 (by decide) ?_
      refine lv_iadd hx hb dX5_accept_30 ?_
      obtain ⟨v_6, ev_6, h⟩ := zk_lt h
      refine W.eq (g2 := F0 m 31 ls [.int v_6, .ref (ad 26)]) (by rw [ev_6]) ?_
      refine va_put (D := D) (ci := 5) (v := .int v_6) (ty := .int) (C := RX5) (T := TX5) (N := 5) hx hb ht iX5 tyX5 tyX5_ok nmX5 hown hK hP hD hS 2 rfl rfl 3 (by decide) (ht _ kw_277) (fun _ h9 => h9) rfl (by decide +kernel) rfl rfl (Nat.le_of_ble_eq_true rfl) dX5_accept_31 (fun H locs hP hD hS => ?_)
      have hP : va_P D classes (wl_X5_accept ad cs tape_size tape_bytes lr_size v_6 lr_fault) H := hP
      have hD : va_D A (wl_X5_accept ad cs tape_size tape_bytes lr_size v_6 lr_fault) := hD
      refine lv_iconst (v := (1 : Int32)) hx hb dX5_accept_34 (by decide) ?_
      exact W.zret (ty := .boolean) (v := (1 : Int32)) hx hb hr rfl (fun t ht2 hW => ⟨⟨(1 : Int32), v_6, rfl, Option.some.inj h, by rw [ht2]; exact hP, hD⟩, hS.F ht2⟩) hS.2.2 dX5_accept_35 hlocks
    · have h := zk_f c_5 h
      refine lv_iconst (v := (0 : Int32)) hx hb dX5_accept_22 (by decide) ?_
      exact W.zret (ty := .boolean) (v := (0 : Int32)) hx hb hr rfl (fun t ht2 hW => ⟨⟨(0 : Int32), lr_at, rfl, Option.some.inj h, by rw [ht2]; exact hP, hD⟩, hS.F ht2⟩) hS.2.2 dX5_accept_23 hlocks
set_option maxHeartbeats 4000000 in
set_option maxRecDepth 100000 in
theorem c_X5_accept (l : Launch) (D : va_G) (cs : Nat → ClassId) (ad : Nat → Nat) (sz : Nat) (x1 : Int32) (tape_size : Int32) (tape_bytes : Nat → Int32) (lr_size : Int32) (lr_at : Int32) (lr_fault : Int32) (R : Int32 × Int32) (h : f_X5_accept   x1 tape_size tape_bytes lr_size lr_at lr_fault = some R) : Met l yX5_accept (z_X5_accept) rm_X5_accept (va_Pc [.ref (ad 26), .int x1] (zPre D cs (wl_X5_accept ad cs tape_size tape_bytes lr_size lr_at lr_fault) sz)) (Q_X5_accept D cs ad tape_size tape_bytes lr_size lr_fault (va_A (wl_X5_accept ad cs tape_size tape_bytes lr_size lr_at lr_fault) sz) R) 0 0 (va_A (wl_X5_accept ad cs tape_size tape_bytes lr_size lr_at lr_fault) sz) := by
  refine Met.ofW (cc := cX5_accept) (maxL := 2) (ret := (some .boolean)) (by decide) rfl ?_
  intro p e s m args below meth c s₁ B hml hv
  obtain ⟨rfl, hsz, hP, hK, hD0⟩ := hv
  subst hsz
  have hD := hD0.self (sz := s.heap.size)
  have C0 : zC p s m _ meth c cX5_accept 2 (some .boolean) RX5 zW := ⟨B.exec, B.bytes, B.returns, hml, findClass_of_methodNamed B.named, fun w hw => atoms_spec (ws := z_X5_accept) B.pre w (List.mem_cons_of_mem _ hw), B.notSynchronized⟩
  have hA : ∀ q : Nat, s.heap.size ≤ q → va_A (wl_X5_accept ad cs tape_size tape_bytes lr_size lr_at lr_fault) s.heap.size q := fun q h => Or.inr h
  have hl := lv_entry ([.ref (ad 26), .int x1]) (n := 2) (Nat.le_of_ble_eq_true rfl)
  rw [lg_entry_eq]
  generalize (lg_sl ([.ref (ad 26), .int x1]) ++ List.replicate (2 - (lg_sl ([.ref (ad 26), .int x1])).length) Slot.unset).toArray = ls at hl ⊢
  exact L_X5_accept_0 C0 hK hA   x1 lr_at h s.heap [] ls hP hD va_S.rf hl
theorem zh_cX5_fail_0 : zck [42, 180, 0, 26, 156, 0, 11, 42, 42, 180, 0, 19, 181, 0, 26, 177] (zdu 0 cX5_fail.data.toList) = true := by decide +kernel
theorem dX5_fail_0 : decode cX5_fail 0 = .ok (.aload_n 0, 1) := zo_42 zh_cX5_fail_0 0 rfl
theorem dX5_fail_1 : decode cX5_fail 1 = .ok (.getfield 26, 3) := zo_180 zh_cX5_fail_0 1 rfl
theorem dX5_fail_4 : decode cX5_fail 4 = .ok (.ifCond .ge 11, 3) := zo_p156 zh_cX5_fail_0 4 11 rfl rfl
theorem dX5_fail_7 : decode cX5_fail 7 = .ok (.aload_n 0, 1) := zo_42 zh_cX5_fail_0 7 rfl
theorem dX5_fail_8 : decode cX5_fail 8 = .ok (.aload_n 0, 1) := zo_42 zh_cX5_fail_0 8 rfl
theorem dX5_fail_9 : decode cX5_fail 9 = .ok (.getfield 19, 3) := zo_180 zh_cX5_fail_0 9 rfl
theorem dX5_fail_12 : decode cX5_fail 12 = .ok (.putfield 26, 3) := zo_181 zh_cX5_fail_0 12 rfl
theorem dX5_fail_15 : decode cX5_fail 15 = .ok (.return_, 1) := zo_177 zh_cX5_fail_0 15 rfl
abbrev z_X5_fail : List Cond := .code yX5_fail cX5_fail 1 none :: zW
abbrev wl_X5_fail (ad : Nat → Nat) (cs : Nat → ClassId)  (lr_size : Int32) (lr_at : Int32) (lr_fault : Int32) : va_W := [((ad 26), .inr (5, [.ref (ad 23), .ref (ad 27), .int lr_size, .int lr_at, .int lr_fault]))]
def Q_X5_fail (D : va_G) (cs : Nat → ClassId) (ad : Nat → Nat)  (lr_size : Int32) (lr_at : Int32) (A : Nat → Prop) (R : Int32) : Array Value → State → Outcome → State → Prop :=
  va_Qv (fun u : Int32 => u = R) (fun (u : Int32) (t : State) => va_P D classes (wl_X5_fail ad cs lr_size lr_at u) t.heap ∧ va_D A (wl_X5_fail ad cs lr_size lr_at u)) A
abbrev rm_X5_fail : Room := { frames := 0, cells := 0, slots := 0, locals := 0 }
def B_X5_fail_0    (lr_size : Int32) (lr_at : Int32) (lr_fault : Int32) : Option (Int32) :=
  (if 0 ≤ lr_fault then (some lr_fault) else (some lr_at))
def f_X5_fail    (lr_size : Int32) (lr_at : Int32) (lr_fault : Int32) : Option (Int32) := B_X5_fail_0   lr_size lr_at  lr_fault
set_option maxHeartbeats 4000000 in
set_option maxRecDepth 100000 in
theorem L_X5_fail_0 {p : Program} {l : Launch} {e : Env} {s : State} {m : MethodId} {args : Array Value} {below : List Frame} {meth : Method} {c : Code} {A : Nat → Prop} {D : va_G} {cs : Nat → ClassId} {ad : Nat → Nat} {lr_size : Int32} {lr_at : Int32} {R : Int32} (C0 : zC p s m args meth c cX5_fail 1 none RX5 zW) (hK : va_K D classes (zT cs) s) (hA : ∀ q : Nat, s.heap.size ≤ q → A q) (lr_fault : Int32) (h : B_X5_fail_0 lr_size lr_at lr_fault = some R) (H : Heap) (locs : List Loc) (ls : Array Slot) (hP : va_P D classes (wl_X5_fail ad cs lr_size lr_at lr_fault) H) (hD : va_D A (wl_X5_fail ad cs lr_size lr_at lr_fault)) (hS : va_S A s.heap H locs) (hl : lv_has ls 1 [(0, .ref (ad 26))]) : W p l e rm_X5_fail s m args below meth c H locs 0 0 (MQ below (Q_X5_fail D cs ad lr_size lr_at A R) args s 0 0 A) (F0 m 0 ls []) := by
  obtain ⟨hx, hb, hr, hml, hown, ht, hlocks⟩ := id C0
  refine lv_aload_n hx hb dX5_fail_0 rfl (lv_at hl 0 rfl) ?_
  refine va_get (D := D) (ci := 5) (v := .int lr_fault) (C := RX5) (T := TX5) (N := 5) hx hb ht iX5 hown hK hP 0 rfl rfl 4 (by decide) (ht _ kw_278) (fun _ h9 => h9) rfl dX5_fail_1 ?_
  refine lv_if_ge (tgt := 15) hx hb dX5_fail_4 (by decide) (fun c_1 => ?_) (fun c_1 => ?_)
  · have h := zk_t c_1 h
    exact W.vret hx hb hr (fun t ht2 hW => ⟨⟨lr_fault, rfl, Option.some.inj h, by rw [ht2]; exact hP, hD⟩, hS.F ht2⟩) hS.2.2 dX5_fail_15 hlocks
  · have h := zk_f c_1 h
    refine lv_aload_n hx hb dX5_fail_7 rfl (lv_at hl 0 rfl) ?_
    refine lv_aload_n hx hb dX5_fail_8 rfl (lv_at hl 0 rfl) ?_
    refine va_get (D := D) (ci := 5) (v := .int lr_at) (C := RX5) (T := TX5) (N := 5) hx hb ht iX5 hown hK hP 0 rfl rfl 3 (by decide) (ht _ kw_277) (fun _ h9 => h9) rfl dX5_fail_9 ?_
    refine va_put (D := D) (ci := 5) (v := .int lr_at) (ty := .int) (C := RX5) (T := TX5) (N := 5) hx hb ht iX5 tyX5 tyX5_ok nmX5 hown hK hP hD hS 0 rfl rfl 4 (by decide) (ht _ kw_278) (fun _ h9 => h9) rfl (by decide +kernel) rfl rfl (Nat.le_of_ble_eq_true rfl) dX5_fail_12 (fun H locs hP hD hS => ?_)
    have hP : va_P D classes (wl_X5_fail ad cs lr_size lr_at lr_at) H := hP
    have hD : va_D A (wl_X5_fail ad cs lr_size lr_at lr_at) := hD
    exact W.vret hx hb hr (fun t ht2 hW => ⟨⟨lr_at, rfl, Option.some.inj h, by rw [ht2]; exact hP, hD⟩, hS.F ht2⟩) hS.2.2 dX5_fail_15 hlocks
set_option maxHeartbeats 4000000 in
set_option maxRecDepth 100000 in
theorem c_X5_fail (l : Launch) (D : va_G) (cs : Nat → ClassId) (ad : Nat → Nat) (sz : Nat)  (lr_size : Int32) (lr_at : Int32) (lr_fault : Int32) (R : Int32) (h : f_X5_fail    lr_size lr_at lr_fault = some R) : Met l yX5_fail (z_X5_fail) rm_X5_fail (va_Pc [.ref (ad 26)] (zPre D cs (wl_X5_fail ad cs lr_size lr_at lr_fault) sz)) (Q_X5_fail D cs ad lr_size lr_at (va_A (wl_X5_fail ad cs lr_size lr_at lr_fault) sz) R) 0 0 (va_A (wl_X5_fail ad cs lr_size lr_at lr_fault) sz) := by
  refine Met.ofW (cc := cX5_fail) (maxL := 1) (ret := none) (by decide) rfl ?_
  intro p e s m args below meth c s₁ B hml hv
  obtain ⟨rfl, hsz, hP, hK, hD0⟩ := hv
  subst hsz
  have hD := hD0.self (sz := s.heap.size)
  have C0 : zC p s m _ meth c cX5_fail 1 none RX5 zW := ⟨B.exec, B.bytes, B.returns, hml, findClass_of_methodNamed B.named, fun w hw => atoms_spec (ws := z_X5_fail) B.pre w (List.mem_cons_of_mem _ hw), B.notSynchronized⟩
  have hA : ∀ q : Nat, s.heap.size ≤ q → va_A (wl_X5_fail ad cs lr_size lr_at lr_fault) s.heap.size q := fun q h => Or.inr h
  have hl := lv_entry ([.ref (ad 26)]) (n := 1) (Nat.le_of_ble_eq_true rfl)
  rw [lg_entry_eq]
  generalize (lg_sl ([.ref (ad 26)]) ++ List.replicate (1 - (lg_sl ([.ref (ad 26)])).length) Slot.unset).toArray = ls at hl ⊢
  exact L_X5_fail_0 C0 hK hA    lr_fault h s.heap [] ls hP hD va_S.rf hl
theorem kw_275 : Cond.fieldLink RX5 9 "AlreadyJudged$LawReader" "code" "[I" ∈ zW := zwC (i := 201) zc_1 rfl rfl
theorem kw_276 : Cond.fieldLink RX5 23 "AlreadyJudged$LawReader" "size" "I" ∈ zW := zwC (i := 202) zc_1 rfl rfl
theorem zh_cX5_emit_0 : zck [42, 180, 0, 26, 156, 0, 35, 42, 180, 0, 23, 42, 180, 0, 9, 190, 162, 0, 23, 42, 180, 0] (zdu 0 cX5_emit.data.toList) = true := by decide +kernel
theorem dX5_emit_0 : decode cX5_emit 0 = .ok (.aload_n 0, 1) := zo_42 zh_cX5_emit_0 0 rfl
theorem dX5_emit_1 : decode cX5_emit 1 = .ok (.getfield 26, 3) := zo_180 zh_cX5_emit_0 1 rfl
theorem dX5_emit_4 : decode cX5_emit 4 = .ok (.ifCond .ge 35, 3) := zo_p156 zh_cX5_emit_0 4 35 rfl rfl
theorem dX5_emit_7 : decode cX5_emit 7 = .ok (.aload_n 0, 1) := zo_42 zh_cX5_emit_0 7 rfl
theorem dX5_emit_8 : decode cX5_emit 8 = .ok (.getfield 23, 3) := zo_180 zh_cX5_emit_0 8 rfl
theorem dX5_emit_11 : decode cX5_emit 11 = .ok (.aload_n 0, 1) := zo_42 zh_cX5_emit_0 11 rfl
theorem dX5_emit_12 : decode cX5_emit 12 = .ok (.getfield 9, 3) := zo_180 zh_cX5_emit_0 12 rfl
theorem dX5_emit_15 : decode cX5_emit 15 = .ok (.arraylength, 1) := zo_190 zh_cX5_emit_0 15 rfl
theorem dX5_emit_16 : decode cX5_emit 16 = .ok (.if_icmp .ge 23, 3) := zo_p162 zh_cX5_emit_0 16 23 rfl rfl
theorem dX5_emit_19 : decode cX5_emit 19 = .ok (.aload_n 0, 1) := zo_42 zh_cX5_emit_0 19 rfl
theorem zh_cX5_emit_1 : zck [180, 0, 9, 42, 180, 0, 23, 27, 79, 42, 89, 180, 0, 23, 4, 96, 181, 0, 23, 177] (zdu 20 cX5_emit.data.toList) = true := by decide +kernel
theorem dX5_emit_20 : decode cX5_emit 20 = .ok (.getfield 9, 3) := zo_180 zh_cX5_emit_1 0 rfl
theorem dX5_emit_23 : decode cX5_emit 23 = .ok (.aload_n 0, 1) := zo_42 zh_cX5_emit_1 3 rfl
theorem dX5_emit_24 : decode cX5_emit 24 = .ok (.getfield 23, 3) := zo_180 zh_cX5_emit_1 4 rfl
theorem dX5_emit_27 : decode cX5_emit 27 = .ok (.iload_n 1, 1) := zo_27 zh_cX5_emit_1 7 rfl
theorem dX5_emit_28 : decode cX5_emit 28 = .ok (.iastore, 1) := zo_79 zh_cX5_emit_1 8 rfl
theorem dX5_emit_29 : decode cX5_emit 29 = .ok (.aload_n 0, 1) := zo_42 zh_cX5_emit_1 9 rfl
theorem dX5_emit_30 : decode cX5_emit 30 = .ok (.dup, 1) := zo_89 zh_cX5_emit_1 10 rfl
theorem dX5_emit_31 : decode cX5_emit 31 = .ok (.getfield 23, 3) := zo_180 zh_cX5_emit_1 11 rfl
theorem dX5_emit_34 : decode cX5_emit 34 = .ok (.iconst 1, 1) := zo_4 zh_cX5_emit_1 14 rfl
theorem dX5_emit_35 : decode cX5_emit 35 = .ok (.iadd, 1) := zo_96 zh_cX5_emit_1 15 rfl
theorem dX5_emit_36 : decode cX5_emit 36 = .ok (.putfield 23, 3) := zo_181 zh_cX5_emit_1 16 rfl
theorem dX5_emit_39 : decode cX5_emit 39 = .ok (.return_, 1) := zo_177 zh_cX5_emit_1 19 rfl
abbrev z_X5_emit : List Cond := .code yX5_emit cX5_emit 2 none :: zW
abbrev wl_X5_emit (ad : Nat → Nat) (cs : Nat → ClassId)  (lr_size : Int32) (lr_at : Int32) (lr_fault : Int32) (lr_code : Nat → Int32) : va_W := [((ad 26), .inr (5, [.ref (ad 23), .ref (ad 27), .int lr_size, .int lr_at, .int lr_fault])), ((ad 27), .inl (cs 0, 121, .inl lr_code))]
def Q_X5_emit (D : va_G) (cs : Nat → ClassId) (ad : Nat → Nat)  (lr_at : Int32) (lr_fault : Int32) (A : Nat → Prop) (R : Int32 × (Nat → Int32)) : Array Value → State → Outcome → State → Prop :=
  va_Qv (fun u : Int32 × (Nat → Int32) => u = R) (fun (u : Int32 × (Nat → Int32)) (t : State) => va_P D classes (wl_X5_emit ad cs u.1 lr_at lr_fault u.2) t.heap ∧ va_D A (wl_X5_emit ad cs u.1 lr_at lr_fault u.2)) A
abbrev rm_X5_emit : Room := { frames := 0, cells := 0, slots := 0, locals := 0 }
def B_X5_emit_0    (lr_at : Int32) (lr_fault : Int32) (x1 : Int32) (lr_size : Int32) (lr_code : Nat → Int32) : Option (Int32 × (Nat → Int32)) :=
  (if 0 ≤ lr_fault then (some (lr_size, lr_code)) else (if (121 : Int32) ≤ lr_size then (some (lr_size, lr_code)) else (if (lr_size < 0 ∨ 121 ≤ lr_size.toNatClampNeg) then none else (zk_let (upd lr_code lr_size.toNatClampNeg x1) (fun f_4 => (zk_let (lr_size + (1 : Int32)) (fun v_5 => (some (v_5, f_4)))))))))
def f_X5_emit   (x1 : Int32) (lr_size : Int32) (lr_at : Int32) (lr_fault : Int32) (lr_code : Nat → Int32) : Option (Int32 × (Nat → Int32)) := B_X5_emit_0   lr_at lr_fault x1 lr_size lr_code
set_option maxHeartbeats 4000000 in
set_option maxRecDepth 100000 in
theorem L_X5_emit_0 {p : Program} {l : Launch} {e : Env} {s : State} {m : MethodId} {args : Array Value} {below : List Frame} {meth : Method} {c : Code} {A : Nat → Prop} {D : va_G} {cs : Nat → ClassId} {ad : Nat → Nat} {lr_at : Int32} {lr_fault : Int32} {R : Int32 × (Nat → Int32)} (C0 : zC p s m args meth c cX5_emit 2 none RX5 zW) (hK : va_K D classes (zT cs) s) (hA : ∀ q : Nat, s.heap.size ≤ q → A q) (x1 : Int32) (lr_size : Int32) (lr_code : Nat → Int32) (h : B_X5_emit_0 lr_at lr_fault x1 lr_size lr_code = some R) (H : Heap) (locs : List Loc) (ls : Array Slot) (hP : va_P D classes (wl_X5_emit ad cs lr_size lr_at lr_fault lr_code) H) (hD : va_D A (wl_X5_emit ad cs lr_size lr_at lr_fault lr_code)) (hS : va_S A s.heap H locs) (hl : lv_has ls 2 [(0, .ref (ad 26)), (1, .int x1)]) : W p l e rm_X5_emit s m args below meth c H locs 0 0 (MQ below (Q_X5_emit D cs ad lr_at lr_fault A R) args s 0 0 A) (F0 m 0 ls []) := by
  obtain ⟨hx, hb, hr, hml, hown, ht, hlocks⟩ := id C0
  refine lv_aload_n hx hb dX5_emit_0 rfl (lv_at hl 0 rfl) ?_
  refine va_get (D := D) (ci := 5) (v := .int lr_fault) (C := RX5) (T := TX5) (N := 5) hx hb ht iX5 hown hK hP 0 rfl rfl 4 (by decide) (ht _ kw_278) (fun _ h9 => h9) rfl dX5_emit_1 ?_
  refine lv_if_ge (tgt := 39) hx hb dX5_emit_4 (by decide) (fun c_1 => ?_) (fun c_1 => ?_)
  · have h := zk_t c_1 h
    exact W.vret hx hb hr (fun t ht2 hW => ⟨⟨(lr_size, lr_code), rfl, Option.some.inj h, by rw [ht2]; exact hP, hD⟩, hS.F ht2⟩) hS.2.2 dX5_emit_39 hlocks
  · have h := zk_f c_1 h
    refine lv_aload_n hx hb dX5_emit_7 rfl (lv_at hl 0 rfl) ?_
    refine va_get (D := D) (ci := 5) (v := .int lr_size) (C := RX5) (T := TX5) (N := 5) hx hb ht iX5 hown hK hP 0 rfl rfl 2 (by decide) (ht _ kw_276) (fun _ h9 => h9) rfl dX5_emit_8 ?_
    refine lv_aload_n hx hb dX5_emit_11 rfl (lv_at hl 0 rfl) ?_
    refine va_get (D := D) (ci := 5) (v := .ref (ad 27)) (C := RX5) (T := TX5) (N := 5) hx hb ht iX5 hown hK hP 0 rfl rfl 1 (by decide) (ht _ kw_275) (fun _ h9 => h9) rfl dX5_emit_12 ?_
    refine va_alen (v := (121 : Int32)) hx hb hK hP 1 0 rfl rfl rfl dX5_emit_15 ?_
    refine lv_icmp_ge (tgt := 39) hx hb dX5_emit_16 (by decide) (fun c_2 => ?_) (fun c_2 => ?_)
    · have h := zk_t c_2 h
      exact W.vret hx hb hr (fun t ht2 hW => ⟨⟨(lr_size, lr_code), rfl, Option.some.inj h, by rw [ht2]; exact hP, hD⟩, hS.F ht2⟩) hS.2.2 dX5_emit_39 hlocks
    · have h := zk_f c_2 h
      refine lv_aload_n hx hb dX5_emit_19 rfl (lv_at hl 0 rfl) ?_
      refine va_get (D := D) (ci := 5) (v := .ref (ad 27)) (C := RX5) (T := TX5) (N := 5) hx hb ht iX5 hown hK hP 0 rfl rfl 1 (by decide) (ht _ kw_275) (fun _ h9 => h9) rfl dX5_emit_20 ?_
      refine lv_aload_n hx hb dX5_emit_23 rfl (lv_at hl 0 rfl) ?_
      refine va_get (D := D) (ci := 5) (v := .int lr_size) (C := RX5) (T := TX5) (N := 5) hx hb ht iX5 hown hK hP 0 rfl rfl 2 (by decide) (ht _ kw_276) (fun _ h9 => h9) rfl dX5_emit_24 ?_
      refine lv_iload_n hx hb dX5_emit_27 rfl (lv_at hl 1 rfl) ?_
      obtain ⟨g_3, h⟩ := zk_gd h
      obtain ⟨f_4, ef_4, h⟩ := zk_lt h
      refine va_iast hx hb hK hP hD hS 1 0 rfl rfl g_3 dX5_emit_28 (fun H locs hP hD hS => ?_)
      have hP : va_P D classes (wl_X5_emit ad cs lr_size lr_at lr_fault f_4) H := by rw [ef_4]; exact hP
      have hD : va_D A (wl_X5_emit ad cs lr_size lr_at lr_fault f_4) := by rw [ef_4]; exact hD
      refine lv_aload_n hx hb dX5_emit_29 rfl (lv_at hl 0 rfl) ?_
      refine lv_dup hx hb dX5_emit_30 rfl ?_
      refine va_get (D := D) (ci := 5) (v := .int lr_size) (C := RX5) (T := TX5) (N := 5) hx hb ht iX5 hown hK hP 0 rfl rfl 2 (by decide) (ht _ kw_276) (fun _ h9 => h9) rfl dX5_emit_31 ?_
      refine lv_iconst (v := (1 : Int32)) hx hb dX5_emit_34 (by decide) ?_
      refine lv_iadd hx hb dX5_emit_35 ?_
      obtain ⟨v_5, ev_5, h⟩ := zk_lt h
      refine W.eq (g2 := F0 m 36 ls [.int v_5, .ref (ad 26)]) (by rw [ev_5]) ?_
      refine va_put (D := D) (ci := 5) (v := .int v_5) (ty := .int) (C := RX5) (T := TX5) (N := 5) hx hb ht iX5 tyX5 tyX5_ok nmX5 hown hK hP hD hS 0 rfl rfl 2 (by decide) (ht _ kw_276) (fun _ h9 => h9) rfl (by decide +kernel) rfl rfl (Nat.le_of_ble_eq_true rfl) dX5_emit_36 (fun H locs hP hD hS => ?_)
      have hP : va_P D classes (wl_X5_emit ad cs v_5 lr_at lr_fault f_4) H := hP
      have hD : va_D A (wl_X5_emit ad cs v_5 lr_at lr_fault f_4) := hD
      exact W.vret hx hb hr (fun t ht2 hW => ⟨⟨(v_5, f_4), rfl, Option.some.inj h, by rw [ht2]; exact hP, hD⟩, hS.F ht2⟩) hS.2.2 dX5_emit_39 hlocks
set_option maxHeartbeats 4000000 in
set_option maxRecDepth 100000 in
theorem c_X5_emit (l : Launch) (D : va_G) (cs : Nat → ClassId) (ad : Nat → Nat) (sz : Nat) (x1 : Int32) (lr_size : Int32) (lr_at : Int32) (lr_fault : Int32) (lr_code : Nat → Int32) (R : Int32 × (Nat → Int32)) (h : f_X5_emit   x1 lr_size lr_at lr_fault lr_code = some R) : Met l yX5_emit (z_X5_emit) rm_X5_emit (va_Pc [.ref (ad 26), .int x1] (zPre D cs (wl_X5_emit ad cs lr_size lr_at lr_fault lr_code) sz)) (Q_X5_emit D cs ad lr_at lr_fault (va_A (wl_X5_emit ad cs lr_size lr_at lr_fault lr_code) sz) R) 0 0 (va_A (wl_X5_emit ad cs lr_size lr_at lr_fault lr_code) sz) := by
  refine Met.ofW (cc := cX5_emit) (maxL := 2) (ret := none) (by decide) rfl ?_
  intro p e s m args below meth c s₁ B hml hv
  obtain ⟨rfl, hsz, hP, hK, hD0⟩ := hv
  subst hsz
  have hD := hD0.self (sz := s.heap.size)
  have C0 : zC p s m _ meth c cX5_emit 2 none RX5 zW := ⟨B.exec, B.bytes, B.returns, hml, findClass_of_methodNamed B.named, fun w hw => atoms_spec (ws := z_X5_emit) B.pre w (List.mem_cons_of_mem _ hw), B.notSynchronized⟩
  have hA : ∀ q : Nat, s.heap.size ≤ q → va_A (wl_X5_emit ad cs lr_size lr_at lr_fault lr_code) s.heap.size q := fun q h => Or.inr h
  have hl := lv_entry ([.ref (ad 26), .int x1]) (n := 2) (Nat.le_of_ble_eq_true rfl)
  rw [lg_entry_eq]
  generalize (lg_sl ([.ref (ad 26), .int x1]) ++ List.replicate (2 - (lg_sl ([.ref (ad 26), .int x1])).length) Slot.unset).toArray = ls at hl ⊢
  exact L_X5_emit_0 C0 hK hA   x1 lr_size lr_code h s.heap [] ls hP hD va_S.rf hl
theorem kw_80 : Cond.initialized RX5 ∈ zW := zwC (i := 6) zc_1 rfl rfl
theorem kw_574 : Cond.methodLink RX5 39 yX5_fail ∈ zW := zwC (i := 20) zc_3 rfl rfl
theorem kw_575 : Cond.instanceMethod yX5_fail ∈ zW := zwC (i := 21) zc_3 rfl rfl
theorem kw_576 : Cond.selects RX5 yX5_fail yX5_fail ∈ zW := zwC (i := 22) zc_3 rfl rfl
theorem kw_577 : Cond.code yX5_fail cX5_fail 1 none ∈ zW := zwC (i := 23) zc_3 rfl rfl
theorem zh_cX5_mayOpen_0 : zck [27, 16, 6, 161, 0, 9, 42, 182, 0, 39, 3, 172, 42, 89, 180, 0, 19, 4, 96, 181, 0, 19] (zdu 0 cX5_mayOpen.data.toList) = true := by decide +kernel
theorem dX5_mayOpen_0 : decode cX5_mayOpen 0 = .ok (.iload_n 1, 1) := zo_27 zh_cX5_mayOpen_0 0 rfl
theorem dX5_mayOpen_1 : decode cX5_mayOpen 1 = .ok (.bipush 6, 2) := zo_p16 zh_cX5_mayOpen_0 1 6 rfl rfl
theorem dX5_mayOpen_3 : decode cX5_mayOpen 3 = .ok (.if_icmp .lt 9, 3) := zo_p161 zh_cX5_mayOpen_0 3 9 rfl rfl
theorem dX5_mayOpen_6 : decode cX5_mayOpen 6 = .ok (.aload_n 0, 1) := zo_42 zh_cX5_mayOpen_0 6 rfl
theorem dX5_mayOpen_7 : decode cX5_mayOpen 7 = .ok (.invokevirtual 39, 3) := zo_182 zh_cX5_mayOpen_0 7 rfl
theorem dX5_mayOpen_10 : decode cX5_mayOpen 10 = .ok (.iconst 0, 1) := zo_3 zh_cX5_mayOpen_0 10 rfl
theorem dX5_mayOpen_11 : decode cX5_mayOpen 11 = .ok (.ireturn, 1) := zo_172 zh_cX5_mayOpen_0 11 rfl
theorem dX5_mayOpen_12 : decode cX5_mayOpen 12 = .ok (.aload_n 0, 1) := zo_42 zh_cX5_mayOpen_0 12 rfl
theorem dX5_mayOpen_13 : decode cX5_mayOpen 13 = .ok (.dup, 1) := zo_89 zh_cX5_mayOpen_0 13 rfl
theorem dX5_mayOpen_14 : decode cX5_mayOpen 14 = .ok (.getfield 19, 3) := zo_180 zh_cX5_mayOpen_0 14 rfl
theorem dX5_mayOpen_17 : decode cX5_mayOpen 17 = .ok (.iconst 1, 1) := zo_4 zh_cX5_mayOpen_0 17 rfl
theorem dX5_mayOpen_18 : decode cX5_mayOpen 18 = .ok (.iadd, 1) := zo_96 zh_cX5_mayOpen_0 18 rfl
theorem dX5_mayOpen_19 : decode cX5_mayOpen 19 = .ok (.putfield 19, 3) := zo_181 zh_cX5_mayOpen_0 19 rfl
theorem zh_cX5_mayOpen_1 : zck [0, 19, 4, 172] (zdu 20 cX5_mayOpen.data.toList) = true := by decide +kernel
theorem dX5_mayOpen_22 : decode cX5_mayOpen 22 = .ok (.iconst 1, 1) := zo_4 zh_cX5_mayOpen_1 2 rfl
theorem dX5_mayOpen_23 : decode cX5_mayOpen 23 = .ok (.ireturn, 1) := zo_172 zh_cX5_mayOpen_1 3 rfl
abbrev z_X5_mayOpen : List Cond := .code yX5_mayOpen cX5_mayOpen 2 (some .boolean) :: zW
abbrev wl_X5_mayOpen (ad : Nat → Nat) (cs : Nat → ClassId)  (lr_size : Int32) (lr_at : Int32) (lr_fault : Int32) : va_W := [((ad 26), .inr (5, [.ref (ad 23), .ref (ad 27), .int lr_size, .int lr_at, .int lr_fault]))]
def Q_X5_mayOpen (D : va_G) (cs : Nat → ClassId) (ad : Nat → Nat)  (lr_size : Int32) (A : Nat → Prop) (R : Int32 × Int32 × Int32) : Array Value → State → Outcome → State → Prop :=
  va_Qi (fun (r : Int32) (u : Int32 × Int32) => (r, u) = R) (fun (u : Int32 × Int32) (t : State) => va_P D classes (wl_X5_mayOpen ad cs lr_size u.1 u.2) t.heap ∧ va_D A (wl_X5_mayOpen ad cs lr_size u.1 u.2)) A
abbrev rm_X5_mayOpen : Room := { frames := 1, cells := 0, slots := 0, locals := 20 }
theorem g_X5_39 : GoodIn zW (wsV RX5 39 RX5 yX5_fail z_X5_fail) := zGV kw_574 kw_575 kw_576 kw_80 kw_577
theorem hd_X5_fail : yX5_fail.cls ≠ "java/lang/invoke/MethodHandle" ∧ yX5_fail.cls ≠ "java/lang/invoke/VarHandle" ∧ (parseMethodDescriptor yX5_fail.desc).map (fun d => d.parameters.length) = some 0 := by decide +kernel
def B_X5_mayOpen_0    (lr_size : Int32) (x1 : Int32) (lr_at : Int32) (lr_fault : Int32) : Option (Int32 × Int32 × Int32) :=
  (if x1 < (6 : Int32) then (zk_let (lr_at + (1 : Int32)) (fun v_2 => (some ((1 : Int32), v_2, lr_fault)))) else (zk_b1 (f_X5_fail lr_size lr_at lr_fault) (fun u_3 => (some ((0 : Int32), lr_at, u_3)))))
def f_X5_mayOpen   (x1 : Int32) (lr_size : Int32) (lr_at : Int32) (lr_fault : Int32) : Option (Int32 × Int32 × Int32) := B_X5_mayOpen_0   lr_size x1 lr_at lr_fault
set_option maxHeartbeats 4000000 in
set_option maxRecDepth 100000 in
theorem L_X5_mayOpen_0 {p : Program} {l : Launch} {e : Env} {s : State} {m : MethodId} {args : Array Value} {below : List Frame} {meth : Method} {c : Code} {A : Nat → Prop} {D : va_G} {cs : Nat → ClassId} {ad : Nat → Nat} {lr_size : Int32} {R : Int32 × Int32 × Int32} (C0 : zC p s m args meth c cX5_mayOpen 2 (some .boolean) RX5 zW) (hK : va_K D classes (zT cs) s) (hA : ∀ q : Nat, s.heap.size ≤ q → A q) (x1 : Int32) (lr_at : Int32) (lr_fault : Int32) (h : B_X5_mayOpen_0 lr_size x1 lr_at lr_fault = some R) (H : Heap) (locs : List Loc) (ls : Array Slot) (hP : va_P D classes (wl_X5_mayOpen ad cs lr_size lr_at lr_fault) H) (hD : va_D A (wl_X5_mayOpen ad cs lr_size lr_at lr_fault)) (hS : va_S A s.heap H locs) (hl : lv_has ls 2 [(0, .ref (ad 26)), (1, .int x1)]) : W p l e rm_X5_mayOpen s m args below meth c H locs 0 0 (MQ below (Q_X5_mayOpen D cs ad lr_size A R) args s 0 0 A) (F0 m 0 ls []) := by
  obtain ⟨hx, hb, hr, hml, hown, ht, hlocks⟩ := id C0
  refine lv_iload_n hx hb dX5_mayOpen_0 rfl (lv_at hl 1 rfl) ?_
  refine lv_bipush (v := (6 : Int32)) hx hb dX5_mayOpen_1 (by decide) ?_
  refine lv_icmp_lt (tgt := 12) hx hb dX5_mayOpen_3 (by decide) (fun c_1 => ?_) (fun c_1 => ?_)
  · have h := zk_t c_1 h
    refine lv_aload_n hx hb dX5_mayOpen_12 rfl (lv_at hl 0 rfl) ?_
    refine lv_dup hx hb dX5_mayOpen_13 rfl ?_
    refine va_get (D := D) (ci := 5) (v := .int lr_at) (C := RX5) (T := TX5) (N := 5) hx hb ht iX5 hown hK hP 0 rfl rfl 3 (by decide) (ht _ kw_277) (fun _ h9 => h9) rfl dX5_mayOpen_14 ?_
    refine lv_iconst (v := (1 : Int32)) hx hb dX5_mayOpen_17 (by decide) ?_
    refine lv_iadd hx hb dX5_mayOpen_18 ?_
    obtain ⟨v_2, ev_2, h⟩ := zk_lt h
    refine W.eq (g2 := F0 m 19 ls [.int v_2, .ref (ad 26)]) (by rw [ev_2]) ?_
    refine va_put (D := D) (ci := 5) (v := .int v_2) (ty := .int) (C := RX5) (T := TX5) (N := 5) hx hb ht iX5 tyX5 tyX5_ok nmX5 hown hK hP hD hS 0 rfl rfl 3 (by decide) (ht _ kw_277) (fun _ h9 => h9) rfl (by decide +kernel) rfl rfl (Nat.le_of_ble_eq_true rfl) dX5_mayOpen_19 (fun H locs hP hD hS => ?_)
    have hP : va_P D classes (wl_X5_mayOpen ad cs lr_size v_2 lr_fault) H := hP
    have hD : va_D A (wl_X5_mayOpen ad cs lr_size v_2 lr_fault) := hD
    refine lv_iconst (v := (1 : Int32)) hx hb dX5_mayOpen_22 (by decide) ?_
    exact W.zret (ty := .boolean) (v := (1 : Int32)) hx hb hr rfl (fun t ht2 hW => ⟨⟨(1 : Int32), (v_2, lr_fault), rfl, Option.some.inj h, by rw [ht2]; exact hP, hD⟩, hS.F ht2⟩) hS.2.2 dX5_mayOpen_23 hlocks
  · have h := zk_f c_1 h
    refine lv_aload_n hx hb dX5_mayOpen_6 rfl (lv_at hl 0 rfl) ?_
    obtain ⟨u_3, hc_4, h⟩ := zk_o1 h
    refine zz_vv (post := (fun u => u = u_3)) (w1 := fun u => (wl_X5_fail ad cs lr_size lr_at u)) (As := []) (rest := []) (c_X5_fail l D cs ad  H.size lr_size lr_at lr_fault u_3 hc_4) ⟨hx, hb, hml, hown, ht⟩ (cwV 0 ht g_X5_39 rfl rfl rfl ⟨rfl, hd_X5_fail⟩ ⟨Nat.le_of_ble_eq_true rfl, Nat.le_of_ble_eq_true rfl⟩) (va_recv hK hP (ci := 5) (q0 := 0) rfl rfl) hP hD hS hK hA [0] rfl rfl [(ad 26)] rfl (fun _ => rfl) rfl hl.1 (Nat.le_of_ble_eq_true rfl) dX5_mayOpen_7 ⟨Nat.zero_le _, Nat.zero_le _⟩ (fun u H locs hq hP hS => ?_)
    cases hq
    have hP : va_P D classes (wl_X5_mayOpen ad cs lr_size lr_at u_3) H := hP
    have hD : va_D A (wl_X5_mayOpen ad cs lr_size lr_at u_3) := zDk hD [(ad 26)] rfl rfl
    refine lv_iconst (v := (0 : Int32)) hx hb dX5_mayOpen_10 (by decide) ?_
    exact W.zret (ty := .boolean) (v := (0 : Int32)) hx hb hr rfl (fun t ht2 hW => ⟨⟨(0 : Int32), (lr_at, u_3), rfl, Option.some.inj h, by rw [ht2]; exact hP, hD⟩, hS.F ht2⟩) hS.2.2 dX5_mayOpen_11 hlocks
set_option maxHeartbeats 4000000 in
set_option maxRecDepth 100000 in
theorem c_X5_mayOpen (l : Launch) (D : va_G) (cs : Nat → ClassId) (ad : Nat → Nat) (sz : Nat) (x1 : Int32) (lr_size : Int32) (lr_at : Int32) (lr_fault : Int32) (R : Int32 × Int32 × Int32) (h : f_X5_mayOpen   x1 lr_size lr_at lr_fault = some R) : Met l yX5_mayOpen (z_X5_mayOpen) rm_X5_mayOpen (va_Pc [.ref (ad 26), .int x1] (zPre D cs (wl_X5_mayOpen ad cs lr_size lr_at lr_fault) sz)) (Q_X5_mayOpen D cs ad lr_size (va_A (wl_X5_mayOpen ad cs lr_size lr_at lr_fault) sz) R) 0 0 (va_A (wl_X5_mayOpen ad cs lr_size lr_at lr_fault) sz) := by
  refine Met.ofW (cc := cX5_mayOpen) (maxL := 2) (ret := (some .boolean)) (by decide) rfl ?_
  intro p e s m args below meth c s₁ B hml hv
  obtain ⟨rfl, hsz, hP, hK, hD0⟩ := hv
  subst hsz
  have hD := hD0.self (sz := s.heap.size)
  have C0 : zC p s m _ meth c cX5_mayOpen 2 (some .boolean) RX5 zW := ⟨B.exec, B.bytes, B.returns, hml, findClass_of_methodNamed B.named, fun w hw => atoms_spec (ws := z_X5_mayOpen) B.pre w (List.mem_cons_of_mem _ hw), B.notSynchronized⟩
  have hA : ∀ q : Nat, s.heap.size ≤ q → va_A (wl_X5_mayOpen ad cs lr_size lr_at lr_fault) s.heap.size q := fun q h => Or.inr h
  have hl := lv_entry ([.ref (ad 26), .int x1]) (n := 2) (Nat.le_of_ble_eq_true rfl)
  rw [lg_entry_eq]
  generalize (lg_sl ([.ref (ad 26), .int x1]) ++ List.replicate (2 - (lg_sl ([.ref (ad 26), .int x1])).length) Slot.unset).toArray = ls at hl ⊢
  exact L_X5_mayOpen_0 C0 hK hA   x1 lr_at lr_fault h s.heap [] ls hP hD va_S.rf hl
theorem zh_cX5_operatorAt_0 : zck [42, 180, 0, 15, 42, 180, 0, 19, 182, 0, 68, 61, 27, 170, 0, 0, 0, 0, 0, 116, 0, 0] (zdu 0 cX5_operatorAt.data.toList) = true := by decide +kernel
theorem dX5_operatorAt_0 : decode cX5_operatorAt 0 = .ok (.aload_n 0, 1) := zo_42 zh_cX5_operatorAt_0 0 rfl
theorem dX5_operatorAt_1 : decode cX5_operatorAt 1 = .ok (.getfield 15, 3) := zo_180 zh_cX5_operatorAt_0 1 rfl
theorem dX5_operatorAt_4 : decode cX5_operatorAt 4 = .ok (.aload_n 0, 1) := zo_42 zh_cX5_operatorAt_0 4 rfl
theorem dX5_operatorAt_5 : decode cX5_operatorAt 5 = .ok (.getfield 19, 3) := zo_180 zh_cX5_operatorAt_0 5 rfl
theorem dX5_operatorAt_8 : decode cX5_operatorAt 8 = .ok (.invokevirtual 68, 3) := zo_182 zh_cX5_operatorAt_0 8 rfl
theorem dX5_operatorAt_11 : decode cX5_operatorAt 11 = .ok (.istore_n 2, 1) := zo_61 zh_cX5_operatorAt_0 11 rfl
theorem dX5_operatorAt_12 : decode cX5_operatorAt 12 = .ok (.iload_n 1, 1) := zo_27 zh_cX5_operatorAt_0 12 rfl
theorem dX5_operatorAt_13 : decode cX5_operatorAt 13 = .ok (.tableswitch 116 0 3 #[31, 44, 57, 92], 31) := by decide +kernel
theorem zh_cX5_operatorAt_2 : zck [0, 0, 0, 92, 28, 16, 124, 160, 0, 8, 16, 6, 167, 0, 4, 2, 172, 28, 16, 38, 160, 0] (zdu 40 cX5_operatorAt.data.toList) = true := by decide +kernel
theorem dX5_operatorAt_44 : decode cX5_operatorAt 44 = .ok (.iload_n 2, 1) := zo_28 zh_cX5_operatorAt_2 4 rfl
theorem dX5_operatorAt_45 : decode cX5_operatorAt 45 = .ok (.bipush 124, 2) := zo_p16 zh_cX5_operatorAt_2 5 124 rfl rfl
theorem dX5_operatorAt_47 : decode cX5_operatorAt 47 = .ok (.if_icmp .ne 8, 3) := zo_p160 zh_cX5_operatorAt_2 7 8 rfl rfl
theorem dX5_operatorAt_50 : decode cX5_operatorAt 50 = .ok (.bipush 6, 2) := zo_p16 zh_cX5_operatorAt_2 10 6 rfl rfl
theorem dX5_operatorAt_52 : decode cX5_operatorAt 52 = .ok (.goto 4, 3) := zo_p167 zh_cX5_operatorAt_2 12 4 rfl rfl
theorem dX5_operatorAt_55 : decode cX5_operatorAt 55 = .ok (.iconst (-1), 1) := zo_2 zh_cX5_operatorAt_2 15 rfl
theorem dX5_operatorAt_56 : decode cX5_operatorAt 56 = .ok (.ireturn, 1) := zo_172 zh_cX5_operatorAt_2 16 rfl
theorem dX5_operatorAt_57 : decode cX5_operatorAt 57 = .ok (.iload_n 2, 1) := zo_28 zh_cX5_operatorAt_2 17 rfl
theorem dX5_operatorAt_58 : decode cX5_operatorAt 58 = .ok (.bipush 38, 2) := zo_p16 zh_cX5_operatorAt_2 18 38 rfl rfl
theorem zh_cX5_operatorAt_3 : zck [160, 0, 8, 16, 7, 167, 0, 4, 2, 172, 28, 16, 60, 160, 0, 8, 16, 8, 167, 0, 26, 28] (zdu 60 cX5_operatorAt.data.toList) = true := by decide +kernel
theorem dX5_operatorAt_60 : decode cX5_operatorAt 60 = .ok (.if_icmp .ne 8, 3) := zo_p160 zh_cX5_operatorAt_3 0 8 rfl rfl
theorem dX5_operatorAt_63 : decode cX5_operatorAt 63 = .ok (.bipush 7, 2) := zo_p16 zh_cX5_operatorAt_3 3 7 rfl rfl
theorem dX5_operatorAt_65 : decode cX5_operatorAt 65 = .ok (.goto 4, 3) := zo_p167 zh_cX5_operatorAt_3 5 4 rfl rfl
theorem dX5_operatorAt_68 : decode cX5_operatorAt 68 = .ok (.iconst (-1), 1) := zo_2 zh_cX5_operatorAt_3 8 rfl
theorem dX5_operatorAt_69 : decode cX5_operatorAt 69 = .ok (.ireturn, 1) := zo_172 zh_cX5_operatorAt_3 9 rfl
theorem dX5_operatorAt_70 : decode cX5_operatorAt 70 = .ok (.iload_n 2, 1) := zo_28 zh_cX5_operatorAt_3 10 rfl
theorem dX5_operatorAt_71 : decode cX5_operatorAt 71 = .ok (.bipush 60, 2) := zo_p16 zh_cX5_operatorAt_3 11 60 rfl rfl
theorem dX5_operatorAt_73 : decode cX5_operatorAt 73 = .ok (.if_icmp .ne 8, 3) := zo_p160 zh_cX5_operatorAt_3 13 8 rfl rfl
theorem dX5_operatorAt_76 : decode cX5_operatorAt 76 = .ok (.bipush 8, 2) := zo_p16 zh_cX5_operatorAt_3 16 8 rfl rfl
theorem dX5_operatorAt_78 : decode cX5_operatorAt 78 = .ok (.goto 26, 3) := zo_p167 zh_cX5_operatorAt_3 18 26 rfl rfl
theorem zh_cX5_operatorAt_4 : zck [26, 28, 16, 61, 160, 0, 8, 16, 9, 167, 0, 15, 28, 16, 62, 160, 0, 8, 16, 10, 167, 0] (zdu 80 cX5_operatorAt.data.toList) = true := by decide +kernel
theorem dX5_operatorAt_81 : decode cX5_operatorAt 81 = .ok (.iload_n 2, 1) := zo_28 zh_cX5_operatorAt_4 1 rfl
theorem dX5_operatorAt_82 : decode cX5_operatorAt 82 = .ok (.bipush 61, 2) := zo_p16 zh_cX5_operatorAt_4 2 61 rfl rfl
theorem dX5_operatorAt_84 : decode cX5_operatorAt 84 = .ok (.if_icmp .ne 8, 3) := zo_p160 zh_cX5_operatorAt_4 4 8 rfl rfl
theorem dX5_operatorAt_87 : decode cX5_operatorAt 87 = .ok (.bipush 9, 2) := zo_p16 zh_cX5_operatorAt_4 7 9 rfl rfl
theorem dX5_operatorAt_89 : decode cX5_operatorAt 89 = .ok (.goto 15, 3) := zo_p167 zh_cX5_operatorAt_4 9 15 rfl rfl
theorem dX5_operatorAt_92 : decode cX5_operatorAt 92 = .ok (.iload_n 2, 1) := zo_28 zh_cX5_operatorAt_4 12 rfl
theorem dX5_operatorAt_93 : decode cX5_operatorAt 93 = .ok (.bipush 62, 2) := zo_p16 zh_cX5_operatorAt_4 13 62 rfl rfl
theorem dX5_operatorAt_95 : decode cX5_operatorAt 95 = .ok (.if_icmp .ne 8, 3) := zo_p160 zh_cX5_operatorAt_4 15 8 rfl rfl
theorem dX5_operatorAt_98 : decode cX5_operatorAt 98 = .ok (.bipush 10, 2) := zo_p16 zh_cX5_operatorAt_4 18 10 rfl rfl
theorem zh_cX5_operatorAt_5 : zck [167, 0, 4, 2, 172, 28, 16, 43, 160, 0, 8, 16, 11, 167, 0, 15, 28, 16, 45, 160, 0, 8] (zdu 100 cX5_operatorAt.data.toList) = true := by decide +kernel
theorem dX5_operatorAt_100 : decode cX5_operatorAt 100 = .ok (.goto 4, 3) := zo_p167 zh_cX5_operatorAt_5 0 4 rfl rfl
theorem dX5_operatorAt_103 : decode cX5_operatorAt 103 = .ok (.iconst (-1), 1) := zo_2 zh_cX5_operatorAt_5 3 rfl
theorem dX5_operatorAt_104 : decode cX5_operatorAt 104 = .ok (.ireturn, 1) := zo_172 zh_cX5_operatorAt_5 4 rfl
theorem dX5_operatorAt_105 : decode cX5_operatorAt 105 = .ok (.iload_n 2, 1) := zo_28 zh_cX5_operatorAt_5 5 rfl
theorem dX5_operatorAt_106 : decode cX5_operatorAt 106 = .ok (.bipush 43, 2) := zo_p16 zh_cX5_operatorAt_5 6 43 rfl rfl
theorem dX5_operatorAt_108 : decode cX5_operatorAt 108 = .ok (.if_icmp .ne 8, 3) := zo_p160 zh_cX5_operatorAt_5 8 8 rfl rfl
theorem dX5_operatorAt_111 : decode cX5_operatorAt 111 = .ok (.bipush 11, 2) := zo_p16 zh_cX5_operatorAt_5 11 11 rfl rfl
theorem dX5_operatorAt_113 : decode cX5_operatorAt 113 = .ok (.goto 15, 3) := zo_p167 zh_cX5_operatorAt_5 13 15 rfl rfl
theorem dX5_operatorAt_116 : decode cX5_operatorAt 116 = .ok (.iload_n 2, 1) := zo_28 zh_cX5_operatorAt_5 16 rfl
theorem dX5_operatorAt_117 : decode cX5_operatorAt 117 = .ok (.bipush 45, 2) := zo_p16 zh_cX5_operatorAt_5 17 45 rfl rfl
theorem dX5_operatorAt_119 : decode cX5_operatorAt 119 = .ok (.if_icmp .ne 8, 3) := zo_p160 zh_cX5_operatorAt_5 19 8 rfl rfl
theorem zh_cX5_operatorAt_6 : zck [0, 8, 16, 12, 167, 0, 4, 2, 172, 28, 16, 42, 160, 0, 8, 16, 13, 167, 0, 26, 28, 16] (zdu 120 cX5_operatorAt.data.toList) = true := by decide +kernel
theorem dX5_operatorAt_122 : decode cX5_operatorAt 122 = .ok (.bipush 12, 2) := zo_p16 zh_cX5_operatorAt_6 2 12 rfl rfl
theorem dX5_operatorAt_124 : decode cX5_operatorAt 124 = .ok (.goto 4, 3) := zo_p167 zh_cX5_operatorAt_6 4 4 rfl rfl
theorem dX5_operatorAt_127 : decode cX5_operatorAt 127 = .ok (.iconst (-1), 1) := zo_2 zh_cX5_operatorAt_6 7 rfl
theorem dX5_operatorAt_128 : decode cX5_operatorAt 128 = .ok (.ireturn, 1) := zo_172 zh_cX5_operatorAt_6 8 rfl
theorem dX5_operatorAt_129 : decode cX5_operatorAt 129 = .ok (.iload_n 2, 1) := zo_28 zh_cX5_operatorAt_6 9 rfl
theorem dX5_operatorAt_130 : decode cX5_operatorAt 130 = .ok (.bipush 42, 2) := zo_p16 zh_cX5_operatorAt_6 10 42 rfl rfl
theorem dX5_operatorAt_132 : decode cX5_operatorAt 132 = .ok (.if_icmp .ne 8, 3) := zo_p160 zh_cX5_operatorAt_6 12 8 rfl rfl
theorem dX5_operatorAt_135 : decode cX5_operatorAt 135 = .ok (.bipush 13, 2) := zo_p16 zh_cX5_operatorAt_6 15 13 rfl rfl
theorem dX5_operatorAt_137 : decode cX5_operatorAt 137 = .ok (.goto 26, 3) := zo_p167 zh_cX5_operatorAt_6 17 26 rfl rfl
theorem zh_cX5_operatorAt_7 : zck [28, 16, 47, 160, 0, 8, 16, 14, 167, 0, 15, 28, 16, 37, 160, 0, 8, 16, 15, 167, 0, 4] (zdu 140 cX5_operatorAt.data.toList) = true := by decide +kernel
theorem dX5_operatorAt_140 : decode cX5_operatorAt 140 = .ok (.iload_n 2, 1) := zo_28 zh_cX5_operatorAt_7 0 rfl
theorem dX5_operatorAt_141 : decode cX5_operatorAt 141 = .ok (.bipush 47, 2) := zo_p16 zh_cX5_operatorAt_7 1 47 rfl rfl
theorem dX5_operatorAt_143 : decode cX5_operatorAt 143 = .ok (.if_icmp .ne 8, 3) := zo_p160 zh_cX5_operatorAt_7 3 8 rfl rfl
theorem dX5_operatorAt_146 : decode cX5_operatorAt 146 = .ok (.bipush 14, 2) := zo_p16 zh_cX5_operatorAt_7 6 14 rfl rfl
theorem dX5_operatorAt_148 : decode cX5_operatorAt 148 = .ok (.goto 15, 3) := zo_p167 zh_cX5_operatorAt_7 8 15 rfl rfl
theorem dX5_operatorAt_151 : decode cX5_operatorAt 151 = .ok (.iload_n 2, 1) := zo_28 zh_cX5_operatorAt_7 11 rfl
theorem dX5_operatorAt_152 : decode cX5_operatorAt 152 = .ok (.bipush 37, 2) := zo_p16 zh_cX5_operatorAt_7 12 37 rfl rfl
theorem dX5_operatorAt_154 : decode cX5_operatorAt 154 = .ok (.if_icmp .ne 8, 3) := zo_p160 zh_cX5_operatorAt_7 14 8 rfl rfl
theorem dX5_operatorAt_157 : decode cX5_operatorAt 157 = .ok (.bipush 15, 2) := zo_p16 zh_cX5_operatorAt_7 17 15 rfl rfl
theorem dX5_operatorAt_159 : decode cX5_operatorAt 159 = .ok (.goto 4, 3) := zo_p167 zh_cX5_operatorAt_7 19 4 rfl rfl
theorem zh_cX5_operatorAt_8 : zck [0, 4, 2, 172] (zdu 160 cX5_operatorAt.data.toList) = true := by decide +kernel
theorem dX5_operatorAt_162 : decode cX5_operatorAt 162 = .ok (.iconst (-1), 1) := zo_2 zh_cX5_operatorAt_8 2 rfl
theorem dX5_operatorAt_163 : decode cX5_operatorAt 163 = .ok (.ireturn, 1) := zo_172 zh_cX5_operatorAt_8 3 rfl
abbrev z_X5_operatorAt : List Cond := .code yX5_operatorAt cX5_operatorAt 3 (some .int) :: zW
abbrev wl_X5_operatorAt (ad : Nat → Nat) (cs : Nat → ClassId)  (tape_size : Int32) (tape_bytes : Nat → Int32) (lr_size : Int32) (lr_at : Int32) (lr_fault : Int32) : va_W := [((ad 23), .inr (9, [.ref (ad 24), .int tape_size])), ((ad 24), .inl (cs 0, 120, .inl tape_bytes)), ((ad 26), .inr (5, [.ref (ad 23), .ref (ad 27), .int lr_size, .int lr_at, .int lr_fault]))]
def Q_X5_operatorAt (D : va_G) (cs : Nat → ClassId) (ad : Nat → Nat)  (tape_size : Int32) (tape_bytes : Nat → Int32) (lr_size : Int32) (lr_at : Int32) (lr_fault : Int32) (A : Nat → Prop) (R : Int32 × Unit) : Array Value → State → Outcome → State → Prop :=
  va_Qi (fun (r : Int32) (u : Unit) => (r, u) = R) (fun (u : Unit) (t : State) => va_P D classes (wl_X5_operatorAt ad cs tape_size tape_bytes lr_size lr_at lr_fault) t.heap ∧ va_D A (wl_X5_operatorAt ad cs tape_size tape_bytes lr_size lr_at lr_fault)) A
abbrev rm_X5_operatorAt : Room := { frames := 1, cells := 0, slots := 0, locals := 21 }
def B_X5_operatorAt_0    (tape_size : Int32) (tape_bytes : Nat → Int32) (lr_size : Int32) (lr_at : Int32) (lr_fault : Int32) (x1 : Int32) : Option (Int32 × Unit) :=
  (zk_b2 (f_X9_byteAt lr_at tape_size tape_bytes) (fun r_1 u_2 => (if x1 = (0 : Int32) then (if r_1 = (124 : Int32) then (some ((6 : Int32), ())) else (some ((-1 : Int32), ()))) else (if x1 = (1 : Int32) then (if r_1 = (38 : Int32) then (some ((7 : Int32), ())) else (some ((-1 : Int32), ()))) else (if x1 = (2 : Int32) then (if r_1 = (60 : Int32) then (some ((8 : Int32), ())) else (if r_1 = (61 : Int32) then (some ((9 : Int32), ())) else (if r_1 = (62 : Int32) then (some ((10 : Int32), ())) else (some ((-1 : Int32), ()))))) else (if x1 = (3 : Int32) then (if r_1 = (43 : Int32) then (some ((11 : Int32), ())) else (if r_1 = (45 : Int32) then (some ((12 : Int32), ())) else (some ((-1 : Int32), ())))) else (if r_1 = (42 : Int32) then (some ((13 : Int32), ())) else (if r_1 = (47 : Int32) then (some ((14 : Int32), ())) else (if r_1 = (37 : Int32) then (some ((15 : Int32), ())) else (some ((-1 : Int32), ())))))))))))
def f_X5_operatorAt   (x1 : Int32) (tape_size : Int32) (tape_bytes : Nat → Int32) (lr_size : Int32) (lr_at : Int32) (lr_fault : Int32) : Option (Int32 × Unit) := B_X5_operatorAt_0   tape_size tape_bytes lr_size lr_at lr_fault x1 
set_option maxHeartbeats 4000000 in
set_option maxRecDepth 100000 in
theorem L_X5_operatorAt_0 {p : Program} {l : Launch} {e : Env} {s : State} {m : MethodId} {args : Array Value} {below : List Frame} {meth : Method} {c : Code} {A : Nat → Prop} {D : va_G} {cs : Nat → ClassId} {ad : Nat → Nat} {tape_size : Int32} {tape_bytes : Nat → Int32} {lr_size : Int32} {lr_at : Int32} {lr_fault : Int32} {R : Int32 × Unit} (C0 : zC p s m args meth c cX5_operatorAt 3 (some .int) RX5 zW) (hK : va_K D classes (zT cs) s) (hA : ∀ q : Nat, s.heap.size ≤ q → A q) (x1 : Int32) (h : B_X5_operatorAt_0 tape_size tape_bytes lr_size lr_at lr_fault x1 = some R) (H : Heap) (locs : List Loc) (ls : Array Slot) (hP : va_P D classes (wl_X5_operatorAt ad cs tape_size tape_bytes lr_size lr_at lr_fault) H) (hD : va_D A (wl_X5_operatorAt ad cs tape_size tape_bytes lr_size lr_at lr_fault)) (hS : va_S A s.heap H locs) (hl : lv_has ls 3 [(0, .ref (ad 26)), (1, .int x1)]) : W p l e rm_X5_operatorAt s m args below meth c H locs 0 0 (MQ below (Q_X5_operatorAt D cs ad tape_size tape_bytes lr_size lr_at lr_fault A R) args s 0 0 A) (F0 m 0 ls []) := by
  obtain ⟨hx, hb, hr, hml, hown, ht, hlocks⟩ := id C0
  refine lv_aload_n hx hb dX5_operatorAt_0 rfl (lv_at hl 0 rfl) ?_
  refine va_get (D := D) (ci := 5) (v := .ref (ad 23)) (C := RX5) (T := TX5) (N := 5) hx hb ht iX5 hown hK hP 2 rfl rfl 0 (by decide) (ht _ kw_274) (fun _ h9 => h9) rfl dX5_operatorAt_1 ?_
  refine lv_aload_n hx hb dX5_operatorAt_4 rfl (lv_at hl 0 rfl) ?_
  refine va_get (D := D) (ci := 5) (v := .int lr_at) (C := RX5) (T := TX5) (N := 5) hx hb ht iX5 hown hK hP 2 rfl rfl 3 (by decide) (ht _ kw_277) (fun _ h9 => h9) rfl dX5_operatorAt_5 ?_
  obtain ⟨r_1, u_2, hc_3, h⟩ := zk_o2 h
  refine zz_vi (post := (fun r u => (r, u) = (r_1, u_2))) (w1 := fun u => (wl_X9_byteAt ad cs tape_size tape_bytes)) (As := [.int lr_at]) (rest := []) (c_X9_byteAt l D cs ad  H.size lr_at tape_size tape_bytes (r_1, u_2) hc_3) ⟨hx, hb, hml, hown, ht⟩ (cwV 1 ht g_X5_68 rfl rfl rfl ⟨rfl, hd_X9_byteAt⟩ ⟨Nat.le_of_ble_eq_true rfl, Nat.le_of_ble_eq_true rfl⟩) (va_recv hK hP (ci := 9) (q0 := 0) rfl rfl) hP hD hS hK hA [0, 1] rfl rfl [(ad 23), (ad 24)] rfl (fun _ => rfl) rfl hl.1 (Nat.le_of_ble_eq_true rfl) dX5_operatorAt_8 ⟨Nat.zero_le _, Nat.zero_le _⟩ (fun r u H locs hq hP hS => ?_)
  cases hq
  have hP : va_P D classes (wl_X5_operatorAt ad cs tape_size tape_bytes lr_size lr_at lr_fault) H := hP
  have hD : va_D A (wl_X5_operatorAt ad cs tape_size tape_bytes lr_size lr_at lr_fault) := zDk hD [(ad 23), (ad 24), (ad 26)] rfl rfl
  refine lv_istore_n (lv' := [(2, .int r_1), (0, .ref (ad 26)), (1, .int x1)]) hx hb dX5_operatorAt_11 rfl hl (by decide) rfl (fun ls hl => ?_)
  refine lv_iload_n hx hb dX5_operatorAt_12 rfl (lv_at hl 2 rfl) ?_
  by_cases c_14 : x1 = (0 : Int32)
  · have h := zk_t c_14 h
    refine lv_tableIn (tgt := 44) hx hb dX5_operatorAt_13 (by rw [c_14]; decide) (by rw [c_14]; decide) (by rw [c_14]; rfl) (by decide) ?_
    refine lv_iload_n hx hb dX5_operatorAt_44 rfl (lv_at hl 0 rfl) ?_
    refine lv_bipush (v := (124 : Int32)) hx hb dX5_operatorAt_45 (by decide) ?_
    refine lv_icmp_ne (tgt := 55) hx hb dX5_operatorAt_47 (by decide) (fun c_4 => ?_) (fun c_4 => ?_)
    · have h := zk_f c_4 h
      refine lv_iconst (v := (-1 : Int32)) hx hb dX5_operatorAt_55 (by decide) ?_
      exact W.iret (v := (-1 : Int32)) hx hb hr (fun t ht2 hW => ⟨⟨(-1 : Int32), (), rfl, Option.some.inj h, by rw [ht2]; exact hP, hD⟩, hS.F ht2⟩) hS.2.2 dX5_operatorAt_56 hlocks
    · have h := zk_t c_4 h
      refine lv_bipush (v := (6 : Int32)) hx hb dX5_operatorAt_50 (by decide) ?_
      refine lv_goto (tgt := 56) hx hb dX5_operatorAt_52 (by decide) ?_
      exact W.iret (v := (6 : Int32)) hx hb hr (fun t ht2 hW => ⟨⟨(6 : Int32), (), rfl, Option.some.inj h, by rw [ht2]; exact hP, hD⟩, hS.F ht2⟩) hS.2.2 dX5_operatorAt_56 hlocks
  · have h := zk_f c_14 h
    by_cases c_15 : x1 = (1 : Int32)
    · have h := zk_t c_15 h
      refine lv_tableIn (tgt := 57) hx hb dX5_operatorAt_13 (by rw [c_15]; decide) (by rw [c_15]; decide) (by rw [c_15]; rfl) (by decide) ?_
      refine lv_iload_n hx hb dX5_operatorAt_57 rfl (lv_at hl 0 rfl) ?_
      refine lv_bipush (v := (38 : Int32)) hx hb dX5_operatorAt_58 (by decide) ?_
      refine lv_icmp_ne (tgt := 68) hx hb dX5_operatorAt_60 (by decide) (fun c_5 => ?_) (fun c_5 => ?_)
      · have h := zk_f c_5 h
        refine lv_iconst (v := (-1 : Int32)) hx hb dX5_operatorAt_68 (by decide) ?_
        exact W.iret (v := (-1 : Int32)) hx hb hr (fun t ht2 hW => ⟨⟨(-1 : Int32), (), rfl, Option.some.inj h, by rw [ht2]; exact hP, hD⟩, hS.F ht2⟩) hS.2.2 dX5_operatorAt_69 hlocks
      · have h := zk_t c_5 h
        refine lv_bipush (v := (7 : Int32)) hx hb dX5_operatorAt_63 (by decide) ?_
        refine lv_goto (tgt := 69) hx hb dX5_operatorAt_65 (by decide) ?_
        exact W.iret (v := (7 : Int32)) hx hb hr (fun t ht2 hW => ⟨⟨(7 : Int32), (), rfl, Option.some.inj h, by rw [ht2]; exact hP, hD⟩, hS.F ht2⟩) hS.2.2 dX5_operatorAt_69 hlocks
    · have h := zk_f c_15 h
      by_cases c_16 : x1 = (2 : Int32)
      · have h := zk_t c_16 h
        refine lv_tableIn (tgt := 70) hx hb dX5_operatorAt_13 (by rw [c_16]; decide) (by rw [c_16]; decide) (by rw [c_16]; rfl) (by decide) ?_
        refine lv_iload_n hx hb dX5_operatorAt_70 rfl (lv_at hl 0 rfl) ?_
        refine lv_bipush (v := (60 : Int32)) hx hb dX5_operatorAt_71 (by decide) ?_
        refine lv_icmp_ne (tgt := 81) hx hb dX5_operatorAt_73 (by decide) (fun c_6 => ?_) (fun c_6 => ?_)
        · have h := zk_f c_6 h
          refine lv_iload_n hx hb dX5_operatorAt_81 rfl (lv_at hl 0 rfl) ?_
          refine lv_bipush (v := (61 : Int32)) hx hb dX5_operatorAt_82 (by decide) ?_
          refine lv_icmp_ne (tgt := 92) hx hb dX5_operatorAt_84 (by decide) (fun c_7 => ?_) (fun c_7 => ?_)
          · have h := zk_f c_7 h
            refine lv_iload_n hx hb dX5_operatorAt_92 rfl (lv_at hl 0 rfl) ?_
            refine lv_bipush (v := (62 : Int32)) hx hb dX5_operatorAt_93 (by decide) ?_
            refine lv_icmp_ne (tgt := 103) hx hb dX5_operatorAt_95 (by decide) (fun c_8 => ?_) (fun c_8 => ?_)
            · have h := zk_f c_8 h
              refine lv_iconst (v := (-1 : Int32)) hx hb dX5_operatorAt_103 (by decide) ?_
              exact W.iret (v := (-1 : Int32)) hx hb hr (fun t ht2 hW => ⟨⟨(-1 : Int32), (), rfl, Option.some.inj h, by rw [ht2]; exact hP, hD⟩, hS.F ht2⟩) hS.2.2 dX5_operatorAt_104 hlocks
            · have h := zk_t c_8 h
              refine lv_bipush (v := (10 : Int32)) hx hb dX5_operatorAt_98 (by decide) ?_
              refine lv_goto (tgt := 104) hx hb dX5_operatorAt_100 (by decide) ?_
              exact W.iret (v := (10 : Int32)) hx hb hr (fun t ht2 hW => ⟨⟨(10 : Int32), (), rfl, Option.some.inj h, by rw [ht2]; exact hP, hD⟩, hS.F ht2⟩) hS.2.2 dX5_operatorAt_104 hlocks
          · have h := zk_t c_7 h
            refine lv_bipush (v := (9 : Int32)) hx hb dX5_operatorAt_87 (by decide) ?_
            refine lv_goto (tgt := 104) hx hb dX5_operatorAt_89 (by decide) ?_
            exact W.iret (v := (9 : Int32)) hx hb hr (fun t ht2 hW => ⟨⟨(9 : Int32), (), rfl, Option.some.inj h, by rw [ht2]; exact hP, hD⟩, hS.F ht2⟩) hS.2.2 dX5_operatorAt_104 hlocks
        · have h := zk_t c_6 h
          refine lv_bipush (v := (8 : Int32)) hx hb dX5_operatorAt_76 (by decide) ?_
          refine lv_goto (tgt := 104) hx hb dX5_operatorAt_78 (by decide) ?_
          exact W.iret (v := (8 : Int32)) hx hb hr (fun t ht2 hW => ⟨⟨(8 : Int32), (), rfl, Option.some.inj h, by rw [ht2]; exact hP, hD⟩, hS.F ht2⟩) hS.2.2 dX5_operatorAt_104 hlocks
      · have h := zk_f c_16 h
        by_cases c_17 : x1 = (3 : Int32)
        · have h := zk_t c_17 h
          refine lv_tableIn (tgt := 105) hx hb dX5_operatorAt_13 (by rw [c_17]; decide) (by rw [c_17]; decide) (by rw [c_17]; rfl) (by decide) ?_
          refine lv_iload_n hx hb dX5_operatorAt_105 rfl (lv_at hl 0 rfl) ?_
          refine lv_bipush (v := (43 : Int32)) hx hb dX5_operatorAt_106 (by decide) ?_
          refine lv_icmp_ne (tgt := 116) hx hb dX5_operatorAt_108 (by decide) (fun c_9 => ?_) (fun c_9 => ?_)
          · have h := zk_f c_9 h
            refine lv_iload_n hx hb dX5_operatorAt_116 rfl (lv_at hl 0 rfl) ?_
            refine lv_bipush (v := (45 : Int32)) hx hb dX5_operatorAt_117 (by decide) ?_
            refine lv_icmp_ne (tgt := 127) hx hb dX5_operatorAt_119 (by decide) (fun c_10 => ?_) (fun c_10 => ?_)
            · have h := zk_f c_10 h
              refine lv_iconst (v := (-1 : Int32)) hx hb dX5_operatorAt_127 (by decide) ?_
              exact W.iret (v := (-1 : Int32)) hx hb hr (fun t ht2 hW => ⟨⟨(-1 : Int32), (), rfl, Option.some.inj h, by rw [ht2]; exact hP, hD⟩, hS.F ht2⟩) hS.2.2 dX5_operatorAt_128 hlocks
            · have h := zk_t c_10 h
              refine lv_bipush (v := (12 : Int32)) hx hb dX5_operatorAt_122 (by decide) ?_
              refine lv_goto (tgt := 128) hx hb dX5_operatorAt_124 (by decide) ?_
              exact W.iret (v := (12 : Int32)) hx hb hr (fun t ht2 hW => ⟨⟨(12 : Int32), (), rfl, Option.some.inj h, by rw [ht2]; exact hP, hD⟩, hS.F ht2⟩) hS.2.2 dX5_operatorAt_128 hlocks
          · have h := zk_t c_9 h
            refine lv_bipush (v := (11 : Int32)) hx hb dX5_operatorAt_111 (by decide) ?_
            refine lv_goto (tgt := 128) hx hb dX5_operatorAt_113 (by decide) ?_
            exact W.iret (v := (11 : Int32)) hx hb hr (fun t ht2 hW => ⟨⟨(11 : Int32), (), rfl, Option.some.inj h, by rw [ht2]; exact hP, hD⟩, hS.F ht2⟩) hS.2.2 dX5_operatorAt_128 hlocks
        · have h := zk_f c_17 h
          refine lv_tableOut (tgt := 129) hx hb dX5_operatorAt_13 (zk_out (lo := 0) (hi := 3) [(0 : Int32), (1 : Int32), (2 : Int32), (3 : Int32)] (by decide +kernel) (List.forall_mem_cons.mpr ⟨c_14, List.forall_mem_cons.mpr ⟨c_15, List.forall_mem_cons.mpr ⟨c_16, List.forall_mem_cons.mpr ⟨c_17, fun _ h => absurd h List.not_mem_nil⟩⟩⟩⟩)) (by decide) ?_
          refine lv_iload_n hx hb dX5_operatorAt_129 rfl (lv_at hl 0 rfl) ?_
          refine lv_bipush (v := (42 : Int32)) hx hb dX5_operatorAt_130 (by decide) ?_
          refine lv_icmp_ne (tgt := 140) hx hb dX5_operatorAt_132 (by decide) (fun c_11 => ?_) (fun c_11 => ?_)
          · have h := zk_f c_11 h
            refine lv_iload_n hx hb dX5_operatorAt_140 rfl (lv_at hl 0 rfl) ?_
            refine lv_bipush (v := (47 : Int32)) hx hb dX5_operatorAt_141 (by decide) ?_
            refine lv_icmp_ne (tgt := 151) hx hb dX5_operatorAt_143 (by decide) (fun c_12 => ?_) (fun c_12 => ?_)
            · have h := zk_f c_12 h
              refine lv_iload_n hx hb dX5_operatorAt_151 rfl (lv_at hl 0 rfl) ?_
              refine lv_bipush (v := (37 : Int32)) hx hb dX5_operatorAt_152 (by decide) ?_
              refine lv_icmp_ne (tgt := 162) hx hb dX5_operatorAt_154 (by decide) (fun c_13 => ?_) (fun c_13 => ?_)
              · have h := zk_f c_13 h
                refine lv_iconst (v := (-1 : Int32)) hx hb dX5_operatorAt_162 (by decide) ?_
                exact W.iret (v := (-1 : Int32)) hx hb hr (fun t ht2 hW => ⟨⟨(-1 : Int32), (), rfl, Option.some.inj h, by rw [ht2]; exact hP, hD⟩, hS.F ht2⟩) hS.2.2 dX5_operatorAt_163 hlocks
              · have h := zk_t c_13 h
                refine lv_bipush (v := (15 : Int32)) hx hb dX5_operatorAt_157 (by decide) ?_
                refine lv_goto (tgt := 163) hx hb dX5_operatorAt_159 (by decide) ?_
                exact W.iret (v := (15 : Int32)) hx hb hr (fun t ht2 hW => ⟨⟨(15 : Int32), (), rfl, Option.some.inj h, by rw [ht2]; exact hP, hD⟩, hS.F ht2⟩) hS.2.2 dX5_operatorAt_163 hlocks
            · have h := zk_t c_12 h
              refine lv_bipush (v := (14 : Int32)) hx hb dX5_operatorAt_146 (by decide) ?_
              refine lv_goto (tgt := 163) hx hb dX5_operatorAt_148 (by decide) ?_
              exact W.iret (v := (14 : Int32)) hx hb hr (fun t ht2 hW => ⟨⟨(14 : Int32), (), rfl, Option.some.inj h, by rw [ht2]; exact hP, hD⟩, hS.F ht2⟩) hS.2.2 dX5_operatorAt_163 hlocks
          · have h := zk_t c_11 h
            refine lv_bipush (v := (13 : Int32)) hx hb dX5_operatorAt_135 (by decide) ?_
            refine lv_goto (tgt := 163) hx hb dX5_operatorAt_137 (by decide) ?_
            exact W.iret (v := (13 : Int32)) hx hb hr (fun t ht2 hW => ⟨⟨(13 : Int32), (), rfl, Option.some.inj h, by rw [ht2]; exact hP, hD⟩, hS.F ht2⟩) hS.2.2 dX5_operatorAt_163 hlocks
set_option maxHeartbeats 4000000 in
set_option maxRecDepth 100000 in
theorem c_X5_operatorAt (l : Launch) (D : va_G) (cs : Nat → ClassId) (ad : Nat → Nat) (sz : Nat) (x1 : Int32) (tape_size : Int32) (tape_bytes : Nat → Int32) (lr_size : Int32) (lr_at : Int32) (lr_fault : Int32) (R : Int32 × Unit) (h : f_X5_operatorAt   x1 tape_size tape_bytes lr_size lr_at lr_fault = some R) : Met l yX5_operatorAt (z_X5_operatorAt) rm_X5_operatorAt (va_Pc [.ref (ad 26), .int x1] (zPre D cs (wl_X5_operatorAt ad cs tape_size tape_bytes lr_size lr_at lr_fault) sz)) (Q_X5_operatorAt D cs ad tape_size tape_bytes lr_size lr_at lr_fault (va_A (wl_X5_operatorAt ad cs tape_size tape_bytes lr_size lr_at lr_fault) sz) R) 0 0 (va_A (wl_X5_operatorAt ad cs tape_size tape_bytes lr_size lr_at lr_fault) sz) := by
  refine Met.ofW (cc := cX5_operatorAt) (maxL := 3) (ret := (some .int)) (by decide) rfl ?_
  intro p e s m args below meth c s₁ B hml hv
  obtain ⟨rfl, hsz, hP, hK, hD0⟩ := hv
  subst hsz
  have hD := hD0.self (sz := s.heap.size)
  have C0 : zC p s m _ meth c cX5_operatorAt 3 (some .int) RX5 zW := ⟨B.exec, B.bytes, B.returns, hml, findClass_of_methodNamed B.named, fun w hw => atoms_spec (ws := z_X5_operatorAt) B.pre w (List.mem_cons_of_mem _ hw), B.notSynchronized⟩
  have hA : ∀ q : Nat, s.heap.size ≤ q → va_A (wl_X5_operatorAt ad cs tape_size tape_bytes lr_size lr_at lr_fault) s.heap.size q := fun q h => Or.inr h
  have hl := lv_entry ([.ref (ad 26), .int x1]) (n := 3) (Nat.le_of_ble_eq_true rfl)
  rw [lg_entry_eq]
  generalize (lg_sl ([.ref (ad 26), .int x1]) ++ List.replicate (3 - (lg_sl ([.ref (ad 26), .int x1])).length) Slot.unset).toArray = ls at hl ⊢
  exact L_X5_operatorAt_0 C0 hK hA   x1  h s.heap [] ls hP hD va_S.rf hl
theorem kw_557 : Cond.methodLink RX5 71 yX9_isDigitAt ∈ zW := zwC (i := 3) zc_3 rfl rfl
theorem kw_566 : Cond.methodLink RX5 57 yX5_emit ∈ zW := zwC (i := 12) zc_3 rfl rfl
theorem kw_567 : Cond.instanceMethod yX5_emit ∈ zW := zwC (i := 13) zc_3 rfl rfl
theorem kw_568 : Cond.selects RX5 yX5_emit yX5_emit ∈ zW := zwC (i := 14) zc_3 rfl rfl
theorem kw_569 : Cond.code yX5_emit cX5_emit 2 none ∈ zW := zwC (i := 15) zc_3 rfl rfl
theorem zh_cX5_readNumber_0 : zck [3, 60, 3, 61, 28, 7, 162, 0, 53, 42, 180, 0, 15, 42, 180, 0, 19, 182, 0, 71, 153, 0] (zdu 0 cX5_readNumber.data.toList) = true := by decide +kernel
theorem dX5_readNumber_0 : decode cX5_readNumber 0 = .ok (.iconst 0, 1) := zo_3 zh_cX5_readNumber_0 0 rfl
theorem dX5_readNumber_1 : decode cX5_readNumber 1 = .ok (.istore_n 1, 1) := zo_60 zh_cX5_readNumber_0 1 rfl
theorem dX5_readNumber_2 : decode cX5_readNumber 2 = .ok (.iconst 0, 1) := zo_3 zh_cX5_readNumber_0 2 rfl
theorem dX5_readNumber_3 : decode cX5_readNumber 3 = .ok (.istore_n 2, 1) := zo_61 zh_cX5_readNumber_0 3 rfl
theorem dX5_readNumber_4 : decode cX5_readNumber 4 = .ok (.iload_n 2, 1) := zo_28 zh_cX5_readNumber_0 4 rfl
theorem dX5_readNumber_5 : decode cX5_readNumber 5 = .ok (.iconst 4, 1) := zo_7 zh_cX5_readNumber_0 5 rfl
theorem dX5_readNumber_6 : decode cX5_readNumber 6 = .ok (.if_icmp .ge 53, 3) := zo_p162 zh_cX5_readNumber_0 6 53 rfl rfl
theorem dX5_readNumber_9 : decode cX5_readNumber 9 = .ok (.aload_n 0, 1) := zo_42 zh_cX5_readNumber_0 9 rfl
theorem dX5_readNumber_10 : decode cX5_readNumber 10 = .ok (.getfield 15, 3) := zo_180 zh_cX5_readNumber_0 10 rfl
theorem dX5_readNumber_13 : decode cX5_readNumber 13 = .ok (.aload_n 0, 1) := zo_42 zh_cX5_readNumber_0 13 rfl
theorem dX5_readNumber_14 : decode cX5_readNumber 14 = .ok (.getfield 19, 3) := zo_180 zh_cX5_readNumber_0 14 rfl
theorem dX5_readNumber_17 : decode cX5_readNumber 17 = .ok (.invokevirtual 71, 3) := zo_182 zh_cX5_readNumber_0 17 rfl
theorem zh_cX5_readNumber_1 : zck [153, 0, 39, 27, 16, 10, 104, 42, 180, 0, 15, 42, 180, 0, 19, 182, 0, 68, 96, 16, 48, 100] (zdu 20 cX5_readNumber.data.toList) = true := by decide +kernel
theorem dX5_readNumber_20 : decode cX5_readNumber 20 = .ok (.ifCond .eq 39, 3) := zo_p153 zh_cX5_readNumber_1 0 39 rfl rfl
theorem dX5_readNumber_23 : decode cX5_readNumber 23 = .ok (.iload_n 1, 1) := zo_27 zh_cX5_readNumber_1 3 rfl
theorem dX5_readNumber_24 : decode cX5_readNumber 24 = .ok (.bipush 10, 2) := zo_p16 zh_cX5_readNumber_1 4 10 rfl rfl
theorem dX5_readNumber_26 : decode cX5_readNumber 26 = .ok (.imul, 1) := zo_104 zh_cX5_readNumber_1 6 rfl
theorem dX5_readNumber_27 : decode cX5_readNumber 27 = .ok (.aload_n 0, 1) := zo_42 zh_cX5_readNumber_1 7 rfl
theorem dX5_readNumber_28 : decode cX5_readNumber 28 = .ok (.getfield 15, 3) := zo_180 zh_cX5_readNumber_1 8 rfl
theorem dX5_readNumber_31 : decode cX5_readNumber 31 = .ok (.aload_n 0, 1) := zo_42 zh_cX5_readNumber_1 11 rfl
theorem dX5_readNumber_32 : decode cX5_readNumber 32 = .ok (.getfield 19, 3) := zo_180 zh_cX5_readNumber_1 12 rfl
theorem dX5_readNumber_35 : decode cX5_readNumber 35 = .ok (.invokevirtual 68, 3) := zo_182 zh_cX5_readNumber_1 15 rfl
theorem dX5_readNumber_38 : decode cX5_readNumber 38 = .ok (.iadd, 1) := zo_96 zh_cX5_readNumber_1 18 rfl
theorem dX5_readNumber_39 : decode cX5_readNumber 39 = .ok (.bipush 48, 2) := zo_p16 zh_cX5_readNumber_1 19 48 rfl rfl
theorem zh_cX5_readNumber_2 : zck [48, 100, 60, 42, 89, 180, 0, 19, 4, 96, 181, 0, 19, 132, 2, 1, 167, 255, 204, 42, 27, 8] (zdu 40 cX5_readNumber.data.toList) = true := by decide +kernel
theorem dX5_readNumber_41 : decode cX5_readNumber 41 = .ok (.isub, 1) := zo_100 zh_cX5_readNumber_2 1 rfl
theorem dX5_readNumber_42 : decode cX5_readNumber 42 = .ok (.istore_n 1, 1) := zo_60 zh_cX5_readNumber_2 2 rfl
theorem dX5_readNumber_43 : decode cX5_readNumber 43 = .ok (.aload_n 0, 1) := zo_42 zh_cX5_readNumber_2 3 rfl
theorem dX5_readNumber_44 : decode cX5_readNumber 44 = .ok (.dup, 1) := zo_89 zh_cX5_readNumber_2 4 rfl
theorem dX5_readNumber_45 : decode cX5_readNumber 45 = .ok (.getfield 19, 3) := zo_180 zh_cX5_readNumber_2 5 rfl
theorem dX5_readNumber_48 : decode cX5_readNumber 48 = .ok (.iconst 1, 1) := zo_4 zh_cX5_readNumber_2 8 rfl
theorem dX5_readNumber_49 : decode cX5_readNumber 49 = .ok (.iadd, 1) := zo_96 zh_cX5_readNumber_2 9 rfl
theorem dX5_readNumber_50 : decode cX5_readNumber 50 = .ok (.putfield 19, 3) := zo_181 zh_cX5_readNumber_2 10 rfl
theorem dX5_readNumber_53 : decode cX5_readNumber 53 = .ok (.iinc 2 1, 3) := zo_p132 zh_cX5_readNumber_2 13 1 rfl rfl
theorem dX5_readNumber_56 : decode cX5_readNumber 56 = .ok (.goto (-52), 3) := zo_n167 zh_cX5_readNumber_2 16 51 rfl rfl
theorem dX5_readNumber_59 : decode cX5_readNumber 59 = .ok (.aload_n 0, 1) := zo_42 zh_cX5_readNumber_2 19 rfl
theorem zh_cX5_readNumber_3 : zck [27, 8, 120, 3, 128, 182, 0, 57, 177] (zdu 60 cX5_readNumber.data.toList) = true := by decide +kernel
theorem dX5_readNumber_60 : decode cX5_readNumber 60 = .ok (.iload_n 1, 1) := zo_27 zh_cX5_readNumber_3 0 rfl
theorem dX5_readNumber_61 : decode cX5_readNumber 61 = .ok (.iconst 5, 1) := zo_8 zh_cX5_readNumber_3 1 rfl
theorem dX5_readNumber_62 : decode cX5_readNumber 62 = .ok (.ishl, 1) := zo_120 zh_cX5_readNumber_3 2 rfl
theorem dX5_readNumber_63 : decode cX5_readNumber 63 = .ok (.iconst 0, 1) := zo_3 zh_cX5_readNumber_3 3 rfl
theorem dX5_readNumber_64 : decode cX5_readNumber 64 = .ok (.ior, 1) := zo_128 zh_cX5_readNumber_3 4 rfl
theorem dX5_readNumber_65 : decode cX5_readNumber 65 = .ok (.invokevirtual 57, 3) := zo_182 zh_cX5_readNumber_3 5 rfl
theorem dX5_readNumber_68 : decode cX5_readNumber 68 = .ok (.return_, 1) := zo_177 zh_cX5_readNumber_3 8 rfl
abbrev z_X5_readNumber : List Cond := .code yX5_readNumber cX5_readNumber 3 none :: zW
abbrev wl_X5_readNumber (ad : Nat → Nat) (cs : Nat → ClassId)  (tape_size : Int32) (tape_bytes : Nat → Int32) (lr_size : Int32) (lr_at : Int32) (lr_fault : Int32) (lr_code : Nat → Int32) : va_W := [((ad 23), .inr (9, [.ref (ad 24), .int tape_size])), ((ad 24), .inl (cs 0, 120, .inl tape_bytes)), ((ad 26), .inr (5, [.ref (ad 23), .ref (ad 27), .int lr_size, .int lr_at, .int lr_fault])), ((ad 27), .inl (cs 0, 121, .inl lr_code))]
def Q_X5_readNumber (D : va_G) (cs : Nat → ClassId) (ad : Nat → Nat)  (tape_size : Int32) (tape_bytes : Nat → Int32) (lr_fault : Int32) (A : Nat → Prop) (R : Int32 × Int32 × (Nat → Int32)) : Array Value → State → Outcome → State → Prop :=
  va_Qv (fun u : Int32 × Int32 × (Nat → Int32) => u = R) (fun (u : Int32 × Int32 × (Nat → Int32)) (t : State) => va_P D classes (wl_X5_readNumber ad cs tape_size tape_bytes u.1 u.2.1 lr_fault u.2.2) t.heap ∧ va_D A (wl_X5_readNumber ad cs tape_size tape_bytes u.1 u.2.1 lr_fault u.2.2)) A
abbrev rm_X5_readNumber : Room := { frames := 2, cells := 0, slots := 0, locals := 43 }
theorem g_X5_57 : GoodIn zW (wsV RX5 57 RX5 yX5_emit z_X5_emit) := zGV kw_566 kw_567 kw_568 kw_80 kw_569
theorem g_X5_71 : GoodIn zW (wsV RX5 71 RX9 yX9_isDigitAt z_X9_isDigitAt) := zGV kw_557 kw_558 kw_559 kw_78 kw_560
theorem hd_X5_emit : yX5_emit.cls ≠ "java/lang/invoke/MethodHandle" ∧ yX5_emit.cls ≠ "java/lang/invoke/VarHandle" ∧ (parseMethodDescriptor yX5_emit.desc).map (fun d => d.parameters.length) = some 1 := by decide +kernel
def B_X5_readNumber_59   (g4 : Int32 → Int32 → Int32 → Int32 → (Nat → Int32) → (Option (Int32 × Int32 × (Nat → Int32)))) (tape_size : Int32) (tape_bytes : Nat → Int32) (lr_fault : Int32) (x1 : Int32) (lr_size : Int32) (lr_at : Int32) (lr_code : Nat → Int32) : Option (Int32 × Int32 × (Nat → Int32)) :=
  (zk_b2 (f_X5_emit ((x1 <<< ((5 : Int32) &&& 31)) ||| (0 : Int32)) lr_size lr_at lr_fault lr_code) (fun u_12 u_13 => (some (u_12, lr_at, u_13))))
def B_X5_readNumber_4   (g4 : Int32 → Int32 → Int32 → Int32 → (Nat → Int32) → (Option (Int32 × Int32 × (Nat → Int32)))) (tape_size : Int32) (tape_bytes : Nat → Int32) (lr_fault : Int32) (x1 : Int32) (x2 : Int32) (lr_size : Int32) (lr_at : Int32) (lr_code : Nat → Int32) : Option (Int32 × Int32 × (Nat → Int32)) :=
  (if (4 : Int32) ≤ x2 then (B_X5_readNumber_59 g4 tape_size tape_bytes lr_fault x1 lr_size lr_at lr_code) else (zk_b2 (f_X9_isDigitAt lr_at tape_size tape_bytes) (fun r_2 u_3 => (if r_2 = 0 then (B_X5_readNumber_59 g4 tape_size tape_bytes lr_fault x1 lr_size lr_at lr_code) else (zk_b2 (f_X9_byteAt lr_at tape_size tape_bytes) (fun r_6 u_7 => (zk_let (((x1 * (10 : Int32)) + r_6) - (48 : Int32)) (fun v_9 => (zk_let (lr_at + (1 : Int32)) (fun v_10 => (zk_let (x2 + (1 : Int32)) (fun v_11 => (g4 v_9 v_11 lr_size v_10 lr_code)))))))))))))
def B_X5_readNumber_0   (g4 : Int32 → Int32 → Int32 → Int32 → (Nat → Int32) → (Option (Int32 × Int32 × (Nat → Int32)))) (tape_size : Int32) (tape_bytes : Nat → Int32) (lr_fault : Int32) (lr_size : Int32) (lr_at : Int32) (lr_code : Nat → Int32) : Option (Int32 × Int32 × (Nat → Int32)) :=
  (g4 (0 : Int32) (0 : Int32) lr_size lr_at lr_code)
def G_X5_readNumber   (tape_size : Int32) (tape_bytes : Nat → Int32) (lr_fault : Int32) (n : Nat) : (Int32 → Int32 → Int32 → Int32 → (Nat → Int32) → (Option (Int32 × Int32 × (Nat → Int32)))) :=
  Nat.rec (motive := fun _ => (Int32 → Int32 → Int32 → Int32 → (Nat → Int32) → (Option (Int32 × Int32 × (Nat → Int32))))) ((fun _ _ _ _ _ => none)) (fun _ ih => (B_X5_readNumber_4   ih tape_size tape_bytes lr_fault)) n
def f_X5_readNumber   (n : Nat)  (tape_size : Int32) (tape_bytes : Nat → Int32) (lr_size : Int32) (lr_at : Int32) (lr_fault : Int32) (lr_code : Nat → Int32) : Option (Int32 × Int32 × (Nat → Int32)) := B_X5_readNumber_0   ((G_X5_readNumber   tape_size tape_bytes lr_fault n)) tape_size tape_bytes lr_fault  lr_size lr_at lr_code
set_option maxHeartbeats 4000000 in
set_option maxRecDepth 100000 in
theorem L_X5_readNumber_59 {p : Program} {l : Launch} {e : Env} {s : State} {m : MethodId} {args : Array Value} {below : List Frame} {meth : Method} {c : Code} {A : Nat → Prop} {D : va_G} {cs : Nat → ClassId} {ad : Nat → Nat} {tape_size : Int32} {tape_bytes : Nat → Int32} {lr_fault : Int32} {R : Int32 × Int32 × (Nat → Int32)} {g4 : Int32 → Int32 → Int32 → Int32 → (Nat → Int32) → (Option (Int32 × Int32 × (Nat → Int32)))} (C0 : zC p s m args meth c cX5_readNumber 3 none RX5 zW) (hK : va_K D classes (zT cs) s) (hA : ∀ q : Nat, s.heap.size ≤ q → A q) (ih4 : ∀ (x1 : Int32) (x2 : Int32) (lr_size : Int32) (lr_at : Int32) (lr_code : Nat → Int32) (h : g4 x1 x2 lr_size lr_at lr_code = some R) (H : Heap) (locs : List Loc) (ls : Array Slot) (hP : va_P D classes (wl_X5_readNumber ad cs tape_size tape_bytes lr_size lr_at lr_fault lr_code) H) (hD : va_D A (wl_X5_readNumber ad cs tape_size tape_bytes lr_size lr_at lr_fault lr_code)) (hS : va_S A s.heap H locs) (hl : lv_has ls 3 [(0, .ref (ad 26)), (1, .int x1), (2, .int x2)]), W p l e rm_X5_readNumber s m args below meth c H locs 0 0 (MQ below (Q_X5_readNumber D cs ad tape_size tape_bytes lr_fault A R) args s 0 0 A) (F0 m 4 ls [])) (x1 : Int32) (lr_size : Int32) (lr_at : Int32) (lr_code : Nat → Int32) (h : B_X5_readNumber_59 g4 tape_size tape_bytes lr_fault x1 lr_size lr_at lr_code = some R) (H : Heap) (locs : List Loc) (ls : Array Slot) (hP : va_P D classes (wl_X5_readNumber ad cs tape_size tape_bytes lr_size lr_at lr_fault lr_code) H) (hD : va_D A (wl_X5_readNumber ad cs tape_size tape_bytes lr_size lr_at lr_fault lr_code)) (hS : va_S A s.heap H locs) (hl : lv_has ls 3 [(0, .ref (ad 26)), (1, .int x1)]) : W p l e rm_X5_readNumber s m args below meth c H locs 0 0 (MQ below (Q_X5_readNumber D cs ad tape_size tape_bytes lr_fault A R) args s 0 0 A) (F0 m 59 ls []) := by
  obtain ⟨hx, hb, hr, hml, hown, ht, hlocks⟩ := id C0
  refine lv_aload_n hx hb dX5_readNumber_59 rfl (lv_at hl 0 rfl) ?_
  refine lv_iload_n hx hb dX5_readNumber_60 rfl (lv_at hl 1 rfl) ?_
  refine lv_iconst (v := (5 : Int32)) hx hb dX5_readNumber_61 (by decide) ?_
  refine lv_ishl hx hb dX5_readNumber_62 ?_
  refine lv_iconst (v := (0 : Int32)) hx hb dX5_readNumber_63 (by decide) ?_
  refine lv_ior hx hb dX5_readNumber_64 ?_
  obtain ⟨u_12, u_13, hc_14, h⟩ := zk_o2 h
  refine zz_vv (post := (fun u => u = (u_12, u_13))) (w1 := fun u => (wl_X5_emit ad cs u.1 lr_at lr_fault u.2)) (As := [.int ((x1 <<< ((5 : Int32) &&& 31)) ||| (0 : Int32))]) (rest := []) (c_X5_emit l D cs ad  H.size ((x1 <<< ((5 : Int32) &&& 31)) ||| (0 : Int32)) lr_size lr_at lr_fault lr_code (u_12, u_13) hc_14) ⟨hx, hb, hml, hown, ht⟩ (cwV 1 ht g_X5_57 rfl rfl rfl ⟨rfl, hd_X5_emit⟩ ⟨Nat.le_of_ble_eq_true rfl, Nat.le_of_ble_eq_true rfl⟩) (va_recv hK hP (ci := 5) (q0 := 2) rfl rfl) hP hD hS hK hA [2, 3] rfl rfl [(ad 26), (ad 27)] rfl (fun _ => rfl) rfl hl.1 (Nat.le_of_ble_eq_true rfl) dX5_readNumber_65 ⟨Nat.zero_le _, Nat.zero_le _⟩ (fun u H locs hq hP hS => ?_)
  cases hq
  have hP : va_P D classes (wl_X5_readNumber ad cs tape_size tape_bytes u_12 lr_at lr_fault u_13) H := hP
  have hD : va_D A (wl_X5_readNumber ad cs tape_size tape_bytes u_12 lr_at lr_fault u_13) := zDk hD [(ad 23), (ad 24), (ad 26), (ad 27)] rfl rfl
  exact W.vret hx hb hr (fun t ht2 hW => ⟨⟨(u_12, lr_at, u_13), rfl, Option.some.inj h, by rw [ht2]; exact hP, hD⟩, hS.F ht2⟩) hS.2.2 dX5_readNumber_68 hlocks
set_option maxHeartbeats 4000000 in
set_option maxRecDepth 100000 in
theorem L_X5_readNumber_4 {p : Program} {l : Launch} {e : Env} {s : State} {m : MethodId} {args : Array Value} {below : List Frame} {meth : Method} {c : Code} {A : Nat → Prop} {D : va_G} {cs : Nat → ClassId} {ad : Nat → Nat} {tape_size : Int32} {tape_bytes : Nat → Int32} {lr_fault : Int32} {R : Int32 × Int32 × (Nat → Int32)} {g4 : Int32 → Int32 → Int32 → Int32 → (Nat → Int32) → (Option (Int32 × Int32 × (Nat → Int32)))} (C0 : zC p s m args meth c cX5_readNumber 3 none RX5 zW) (hK : va_K D classes (zT cs) s) (hA : ∀ q : Nat, s.heap.size ≤ q → A q) (ih4 : ∀ (x1 : Int32) (x2 : Int32) (lr_size : Int32) (lr_at : Int32) (lr_code : Nat → Int32) (h : g4 x1 x2 lr_size lr_at lr_code = some R) (H : Heap) (locs : List Loc) (ls : Array Slot) (hP : va_P D classes (wl_X5_readNumber ad cs tape_size tape_bytes lr_size lr_at lr_fault lr_code) H) (hD : va_D A (wl_X5_readNumber ad cs tape_size tape_bytes lr_size lr_at lr_fault lr_code)) (hS : va_S A s.heap H locs) (hl : lv_has ls 3 [(0, .ref (ad 26)), (1, .int x1), (2, .int x2)]), W p l e rm_X5_readNumber s m args below meth c H locs 0 0 (MQ below (Q_X5_readNumber D cs ad tape_size tape_bytes lr_fault A R) args s 0 0 A) (F0 m 4 ls [])) (x1 : Int32) (x2 : Int32) (lr_size : Int32) (lr_at : Int32) (lr_code : Nat → Int32) (h : B_X5_readNumber_4 g4 tape_size tape_bytes lr_fault x1 x2 lr_size lr_at lr_code = some R) (H : Heap) (locs : List Loc) (ls : Array Slot) (hP : va_P D classes (wl_X5_readNumber ad cs tape_size tape_bytes lr_size lr_at lr_fault lr_code) H) (hD : va_D A (wl_X5_readNumber ad cs tape_size tape_bytes lr_size lr_at lr_fault lr_code)) (hS : va_S A s.heap H locs) (hl : lv_has ls 3 [(0, .ref (ad 26)), (1, .int x1), (2, .int x2)]) : W p l e rm_X5_readNumber s m args below meth c H locs 0 0 (MQ below (Q_X5_readNumber D cs ad tape_size tape_bytes lr_fault A R) args s 0 0 A) (F0 m 4 ls []) := by
  obtain ⟨hx, hb, hr, hml, hown, ht, hlocks⟩ := id C0
  refine lv_iload_n hx hb dX5_readNumber_4 rfl (lv_at hl 2 rfl) ?_
  refine lv_iconst (v := (4 : Int32)) hx hb dX5_readNumber_5 (by decide) ?_
  refine lv_icmp_ge (tgt := 59) hx hb dX5_readNumber_6 (by decide) (fun c_1 => ?_) (fun c_1 => ?_)
  · have h := zk_t c_1 h
    exact L_X5_readNumber_59 C0 hK hA  ih4 x1 lr_size lr_at lr_code h H locs ls hP hD hS (lv_sub hl [0, 1] rfl)
  · have h := zk_f c_1 h
    refine lv_aload_n hx hb dX5_readNumber_9 rfl (lv_at hl 0 rfl) ?_
    refine va_get (D := D) (ci := 5) (v := .ref (ad 23)) (C := RX5) (T := TX5) (N := 5) hx hb ht iX5 hown hK hP 2 rfl rfl 0 (by decide) (ht _ kw_274) (fun _ h9 => h9) rfl dX5_readNumber_10 ?_
    refine lv_aload_n hx hb dX5_readNumber_13 rfl (lv_at hl 0 rfl) ?_
    refine va_get (D := D) (ci := 5) (v := .int lr_at) (C := RX5) (T := TX5) (N := 5) hx hb ht iX5 hown hK hP 2 rfl rfl 3 (by decide) (ht _ kw_277) (fun _ h9 => h9) rfl dX5_readNumber_14 ?_
    obtain ⟨r_2, u_3, hc_4, h⟩ := zk_o2 h
    refine zz_vi (post := (fun r u => (r, u) = (r_2, u_3))) (w1 := fun u => (wl_X9_isDigitAt ad cs tape_size tape_bytes)) (As := [.int lr_at]) (rest := []) (c_X9_isDigitAt l D cs ad  H.size lr_at tape_size tape_bytes (r_2, u_3) hc_4) ⟨hx, hb, hml, hown, ht⟩ (cwV 1 ht g_X5_71 rfl rfl rfl ⟨rfl, hd_X9_isDigitAt⟩ ⟨Nat.le_of_ble_eq_true rfl, Nat.le_of_ble_eq_true rfl⟩) (va_recv hK hP (ci := 9) (q0 := 0) rfl rfl) hP hD hS hK hA [0, 1] rfl rfl [(ad 23), (ad 24)] rfl (fun _ => rfl) rfl hl.1 (Nat.le_of_ble_eq_true rfl) dX5_readNumber_17 ⟨Nat.zero_le _, Nat.zero_le _⟩ (fun r u H locs hq hP hS => ?_)
    cases hq
    have hP : va_P D classes (wl_X5_readNumber ad cs tape_size tape_bytes lr_size lr_at lr_fault lr_code) H := hP
    have hD : va_D A (wl_X5_readNumber ad cs tape_size tape_bytes lr_size lr_at lr_fault lr_code) := zDk hD [(ad 23), (ad 24), (ad 26), (ad 27)] rfl rfl
    refine lv_if_eq (tgt := 59) hx hb dX5_readNumber_20 (by decide) (fun c_5 => ?_) (fun c_5 => ?_)
    · have h := zk_t c_5 h
      exact L_X5_readNumber_59 C0 hK hA  ih4 x1 lr_size lr_at lr_code h H locs ls hP hD hS (lv_sub hl [0, 1] rfl)
    · have h := zk_f c_5 h
      refine lv_iload_n hx hb dX5_readNumber_23 rfl (lv_at hl 1 rfl) ?_
      refine lv_bipush (v := (10 : Int32)) hx hb dX5_readNumber_24 (by decide) ?_
      refine lv_imul hx hb dX5_readNumber_26 ?_
      refine lv_aload_n hx hb dX5_readNumber_27 rfl (lv_at hl 0 rfl) ?_
      refine va_get (D := D) (ci := 5) (v := .ref (ad 23)) (C := RX5) (T := TX5) (N := 5) hx hb ht iX5 hown hK hP 2 rfl rfl 0 (by decide) (ht _ kw_274) (fun _ h9 => h9) rfl dX5_readNumber_28 ?_
      refine lv_aload_n hx hb dX5_readNumber_31 rfl (lv_at hl 0 rfl) ?_
      refine va_get (D := D) (ci := 5) (v := .int lr_at) (C := RX5) (T := TX5) (N := 5) hx hb ht iX5 hown hK hP 2 rfl rfl 3 (by decide) (ht _ kw_277) (fun _ h9 => h9) rfl dX5_readNumber_32 ?_
      obtain ⟨r_6, u_7, hc_8, h⟩ := zk_o2 h
      refine zz_vi (post := (fun r u => (r, u) = (r_6, u_7))) (w1 := fun u => (wl_X9_byteAt ad cs tape_size tape_bytes)) (As := [.int lr_at]) (rest := [.int (x1 * (10 : Int32))]) (c_X9_byteAt l D cs ad  H.size lr_at tape_size tape_bytes (r_6, u_7) hc_8) ⟨hx, hb, hml, hown, ht⟩ (cwV 1 ht g_X5_68 rfl rfl rfl ⟨rfl, hd_X9_byteAt⟩ ⟨Nat.le_of_ble_eq_true rfl, Nat.le_of_ble_eq_true rfl⟩) (va_recv hK hP (ci := 9) (q0 := 0) rfl rfl) hP hD hS hK hA [0, 1] rfl rfl [(ad 23), (ad 24)] rfl (fun _ => rfl) rfl hl.1 (Nat.le_of_ble_eq_true rfl) dX5_readNumber_35 ⟨Nat.zero_le _, Nat.zero_le _⟩ (fun r u H locs hq hP hS => ?_)
      cases hq
      have hP : va_P D classes (wl_X5_readNumber ad cs tape_size tape_bytes lr_size lr_at lr_fault lr_code) H := hP
      have hD : va_D A (wl_X5_readNumber ad cs tape_size tape_bytes lr_size lr_at lr_fault lr_code) := zDk hD [(ad 23), (ad 24), (ad 26), (ad 27)] rfl rfl
      refine lv_iadd hx hb dX5_readNumber_38 ?_
      refine lv_bipush (v := (48 : Int32)) hx hb dX5_readNumber_39 (by decide) ?_
      refine lv_isub hx hb dX5_readNumber_41 ?_
      obtain ⟨v_9, ev_9, h⟩ := zk_lt h
      refine W.eq (g2 := F0 m 42 ls [.int v_9]) (by rw [ev_9]) ?_
      refine lv_istore_n (lv' := [(1, .int v_9), (0, .ref (ad 26)), (2, .int x2)]) hx hb dX5_readNumber_42 rfl hl (by decide) rfl (fun ls hl => ?_)
      refine lv_aload_n hx hb dX5_readNumber_43 rfl (lv_at hl 1 rfl) ?_
      refine lv_dup hx hb dX5_readNumber_44 rfl ?_
      refine va_get (D := D) (ci := 5) (v := .int lr_at) (C := RX5) (T := TX5) (N := 5) hx hb ht iX5 hown hK hP 2 rfl rfl 3 (by decide) (ht _ kw_277) (fun _ h9 => h9) rfl dX5_readNumber_45 ?_
      refine lv_iconst (v := (1 : Int32)) hx hb dX5_readNumber_48 (by decide) ?_
      refine lv_iadd hx hb dX5_readNumber_49 ?_
      obtain ⟨v_10, ev_10, h⟩ := zk_lt h
      refine W.eq (g2 := F0 m 50 ls [.int v_10, .ref (ad 26)]) (by rw [ev_10]) ?_
      refine va_put (D := D) (ci := 5) (v := .int v_10) (ty := .int) (C := RX5) (T := TX5) (N := 5) hx hb ht iX5 tyX5 tyX5_ok nmX5 hown hK hP hD hS 2 rfl rfl 3 (by decide) (ht _ kw_277) (fun _ h9 => h9) rfl (by decide +kernel) rfl rfl (Nat.le_of_ble_eq_true rfl) dX5_readNumber_50 (fun H locs hP hD hS => ?_)
      have hP : va_P D classes (wl_X5_readNumber ad cs tape_size tape_bytes lr_size v_10 lr_fault lr_code) H := hP
      have hD : va_D A (wl_X5_readNumber ad cs tape_size tape_bytes lr_size v_10 lr_fault lr_code) := hD
      obtain ⟨v_11, ev_11, h⟩ := zk_lt h
      refine lv_iinc (v := v_11) (lv' := [(2, .int v_11), (1, .int v_9), (0, .ref (ad 26))]) hx hb dX5_readNumber_53 hl (k := 2) rfl (by rw [ev_11]; rfl) (by decide) rfl (fun ls hl => ?_)
      refine lv_goto (tgt := 4) hx hb dX5_readNumber_56 (by decide) ?_
      exact ih4 v_9 v_11 lr_size v_10 lr_code h H locs ls hP hD hS (lv_sub hl [2, 1, 0] rfl)
set_option maxHeartbeats 4000000 in
set_option maxRecDepth 100000 in
theorem L_X5_readNumber_0 {p : Program} {l : Launch} {e : Env} {s : State} {m : MethodId} {args : Array Value} {below : List Frame} {meth : Method} {c : Code} {A : Nat → Prop} {D : va_G} {cs : Nat → ClassId} {ad : Nat → Nat} {tape_size : Int32} {tape_bytes : Nat → Int32} {lr_fault : Int32} {R : Int32 × Int32 × (Nat → Int32)} {g4 : Int32 → Int32 → Int32 → Int32 → (Nat → Int32) → (Option (Int32 × Int32 × (Nat → Int32)))} (C0 : zC p s m args meth c cX5_readNumber 3 none RX5 zW) (hK : va_K D classes (zT cs) s) (hA : ∀ q : Nat, s.heap.size ≤ q → A q) (ih4 : ∀ (x1 : Int32) (x2 : Int32) (lr_size : Int32) (lr_at : Int32) (lr_code : Nat → Int32) (h : g4 x1 x2 lr_size lr_at lr_code = some R) (H : Heap) (locs : List Loc) (ls : Array Slot) (hP : va_P D classes (wl_X5_readNumber ad cs tape_size tape_bytes lr_size lr_at lr_fault lr_code) H) (hD : va_D A (wl_X5_readNumber ad cs tape_size tape_bytes lr_size lr_at lr_fault lr_code)) (hS : va_S A s.heap H locs) (hl : lv_has ls 3 [(0, .ref (ad 26)), (1, .int x1), (2, .int x2)]), W p l e rm_X5_readNumber s m args below meth c H locs 0 0 (MQ below (Q_X5_readNumber D cs ad tape_size tape_bytes lr_fault A R) args s 0 0 A) (F0 m 4 ls [])) (lr_size : Int32) (lr_at : Int32) (lr_code : Nat → Int32) (h : B_X5_readNumber_0 g4 tape_size tape_bytes lr_fault lr_size lr_at lr_code = some R) (H : Heap) (locs : List Loc) (ls : Array Slot) (hP : va_P D classes (wl_X5_readNumber ad cs tape_size tape_bytes lr_size lr_at lr_fault lr_code) H) (hD : va_D A (wl_X5_readNumber ad cs tape_size tape_bytes lr_size lr_at lr_fault lr_code)) (hS : va_S A s.heap H locs) (hl : lv_has ls 3 [(0, .ref (ad 26))]) : W p l e rm_X5_readNumber s m args below meth c H locs 0 0 (MQ below (Q_X5_readNumber D cs ad tape_size tape_bytes lr_fault A R) args s 0 0 A) (F0 m 0 ls []) := by
  obtain ⟨hx, hb, hr, hml, hown, ht, hlocks⟩ := id C0
  refine lv_iconst (v := (0 : Int32)) hx hb dX5_readNumber_0 (by decide) ?_
  refine lv_istore_n (lv' := [(1, .int (0 : Int32)), (0, .ref (ad 26))]) hx hb dX5_readNumber_1 rfl hl (by decide) rfl (fun ls hl => ?_)
  refine lv_iconst (v := (0 : Int32)) hx hb dX5_readNumber_2 (by decide) ?_
  refine lv_istore_n (lv' := [(2, .int (0 : Int32)), (1, .int (0 : Int32)), (0, .ref (ad 26))]) hx hb dX5_readNumber_3 rfl hl (by decide) rfl (fun ls hl => ?_)
  exact ih4 (0 : Int32) (0 : Int32) lr_size lr_at lr_code h H locs ls hP hD hS (lv_sub hl [2, 1, 0] rfl)
theorem LG_X5_readNumber {p : Program} {l : Launch} {e : Env} {s : State} {m : MethodId} {args : Array Value} {below : List Frame} {meth : Method} {c : Code} {A : Nat → Prop} {D : va_G} {cs : Nat → ClassId} {ad : Nat → Nat} {tape_size : Int32} {tape_bytes : Nat → Int32} {lr_fault : Int32} {R : Int32 × Int32 × (Nat → Int32)} (C0 : zC p s m args meth c cX5_readNumber 3 none RX5 zW) (hK : va_K D classes (zT cs) s) (hA : ∀ q : Nat, s.heap.size ≤ q → A q) : ∀ n : Nat, (∀ (x1 : Int32) (x2 : Int32) (lr_size : Int32) (lr_at : Int32) (lr_code : Nat → Int32) (h : (G_X5_readNumber   tape_size tape_bytes lr_fault n) x1 x2 lr_size lr_at lr_code = some R) (H : Heap) (locs : List Loc) (ls : Array Slot) (hP : va_P D classes (wl_X5_readNumber ad cs tape_size tape_bytes lr_size lr_at lr_fault lr_code) H) (hD : va_D A (wl_X5_readNumber ad cs tape_size tape_bytes lr_size lr_at lr_fault lr_code)) (hS : va_S A s.heap H locs) (hl : lv_has ls 3 [(0, .ref (ad 26)), (1, .int x1), (2, .int x2)]), W p l e rm_X5_readNumber s m args below meth c H locs 0 0 (MQ below (Q_X5_readNumber D cs ad tape_size tape_bytes lr_fault A R) args s 0 0 A) (F0 m 4 ls [])) := by
  intro n
  induction n with
  | zero =>
    refine ?_ <;> (intros; rename_i h _ _ _ _ _ _ _; cases h)
  | succ n ih =>
    exact L_X5_readNumber_4 C0 hK hA  ih
set_option maxHeartbeats 4000000 in
set_option maxRecDepth 100000 in
theorem c_X5_readNumber (l : Launch) (D : va_G) (cs : Nat → ClassId) (ad : Nat → Nat) (sz : Nat) (n : Nat)  (tape_size : Int32) (tape_bytes : Nat → Int32) (lr_size : Int32) (lr_at : Int32) (lr_fault : Int32) (lr_code : Nat → Int32) (R : Int32 × Int32 × (Nat → Int32)) (h : f_X5_readNumber   n  tape_size tape_bytes lr_size lr_at lr_fault lr_code = some R) : Met l yX5_readNumber (z_X5_readNumber) rm_X5_readNumber (va_Pc [.ref (ad 26)] (zPre D cs (wl_X5_readNumber ad cs tape_size tape_bytes lr_size lr_at lr_fault lr_code) sz)) (Q_X5_readNumber D cs ad tape_size tape_bytes lr_fault (va_A (wl_X5_readNumber ad cs tape_size tape_bytes lr_size lr_at lr_fault lr_code) sz) R) 0 0 (va_A (wl_X5_readNumber ad cs tape_size tape_bytes lr_size lr_at lr_fault lr_code) sz) := by
  refine Met.ofW (cc := cX5_readNumber) (maxL := 3) (ret := none) (by decide) rfl ?_
  intro p e s m args below meth c s₁ B hml hv
  obtain ⟨rfl, hsz, hP, hK, hD0⟩ := hv
  subst hsz
  have hD := hD0.self (sz := s.heap.size)
  have C0 : zC p s m _ meth c cX5_readNumber 3 none RX5 zW := ⟨B.exec, B.bytes, B.returns, hml, findClass_of_methodNamed B.named, fun w hw => atoms_spec (ws := z_X5_readNumber) B.pre w (List.mem_cons_of_mem _ hw), B.notSynchronized⟩
  have hA : ∀ q : Nat, s.heap.size ≤ q → va_A (wl_X5_readNumber ad cs tape_size tape_bytes lr_size lr_at lr_fault lr_code) s.heap.size q := fun q h => Or.inr h
  have hl := lv_entry ([.ref (ad 26)]) (n := 3) (Nat.le_of_ble_eq_true rfl)
  rw [lg_entry_eq]
  generalize (lg_sl ([.ref (ad 26)]) ++ List.replicate (3 - (lg_sl ([.ref (ad 26)])).length) Slot.unset).toArray = ls at hl ⊢
  exact L_X5_readNumber_0 C0 hK hA  ((LG_X5_readNumber C0 hK hA  n))  lr_size lr_at lr_code h s.heap [] ls hP hD va_S.rf hl
theorem kw_587 : Cond.methodLink RX5 85 yJ0_indexOf_0f7a4 ∈ zW := zwC (i := 33) zc_3 rfl rfl
theorem kw_588 : Cond.instanceMethod yJ0_indexOf_0f7a4 ∈ zW := zwC (i := 34) zc_3 rfl rfl
theorem kw_589 : Cond.selects RJ0 yJ0_indexOf_0f7a4 yJ0_indexOf_0f7a4 ∈ zW := zwC (i := 35) zc_3 rfl rfl
theorem kw_590 : Cond.code yJ0_indexOf_0f7a4 cJ0_indexOf_0f7a4 2 (some .int) ∈ zW := zwC (i := 36) zc_3 rfl rfl
theorem zh_cX5_readName_0 : zck [27, 156, 0, 7, 2, 167, 0, 10, 18, 83, 27, 146, 182, 0, 85, 61, 28, 156, 0, 8, 42, 182] (zdu 0 cX5_readName.data.toList) = true := by decide +kernel
theorem dX5_readName_0 : decode cX5_readName 0 = .ok (.iload_n 1, 1) := zo_27 zh_cX5_readName_0 0 rfl
theorem dX5_readName_1 : decode cX5_readName 1 = .ok (.ifCond .ge 7, 3) := zo_p156 zh_cX5_readName_0 1 7 rfl rfl
theorem dX5_readName_4 : decode cX5_readName 4 = .ok (.iconst (-1), 1) := zo_2 zh_cX5_readName_0 4 rfl
theorem dX5_readName_5 : decode cX5_readName 5 = .ok (.goto 10, 3) := zo_p167 zh_cX5_readName_0 5 10 rfl rfl
theorem dX5_readName_8 : decode cX5_readName 8 = .ok (.ldc 83, 2) := zo_18 zh_cX5_readName_0 8 rfl
theorem dX5_readName_10 : decode cX5_readName 10 = .ok (.iload_n 1, 1) := zo_27 zh_cX5_readName_0 10 rfl
theorem dX5_readName_11 : decode cX5_readName 11 = .ok (.i2c, 1) := zo_146 zh_cX5_readName_0 11 rfl
theorem dX5_readName_12 : decode cX5_readName 12 = .ok (.invokevirtual 85, 3) := zo_182 zh_cX5_readName_0 12 rfl
theorem dX5_readName_15 : decode cX5_readName 15 = .ok (.istore_n 2, 1) := zo_61 zh_cX5_readName_0 15 rfl
theorem dX5_readName_16 : decode cX5_readName 16 = .ok (.iload_n 2, 1) := zo_28 zh_cX5_readName_0 16 rfl
theorem dX5_readName_17 : decode cX5_readName 17 = .ok (.ifCond .ge 8, 3) := zo_p156 zh_cX5_readName_0 17 8 rfl rfl
theorem zh_cX5_readName_1 : zck [42, 182, 0, 39, 177, 42, 89, 180, 0, 19, 4, 96, 181, 0, 19, 42, 28, 8, 120, 4, 128, 182] (zdu 20 cX5_readName.data.toList) = true := by decide +kernel
theorem dX5_readName_20 : decode cX5_readName 20 = .ok (.aload_n 0, 1) := zo_42 zh_cX5_readName_1 0 rfl
theorem dX5_readName_21 : decode cX5_readName 21 = .ok (.invokevirtual 39, 3) := zo_182 zh_cX5_readName_1 1 rfl
theorem dX5_readName_24 : decode cX5_readName 24 = .ok (.return_, 1) := zo_177 zh_cX5_readName_1 4 rfl
theorem dX5_readName_25 : decode cX5_readName 25 = .ok (.aload_n 0, 1) := zo_42 zh_cX5_readName_1 5 rfl
theorem dX5_readName_26 : decode cX5_readName 26 = .ok (.dup, 1) := zo_89 zh_cX5_readName_1 6 rfl
theorem dX5_readName_27 : decode cX5_readName 27 = .ok (.getfield 19, 3) := zo_180 zh_cX5_readName_1 7 rfl
theorem dX5_readName_30 : decode cX5_readName 30 = .ok (.iconst 1, 1) := zo_4 zh_cX5_readName_1 10 rfl
theorem dX5_readName_31 : decode cX5_readName 31 = .ok (.iadd, 1) := zo_96 zh_cX5_readName_1 11 rfl
theorem dX5_readName_32 : decode cX5_readName 32 = .ok (.putfield 19, 3) := zo_181 zh_cX5_readName_1 12 rfl
theorem dX5_readName_35 : decode cX5_readName 35 = .ok (.aload_n 0, 1) := zo_42 zh_cX5_readName_1 15 rfl
theorem dX5_readName_36 : decode cX5_readName 36 = .ok (.iload_n 2, 1) := zo_28 zh_cX5_readName_1 16 rfl
theorem dX5_readName_37 : decode cX5_readName 37 = .ok (.iconst 5, 1) := zo_8 zh_cX5_readName_1 17 rfl
theorem dX5_readName_38 : decode cX5_readName 38 = .ok (.ishl, 1) := zo_120 zh_cX5_readName_1 18 rfl
theorem dX5_readName_39 : decode cX5_readName 39 = .ok (.iconst 1, 1) := zo_4 zh_cX5_readName_1 19 rfl
theorem zh_cX5_readName_2 : zck [128, 182, 0, 57, 177] (zdu 40 cX5_readName.data.toList) = true := by decide +kernel
theorem dX5_readName_40 : decode cX5_readName 40 = .ok (.ior, 1) := zo_128 zh_cX5_readName_2 0 rfl
theorem dX5_readName_41 : decode cX5_readName 41 = .ok (.invokevirtual 57, 3) := zo_182 zh_cX5_readName_2 1 rfl
theorem dX5_readName_44 : decode cX5_readName 44 = .ok (.return_, 1) := zo_177 zh_cX5_readName_2 4 rfl
abbrev z_X5_readName : List Cond := .code yX5_readName cX5_readName 3 none :: zW
abbrev wl_X5_readName (ad : Nat → Nat) (cs : Nat → ClassId)  (lr_size : Int32) (lr_at : Int32) (lr_fault : Int32) (lr_code : Nat → Int32) : va_W := [((ad 26), .inr (5, [.ref (ad 23), .ref (ad 27), .int lr_size, .int lr_at, .int lr_fault])), ((ad 27), .inl (cs 0, 121, .inl lr_code))]
def Q_X5_readName (D : va_G) (cs : Nat → ClassId) (ad : Nat → Nat)   (A : Nat → Prop) (R : Int32 × Int32 × Int32 × (Nat → Int32)) : Array Value → State → Outcome → State → Prop :=
  va_Qv (fun u : Int32 × Int32 × Int32 × (Nat → Int32) => u = R) (fun (u : Int32 × Int32 × Int32 × (Nat → Int32)) (t : State) => va_P D classes (wl_X5_readName ad cs u.1 u.2.1 u.2.2.1 u.2.2.2) t.heap ∧ va_D A (wl_X5_readName ad cs u.1 u.2.1 u.2.2.1 u.2.2.2)) A
abbrev rm_X5_readName : Room := { frames := 4, cells := 0, slots := 0, locals := 91 }
theorem g_X5_85 : GoodIn zW (wsV RX5 85 RJ0 yJ0_indexOf_0f7a4 z_J0_indexOf_0f7a4) := zGV kw_587 kw_588 kw_589 kw_85 kw_590
theorem hd_J0_indexOf_0f7a4 : yJ0_indexOf_0f7a4.cls ≠ "java/lang/invoke/MethodHandle" ∧ yJ0_indexOf_0f7a4.cls ≠ "java/lang/invoke/VarHandle" ∧ (parseMethodDescriptor yJ0_indexOf_0f7a4.desc).map (fun d => d.parameters.length) = some 1 := by decide +kernel
def B_X5_readName_15     (s0 : Int32) (lr_size : Int32) (lr_at : Int32) (lr_fault : Int32) (lr_code : Nat → Int32) : Option (Int32 × Int32 × Int32 × (Nat → Int32)) :=
  (if 0 ≤ s0 then (zk_let (lr_at + (1 : Int32)) (fun v_6 => (zk_b2 (f_X5_emit ((s0 <<< ((5 : Int32) &&& 31)) ||| (1 : Int32)) lr_size v_6 lr_fault lr_code) (fun u_7 u_8 => (some (u_7, v_6, lr_fault, u_8)))))) else (zk_b1 (f_X5_fail lr_size lr_at lr_fault) (fun u_10 => (some (lr_size, lr_at, u_10, lr_code)))))
def B_X5_readName_0     (x1 : Int32) (lr_size : Int32) (lr_at : Int32) (lr_fault : Int32) (lr_code : Nat → Int32) : Option (Int32 × Int32 × Int32 × (Nat → Int32)) :=
  (if 0 ≤ x1 then (zk_b2 (f_J0_indexOf_0f7a4 4 ((x1.toUInt32 % 65536).toInt32)) (fun r_2 u_3 => (B_X5_readName_15 r_2 lr_size lr_at lr_fault lr_code))) else (B_X5_readName_15 (-1 : Int32) lr_size lr_at lr_fault lr_code))
def f_X5_readName   (x1 : Int32) (lr_size : Int32) (lr_at : Int32) (lr_fault : Int32) (lr_code : Nat → Int32) : Option (Int32 × Int32 × Int32 × (Nat → Int32)) := B_X5_readName_0    x1 lr_size lr_at lr_fault lr_code
set_option maxHeartbeats 4000000 in
set_option maxRecDepth 100000 in
theorem L_X5_readName_15 {p : Program} {l : Launch} {e : Env} {s : State} {m : MethodId} {args : Array Value} {below : List Frame} {meth : Method} {c : Code} {A : Nat → Prop} {D : va_G} {cs : Nat → ClassId} {ad : Nat → Nat} {R : Int32 × Int32 × Int32 × (Nat → Int32)} (C0 : zC p s m args meth c cX5_readName 3 none RX5 zW) (hK : va_K D classes (zT cs) s) {k : (Nat → Nat) × (Nat → Nat)} (hO : zO s) (hE : zE k A s) (hA : ∀ q : Nat, s.heap.size ≤ q → A q) (s0 : Int32) (lr_size : Int32) (lr_at : Int32) (lr_fault : Int32) (lr_code : Nat → Int32) (h : B_X5_readName_15 s0 lr_size lr_at lr_fault lr_code = some R) (H : Heap) (locs : List Loc) (ls : Array Slot) (hP : va_P D classes (wl_X5_readName ad cs lr_size lr_at lr_fault lr_code) H) (hD : va_D A (wl_X5_readName ad cs lr_size lr_at lr_fault lr_code)) (hS : va_S A s.heap H locs) (hl : lv_has ls 3 [(0, .ref (ad 26))]) : W p l e rm_X5_readName s m args below meth c H locs 0 0 (MQ below (Q_X5_readName D cs ad  A R) args s 0 0 A) (F0 m 15 ls [.int s0]) := by
  obtain ⟨hx, hb, hr, hml, hown, ht, hlocks⟩ := id C0
  refine lv_istore_n (lv' := [(2, .int s0), (0, .ref (ad 26))]) hx hb dX5_readName_15 rfl hl (by decide) rfl (fun ls hl => ?_)
  refine lv_iload_n hx hb dX5_readName_16 rfl (lv_at hl 0 rfl) ?_
  refine lv_if_ge (tgt := 25) hx hb dX5_readName_17 (by decide) (fun c_5 => ?_) (fun c_5 => ?_)
  · have h := zk_t c_5 h
    refine lv_aload_n hx hb dX5_readName_25 rfl (lv_at hl 1 rfl) ?_
    refine lv_dup hx hb dX5_readName_26 rfl ?_
    refine va_get (D := D) (ci := 5) (v := .int lr_at) (C := RX5) (T := TX5) (N := 5) hx hb ht iX5 hown hK hP 0 rfl rfl 3 (by decide) (ht _ kw_277) (fun _ h9 => h9) rfl dX5_readName_27 ?_
    refine lv_iconst (v := (1 : Int32)) hx hb dX5_readName_30 (by decide) ?_
    refine lv_iadd hx hb dX5_readName_31 ?_
    obtain ⟨v_6, ev_6, h⟩ := zk_lt h
    refine W.eq (g2 := F0 m 32 ls [.int v_6, .ref (ad 26)]) (by rw [ev_6]) ?_
    refine va_put (D := D) (ci := 5) (v := .int v_6) (ty := .int) (C := RX5) (T := TX5) (N := 5) hx hb ht iX5 tyX5 tyX5_ok nmX5 hown hK hP hD hS 0 rfl rfl 3 (by decide) (ht _ kw_277) (fun _ h9 => h9) rfl (by decide +kernel) rfl rfl (Nat.le_of_ble_eq_true rfl) dX5_readName_32 (fun H locs hP hD hS => ?_)
    have hP : va_P D classes (wl_X5_readName ad cs lr_size v_6 lr_fault lr_code) H := hP
    have hD : va_D A (wl_X5_readName ad cs lr_size v_6 lr_fault lr_code) := hD
    refine lv_aload_n hx hb dX5_readName_35 rfl (lv_at hl 1 rfl) ?_
    refine lv_iload_n hx hb dX5_readName_36 rfl (lv_at hl 0 rfl) ?_
    refine lv_iconst (v := (5 : Int32)) hx hb dX5_readName_37 (by decide) ?_
    refine lv_ishl hx hb dX5_readName_38 ?_
    refine lv_iconst (v := (1 : Int32)) hx hb dX5_readName_39 (by decide) ?_
    refine lv_ior hx hb dX5_readName_40 ?_
    obtain ⟨u_7, u_8, hc_9, h⟩ := zk_o2 h
    refine zz_vv (post := (fun u => u = (u_7, u_8))) (w1 := fun u => (wl_X5_emit ad cs u.1 v_6 lr_fault u.2)) (As := [.int ((s0 <<< ((5 : Int32) &&& 31)) ||| (1 : Int32))]) (rest := []) (c_X5_emit l D cs ad  H.size ((s0 <<< ((5 : Int32) &&& 31)) ||| (1 : Int32)) lr_size v_6 lr_fault lr_code (u_7, u_8) hc_9) ⟨hx, hb, hml, hown, ht⟩ (cwV 1 ht g_X5_57 rfl rfl rfl ⟨rfl, hd_X5_emit⟩ ⟨Nat.le_of_ble_eq_true rfl, Nat.le_of_ble_eq_true rfl⟩) (va_recv hK hP (ci := 5) (q0 := 0) rfl rfl) hP hD hS hK hA [0, 1] rfl rfl [(ad 26), (ad 27)] rfl (fun _ => rfl) rfl hl.1 (Nat.le_of_ble_eq_true rfl) dX5_readName_41 ⟨Nat.zero_le _, Nat.zero_le _⟩ (fun u H locs hq hP hS => ?_)
    cases hq
    have hP : va_P D classes (wl_X5_readName ad cs u_7 v_6 lr_fault u_8) H := hP
    have hD : va_D A (wl_X5_readName ad cs u_7 v_6 lr_fault u_8) := zDk hD [(ad 26), (ad 27)] rfl rfl
    exact W.vret hx hb hr (fun t ht2 hW => ⟨⟨(u_7, v_6, lr_fault, u_8), rfl, Option.some.inj h, by rw [ht2]; exact hP, hD⟩, hS.F ht2⟩) hS.2.2 dX5_readName_44 hlocks
  · have h := zk_f c_5 h
    refine lv_aload_n hx hb dX5_readName_20 rfl (lv_at hl 1 rfl) ?_
    obtain ⟨u_10, hc_11, h⟩ := zk_o1 h
    refine zz_vv (post := (fun u => u = u_10)) (w1 := fun u => (wl_X5_fail ad cs lr_size lr_at u)) (As := []) (rest := []) (c_X5_fail l D cs ad  H.size lr_size lr_at lr_fault u_10 hc_11) ⟨hx, hb, hml, hown, ht⟩ (cwV 0 ht g_X5_39 rfl rfl rfl ⟨rfl, hd_X5_fail⟩ ⟨Nat.le_of_ble_eq_true rfl, Nat.le_of_ble_eq_true rfl⟩) (va_recv hK hP (ci := 5) (q0 := 0) rfl rfl) hP hD hS hK hA [0] rfl rfl [(ad 26)] rfl (fun _ => rfl) rfl hl.1 (Nat.le_of_ble_eq_true rfl) dX5_readName_21 ⟨Nat.zero_le _, Nat.zero_le _⟩ (fun u H locs hq hP hS => ?_)
    cases hq
    have hP : va_P D classes (wl_X5_readName ad cs lr_size lr_at u_10 lr_code) H := hP
    have hD : va_D A (wl_X5_readName ad cs lr_size lr_at u_10 lr_code) := zDk hD [(ad 26), (ad 27)] rfl rfl
    exact W.vret hx hb hr (fun t ht2 hW => ⟨⟨(lr_size, lr_at, u_10, lr_code), rfl, Option.some.inj h, by rw [ht2]; exact hP, hD⟩, hS.F ht2⟩) hS.2.2 dX5_readName_24 hlocks
set_option maxHeartbeats 4000000 in
set_option maxRecDepth 100000 in
theorem L_X5_readName_0 {p : Program} {l : Launch} {e : Env} {s : State} {m : MethodId} {args : Array Value} {below : List Frame} {meth : Method} {c : Code} {A : Nat → Prop} {D : va_G} {cs : Nat → ClassId} {ad : Nat → Nat} {R : Int32 × Int32 × Int32 × (Nat → Int32)} (C0 : zC p s m args meth c cX5_readName 3 none RX5 zW) (hK : va_K D classes (zT cs) s) {k : (Nat → Nat) × (Nat → Nat)} (hO : zO s) (hE : zE k A s) (hA : ∀ q : Nat, s.heap.size ≤ q → A q) (x1 : Int32) (lr_size : Int32) (lr_at : Int32) (lr_fault : Int32) (lr_code : Nat → Int32) (h : B_X5_readName_0 x1 lr_size lr_at lr_fault lr_code = some R) (H : Heap) (locs : List Loc) (ls : Array Slot) (hP : va_P D classes (wl_X5_readName ad cs lr_size lr_at lr_fault lr_code) H) (hD : va_D A (wl_X5_readName ad cs lr_size lr_at lr_fault lr_code)) (hS : va_S A s.heap H locs) (hl : lv_has ls 3 [(0, .ref (ad 26)), (1, .int x1)]) : W p l e rm_X5_readName s m args below meth c H locs 0 0 (MQ below (Q_X5_readName D cs ad  A R) args s 0 0 A) (F0 m 0 ls []) := by
  obtain ⟨hx, hb, hr, hml, hown, ht, hlocks⟩ := id C0
  refine lv_iload_n hx hb dX5_readName_0 rfl (lv_at hl 1 rfl) ?_
  refine lv_if_ge (tgt := 8) hx hb dX5_readName_1 (by decide) (fun c_1 => ?_) (fun c_1 => ?_)
  · have h := zk_t c_1 h
    refine va_ldcS hx hb hown (hE.2.1 4 (RX5, 83, "kwdlhascrfn") rfl) dX5_readName_8 ?_
    refine lv_iload_n hx hb dX5_readName_10 rfl (lv_at hl 1 rfl) ?_
    refine lv_i2c (v := (x1.toUInt32 % 65536).toInt32) hx hb dX5_readName_11 rfl ?_
    obtain ⟨r_2, u_3, hc_4, h⟩ := zk_o2 h
    refine zk_viE (post := (fun r u => (r, u) = (r_2, u_3))) (w1 := fun u => (wl_J0_indexOf_0f7a4 ad cs )) (As := [.int ((x1.toUInt32 % 65536).toInt32)]) (rest := []) hE hO (c_J0_indexOf_0f7a4 l D cs ad k 4 (by decide) H.size ((x1.toUInt32 % 65536).toInt32) (r_2, u_3) hc_4) ⟨hx, hb, hml, hown, ht⟩ (cwV 1 ht g_X5_85 rfl rfl rfl ⟨rfl, hd_J0_indexOf_0f7a4⟩ ⟨Nat.le_of_ble_eq_true rfl, Nat.le_of_ble_eq_true rfl⟩) (vk_recv hE.1 (by decide) hS) hP hD hS hK hA [] [0, 1] rfl rfl rfl rfl (by decide) rfl hl.1 (Nat.le_of_ble_eq_true rfl) dX5_readName_12 ⟨Nat.zero_le _, Nat.zero_le _⟩ (fun r u H locs hq hP hD hS => ?_)
    cases hq
    have hP : va_P D classes (wl_X5_readName ad cs lr_size lr_at lr_fault lr_code) H := hP.sub [0, 1] rfl
    have hD : va_D A (wl_X5_readName ad cs lr_size lr_at lr_fault lr_code) := hD.sub [0, 1] rfl rfl
    exact L_X5_readName_15 C0 hK hO hE hA   r_2 lr_size lr_at lr_fault lr_code h H locs ls hP hD hS (lv_sub hl [0] rfl)
  · have h := zk_f c_1 h
    refine lv_iconst (v := (-1 : Int32)) hx hb dX5_readName_4 (by decide) ?_
    refine lv_goto (tgt := 15) hx hb dX5_readName_5 (by decide) ?_
    exact L_X5_readName_15 C0 hK hO hE hA   (-1 : Int32) lr_size lr_at lr_fault lr_code h H locs ls hP hD hS (lv_sub hl [0] rfl)
set_option maxHeartbeats 4000000 in
set_option maxRecDepth 100000 in
theorem c_X5_readName (l : Launch) (D : va_G) (cs : Nat → ClassId) (ad : Nat → Nat) (k : (Nat → Nat) × (Nat → Nat)) (sz : Nat) (x1 : Int32) (lr_size : Int32) (lr_at : Int32) (lr_fault : Int32) (lr_code : Nat → Int32) (R : Int32 × Int32 × Int32 × (Nat → Int32)) (h : f_X5_readName   x1 lr_size lr_at lr_fault lr_code = some R) : Met l yX5_readName (z_X5_readName) rm_X5_readName (va_Pc [.ref (ad 26), .int x1] (zPreE k D cs (wl_X5_readName ad cs lr_size lr_at lr_fault lr_code) sz)) (Q_X5_readName D cs ad  (va_A (wl_X5_readName ad cs lr_size lr_at lr_fault lr_code) sz) R) 0 0 (va_A (wl_X5_readName ad cs lr_size lr_at lr_fault lr_code) sz) := by
  refine Met.ofW (cc := cX5_readName) (maxL := 3) (ret := none) (by decide) rfl ?_
  intro p e s m args below meth c s₁ B hml hv
  obtain ⟨rfl, ⟨⟨hsz, hP, hK, hD0⟩, hO⟩, hE⟩ := hv
  subst hsz
  have hD := hD0.self (sz := s.heap.size)
  have C0 : zC p s m _ meth c cX5_readName 3 none RX5 zW := ⟨B.exec, B.bytes, B.returns, hml, findClass_of_methodNamed B.named, fun w hw => atoms_spec (ws := z_X5_readName) B.pre w (List.mem_cons_of_mem _ hw), B.notSynchronized⟩
  have hA : ∀ q : Nat, s.heap.size ≤ q → va_A (wl_X5_readName ad cs lr_size lr_at lr_fault lr_code) s.heap.size q := fun q h => Or.inr h
  have hl := lv_entry ([.ref (ad 26), .int x1]) (n := 3) (Nat.le_of_ble_eq_true rfl)
  rw [lg_entry_eq]
  generalize (lg_sl ([.ref (ad 26), .int x1]) ++ List.replicate (3 - (lg_sl ([.ref (ad 26), .int x1])).length) Slot.unset).toArray = ls at hl ⊢
  exact L_X5_readName_0 C0 hK hO hE hA   x1 lr_size lr_at lr_fault lr_code h s.heap [] ls hP hD va_S.rf hl
