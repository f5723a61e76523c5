theorem kw_87 : Cond.initialized RJ3 ∈ zW := zwC (i := 13) zc_1 rfl rfl
theorem kw_509 : Cond.fieldLink RJ0 1053 "jdk/internal/util/Preconditions" "SIOOBE_FORMATTER" "Ljava/util/function/BiFunction;" ∈ zW := zwC (i := 195) zc_2 rfl rfl
theorem kw_511 : Cond.methodLink RJ0 1059 yJ3_checkIndex_8e157 ∈ zW := zwC (i := 197) zc_2 rfl rfl
theorem kw_512 : Cond.static yJ3_checkIndex_8e157 ∈ zW := zwC (i := 198) zc_2 rfl rfl
theorem kw_513 : Cond.code yJ3_checkIndex_8e157 cJ3_checkIndex_8e157 3 (some .int) ∈ zW := zwC (i := 199) zc_2 rfl rfl
theorem zh_cJ0_checkIndex_df160_0 : zck [26, 27, 178, 4, 29, 184, 4, 35, 87, 177] (zdu 0 cJ0_checkIndex_df160.data.toList) = true := by decide +kernel
theorem dJ0_checkIndex_df160_0 : decode cJ0_checkIndex_df160 0 = .ok (.iload_n 0, 1) := zo_26 zh_cJ0_checkIndex_df160_0 0 rfl
theorem dJ0_checkIndex_df160_1 : decode cJ0_checkIndex_df160 1 = .ok (.iload_n 1, 1) := zo_27 zh_cJ0_checkIndex_df160_0 1 rfl
theorem zo_178 {c : ByteArray} {s : Nat} {K : List Nat} (h : zck K (zdu s c.data.toList) = true) (k : Nat) {v : Nat} (hk : zt3 K k 178 v = true) : decode c (s + k) = .ok (.getstatic v, 3) := zde ((zbd (zu1 (zh3 h hk).1)).trans ((zbd (f := fun x => pure (Instr.getstatic x)) (zh3 h hk).2).trans rfl))
theorem dJ0_checkIndex_df160_2 : decode cJ0_checkIndex_df160 2 = .ok (.getstatic 1053, 3) := zo_178 zh_cJ0_checkIndex_df160_0 2 rfl
theorem dJ0_checkIndex_df160_5 : decode cJ0_checkIndex_df160 5 = .ok (.invokestatic 1059, 3) := zo_184 zh_cJ0_checkIndex_df160_0 5 rfl
theorem dJ0_checkIndex_df160_8 : decode cJ0_checkIndex_df160 8 = .ok (.pop, 1) := zo_87 zh_cJ0_checkIndex_df160_0 8 rfl
theorem dJ0_checkIndex_df160_9 : decode cJ0_checkIndex_df160 9 = .ok (.return_, 1) := zo_177 zh_cJ0_checkIndex_df160_0 9 rfl
theorem zh_cJ3_checkIndex_8e157_0 : zck [26, 155, 0, 8, 26, 27, 161, 0, 10, 44, 26, 27, 184, 0, 95, 191, 26, 172] (zdu 0 cJ3_checkIndex_8e157.data.toList) = true := by decide +kernel
theorem dJ3_checkIndex_8e157_0 : decode cJ3_checkIndex_8e157 0 = .ok (.iload_n 0, 1) := zo_26 zh_cJ3_checkIndex_8e157_0 0 rfl
theorem dJ3_checkIndex_8e157_1 : decode cJ3_checkIndex_8e157 1 = .ok (.ifCond .lt 8, 3) := zo_p155 zh_cJ3_checkIndex_8e157_0 1 8 rfl rfl
theorem dJ3_checkIndex_8e157_4 : decode cJ3_checkIndex_8e157 4 = .ok (.iload_n 0, 1) := zo_26 zh_cJ3_checkIndex_8e157_0 4 rfl
theorem dJ3_checkIndex_8e157_5 : decode cJ3_checkIndex_8e157 5 = .ok (.iload_n 1, 1) := zo_27 zh_cJ3_checkIndex_8e157_0 5 rfl
theorem dJ3_checkIndex_8e157_6 : decode cJ3_checkIndex_8e157 6 = .ok (.if_icmp .lt 10, 3) := zo_p161 zh_cJ3_checkIndex_8e157_0 6 10 rfl rfl
theorem dJ3_checkIndex_8e157_16 : decode cJ3_checkIndex_8e157 16 = .ok (.iload_n 0, 1) := zo_26 zh_cJ3_checkIndex_8e157_0 16 rfl
theorem dJ3_checkIndex_8e157_17 : decode cJ3_checkIndex_8e157 17 = .ok (.ireturn, 1) := zo_172 zh_cJ3_checkIndex_8e157_0 17 rfl
def zStr : List (String × Nat × String) := [(RX11, 393, "a&k=1|a&k=6|a&k=3"), (RX11, 395, "f&n"), (RX11, 397, "n<3"), (RX11, 399, "1"), (RX5, 83, "kwdlhascrfn")]
def zLen : List Nat := [17, 3, 3, 1, 11]
def zByt : List (List Int32) := [[97, 38, 107, 61, 49, 124, 97, 38, 107, 61, 54, 124, 97, 38, 107, 61, 51], [102, 38, 110], [110, 60, 51], [49], [107, 119, 100, 108, 104, 97, 115, 99, 114, 102, 110]]
def zE (k : (Nat → Nat) × (Nat → Nat)) (A : Nat → Prop) (U : State) : Prop := vk_S 5 zLen zByt k.1 k.2 A U U.heap ∧ (∀ (i : Nat) (q : String × Nat × String), zStr[i]? = some q → vk_R q.1 q.2.1 q.2.2 (k.1 i) U) ∧ va_Z "java/lang/String" "COMPACT_STRINGS" "Z" (.int 1) A U U.heap ∧ va_Zq "jdk/internal/util/Preconditions" "SIOOBE_FORMATTER" "Ljava/util/function/BiFunction;" A U U.heap ∧ va_Nw (.castable "[I" "java/lang/Cloneable") U
theorem zE.go {k : (Nat → Nat) × (Nat → Nat)} {A B : Nat → Prop} {s U : State} {H : Heap} {locs : List Loc} (h : zE k A s) (hW : s.WarmedH U.vm) (hU : U.heap = H) (hS : va_S A s.heap H locs) (hF : ∀ q, B q → A q) : zE k B U := by
  subst hU
  exact ⟨((h.1.moved hW.alike).kept hS.2.1).narrow hF, fun i q hq => vk_R.warm hW (h.2.1 i q hq), ((h.2.2.1.moved hW.alike).kept hS.2.1).narrow hF, ((h.2.2.2.1.moved hW.alike).kept hS.2.1).narrow hF, va_Nw.warmC hW h.2.2.2.2⟩
theorem zE.calling {k : (Nat → Nat) × (Nat → Nat)} {A : Nat → Prop} {U : State} {g : JFrame} {mk : MethodId} {a : Array Value} (h : zE k A U) : zE k A (U.calling g mk a) :=
  ⟨vk_S.moved (u := U) (U := U.calling g mk a) (Vm.Alike.refl U.vm) h.1, fun i q hq => vk_R.same (u := U) (U := U.calling g mk a) rfl (h.2.1 i q hq), va_Z.moved (u := U) (U := U.calling g mk a) (Vm.Alike.refl U.vm) h.2.2.1, va_Zq.moved (u := U) (U := U.calling g mk a) (Vm.Alike.refl U.vm) h.2.2.2.1, va_Nw.same rfl (U := U.calling g mk a) rfl h.2.2.2.2⟩
def zPreE (k : (Nat → Nat) × (Nat → Nat)) (D : va_G) (cs : Nat → ClassId) (w : va_W) (sz : Nat) : State → Prop := fun U => zPreO D cs w sz U ∧ zE k (va_A w sz) U
theorem zPreE_blind {k : (Nat → Nat) × (Nat → Nat)} {D : va_G} {cs : Nat → ClassId} {w : va_W} {sz : Nat} {As : List Value} : FrameBlind (va_Pc As (zPreE k D cs w sz)) := fun a U g mk q => by
  obtain ⟨q0, q1, qE⟩ := q
  exact ⟨q0, (zPreO_blind (As := As) a U g mk ⟨q0, q1⟩).2, qE.calling⟩
theorem zk_nc {x : Int32} {ty : FieldType} (h : ¬ ¬ (narrow ty (.int x) = .int x)) : narrow ty (.int x) = .int x := Decidable.not_not.mp h
section ZKE
variable {p : Program} {l : Launch} {e : Env} {R : Room} {s : State} {m : MethodId} {args : Array Value} {below : List Frame} {meth : Method} {c : Code} {H : Heap} {locs : List Loc} {cells slots : Nat} {Q : State → Prop} {ls : Array Slot} {pc : Nat}
variable {A : Nat → Prop} {D : va_G} {cs : Nat → ClassId} {ws wc : va_W} {S : Type} {w1 : S → va_W} {y : MethodName} {wsY : List Cond} {rm : Room} {C own host : String} {index maxL mc ms n nL : Nat} {bytes cc : ByteArray} {ret : Option FieldType} {b : Nat} {As rest : List Value} {k : (Nat → Nat) × (Nat → Nat)}
theorem zk_viE {post : Int32 → S → Prop} (hE : zE k A s) (hO : zO s) (hM : Met l y wsY rm (va_Pc (.ref b :: As) (zPreE k D cs wc H.size)) (va_Qi post (fun (u : S) (t : State) => va_P D classes (w1 u) t.heap ∧ va_D (va_A wc H.size) (w1 u)) (va_A wc H.size)) mc ms (va_A wc H.size))
    (S0 : CallFix p m c cc nL s args zW own) (cw : CallW R s args own C index y bytes maxL ret wsY rm mc ms n) (hrv : ∃ cellB : Cell, H[b]? = some cellB ∧ cellB.vm.isStatics = false ∧ s.vm.findClass C = some cellB.cls)
    (hP : va_P D classes ws H) (hD : va_D A ws) (hS : va_S A s.heap H locs) (hK : va_K D classes (zT cs) s) (hA : ∀ q : Nat, s.heap.size ≤ q → A q) (isC isR : List Nat) (hC : isC.map (fun i => ws[i]?) = wc.map some) (hnC : va_nd isC = true) (hR : isR.map (fun i => ws[i]?) = (isR.filterMap (fun i => ws[i]?)).map some) (hn : va_nd isR = true) (hdis : ∀ i ∈ isR, i ∉ isC)
    (hlen : As.length = n) (hsize : ls.size = nL) (hW : (rest.map fun v => v.category).sum ≤ 8) (hdg : decode cc pc = .ok (.invokevirtual index, 3)) (hf : cells + mc ≤ R.cells ∧ slots + ms ≤ R.slots)
    (kk : ∀ (r : Int32) (u : S) (H1 : Heap) (locs1 : List Loc), post r u → va_P D classes (isR.filterMap (fun i => ws[i]?) ++ w1 u) H1 → va_D A (isR.filterMap (fun i => ws[i]?) ++ w1 u) → va_S A s.heap H1 locs1 → W p l e R s m args below meth c H1 locs1 (cells + mc) (slots + ms) Q (F0 m (pc + 3) ls (.int r :: rest))) :
    W p l e R s m args below meth c H locs cells slots Q (F0 m pc ls (As.reverse ++ .ref b :: rest)) := by
  have hPc : va_P D classes wc H := hP.sub isC (zk_fm hC)
  have hDc : va_D A wc := hD.sub isC hnC hC
  have hFc := va_free hD hS hA isC hC
  refine va_calli (va_runV (As := As) (rest := rest) S0 hM cw ⟨zPreE_blind, hrv, fun U hU hW => ⟨rfl, ⟨⟨by rw [hU], by rw [hU]; exact hPc, va_K.moved hW.alike hK, hDc.weaken (fun _ _ _ _ => trivial)⟩, zO.warm hW hO⟩, hE.go hW hU hS hFc⟩⟩ rfl hlen hsize rfl (lv_room hW) hdg hf) hS (fun q _ h => hFc q h) hFc (fun r u t H1 locs1 ht hvm hw hB hz1 hk1 hS1 => ?_)
  have hB : va_P D classes (w1 u) t.heap ∧ va_D (va_A wc H.size) (w1 u) := hB
  rw [ht] at hB
  obtain ⟨hP2, hD2⟩ := va_join hP hD isC isR hC hR hn hdis hk1 hFc hB.1 hB.2
  exact kk r u H1 locs1 hw hP2 hD2 hS1
theorem zk_vvE {post : S → Prop} (hE : zE k A s) (hO : zO s) (hM : Met l y wsY rm (va_Pc (.ref b :: As) (zPreE k D cs wc H.size)) (va_Qv post (fun (u : S) (t : State) => va_P D classes (w1 u) t.heap ∧ va_D (va_A wc H.size) (w1 u)) (va_A wc H.size)) mc ms (va_A wc H.size))
    (S0 : CallFix p m c cc nL s args zW own) (cw : CallW R s args own C index y bytes maxL ret wsY rm mc ms n) (hrv : ∃ cellB : Cell, H[b]? = some cellB ∧ cellB.vm.isStatics = false ∧ s.vm.findClass C = some cellB.cls)
    (hP : va_P D classes ws H) (hD : va_D A ws) (hS : va_S A s.heap H locs) (hK : va_K D classes (zT cs) s) (hA : ∀ q : Nat, s.heap.size ≤ q → A q) (isC isR : List Nat) (hC : isC.map (fun i => ws[i]?) = wc.map some) (hnC : va_nd isC = true) (hR : isR.map (fun i => ws[i]?) = (isR.filterMap (fun i => ws[i]?)).map some) (hn : va_nd isR = true) (hdis : ∀ i ∈ isR, i ∉ isC)
    (hlen : As.length = n) (hsize : ls.size = nL) (hW : (rest.map fun v => v.category).sum ≤ 8) (hdg : decode cc pc = .ok (.invokevirtual index, 3)) (hf : cells + mc ≤ R.cells ∧ slots + ms ≤ R.slots)
    (kk : ∀ (u : S) (H1 : Heap) (locs1 : List Loc), post u → va_P D classes (isR.filterMap (fun i => ws[i]?) ++ w1 u) H1 → va_D A (isR.filterMap (fun i => ws[i]?) ++ w1 u) → va_S A s.heap H1 locs1 → W p l e R s m args below meth c H1 locs1 (cells + mc) (slots + ms) Q (F0 m (pc + 3) ls (rest))) :
    W p l e R s m args below meth c H locs cells slots Q (F0 m pc ls (As.reverse ++ .ref b :: rest)) := by
  have hPc : va_P D classes wc H := hP.sub isC (zk_fm hC)
  have hDc : va_D A wc := hD.sub isC hnC hC
  have hFc := va_free hD hS hA isC hC
  refine va_callv (va_runV (As := As) (rest := rest) S0 hM cw ⟨zPreE_blind, hrv, fun U hU hW => ⟨rfl, ⟨⟨by rw [hU], by rw [hU]; exact hPc, va_K.moved hW.alike hK, hDc.weaken (fun _ _ _ _ => trivial)⟩, zO.warm hW hO⟩, hE.go hW hU hS hFc⟩⟩ rfl hlen hsize rfl (lv_room hW) hdg hf) hS (fun q _ h => hFc q h) hFc (fun u t H1 locs1 ht hvm hw hB hz1 hk1 hS1 => ?_)
  have hB : va_P D classes (w1 u) t.heap ∧ va_D (va_A wc H.size) (w1 u) := hB
  rw [ht] at hB
  obtain ⟨hP2, hD2⟩ := va_join hP hD isC isR hC hR hn hdis hk1 hFc hB.1 hB.2
  exact kk u H1 locs1 hw hP2 hD2 hS1
theorem zk_vqE {post : Option Nat → S → Prop} (hE : zE k A s) (hO : zO s) (hM : Met l y wsY rm (va_Pc (.ref b :: As) (zPreE k D cs wc H.size)) (va_Qq post (fun (u : S) (t : State) => va_P D classes (w1 u) t.heap ∧ va_D (va_A wc H.size) (w1 u)) (va_A wc H.size)) mc ms (va_A wc H.size))
    (S0 : CallFix p m c cc nL s args zW own) (cw : CallW R s args own C index y bytes maxL ret wsY rm mc ms n) (hrv : ∃ cellB : Cell, H[b]? = some cellB ∧ cellB.vm.isStatics = false ∧ s.vm.findClass C = some cellB.cls)
    (hP : va_P D classes ws H) (hD : va_D A ws) (hS : va_S A s.heap H locs) (hK : va_K D classes (zT cs) s) (hA : ∀ q : Nat, s.heap.size ≤ q → A q) (isC isR : List Nat) (hC : isC.map (fun i => ws[i]?) = wc.map some) (hnC : va_nd isC = true) (hR : isR.map (fun i => ws[i]?) = (isR.filterMap (fun i => ws[i]?)).map some) (hn : va_nd isR = true) (hdis : ∀ i ∈ isR, i ∉ isC)
    (hlen : As.length = n) (hsize : ls.size = nL) (hW : (rest.map fun v => v.category).sum ≤ 8) (hdg : decode cc pc = .ok (.invokevirtual index, 3)) (hf : cells + mc ≤ R.cells ∧ slots + ms ≤ R.slots)
    (kk : ∀ (r : Option Nat) (u : S) (H1 : Heap) (locs1 : List Loc), post r u → va_P D classes (isR.filterMap (fun i => ws[i]?) ++ w1 u) H1 → va_D A (isR.filterMap (fun i => ws[i]?) ++ w1 u) → va_S A s.heap H1 locs1 → W p l e R s m args below meth c H1 locs1 (cells + mc) (slots + ms) Q (F0 m (pc + 3) ls (va_rf r :: rest))) :
    W p l e R s m args below meth c H locs cells slots Q (F0 m pc ls (As.reverse ++ .ref b :: rest)) := by
  have hPc : va_P D classes wc H := hP.sub isC (zk_fm hC)
  have hDc : va_D A wc := hD.sub isC hnC hC
  have hFc := va_free hD hS hA isC hC
  refine va_callq (va_runV (As := As) (rest := rest) S0 hM cw ⟨zPreE_blind, hrv, fun U hU hW => ⟨rfl, ⟨⟨by rw [hU], by rw [hU]; exact hPc, va_K.moved hW.alike hK, hDc.weaken (fun _ _ _ _ => trivial)⟩, zO.warm hW hO⟩, hE.go hW hU hS hFc⟩⟩ rfl hlen hsize rfl (lv_room hW) hdg hf) hS (fun q _ h => hFc q h) hFc (fun r u t H1 locs1 ht hvm hw hB hz1 hk1 hS1 => ?_)
  have hB : va_P D classes (w1 u) t.heap ∧ va_D (va_A wc H.size) (w1 u) := hB
  rw [ht] at hB
  obtain ⟨hP2, hD2⟩ := va_join hP hD isC isR hC hR hn hdis hk1 hFc hB.1 hB.2
  exact kk r u H1 locs1 hw hP2 hD2 hS1
theorem zk_siE {post : Int32 → S → Prop} (hE : zE k A s) (hO : zO s) (hM : Met l y wsY rm (va_Pc As (zPreE k D cs wc H.size)) (va_Qi post (fun (u : S) (t : State) => va_P D classes (w1 u) t.heap ∧ va_D (va_A wc H.size) (w1 u)) (va_A wc H.size)) mc ms (va_A wc H.size))
    (S0 : CallFix p m c cc nL s args zW own) (cw : CallB R s args own index y bytes maxL ret wsY rm mc ms n ∧ (Cond.static y).before args s = true)
    (hP : va_P D classes ws H) (hD : va_D A ws) (hS : va_S A s.heap H locs) (hK : va_K D classes (zT cs) s) (hA : ∀ q : Nat, s.heap.size ≤ q → A q) (isC isR : List Nat) (hC : isC.map (fun i => ws[i]?) = wc.map some) (hnC : va_nd isC = true) (hR : isR.map (fun i => ws[i]?) = (isR.filterMap (fun i => ws[i]?)).map some) (hn : va_nd isR = true) (hdis : ∀ i ∈ isR, i ∉ isC)
    (hlen : As.length = n) (hsize : ls.size = nL) (hW : (rest.map fun v => v.category).sum ≤ 8) (hdg : decode cc pc = .ok (.invokestatic index, 3)) (hf : cells + mc ≤ R.cells ∧ slots + ms ≤ R.slots)
    (kk : ∀ (r : Int32) (u : S) (H1 : Heap) (locs1 : List Loc), post r u → va_P D classes (isR.filterMap (fun i => ws[i]?) ++ w1 u) H1 → va_D A (isR.filterMap (fun i => ws[i]?) ++ w1 u) → va_S A s.heap H1 locs1 → W p l e R s m args below meth c H1 locs1 (cells + mc) (slots + ms) Q (F0 m (pc + 3) ls (.int r :: rest))) :
    W p l e R s m args below meth c H locs cells slots Q (F0 m pc ls (As.reverse ++ rest)) := by
  have hPc : va_P D classes wc H := hP.sub isC (zk_fm hC)
  have hDc : va_D A wc := hD.sub isC hnC hC
  have hFc := va_free hD hS hA isC hC
  refine va_calli (va_runS (As := As) (rest := rest) S0 hM cw ⟨zPreE_blind, fun U hU hW => ⟨rfl, ⟨⟨by rw [hU], by rw [hU]; exact hPc, va_K.moved hW.alike hK, hDc.weaken (fun _ _ _ _ => trivial)⟩, zO.warm hW hO⟩, hE.go hW hU hS hFc⟩⟩ rfl hlen hsize rfl (lv_room hW) hdg hf) hS (fun q _ h => hFc q h) hFc (fun r u t H1 locs1 ht hvm hw hB hz1 hk1 hS1 => ?_)
  have hB : va_P D classes (w1 u) t.heap ∧ va_D (va_A wc H.size) (w1 u) := hB
  rw [ht] at hB
  obtain ⟨hP2, hD2⟩ := va_join hP hD isC isR hC hR hn hdis hk1 hFc hB.1 hB.2
  exact kk r u H1 locs1 hw hP2 hD2 hS1
theorem zk_svE {post : S → Prop} (hE : zE k A s) (hO : zO s) (hM : Met l y wsY rm (va_Pc As (zPreE k D cs wc H.size)) (va_Qv post (fun (u : S) (t : State) => va_P D classes (w1 u) t.heap ∧ va_D (va_A wc H.size) (w1 u)) (va_A wc H.size)) mc ms (va_A wc H.size))
    (S0 : CallFix p m c cc nL s args zW own) (cw : CallB R s args own index y bytes maxL ret wsY rm mc ms n ∧ (Cond.static y).before args s = true)
    (hP : va_P D classes ws H) (hD : va_D A ws) (hS : va_S A s.heap H locs) (hK : va_K D classes (zT cs) s) (hA : ∀ q : Nat, s.heap.size ≤ q → A q) (isC isR : List Nat) (hC : isC.map (fun i => ws[i]?) = wc.map some) (hnC : va_nd isC = true) (hR : isR.map (fun i => ws[i]?) = (isR.filterMap (fun i => ws[i]?)).map some) (hn : va_nd isR = true) (hdis : ∀ i ∈ isR, i ∉ isC)
    (hlen : As.length = n) (hsize : ls.size = nL) (hW : (rest.map fun v => v.category).sum ≤ 8) (hdg : decode cc pc = .ok (.invokestatic index, 3)) (hf : cells + mc ≤ R.cells ∧ slots + ms ≤ R.slots)
    (kk : ∀ (u : S) (H1 : Heap) (locs1 : List Loc), post u → va_P D classes (isR.filterMap (fun i => ws[i]?) ++ w1 u) H1 → va_D A (isR.filterMap (fun i => ws[i]?) ++ w1 u) → va_S A s.heap H1 locs1 → W p l e R s m args below meth c H1 locs1 (cells + mc) (slots + ms) Q (F0 m (pc + 3) ls (rest))) :
    W p l e R s m args below meth c H locs cells slots Q (F0 m pc ls (As.reverse ++ rest)) := by
  have hPc : va_P D classes wc H := hP.sub isC (zk_fm hC)
  have hDc : va_D A wc := hD.sub isC hnC hC
  have hFc := va_free hD hS hA isC hC
  refine va_callv (va_runS (As := As) (rest := rest) S0 hM cw ⟨zPreE_blind, fun U hU hW => ⟨rfl, ⟨⟨by rw [hU], by rw [hU]; exact hPc, va_K.moved hW.alike hK, hDc.weaken (fun _ _ _ _ => trivial)⟩, zO.warm hW hO⟩, hE.go hW hU hS hFc⟩⟩ rfl hlen hsize rfl (lv_room hW) hdg hf) hS (fun q _ h => hFc q h) hFc (fun u t H1 locs1 ht hvm hw hB hz1 hk1 hS1 => ?_)
  have hB : va_P D classes (w1 u) t.heap ∧ va_D (va_A wc H.size) (w1 u) := hB
  rw [ht] at hB
  obtain ⟨hP2, hD2⟩ := va_join hP hD isC isR hC hR hn hdis hk1 hFc hB.1 hB.2
  exact kk u H1 locs1 hw hP2 hD2 hS1
theorem zk_sqE {post : Option Nat → S → Prop} (hE : zE k A s) (hO : zO s) (hM : Met l y wsY rm (va_Pc As (zPreE k D cs wc H.size)) (va_Qq post (fun (u : S) (t : State) => va_P D classes (w1 u) t.heap ∧ va_D (va_A wc H.size) (w1 u)) (va_A wc H.size)) mc ms (va_A wc H.size))
    (S0 : CallFix p m c cc nL s args zW own) (cw : CallB R s args own index y bytes maxL ret wsY rm mc ms n ∧ (Cond.static y).before args s = true)
    (hP : va_P D classes ws H) (hD : va_D A ws) (hS : va_S A s.heap H locs) (hK : va_K D classes (zT cs) s) (hA : ∀ q : Nat, s.heap.size ≤ q → A q) (isC isR : List Nat) (hC : isC.map (fun i => ws[i]?) = wc.map some) (hnC : va_nd isC = true) (hR : isR.map (fun i => ws[i]?) = (isR.filterMap (fun i => ws[i]?)).map some) (hn : va_nd isR = true) (hdis : ∀ i ∈ isR, i ∉ isC)
    (hlen : As.length = n) (hsize : ls.size = nL) (hW : (rest.map fun v => v.category).sum ≤ 8) (hdg : decode cc pc = .ok (.invokestatic index, 3)) (hf : cells + mc ≤ R.cells ∧ slots + ms ≤ R.slots)
    (kk : ∀ (r : Option Nat) (u : S) (H1 : Heap) (locs1 : List Loc), post r u → va_P D classes (isR.filterMap (fun i => ws[i]?) ++ w1 u) H1 → va_D A (isR.filterMap (fun i => ws[i]?) ++ w1 u) → va_S A s.heap H1 locs1 → W p l e R s m args below meth c H1 locs1 (cells + mc) (slots + ms) Q (F0 m (pc + 3) ls (va_rf r :: rest))) :
    W p l e R s m args below meth c H locs cells slots Q (F0 m pc ls (As.reverse ++ rest)) := by
  have hPc : va_P D classes wc H := hP.sub isC (zk_fm hC)
  have hDc : va_D A wc := hD.sub isC hnC hC
  have hFc := va_free hD hS hA isC hC
  refine va_callq (va_runS (As := As) (rest := rest) S0 hM cw ⟨zPreE_blind, fun U hU hW => ⟨rfl, ⟨⟨by rw [hU], by rw [hU]; exact hPc, va_K.moved hW.alike hK, hDc.weaken (fun _ _ _ _ => trivial)⟩, zO.warm hW hO⟩, hE.go hW hU hS hFc⟩⟩ rfl hlen hsize rfl (lv_room hW) hdg hf) hS (fun q _ h => hFc q h) hFc (fun r u t H1 locs1 ht hvm hw hB hz1 hk1 hS1 => ?_)
  have hB : va_P D classes (w1 u) t.heap ∧ va_D (va_A wc H.size) (w1 u) := hB
  rw [ht] at hB
  obtain ⟨hP2, hD2⟩ := va_join hP hD isC isR hC hR hn hdis hk1 hFc hB.1 hB.2
  exact kk r u H1 locs1 hw hP2 hD2 hS1
end ZKE
abbrev z_J3_checkIndex_8e157 : List Cond := .code yJ3_checkIndex_8e157 cJ3_checkIndex_8e157 3 (some .int) :: zW
set_option maxHeartbeats 4000000 in
set_option maxRecDepth 100000 in
theorem cx_checkIndex (l : Launch) (D : va_G) (cs : Nat → ClassId) (k : (Nat → Nat) × (Nat → Nat)) (o : Option Nat) (sz : Nat) (x0 x1 : Int32) (h0 : ¬ x0 < 0) (h1 : x0 < x1) : Met l yJ3_checkIndex_8e157 z_J3_checkIndex_8e157 ({ frames := 0, cells := 0, slots := 0, locals := 0 } : Room) (va_Pc [.int x0, .int x1, va_rf o] (zPreE k D cs [] sz)) (va_Qi (fun (_ : Int32) (_ : Unit) => True) (fun (_ : Unit) (t : State) => va_P D classes [] t.heap ∧ va_D (va_A [] sz) []) (va_A [] sz)) 0 0 (va_A [] sz) := by
  refine Met.ofW (cc := cJ3_checkIndex_8e157) (maxL := 3) (ret := (some .int)) (by decide) rfl ?_
  intro p e s m args below meth c s₁ B hml hv
  obtain ⟨rfl, ⟨⟨hsz, hP, hK, hD0⟩, hO⟩, hE⟩ := hv
  subst hsz
  have hx := B.exec
  have hb := B.bytes
  have hr := B.returns
  have hlocks := B.notSynchronized
  cases o with
  | none =>
    have hl := lv_entry ([.int x0, .int x1, .null]) (n := 3) (Nat.le_of_ble_eq_true rfl)
    show W p l e _ s m _ below meth c s.heap [] 0 0 _ (entryFrame m ([.int x0, .int x1, .null] : List Value).toArray 3)
    rw [lg_entry_eq]
    generalize (lg_sl ([.int x0, .int x1, .null]) ++ List.replicate (3 - (lg_sl ([.int x0, .int x1, .null])).length) Slot.unset).toArray = ls at hl ⊢
    refine lv_iload_n hx hb dJ3_checkIndex_8e157_0 rfl (lv_at hl 0 rfl) ?_
    refine lv_if_lt (tgt := 9) hx hb dJ3_checkIndex_8e157_1 (by decide) (fun c1 => absurd c1 h0) (fun c1 => ?_)
    refine lv_iload_n hx hb dJ3_checkIndex_8e157_4 rfl (lv_at hl 0 rfl) ?_
    refine lv_iload_n hx hb dJ3_checkIndex_8e157_5 rfl (lv_at hl 1 rfl) ?_
    refine lv_icmp_lt (tgt := 16) hx hb dJ3_checkIndex_8e157_6 (by decide) (fun c2 => ?_) (fun c2 => absurd h1 c2)
    refine lv_iload_n hx hb dJ3_checkIndex_8e157_16 rfl (lv_at hl 0 rfl) ?_
    exact W.iret (v := x0) hx hb hr (fun t ht2 hW => ⟨⟨x0, (), rfl, trivial, fun k q h => by simp at h, ⟨fun i j p q h => by simp at h, fun k q h => by simp at h⟩⟩, va_S.rf.F ht2⟩) (fun q h => by cases h) dJ3_checkIndex_8e157_17 hlocks
  | some t =>
    have hl := lv_entry ([.int x0, .int x1, .ref t]) (n := 3) (Nat.le_of_ble_eq_true rfl)
    show W p l e _ s m _ below meth c s.heap [] 0 0 _ (entryFrame m ([.int x0, .int x1, .ref t] : List Value).toArray 3)
    rw [lg_entry_eq]
    generalize (lg_sl ([.int x0, .int x1, .ref t]) ++ List.replicate (3 - (lg_sl ([.int x0, .int x1, .ref t])).length) Slot.unset).toArray = ls at hl ⊢
    refine lv_iload_n hx hb dJ3_checkIndex_8e157_0 rfl (lv_at hl 0 rfl) ?_
    refine lv_if_lt (tgt := 9) hx hb dJ3_checkIndex_8e157_1 (by decide) (fun c1 => absurd c1 h0) (fun c1 => ?_)
    refine lv_iload_n hx hb dJ3_checkIndex_8e157_4 rfl (lv_at hl 0 rfl) ?_
    refine lv_iload_n hx hb dJ3_checkIndex_8e157_5 rfl (lv_at hl 1 rfl) ?_
    refine lv_icmp_lt (tgt := 16) hx hb dJ3_checkIndex_8e157_6 (by decide) (fun c2 => ?_) (fun c2 => absurd h1 c2)
    refine lv_iload_n hx hb dJ3_checkIndex_8e157_16 rfl (lv_at hl 0 rfl) ?_
    exact W.iret (v := x0) hx hb hr (fun t ht2 hW => ⟨⟨x0, (), rfl, trivial, fun k q h => by simp at h, ⟨fun i j p q h => by simp at h, fun k q h => by simp at h⟩⟩, va_S.rf.F ht2⟩) (fun q h => by cases h) dJ3_checkIndex_8e157_17 hlocks
theorem g_J0_checkIndex : GoodIn zW (va_wsS RJ0 1059 yJ3_checkIndex_8e157 z_J3_checkIndex_8e157) := zGS kw_511 kw_512 kw_87 kw_513
abbrev z_J0_checkIndex_df160 : List Cond := .code yJ0_checkIndex_df160 cJ0_checkIndex_df160 2 none :: zW
abbrev rm_J0_checkIndex_df160 : Room := { frames := 1, cells := 0, slots := 0, locals := 22 }
set_option maxHeartbeats 4000000 in
set_option maxRecDepth 100000 in
theorem cx_checkIndex2 (l : Launch) (D : va_G) (cs : Nat → ClassId) (k : (Nat → Nat) × (Nat → Nat)) (sz : Nat) (x0 x1 : Int32) (h0 : ¬ x0 < 0) (h1 : x0 < x1) : Met l yJ0_checkIndex_df160 z_J0_checkIndex_df160 rm_J0_checkIndex_df160 (va_Pc [.int x0, .int x1] (zPreE k D cs [] sz)) (va_Qv (fun (_ : Unit) => True) (fun (_ : Unit) (t : State) => va_P D classes [] t.heap ∧ va_D (va_A [] sz) []) (va_A [] sz)) 0 0 (va_A [] sz) := by
  refine Met.ofW (cc := cJ0_checkIndex_df160) (maxL := 2) (ret := none) (by decide) rfl ?_
  intro p e s m args below meth c s₁ B hml hv
  obtain ⟨rfl, ⟨⟨hsz, hP, hK, hD0⟩, hO⟩, hE⟩ := hv
  subst hsz
  have hx := B.exec
  have hb := B.bytes
  have hr := B.returns
  have hlocks := B.notSynchronized
  have hown : s.vm.findClass RJ0 = some m.cls := findClass_of_methodNamed B.named
  have ht : ∀ w ∈ zW, w.before _ s = true := fun w hw => atoms_spec (ws := z_J0_checkIndex_df160) B.pre w (List.mem_cons_of_mem _ hw)
  have hA : ∀ q : Nat, s.heap.size ≤ q → va_A [] s.heap.size q := fun q h => Or.inr h
  have hD := hD0.self (sz := s.heap.size)
  have hS : va_S (va_A [] s.heap.size) s.heap s.heap [] := va_S.rf
  have hl := lv_entry ([.int x0, .int x1]) (n := 2) (Nat.le_of_ble_eq_true rfl)
  rw [lg_entry_eq]
  generalize (lg_sl ([.int x0, .int x1]) ++ List.replicate (2 - (lg_sl ([.int x0, .int x1])).length) Slot.unset).toArray = ls at hl ⊢
  rcases hE.2.2.2.1 with hZ | ⟨t, hZ⟩
  · skip
    refine lv_iload_n hx hb dJ0_checkIndex_df160_0 rfl (lv_at hl 0 rfl) ?_
    refine lv_iload_n hx hb dJ0_checkIndex_df160_1 rfl (lv_at hl 1 rfl) ?_
    refine va_gets (v := .null) hx hb hZ hS hown (ht _ kw_509) (fun _ h9 => h9) dJ0_checkIndex_df160_2 ?_
    refine zk_siE (post := fun _ _ => True) (w1 := fun _ => []) (As := [.int x0, .int x1, .null]) (rest := []) hE hO (cx_checkIndex l D cs k none s.heap.size x0 x1 h0 h1) ⟨hx, hb, hml, hown, ht⟩ (va_cwS 3 ht g_J0_checkIndex rfl rfl rfl (by decide +kernel) ⟨Nat.le_of_ble_eq_true rfl, Nat.le_of_ble_eq_true rfl⟩) hP hD hS hK hA [] [] rfl rfl rfl rfl (by decide) rfl hl.1 (Nat.le_of_ble_eq_true rfl) dJ0_checkIndex_df160_5 ⟨Nat.zero_le _, Nat.zero_le _⟩ (fun r u H locs hq hP hD hS => ?_)
    refine lv_pop hx hb dJ0_checkIndex_df160_8 rfl ?_
    exact W.vret hx hb hr (fun t ht2 hW => ⟨⟨(), rfl, trivial, by rw [ht2]; exact hP, hD⟩, hS.F ht2⟩) hS.2.2 dJ0_checkIndex_df160_9 hlocks
  · skip
    refine lv_iload_n hx hb dJ0_checkIndex_df160_0 rfl (lv_at hl 0 rfl) ?_
    refine lv_iload_n hx hb dJ0_checkIndex_df160_1 rfl (lv_at hl 1 rfl) ?_
    refine va_gets (v := .ref t) hx hb hZ hS hown (ht _ kw_509) (fun _ h9 => h9) dJ0_checkIndex_df160_2 ?_
    refine zk_siE (post := fun _ _ => True) (w1 := fun _ => []) (As := [.int x0, .int x1, .ref t]) (rest := []) hE hO (cx_checkIndex l D cs k (some t) s.heap.size x0 x1 h0 h1) ⟨hx, hb, hml, hown, ht⟩ (va_cwS 3 ht g_J0_checkIndex rfl rfl rfl (by decide +kernel) ⟨Nat.le_of_ble_eq_true rfl, Nat.le_of_ble_eq_true rfl⟩) hP hD hS hK hA [] [] rfl rfl rfl rfl (by decide) rfl hl.1 (Nat.le_of_ble_eq_true rfl) dJ0_checkIndex_df160_5 ⟨Nat.zero_le _, Nat.zero_le _⟩ (fun r u H locs hq hP hD hS => ?_)
    refine lv_pop hx hb dJ0_checkIndex_df160_8 rfl ?_
    exact W.vret hx hb hr (fun t ht2 hW => ⟨⟨(), rfl, trivial, by rw [ht2]; exact hP, hD⟩, hS.F ht2⟩) hS.2.2 dJ0_checkIndex_df160_9 hlocks
theorem kw_493 : Cond.fieldLink RJ0 38 "java/lang/String" "COMPACT_STRINGS" "Z" ∈ zW := zwC (i := 179) zc_2 rfl rfl
theorem kw_1904 : Cond.fieldLink RJ0 15 "java/lang/String" "coder" "B" ∈ zW := zwC (i := 150) zc_8 rfl rfl
theorem zh_cJ0_coder_7d493_0 : zck [178, 0, 38, 153, 0, 10, 42, 180, 0, 15, 167, 0, 4, 4, 172] (zdu 0 cJ0_coder_7d493.data.toList) = true := by decide +kernel
theorem dJ0_coder_7d493_0 : decode cJ0_coder_7d493 0 = .ok (.getstatic 38, 3) := zo_178 zh_cJ0_coder_7d493_0 0 rfl
theorem dJ0_coder_7d493_3 : decode cJ0_coder_7d493 3 = .ok (.ifCond .eq 10, 3) := zo_p153 zh_cJ0_coder_7d493_0 3 10 rfl rfl
theorem dJ0_coder_7d493_6 : decode cJ0_coder_7d493 6 = .ok (.aload_n 0, 1) := zo_42 zh_cJ0_coder_7d493_0 6 rfl
theorem dJ0_coder_7d493_7 : decode cJ0_coder_7d493 7 = .ok (.getfield 15, 3) := zo_180 zh_cJ0_coder_7d493_0 7 rfl
theorem dJ0_coder_7d493_10 : decode cJ0_coder_7d493 10 = .ok (.goto 4, 3) := zo_p167 zh_cJ0_coder_7d493_0 10 4 rfl rfl
theorem dJ0_coder_7d493_14 : decode cJ0_coder_7d493 14 = .ok (.ireturn, 1) := zo_172 zh_cJ0_coder_7d493_0 14 rfl
abbrev z_J0_coder_7d493 : List Cond := .code yJ0_coder_7d493 cJ0_coder_7d493 1 (some .byte) :: zW
abbrev wl_J0_coder_7d493 (ad : Nat → Nat) (cs : Nat → ClassId)   : va_W := []
def Q_J0_coder_7d493 (D : va_G) (cs : Nat → ClassId) (ad : Nat → Nat)   (A : Nat → Prop) (R : Int32 × Unit) : Array Value → State → Outcome → State → Prop :=
  va_Qi (fun (r : Int32) (u : Unit) => (r, u) = R) (fun (u : Unit) (t : State) => va_P D classes (wl_J0_coder_7d493 ad cs ) t.heap ∧ va_D A (wl_J0_coder_7d493 ad cs )) A
abbrev rm_J0_coder_7d493 : Room := { frames := 0, cells := 0, slots := 0, locals := 0 }
def B_J0_coder_7d493_0     (i0 : Nat) : Option (Int32 × Unit) :=
  (if ¬ (narrow .byte (.int (0 : Int32)) = .int (0 : Int32)) then none else (some ((0 : Int32), ())))
def f_J0_coder_7d493   (i0 : Nat)  : Option (Int32 × Unit) := B_J0_coder_7d493_0    i0 
set_option maxHeartbeats 4000000 in
set_option maxRecDepth 100000 in
theorem L_J0_coder_7d493_0 {p : Program} {l : Launch} {e : Env} {s : State} {m : MethodId} {args : Array Value} {below : List Frame} {meth : Method} {c : Code} {A : Nat → Prop} {D : va_G} {cs : Nat → ClassId} {ad : Nat → Nat} {R : Int32 × Unit} (C0 : zC p s m args meth c cJ0_coder_7d493 1 (some .byte) RJ0 zW) (hK : va_K D classes (zT cs) s) {k : (Nat → Nat) × (Nat → Nat)} (hO : zO s) (hE : zE k A s) {i0 : Nat} (hi0 : i0 < 5) (hA : ∀ q : Nat, s.heap.size ≤ q → A q)  (h : B_J0_coder_7d493_0 i0 = some R) (H : Heap) (locs : List Loc) (ls : Array Slot) (hP : va_P D classes (wl_J0_coder_7d493 ad cs ) H) (hD : va_D A (wl_J0_coder_7d493 ad cs )) (hS : va_S A s.heap H locs) (hl : lv_has ls 1 [(0, .ref (k.1 i0))]) : W p l e rm_J0_coder_7d493 s m args below meth c H locs 0 0 (MQ below (Q_J0_coder_7d493 D cs ad  A R) args s 0 0 A) (F0 m 0 ls []) := by
  obtain ⟨hx, hb, hr, hml, hown, ht, hlocks⟩ := id C0
  refine va_gets (v := .int (1 : Int32)) hx hb hE.2.2.1 hS hown (ht _ kw_493) (fun _ h9 => h9) dJ0_coder_7d493_0 ?_
  refine lv_if_eq (tgt := 13) hx hb dJ0_coder_7d493_3 (by decide) (fun c_1 => ?_) (fun c_1 => ?_)
  · exact absurd c_1 (by decide)
  · refine lv_aload_n hx hb dJ0_coder_7d493_6 rfl (lv_at hl 0 rfl) ?_
    refine vk_getf (v := .int (0 : Int32)) hx hb (hE.1.1 i0 hi0).2.1 hS hown (ht _ kw_1904) (fun _ h9 => h9) dJ0_coder_7d493_7 ?_
    refine lv_goto (tgt := 14) hx hb dJ0_coder_7d493_10 (by decide) ?_
    obtain ⟨g_2, h⟩ := zk_gd h
    exact W.zret (ty := .byte) (v := (0 : Int32)) hx hb hr (zk_nc g_2) (fun t ht2 hW => ⟨⟨(0 : Int32), (), rfl, Option.some.inj h, by rw [ht2]; exact hP, hD⟩, hS.F ht2⟩) hS.2.2 dJ0_coder_7d493_14 hlocks
set_option maxHeartbeats 4000000 in
set_option maxRecDepth 100000 in
theorem c_J0_coder_7d493 (l : Launch) (D : va_G) (cs : Nat → ClassId) (ad : Nat → Nat) (k : (Nat → Nat) × (Nat → Nat)) (i0 : Nat) (hi0 : i0 < 5) (sz : Nat)   (R : Int32 × Unit) (h : f_J0_coder_7d493   i0  = some R) : Met l yJ0_coder_7d493 (z_J0_coder_7d493) rm_J0_coder_7d493 (va_Pc [.ref (k.1 i0)] (zPreE k D cs (wl_J0_coder_7d493 ad cs ) sz)) (Q_J0_coder_7d493 D cs ad  (va_A (wl_J0_coder_7d493 ad cs ) sz) R) 0 0 (va_A (wl_J0_coder_7d493 ad cs ) sz) := by
  refine Met.ofW (cc := cJ0_coder_7d493) (maxL := 1) (ret := (some .byte)) (by decide) rfl ?_
  intro p e s m args below meth c s₁ B hml hv
  obtain ⟨rfl, ⟨⟨hsz, hP, hK, hD0⟩, hO⟩, hE⟩ := hv
  subst hsz
  have hD := hD0.self (sz := s.heap.size)
  have C0 : zC p s m _ meth c cJ0_coder_7d493 1 (some .byte) RJ0 zW := ⟨B.exec, B.bytes, B.returns, hml, findClass_of_methodNamed B.named, fun w hw => atoms_spec (ws := z_J0_coder_7d493) B.pre w (List.mem_cons_of_mem _ hw), B.notSynchronized⟩
  have hA : ∀ q : Nat, s.heap.size ≤ q → va_A (wl_J0_coder_7d493 ad cs ) s.heap.size q := fun q h => Or.inr h
  have hl := lv_entry ([.ref (k.1 i0)]) (n := 1) (Nat.le_of_ble_eq_true rfl)
  rw [lg_entry_eq]
  generalize (lg_sl ([.ref (k.1 i0)]) ++ List.replicate (1 - (lg_sl ([.ref (k.1 i0)])).length) Slot.unset).toArray = ls at hl ⊢
  exact L_J0_coder_7d493_0 C0 hK hO hE hi0 hA     h s.heap [] ls hP hD va_S.rf hl
theorem zh_cJ0_isLatin1_aae02_0 : zck [178, 0, 38, 153, 0, 14, 42, 180, 0, 15, 154, 0, 7, 4, 167, 0, 4, 3, 172] (zdu 0 cJ0_isLatin1_aae02.data.toList) = true := by decide +kernel
theorem dJ0_isLatin1_aae02_0 : decode cJ0_isLatin1_aae02 0 = .ok (.getstatic 38, 3) := zo_178 zh_cJ0_isLatin1_aae02_0 0 rfl
theorem dJ0_isLatin1_aae02_3 : decode cJ0_isLatin1_aae02 3 = .ok (.ifCond .eq 14, 3) := zo_p153 zh_cJ0_isLatin1_aae02_0 3 14 rfl rfl
theorem dJ0_isLatin1_aae02_6 : decode cJ0_isLatin1_aae02 6 = .ok (.aload_n 0, 1) := zo_42 zh_cJ0_isLatin1_aae02_0 6 rfl
theorem dJ0_isLatin1_aae02_7 : decode cJ0_isLatin1_aae02 7 = .ok (.getfield 15, 3) := zo_180 zh_cJ0_isLatin1_aae02_0 7 rfl
theorem dJ0_isLatin1_aae02_10 : decode cJ0_isLatin1_aae02 10 = .ok (.ifCond .ne 7, 3) := zo_p154 zh_cJ0_isLatin1_aae02_0 10 7 rfl rfl
theorem dJ0_isLatin1_aae02_13 : decode cJ0_isLatin1_aae02 13 = .ok (.iconst 1, 1) := zo_4 zh_cJ0_isLatin1_aae02_0 13 rfl
theorem dJ0_isLatin1_aae02_14 : decode cJ0_isLatin1_aae02 14 = .ok (.goto 4, 3) := zo_p167 zh_cJ0_isLatin1_aae02_0 14 4 rfl rfl
theorem dJ0_isLatin1_aae02_18 : decode cJ0_isLatin1_aae02 18 = .ok (.ireturn, 1) := zo_172 zh_cJ0_isLatin1_aae02_0 18 rfl
abbrev z_J0_isLatin1_aae02 : List Cond := .code yJ0_isLatin1_aae02 cJ0_isLatin1_aae02 1 (some .boolean) :: zW
abbrev wl_J0_isLatin1_aae02 (ad : Nat → Nat) (cs : Nat → ClassId)   : va_W := []
def Q_J0_isLatin1_aae02 (D : va_G) (cs : Nat → ClassId) (ad : Nat → Nat)   (A : Nat → Prop) (R : Int32 × Unit) : Array Value → State → Outcome → State → Prop :=
  va_Qi (fun (r : Int32) (u : Unit) => (r, u) = R) (fun (u : Unit) (t : State) => va_P D classes (wl_J0_isLatin1_aae02 ad cs ) t.heap ∧ va_D A (wl_J0_isLatin1_aae02 ad cs )) A
abbrev rm_J0_isLatin1_aae02 : Room := { frames := 0, cells := 0, slots := 0, locals := 0 }
def B_J0_isLatin1_aae02_0     (i0 : Nat) : Option (Int32 × Unit) :=
  (some ((1 : Int32), ()))
def f_J0_isLatin1_aae02   (i0 : Nat)  : Option (Int32 × Unit) := B_J0_isLatin1_aae02_0    i0 
set_option maxHeartbeats 4000000 in
set_option maxRecDepth 100000 in
theorem L_J0_isLatin1_aae02_0 {p : Program} {l : Launch} {e : Env} {s : State} {m : MethodId} {args : Array Value} {below : List Frame} {meth : Method} {c : Code} {A : Nat → Prop} {D : va_G} {cs : Nat → ClassId} {ad : Nat → Nat} {R : Int32 × Unit} (C0 : zC p s m args meth c cJ0_isLatin1_aae02 1 (some .boolean) RJ0 zW) (hK : va_K D classes (zT cs) s) {k : (Nat → Nat) × (Nat → Nat)} (hO : zO s) (hE : zE k A s) {i0 : Nat} (hi0 : i0 < 5) (hA : ∀ q : Nat, s.heap.size ≤ q → A q)  (h : B_J0_isLatin1_aae02_0 i0 = some R) (H : Heap) (locs : List Loc) (ls : Array Slot) (hP : va_P D classes (wl_J0_isLatin1_aae02 ad cs ) H) (hD : va_D A (wl_J0_isLatin1_aae02 ad cs )) (hS : va_S A s.heap H locs) (hl : lv_has ls 1 [(0, .ref (k.1 i0))]) : W p l e rm_J0_isLatin1_aae02 s m args below meth c H locs 0 0 (MQ below (Q_J0_isLatin1_aae02 D cs ad  A R) args s 0 0 A) (F0 m 0 ls []) := by
  obtain ⟨hx, hb, hr, hml, hown, ht, hlocks⟩ := id C0
  refine va_gets (v := .int (1 : Int32)) hx hb hE.2.2.1 hS hown (ht _ kw_493) (fun _ h9 => h9) dJ0_isLatin1_aae02_0 ?_
  refine lv_if_eq (tgt := 17) hx hb dJ0_isLatin1_aae02_3 (by decide) (fun c_1 => ?_) (fun c_1 => ?_)
  · exact absurd c_1 (by decide)
  · refine lv_aload_n hx hb dJ0_isLatin1_aae02_6 rfl (lv_at hl 0 rfl) ?_
    refine vk_getf (v := .int (0 : Int32)) hx hb (hE.1.1 i0 hi0).2.1 hS hown (ht _ kw_1904) (fun _ h9 => h9) dJ0_isLatin1_aae02_7 ?_
    refine lv_if_ne (tgt := 17) hx hb dJ0_isLatin1_aae02_10 (by decide) (fun c_2 => ?_) (fun c_2 => ?_)
    · exact absurd c_2 (by decide)
    · refine lv_iconst (v := (1 : Int32)) hx hb dJ0_isLatin1_aae02_13 (by decide) ?_
      refine lv_goto (tgt := 18) hx hb dJ0_isLatin1_aae02_14 (by decide) ?_
      exact W.zret (ty := .boolean) (v := (1 : Int32)) hx hb hr rfl (fun t ht2 hW => ⟨⟨(1 : Int32), (), rfl, Option.some.inj h, by rw [ht2]; exact hP, hD⟩, hS.F ht2⟩) hS.2.2 dJ0_isLatin1_aae02_18 hlocks
set_option maxHeartbeats 4000000 in
set_option maxRecDepth 100000 in
theorem c_J0_isLatin1_aae02 (l : Launch) (D : va_G) (cs : Nat → ClassId) (ad : Nat → Nat) (k : (Nat → Nat) × (Nat → Nat)) (i0 : Nat) (hi0 : i0 < 5) (sz : Nat)   (R : Int32 × Unit) (h : f_J0_isLatin1_aae02   i0  = some R) : Met l yJ0_isLatin1_aae02 (z_J0_isLatin1_aae02) rm_J0_isLatin1_aae02 (va_Pc [.ref (k.1 i0)] (zPreE k D cs (wl_J0_isLatin1_aae02 ad cs ) sz)) (Q_J0_isLatin1_aae02 D cs ad  (va_A (wl_J0_isLatin1_aae02 ad cs ) sz) R) 0 0 (va_A (wl_J0_isLatin1_aae02 ad cs ) sz) := by
  refine Met.ofW (cc := cJ0_isLatin1_aae02) (maxL := 1) (ret := (some .boolean)) (by decide) rfl ?_
  intro p e s m args below meth c s₁ B hml hv
  obtain ⟨rfl, ⟨⟨hsz, hP, hK, hD0⟩, hO⟩, hE⟩ := hv
  subst hsz
  have hD := hD0.self (sz := s.heap.size)
  have C0 : zC p s m _ meth c cJ0_isLatin1_aae02 1 (some .boolean) RJ0 zW := ⟨B.exec, B.bytes, B.returns, hml, findClass_of_methodNamed B.named, fun w hw => atoms_spec (ws := z_J0_isLatin1_aae02) B.pre w (List.mem_cons_of_mem _ hw), B.notSynchronized⟩
  have hA : ∀ q : Nat, s.heap.size ≤ q → va_A (wl_J0_isLatin1_aae02 ad cs ) s.heap.size q := fun q h => Or.inr h
  have hl := lv_entry ([.ref (k.1 i0)]) (n := 1) (Nat.le_of_ble_eq_true rfl)
  rw [lg_entry_eq]
  generalize (lg_sl ([.ref (k.1 i0)]) ++ List.replicate (1 - (lg_sl ([.ref (k.1 i0)])).length) Slot.unset).toArray = ls at hl ⊢
  exact L_J0_isLatin1_aae02_0 C0 hK hO hE hi0 hA     h s.heap [] ls hP hD va_S.rf hl
theorem kw_85 : Cond.initialized "java/lang/String" ∈ zW := zwC (i := 11) zc_1 rfl rfl
theorem kw_489 : Cond.methodLink RJ0 335 yJ0_coder_7d493 ∈ zW := zwC (i := 175) zc_2 rfl rfl
theorem kw_490 : Cond.instanceMethod yJ0_coder_7d493 ∈ zW := zwC (i := 176) zc_2 rfl rfl
theorem kw_491 : Cond.selects RJ0 yJ0_coder_7d493 yJ0_coder_7d493 ∈ zW := zwC (i := 177) zc_2 rfl rfl
theorem kw_492 : Cond.code yJ0_coder_7d493 cJ0_coder_7d493 1 (some .byte) ∈ zW := zwC (i := 178) zc_2 rfl rfl
theorem kw_1903 : Cond.fieldLink RJ0 9 "java/lang/String" "value" "[B" ∈ zW := zwC (i := 149) zc_8 rfl rfl
theorem zh_cJ0_length_8abf5_0 : zck [42, 180, 0, 9, 190, 42, 182, 1, 79, 122, 172] (zdu 0 cJ0_length_8abf5.data.toList) = true := by decide +kernel
theorem dJ0_length_8abf5_0 : decode cJ0_length_8abf5 0 = .ok (.aload_n 0, 1) := zo_42 zh_cJ0_length_8abf5_0 0 rfl
theorem dJ0_length_8abf5_1 : decode cJ0_length_8abf5 1 = .ok (.getfield 9, 3) := zo_180 zh_cJ0_length_8abf5_0 1 rfl
theorem dJ0_length_8abf5_4 : decode cJ0_length_8abf5 4 = .ok (.arraylength, 1) := zo_190 zh_cJ0_length_8abf5_0 4 rfl
theorem dJ0_length_8abf5_5 : decode cJ0_length_8abf5 5 = .ok (.aload_n 0, 1) := zo_42 zh_cJ0_length_8abf5_0 5 rfl
theorem dJ0_length_8abf5_6 : decode cJ0_length_8abf5 6 = .ok (.invokevirtual 335, 3) := zo_182 zh_cJ0_length_8abf5_0 6 rfl
theorem dJ0_length_8abf5_9 : decode cJ0_length_8abf5 9 = .ok (.ishr, 1) := zo_122 zh_cJ0_length_8abf5_0 9 rfl
theorem dJ0_length_8abf5_10 : decode cJ0_length_8abf5 10 = .ok (.ireturn, 1) := zo_172 zh_cJ0_length_8abf5_0 10 rfl
abbrev z_J0_length_8abf5 : List Cond := .code yJ0_length_8abf5 cJ0_length_8abf5 1 (some .int) :: zW
abbrev wl_J0_length_8abf5 (ad : Nat → Nat) (cs : Nat → ClassId)   : va_W := []
def Q_J0_length_8abf5 (D : va_G) (cs : Nat → ClassId) (ad : Nat → Nat)   (A : Nat → Prop) (R : Int32 × Unit) : Array Value → State → Outcome → State → Prop :=
  va_Qi (fun (r : Int32) (u : Unit) => (r, u) = R) (fun (u : Unit) (t : State) => va_P D classes (wl_J0_length_8abf5 ad cs ) t.heap ∧ va_D A (wl_J0_length_8abf5 ad cs )) A
abbrev rm_J0_length_8abf5 : Room := { frames := 1, cells := 0, slots := 0, locals := 20 }
theorem g_J0_335 : GoodIn zW (wsV RJ0 335 RJ0 yJ0_coder_7d493 z_J0_coder_7d493) := zGV kw_489 kw_490 kw_491 kw_85 kw_492
theorem hd_J0_coder_7d493 : yJ0_coder_7d493.cls ≠ "java/lang/invoke/MethodHandle" ∧ yJ0_coder_7d493.cls ≠ "java/lang/invoke/VarHandle" ∧ (parseMethodDescriptor yJ0_coder_7d493.desc).map (fun d => d.parameters.length) = some 0 := by decide +kernel
def B_J0_length_8abf5_0     (i0 : Nat) : Option (Int32 × Unit) :=
  (zk_b2 (f_J0_coder_7d493 i0) (fun r_1 u_2 => (some ((Int32.ofNat (zLen.getD i0 0)) >>> (r_1 &&& 31), ()))))
def f_J0_length_8abf5   (i0 : Nat)  : Option (Int32 × Unit) := B_J0_length_8abf5_0    i0 
set_option maxHeartbeats 4000000 in
set_option maxRecDepth 100000 in
theorem L_J0_length_8abf5_0 {p : Program} {l : Launch} {e : Env} {s : State} {m : MethodId} {args : Array Value} {below : List Frame} {meth : Method} {c : Code} {A : Nat → Prop} {D : va_G} {cs : Nat → ClassId} {ad : Nat → Nat} {R : Int32 × Unit} (C0 : zC p s m args meth c cJ0_length_8abf5 1 (some .int) RJ0 zW) (hK : va_K D classes (zT cs) s) {k : (Nat → Nat) × (Nat → Nat)} (hO : zO s) (hE : zE k A s) {i0 : Nat} (hi0 : i0 < 5) (hA : ∀ q : Nat, s.heap.size ≤ q → A q)  (h : B_J0_length_8abf5_0 i0 = some R) (H : Heap) (locs : List Loc) (ls : Array Slot) (hP : va_P D classes (wl_J0_length_8abf5 ad cs ) H) (hD : va_D A (wl_J0_length_8abf5 ad cs )) (hS : va_S A s.heap H locs) (hl : lv_has ls 1 [(0, .ref (k.1 i0))]) : W p l e rm_J0_length_8abf5 s m args below meth c H locs 0 0 (MQ below (Q_J0_length_8abf5 D cs ad  A R) args s 0 0 A) (F0 m 0 ls []) := by
  obtain ⟨hx, hb, hr, hml, hown, ht, hlocks⟩ := id C0
  refine lv_aload_n hx hb dJ0_length_8abf5_0 rfl (lv_at hl 0 rfl) ?_
  refine vk_getf (v := .ref (k.2 i0)) hx hb (hE.1.1 i0 hi0).2.2.1 hS hown (ht _ kw_1903) (fun _ h9 => h9) dJ0_length_8abf5_1 ?_
  refine va_tlen (v := Int32.ofNat (zLen.getD i0 0)) hx hb (hE.1.1 i0 hi0).2.2.2 hS rfl dJ0_length_8abf5_4 ?_
  refine lv_aload_n hx hb dJ0_length_8abf5_5 rfl (lv_at hl 0 rfl) ?_
  obtain ⟨r_1, u_2, hc_3, h⟩ := zk_o2 h
  refine zk_viE (post := (fun r u => (r, u) = (r_1, u_2))) (w1 := fun u => (wl_J0_coder_7d493 ad cs )) (As := []) (rest := [.int (Int32.ofNat (zLen.getD i0 0))]) hE hO (c_J0_coder_7d493 l D cs ad k i0 hi0 H.size  (r_1, u_2) hc_3) ⟨hx, hb, hml, hown, ht⟩ (cwV 0 ht g_J0_335 rfl rfl rfl ⟨rfl, hd_J0_coder_7d493⟩ ⟨Nat.le_of_ble_eq_true rfl, Nat.le_of_ble_eq_true rfl⟩) (vk_recv hE.1 hi0 hS) hP hD hS hK hA [] [] rfl rfl rfl rfl (by decide) rfl hl.1 (Nat.le_of_ble_eq_true rfl) dJ0_length_8abf5_6 ⟨Nat.zero_le _, Nat.zero_le _⟩ (fun r u H locs hq hP hD hS => ?_)
  cases hq
  have hP : va_P D classes (wl_J0_length_8abf5 ad cs ) H := hP.sub [] rfl
  have hD : va_D A (wl_J0_length_8abf5 ad cs ) := hD.sub [] rfl rfl
  refine lv_ishr hx hb dJ0_length_8abf5_9 ?_
  exact W.iret (v := (Int32.ofNat (zLen.getD i0 0)) >>> (r_1 &&& 31)) hx hb hr (fun t ht2 hW => ⟨⟨(Int32.ofNat (zLen.getD i0 0)) >>> (r_1 &&& 31), (), rfl, Option.some.inj h, by rw [ht2]; exact hP, hD⟩, hS.F ht2⟩) hS.2.2 dJ0_length_8abf5_10 hlocks
set_option maxHeartbeats 4000000 in
set_option maxRecDepth 100000 in
theorem c_J0_length_8abf5 (l : Launch) (D : va_G) (cs : Nat → ClassId) (ad : Nat → Nat) (k : (Nat → Nat) × (Nat → Nat)) (i0 : Nat) (hi0 : i0 < 5) (sz : Nat)   (R : Int32 × Unit) (h : f_J0_length_8abf5   i0  = some R) : Met l yJ0_length_8abf5 (z_J0_length_8abf5) rm_J0_length_8abf5 (va_Pc [.ref (k.1 i0)] (zPreE k D cs (wl_J0_length_8abf5 ad cs ) sz)) (Q_J0_length_8abf5 D cs ad  (va_A (wl_J0_length_8abf5 ad cs ) sz) R) 0 0 (va_A (wl_J0_length_8abf5 ad cs ) sz) := by
  refine Met.ofW (cc := cJ0_length_8abf5) (maxL := 1) (ret := (some .int)) (by decide) rfl ?_
  intro p e s m args below meth c s₁ B hml hv
  obtain ⟨rfl, ⟨⟨hsz, hP, hK, hD0⟩, hO⟩, hE⟩ := hv
  subst hsz
  have hD := hD0.self (sz := s.heap.size)
  have C0 : zC p s m _ meth c cJ0_length_8abf5 1 (some .int) RJ0 zW := ⟨B.exec, B.bytes, B.returns, hml, findClass_of_methodNamed B.named, fun w hw => atoms_spec (ws := z_J0_length_8abf5) B.pre w (List.mem_cons_of_mem _ hw), B.notSynchronized⟩
  have hA : ∀ q : Nat, s.heap.size ≤ q → va_A (wl_J0_length_8abf5 ad cs ) s.heap.size q := fun q h => Or.inr h
  have hl := lv_entry ([.ref (k.1 i0)]) (n := 1) (Nat.le_of_ble_eq_true rfl)
  rw [lg_entry_eq]
  generalize (lg_sl ([.ref (k.1 i0)]) ++ List.replicate (1 - (lg_sl ([.ref (k.1 i0)])).length) Slot.unset).toArray = ls at hl ⊢
  exact L_J0_length_8abf5_0 C0 hK hO hE hi0 hA     h s.heap [] ls hP hD va_S.rf hl
theorem kw_506 : Cond.methodLink RJ1 9 yJ0_checkIndex_df160 ∈ zW := zwC (i := 192) zc_2 rfl rfl
theorem kw_507 : Cond.static yJ0_checkIndex_df160 ∈ zW := zwC (i := 193) zc_2 rfl rfl
theorem kw_508 : Cond.code yJ0_checkIndex_df160 cJ0_checkIndex_df160 2 none ∈ zW := zwC (i := 194) zc_2 rfl rfl
theorem zh_cJ1_charAt_3b067_0 : zck [27, 42, 190, 184, 0, 9, 42, 27, 51, 17, 0, 255, 126, 146, 172] (zdu 0 cJ1_charAt_3b067.data.toList) = true := by decide +kernel
theorem dJ1_charAt_3b067_0 : decode cJ1_charAt_3b067 0 = .ok (.iload_n 1, 1) := zo_27 zh_cJ1_charAt_3b067_0 0 rfl
theorem dJ1_charAt_3b067_1 : decode cJ1_charAt_3b067 1 = .ok (.aload_n 0, 1) := zo_42 zh_cJ1_charAt_3b067_0 1 rfl
theorem dJ1_charAt_3b067_2 : decode cJ1_charAt_3b067 2 = .ok (.arraylength, 1) := zo_190 zh_cJ1_charAt_3b067_0 2 rfl
theorem dJ1_charAt_3b067_3 : decode cJ1_charAt_3b067 3 = .ok (.invokestatic 9, 3) := zo_184 zh_cJ1_charAt_3b067_0 3 rfl
theorem dJ1_charAt_3b067_6 : decode cJ1_charAt_3b067 6 = .ok (.aload_n 0, 1) := zo_42 zh_cJ1_charAt_3b067_0 6 rfl
theorem dJ1_charAt_3b067_7 : decode cJ1_charAt_3b067 7 = .ok (.iload_n 1, 1) := zo_27 zh_cJ1_charAt_3b067_0 7 rfl
theorem dJ1_charAt_3b067_8 : decode cJ1_charAt_3b067 8 = .ok (.baload, 1) := zo_51 zh_cJ1_charAt_3b067_0 8 rfl
theorem dJ1_charAt_3b067_9 : decode cJ1_charAt_3b067 9 = .ok (.sipush 255, 3) := zo_p17 zh_cJ1_charAt_3b067_0 9 255 rfl rfl
theorem dJ1_charAt_3b067_12 : decode cJ1_charAt_3b067 12 = .ok (.iand, 1) := zo_126 zh_cJ1_charAt_3b067_0 12 rfl
theorem zo_146 {c : ByteArray} {s : Nat} {K : List Nat} (h : zck K (zdu s c.data.toList) = true) (k : Nat) (hk : zt1 K k 146 = true) : decode c (s + k) = .ok (.i2c, 1) := zde ((zbd (zu1 (zh1 h hk))).trans rfl)
theorem dJ1_charAt_3b067_13 : decode cJ1_charAt_3b067 13 = .ok (.i2c, 1) := zo_146 zh_cJ1_charAt_3b067_0 13 rfl
theorem dJ1_charAt_3b067_14 : decode cJ1_charAt_3b067 14 = .ok (.ireturn, 1) := zo_172 zh_cJ1_charAt_3b067_0 14 rfl
abbrev z_J1_charAt_3b067 : List Cond := .code yJ1_charAt_3b067 cJ1_charAt_3b067 2 (some .char) :: zW
abbrev wl_J1_charAt_3b067 (ad : Nat → Nat) (cs : Nat → ClassId)   : va_W := []
def Q_J1_charAt_3b067 (D : va_G) (cs : Nat → ClassId) (ad : Nat → Nat)   (A : Nat → Prop) (R : Int32 × Unit) : Array Value → State → Outcome → State → Prop :=
  va_Qi (fun (r : Int32) (u : Unit) => (r, u) = R) (fun (u : Unit) (t : State) => va_P D classes (wl_J1_charAt_3b067 ad cs ) t.heap ∧ va_D A (wl_J1_charAt_3b067 ad cs )) A
abbrev rm_J1_charAt_3b067 : Room := { frames := 2, cells := 0, slots := 0, locals := 43 }
theorem g_J1_9 : GoodIn zW (va_wsS RJ1 9 yJ0_checkIndex_df160 z_J0_checkIndex_df160) := zGS kw_506 kw_507 kw_85 kw_508
def B_J1_charAt_3b067_0     (i0 : Nat) (x1 : Int32) : Option (Int32 × Unit) :=
  (if (x1 < 0 ∨ (Int32.ofNat (zLen.getD i0 0)) ≤ x1) then none else (if (x1 < 0 ∨ (zLen.getD i0 0) ≤ x1.toNatClampNeg) then none else (if ¬ (narrow .char (.int (((((zByt.getD i0 []).getD x1.toNatClampNeg 0) &&& (255 : Int32)).toUInt32 % 65536).toInt32)) = .int (((((zByt.getD i0 []).getD x1.toNatClampNeg 0) &&& (255 : Int32)).toUInt32 % 65536).toInt32)) then none else (some (((((zByt.getD i0 []).getD x1.toNatClampNeg 0) &&& (255 : Int32)).toUInt32 % 65536).toInt32, ())))))
def f_J1_charAt_3b067   (i0 : Nat) (x1 : Int32)  : Option (Int32 × Unit) := B_J1_charAt_3b067_0    i0 x1 
set_option maxHeartbeats 4000000 in
set_option maxRecDepth 100000 in
theorem L_J1_charAt_3b067_0 {p : Program} {l : Launch} {e : Env} {s : State} {m : MethodId} {args : Array Value} {below : List Frame} {meth : Method} {c : Code} {A : Nat → Prop} {D : va_G} {cs : Nat → ClassId} {ad : Nat → Nat} {R : Int32 × Unit} (C0 : zC p s m args meth c cJ1_charAt_3b067 2 (some .char) RJ1 zW) (hK : va_K D classes (zT cs) s) {k : (Nat → Nat) × (Nat → Nat)} (hO : zO s) (hE : zE k A s) {i0 : Nat} (hi0 : i0 < 5) (hA : ∀ q : Nat, s.heap.size ≤ q → A q) (x1 : Int32) (h : B_J1_charAt_3b067_0 i0 x1 = some R) (H : Heap) (locs : List Loc) (ls : Array Slot) (hP : va_P D classes (wl_J1_charAt_3b067 ad cs ) H) (hD : va_D A (wl_J1_charAt_3b067 ad cs )) (hS : va_S A s.heap H locs) (hl : lv_has ls 2 [(0, .ref (k.2 i0)), (1, .int x1)]) : W p l e rm_J1_charAt_3b067 s m args below meth c H locs 0 0 (MQ below (Q_J1_charAt_3b067 D cs ad  A R) args s 0 0 A) (F0 m 0 ls []) := by
  obtain ⟨hx, hb, hr, hml, hown, ht, hlocks⟩ := id C0
  refine lv_iload_n hx hb dJ1_charAt_3b067_0 rfl (lv_at hl 1 rfl) ?_
  refine lv_aload_n hx hb dJ1_charAt_3b067_1 rfl (lv_at hl 0 rfl) ?_
  refine va_tlen (v := Int32.ofNat (zLen.getD i0 0)) hx hb (hE.1.1 i0 hi0).2.2.2 hS rfl dJ1_charAt_3b067_2 ?_
  obtain ⟨g_1, h⟩ := zk_gd h
  refine zk_svE (post := fun _ => True) (w1 := fun _ => []) (As := [.int x1, .int (Int32.ofNat (zLen.getD i0 0))]) (rest := []) hE hO (cx_checkIndex2 l D cs k H.size x1 (Int32.ofNat (zLen.getD i0 0)) (fun z => g_1 (Or.inl z)) (by have := fun z => g_1 (Or.inr z); exact Int32.not_le.mp this)) ⟨hx, hb, hml, hown, ht⟩ (va_cwS 2 ht g_J1_9 rfl rfl rfl (by decide +kernel) ⟨Nat.le_of_ble_eq_true rfl, Nat.le_of_ble_eq_true rfl⟩) hP hD hS hK hA [] [] rfl rfl rfl rfl (by decide) rfl hl.1 (Nat.le_of_ble_eq_true rfl) dJ1_charAt_3b067_3 ⟨Nat.zero_le _, Nat.zero_le _⟩ (fun u H locs hq hP hD hS => ?_)
  have hP : va_P D classes (wl_J1_charAt_3b067 ad cs ) H := hP.sub [] rfl
  have hD : va_D A (wl_J1_charAt_3b067 ad cs ) := hD.sub [] rfl rfl
  refine lv_aload_n hx hb dJ1_charAt_3b067_6 rfl (lv_at hl 0 rfl) ?_
  refine lv_iload_n hx hb dJ1_charAt_3b067_7 rfl (lv_at hl 1 rfl) ?_
  obtain ⟨g_3, h⟩ := zk_gd h
  refine va_tb (v := .int ((zByt.getD i0 []).getD x1.toNatClampNeg 0)) hx hb (hE.1.1 i0 hi0).2.2.2 hS g_3 rfl dJ1_charAt_3b067_8 ?_
  refine lv_sipush (v := (255 : Int32)) hx hb dJ1_charAt_3b067_9 (by decide) ?_
  refine lv_iand hx hb dJ1_charAt_3b067_12 ?_
  refine lv_i2c (v := ((((zByt.getD i0 []).getD x1.toNatClampNeg 0) &&& (255 : Int32)).toUInt32 % 65536).toInt32) hx hb dJ1_charAt_3b067_13 rfl ?_
  obtain ⟨g_4, h⟩ := zk_gd h
  exact W.zret (ty := .char) (v := ((((zByt.getD i0 []).getD x1.toNatClampNeg 0) &&& (255 : Int32)).toUInt32 % 65536).toInt32) hx hb hr (zk_nc g_4) (fun t ht2 hW => ⟨⟨((((zByt.getD i0 []).getD x1.toNatClampNeg 0) &&& (255 : Int32)).toUInt32 % 65536).toInt32, (), rfl, Option.some.inj h, by rw [ht2]; exact hP, hD⟩, hS.F ht2⟩) hS.2.2 dJ1_charAt_3b067_14 hlocks
set_option maxHeartbeats 4000000 in
set_option maxRecDepth 100000 in
theorem c_J1_charAt_3b067 (l : Launch) (D : va_G) (cs : Nat → ClassId) (ad : Nat → Nat) (k : (Nat → Nat) × (Nat → Nat)) (i0 : Nat) (hi0 : i0 < 5) (sz : Nat) (x1 : Int32)  (R : Int32 × Unit) (h : f_J1_charAt_3b067   i0 x1  = some R) : Met l yJ1_charAt_3b067 (z_J1_charAt_3b067) rm_J1_charAt_3b067 (va_Pc [.ref (k.2 i0), .int x1] (zPreE k D cs (wl_J1_charAt_3b067 ad cs ) sz)) (Q_J1_charAt_3b067 D cs ad  (va_A (wl_J1_charAt_3b067 ad cs ) sz) R) 0 0 (va_A (wl_J1_charAt_3b067 ad cs ) sz) := by
  refine Met.ofW (cc := cJ1_charAt_3b067) (maxL := 2) (ret := (some .char)) (by decide) rfl ?_
  intro p e s m args below meth c s₁ B hml hv
  obtain ⟨rfl, ⟨⟨hsz, hP, hK, hD0⟩, hO⟩, hE⟩ := hv
  subst hsz
  have hD := hD0.self (sz := s.heap.size)
  have C0 : zC p s m _ meth c cJ1_charAt_3b067 2 (some .char) RJ1 zW := ⟨B.exec, B.bytes, B.returns, hml, findClass_of_methodNamed B.named, fun w hw => atoms_spec (ws := z_J1_charAt_3b067) B.pre w (List.mem_cons_of_mem _ hw), B.notSynchronized⟩
  have hA : ∀ q : Nat, s.heap.size ≤ q → va_A (wl_J1_charAt_3b067 ad cs ) s.heap.size q := fun q h => Or.inr h
  have hl := lv_entry ([.ref (k.2 i0), .int x1]) (n := 2) (Nat.le_of_ble_eq_true rfl)
  rw [lg_entry_eq]
  generalize (lg_sl ([.ref (k.2 i0), .int x1]) ++ List.replicate (2 - (lg_sl ([.ref (k.2 i0), .int x1])).length) Slot.unset).toArray = ls at hl ⊢
  exact L_J1_charAt_3b067_0 C0 hK hO hE hi0 hA   x1  h s.heap [] ls hP hD va_S.rf hl
theorem kw_86 : Cond.initialized RJ1 ∈ zW := zwC (i := 12) zc_1 rfl rfl
theorem kw_499 : Cond.methodLink RJ0 492 yJ0_isLatin1_aae02 ∈ zW := zwC (i := 185) zc_2 rfl rfl
theorem kw_500 : Cond.instanceMethod yJ0_isLatin1_aae02 ∈ zW := zwC (i := 186) zc_2 rfl rfl
theorem kw_501 : Cond.selects RJ0 yJ0_isLatin1_aae02 yJ0_isLatin1_aae02 ∈ zW := zwC (i := 187) zc_2 rfl rfl
theorem kw_502 : Cond.code yJ0_isLatin1_aae02 cJ0_isLatin1_aae02 1 (some .boolean) ∈ zW := zwC (i := 188) zc_2 rfl rfl
theorem kw_503 : Cond.methodLink RJ0 495 yJ1_charAt_3b067 ∈ zW := zwC (i := 189) zc_2 rfl rfl
theorem kw_504 : Cond.static yJ1_charAt_3b067 ∈ zW := zwC (i := 190) zc_2 rfl rfl
theorem kw_505 : Cond.code yJ1_charAt_3b067 cJ1_charAt_3b067 2 (some .char) ∈ zW := zwC (i := 191) zc_2 rfl rfl
theorem zh_cJ0_charAt_5068e_0 : zck [42, 182, 1, 236, 153, 0, 12, 42, 180, 0, 9, 27, 184, 1, 239, 172, 42, 180, 0, 9, 27, 184] (zdu 0 cJ0_charAt_5068e.data.toList) = true := by decide +kernel
theorem dJ0_charAt_5068e_0 : decode cJ0_charAt_5068e 0 = .ok (.aload_n 0, 1) := zo_42 zh_cJ0_charAt_5068e_0 0 rfl
theorem dJ0_charAt_5068e_1 : decode cJ0_charAt_5068e 1 = .ok (.invokevirtual 492, 3) := zo_182 zh_cJ0_charAt_5068e_0 1 rfl
theorem dJ0_charAt_5068e_4 : decode cJ0_charAt_5068e 4 = .ok (.ifCond .eq 12, 3) := zo_p153 zh_cJ0_charAt_5068e_0 4 12 rfl rfl
theorem dJ0_charAt_5068e_7 : decode cJ0_charAt_5068e 7 = .ok (.aload_n 0, 1) := zo_42 zh_cJ0_charAt_5068e_0 7 rfl
theorem dJ0_charAt_5068e_8 : decode cJ0_charAt_5068e 8 = .ok (.getfield 9, 3) := zo_180 zh_cJ0_charAt_5068e_0 8 rfl
theorem dJ0_charAt_5068e_11 : decode cJ0_charAt_5068e 11 = .ok (.iload_n 1, 1) := zo_27 zh_cJ0_charAt_5068e_0 11 rfl
theorem dJ0_charAt_5068e_12 : decode cJ0_charAt_5068e 12 = .ok (.invokestatic 495, 3) := zo_184 zh_cJ0_charAt_5068e_0 12 rfl
theorem dJ0_charAt_5068e_15 : decode cJ0_charAt_5068e 15 = .ok (.ireturn, 1) := zo_172 zh_cJ0_charAt_5068e_0 15 rfl
theorem dJ0_charAt_5068e_16 : decode cJ0_charAt_5068e 16 = .ok (.aload_n 0, 1) := zo_42 zh_cJ0_charAt_5068e_0 16 rfl
theorem dJ0_charAt_5068e_17 : decode cJ0_charAt_5068e 17 = .ok (.getfield 9, 3) := zo_180 zh_cJ0_charAt_5068e_0 17 rfl
theorem zh_cJ0_charAt_5068e_1 : zck [27, 184, 1, 242, 172] (zdu 20 cJ0_charAt_5068e.data.toList) = true := by decide +kernel
theorem dJ0_charAt_5068e_20 : decode cJ0_charAt_5068e 20 = .ok (.iload_n 1, 1) := zo_27 zh_cJ0_charAt_5068e_1 0 rfl
abbrev z_J0_charAt_5068e : List Cond := .code yJ0_charAt_5068e cJ0_charAt_5068e 2 (some .char) :: zW
abbrev wl_J0_charAt_5068e (ad : Nat → Nat) (cs : Nat → ClassId)   : va_W := []
def Q_J0_charAt_5068e (D : va_G) (cs : Nat → ClassId) (ad : Nat → Nat)   (A : Nat → Prop) (R : Int32 × Unit) : Array Value → State → Outcome → State → Prop :=
  va_Qi (fun (r : Int32) (u : Unit) => (r, u) = R) (fun (u : Unit) (t : State) => va_P D classes (wl_J0_charAt_5068e ad cs ) t.heap ∧ va_D A (wl_J0_charAt_5068e ad cs )) A
abbrev rm_J0_charAt_5068e : Room := { frames := 3, cells := 0, slots := 0, locals := 64 }
theorem g_J0_492 : GoodIn zW (wsV RJ0 492 RJ0 yJ0_isLatin1_aae02 z_J0_isLatin1_aae02) := zGV kw_499 kw_500 kw_501 kw_85 kw_502
theorem g_J0_495 : GoodIn zW (va_wsS RJ0 495 yJ1_charAt_3b067 z_J1_charAt_3b067) := zGS kw_503 kw_504 kw_86 kw_505
theorem hd_J0_isLatin1_aae02 : yJ0_isLatin1_aae02.cls ≠ "java/lang/invoke/MethodHandle" ∧ yJ0_isLatin1_aae02.cls ≠ "java/lang/invoke/VarHandle" ∧ (parseMethodDescriptor yJ0_isLatin1_aae02.desc).map (fun d => d.parameters.length) = some 0 := by decide +kernel
theorem hd_J1_charAt_3b067 : yJ1_charAt_3b067.cls ≠ "java/lang/invoke/MethodHandle" ∧ yJ1_charAt_3b067.cls ≠ "java/lang/invoke/VarHandle" ∧ (parseMethodDescriptor yJ1_charAt_3b067.desc).map (fun d => d.parameters.length) = some 2 := by decide +kernel
def B_J0_charAt_5068e_0     (i0 : Nat) (x1 : Int32) : Option (Int32 × Unit) :=
  (zk_b2 (f_J0_isLatin1_aae02 i0) (fun r_1 u_2 => (if r_1 = 0 then none else (zk_b2 (f_J1_charAt_3b067 i0 x1) (fun r_5 u_6 => (if ¬ (narrow .char (.int r_5) = .int r_5) then none else (some (r_5, ()))))))))
def f_J0_charAt_5068e   (i0 : Nat) (x1 : Int32)  : Option (Int32 × Unit) := B_J0_charAt_5068e_0    i0 x1 
set_option maxHeartbeats 4000000 in
set_option maxRecDepth 100000 in
theorem L_J0_charAt_5068e_0 {p : Program} {l : Launch} {e : Env} {s : State} {m : MethodId} {args : Array Value} {below : List Frame} {meth : Method} {c : Code} {A : Nat → Prop} {D : va_G} {cs : Nat → ClassId} {ad : Nat → Nat} {R : Int32 × Unit} (C0 : zC p s m args meth c cJ0_charAt_5068e 2 (some .char) RJ0 zW) (hK : va_K D classes (zT cs) s) {k : (Nat → Nat) × (Nat → Nat)} (hO : zO s) (hE : zE k A s) {i0 : Nat} (hi0 : i0 < 5) (hA : ∀ q : Nat, s.heap.size ≤ q → A q) (x1 : Int32) (h : B_J0_charAt_5068e_0 i0 x1 = some R) (H : Heap) (locs : List Loc) (ls : Array Slot) (hP : va_P D classes (wl_J0_charAt_5068e ad cs ) H) (hD : va_D A (wl_J0_charAt_5068e ad cs )) (hS : va_S A s.heap H locs) (hl : lv_has ls 2 [(0, .ref (k.1 i0)), (1, .int x1)]) : W p l e rm_J0_charAt_5068e s m args below meth c H locs 0 0 (MQ below (Q_J0_charAt_5068e D cs ad  A R) args s 0 0 A) (F0 m 0 ls []) := by
  obtain ⟨hx, hb, hr, hml, hown, ht, hlocks⟩ := id C0
  refine lv_aload_n hx hb dJ0_charAt_5068e_0 rfl (lv_at hl 0 rfl) ?_
  obtain ⟨r_1, u_2, hc_3, h⟩ := zk_o2 h
  refine zk_viE (post := (fun r u => (r, u) = (r_1, u_2))) (w1 := fun u => (wl_J0_isLatin1_aae02 ad cs )) (As := []) (rest := []) hE hO (c_J0_isLatin1_aae02 l D cs ad k i0 hi0 H.size  (r_1, u_2) hc_3) ⟨hx, hb, hml, hown, ht⟩ (cwV 0 ht g_J0_492 rfl rfl rfl ⟨rfl, hd_J0_isLatin1_aae02⟩ ⟨Nat.le_of_ble_eq_true rfl, Nat.le_of_ble_eq_true rfl⟩) (vk_recv hE.1 hi0 hS) hP hD hS hK hA [] [] rfl rfl rfl rfl (by decide) rfl hl.1 (Nat.le_of_ble_eq_true rfl) dJ0_charAt_5068e_1 ⟨Nat.zero_le _, Nat.zero_le _⟩ (fun r u H locs hq hP hD hS => ?_)
  cases hq
  have hP : va_P D classes (wl_J0_charAt_5068e ad cs ) H := hP.sub [] rfl
  have hD : va_D A (wl_J0_charAt_5068e ad cs ) := hD.sub [] rfl rfl
  refine lv_if_eq (tgt := 16) hx hb dJ0_charAt_5068e_4 (by decide) (fun c_4 => ?_) (fun c_4 => ?_)
  · have h := zk_t c_4 h
    refine lv_aload_n hx hb dJ0_charAt_5068e_16 rfl (lv_at hl 0 rfl) ?_
    refine vk_getf (v := .ref (k.2 i0)) hx hb (hE.1.1 i0 hi0).2.2.1 hS hown (ht _ kw_1903) (fun _ h9 => h9) dJ0_charAt_5068e_17 ?_
    refine lv_iload_n hx hb dJ0_charAt_5068e_20 rfl (lv_at hl 1 rfl) ?_
    cases h
  · have h := zk_f c_4 h
    refine lv_aload_n hx hb dJ0_charAt_5068e_7 rfl (lv_at hl 0 rfl) ?_
    refine vk_getf (v := .ref (k.2 i0)) hx hb (hE.1.1 i0 hi0).2.2.1 hS hown (ht _ kw_1903) (fun _ h9 => h9) dJ0_charAt_5068e_8 ?_
    refine lv_iload_n hx hb dJ0_charAt_5068e_11 rfl (lv_at hl 1 rfl) ?_
    obtain ⟨r_5, u_6, hc_7, h⟩ := zk_o2 h
    refine zk_siE (post := (fun r u => (r, u) = (r_5, u_6))) (w1 := fun u => (wl_J1_charAt_3b067 ad cs )) (As := [.ref (k.2 i0), .int x1]) (rest := []) hE hO (c_J1_charAt_3b067 l D cs ad k i0 hi0 H.size x1 (r_5, u_6) hc_7) ⟨hx, hb, hml, hown, ht⟩ (va_cwS 2 ht g_J0_495 rfl rfl rfl hd_J1_charAt_3b067 ⟨Nat.le_of_ble_eq_true rfl, Nat.le_of_ble_eq_true rfl⟩) hP hD hS hK hA [] [] rfl rfl rfl rfl (by decide) rfl hl.1 (Nat.le_of_ble_eq_true rfl) dJ0_charAt_5068e_12 ⟨Nat.zero_le _, Nat.zero_le _⟩ (fun r u H locs hq hP hD hS => ?_)
    cases hq
    have hP : va_P D classes (wl_J0_charAt_5068e ad cs ) H := hP.sub [] rfl
    have hD : va_D A (wl_J0_charAt_5068e ad cs ) := hD.sub [] rfl rfl
    obtain ⟨g_8, h⟩ := zk_gd h
    exact W.zret (ty := .char) (v := r_5) hx hb hr (zk_nc g_8) (fun t ht2 hW => ⟨⟨r_5, (), rfl, Option.some.inj h, by rw [ht2]; exact hP, hD⟩, hS.F ht2⟩) hS.2.2 dJ0_charAt_5068e_15 hlocks
set_option maxHeartbeats 4000000 in
set_option maxRecDepth 100000 in
theorem c_J0_charAt_5068e (l : Launch) (D : va_G) (cs : Nat → ClassId) (ad : Nat → Nat) (k : (Nat → Nat) × (Nat → Nat)) (i0 : Nat) (hi0 : i0 < 5) (sz : Nat) (x1 : Int32)  (R : Int32 × Unit) (h : f_J0_charAt_5068e   i0 x1  = some R) : Met l yJ0_charAt_5068e (z_J0_charAt_5068e) rm_J0_charAt_5068e (va_Pc [.ref (k.1 i0), .int x1] (zPreE k D cs (wl_J0_charAt_5068e ad cs ) sz)) (Q_J0_charAt_5068e D cs ad  (va_A (wl_J0_charAt_5068e ad cs ) sz) R) 0 0 (va_A (wl_J0_charAt_5068e ad cs ) sz) := by
  refine Met.ofW (cc := cJ0_charAt_5068e) (maxL := 2) (ret := (some .char)) (by decide) rfl ?_
  intro p e s m args below meth c s₁ B hml hv
  obtain ⟨rfl, ⟨⟨hsz, hP, hK, hD0⟩, hO⟩, hE⟩ := hv
  subst hsz
  have hD := hD0.self (sz := s.heap.size)
  have C0 : zC p s m _ meth c cJ0_charAt_5068e 2 (some .char) RJ0 zW := ⟨B.exec, B.bytes, B.returns, hml, findClass_of_methodNamed B.named, fun w hw => atoms_spec (ws := z_J0_charAt_5068e) B.pre w (List.mem_cons_of_mem _ hw), B.notSynchronized⟩
  have hA : ∀ q : Nat, s.heap.size ≤ q → va_A (wl_J0_charAt_5068e ad cs ) s.heap.size q := fun q h => Or.inr h
  have hl := lv_entry ([.ref (k.1 i0), .int x1]) (n := 2) (Nat.le_of_ble_eq_true rfl)
  rw [lg_entry_eq]
  generalize (lg_sl ([.ref (k.1 i0), .int x1]) ++ List.replicate (2 - (lg_sl ([.ref (k.1 i0), .int x1])).length) Slot.unset).toArray = ls at hl ⊢
  exact L_J0_charAt_5068e_0 C0 hK hO hE hi0 hA   x1  h s.heap [] ls hP hD va_S.rf hl
theorem zh_cJ1_canEncode_9a6ad_0 : zck [26, 155, 0, 14, 26, 17, 0, 255, 163, 0, 7, 4, 167, 0, 4, 3, 172] (zdu 0 cJ1_canEncode_9a6ad.data.toList) = true := by decide +kernel
theorem dJ1_canEncode_9a6ad_0 : decode cJ1_canEncode_9a6ad 0 = .ok (.iload_n 0, 1) := zo_26 zh_cJ1_canEncode_9a6ad_0 0 rfl
theorem dJ1_canEncode_9a6ad_1 : decode cJ1_canEncode_9a6ad 1 = .ok (.ifCond .lt 14, 3) := zo_p155 zh_cJ1_canEncode_9a6ad_0 1 14 rfl rfl
theorem dJ1_canEncode_9a6ad_4 : decode cJ1_canEncode_9a6ad 4 = .ok (.iload_n 0, 1) := zo_26 zh_cJ1_canEncode_9a6ad_0 4 rfl
theorem dJ1_canEncode_9a6ad_5 : decode cJ1_canEncode_9a6ad 5 = .ok (.sipush 255, 3) := zo_p17 zh_cJ1_canEncode_9a6ad_0 5 255 rfl rfl
theorem dJ1_canEncode_9a6ad_8 : decode cJ1_canEncode_9a6ad 8 = .ok (.if_icmp .gt 7, 3) := zo_p163 zh_cJ1_canEncode_9a6ad_0 8 7 rfl rfl
theorem dJ1_canEncode_9a6ad_11 : decode cJ1_canEncode_9a6ad 11 = .ok (.iconst 1, 1) := zo_4 zh_cJ1_canEncode_9a6ad_0 11 rfl
theorem dJ1_canEncode_9a6ad_12 : decode cJ1_canEncode_9a6ad 12 = .ok (.goto 4, 3) := zo_p167 zh_cJ1_canEncode_9a6ad_0 12 4 rfl rfl
theorem dJ1_canEncode_9a6ad_15 : decode cJ1_canEncode_9a6ad 15 = .ok (.iconst 0, 1) := zo_3 zh_cJ1_canEncode_9a6ad_0 15 rfl
theorem dJ1_canEncode_9a6ad_16 : decode cJ1_canEncode_9a6ad 16 = .ok (.ireturn, 1) := zo_172 zh_cJ1_canEncode_9a6ad_0 16 rfl
abbrev z_J1_canEncode_9a6ad : List Cond := .code yJ1_canEncode_9a6ad cJ1_canEncode_9a6ad 1 (some .boolean) :: zW
abbrev wl_J1_canEncode_9a6ad (ad : Nat → Nat) (cs : Nat → ClassId)   : va_W := []
def Q_J1_canEncode_9a6ad (D : va_G) (cs : Nat → ClassId) (ad : Nat → Nat)   (A : Nat → Prop) (R : Int32 × Unit) : Array Value → State → Outcome → State → Prop :=
  va_Qi (fun (r : Int32) (u : Unit) => (r, u) = R) (fun (u : Unit) (t : State) => va_P D classes (wl_J1_canEncode_9a6ad ad cs ) t.heap ∧ va_D A (wl_J1_canEncode_9a6ad ad cs )) A
abbrev rm_J1_canEncode_9a6ad : Room := { frames := 0, cells := 0, slots := 0, locals := 0 }
def B_J1_canEncode_9a6ad_0     (x0 : Int32) : Option (Int32 × Unit) :=
  (if x0 < 0 then (some ((0 : Int32), ())) else (if (255 : Int32) < x0 then (some ((0 : Int32), ())) else (some ((1 : Int32), ()))))
def f_J1_canEncode_9a6ad   (x0 : Int32)  : Option (Int32 × Unit) := B_J1_canEncode_9a6ad_0    x0 
set_option maxHeartbeats 4000000 in
set_option maxRecDepth 100000 in
theorem L_J1_canEncode_9a6ad_0 {p : Program} {l : Launch} {e : Env} {s : State} {m : MethodId} {args : Array Value} {below : List Frame} {meth : Method} {c : Code} {A : Nat → Prop} {D : va_G} {cs : Nat → ClassId} {ad : Nat → Nat} {R : Int32 × Unit} (C0 : zC p s m args meth c cJ1_canEncode_9a6ad 1 (some .boolean) RJ1 zW) (hK : va_K D classes (zT cs) s) (hA : ∀ q : Nat, s.heap.size ≤ q → A q) (x0 : Int32) (h : B_J1_canEncode_9a6ad_0 x0 = some R) (H : Heap) (locs : List Loc) (ls : Array Slot) (hP : va_P D classes (wl_J1_canEncode_9a6ad ad cs ) H) (hD : va_D A (wl_J1_canEncode_9a6ad ad cs )) (hS : va_S A s.heap H locs) (hl : lv_has ls 1 [(0, .int x0)]) : W p l e rm_J1_canEncode_9a6ad s m args below meth c H locs 0 0 (MQ below (Q_J1_canEncode_9a6ad D cs ad  A R) args s 0 0 A) (F0 m 0 ls []) := by
  obtain ⟨hx, hb, hr, hml, hown, ht, hlocks⟩ := id C0
  refine lv_iload_n hx hb dJ1_canEncode_9a6ad_0 rfl (lv_at hl 0 rfl) ?_
  refine lv_if_lt (tgt := 15) hx hb dJ1_canEncode_9a6ad_1 (by decide) (fun c_1 => ?_) (fun c_1 => ?_)
  · have h := zk_t c_1 h
    refine lv_iconst (v := (0 : Int32)) hx hb dJ1_canEncode_9a6ad_15 (by decide) ?_
    exact W.zret (ty := .boolean) (v := (0 : Int32)) hx hb hr rfl (fun t ht2 hW => ⟨⟨(0 : Int32), (), rfl, Option.some.inj h, by rw [ht2]; exact hP, hD⟩, hS.F ht2⟩) hS.2.2 dJ1_canEncode_9a6ad_16 hlocks
  · have h := zk_f c_1 h
    refine lv_iload_n hx hb dJ1_canEncode_9a6ad_4 rfl (lv_at hl 0 rfl) ?_
    refine lv_sipush (v := (255 : Int32)) hx hb dJ1_canEncode_9a6ad_5 (by decide) ?_
    refine lv_icmp_gt (tgt := 15) hx hb dJ1_canEncode_9a6ad_8 (by decide) (fun c_2 => ?_) (fun c_2 => ?_)
    · have h := zk_t c_2 h
      refine lv_iconst (v := (0 : Int32)) hx hb dJ1_canEncode_9a6ad_15 (by decide) ?_
      exact W.zret (ty := .boolean) (v := (0 : Int32)) hx hb hr rfl (fun t ht2 hW => ⟨⟨(0 : Int32), (), rfl, Option.some.inj h, by rw [ht2]; exact hP, hD⟩, hS.F ht2⟩) hS.2.2 dJ1_canEncode_9a6ad_16 hlocks
    · have h := zk_f c_2 h
      refine lv_iconst (v := (1 : Int32)) hx hb dJ1_canEncode_9a6ad_11 (by decide) ?_
      refine lv_goto (tgt := 16) hx hb dJ1_canEncode_9a6ad_12 (by decide) ?_
      exact W.zret (ty := .boolean) (v := (1 : Int32)) hx hb hr rfl (fun t ht2 hW => ⟨⟨(1 : Int32), (), rfl, Option.some.inj h, by rw [ht2]; exact hP, hD⟩, hS.F ht2⟩) hS.2.2 dJ1_canEncode_9a6ad_16 hlocks
set_option maxHeartbeats 4000000 in
set_option maxRecDepth 100000 in
theorem c_J1_canEncode_9a6ad (l : Launch) (D : va_G) (cs : Nat → ClassId) (ad : Nat → Nat) (sz : Nat) (x0 : Int32)  (R : Int32 × Unit) (h : f_J1_canEncode_9a6ad   x0  = some R) : Met l yJ1_canEncode_9a6ad (z_J1_canEncode_9a6ad) rm_J1_canEncode_9a6ad (va_Pc [.int x0] (zPre D cs (wl_J1_canEncode_9a6ad ad cs ) sz)) (Q_J1_canEncode_9a6ad D cs ad  (va_A (wl_J1_canEncode_9a6ad ad cs ) sz) R) 0 0 (va_A (wl_J1_canEncode_9a6ad ad cs ) sz) := by
  refine Met.ofW (cc := cJ1_canEncode_9a6ad) (maxL := 1) (ret := (some .boolean)) (by decide) rfl ?_
  intro p e s m args below meth c s₁ B hml hv
  obtain ⟨rfl, hsz, hP, hK, hD0⟩ := hv
  subst hsz
  have hD := hD0.self (sz := s.heap.size)
  have C0 : zC p s m _ meth c cJ1_canEncode_9a6ad 1 (some .boolean) RJ1 zW := ⟨B.exec, B.bytes, B.returns, hml, findClass_of_methodNamed B.named, fun w hw => atoms_spec (ws := z_J1_canEncode_9a6ad) B.pre w (List.mem_cons_of_mem _ hw), B.notSynchronized⟩
  have hA : ∀ q : Nat, s.heap.size ≤ q → va_A (wl_J1_canEncode_9a6ad ad cs ) s.heap.size q := fun q h => Or.inr h
  have hl := lv_entry ([.int x0]) (n := 1) (Nat.le_of_ble_eq_true rfl)
  rw [lg_entry_eq]
  generalize (lg_sl ([.int x0]) ++ List.replicate (1 - (lg_sl ([.int x0])).length) Slot.unset).toArray = ls at hl ⊢
  exact L_J1_canEncode_9a6ad_0 C0 hK hA   x0  h s.heap [] ls hP hD va_S.rf hl
theorem zh_cJ1_indexOfChar_4cfef_0 : zck [27, 145, 54, 4, 28, 54, 5, 21, 5, 29, 162, 0, 21, 42, 21, 5, 51, 21, 4, 160, 0, 6] (zdu 0 cJ1_indexOfChar_4cfef.data.toList) = true := by decide +kernel
theorem dJ1_indexOfChar_4cfef_0 : decode cJ1_indexOfChar_4cfef 0 = .ok (.iload_n 1, 1) := zo_27 zh_cJ1_indexOfChar_4cfef_0 0 rfl
theorem dJ1_indexOfChar_4cfef_1 : decode cJ1_indexOfChar_4cfef 1 = .ok (.i2b, 1) := zo_145 zh_cJ1_indexOfChar_4cfef_0 1 rfl
theorem dJ1_indexOfChar_4cfef_2 : decode cJ1_indexOfChar_4cfef 2 = .ok (.istore 4, 2) := zo_54 zh_cJ1_indexOfChar_4cfef_0 2 rfl
theorem dJ1_indexOfChar_4cfef_4 : decode cJ1_indexOfChar_4cfef 4 = .ok (.iload_n 2, 1) := zo_28 zh_cJ1_indexOfChar_4cfef_0 4 rfl
theorem dJ1_indexOfChar_4cfef_5 : decode cJ1_indexOfChar_4cfef 5 = .ok (.istore 5, 2) := zo_54 zh_cJ1_indexOfChar_4cfef_0 5 rfl
theorem dJ1_indexOfChar_4cfef_7 : decode cJ1_indexOfChar_4cfef 7 = .ok (.iload 5, 2) := zo_21 zh_cJ1_indexOfChar_4cfef_0 7 rfl
theorem dJ1_indexOfChar_4cfef_9 : decode cJ1_indexOfChar_4cfef 9 = .ok (.iload_n 3, 1) := zo_29 zh_cJ1_indexOfChar_4cfef_0 9 rfl
theorem dJ1_indexOfChar_4cfef_10 : decode cJ1_indexOfChar_4cfef 10 = .ok (.if_icmp .ge 21, 3) := zo_p162 zh_cJ1_indexOfChar_4cfef_0 10 21 rfl rfl
theorem dJ1_indexOfChar_4cfef_13 : decode cJ1_indexOfChar_4cfef 13 = .ok (.aload_n 0, 1) := zo_42 zh_cJ1_indexOfChar_4cfef_0 13 rfl
theorem dJ1_indexOfChar_4cfef_14 : decode cJ1_indexOfChar_4cfef 14 = .ok (.iload 5, 2) := zo_21 zh_cJ1_indexOfChar_4cfef_0 14 rfl
theorem dJ1_indexOfChar_4cfef_16 : decode cJ1_indexOfChar_4cfef 16 = .ok (.baload, 1) := zo_51 zh_cJ1_indexOfChar_4cfef_0 16 rfl
theorem dJ1_indexOfChar_4cfef_17 : decode cJ1_indexOfChar_4cfef 17 = .ok (.iload 4, 2) := zo_21 zh_cJ1_indexOfChar_4cfef_0 17 rfl
theorem dJ1_indexOfChar_4cfef_19 : decode cJ1_indexOfChar_4cfef 19 = .ok (.if_icmp .ne 6, 3) := zo_p160 zh_cJ1_indexOfChar_4cfef_0 19 6 rfl rfl
theorem zh_cJ1_indexOfChar_4cfef_1 : zck [0, 6, 21, 5, 172, 132, 5, 1, 167, 255, 235, 2, 172] (zdu 20 cJ1_indexOfChar_4cfef.data.toList) = true := by decide +kernel
theorem dJ1_indexOfChar_4cfef_22 : decode cJ1_indexOfChar_4cfef 22 = .ok (.iload 5, 2) := zo_21 zh_cJ1_indexOfChar_4cfef_1 2 rfl
theorem dJ1_indexOfChar_4cfef_24 : decode cJ1_indexOfChar_4cfef 24 = .ok (.ireturn, 1) := zo_172 zh_cJ1_indexOfChar_4cfef_1 4 rfl
theorem dJ1_indexOfChar_4cfef_25 : decode cJ1_indexOfChar_4cfef 25 = .ok (.iinc 5 1, 3) := zo_p132 zh_cJ1_indexOfChar_4cfef_1 5 1 rfl rfl
theorem dJ1_indexOfChar_4cfef_28 : decode cJ1_indexOfChar_4cfef 28 = .ok (.goto (-21), 3) := zo_n167 zh_cJ1_indexOfChar_4cfef_1 8 20 rfl rfl
theorem dJ1_indexOfChar_4cfef_31 : decode cJ1_indexOfChar_4cfef 31 = .ok (.iconst (-1), 1) := zo_2 zh_cJ1_indexOfChar_4cfef_1 11 rfl
theorem dJ1_indexOfChar_4cfef_32 : decode cJ1_indexOfChar_4cfef 32 = .ok (.ireturn, 1) := zo_172 zh_cJ1_indexOfChar_4cfef_1 12 rfl
abbrev z_J1_indexOfChar_4cfef : List Cond := .code yJ1_indexOfChar_4cfef cJ1_indexOfChar_4cfef 6 (some .int) :: zW
abbrev wl_J1_indexOfChar_4cfef (ad : Nat → Nat) (cs : Nat → ClassId)   : va_W := []
def Q_J1_indexOfChar_4cfef (D : va_G) (cs : Nat → ClassId) (ad : Nat → Nat)   (A : Nat → Prop) (R : Int32 × Unit) : Array Value → State → Outcome → State → Prop :=
  va_Qi (fun (r : Int32) (u : Unit) => (r, u) = R) (fun (u : Unit) (t : State) => va_P D classes (wl_J1_indexOfChar_4cfef ad cs ) t.heap ∧ va_D A (wl_J1_indexOfChar_4cfef ad cs )) A
abbrev rm_J1_indexOfChar_4cfef : Room := { frames := 0, cells := 0, slots := 0, locals := 0 }
def B_J1_indexOfChar_4cfef_7   (g7 : Nat → Int32 → Int32 → Int32 → (Option (Int32 × Unit)))  (i0 : Nat) (x3 : Int32) (x4 : Int32) (x5 : Int32) : Option (Int32 × Unit) :=
  (if x3 ≤ x5 then (some ((-1 : Int32), ())) else (if (x5 < 0 ∨ (zLen.getD i0 0) ≤ x5.toNatClampNeg) then none else (if ((zByt.getD i0 []).getD x5.toNatClampNeg 0) = x4 then (some (x5, ())) else (zk_let (x5 + (1 : Int32)) (fun v_5 => (g7 i0 x3 x4 v_5))))))
def B_J1_indexOfChar_4cfef_0   (g7 : Nat → Int32 → Int32 → Int32 → (Option (Int32 × Unit)))  (i0 : Nat) (x1 : Int32) (x2 : Int32) (x3 : Int32) : Option (Int32 × Unit) :=
  (zk_let (x1.toInt8.toInt32) (fun v_1 => (g7 i0 x3 v_1 x2)))
def G_J1_indexOfChar_4cfef    (n : Nat) : (Nat → Int32 → Int32 → Int32 → (Option (Int32 × Unit))) :=
  Nat.rec (motive := fun _ => (Nat → Int32 → Int32 → Int32 → (Option (Int32 × Unit)))) ((fun _ _ _ _ => none)) (fun _ ih => (B_J1_indexOfChar_4cfef_7   ih )) n
def f_J1_indexOfChar_4cfef   (n : Nat) (i0 : Nat) (x1 : Int32) (x2 : Int32) (x3 : Int32)  : Option (Int32 × Unit) := B_J1_indexOfChar_4cfef_0   ((G_J1_indexOfChar_4cfef    n))  i0 x1 x2 x3 
set_option maxHeartbeats 4000000 in
set_option maxRecDepth 100000 in
theorem L_J1_indexOfChar_4cfef_7 {p : Program} {l : Launch} {e : Env} {s : State} {m : MethodId} {args : Array Value} {below : List Frame} {meth : Method} {c : Code} {A : Nat → Prop} {D : va_G} {cs : Nat → ClassId} {ad : Nat → Nat} {R : Int32 × Unit} {g7 : Nat → Int32 → Int32 → Int32 → (Option (Int32 × Unit))} (C0 : zC p s m args meth c cJ1_indexOfChar_4cfef 6 (some .int) RJ1 zW) (hK : va_K D classes (zT cs) s) {k : (Nat → Nat) × (Nat → Nat)} (hO : zO s) (hE : zE k A s) {i0 : Nat} (hi0 : i0 < 5) (hA : ∀ q : Nat, s.heap.size ≤ q → A q) (ih7 : ∀ (x3 : Int32) (x4 : Int32) (x5 : Int32) (h : g7 i0 x3 x4 x5 = some R) (H : Heap) (locs : List Loc) (ls : Array Slot) (hP : va_P D classes (wl_J1_indexOfChar_4cfef ad cs ) H) (hD : va_D A (wl_J1_indexOfChar_4cfef ad cs )) (hS : va_S A s.heap H locs) (hl : lv_has ls 6 [(0, .ref (k.2 i0)), (3, .int x3), (4, .int x4), (5, .int x5)]), W p l e rm_J1_indexOfChar_4cfef s m args below meth c H locs 0 0 (MQ below (Q_J1_indexOfChar_4cfef D cs ad  A R) args s 0 0 A) (F0 m 7 ls [])) (x3 : Int32) (x4 : Int32) (x5 : Int32) (h : B_J1_indexOfChar_4cfef_7 g7 i0 x3 x4 x5 = some R) (H : Heap) (locs : List Loc) (ls : Array Slot) (hP : va_P D classes (wl_J1_indexOfChar_4cfef ad cs ) H) (hD : va_D A (wl_J1_indexOfChar_4cfef ad cs )) (hS : va_S A s.heap H locs) (hl : lv_has ls 6 [(0, .ref (k.2 i0)), (3, .int x3), (4, .int x4), (5, .int x5)]) : W p l e rm_J1_indexOfChar_4cfef s m args below meth c H locs 0 0 (MQ below (Q_J1_indexOfChar_4cfef D cs ad  A R) args s 0 0 A) (F0 m 7 ls []) := by
  obtain ⟨hx, hb, hr, hml, hown, ht, hlocks⟩ := id C0
  refine lv_iload hx hb dJ1_indexOfChar_4cfef_7 (lv_at hl 3 rfl) ?_
  refine lv_iload_n hx hb dJ1_indexOfChar_4cfef_9 rfl (lv_at hl 1 rfl) ?_
  refine lv_icmp_ge (tgt := 31) hx hb dJ1_indexOfChar_4cfef_10 (by decide) (fun c_2 => ?_) (fun c_2 => ?_)
  · have h := zk_t c_2 h
    refine lv_iconst (v := (-1 : Int32)) hx hb dJ1_indexOfChar_4cfef_31 (by decide) ?_
    exact W.iret (v := (-1 : Int32)) hx hb hr (fun t ht2 hW => ⟨⟨(-1 : Int32), (), rfl, Option.some.inj h, by rw [ht2]; exact hP, hD⟩, hS.F ht2⟩) hS.2.2 dJ1_indexOfChar_4cfef_32 hlocks
  · have h := zk_f c_2 h
    refine lv_aload_n hx hb dJ1_indexOfChar_4cfef_13 rfl (lv_at hl 0 rfl) ?_
    refine lv_iload hx hb dJ1_indexOfChar_4cfef_14 (lv_at hl 3 rfl) ?_
    obtain ⟨g_3, h⟩ := zk_gd h
    refine va_tb (v := .int ((zByt.getD i0 []).getD x5.toNatClampNeg 0)) hx hb (hE.1.1 i0 hi0).2.2.2 hS g_3 rfl dJ1_indexOfChar_4cfef_16 ?_
    refine lv_iload hx hb dJ1_indexOfChar_4cfef_17 (lv_at hl 2 rfl) ?_
    refine lv_icmp_ne (tgt := 25) hx hb dJ1_indexOfChar_4cfef_19 (by decide) (fun c_4 => ?_) (fun c_4 => ?_)
    · have h := zk_f c_4 h
      obtain ⟨v_5, ev_5, h⟩ := zk_lt h
      refine lv_iinc (v := v_5) (lv' := [(5, .int v_5), (0, .ref (k.2 i0)), (3, .int x3), (4, .int x4)]) hx hb dJ1_indexOfChar_4cfef_25 hl (k := 3) rfl (by rw [ev_5]; rfl) (by decide) rfl (fun ls hl => ?_)
      refine lv_goto (tgt := 7) hx hb dJ1_indexOfChar_4cfef_28 (by decide) ?_
      exact ih7 x3 x4 v_5 h H locs ls hP hD hS (lv_sub hl [1, 2, 3, 0] rfl)
    · have h := zk_t c_4 h
      refine lv_iload hx hb dJ1_indexOfChar_4cfef_22 (lv_at hl 3 rfl) ?_
      exact W.iret (v := x5) hx hb hr (fun t ht2 hW => ⟨⟨x5, (), rfl, Option.some.inj h, by rw [ht2]; exact hP, hD⟩, hS.F ht2⟩) hS.2.2 dJ1_indexOfChar_4cfef_24 hlocks
set_option maxHeartbeats 4000000 in
set_option maxRecDepth 100000 in
theorem L_J1_indexOfChar_4cfef_0 {p : Program} {l : Launch} {e : Env} {s : State} {m : MethodId} {args : Array Value} {below : List Frame} {meth : Method} {c : Code} {A : Nat → Prop} {D : va_G} {cs : Nat → ClassId} {ad : Nat → Nat} {R : Int32 × Unit} {g7 : Nat → Int32 → Int32 → Int32 → (Option (Int32 × Unit))} (C0 : zC p s m args meth c cJ1_indexOfChar_4cfef 6 (some .int) RJ1 zW) (hK : va_K D classes (zT cs) s) {k : (Nat → Nat) × (Nat → Nat)} (hO : zO s) (hE : zE k A s) {i0 : Nat} (hi0 : i0 < 5) (hA : ∀ q : Nat, s.heap.size ≤ q → A q) (ih7 : ∀ (x3 : Int32) (x4 : Int32) (x5 : Int32) (h : g7 i0 x3 x4 x5 = some R) (H : Heap) (locs : List Loc) (ls : Array Slot) (hP : va_P D classes (wl_J1_indexOfChar_4cfef ad cs ) H) (hD : va_D A (wl_J1_indexOfChar_4cfef ad cs )) (hS : va_S A s.heap H locs) (hl : lv_has ls 6 [(0, .ref (k.2 i0)), (3, .int x3), (4, .int x4), (5, .int x5)]), W p l e rm_J1_indexOfChar_4cfef s m args below meth c H locs 0 0 (MQ below (Q_J1_indexOfChar_4cfef D cs ad  A R) args s 0 0 A) (F0 m 7 ls [])) (x1 : Int32) (x2 : Int32) (x3 : Int32) (h : B_J1_indexOfChar_4cfef_0 g7 i0 x1 x2 x3 = some R) (H : Heap) (locs : List Loc) (ls : Array Slot) (hP : va_P D classes (wl_J1_indexOfChar_4cfef ad cs ) H) (hD : va_D A (wl_J1_indexOfChar_4cfef ad cs )) (hS : va_S A s.heap H locs) (hl : lv_has ls 6 [(0, .ref (k.2 i0)), (1, .int x1), (2, .int x2), (3, .int x3)]) : W p l e rm_J1_indexOfChar_4cfef s m args below meth c H locs 0 0 (MQ below (Q_J1_indexOfChar_4cfef D cs ad  A R) args s 0 0 A) (F0 m 0 ls []) := by
  obtain ⟨hx, hb, hr, hml, hown, ht, hlocks⟩ := id C0
  refine lv_iload_n hx hb dJ1_indexOfChar_4cfef_0 rfl (lv_at hl 1 rfl) ?_
  refine lv_i2b (v := x1.toInt8.toInt32) hx hb dJ1_indexOfChar_4cfef_1 rfl ?_
  obtain ⟨v_1, ev_1, h⟩ := zk_lt h
  refine W.eq (g2 := F0 m 2 ls [.int v_1]) (by rw [ev_1]) ?_
  refine lv_istore (lv' := [(4, .int v_1), (0, .ref (k.2 i0)), (1, .int x1), (2, .int x2), (3, .int x3)]) hx hb dJ1_indexOfChar_4cfef_2 hl (by decide) rfl (fun ls hl => ?_)
  refine lv_iload_n hx hb dJ1_indexOfChar_4cfef_4 rfl (lv_at hl 3 rfl) ?_
  refine lv_istore (lv' := [(5, .int x2), (4, .int v_1), (0, .ref (k.2 i0)), (1, .int x1), (2, .int x2), (3, .int x3)]) hx hb dJ1_indexOfChar_4cfef_5 hl (by decide) rfl (fun ls hl => ?_)
  exact ih7 x3 v_1 x2 h H locs ls hP hD hS (lv_sub hl [2, 5, 1, 0] rfl)
theorem LG_J1_indexOfChar_4cfef {p : Program} {l : Launch} {e : Env} {s : State} {m : MethodId} {args : Array Value} {below : List Frame} {meth : Method} {c : Code} {A : Nat → Prop} {D : va_G} {cs : Nat → ClassId} {ad : Nat → Nat} {R : Int32 × Unit} (C0 : zC p s m args meth c cJ1_indexOfChar_4cfef 6 (some .int) RJ1 zW) (hK : va_K D classes (zT cs) s) {k : (Nat → Nat) × (Nat → Nat)} (hO : zO s) (hE : zE k A s) {i0 : Nat} (hi0 : i0 < 5) (hA : ∀ q : Nat, s.heap.size ≤ q → A q) : ∀ n : Nat, (∀ (x3 : Int32) (x4 : Int32) (x5 : Int32) (h : (G_J1_indexOfChar_4cfef    n) i0 x3 x4 x5 = some R) (H : Heap) (locs : List Loc) (ls : Array Slot) (hP : va_P D classes (wl_J1_indexOfChar_4cfef ad cs ) H) (hD : va_D A (wl_J1_indexOfChar_4cfef ad cs )) (hS : va_S A s.heap H locs) (hl : lv_has ls 6 [(0, .ref (k.2 i0)), (3, .int x3), (4, .int x4), (5, .int x5)]), W p l e rm_J1_indexOfChar_4cfef s m args below meth c H locs 0 0 (MQ below (Q_J1_indexOfChar_4cfef D cs ad  A R) args s 0 0 A) (F0 m 7 ls [])) := by
  intro n
  induction n with
  | zero =>
    refine ?_ <;> (intros; rename_i h _ _ _ _ _ _ _; cases h)
  | succ n ih =>
    exact L_J1_indexOfChar_4cfef_7 C0 hK hO hE hi0 hA  ih
set_option maxHeartbeats 4000000 in
set_option maxRecDepth 100000 in
theorem c_J1_indexOfChar_4cfef (l : Launch) (D : va_G) (cs : Nat → ClassId) (ad : Nat → Nat) (k : (Nat → Nat) × (Nat → Nat)) (i0 : Nat) (hi0 : i0 < 5) (sz : Nat) (n : Nat) (x1 : Int32) (x2 : Int32) (x3 : Int32)  (R : Int32 × Unit) (h : f_J1_indexOfChar_4cfef   n i0 x1 x2 x3  = some R) : Met l yJ1_indexOfChar_4cfef (z_J1_indexOfChar_4cfef) rm_J1_indexOfChar_4cfef (va_Pc [.ref (k.2 i0), .int x1, .int x2, .int x3] (zPreE k D cs (wl_J1_indexOfChar_4cfef ad cs ) sz)) (Q_J1_indexOfChar_4cfef D cs ad  (va_A (wl_J1_indexOfChar_4cfef ad cs ) sz) R) 0 0 (va_A (wl_J1_indexOfChar_4cfef ad cs ) sz) := by
  refine Met.ofW (cc := cJ1_indexOfChar_4cfef) (maxL := 6) (ret := (some .int)) (by decide) rfl ?_
  intro p e s m args below meth c s₁ B hml hv
  obtain ⟨rfl, ⟨⟨hsz, hP, hK, hD0⟩, hO⟩, hE⟩ := hv
  subst hsz
  have hD := hD0.self (sz := s.heap.size)
  have C0 : zC p s m _ meth c cJ1_indexOfChar_4cfef 6 (some .int) RJ1 zW := ⟨B.exec, B.bytes, B.returns, hml, findClass_of_methodNamed B.named, fun w hw => atoms_spec (ws := z_J1_indexOfChar_4cfef) B.pre w (List.mem_cons_of_mem _ hw), B.notSynchronized⟩
  have hA : ∀ q : Nat, s.heap.size ≤ q → va_A (wl_J1_indexOfChar_4cfef ad cs ) s.heap.size q := fun q h => Or.inr h
  have hl := lv_entry ([.ref (k.2 i0), .int x1, .int x2, .int x3]) (n := 6) (Nat.le_of_ble_eq_true rfl)
  rw [lg_entry_eq]
  generalize (lg_sl ([.ref (k.2 i0), .int x1, .int x2, .int x3]) ++ List.replicate (6 - (lg_sl ([.ref (k.2 i0), .int x1, .int x2, .int x3])).length) Slot.unset).toArray = ls at hl ⊢
  exact L_J1_indexOfChar_4cfef_0 C0 hK hO hE hi0 hA  ((LG_J1_indexOfChar_4cfef C0 hK hO hE hi0 hA  n)) x1 x2 x3  h s.heap [] ls hP hD va_S.rf hl
theorem kw_599 : Cond.methodLink RJ1 88 yJ1_canEncode_9a6ad ∈ zW := zwC (i := 45) zc_3 rfl rfl
theorem kw_600 : Cond.static yJ1_canEncode_9a6ad ∈ zW := zwC (i := 46) zc_3 rfl rfl
theorem kw_601 : Cond.code yJ1_canEncode_9a6ad cJ1_canEncode_9a6ad 1 (some .boolean) ∈ zW := zwC (i := 47) zc_3 rfl rfl
theorem kw_602 : Cond.methodLink RJ1 92 Lib.Math.max.name ∈ zW := zwC (i := 48) zc_3 rfl rfl
theorem kw_605 : Cond.methodLink RJ1 38 Lib.Math.min.name ∈ zW := zwC (i := 51) zc_3 rfl rfl
theorem kw_608 : Cond.methodLink RJ1 95 yJ1_indexOfChar_4cfef ∈ zW := zwC (i := 54) zc_3 rfl rfl
theorem kw_609 : Cond.static yJ1_indexOfChar_4cfef ∈ zW := zwC (i := 55) zc_3 rfl rfl
theorem kw_610 : Cond.code yJ1_indexOfChar_4cfef cJ1_indexOfChar_4cfef 6 (some .int) ∈ zW := zwC (i := 56) zc_3 rfl rfl
theorem zh_cJ1_indexOf_4cfef_0 : zck [27, 184, 0, 88, 154, 0, 5, 2, 172, 28, 3, 184, 0, 92, 61, 29, 42, 190, 184, 0, 38, 62] (zdu 0 cJ1_indexOf_4cfef.data.toList) = true := by decide +kernel
theorem dJ1_indexOf_4cfef_0 : decode cJ1_indexOf_4cfef 0 = .ok (.iload_n 1, 1) := zo_27 zh_cJ1_indexOf_4cfef_0 0 rfl
theorem dJ1_indexOf_4cfef_1 : decode cJ1_indexOf_4cfef 1 = .ok (.invokestatic 88, 3) := zo_184 zh_cJ1_indexOf_4cfef_0 1 rfl
theorem dJ1_indexOf_4cfef_4 : decode cJ1_indexOf_4cfef 4 = .ok (.ifCond .ne 5, 3) := zo_p154 zh_cJ1_indexOf_4cfef_0 4 5 rfl rfl
theorem dJ1_indexOf_4cfef_7 : decode cJ1_indexOf_4cfef 7 = .ok (.iconst (-1), 1) := zo_2 zh_cJ1_indexOf_4cfef_0 7 rfl
theorem dJ1_indexOf_4cfef_8 : decode cJ1_indexOf_4cfef 8 = .ok (.ireturn, 1) := zo_172 zh_cJ1_indexOf_4cfef_0 8 rfl
theorem dJ1_indexOf_4cfef_9 : decode cJ1_indexOf_4cfef 9 = .ok (.iload_n 2, 1) := zo_28 zh_cJ1_indexOf_4cfef_0 9 rfl
theorem dJ1_indexOf_4cfef_10 : decode cJ1_indexOf_4cfef 10 = .ok (.iconst 0, 1) := zo_3 zh_cJ1_indexOf_4cfef_0 10 rfl
theorem dJ1_indexOf_4cfef_11 : decode cJ1_indexOf_4cfef 11 = .ok (.invokestatic 92, 3) := zo_184 zh_cJ1_indexOf_4cfef_0 11 rfl
theorem dJ1_indexOf_4cfef_14 : decode cJ1_indexOf_4cfef 14 = .ok (.istore_n 2, 1) := zo_61 zh_cJ1_indexOf_4cfef_0 14 rfl
theorem dJ1_indexOf_4cfef_15 : decode cJ1_indexOf_4cfef 15 = .ok (.iload_n 3, 1) := zo_29 zh_cJ1_indexOf_4cfef_0 15 rfl
theorem dJ1_indexOf_4cfef_16 : decode cJ1_indexOf_4cfef 16 = .ok (.aload_n 0, 1) := zo_42 zh_cJ1_indexOf_4cfef_0 16 rfl
theorem dJ1_indexOf_4cfef_17 : decode cJ1_indexOf_4cfef 17 = .ok (.arraylength, 1) := zo_190 zh_cJ1_indexOf_4cfef_0 17 rfl
theorem dJ1_indexOf_4cfef_18 : decode cJ1_indexOf_4cfef 18 = .ok (.invokestatic 38, 3) := zo_184 zh_cJ1_indexOf_4cfef_0 18 rfl
theorem zh_cJ1_indexOf_4cfef_1 : zck [38, 62, 28, 29, 161, 0, 5, 2, 172, 42, 27, 28, 29, 184, 0, 95, 172] (zdu 20 cJ1_indexOf_4cfef.data.toList) = true := by decide +kernel
theorem dJ1_indexOf_4cfef_21 : decode cJ1_indexOf_4cfef 21 = .ok (.istore_n 3, 1) := zo_62 zh_cJ1_indexOf_4cfef_1 1 rfl
theorem dJ1_indexOf_4cfef_22 : decode cJ1_indexOf_4cfef 22 = .ok (.iload_n 2, 1) := zo_28 zh_cJ1_indexOf_4cfef_1 2 rfl
theorem dJ1_indexOf_4cfef_23 : decode cJ1_indexOf_4cfef 23 = .ok (.iload_n 3, 1) := zo_29 zh_cJ1_indexOf_4cfef_1 3 rfl
theorem dJ1_indexOf_4cfef_24 : decode cJ1_indexOf_4cfef 24 = .ok (.if_icmp .lt 5, 3) := zo_p161 zh_cJ1_indexOf_4cfef_1 4 5 rfl rfl
theorem dJ1_indexOf_4cfef_27 : decode cJ1_indexOf_4cfef 27 = .ok (.iconst (-1), 1) := zo_2 zh_cJ1_indexOf_4cfef_1 7 rfl
theorem dJ1_indexOf_4cfef_28 : decode cJ1_indexOf_4cfef 28 = .ok (.ireturn, 1) := zo_172 zh_cJ1_indexOf_4cfef_1 8 rfl
theorem dJ1_indexOf_4cfef_29 : decode cJ1_indexOf_4cfef 29 = .ok (.aload_n 0, 1) := zo_42 zh_cJ1_indexOf_4cfef_1 9 rfl
theorem dJ1_indexOf_4cfef_30 : decode cJ1_indexOf_4cfef 30 = .ok (.iload_n 1, 1) := zo_27 zh_cJ1_indexOf_4cfef_1 10 rfl
theorem dJ1_indexOf_4cfef_31 : decode cJ1_indexOf_4cfef 31 = .ok (.iload_n 2, 1) := zo_28 zh_cJ1_indexOf_4cfef_1 11 rfl
theorem dJ1_indexOf_4cfef_32 : decode cJ1_indexOf_4cfef 32 = .ok (.iload_n 3, 1) := zo_29 zh_cJ1_indexOf_4cfef_1 12 rfl
theorem dJ1_indexOf_4cfef_33 : decode cJ1_indexOf_4cfef 33 = .ok (.invokestatic 95, 3) := zo_184 zh_cJ1_indexOf_4cfef_1 13 rfl
theorem dJ1_indexOf_4cfef_36 : decode cJ1_indexOf_4cfef 36 = .ok (.ireturn, 1) := zo_172 zh_cJ1_indexOf_4cfef_1 16 rfl
abbrev z_J1_indexOf_4cfef : List Cond := .code yJ1_indexOf_4cfef cJ1_indexOf_4cfef 4 (some .int) :: zW
abbrev wl_J1_indexOf_4cfef (ad : Nat → Nat) (cs : Nat → ClassId)   : va_W := []
def Q_J1_indexOf_4cfef (D : va_G) (cs : Nat → ClassId) (ad : Nat → Nat)   (A : Nat → Prop) (R : Int32 × Unit) : Array Value → State → Outcome → State → Prop :=
  va_Qi (fun (r : Int32) (u : Unit) => (r, u) = R) (fun (u : Unit) (t : State) => va_P D classes (wl_J1_indexOf_4cfef ad cs ) t.heap ∧ va_D A (wl_J1_indexOf_4cfef ad cs )) A
abbrev rm_J1_indexOf_4cfef : Room := { frames := 1, cells := 0, slots := 0, locals := 25 }
theorem g_J1_88 : GoodIn zW (va_wsS RJ1 88 yJ1_canEncode_9a6ad z_J1_canEncode_9a6ad) := zGS kw_599 kw_600 kw_86 kw_601
theorem g_J1_95 : GoodIn zW (va_wsS RJ1 95 yJ1_indexOfChar_4cfef z_J1_indexOfChar_4cfef) := zGS kw_608 kw_609 kw_86 kw_610
theorem hd_J1_canEncode_9a6ad : yJ1_canEncode_9a6ad.cls ≠ "java/lang/invoke/MethodHandle" ∧ yJ1_canEncode_9a6ad.cls ≠ "java/lang/invoke/VarHandle" ∧ (parseMethodDescriptor yJ1_canEncode_9a6ad.desc).map (fun d => d.parameters.length) = some 1 := by decide +kernel
theorem hd_J1_indexOfChar_4cfef : yJ1_indexOfChar_4cfef.cls ≠ "java/lang/invoke/MethodHandle" ∧ yJ1_indexOfChar_4cfef.cls ≠ "java/lang/invoke/VarHandle" ∧ (parseMethodDescriptor yJ1_indexOfChar_4cfef.desc).map (fun d => d.parameters.length) = some 4 := by decide +kernel
def B_J1_indexOf_4cfef_0     (i0 : Nat) (x1 : Int32) (x2 : Int32) (x3 : Int32) : Option (Int32 × Unit) :=
  (zk_b2 (f_J1_canEncode_9a6ad x1) (fun r_1 u_2 => (if r_1 = 0 then (some ((-1 : Int32), ())) else (zk_let (if x2 < (0 : Int32) then (0 : Int32) else x2) (fun v_5 => (zk_let (if (Int32.ofNat (zLen.getD i0 0)) < x3 then (Int32.ofNat (zLen.getD i0 0)) else x3) (fun v_6 => (if v_5 < v_6 then (zk_b2 (f_J1_indexOfChar_4cfef 100000 i0 x1 v_5 v_6) (fun r_8 u_9 => (some (r_8, ())))) else (some ((-1 : Int32), ()))))))))))
def f_J1_indexOf_4cfef   (i0 : Nat) (x1 : Int32) (x2 : Int32) (x3 : Int32)  : Option (Int32 × Unit) := B_J1_indexOf_4cfef_0    i0 x1 x2 x3 
set_option maxHeartbeats 4000000 in
set_option maxRecDepth 100000 in
theorem L_J1_indexOf_4cfef_0 {p : Program} {l : Launch} {e : Env} {s : State} {m : MethodId} {args : Array Value} {below : List Frame} {meth : Method} {c : Code} {A : Nat → Prop} {D : va_G} {cs : Nat → ClassId} {ad : Nat → Nat} {R : Int32 × Unit} (C0 : zC p s m args meth c cJ1_indexOf_4cfef 4 (some .int) RJ1 zW) (hK : va_K D classes (zT cs) s) {k : (Nat → Nat) × (Nat → Nat)} (hO : zO s) (hE : zE k A s) {i0 : Nat} (hi0 : i0 < 5) (hA : ∀ q : Nat, s.heap.size ≤ q → A q) (x1 : Int32) (x2 : Int32) (x3 : Int32) (h : B_J1_indexOf_4cfef_0 i0 x1 x2 x3 = some R) (H : Heap) (locs : List Loc) (ls : Array Slot) (hP : va_P D classes (wl_J1_indexOf_4cfef ad cs ) H) (hD : va_D A (wl_J1_indexOf_4cfef ad cs )) (hS : va_S A s.heap H locs) (hl : lv_has ls 4 [(0, .ref (k.2 i0)), (1, .int x1), (2, .int x2), (3, .int x3)]) : W p l e rm_J1_indexOf_4cfef s m args below meth c H locs 0 0 (MQ below (Q_J1_indexOf_4cfef D cs ad  A R) args s 0 0 A) (F0 m 0 ls []) := by
  obtain ⟨hx, hb, hr, hml, hown, ht, hlocks⟩ := id C0
  refine lv_iload_n hx hb dJ1_indexOf_4cfef_0 rfl (lv_at hl 1 rfl) ?_
  obtain ⟨r_1, u_2, hc_3, h⟩ := zk_o2 h
  refine zz_si (post := (fun r u => (r, u) = (r_1, u_2))) (w1 := fun u => (wl_J1_canEncode_9a6ad ad cs )) (As := [.int x1]) (rest := []) (c_J1_canEncode_9a6ad l D cs ad  H.size x1 (r_1, u_2) hc_3) ⟨hx, hb, hml, hown, ht⟩ (va_cwS 1 ht g_J1_88 rfl rfl rfl hd_J1_canEncode_9a6ad ⟨Nat.le_of_ble_eq_true rfl, Nat.le_of_ble_eq_true rfl⟩) hP hD hS hK hA [] rfl rfl [] rfl (fun _ => rfl) rfl hl.1 (Nat.le_of_ble_eq_true rfl) dJ1_indexOf_4cfef_1 ⟨Nat.zero_le _, Nat.zero_le _⟩ (fun r u H locs hq hP hS => ?_)
  cases hq
  have hP : va_P D classes (wl_J1_indexOf_4cfef ad cs ) H := hP
  refine lv_if_ne (tgt := 9) hx hb dJ1_indexOf_4cfef_4 (by decide) (fun c_4 => ?_) (fun c_4 => ?_)
  · have h := zk_f c_4 h
    refine lv_iload_n hx hb dJ1_indexOf_4cfef_9 rfl (lv_at hl 2 rfl) ?_
    refine lv_iconst (v := (0 : Int32)) hx hb dJ1_indexOf_4cfef_10 (by decide) ?_
    refine va_mmax hx hb (by rw [hml]; exact hl.1.symm) hown (ht _ kw_602) (ht _ kw_603) (ht _ kw_89) (ht _ kw_604) (Nat.le_of_ble_eq_true rfl) (Nat.le_of_ble_eq_true rfl) (Nat.le_of_ble_eq_true rfl) (Nat.le_of_ble_eq_true rfl) dJ1_indexOf_4cfef_11 ?_
    obtain ⟨v_5, ev_5, h⟩ := zk_lt h
    refine W.eq (g2 := F0 m 14 ls [.int v_5]) (by rw [ev_5]) ?_
    refine lv_istore_n (lv' := [(2, .int v_5), (0, .ref (k.2 i0)), (1, .int x1), (3, .int x3)]) hx hb dJ1_indexOf_4cfef_14 rfl hl (by decide) rfl (fun ls hl => ?_)
    refine lv_iload_n hx hb dJ1_indexOf_4cfef_15 rfl (lv_at hl 3 rfl) ?_
    refine lv_aload_n hx hb dJ1_indexOf_4cfef_16 rfl (lv_at hl 1 rfl) ?_
    refine va_tlen (v := Int32.ofNat (zLen.getD i0 0)) hx hb (hE.1.1 i0 hi0).2.2.2 hS rfl dJ1_indexOf_4cfef_17 ?_
    refine va_mmin hx hb (by rw [hml]; exact hl.1.symm) hown (ht _ kw_605) (ht _ kw_606) (ht _ kw_89) (ht _ kw_607) (Nat.le_of_ble_eq_true rfl) (Nat.le_of_ble_eq_true rfl) (Nat.le_of_ble_eq_true rfl) (Nat.le_of_ble_eq_true rfl) dJ1_indexOf_4cfef_18 ?_
    obtain ⟨v_6, ev_6, h⟩ := zk_lt h
    refine W.eq (g2 := F0 m 21 ls [.int v_6]) (by rw [ev_6]) ?_
    refine lv_istore_n (lv' := [(3, .int v_6), (2, .int v_5), (0, .ref (k.2 i0)), (1, .int x1)]) hx hb dJ1_indexOf_4cfef_21 rfl hl (by decide) rfl (fun ls hl => ?_)
    refine lv_iload_n hx hb dJ1_indexOf_4cfef_22 rfl (lv_at hl 1 rfl) ?_
    refine lv_iload_n hx hb dJ1_indexOf_4cfef_23 rfl (lv_at hl 0 rfl) ?_
    refine lv_icmp_lt (tgt := 29) hx hb dJ1_indexOf_4cfef_24 (by decide) (fun c_7 => ?_) (fun c_7 => ?_)
    · have h := zk_t c_7 h
      refine lv_aload_n hx hb dJ1_indexOf_4cfef_29 rfl (lv_at hl 2 rfl) ?_
      refine lv_iload_n hx hb dJ1_indexOf_4cfef_30 rfl (lv_at hl 3 rfl) ?_
      refine lv_iload_n hx hb dJ1_indexOf_4cfef_31 rfl (lv_at hl 1 rfl) ?_
      refine lv_iload_n hx hb dJ1_indexOf_4cfef_32 rfl (lv_at hl 0 rfl) ?_
      obtain ⟨r_8, u_9, hc_10, h⟩ := zk_o2 h
      refine zk_siE (post := (fun r u => (r, u) = (r_8, u_9))) (w1 := fun u => (wl_J1_indexOfChar_4cfef ad cs )) (As := [.ref (k.2 i0), .int x1, .int v_5, .int v_6]) (rest := []) hE hO (c_J1_indexOfChar_4cfef l D cs ad k i0 hi0 H.size 100000 x1 v_5 v_6 (r_8, u_9) hc_10) ⟨hx, hb, hml, hown, ht⟩ (va_cwS 4 ht g_J1_95 rfl rfl rfl hd_J1_indexOfChar_4cfef ⟨Nat.le_of_ble_eq_true rfl, Nat.le_of_ble_eq_true rfl⟩) hP hD hS hK hA [] [] rfl rfl rfl rfl (by decide) rfl hl.1 (Nat.le_of_ble_eq_true rfl) dJ1_indexOf_4cfef_33 ⟨Nat.zero_le _, Nat.zero_le _⟩ (fun r u H locs hq hP hD hS => ?_)
      cases hq
      have hP : va_P D classes (wl_J1_indexOf_4cfef ad cs ) H := hP.sub [] rfl
      have hD : va_D A (wl_J1_indexOf_4cfef ad cs ) := hD.sub [] rfl rfl
      exact W.iret (v := r_8) hx hb hr (fun t ht2 hW => ⟨⟨r_8, (), rfl, Option.some.inj h, by rw [ht2]; exact hP, hD⟩, hS.F ht2⟩) hS.2.2 dJ1_indexOf_4cfef_36 hlocks
    · have h := zk_f c_7 h
      refine lv_iconst (v := (-1 : Int32)) hx hb dJ1_indexOf_4cfef_27 (by decide) ?_
      exact W.iret (v := (-1 : Int32)) hx hb hr (fun t ht2 hW => ⟨⟨(-1 : Int32), (), rfl, Option.some.inj h, by rw [ht2]; exact hP, hD⟩, hS.F ht2⟩) hS.2.2 dJ1_indexOf_4cfef_28 hlocks
  · have h := zk_t c_4 h
    refine lv_iconst (v := (-1 : Int32)) hx hb dJ1_indexOf_4cfef_7 (by decide) ?_
    exact W.iret (v := (-1 : Int32)) hx hb hr (fun t ht2 hW => ⟨⟨(-1 : Int32), (), rfl, Option.some.inj h, by rw [ht2]; exact hP, hD⟩, hS.F ht2⟩) hS.2.2 dJ1_indexOf_4cfef_8 hlocks
set_option maxHeartbeats 4000000 in
set_option maxRecDepth 100000 in
theorem c_J1_indexOf_4cfef (l : Launch) (D : va_G) (cs : Nat → ClassId) (ad : Nat → Nat) (k : (Nat → Nat) × (Nat → Nat)) (i0 : Nat) (hi0 : i0 < 5) (sz : Nat) (x1 : Int32) (x2 : Int32) (x3 : Int32)  (R : Int32 × Unit) (h : f_J1_indexOf_4cfef   i0 x1 x2 x3  = some R) : Met l yJ1_indexOf_4cfef (z_J1_indexOf_4cfef) rm_J1_indexOf_4cfef (va_Pc [.ref (k.2 i0), .int x1, .int x2, .int x3] (zPreE k D cs (wl_J1_indexOf_4cfef ad cs ) sz)) (Q_J1_indexOf_4cfef D cs ad  (va_A (wl_J1_indexOf_4cfef ad cs ) sz) R) 0 0 (va_A (wl_J1_indexOf_4cfef ad cs ) sz) := by
  refine Met.ofW (cc := cJ1_indexOf_4cfef) (maxL := 4) (ret := (some .int)) (by decide) rfl ?_
  intro p e s m args below meth c s₁ B hml hv
  obtain ⟨rfl, ⟨⟨hsz, hP, hK, hD0⟩, hO⟩, hE⟩ := hv
  subst hsz
  have hD := hD0.self (sz := s.heap.size)
  have C0 : zC p s m _ meth c cJ1_indexOf_4cfef 4 (some .int) RJ1 zW := ⟨B.exec, B.bytes, B.returns, hml, findClass_of_methodNamed B.named, fun w hw => atoms_spec (ws := z_J1_indexOf_4cfef) B.pre w (List.mem_cons_of_mem _ hw), B.notSynchronized⟩
  have hA : ∀ q : Nat, s.heap.size ≤ q → va_A (wl_J1_indexOf_4cfef ad cs ) s.heap.size q := fun q h => Or.inr h
  have hl := lv_entry ([.ref (k.2 i0), .int x1, .int x2, .int x3]) (n := 4) (Nat.le_of_ble_eq_true rfl)
  rw [lg_entry_eq]
  generalize (lg_sl ([.ref (k.2 i0), .int x1, .int x2, .int x3]) ++ List.replicate (4 - (lg_sl ([.ref (k.2 i0), .int x1, .int x2, .int x3])).length) Slot.unset).toArray = ls at hl ⊢
  exact L_J1_indexOf_4cfef_0 C0 hK hO hE hi0 hA   x1 x2 x3  h s.heap [] ls hP hD va_S.rf hl
theorem kw_486 : Cond.instanceMethod yJ0_length_8abf5 ∈ zW := zwC (i := 172) zc_2 rfl rfl
theorem kw_487 : Cond.selects RJ0 yJ0_length_8abf5 yJ0_length_8abf5 ∈ zW := zwC (i := 173) zc_2 rfl rfl
theorem kw_488 : Cond.code yJ0_length_8abf5 cJ0_length_8abf5 1 (some .int) ∈ zW := zwC (i := 174) zc_2 rfl rfl
theorem kw_595 : Cond.methodLink RJ0 505 yJ0_length_8abf5 ∈ zW := zwC (i := 41) zc_3 rfl rfl
theorem kw_596 : Cond.methodLink RJ0 637 yJ1_indexOf_4cfef ∈ zW := zwC (i := 42) zc_3 rfl rfl
theorem kw_597 : Cond.static yJ1_indexOf_4cfef ∈ zW := zwC (i := 43) zc_3 rfl rfl
theorem kw_598 : Cond.code yJ1_indexOf_4cfef cJ1_indexOf_4cfef 4 (some .int) ∈ zW := zwC (i := 44) zc_3 rfl rfl
theorem zh_cJ0_indexOf_7cf53_0 : zck [42, 182, 1, 236, 153, 0, 19, 42, 180, 0, 9, 27, 28, 42, 182, 1, 249, 184, 2, 125, 167, 0] (zdu 0 cJ0_indexOf_7cf53.data.toList) = true := by decide +kernel
theorem dJ0_indexOf_7cf53_0 : decode cJ0_indexOf_7cf53 0 = .ok (.aload_n 0, 1) := zo_42 zh_cJ0_indexOf_7cf53_0 0 rfl
theorem dJ0_indexOf_7cf53_1 : decode cJ0_indexOf_7cf53 1 = .ok (.invokevirtual 492, 3) := zo_182 zh_cJ0_indexOf_7cf53_0 1 rfl
theorem dJ0_indexOf_7cf53_4 : decode cJ0_indexOf_7cf53 4 = .ok (.ifCond .eq 19, 3) := zo_p153 zh_cJ0_indexOf_7cf53_0 4 19 rfl rfl
theorem dJ0_indexOf_7cf53_7 : decode cJ0_indexOf_7cf53 7 = .ok (.aload_n 0, 1) := zo_42 zh_cJ0_indexOf_7cf53_0 7 rfl
theorem dJ0_indexOf_7cf53_8 : decode cJ0_indexOf_7cf53 8 = .ok (.getfield 9, 3) := zo_180 zh_cJ0_indexOf_7cf53_0 8 rfl
theorem dJ0_indexOf_7cf53_11 : decode cJ0_indexOf_7cf53 11 = .ok (.iload_n 1, 1) := zo_27 zh_cJ0_indexOf_7cf53_0 11 rfl
theorem dJ0_indexOf_7cf53_12 : decode cJ0_indexOf_7cf53 12 = .ok (.iload_n 2, 1) := zo_28 zh_cJ0_indexOf_7cf53_0 12 rfl
theorem dJ0_indexOf_7cf53_13 : decode cJ0_indexOf_7cf53 13 = .ok (.aload_n 0, 1) := zo_42 zh_cJ0_indexOf_7cf53_0 13 rfl
theorem dJ0_indexOf_7cf53_14 : decode cJ0_indexOf_7cf53 14 = .ok (.invokevirtual 505, 3) := zo_182 zh_cJ0_indexOf_7cf53_0 14 rfl
theorem dJ0_indexOf_7cf53_17 : decode cJ0_indexOf_7cf53 17 = .ok (.invokestatic 637, 3) := zo_184 zh_cJ0_indexOf_7cf53_0 17 rfl
theorem zh_cJ0_indexOf_7cf53_1 : zck [167, 0, 16, 42, 180, 0, 9, 27, 28, 42, 182, 1, 249, 184, 2, 128, 172] (zdu 20 cJ0_indexOf_7cf53.data.toList) = true := by decide +kernel
theorem dJ0_indexOf_7cf53_20 : decode cJ0_indexOf_7cf53 20 = .ok (.goto 16, 3) := zo_p167 zh_cJ0_indexOf_7cf53_1 0 16 rfl rfl
theorem dJ0_indexOf_7cf53_23 : decode cJ0_indexOf_7cf53 23 = .ok (.aload_n 0, 1) := zo_42 zh_cJ0_indexOf_7cf53_1 3 rfl
theorem dJ0_indexOf_7cf53_24 : decode cJ0_indexOf_7cf53 24 = .ok (.getfield 9, 3) := zo_180 zh_cJ0_indexOf_7cf53_1 4 rfl
theorem dJ0_indexOf_7cf53_27 : decode cJ0_indexOf_7cf53 27 = .ok (.iload_n 1, 1) := zo_27 zh_cJ0_indexOf_7cf53_1 7 rfl
theorem dJ0_indexOf_7cf53_28 : decode cJ0_indexOf_7cf53 28 = .ok (.iload_n 2, 1) := zo_28 zh_cJ0_indexOf_7cf53_1 8 rfl
theorem dJ0_indexOf_7cf53_29 : decode cJ0_indexOf_7cf53 29 = .ok (.aload_n 0, 1) := zo_42 zh_cJ0_indexOf_7cf53_1 9 rfl
theorem dJ0_indexOf_7cf53_30 : decode cJ0_indexOf_7cf53 30 = .ok (.invokevirtual 505, 3) := zo_182 zh_cJ0_indexOf_7cf53_1 10 rfl
theorem dJ0_indexOf_7cf53_36 : decode cJ0_indexOf_7cf53 36 = .ok (.ireturn, 1) := zo_172 zh_cJ0_indexOf_7cf53_1 16 rfl
abbrev z_J0_indexOf_7cf53 : List Cond := .code yJ0_indexOf_7cf53 cJ0_indexOf_7cf53 3 (some .int) :: zW
abbrev wl_J0_indexOf_7cf53 (ad : Nat → Nat) (cs : Nat → ClassId)   : va_W := []
def Q_J0_indexOf_7cf53 (D : va_G) (cs : Nat → ClassId) (ad : Nat → Nat)   (A : Nat → Prop) (R : Int32 × Unit) : Array Value → State → Outcome → State → Prop :=
  va_Qi (fun (r : Int32) (u : Unit) => (r, u) = R) (fun (u : Unit) (t : State) => va_P D classes (wl_J0_indexOf_7cf53 ad cs ) t.heap ∧ va_D A (wl_J0_indexOf_7cf53 ad cs )) A
abbrev rm_J0_indexOf_7cf53 : Room := { frames := 2, cells := 0, slots := 0, locals := 48 }
theorem g_J0_505 : GoodIn zW (wsV RJ0 505 RJ0 yJ0_length_8abf5 z_J0_length_8abf5) := zGV kw_595 kw_486 kw_487 kw_85 kw_488
theorem g_J0_637 : GoodIn zW (va_wsS RJ0 637 yJ1_indexOf_4cfef z_J1_indexOf_4cfef) := zGS kw_596 kw_597 kw_86 kw_598
theorem hd_J0_length_8abf5 : yJ0_length_8abf5.cls ≠ "java/lang/invoke/MethodHandle" ∧ yJ0_length_8abf5.cls ≠ "java/lang/invoke/VarHandle" ∧ (parseMethodDescriptor yJ0_length_8abf5.desc).map (fun d => d.parameters.length) = some 0 := by decide +kernel
theorem hd_J1_indexOf_4cfef : yJ1_indexOf_4cfef.cls ≠ "java/lang/invoke/MethodHandle" ∧ yJ1_indexOf_4cfef.cls ≠ "java/lang/invoke/VarHandle" ∧ (parseMethodDescriptor yJ1_indexOf_4cfef.desc).map (fun d => d.parameters.length) = some 4 := by decide +kernel
def B_J0_indexOf_7cf53_0     (i0 : Nat) (x1 : Int32) (x2 : Int32) : Option (Int32 × Unit) :=
  (zk_b2 (f_J0_isLatin1_aae02 i0) (fun r_1 u_2 => (if r_1 = 0 then (zk_b2 (f_J0_length_8abf5 i0) (fun r_5 u_6 => none)) else (zk_b2 (f_J0_length_8abf5 i0) (fun r_8 u_9 => (zk_b2 (f_J1_indexOf_4cfef i0 x1 x2 r_8) (fun r_11 u_12 => (some (r_11, ())))))))))
def f_J0_indexOf_7cf53   (i0 : Nat) (x1 : Int32) (x2 : Int32)  : Option (Int32 × Unit) := B_J0_indexOf_7cf53_0    i0 x1 x2 
set_option maxHeartbeats 4000000 in
set_option maxRecDepth 100000 in
theorem L_J0_indexOf_7cf53_0 {p : Program} {l : Launch} {e : Env} {s : State} {m : MethodId} {args : Array Value} {below : List Frame} {meth : Method} {c : Code} {A : Nat → Prop} {D : va_G} {cs : Nat → ClassId} {ad : Nat → Nat} {R : Int32 × Unit} (C0 : zC p s m args meth c cJ0_indexOf_7cf53 3 (some .int) RJ0 zW) (hK : va_K D classes (zT cs) s) {k : (Nat → Nat) × (Nat → Nat)} (hO : zO s) (hE : zE k A s) {i0 : Nat} (hi0 : i0 < 5) (hA : ∀ q : Nat, s.heap.size ≤ q → A q) (x1 : Int32) (x2 : Int32) (h : B_J0_indexOf_7cf53_0 i0 x1 x2 = some R) (H : Heap) (locs : List Loc) (ls : Array Slot) (hP : va_P D classes (wl_J0_indexOf_7cf53 ad cs ) H) (hD : va_D A (wl_J0_indexOf_7cf53 ad cs )) (hS : va_S A s.heap H locs) (hl : lv_has ls 3 [(0, .ref (k.1 i0)), (1, .int x1), (2, .int x2)]) : W p l e rm_J0_indexOf_7cf53 s m args below meth c H locs 0 0 (MQ below (Q_J0_indexOf_7cf53 D cs ad  A R) args s 0 0 A) (F0 m 0 ls []) := by
  obtain ⟨hx, hb, hr, hml, hown, ht, hlocks⟩ := id C0
  refine lv_aload_n hx hb dJ0_indexOf_7cf53_0 rfl (lv_at hl 0 rfl) ?_
  obtain ⟨r_1, u_2, hc_3, h⟩ := zk_o2 h
  refine zk_viE (post := (fun r u => (r, u) = (r_1, u_2))) (w1 := fun u => (wl_J0_isLatin1_aae02 ad cs )) (As := []) (rest := []) hE hO (c_J0_isLatin1_aae02 l D cs ad k i0 hi0 H.size  (r_1, u_2) hc_3) ⟨hx, hb, hml, hown, ht⟩ (cwV 0 ht g_J0_492 rfl rfl rfl ⟨rfl, hd_J0_isLatin1_aae02⟩ ⟨Nat.le_of_ble_eq_true rfl, Nat.le_of_ble_eq_true rfl⟩) (vk_recv hE.1 hi0 hS) hP hD hS hK hA [] [] rfl rfl rfl rfl (by decide) rfl hl.1 (Nat.le_of_ble_eq_true rfl) dJ0_indexOf_7cf53_1 ⟨Nat.zero_le _, Nat.zero_le _⟩ (fun r u H locs hq hP hD hS => ?_)
  cases hq
  have hP : va_P D classes (wl_J0_indexOf_7cf53 ad cs ) H := hP.sub [] rfl
  have hD : va_D A (wl_J0_indexOf_7cf53 ad cs ) := hD.sub [] rfl rfl
  refine lv_if_eq (tgt := 23) hx hb dJ0_indexOf_7cf53_4 (by decide) (fun c_4 => ?_) (fun c_4 => ?_)
  · have h := zk_t c_4 h
    refine lv_aload_n hx hb dJ0_indexOf_7cf53_23 rfl (lv_at hl 0 rfl) ?_
    refine vk_getf (v := .ref (k.2 i0)) hx hb (hE.1.1 i0 hi0).2.2.1 hS hown (ht _ kw_1903) (fun _ h9 => h9) dJ0_indexOf_7cf53_24 ?_
    refine lv_iload_n hx hb dJ0_indexOf_7cf53_27 rfl (lv_at hl 1 rfl) ?_
    refine lv_iload_n hx hb dJ0_indexOf_7cf53_28 rfl (lv_at hl 2 rfl) ?_
    refine lv_aload_n hx hb dJ0_indexOf_7cf53_29 rfl (lv_at hl 0 rfl) ?_
    obtain ⟨r_5, u_6, hc_7, h⟩ := zk_o2 h
    refine zk_viE (post := (fun r u => (r, u) = (r_5, u_6))) (w1 := fun u => (wl_J0_length_8abf5 ad cs )) (As := []) (rest := [.int x2, .int x1, .ref (k.2 i0)]) hE hO (c_J0_length_8abf5 l D cs ad k i0 hi0 H.size  (r_5, u_6) hc_7) ⟨hx, hb, hml, hown, ht⟩ (cwV 0 ht g_J0_505 rfl rfl rfl ⟨rfl, hd_J0_length_8abf5⟩ ⟨Nat.le_of_ble_eq_true rfl, Nat.le_of_ble_eq_true rfl⟩) (vk_recv hE.1 hi0 hS) hP hD hS hK hA [] [] rfl rfl rfl rfl (by decide) rfl hl.1 (Nat.le_of_ble_eq_true rfl) dJ0_indexOf_7cf53_30 ⟨Nat.zero_le _, Nat.zero_le _⟩ (fun r u H locs hq hP hD hS => ?_)
    cases hq
    have hP : va_P D classes (wl_J0_indexOf_7cf53 ad cs ) H := hP.sub [] rfl
    have hD : va_D A (wl_J0_indexOf_7cf53 ad cs ) := hD.sub [] rfl rfl
    cases h
  · have h := zk_f c_4 h
    refine lv_aload_n hx hb dJ0_indexOf_7cf53_7 rfl (lv_at hl 0 rfl) ?_
    refine vk_getf (v := .ref (k.2 i0)) hx hb (hE.1.1 i0 hi0).2.2.1 hS hown (ht _ kw_1903) (fun _ h9 => h9) dJ0_indexOf_7cf53_8 ?_
    refine lv_iload_n hx hb dJ0_indexOf_7cf53_11 rfl (lv_at hl 1 rfl) ?_
    refine lv_iload_n hx hb dJ0_indexOf_7cf53_12 rfl (lv_at hl 2 rfl) ?_
    refine lv_aload_n hx hb dJ0_indexOf_7cf53_13 rfl (lv_at hl 0 rfl) ?_
    obtain ⟨r_8, u_9, hc_10, h⟩ := zk_o2 h
    refine zk_viE (post := (fun r u => (r, u) = (r_8, u_9))) (w1 := fun u => (wl_J0_length_8abf5 ad cs )) (As := []) (rest := [.int x2, .int x1, .ref (k.2 i0)]) hE hO (c_J0_length_8abf5 l D cs ad k i0 hi0 H.size  (r_8, u_9) hc_10) ⟨hx, hb, hml, hown, ht⟩ (cwV 0 ht g_J0_505 rfl rfl rfl ⟨rfl, hd_J0_length_8abf5⟩ ⟨Nat.le_of_ble_eq_true rfl, Nat.le_of_ble_eq_true rfl⟩) (vk_recv hE.1 hi0 hS) hP hD hS hK hA [] [] rfl rfl rfl rfl (by decide) rfl hl.1 (Nat.le_of_ble_eq_true rfl) dJ0_indexOf_7cf53_14 ⟨Nat.zero_le _, Nat.zero_le _⟩ (fun r u H locs hq hP hD hS => ?_)
    cases hq
    have hP : va_P D classes (wl_J0_indexOf_7cf53 ad cs ) H := hP.sub [] rfl
    have hD : va_D A (wl_J0_indexOf_7cf53 ad cs ) := hD.sub [] rfl rfl
    obtain ⟨r_11, u_12, hc_13, h⟩ := zk_o2 h
    refine zk_siE (post := (fun r u => (r, u) = (r_11, u_12))) (w1 := fun u => (wl_J1_indexOf_4cfef ad cs )) (As := [.ref (k.2 i0), .int x1, .int x2, .int r_8]) (rest := []) hE hO (c_J1_indexOf_4cfef l D cs ad k i0 hi0 H.size x1 x2 r_8 (r_11, u_12) hc_13) ⟨hx, hb, hml, hown, ht⟩ (va_cwS 4 ht g_J0_637 rfl rfl rfl hd_J1_indexOf_4cfef ⟨Nat.le_of_ble_eq_true rfl, Nat.le_of_ble_eq_true rfl⟩) hP hD hS hK hA [] [] rfl rfl rfl rfl (by decide) rfl hl.1 (Nat.le_of_ble_eq_true rfl) dJ0_indexOf_7cf53_17 ⟨Nat.zero_le _, Nat.zero_le _⟩ (fun r u H locs hq hP hD hS => ?_)
    cases hq
    have hP : va_P D classes (wl_J0_indexOf_7cf53 ad cs ) H := hP.sub [] rfl
    have hD : va_D A (wl_J0_indexOf_7cf53 ad cs ) := hD.sub [] rfl rfl
    refine lv_goto (tgt := 36) hx hb dJ0_indexOf_7cf53_20 (by decide) ?_
    exact W.iret (v := r_11) hx hb hr (fun t ht2 hW => ⟨⟨r_11, (), rfl, Option.some.inj h, by rw [ht2]; exact hP, hD⟩, hS.F ht2⟩) hS.2.2 dJ0_indexOf_7cf53_36 hlocks
set_option maxHeartbeats 4000000 in
set_option maxRecDepth 100000 in
theorem c_J0_indexOf_7cf53 (l : Launch) (D : va_G) (cs : Nat → ClassId) (ad : Nat → Nat) (k : (Nat → Nat) × (Nat → Nat)) (i0 : Nat) (hi0 : i0 < 5) (sz : Nat) (x1 : Int32) (x2 : Int32)  (R : Int32 × Unit) (h : f_J0_indexOf_7cf53   i0 x1 x2  = some R) : Met l yJ0_indexOf_7cf53 (z_J0_indexOf_7cf53) rm_J0_indexOf_7cf53 (va_Pc [.ref (k.1 i0), .int x1, .int x2] (zPreE k D cs (wl_J0_indexOf_7cf53 ad cs ) sz)) (Q_J0_indexOf_7cf53 D cs ad  (va_A (wl_J0_indexOf_7cf53 ad cs ) sz) R) 0 0 (va_A (wl_J0_indexOf_7cf53 ad cs ) sz) := by
  refine Met.ofW (cc := cJ0_indexOf_7cf53) (maxL := 3) (ret := (some .int)) (by decide) rfl ?_
  intro p e s m args below meth c s₁ B hml hv
  obtain ⟨rfl, ⟨⟨hsz, hP, hK, hD0⟩, hO⟩, hE⟩ := hv
  subst hsz
  have hD := hD0.self (sz := s.heap.size)
  have C0 : zC p s m _ meth c cJ0_indexOf_7cf53 3 (some .int) RJ0 zW := ⟨B.exec, B.bytes, B.returns, hml, findClass_of_methodNamed B.named, fun w hw => atoms_spec (ws := z_J0_indexOf_7cf53) B.pre w (List.mem_cons_of_mem _ hw), B.notSynchronized⟩
  have hA : ∀ q : Nat, s.heap.size ≤ q → va_A (wl_J0_indexOf_7cf53 ad cs ) s.heap.size q := fun q h => Or.inr h
  have hl := lv_entry ([.ref (k.1 i0), .int x1, .int x2]) (n := 3) (Nat.le_of_ble_eq_true rfl)
  rw [lg_entry_eq]
  generalize (lg_sl ([.ref (k.1 i0), .int x1, .int x2]) ++ List.replicate (3 - (lg_sl ([.ref (k.1 i0), .int x1, .int x2])).length) Slot.unset).toArray = ls at hl ⊢
  exact L_J0_indexOf_7cf53_0 C0 hK hO hE hi0 hA   x1 x2  h s.heap [] ls hP hD va_S.rf hl
theorem kw_591 : Cond.methodLink RJ0 633 yJ0_indexOf_7cf53 ∈ zW := zwC (i := 37) zc_3 rfl rfl
theorem kw_592 : Cond.instanceMethod yJ0_indexOf_7cf53 ∈ zW := zwC (i := 38) zc_3 rfl rfl
theorem kw_593 : Cond.selects RJ0 yJ0_indexOf_7cf53 yJ0_indexOf_7cf53 ∈ zW := zwC (i := 39) zc_3 rfl rfl
theorem kw_594 : Cond.code yJ0_indexOf_7cf53 cJ0_indexOf_7cf53 3 (some .int) ∈ zW := zwC (i := 40) zc_3 rfl rfl
theorem zh_cJ0_indexOf_0f7a4_0 : zck [42, 27, 3, 182, 2, 121, 172] (zdu 0 cJ0_indexOf_0f7a4.data.toList) = true := by decide +kernel
theorem dJ0_indexOf_0f7a4_0 : decode cJ0_indexOf_0f7a4 0 = .ok (.aload_n 0, 1) := zo_42 zh_cJ0_indexOf_0f7a4_0 0 rfl
theorem dJ0_indexOf_0f7a4_1 : decode cJ0_indexOf_0f7a4 1 = .ok (.iload_n 1, 1) := zo_27 zh_cJ0_indexOf_0f7a4_0 1 rfl
theorem dJ0_indexOf_0f7a4_2 : decode cJ0_indexOf_0f7a4 2 = .ok (.iconst 0, 1) := zo_3 zh_cJ0_indexOf_0f7a4_0 2 rfl
theorem dJ0_indexOf_0f7a4_3 : decode cJ0_indexOf_0f7a4 3 = .ok (.invokevirtual 633, 3) := zo_182 zh_cJ0_indexOf_0f7a4_0 3 rfl
theorem dJ0_indexOf_0f7a4_6 : decode cJ0_indexOf_0f7a4 6 = .ok (.ireturn, 1) := zo_172 zh_cJ0_indexOf_0f7a4_0 6 rfl
abbrev z_J0_indexOf_0f7a4 : List Cond := .code yJ0_indexOf_0f7a4 cJ0_indexOf_0f7a4 2 (some .int) :: zW
abbrev wl_J0_indexOf_0f7a4 (ad : Nat → Nat) (cs : Nat → ClassId)   : va_W := []
def Q_J0_indexOf_0f7a4 (D : va_G) (cs : Nat → ClassId) (ad : Nat → Nat)   (A : Nat → Prop) (R : Int32 × Unit) : Array Value → State → Outcome → State → Prop :=
  va_Qi (fun (r : Int32) (u : Unit) => (r, u) = R) (fun (u : Unit) (t : State) => va_P D classes (wl_J0_indexOf_0f7a4 ad cs ) t.heap ∧ va_D A (wl_J0_indexOf_0f7a4 ad cs )) A
abbrev rm_J0_indexOf_0f7a4 : Room := { frames := 3, cells := 0, slots := 0, locals := 70 }
theorem g_J0_633 : GoodIn zW (wsV RJ0 633 RJ0 yJ0_indexOf_7cf53 z_J0_indexOf_7cf53) := zGV kw_591 kw_592 kw_593 kw_85 kw_594
theorem hd_J0_indexOf_7cf53 : yJ0_indexOf_7cf53.cls ≠ "java/lang/invoke/MethodHandle" ∧ yJ0_indexOf_7cf53.cls ≠ "java/lang/invoke/VarHandle" ∧ (parseMethodDescriptor yJ0_indexOf_7cf53.desc).map (fun d => d.parameters.length) = some 2 := by decide +kernel
def B_J0_indexOf_0f7a4_0     (i0 : Nat) (x1 : Int32) : Option (Int32 × Unit) :=
  (zk_b2 (f_J0_indexOf_7cf53 i0 x1 (0 : Int32)) (fun r_1 u_2 => (some (r_1, ()))))
def f_J0_indexOf_0f7a4   (i0 : Nat) (x1 : Int32)  : Option (Int32 × Unit) := B_J0_indexOf_0f7a4_0    i0 x1 
set_option maxHeartbeats 4000000 in
set_option maxRecDepth 100000 in
theorem L_J0_indexOf_0f7a4_0 {p : Program} {l : Launch} {e : Env} {s : State} {m : MethodId} {args : Array Value} {below : List Frame} {meth : Method} {c : Code} {A : Nat → Prop} {D : va_G} {cs : Nat → ClassId} {ad : Nat → Nat} {R : Int32 × Unit} (C0 : zC p s m args meth c cJ0_indexOf_0f7a4 2 (some .int) RJ0 zW) (hK : va_K D classes (zT cs) s) {k : (Nat → Nat) × (Nat → Nat)} (hO : zO s) (hE : zE k A s) {i0 : Nat} (hi0 : i0 < 5) (hA : ∀ q : Nat, s.heap.size ≤ q → A q) (x1 : Int32) (h : B_J0_indexOf_0f7a4_0 i0 x1 = some R) (H : Heap) (locs : List Loc) (ls : Array Slot) (hP : va_P D classes (wl_J0_indexOf_0f7a4 ad cs ) H) (hD : va_D A (wl_J0_indexOf_0f7a4 ad cs )) (hS : va_S A s.heap H locs) (hl : lv_has ls 2 [(0, .ref (k.1 i0)), (1, .int x1)]) : W p l e rm_J0_indexOf_0f7a4 s m args below meth c H locs 0 0 (MQ below (Q_J0_indexOf_0f7a4 D cs ad  A R) args s 0 0 A) (F0 m 0 ls []) := by
  obtain ⟨hx, hb, hr, hml, hown, ht, hlocks⟩ := id C0
  refine lv_aload_n hx hb dJ0_indexOf_0f7a4_0 rfl (lv_at hl 0 rfl) ?_
  refine lv_iload_n hx hb dJ0_indexOf_0f7a4_1 rfl (lv_at hl 1 rfl) ?_
  refine lv_iconst (v := (0 : Int32)) hx hb dJ0_indexOf_0f7a4_2 (by decide) ?_
  obtain ⟨r_1, u_2, hc_3, h⟩ := zk_o2 h
  refine zk_viE (post := (fun r u => (r, u) = (r_1, u_2))) (w1 := fun u => (wl_J0_indexOf_7cf53 ad cs )) (As := [.int x1, .int (0 : Int32)]) (rest := []) hE hO (c_J0_indexOf_7cf53 l D cs ad k i0 hi0 H.size x1 (0 : Int32) (r_1, u_2) hc_3) ⟨hx, hb, hml, hown, ht⟩ (cwV 2 ht g_J0_633 rfl rfl rfl ⟨rfl, hd_J0_indexOf_7cf53⟩ ⟨Nat.le_of_ble_eq_true rfl, Nat.le_of_ble_eq_true rfl⟩) (vk_recv hE.1 hi0 hS) hP hD hS hK hA [] [] rfl rfl rfl rfl (by decide) rfl hl.1 (Nat.le_of_ble_eq_true rfl) dJ0_indexOf_0f7a4_3 ⟨Nat.zero_le _, Nat.zero_le _⟩ (fun r u H locs hq hP hD hS => ?_)
  cases hq
  have hP : va_P D classes (wl_J0_indexOf_0f7a4 ad cs ) H := hP.sub [] rfl
  have hD : va_D A (wl_J0_indexOf_0f7a4 ad cs ) := hD.sub [] rfl rfl
  exact W.iret (v := r_1) hx hb hr (fun t ht2 hW => ⟨⟨r_1, (), rfl, Option.some.inj h, by rw [ht2]; exact hP, hD⟩, hS.F ht2⟩) hS.2.2 dJ0_indexOf_0f7a4_6 hlocks
set_option maxHeartbeats 4000000 in
set_option maxRecDepth 100000 in
theorem c_J0_indexOf_0f7a4 (l : Launch) (D : va_G) (cs : Nat → ClassId) (ad : Nat → Nat) (k : (Nat → Nat) × (Nat → Nat)) (i0 : Nat) (hi0 : i0 < 5) (sz : Nat) (x1 : Int32)  (R : Int32 × Unit) (h : f_J0_indexOf_0f7a4   i0 x1  = some R) : Met l yJ0_indexOf_0f7a4 (z_J0_indexOf_0f7a4) rm_J0_indexOf_0f7a4 (va_Pc [.ref (k.1 i0), .int x1] (zPreE k D cs (wl_J0_indexOf_0f7a4 ad cs ) sz)) (Q_J0_indexOf_0f7a4 D cs ad  (va_A (wl_J0_indexOf_0f7a4 ad cs ) sz) R) 0 0 (va_A (wl_J0_indexOf_0f7a4 ad cs ) sz) := by
  refine Met.ofW (cc := cJ0_indexOf_0f7a4) (maxL := 2) (ret := (some .int)) (by decide) rfl ?_
  intro p e s m args below meth c s₁ B hml hv
  obtain ⟨rfl, ⟨⟨hsz, hP, hK, hD0⟩, hO⟩, hE⟩ := hv
  subst hsz
  have hD := hD0.self (sz := s.heap.size)
  have C0 : zC p s m _ meth c cJ0_indexOf_0f7a4 2 (some .int) RJ0 zW := ⟨B.exec, B.bytes, B.returns, hml, findClass_of_methodNamed B.named, fun w hw => atoms_spec (ws := z_J0_indexOf_0f7a4) B.pre w (List.mem_cons_of_mem _ hw), B.notSynchronized⟩
  have hA : ∀ q : Nat, s.heap.size ≤ q → va_A (wl_J0_indexOf_0f7a4 ad cs ) s.heap.size q := fun q h => Or.inr h
  have hl := lv_entry ([.ref (k.1 i0), .int x1]) (n := 2) (Nat.le_of_ble_eq_true rfl)
  rw [lg_entry_eq]
  generalize (lg_sl ([.ref (k.1 i0), .int x1]) ++ List.replicate (2 - (lg_sl ([.ref (k.1 i0), .int x1])).length) Slot.unset).toArray = ls at hl ⊢
  exact L_J0_indexOf_0f7a4_0 C0 hK hO hE hi0 hA   x1  h s.heap [] ls hP hD va_S.rf hl
theorem kw_485 : Cond.methodLink RX9 19 yJ0_length_8abf5 ∈ zW := zwC (i := 171) zc_2 rfl rfl
theorem kw_495 : Cond.methodLink RX9 25 yJ0_charAt_5068e ∈ zW := zwC (i := 181) zc_2 rfl rfl
theorem kw_496 : Cond.instanceMethod yJ0_charAt_5068e ∈ zW := zwC (i := 182) zc_2 rfl rfl
theorem kw_497 : Cond.selects RJ0 yJ0_charAt_5068e yJ0_charAt_5068e ∈ zW := zwC (i := 183) zc_2 rfl rfl
theorem kw_498 : Cond.code yJ0_charAt_5068e cJ0_charAt_5068e 2 (some .char) ∈ zW := zwC (i := 184) zc_2 rfl rfl
theorem kw_533 : Cond.methodLink RX9 29 yX9_add ∈ zW := zwC (i := 219) zc_2 rfl rfl
theorem zh_cX9_write_0 : zck [42, 3, 181, 0, 15, 3, 61, 28, 43, 182, 0, 19, 162, 0, 18, 42, 43, 28, 182, 0, 25, 182] (zdu 0 cX9_write.data.toList) = true := by decide +kernel
theorem dX9_write_0 : decode cX9_write 0 = .ok (.aload_n 0, 1) := zo_42 zh_cX9_write_0 0 rfl
theorem dX9_write_1 : decode cX9_write 1 = .ok (.iconst 0, 1) := zo_3 zh_cX9_write_0 1 rfl
theorem dX9_write_2 : decode cX9_write 2 = .ok (.putfield 15, 3) := zo_181 zh_cX9_write_0 2 rfl
theorem dX9_write_5 : decode cX9_write 5 = .ok (.iconst 0, 1) := zo_3 zh_cX9_write_0 5 rfl
theorem dX9_write_6 : decode cX9_write 6 = .ok (.istore_n 2, 1) := zo_61 zh_cX9_write_0 6 rfl
theorem dX9_write_7 : decode cX9_write 7 = .ok (.iload_n 2, 1) := zo_28 zh_cX9_write_0 7 rfl
theorem dX9_write_8 : decode cX9_write 8 = .ok (.aload_n 1, 1) := zo_43 zh_cX9_write_0 8 rfl
theorem dX9_write_9 : decode cX9_write 9 = .ok (.invokevirtual 19, 3) := zo_182 zh_cX9_write_0 9 rfl
theorem dX9_write_12 : decode cX9_write 12 = .ok (.if_icmp .ge 18, 3) := zo_p162 zh_cX9_write_0 12 18 rfl rfl
theorem dX9_write_15 : decode cX9_write 15 = .ok (.aload_n 0, 1) := zo_42 zh_cX9_write_0 15 rfl
theorem dX9_write_16 : decode cX9_write 16 = .ok (.aload_n 1, 1) := zo_43 zh_cX9_write_0 16 rfl
theorem dX9_write_17 : decode cX9_write 17 = .ok (.iload_n 2, 1) := zo_28 zh_cX9_write_0 17 rfl
theorem dX9_write_18 : decode cX9_write 18 = .ok (.invokevirtual 25, 3) := zo_182 zh_cX9_write_0 18 rfl
theorem zh_cX9_write_1 : zck [25, 182, 0, 29, 132, 2, 1, 167, 255, 236, 177] (zdu 20 cX9_write.data.toList) = true := by decide +kernel
theorem dX9_write_21 : decode cX9_write 21 = .ok (.invokevirtual 29, 3) := zo_182 zh_cX9_write_1 1 rfl
theorem dX9_write_24 : decode cX9_write 24 = .ok (.iinc 2 1, 3) := zo_p132 zh_cX9_write_1 4 1 rfl rfl
theorem dX9_write_27 : decode cX9_write 27 = .ok (.goto (-20), 3) := zo_n167 zh_cX9_write_1 7 19 rfl rfl
theorem dX9_write_30 : decode cX9_write 30 = .ok (.return_, 1) := zo_177 zh_cX9_write_1 10 rfl
abbrev z_X9_write : List Cond := .code yX9_write cX9_write 3 none :: zW
abbrev wl_X9_write (ad : Nat → Nat) (cs : Nat → ClassId)  (tape_size : Int32) (tape_bytes : Nat → Int32) : va_W := [((ad 23), .inr (9, [.ref (ad 24), .int tape_size])), ((ad 24), .inl (cs 0, 120, .inl tape_bytes))]
def Q_X9_write (D : va_G) (cs : Nat → ClassId) (ad : Nat → Nat)   (A : Nat → Prop) (R : Int32 × (Nat → Int32)) : Array Value → State → Outcome → State → Prop :=
  va_Qv (fun u : Int32 × (Nat → Int32) => u = R) (fun (u : Int32 × (Nat → Int32)) (t : State) => va_P D classes (wl_X9_write ad cs u.1 u.2) t.heap ∧ va_D A (wl_X9_write ad cs u.1 u.2)) A
abbrev rm_X9_write : Room := { frames := 4, cells := 0, slots := 0, locals := 85 }
theorem g_X9_19 : GoodIn zW (wsV RX9 19 RJ0 yJ0_length_8abf5 z_J0_length_8abf5) := zGV kw_485 kw_486 kw_487 kw_85 kw_488
theorem g_X9_25 : GoodIn zW (wsV RX9 25 RJ0 yJ0_charAt_5068e z_J0_charAt_5068e) := zGV kw_495 kw_496 kw_497 kw_85 kw_498
theorem g_X9_29 : GoodIn zW (wsV RX9 29 RX9 yX9_add z_X9_add) := zGV kw_533 kw_534 kw_535 kw_78 kw_536
theorem hd_J0_charAt_5068e : yJ0_charAt_5068e.cls ≠ "java/lang/invoke/MethodHandle" ∧ yJ0_charAt_5068e.cls ≠ "java/lang/invoke/VarHandle" ∧ (parseMethodDescriptor yJ0_charAt_5068e.desc).map (fun d => d.parameters.length) = some 1 := by decide +kernel
def B_X9_write_7   (g7 : Nat → Int32 → Int32 → (Nat → Int32) → (Option (Int32 × (Nat → Int32))))  (i0 : Nat) (x2 : Int32) (tape_size : Int32) (tape_bytes : Nat → Int32) : Option (Int32 × (Nat → Int32)) :=
  (zk_b2 (f_J0_length_8abf5 i0) (fun r_1 u_2 => (if r_1 ≤ x2 then (some (tape_size, tape_bytes)) else (zk_b2 (f_J0_charAt_5068e i0 x2) (fun r_5 u_6 => (zk_b2 (f_X9_add r_5 tape_size tape_bytes) (fun u_8 u_9 => (zk_let (x2 + (1 : Int32)) (fun v_11 => (g7 i0 v_11 u_8 u_9))))))))))
def B_X9_write_0   (g7 : Nat → Int32 → Int32 → (Nat → Int32) → (Option (Int32 × (Nat → Int32))))  (i0 : Nat) (tape_size : Int32) (tape_bytes : Nat → Int32) : Option (Int32 × (Nat → Int32)) :=
  (g7 i0 (0 : Int32) (0 : Int32) tape_bytes)
def G_X9_write    (n : Nat) : (Nat → Int32 → Int32 → (Nat → Int32) → (Option (Int32 × (Nat → Int32)))) :=
  Nat.rec (motive := fun _ => (Nat → Int32 → Int32 → (Nat → Int32) → (Option (Int32 × (Nat → Int32))))) ((fun _ _ _ _ => none)) (fun _ ih => (B_X9_write_7   ih )) n
def f_X9_write   (n : Nat) (i0 : Nat) (tape_size : Int32) (tape_bytes : Nat → Int32) : Option (Int32 × (Nat → Int32)) := B_X9_write_0   ((G_X9_write    n))  i0 tape_size tape_bytes
set_option maxHeartbeats 4000000 in
set_option maxRecDepth 100000 in
theorem L_X9_write_7 {p : Program} {l : Launch} {e : Env} {s : State} {m : MethodId} {args : Array Value} {below : List Frame} {meth : Method} {c : Code} {A : Nat → Prop} {D : va_G} {cs : Nat → ClassId} {ad : Nat → Nat} {R : Int32 × (Nat → Int32)} {g7 : Nat → Int32 → Int32 → (Nat → Int32) → (Option (Int32 × (Nat → Int32)))} (C0 : zC p s m args meth c cX9_write 3 none RX9 zW) (hK : va_K D classes (zT cs) s) {k : (Nat → Nat) × (Nat → Nat)} (hO : zO s) (hE : zE k A s) {i0 : Nat} (hi0 : i0 < 5) (hA : ∀ q : Nat, s.heap.size ≤ q → A q) (ih7 : ∀ (x2 : Int32) (tape_size : Int32) (tape_bytes : Nat → Int32) (h : g7 i0 x2 tape_size tape_bytes = some R) (H : Heap) (locs : List Loc) (ls : Array Slot) (hP : va_P D classes (wl_X9_write ad cs tape_size tape_bytes) H) (hD : va_D A (wl_X9_write ad cs tape_size tape_bytes)) (hS : va_S A s.heap H locs) (hl : lv_has ls 3 [(0, .ref (ad 23)), (1, .ref (k.1 i0)), (2, .int x2)]), W p l e rm_X9_write s m args below meth c H locs 0 0 (MQ below (Q_X9_write D cs ad  A R) args s 0 0 A) (F0 m 7 ls [])) (x2 : Int32) (tape_size : Int32) (tape_bytes : Nat → Int32) (h : B_X9_write_7 g7 i0 x2 tape_size tape_bytes = some R) (H : Heap) (locs : List Loc) (ls : Array Slot) (hP : va_P D classes (wl_X9_write ad cs tape_size tape_bytes) H) (hD : va_D A (wl_X9_write ad cs tape_size tape_bytes)) (hS : va_S A s.heap H locs) (hl : lv_has ls 3 [(0, .ref (ad 23)), (1, .ref (k.1 i0)), (2, .int x2)]) : W p l e rm_X9_write s m args below meth c H locs 0 0 (MQ below (Q_X9_write D cs ad  A R) args s 0 0 A) (F0 m 7 ls []) := by
  obtain ⟨hx, hb, hr, hml, hown, ht, hlocks⟩ := id C0
  refine lv_iload_n hx hb dX9_write_7 rfl (lv_at hl 2 rfl) ?_
  refine lv_aload_n hx hb dX9_write_8 rfl (lv_at hl 1 rfl) ?_
  obtain ⟨r_1, u_2, hc_3, h⟩ := zk_o2 h
  refine zk_viE (post := (fun r u => (r, u) = (r_1, u_2))) (w1 := fun u => (wl_J0_length_8abf5 ad cs )) (As := []) (rest := [.int x2]) hE hO (c_J0_length_8abf5 l D cs ad k i0 hi0 H.size  (r_1, u_2) hc_3) ⟨hx, hb, hml, hown, ht⟩ (cwV 0 ht g_X9_19 rfl rfl rfl ⟨rfl, hd_J0_length_8abf5⟩ ⟨Nat.le_of_ble_eq_true rfl, Nat.le_of_ble_eq_true rfl⟩) (vk_recv hE.1 hi0 hS) hP hD hS hK hA [] [0, 1] rfl rfl rfl rfl (by decide) rfl hl.1 (Nat.le_of_ble_eq_true rfl) dX9_write_9 ⟨Nat.zero_le _, Nat.zero_le _⟩ (fun r u H locs hq hP hD hS => ?_)
  cases hq
  have hP : va_P D classes (wl_X9_write ad cs tape_size tape_bytes) H := hP.sub [0, 1] rfl
  have hD : va_D A (wl_X9_write ad cs tape_size tape_bytes) := hD.sub [0, 1] rfl rfl
  refine lv_icmp_ge (tgt := 30) hx hb dX9_write_12 (by decide) (fun c_4 => ?_) (fun c_4 => ?_)
  · have h := zk_t c_4 h
    exact W.vret hx hb hr (fun t ht2 hW => ⟨⟨(tape_size, tape_bytes), rfl, Option.some.inj h, by rw [ht2]; exact hP, hD⟩, hS.F ht2⟩) hS.2.2 dX9_write_30 hlocks
  · have h := zk_f c_4 h
    refine lv_aload_n hx hb dX9_write_15 rfl (lv_at hl 0 rfl) ?_
    refine lv_aload_n hx hb dX9_write_16 rfl (lv_at hl 1 rfl) ?_
    refine lv_iload_n hx hb dX9_write_17 rfl (lv_at hl 2 rfl) ?_
    obtain ⟨r_5, u_6, hc_7, h⟩ := zk_o2 h
    refine zk_viE (post := (fun r u => (r, u) = (r_5, u_6))) (w1 := fun u => (wl_J0_charAt_5068e ad cs )) (As := [.int x2]) (rest := [.ref (ad 23)]) hE hO (c_J0_charAt_5068e l D cs ad k i0 hi0 H.size x2 (r_5, u_6) hc_7) ⟨hx, hb, hml, hown, ht⟩ (cwV 1 ht g_X9_25 rfl rfl rfl ⟨rfl, hd_J0_charAt_5068e⟩ ⟨Nat.le_of_ble_eq_true rfl, Nat.le_of_ble_eq_true rfl⟩) (vk_recv hE.1 hi0 hS) hP hD hS hK hA [] [0, 1] rfl rfl rfl rfl (by decide) rfl hl.1 (Nat.le_of_ble_eq_true rfl) dX9_write_18 ⟨Nat.zero_le _, Nat.zero_le _⟩ (fun r u H locs hq hP hD hS => ?_)
    cases hq
    have hP : va_P D classes (wl_X9_write ad cs tape_size tape_bytes) H := hP.sub [0, 1] rfl
    have hD : va_D A (wl_X9_write ad cs tape_size tape_bytes) := hD.sub [0, 1] rfl rfl
    obtain ⟨u_8, u_9, hc_10, h⟩ := zk_o2 h
    refine zz_vv (post := (fun u => u = (u_8, u_9))) (w1 := fun u => (wl_X9_add ad cs u.1 u.2)) (As := [.int r_5]) (rest := []) (c_X9_add l D cs ad  H.size r_5 tape_size tape_bytes (u_8, u_9) hc_10) ⟨hx, hb, hml, hown, ht⟩ (cwV 1 ht g_X9_29 rfl rfl rfl ⟨rfl, hd_X9_add⟩ ⟨Nat.le_of_ble_eq_true rfl, Nat.le_of_ble_eq_true rfl⟩) (va_recv hK hP (ci := 9) (q0 := 0) rfl rfl) hP hD hS hK hA [0, 1] rfl rfl [(ad 23), (ad 24)] rfl (fun _ => rfl) rfl hl.1 (Nat.le_of_ble_eq_true rfl) dX9_write_21 ⟨Nat.zero_le _, Nat.zero_le _⟩ (fun u H locs hq hP hS => ?_)
    cases hq
    have hP : va_P D classes (wl_X9_write ad cs u_8 u_9) H := hP
    have hD : va_D A (wl_X9_write ad cs u_8 u_9) := zDk hD [(ad 23), (ad 24)] rfl rfl
    obtain ⟨v_11, ev_11, h⟩ := zk_lt h
    refine lv_iinc (v := v_11) (lv' := [(2, .int v_11), (0, .ref (ad 23)), (1, .ref (k.1 i0))]) hx hb dX9_write_24 hl (k := 2) rfl (by rw [ev_11]; rfl) (by decide) rfl (fun ls hl => ?_)
    refine lv_goto (tgt := 7) hx hb dX9_write_27 (by decide) ?_
    exact ih7 v_11 u_8 u_9 h H locs ls hP hD hS (lv_sub hl [1, 2, 0] rfl)
set_option maxHeartbeats 4000000 in
set_option maxRecDepth 100000 in
theorem L_X9_write_0 {p : Program} {l : Launch} {e : Env} {s : State} {m : MethodId} {args : Array Value} {below : List Frame} {meth : Method} {c : Code} {A : Nat → Prop} {D : va_G} {cs : Nat → ClassId} {ad : Nat → Nat} {R : Int32 × (Nat → Int32)} {g7 : Nat → Int32 → Int32 → (Nat → Int32) → (Option (Int32 × (Nat → Int32)))} (C0 : zC p s m args meth c cX9_write 3 none RX9 zW) (hK : va_K D classes (zT cs) s) {k : (Nat → Nat) × (Nat → Nat)} (hO : zO s) (hE : zE k A s) {i0 : Nat} (hi0 : i0 < 5) (hA : ∀ q : Nat, s.heap.size ≤ q → A q) (ih7 : ∀ (x2 : Int32) (tape_size : Int32) (tape_bytes : Nat → Int32) (h : g7 i0 x2 tape_size tape_bytes = some R) (H : Heap) (locs : List Loc) (ls : Array Slot) (hP : va_P D classes (wl_X9_write ad cs tape_size tape_bytes) H) (hD : va_D A (wl_X9_write ad cs tape_size tape_bytes)) (hS : va_S A s.heap H locs) (hl : lv_has ls 3 [(0, .ref (ad 23)), (1, .ref (k.1 i0)), (2, .int x2)]), W p l e rm_X9_write s m args below meth c H locs 0 0 (MQ below (Q_X9_write D cs ad  A R) args s 0 0 A) (F0 m 7 ls [])) (tape_size : Int32) (tape_bytes : Nat → Int32) (h : B_X9_write_0 g7 i0 tape_size tape_bytes = some R) (H : Heap) (locs : List Loc) (ls : Array Slot) (hP : va_P D classes (wl_X9_write ad cs tape_size tape_bytes) H) (hD : va_D A (wl_X9_write ad cs tape_size tape_bytes)) (hS : va_S A s.heap H locs) (hl : lv_has ls 3 [(0, .ref (ad 23)), (1, .ref (k.1 i0))]) : W p l e rm_X9_write s m args below meth c H locs 0 0 (MQ below (Q_X9_write D cs ad  A R) args s 0 0 A) (F0 m 0 ls []) := by
  obtain ⟨hx, hb, hr, hml, hown, ht, hlocks⟩ := id C0
  refine lv_aload_n hx hb dX9_write_0 rfl (lv_at hl 0 rfl) ?_
  refine lv_iconst (v := (0 : Int32)) hx hb dX9_write_1 (by decide) ?_
  refine va_put (D := D) (ci := 9) (v := .int (0 : Int32)) (ty := .int) (C := RX9) (T := TX9) (N := 2) hx hb ht iX9 tyX9 tyX9_ok nmX9 hown hK hP hD hS 0 rfl rfl 1 (by decide) (ht _ kw_237) (fun _ h9 => h9) rfl (by decide +kernel) rfl rfl (Nat.le_of_ble_eq_true rfl) dX9_write_2 (fun H locs hP hD hS => ?_)
  have hP : va_P D classes (wl_X9_write ad cs (0 : Int32) tape_bytes) H := hP
  have hD : va_D A (wl_X9_write ad cs (0 : Int32) tape_bytes) := hD
  refine lv_iconst (v := (0 : Int32)) hx hb dX9_write_5 (by decide) ?_
  refine lv_istore_n (lv' := [(2, .int (0 : Int32)), (0, .ref (ad 23)), (1, .ref (k.1 i0))]) hx hb dX9_write_6 rfl hl (by decide) rfl (fun ls hl => ?_)
  exact ih7 (0 : Int32) (0 : Int32) tape_bytes h H locs ls hP hD hS (lv_sub hl [1, 2, 0] rfl)
theorem LG_X9_write {p : Program} {l : Launch} {e : Env} {s : State} {m : MethodId} {args : Array Value} {below : List Frame} {meth : Method} {c : Code} {A : Nat → Prop} {D : va_G} {cs : Nat → ClassId} {ad : Nat → Nat} {R : Int32 × (Nat → Int32)} (C0 : zC p s m args meth c cX9_write 3 none RX9 zW) (hK : va_K D classes (zT cs) s) {k : (Nat → Nat) × (Nat → Nat)} (hO : zO s) (hE : zE k A s) {i0 : Nat} (hi0 : i0 < 5) (hA : ∀ q : Nat, s.heap.size ≤ q → A q) : ∀ n : Nat, (∀ (x2 : Int32) (tape_size : Int32) (tape_bytes : Nat → Int32) (h : (G_X9_write    n) i0 x2 tape_size tape_bytes = some R) (H : Heap) (locs : List Loc) (ls : Array Slot) (hP : va_P D classes (wl_X9_write ad cs tape_size tape_bytes) H) (hD : va_D A (wl_X9_write ad cs tape_size tape_bytes)) (hS : va_S A s.heap H locs) (hl : lv_has ls 3 [(0, .ref (ad 23)), (1, .ref (k.1 i0)), (2, .int x2)]), W p l e rm_X9_write s m args below meth c H locs 0 0 (MQ below (Q_X9_write D cs ad  A R) args s 0 0 A) (F0 m 7 ls [])) := by
  intro n
  induction n with
  | zero =>
    refine ?_ <;> (intros; rename_i h _ _ _ _ _ _ _; cases h)
  | succ n ih =>
    exact L_X9_write_7 C0 hK hO hE hi0 hA  ih
set_option maxHeartbeats 4000000 in
set_option maxRecDepth 100000 in
theorem c_X9_write (l : Launch) (D : va_G) (cs : Nat → ClassId) (ad : Nat → Nat) (k : (Nat → Nat) × (Nat → Nat)) (i0 : Nat) (hi0 : i0 < 5) (sz : Nat) (n : Nat)  (tape_size : Int32) (tape_bytes : Nat → Int32) (R : Int32 × (Nat → Int32)) (h : f_X9_write   n i0 tape_size tape_bytes = some R) : Met l yX9_write (z_X9_write) rm_X9_write (va_Pc [.ref (ad 23), .ref (k.1 i0)] (zPreE k D cs (wl_X9_write ad cs tape_size tape_bytes) sz)) (Q_X9_write D cs ad  (va_A (wl_X9_write ad cs tape_size tape_bytes) sz) R) 0 0 (va_A (wl_X9_write ad cs tape_size tape_bytes) sz) := by
  refine Met.ofW (cc := cX9_write) (maxL := 3) (ret := none) (by decide) rfl ?_
  intro p e s m args below meth c s₁ B hml hv
  obtain ⟨rfl, ⟨⟨hsz, hP, hK, hD0⟩, hO⟩, hE⟩ := hv
  subst hsz
  have hD := hD0.self (sz := s.heap.size)
  have C0 : zC p s m _ meth c cX9_write 3 none RX9 zW := ⟨B.exec, B.bytes, B.returns, hml, findClass_of_methodNamed B.named, fun w hw => atoms_spec (ws := z_X9_write) B.pre w (List.mem_cons_of_mem _ hw), B.notSynchronized⟩
  have hA : ∀ q : Nat, s.heap.size ≤ q → va_A (wl_X9_write ad cs tape_size tape_bytes) s.heap.size q := fun q h => Or.inr h
  have hl := lv_entry ([.ref (ad 23), .ref (k.1 i0)]) (n := 3) (Nat.le_of_ble_eq_true rfl)
  rw [lg_entry_eq]
  generalize (lg_sl ([.ref (ad 23), .ref (k.1 i0)]) ++ List.replicate (3 - (lg_sl ([.ref (ad 23), .ref (k.1 i0)])).length) Slot.unset).toArray = ls at hl ⊢
  exact L_X9_write_0 C0 hK hO hE hi0 hA  ((LG_X9_write C0 hK hO hE hi0 hA  n))  tape_size tape_bytes h s.heap [] ls hP hD va_S.rf hl
theorem kw_274 : Cond.fieldLink RX5 15 "AlreadyJudged$LawReader" "tape" "LAlreadyJudged$Tape;" ∈ zW := zwC (i := 200) zc_1 rfl rfl
theorem kw_277 : Cond.fieldLink RX5 19 "AlreadyJudged$LawReader" "at" "I" ∈ zW := zwC (i := 203) zc_1 rfl rfl
theorem kw_278 : Cond.fieldLink RX5 26 "AlreadyJudged$LawReader" "fault" "I" ∈ zW := zwC (i := 204) zc_1 rfl rfl
theorem kw_553 : Cond.methodLink RX5 68 yX9_byteAt ∈ zW := zwC (i := 239) zc_2 rfl rfl
theorem zh_cX5_accept_0 : zck [42, 180, 0, 26, 156, 0, 18, 42, 180, 0, 15, 42, 180, 0, 19, 182, 0, 68, 27, 159, 0, 5] (zdu 0 cX5_accept.data.toList) = true := by decide +kernel
theorem dX5_accept_0 : decode cX5_accept 0 = .ok (.aload_n 0, 1) := zo_42 zh_cX5_accept_0 0 rfl
theorem dX5_accept_1 : decode cX5_accept 1 = .ok (.getfield 26, 3) := zo_180 zh_cX5_accept_0 1 rfl
theorem dX5_accept_4 : decode cX5_accept 4 = .ok (.ifCond .ge 18, 3) := zo_p156 zh_cX5_accept_0 4 18 rfl rfl
theorem dX5_accept_7 : decode cX5_accept 7 = .ok (.aload_n 0, 1) := zo_42 zh_cX5_accept_0 7 rfl
theorem dX5_accept_8 : decode cX5_accept 8 = .ok (.getfield 15, 3) := zo_180 zh_cX5_accept_0 8 rfl
theorem dX5_accept_11 : decode cX5_accept 11 = .ok (.aload_n 0, 1) := zo_42 zh_cX5_accept_0 11 rfl
theorem dX5_accept_12 : decode cX5_accept 12 = .ok (.getfield 19, 3) := zo_180 zh_cX5_accept_0 12 rfl
theorem dX5_accept_15 : decode cX5_accept 15 = .ok (.invokevirtual 68, 3) := zo_182 zh_cX5_accept_0 15 rfl
theorem dX5_accept_18 : decode cX5_accept 18 = .ok (.iload_n 1, 1) := zo_27 zh_cX5_accept_0 18 rfl
theorem dX5_accept_19 : decode cX5_accept 19 = .ok (.if_icmp .eq 5, 3) := zo_p159 zh_cX5_accept_0 19 5 rfl rfl
theorem zh_cX5_accept_1 : zck [0, 5, 3, 172, 42, 89, 180, 0, 19, 4, 96, 181, 0, 19, 4, 172] (zdu 20 cX5_accept.data.toList) = true := by decide +kernel
theorem dX5_accept_22 : decode cX5_accept 22 = .ok (.iconst 0, 1) := zo_3 zh_cX5_accept_1 2 rfl
theorem dX5_accept_23 : decode cX5_accept 23 = .ok (.ireturn, 1) := zo_172 zh_cX5_accept_1 3 rfl
theorem dX5_accept_24 : decode cX5_accept 24 = .ok (.aload_n 0, 1) := zo_42 zh_cX5_accept_1 4 rfl
theorem dX5_accept_25 : decode cX5_accept 25 = .ok (.dup, 1) := zo_89 zh_cX5_accept_1 5 rfl
theorem dX5_accept_26 : decode cX5_accept 26 = .ok (.getfield 19, 3) := zo_180 zh_cX5_accept_1 6 rfl
theorem dX5_accept_29 : decode cX5_accept 29 = .ok (.iconst 1, 1) := zo_4 zh_cX5_accept_1 9 rfl
theorem dX5_accept_30 : decode cX5_accept 30 = .ok (.iadd, 1) := zo_96 zh_cX5_accept_1 10 rfl
theorem dX5_accept_31 : decode cX5_accept 31 = .ok (.putfield 19, 3) := zo_181 zh_cX5_accept_1 11 rfl
theorem dX5_accept_34 : decode cX5_accept 34 = .ok (.iconst 1, 1) := zo_4 zh_cX5_accept_1 14 rfl
theorem dX5_accept_35 : decode cX5_accept 35 = .ok (.ireturn, 1) := zo_172 zh_cX5_accept_1 15 rfl
abbrev z_X5_accept : List Cond := .code yX5_accept cX5_accept 2 (some .boolean) :: zW
abbrev wl_X5_accept (ad : Nat → Nat) (cs : Nat → ClassId)  (tape_size : Int32) (tape_bytes : Nat → Int32) (lr_size : Int32) (lr_at : Int32) (lr_fault : Int32) : va_W := [((ad 23), .inr (9, [.ref (ad 24), .int tape_size])), ((ad 24), .inl (cs 0, 120, .inl tape_bytes)), ((ad 26), .inr (5, [.ref (ad 23), .ref (ad 27), .int lr_size, .int lr_at, .int lr_fault]))]
def Q_X5_accept (D : va_G) (cs : Nat → ClassId) (ad : Nat → Nat)  (tape_size : Int32) (tape_bytes : Nat → Int32) (lr_size : Int32) (lr_fault : Int32) (A : Nat → Prop) (R : Int32 × Int32) : Array Value → State → Outcome → State → Prop :=
  va_Qi (fun (r : Int32) (u : Int32) => (r, u) = R) (fun (u : Int32) (t : State) => va_P D classes (wl_X5_accept ad cs tape_size tape_bytes lr_size u lr_fault) t.heap ∧ va_D A (wl_X5_accept ad cs tape_size tape_bytes lr_size u lr_fault)) A
abbrev rm_X5_accept : Room := { frames := 1, cells := 0, slots := 0, locals := 21 }
theorem g_X5_68 : GoodIn zW (wsV RX5 68 RX9 yX9_byteAt z_X9_byteAt) := zGV kw_553 kw_554 kw_555 kw_78 kw_556
def B_X5_accept_0    (tape_size : Int32) (tape_bytes : Nat → Int32) (lr_size : Int32) (lr_fault : Int32) (x1 : Int32) (lr_at : Int32) : Option (Int32 × Int32) :=
  (if 0 ≤ lr_fault then (some ((0 : Int32), lr_at)) else (zk_b2 (f_X9_byteAt lr_at tape_size tape_bytes) (fun r_2 u_3 => (if r_2 = x1 then (zk_let (lr_at + (1 : Int32)) (fun v_6 => (some ((1 : Int32), v_6)))) else (some ((0 : Int32), lr_at))))))
def f_X5_accept   (x1 : Int32) (tape_size : Int32) (tape_bytes : Nat → Int32) (lr_size : Int32) (lr_at : Int32) (lr_fault : Int32) : Option (Int32 × Int32) := B_X5_accept_0   tape_size tape_bytes lr_size lr_fault x1 lr_at
set_option maxHeartbeats 4000000 in
set_option maxRecDepth 100000 in
theorem L_X5_accept_0 {p : Program} {l : Launch} {e : Env} {s : State} {m : MethodId} {args : Array Value} {below : List Frame} {meth : Method} {c : Code} {A : Nat → Prop} {D : va_G} {cs : Nat → ClassId} {ad : Nat → Nat} {tape_size : Int32} {tape_bytes : Nat → Int32} {lr_size : Int32} {lr_fault : Int32} {R : Int32 × Int32} (C0 : zC p s m args meth c cX5_accept 2 (some .boolean) RX5 zW) (hK : va_K D classes (zT cs) s) (hA : ∀ q : Nat, s.heap.size ≤ q → A q) (x1 : Int32) (lr_at : Int32) (h : B_X5_accept_0 tape_size tape_bytes lr_size lr_fault x1 lr_at = some R) (H : Heap) (locs : List Loc) (ls : Array Slot) (hP : va_P D classes (wl_X5_accept ad cs tape_size tape_bytes lr_size lr_at lr_fault) H) (hD : va_D A (wl_X5_accept ad cs tape_size tape_bytes lr_size lr_at lr_fault)) (hS : va_S A s.heap H locs) (hl : lv_has ls 2 [(0, .ref (ad 26)), (1, .int x1)]) : W p l e rm_X5_accept s m args below meth c H locs 0 0 (MQ below (Q_X5_accept D cs ad tape_size tape_bytes lr_size lr_fault A R) args s 0 0 A) (F0 m 0 ls []) := by
  obtain ⟨hx, hb, hr, hml, hown, ht, hlocks⟩ := id C0
  refine lv_aload_n hx hb dX5_accept_0 rfl (lv_at hl 0 rfl) ?_
  refine va_get (D := D) (ci := 5) (v := .int lr_fault) (C := RX5) (T := TX5) (N := 5) hx hb ht iX5 hown hK hP 2 rfl rfl 4 (by decide) (ht _ kw_278) (fun _ h9 => h9) rfl dX5_accept_1 ?_
  refine lv_if_ge (tgt := 22) hx hb dX5_accept_4 (by decide) (fun c_1 => ?_) (fun c_1 => ?_)
  · have h := zk_t c_1 h
    refine lv_iconst (v := (0 : Int32)) hx hb dX5_accept_22 (by decide) ?_
    exact W.zret (ty := .boolean) (v := (0 : Int32)) hx hb hr rfl (fun t ht2 hW => ⟨⟨(0 : Int32), lr_at, rfl, Option.some.inj h, by rw [ht2]; exact hP, hD⟩, hS.F ht2⟩) hS.2.2 dX5_accept_23 hlocks
  · have h := zk_f c_1 h
    refine lv_aload_n hx hb dX5_accept_7 rfl (lv_at hl 0 rfl) ?_
    refine va_get (D := D) (ci := 5) (v := .ref (ad 23)) (C := RX5) (T := TX5) (N := 5) hx hb ht iX5 hown hK hP 2 rfl rfl 0 (by decide) (ht _ kw_274) (fun _ h9 => h9) rfl dX5_accept_8 ?_
    refine lv_aload_n hx hb dX5_accept_11 rfl (lv_at hl 0 rfl) ?_
    refine va_get (D := D) (ci := 5) (v := .int lr_at) (C := RX5) (T := TX5) (N := 5) hx hb ht iX5 hown hK hP 2 rfl rfl 3 (by decide) (ht _ kw_277) (fun _ h9 => h9) rfl dX5_accept_12 ?_
    obtain ⟨r_2, u_3, hc_4, h⟩ := zk_o2 h
    refine zz_vi (post := (fun r u => (r, u) = (r_2, u_3))) (w1 := fun u => (wl_X9_byteAt ad cs tape_size tape_bytes)) (As := [.int lr_at]) (rest := []) (c_X9_byteAt l D cs ad  H.size lr_at tape_size tape_bytes (r_2, u_3) hc_4) ⟨hx, hb, hml, hown, ht⟩ (cwV 1 ht g_X5_68 rfl rfl rfl ⟨rfl, hd_X9_byteAt⟩ ⟨Nat.le_of_ble_eq_true rfl, Nat.le_of_ble_eq_true rfl⟩) (va_recv hK hP (ci := 9) (q0 := 0) rfl rfl) hP hD hS hK hA [0, 1] rfl rfl [(ad 23), (ad 24)] rfl (fun _ => rfl) rfl hl.1 (Nat.le_of_ble_eq_true rfl) dX5_accept_15 ⟨Nat.zero_le _, Nat.zero_le _⟩ (fun r u H locs hq hP hS => ?_)
    cases hq
    have hP : va_P D classes (wl_X5_accept ad cs tape_size tape_bytes lr_size lr_at lr_fault) H := hP
    have hD : va_D A (wl_X5_accept ad cs tape_size tape_bytes lr_size lr_at lr_fault) := zDk hD [(ad 23), (ad 24), (ad 26)] rfl rfl
    refine lv_iload_n hx hb dX5_accept_18 rfl (lv_at hl 1 rfl) ?_
    refine lv_icmp_eq (tgt := 24) hx hb dX5_accept_19 (by decide) (fun c_5 => ?_) (fun c_5 => ?_)
    · have h := zk_t c_5 h
      refine lv_aload_n hx hb dX5_accept_24 rfl (lv_at hl 0 rfl) ?_
      refine lv_dup hx hb dX5_accept_25 rfl ?_
      refine va_get (D := D) (ci := 5) (v := .int lr_at) (C := RX5) (T := TX5) (N := 5) hx hb ht iX5 hown hK hP 2 rfl rfl 3 (by decide) (ht _ kw_277) (fun _ h9 => h9) rfl dX5_accept_26 ?_
      refine lv_iconst (v := (1 : Int32)) hx hb dX5_accept_29 (by decide) ?_
      refine lv_iadd hx hb dX5_accept_30 ?_
      obtain ⟨v_6, ev_6, h⟩ := zk_lt h
      refine W.eq (g2 := F0 m 31 ls [.int v_6, .ref (ad 26)]) (by rw [ev_6]) ?_
      refine va_put (D := D) (ci := 5) (v := .int v_6) (ty := .int) (C := RX5) (T := TX5) (N := 5) hx hb ht iX5 tyX5 tyX5_ok nmX5 hown hK hP hD hS 2 rfl rfl 3 (by decide) (ht _ kw_277) (fun _ h9 => h9) rfl (by decide +kernel) rfl rfl (Nat.le_of_ble_eq_true rfl) dX5_accept_31 (fun H locs hP hD hS => ?_)
      have hP : va_P D classes (wl_X5_accept ad cs tape_size tape_bytes lr_size v_6 lr_fault) H := hP
      have hD : va_D A (wl_X5_accept ad cs tape_size tape_bytes lr_size v_6 lr_fault) := hD
      refine lv_iconst (v := (1 : Int32)) hx hb dX5_accept_34 (by decide) ?_
      exact W.zret (ty := .boolean) (v := (1 : Int32)) hx hb hr rfl (fun t ht2 hW => ⟨⟨(1 : Int32), v_6, rfl, Option.some.inj h, by rw [ht2]; exact hP, hD⟩, hS.F ht2⟩) hS.2.2 dX5_accept_35 hlocks
    · have h := zk_f c_5 h
      refine lv_iconst (v := (0 : Int32)) hx hb dX5_accept_22 (by decide) ?_
      exact W.zret (ty := .boolean) (v := (0 : Int32)) hx hb hr rfl (fun t ht2 hW => ⟨⟨(0 : Int32), lr_at, rfl, Option.some.inj h, by rw [ht2]; exact hP, hD⟩, hS.F ht2⟩) hS.2.2 dX5_accept_23 hlocks
set_option maxHeartbeats 4000000 in
set_option maxRecDepth 100000 in
theorem c_X5_accept (l : Launch) (D : va_G) (cs : Nat → ClassId) (ad : Nat → Nat) (sz : Nat) (x1 : Int32) (tape_size : Int32) (tape_bytes : Nat → Int32) (lr_size : Int32) (lr_at : Int32) (lr_fault : Int32) (R : Int32 × Int32) (h : f_X5_accept   x1 tape_size tape_bytes lr_size lr_at lr_fault = some R) : Met l yX5_accept (z_X5_accept) rm_X5_accept (va_Pc [.ref (ad 26), .int x1] (zPre D cs (wl_X5_accept ad cs tape_size tape_bytes lr_size lr_at lr_fault) sz)) (Q_X5_accept D cs ad tape_size tape_bytes lr_size lr_fault (va_A (wl_X5_accept ad cs tape_size tape_bytes lr_size lr_at lr_fault) sz) R) 0 0 (va_A (wl_X5_accept ad cs tape_size tape_bytes lr_size lr_at lr_fault) sz) := by
  refine Met.ofW (cc := cX5_accept) (maxL := 2) (ret := (some .boolean)) (by decide) rfl ?_
  intro p e s m args below meth c s₁ B hml hv
  obtain ⟨rfl, hsz, hP, hK, hD0⟩ := hv
  subst hsz
  have hD := hD0.self (sz := s.heap.size)
  have C0 : zC p s m _ meth c cX5_accept 2 (some .boolean) RX5 zW := ⟨B.exec, B.bytes, B.returns, hml, findClass_of_methodNamed B.named, fun w hw => atoms_spec (ws := z_X5_accept) B.pre w (List.mem_cons_of_mem _ hw), B.notSynchronized⟩
  have hA : ∀ q : Nat, s.heap.size ≤ q → va_A (wl_X5_accept ad cs tape_size tape_bytes lr_size lr_at lr_fault) s.heap.size q := fun q h => Or.inr h
  have hl := lv_entry ([.ref (ad 26), .int x1]) (n := 2) (Nat.le_of_ble_eq_true rfl)
  rw [lg_entry_eq]
  generalize (lg_sl ([.ref (ad 26), .int x1]) ++ List.replicate (2 - (lg_sl ([.ref (ad 26), .int x1])).length) Slot.unset).toArray = ls at hl ⊢
  exact L_X5_accept_0 C0 hK hA   x1 lr_at h s.heap [] ls hP hD va_S.rf hl
theorem zh_cX5_fail_0 : zck [42, 180, 0, 26, 156, 0, 11, 42, 42, 180, 0, 19, 181, 0, 26, 177] (zdu 0 cX5_fail.data.toList) = true := by decide +kernel
theorem dX5_fail_0 : decode cX5_fail 0 = .ok (.aload_n 0, 1) := zo_42 zh_cX5_fail_0 0 rfl
theorem dX5_fail_1 : decode cX5_fail 1 = .ok (.getfield 26, 3) := zo_180 zh_cX5_fail_0 1 rfl
theorem dX5_fail_4 : decode cX5_fail 4 = .ok (.ifCond .ge 11, 3) := zo_p156 zh_cX5_fail_0 4 11 rfl rfl
theorem dX5_fail_7 : decode cX5_fail 7 = .ok (.aload_n 0, 1) := zo_42 zh_cX5_fail_0 7 rfl
theorem dX5_fail_8 : decode cX5_fail 8 = .ok (.aload_n 0, 1) := zo_42 zh_cX5_fail_0 8 rfl
theorem dX5_fail_9 : decode cX5_fail 9 = .ok (.getfield 19, 3) := zo_180 zh_cX5_fail_0 9 rfl
theorem dX5_fail_12 : decode cX5_fail 12 = .ok (.putfield 26, 3) := zo_181 zh_cX5_fail_0 12 rfl
theorem dX5_fail_15 : decode cX5_fail 15 = .ok (.return_, 1) := zo_177 zh_cX5_fail_0 15 rfl
abbrev z_X5_fail : List Cond := .code yX5_fail cX5_fail 1 none :: zW
abbrev wl_X5_fail (ad : Nat → Nat) (cs : Nat → ClassId)  (lr_size : Int32) (lr_at : Int32) (lr_fault : Int32) : va_W := [((ad 26), .inr (5, [.ref (ad 23), .ref (ad 27), .int lr_size, .int lr_at, .int lr_fault]))]
def Q_X5_fail (D : va_G) (cs : Nat → ClassId) (ad : Nat → Nat)  (lr_size : Int32) (lr_at : Int32) (A : Nat → Prop) (R : Int32) : Array Value → State → Outcome → State → Prop :=
  va_Qv (fun u : Int32 => u = R) (fun (u : Int32) (t : State) => va_P D classes (wl_X5_fail ad cs lr_size lr_at u) t.heap ∧ va_D A (wl_X5_fail ad cs lr_size lr_at u)) A
abbrev rm_X5_fail : Room := { frames := 0, cells := 0, slots := 0, locals := 0 }
def B_X5_fail_0    (lr_size : Int32) (lr_at : Int32) (lr_fault : Int32) : Option (Int32) :=
  (if 0 ≤ lr_fault then (some lr_fault) else (some lr_at))
def f_X5_fail    (lr_size : Int32) (lr_at : Int32) (lr_fault : Int32) : Option (Int32) := B_X5_fail_0   lr_size lr_at  lr_fault
set_option maxHeartbeats 4000000 in
set_option maxRecDepth 100000 in
theorem L_X5_fail_0 {p : Program} {l : Launch} {e : Env} {s : State} {m : MethodId} {args : Array Value} {below : List Frame} {meth : Method} {c : Code} {A : Nat → Prop} {D : va_G} {cs : Nat → ClassId} {ad : Nat → Nat} {lr_size : Int32} {lr_at : Int32} {R : Int32} (C0 : zC p s m args meth c cX5_fail 1 none RX5 zW) (hK : va_K D classes (zT cs) s) (hA : ∀ q : Nat, s.heap.size ≤ q → A q) (lr_fault : Int32) (h : B_X5_fail_0 lr_size lr_at lr_fault = some R) (H : Heap) (locs : List Loc) (ls : Array Slot) (hP : va_P D classes (wl_X5_fail ad cs lr_size lr_at lr_fault) H) (hD : va_D A (wl_X5_fail ad cs lr_size lr_at lr_fault)) (hS : va_S A s.heap H locs) (hl : lv_has ls 1 [(0, .ref (ad 26))]) : W p l e rm_X5_fail s m args below meth c H locs 0 0 (MQ below (Q_X5_fail D cs ad lr_size lr_at A R) args s 0 0 A) (F0 m 0 ls []) := by
  obtain ⟨hx, hb, hr, hml, hown, ht, hlocks⟩ := id C0
  refine lv_aload_n hx hb dX5_fail_0 rfl (lv_at hl 0 rfl) ?_
  refine va_get (D := D) (ci := 5) (v := .int lr_fault) (C := RX5) (T := TX5) (N := 5) hx hb ht iX5 hown hK hP 0 rfl rfl 4 (by decide) (ht _ kw_278) (fun _ h9 => h9) rfl dX5_fail_1 ?_
  refine lv_if_ge (tgt := 15) hx hb dX5_fail_4 (by decide) (fun c_1 => ?_) (fun c_1 => ?_)
  · have h := zk_t c_1 h
    exact W.vret hx hb hr (fun t ht2 hW => ⟨⟨lr_fault, rfl, Option.some.inj h, by rw [ht2]; exact hP, hD⟩, hS.F ht2⟩) hS.2.2 dX5_fail_15 hlocks
  · have h := zk_f c_1 h
    refine lv_aload_n hx hb dX5_fail_7 rfl (lv_at hl 0 rfl) ?_
    refine lv_aload_n hx hb dX5_fail_8 rfl (lv_at hl 0 rfl) ?_
    refine va_get (D := D) (ci := 5) (v := .int lr_at) (C := RX5) (T := TX5) (N := 5) hx hb ht iX5 hown hK hP 0 rfl rfl 3 (by decide) (ht _ kw_277) (fun _ h9 => h9) rfl dX5_fail_9 ?_
    refine va_put (D := D) (ci := 5) (v := .int lr_at) (ty := .int) (C := RX5) (T := TX5) (N := 5) hx hb ht iX5 tyX5 tyX5_ok nmX5 hown hK hP hD hS 0 rfl rfl 4 (by decide) (ht _ kw_278) (fun _ h9 => h9) rfl (by decide +kernel) rfl rfl (Nat.le_of_ble_eq_true rfl) dX5_fail_12 (fun H locs hP hD hS => ?_)
    have hP : va_P D classes (wl_X5_fail ad cs lr_size lr_at lr_at) H := hP
    have hD : va_D A (wl_X5_fail ad cs lr_size lr_at lr_at) := hD
    exact W.vret hx hb hr (fun t ht2 hW => ⟨⟨lr_at, rfl, Option.some.inj h, by rw [ht2]; exact hP, hD⟩, hS.F ht2⟩) hS.2.2 dX5_fail_15 hlocks
set_option maxHeartbeats 4000000 in
set_option maxRecDepth 100000 in
theorem c_X5_fail (l : Launch) (D : va_G) (cs : Nat → ClassId) (ad : Nat → Nat) (sz : Nat)  (lr_size : Int32) (lr_at : Int32) (lr_fault : Int32) (R : Int32) (h : f_X5_fail    lr_size lr_at lr_fault = some R) : Met l yX5_fail (z_X5_fail) rm_X5_fail (va_Pc [.ref (ad 26)] (zPre D cs (wl_X5_fail ad cs lr_size lr_at lr_fault) sz)) (Q_X5_fail D cs ad lr_size lr_at (va_A (wl_X5_fail ad cs lr_size lr_at lr_fault) sz) R) 0 0 (va_A (wl_X5_fail ad cs lr_size lr_at lr_fault) sz) := by
  refine Met.ofW (cc := cX5_fail) (maxL := 1) (ret := none) (by decide) rfl ?_
  intro p e s m args below meth c s₁ B hml hv
  obtain ⟨rfl, hsz, hP, hK, hD0⟩ := hv
  subst hsz
  have hD := hD0.self (sz := s.heap.size)
  have C0 : zC p s m _ meth c cX5_fail 1 none RX5 zW := ⟨B.exec, B.bytes, B.returns, hml, findClass_of_methodNamed B.named, fun w hw => atoms_spec (ws := z_X5_fail) B.pre w (List.mem_cons_of_mem _ hw), B.notSynchronized⟩
  have hA : ∀ q : Nat, s.heap.size ≤ q → va_A (wl_X5_fail ad cs lr_size lr_at lr_fault) s.heap.size q := fun q h => Or.inr h
  have hl := lv_entry ([.ref (ad 26)]) (n := 1) (Nat.le_of_ble_eq_true rfl)
  rw [lg_entry_eq]
  generalize (lg_sl ([.ref (ad 26)]) ++ List.replicate (1 - (lg_sl ([.ref (ad 26)])).length) Slot.unset).toArray = ls at hl ⊢
  exact L_X5_fail_0 C0 hK hA    lr_fault h s.heap [] ls hP hD va_S.rf hl
theorem kw_275 : Cond.fieldLink RX5 9 "AlreadyJudged$LawReader" "code" "[I" ∈ zW := zwC (i := 201) zc_1 rfl rfl
theorem kw_276 : Cond.fieldLink RX5 23 "AlreadyJudged$LawReader" "size" "I" ∈ zW := zwC (i := 202) zc_1 rfl rfl
theorem zh_cX5_emit_0 : zck [42, 180, 0, 26, 156, 0, 35, 42, 180, 0, 23, 42, 180, 0, 9, 190, 162, 0, 23, 42, 180, 0] (zdu 0 cX5_emit.data.toList) = true := by decide +kernel
theorem dX5_emit_0 : decode cX5_emit 0 = .ok (.aload_n 0, 1) := zo_42 zh_cX5_emit_0 0 rfl
theorem dX5_emit_1 : decode cX5_emit 1 = .ok (.getfield 26, 3) := zo_180 zh_cX5_emit_0 1 rfl
theorem dX5_emit_4 : decode cX5_emit 4 = .ok (.ifCond .ge 35, 3) := zo_p156 zh_cX5_emit_0 4 35 rfl rfl
theorem dX5_emit_7 : decode cX5_emit 7 = .ok (.aload_n 0, 1) := zo_42 zh_cX5_emit_0 7 rfl
theorem dX5_emit_8 : decode cX5_emit 8 = .ok (.getfield 23, 3) := zo_180 zh_cX5_emit_0 8 rfl
theorem dX5_emit_11 : decode cX5_emit 11 = .ok (.aload_n 0, 1) := zo_42 zh_cX5_emit_0 11 rfl
theorem dX5_emit_12 : decode cX5_emit 12 = .ok (.getfield 9, 3) := zo_180 zh_cX5_emit_0 12 rfl
theorem dX5_emit_15 : decode cX5_emit 15 = .ok (.arraylength, 1) := zo_190 zh_cX5_emit_0 15 rfl
theorem dX5_emit_16 : decode cX5_emit 16 = .ok (.if_icmp .ge 23, 3) := zo_p162 zh_cX5_emit_0 16 23 rfl rfl
theorem dX5_emit_19 : decode cX5_emit 19 = .ok (.aload_n 0, 1) := zo_42 zh_cX5_emit_0 19 rfl
theorem zh_cX5_emit_1 : zck [180, 0, 9, 42, 180, 0, 23, 27, 79, 42, 89, 180, 0, 23, 4, 96, 181, 0, 23, 177] (zdu 20 cX5_emit.data.toList) = true := by decide +kernel
theorem dX5_emit_20 : decode cX5_emit 20 = .ok (.getfield 9, 3) := zo_180 zh_cX5_emit_1 0 rfl
theorem dX5_emit_23 : decode cX5_emit 23 = .ok (.aload_n 0, 1) := zo_42 zh_cX5_emit_1 3 rfl
theorem dX5_emit_24 : decode cX5_emit 24 = .ok (.getfield 23, 3) := zo_180 zh_cX5_emit_1 4 rfl
theorem dX5_emit_27 : decode cX5_emit 27 = .ok (.iload_n 1, 1) := zo_27 zh_cX5_emit_1 7 rfl
theorem dX5_emit_28 : decode cX5_emit 28 = .ok (.iastore, 1) := zo_79 zh_cX5_emit_1 8 rfl
theorem dX5_emit_29 : decode cX5_emit 29 = .ok (.aload_n 0, 1) := zo_42 zh_cX5_emit_1 9 rfl
theorem dX5_emit_30 : decode cX5_emit 30 = .ok (.dup, 1) := zo_89 zh_cX5_emit_1 10 rfl
theorem dX5_emit_31 : decode cX5_emit 31 = .ok (.getfield 23, 3) := zo_180 zh_cX5_emit_1 11 rfl
theorem dX5_emit_34 : decode cX5_emit 34 = .ok (.iconst 1, 1) := zo_4 zh_cX5_emit_1 14 rfl
theorem dX5_emit_35 : decode cX5_emit 35 = .ok (.iadd, 1) := zo_96 zh_cX5_emit_1 15 rfl
theorem dX5_emit_36 : decode cX5_emit 36 = .ok (.putfield 23, 3) := zo_181 zh_cX5_emit_1 16 rfl
theorem dX5_emit_39 : decode cX5_emit 39 = .ok (.return_, 1) := zo_177 zh_cX5_emit_1 19 rfl
abbrev z_X5_emit : List Cond := .code yX5_emit cX5_emit 2 none :: zW
abbrev wl_X5_emit (ad : Nat → Nat) (cs : Nat → ClassId)  (lr_size : Int32) (lr_at : Int32) (lr_fault : Int32) (lr_code : Nat → Int32) : va_W := [((ad 26), .inr (5, [.ref (ad 23), .ref (ad 27), .int lr_size, .int lr_at, .int lr_fault])), ((ad 27), .inl (cs 0, 121, .inl lr_code))]
def Q_X5_emit (D : va_G) (cs : Nat → ClassId) (ad : Nat → Nat)  (lr_at : Int32) (lr_fault : Int32) (A : Nat → Prop) (R : Int32 × (Nat → Int32)) : Array Value → State → Outcome → State → Prop :=
  va_Qv (fun u : Int32 × (Nat → Int32) => u = R) (fun (u : Int32 × (Nat → Int32)) (t : State) => va_P D classes (wl_X5_emit ad cs u.1 lr_at lr_fault u.2) t.heap ∧ va_D A (wl_X5_emit ad cs u.1 lr_at lr_fault u.2)) A
abbrev rm_X5_emit : Room := { frames := 0, cells := 0, slots := 0, locals := 0 }
def B_X5_emit_0    (lr_at : Int32) (lr_fault : Int32) (x1 : Int32) (lr_size : Int32) (lr_code : Nat → Int32) : Option (Int32 × (Nat → Int32)) :=
  (if 0 ≤ lr_fault then (some (lr_size, lr_code)) else (if (121 : Int32) ≤ lr_size then (some (lr_size, lr_code)) else (if (lr_size < 0 ∨ 121 ≤ lr_size.toNatClampNeg) then none else (zk_let (upd lr_code lr_size.toNatClampNeg x1) (fun f_4 => (zk_let (lr_size + (1 : Int32)) (fun v_5 => (some (v_5, f_4)))))))))
def f_X5_emit   (x1 : Int32) (lr_size : Int32) (lr_at : Int32) (lr_fault : Int32) (lr_code : Nat → Int32) : Option (Int32 × (Nat → Int32)) := B_X5_emit_0   lr_at lr_fault x1 lr_size lr_code
set_option maxHeartbeats 4000000 in
set_option maxRecDepth 100000 in
theorem L_X5_emit_0 {p : Program} {l : Launch} {e : Env} {s : State} {m : MethodId} {args : Array Value} {below : List Frame} {meth : Method} {c : Code} {A : Nat → Prop} {D : va_G} {cs : Nat → ClassId} {ad : Nat → Nat} {lr_at : Int32} {lr_fault : Int32} {R : Int32 × (Nat → Int32)} (C0 : zC p s m args meth c cX5_emit 2 none RX5 zW) (hK : va_K D classes (zT cs) s) (hA : ∀ q : Nat, s.heap.size ≤ q → A q) (x1 : Int32) (lr_size : Int32) (lr_code : Nat → Int32) (h : B_X5_emit_0 lr_at lr_fault x1 lr_size lr_code = some R) (H : Heap) (locs : List Loc) (ls : Array Slot) (hP : va_P D classes (wl_X5_emit ad cs lr_size lr_at lr_fault lr_code) H) (hD : va_D A (wl_X5_emit ad cs lr_size lr_at lr_fault lr_code)) (hS : va_S A s.heap H locs) (hl : lv_has ls 2 [(0, .ref (ad 26)), (1, .int x1)]) : W p l e rm_X5_emit s m args below meth c H locs 0 0 (MQ below (Q_X5_emit D cs ad lr_at lr_fault A R) args s 0 0 A) (F0 m 0 ls []) := by
  obtain ⟨hx, hb, hr, hml, hown, ht, hlocks⟩ := id C0
  refine lv_aload_n hx hb dX5_emit_0 rfl (lv_at hl 0 rfl) ?_
  refine va_get (D := D) (ci := 5) (v := .int lr_fault) (C := RX5) (T := TX5) (N := 5) hx hb ht iX5 hown hK hP 0 rfl rfl 4 (by decide) (ht _ kw_278) (fun _ h9 => h9) rfl dX5_emit_1 ?_
  refine lv_if_ge (tgt := 39) hx hb dX5_emit_4 (by decide) (fun c_1 => ?_) (fun c_1 => ?_)
  · have h := zk_t c_1 h
    exact W.vret hx hb hr (fun t ht2 hW => ⟨⟨(lr_size, lr_code), rfl, Option.some.inj h, by rw [ht2]; exact hP, hD⟩, hS.F ht2⟩) hS.2.2 dX5_emit_39 hlocks
  · have h := zk_f c_1 h
    refine lv_aload_n hx hb dX5_emit_7 rfl (lv_at hl 0 rfl) ?_
    refine va_get (D := D) (ci := 5) (v := .int lr_size) (C := RX5) (T := TX5) (N := 5) hx hb ht iX5 hown hK hP 0 rfl rfl 2 (by decide) (ht _ kw_276) (fun _ h9 => h9) rfl dX5_emit_8 ?_
    refine lv_aload_n hx hb dX5_emit_11 rfl (lv_at hl 0 rfl) ?_
    refine va_get (D := D) (ci := 5) (v := .ref (ad 27)) (C := RX5) (T := TX5) (N := 5) hx hb ht iX5 hown hK hP 0 rfl rfl 1 (by decide) (ht _ kw_275) (fun _ h9 => h9) rfl dX5_emit_12 ?_
    refine va_alen (v := (121 : Int32)) hx hb hK hP 1 0 rfl rfl rfl dX5_emit_15 ?_
    refine lv_icmp_ge (tgt := 39) hx hb dX5_emit_16 (by decide) (fun c_2 => ?_) (fun c_2 => ?_)
    · have h := zk_t c_2 h
      exact W.vret hx hb hr (fun t ht2 hW => ⟨⟨(lr_size, lr_code), rfl, Option.some.inj h, by rw [ht2]; exact hP, hD⟩, hS.F ht2⟩) hS.2.2 dX5_emit_39 hlocks
    · have h := zk_f c_2 h
      refine lv_aload_n hx hb dX5_emit_19 rfl (lv_at hl 0 rfl) ?_
      refine va_get (D := D) (ci := 5) (v := .ref (ad 27)) (C := RX5) (T := TX5) (N := 5) hx hb ht iX5 hown hK hP 0 rfl rfl 1 (by decide) (ht _ kw_275) (fun _ h9 => h9) rfl dX5_emit_20 ?_
      refine lv_aload_n hx hb dX5_emit_23 rfl (lv_at hl 0 rfl) ?_
      refine va_get (D := D) (ci := 5) (v := .int lr_size) (C := RX5) (T := TX5) (N := 5) hx hb ht iX5 hown hK hP 0 rfl rfl 2 (by decide) (ht _ kw_276) (fun _ h9 => h9) rfl dX5_emit_24 ?_
      refine lv_iload_n hx hb dX5_emit_27 rfl (lv_at hl 1 rfl) ?_
      obtain ⟨g_3, h⟩ := zk_gd h
      obtain ⟨f_4, ef_4, h⟩ := zk_lt h
      refine va_iast hx hb hK hP hD hS 1 0 rfl rfl g_3 dX5_emit_28 (fun H locs hP hD hS => ?_)
      have hP : va_P D classes (wl_X5_emit ad cs lr_size lr_at lr_fault f_4) H := by rw [ef_4]; exact hP
      have hD : va_D A (wl_X5_emit ad cs lr_size lr_at lr_fault f_4) := by rw [ef_4]; exact hD
      refine lv_aload_n hx hb dX5_emit_29 rfl (lv_at hl 0 rfl) ?_
      refine lv_dup hx hb dX5_emit_30 rfl ?_
      refine va_get (D := D) (ci := 5) (v := .int lr_size) (C := RX5) (T := TX5) (N := 5) hx hb ht iX5 hown hK hP 0 rfl rfl 2 (by decide) (ht _ kw_276) (fun _ h9 => h9) rfl dX5_emit_31 ?_
      refine lv_iconst (v := (1 : Int32)) hx hb dX5_emit_34 (by decide) ?_
      refine lv_iadd hx hb dX5_emit_35 ?_
      obtain ⟨v_5, ev_5, h⟩ := zk_lt h
      refine W.eq (g2 := F0 m 36 ls [.int v_5, .ref (ad 26)]) (by rw [ev_5]) ?_
      refine va_put (D := D) (ci := 5) (v := .int v_5) (ty := .int) (C := RX5) (T := TX5) (N := 5) hx hb ht iX5 tyX5 tyX5_ok nmX5 hown hK hP hD hS 0 rfl rfl 2 (by decide) (ht _ kw_276) (fun _ h9 => h9) rfl (by decide +kernel) rfl rfl (Nat.le_of_ble_eq_true rfl) dX5_emit_36 (fun H locs hP hD hS => ?_)
      have hP : va_P D classes (wl_X5_emit ad cs v_5 lr_at lr_fault f_4) H := hP
      have hD : va_D A (wl_X5_emit ad cs v_5 lr_at lr_fault f_4) := hD
      exact W.vret hx hb hr (fun t ht2 hW => ⟨⟨(v_5, f_4), rfl, Option.some.inj h, by rw [ht2]; exact hP, hD⟩, hS.F ht2⟩) hS.2.2 dX5_emit_39 hlocks
set_option maxHeartbeats 4000000 in
set_option maxRecDepth 100000 in
theorem c_X5_emit (l : Launch) (D : va_G) (cs : Nat → ClassId) (ad : Nat → Nat) (sz : Nat) (x1 : Int32) (lr_size : Int32) (lr_at : Int32) (lr_fault : Int32) (lr_code : Nat → Int32) (R : Int32 × (Nat → Int32)) (h : f_X5_emit   x1 lr_size lr_at lr_fault lr_code = some R) : Met l yX5_emit (z_X5_emit) rm_X5_emit (va_Pc [.ref (ad 26), .int x1] (zPre D cs (wl_X5_emit ad cs lr_size lr_at lr_fault lr_code) sz)) (Q_X5_emit D cs ad lr_at lr_fault (va_A (wl_X5_emit ad cs lr_size lr_at lr_fault lr_code) sz) R) 0 0 (va_A (wl_X5_emit ad cs lr_size lr_at lr_fault lr_code) sz) := by
  refine Met.ofW (cc := cX5_emit) (maxL := 2) (ret := none) (by decide) rfl ?_
  intro p e s m args below meth c s₁ B hml hv
  obtain ⟨rfl, hsz, hP, hK, hD0⟩ := hv
  subst hsz
  have hD := hD0.self (sz := s.heap.size)
  have C0 : zC p s m _ meth c cX5_emit 2 none RX5 zW := ⟨B.exec, B.bytes, B.returns, hml, findClass_of_methodNamed B.named, fun w hw => atoms_spec (ws := z_X5_emit) B.pre w (List.mem_cons_of_mem _ hw), B.notSynchronized⟩
  have hA : ∀ q : Nat, s.heap.size ≤ q → va_A (wl_X5_emit ad cs lr_size lr_at lr_fault lr_code) s.heap.size q := fun q h => Or.inr h
  have hl := lv_entry ([.ref (ad 26), .int x1]) (n := 2) (Nat.le_of_ble_eq_true rfl)
  rw [lg_entry_eq]
  generalize (lg_sl ([.ref (ad 26), .int x1]) ++ List.replicate (2 - (lg_sl ([.ref (ad 26), .int x1])).length) Slot.unset).toArray = ls at hl ⊢
  exact L_X5_emit_0 C0 hK hA   x1 lr_size lr_code h s.heap [] ls hP hD va_S.rf hl
theorem kw_80 : Cond.initialized RX5 ∈ zW := zwC (i := 6) zc_1 rfl rfl
theorem kw_574 : Cond.methodLink RX5 39 yX5_fail ∈ zW := zwC (i := 20) zc_3 rfl rfl
theorem kw_575 : Cond.instanceMethod yX5_fail ∈ zW := zwC (i := 21) zc_3 rfl rfl
theorem kw_576 : Cond.selects RX5 yX5_fail yX5_fail ∈ zW := zwC (i := 22) zc_3 rfl rfl
theorem kw_577 : Cond.code yX5_fail cX5_fail 1 none ∈ zW := zwC (i := 23) zc_3 rfl rfl
theorem zh_cX5_mayOpen_0 : zck [27, 16, 6, 161, 0, 9, 42, 182, 0, 39, 3, 172, 42, 89, 180, 0, 19, 4, 96, 181, 0, 19] (zdu 0 cX5_mayOpen.data.toList) = true := by decide +kernel
theorem dX5_mayOpen_0 : decode cX5_mayOpen 0 = .ok (.iload_n 1, 1) := zo_27 zh_cX5_mayOpen_0 0 rfl
theorem dX5_mayOpen_1 : decode cX5_mayOpen 1 = .ok (.bipush 6, 2) := zo_p16 zh_cX5_mayOpen_0 1 6 rfl rfl
theorem dX5_mayOpen_3 : decode cX5_mayOpen 3 = .ok (.if_icmp .lt 9, 3) := zo_p161 zh_cX5_mayOpen_0 3 9 rfl rfl
theorem dX5_mayOpen_6 : decode cX5_mayOpen 6 = .ok (.aload_n 0, 1) := zo_42 zh_cX5_mayOpen_0 6 rfl
theorem dX5_mayOpen_7 : decode cX5_mayOpen 7 = .ok (.invokevirtual 39, 3) := zo_182 zh_cX5_mayOpen_0 7 rfl
theorem dX5_mayOpen_10 : decode cX5_mayOpen 10 = .ok (.iconst 0, 1) := zo_3 zh_cX5_mayOpen_0 10 rfl
theorem dX5_mayOpen_11 : decode cX5_mayOpen 11 = .ok (.ireturn, 1) := zo_172 zh_cX5_mayOpen_0 11 rfl
theorem dX5_mayOpen_12 : decode cX5_mayOpen 12 = .ok (.aload_n 0, 1) := zo_42 zh_cX5_mayOpen_0 12 rfl
theorem dX5_mayOpen_13 : decode cX5_mayOpen 13 = .ok (.dup, 1) := zo_89 zh_cX5_mayOpen_0 13 rfl
theorem dX5_mayOpen_14 : decode cX5_mayOpen 14 = .ok (.getfield 19, 3) := zo_180 zh_cX5_mayOpen_0 14 rfl
theorem dX5_mayOpen_17 : decode cX5_mayOpen 17 = .ok (.iconst 1, 1) := zo_4 zh_cX5_mayOpen_0 17 rfl
theorem dX5_mayOpen_18 : decode cX5_mayOpen 18 = .ok (.iadd, 1) := zo_96 zh_cX5_mayOpen_0 18 rfl
theorem dX5_mayOpen_19 : decode cX5_mayOpen 19 = .ok (.putfield 19, 3) := zo_181 zh_cX5_mayOpen_0 19 rfl
theorem zh_cX5_mayOpen_1 : zck [0, 19, 4, 172] (zdu 20 cX5_mayOpen.data.toList) = true := by decide +kernel
theorem dX5_mayOpen_22 : decode cX5_mayOpen 22 = .ok (.iconst 1, 1) := zo_4 zh_cX5_mayOpen_1 2 rfl
theorem dX5_mayOpen_23 : decode cX5_mayOpen 23 = .ok (.ireturn, 1) := zo_172 zh_cX5_mayOpen_1 3 rfl
abbrev z_X5_mayOpen : List Cond := .code yX5_mayOpen cX5_mayOpen 2 (some .boolean) :: zW
abbrev wl_X5_mayOpen (ad : Nat → Nat) (cs : Nat → ClassId)  (lr_size : Int32) (lr_at : Int32) (lr_fault : Int32) : va_W := [((ad 26), .inr (5, [.ref (ad 23), .ref (ad 27), .int lr_size, .int lr_at, .int lr_fault]))]
def Q_X5_mayOpen (D : va_G) (cs : Nat → ClassId) (ad : Nat → Nat)  (lr_size : Int32) (A : Nat → Prop) (R : Int32 × Int32 × Int32) : Array Value → State → Outcome → State → Prop :=
  va_Qi (fun (r : Int32) (u : Int32 × Int32) => (r, u) = R) (fun (u : Int32 × Int32) (t : State) => va_P D classes (wl_X5_mayOpen ad cs lr_size u.1 u.2) t.heap ∧ va_D A (wl_X5_mayOpen ad cs lr_size u.1 u.2)) A
abbrev rm_X5_mayOpen : Room := { frames := 1, cells := 0, slots := 0, locals := 20 }
theorem g_X5_39 : GoodIn zW (wsV RX5 39 RX5 yX5_fail z_X5_fail) := zGV kw_574 kw_575 kw_576 kw_80 kw_577
theorem hd_X5_fail : yX5_fail.cls ≠ "java/lang/invoke/MethodHandle" ∧ yX5_fail.cls ≠ "java/lang/invoke/VarHandle" ∧ (parseMethodDescriptor yX5_fail.desc).map (fun d => d.parameters.length) = some 0 := by decide +kernel
def B_X5_mayOpen_0    (lr_size : Int32) (x1 : Int32) (lr_at : Int32) (lr_fault : Int32) : Option (Int32 × Int32 × Int32) :=
  (if x1 < (6 : Int32) then (zk_let (lr_at + (1 : Int32)) (fun v_2 => (some ((1 : Int32), v_2, lr_fault)))) else (zk_b1 (f_X5_fail lr_size lr_at lr_fault) (fun u_3 => (some ((0 : Int32), lr_at, u_3)))))
def f_X5_mayOpen   (x1 : Int32) (lr_size : Int32) (lr_at : Int32) (lr_fault : Int32) : Option (Int32 × Int32 × Int32) := B_X5_mayOpen_0   lr_size x1 lr_at lr_fault
set_option maxHeartbeats 4000000 in
set_option maxRecDepth 100000 in
theorem L_X5_mayOpen_0 {p : Program} {l : Launch} {e : Env} {s : State} {m : MethodId} {args : Array Value} {below : List Frame} {meth : Method} {c : Code} {A : Nat → Prop} {D : va_G} {cs : Nat → ClassId} {ad : Nat → Nat} {lr_size : Int32} {R : Int32 × Int32 × Int32} (C0 : zC p s m args meth c cX5_mayOpen 2 (some .boolean) RX5 zW) (hK : va_K D classes (zT cs) s) (hA : ∀ q : Nat, s.heap.size ≤ q → A q) (x1 : Int32) (lr_at : Int32) (lr_fault : Int32) (h : B_X5_mayOpen_0 lr_size x1 lr_at lr_fault = some R) (H : Heap) (locs : List Loc) (ls : Array Slot) (hP : va_P D classes (wl_X5_mayOpen ad cs lr_size lr_at lr_fault) H) (hD : va_D A (wl_X5_mayOpen ad cs lr_size lr_at lr_fault)) (hS : va_S A s.heap H locs) (hl : lv_has ls 2 [(0, .ref (ad 26)), (1, .int x1)]) : W p l e rm_X5_mayOpen s m args below meth c H locs 0 0 (MQ below (Q_X5_mayOpen D cs ad lr_size A R) args s 0 0 A) (F0 m 0 ls []) := by
  obtain ⟨hx, hb, hr, hml, hown, ht, hlocks⟩ := id C0
  refine lv_iload_n hx hb dX5_mayOpen_0 rfl (lv_at hl 1 rfl) ?_
  refine lv_bipush (v := (6 : Int32)) hx hb dX5_mayOpen_1 (by decide) ?_
  refine lv_icmp_lt (tgt := 12) hx hb dX5_mayOpen_3 (by decide) (fun c_1 => ?_) (fun c_1 => ?_)
  · have h := zk_t c_1 h
    refine lv_aload_n hx hb dX5_mayOpen_12 rfl (lv_at hl 0 rfl) ?_
    refine lv_dup hx hb dX5_mayOpen_13 rfl ?_
    refine va_get (D := D) (ci := 5) (v := .int lr_at) (C := RX5) (T := TX5) (N := 5) hx hb ht iX5 hown hK hP 0 rfl rfl 3 (by decide) (ht _ kw_277) (fun _ h9 => h9) rfl dX5_mayOpen_14 ?_
    refine lv_iconst (v := (1 : Int32)) hx hb dX5_mayOpen_17 (by decide) ?_
    refine lv_iadd hx hb dX5_mayOpen_18 ?_
    obtain ⟨v_2, ev_2, h⟩ := zk_lt h
    refine W.eq (g2 := F0 m 19 ls [.int v_2, .ref (ad 26)]) (by rw [ev_2]) ?_
    refine va_put (D := D) (ci := 5) (v := .int v_2) (ty := .int) (C := RX5) (T := TX5) (N := 5) hx hb ht iX5 tyX5 tyX5_ok nmX5 hown hK hP hD hS 0 rfl rfl 3 (by decide) (ht _ kw_277) (fun _ h9 => h9) rfl (by decide +kernel) rfl rfl (Nat.le_of_ble_eq_true rfl) dX5_mayOpen_19 (fun H locs hP hD hS => ?_)
    have hP : va_P D classes (wl_X5_mayOpen ad cs lr_size v_2 lr_fault) H := hP
    have hD : va_D A (wl_X5_mayOpen ad cs lr_size v_2 lr_fault) := hD
    refine lv_iconst (v := (1 : Int32)) hx hb dX5_mayOpen_22 (by decide) ?_
    exact W.zret (ty := .boolean) (v := (1 : Int32)) hx hb hr rfl (fun t ht2 hW => ⟨⟨(1 : Int32), (v_2, lr_fault), rfl, Option.some.inj h, by rw [ht2]; exact hP, hD⟩, hS.F ht2⟩) hS.2.2 dX5_mayOpen_23 hlocks
  · have h := zk_f c_1 h
    refine lv_aload_n hx hb dX5_mayOpen_6 rfl (lv_at hl 0 rfl) ?_
    obtain ⟨u_3, hc_4, h⟩ := zk_o1 h
    refine zz_vv (post := (fun u => u = u_3)) (w1 := fun u => (wl_X5_fail ad cs lr_size lr_at u)) (As := []) (rest := []) (c_X5_fail l D cs ad  H.size lr_size lr_at lr_fault u_3 hc_4) ⟨hx, hb, hml, hown, ht⟩ (cwV 0 ht g_X5_39 rfl rfl rfl ⟨rfl, hd_X5_fail⟩ ⟨Nat.le_of_ble_eq_true rfl, Nat.le_of_ble_eq_true rfl⟩) (va_recv hK hP (ci := 5) (q0 := 0) rfl rfl) hP hD hS hK hA [0] rfl rfl [(ad 26)] rfl (fun _ => rfl) rfl hl.1 (Nat.le_of_ble_eq_true rfl) dX5_mayOpen_7 ⟨Nat.zero_le _, Nat.zero_le _⟩ (fun u H locs hq hP hS => ?_)
    cases hq
    have hP : va_P D classes (wl_X5_mayOpen ad cs lr_size lr_at u_3) H := hP
    have hD : va_D A (wl_X5_mayOpen ad cs lr_size lr_at u_3) := zDk hD [(ad 26)] rfl rfl
    refine lv_iconst (v := (0 : Int32)) hx hb dX5_mayOpen_10 (by decide) ?_
    exact W.zret (ty := .boolean) (v := (0 : Int32)) hx hb hr rfl (fun t ht2 hW => ⟨⟨(0 : Int32), (lr_at, u_3), rfl, Option.some.inj h, by rw [ht2]; exact hP, hD⟩, hS.F ht2⟩) hS.2.2 dX5_mayOpen_11 hlocks
set_option maxHeartbeats 4000000 in
set_option maxRecDepth 100000 in
theorem c_X5_mayOpen (l : Launch) (D : va_G) (cs : Nat → ClassId) (ad : Nat → Nat) (sz : Nat) (x1 : Int32) (lr_size : Int32) (lr_at : Int32) (lr_fault : Int32) (R : Int32 × Int32 × Int32) (h : f_X5_mayOpen   x1 lr_size lr_at lr_fault = some R) : Met l yX5_mayOpen (z_X5_mayOpen) rm_X5_mayOpen (va_Pc [.ref (ad 26), .int x1] (zPre D cs (wl_X5_mayOpen ad cs lr_size lr_at lr_fault) sz)) (Q_X5_mayOpen D cs ad lr_size (va_A (wl_X5_mayOpen ad cs lr_size lr_at lr_fault) sz) R) 0 0 (va_A (wl_X5_mayOpen ad cs lr_size lr_at lr_fault) sz) := by
  refine Met.ofW (cc := cX5_mayOpen) (maxL := 2) (ret := (some .boolean)) (by decide) rfl ?_
  intro p e s m args below meth c s₁ B hml hv
  obtain ⟨rfl, hsz, hP, hK, hD0⟩ := hv
  subst hsz
  have hD := hD0.self (sz := s.heap.size)
  have C0 : zC p s m _ meth c cX5_mayOpen 2 (some .boolean) RX5 zW := ⟨B.exec, B.bytes, B.returns, hml, findClass_of_methodNamed B.named, fun w hw => atoms_spec (ws := z_X5_mayOpen) B.pre w (List.mem_cons_of_mem _ hw), B.notSynchronized⟩
  have hA : ∀ q : Nat, s.heap.size ≤ q → va_A (wl_X5_mayOpen ad cs lr_size lr_at lr_fault) s.heap.size q := fun q h => Or.inr h
  have hl := lv_entry ([.ref (ad 26), .int x1]) (n := 2) (Nat.le_of_ble_eq_true rfl)
  rw [lg_entry_eq]
  generalize (lg_sl ([.ref (ad 26), .int x1]) ++ List.replicate (2 - (lg_sl ([.ref (ad 26), .int x1])).length) Slot.unset).toArray = ls at hl ⊢
  exact L_X5_mayOpen_0 C0 hK hA   x1 lr_at lr_fault h s.heap [] ls hP hD va_S.rf hl
theorem zh_cX5_operatorAt_0 : zck [42, 180, 0, 15, 42, 180, 0, 19, 182, 0, 68, 61, 27, 170, 0, 0, 0, 0, 0, 116, 0, 0] (zdu 0 cX5_operatorAt.data.toList) = true := by decide +kernel
theorem dX5_operatorAt_0 : decode cX5_operatorAt 0 = .ok (.aload_n 0, 1) := zo_42 zh_cX5_operatorAt_0 0 rfl
theorem dX5_operatorAt_1 : decode cX5_operatorAt 1 = .ok (.getfield 15, 3) := zo_180 zh_cX5_operatorAt_0 1 rfl
theorem dX5_operatorAt_4 : decode cX5_operatorAt 4 = .ok (.aload_n 0, 1) := zo_42 zh_cX5_operatorAt_0 4 rfl
theorem dX5_operatorAt_5 : decode cX5_operatorAt 5 = .ok (.getfield 19, 3) := zo_180 zh_cX5_operatorAt_0 5 rfl
theorem dX5_operatorAt_8 : decode cX5_operatorAt 8 = .ok (.invokevirtual 68, 3) := zo_182 zh_cX5_operatorAt_0 8 rfl
theorem dX5_operatorAt_11 : decode cX5_operatorAt 11 = .ok (.istore_n 2, 1) := zo_61 zh_cX5_operatorAt_0 11 rfl
theorem dX5_operatorAt_12 : decode cX5_operatorAt 12 = .ok (.iload_n 1, 1) := zo_27 zh_cX5_operatorAt_0 12 rfl
theorem dX5_operatorAt_13 : decode cX5_operatorAt 13 = .ok (.tableswitch 116 0 3 #[31, 44, 57, 92], 31) := by decide +kernel
theorem zh_cX5_operatorAt_2 : zck [0, 0, 0, 92, 28, 16, 124, 160, 0, 8, 16, 6, 167, 0, 4, 2, 172, 28, 16, 38, 160, 0] (zdu 40 cX5_operatorAt.data.toList) = true := by decide +kernel
theorem dX5_operatorAt_44 : decode cX5_operatorAt 44 = .ok (.iload_n 2, 1) := zo_28 zh_cX5_operatorAt_2 4 rfl
theorem dX5_operatorAt_45 : decode cX5_operatorAt 45 = .ok (.bipush 124, 2) := zo_p16 zh_cX5_operatorAt_2 5 124 rfl rfl
theorem dX5_operatorAt_47 : decode cX5_operatorAt 47 = .ok (.if_icmp .ne 8, 3) := zo_p160 zh_cX5_operatorAt_2 7 8 rfl rfl
theorem dX5_operatorAt_50 : decode cX5_operatorAt 50 = .ok (.bipush 6, 2) := zo_p16 zh_cX5_operatorAt_2 10 6 rfl rfl
theorem dX5_operatorAt_52 : decode cX5_operatorAt 52 = .ok (.goto 4, 3) := zo_p167 zh_cX5_operatorAt_2 12 4 rfl rfl
theorem dX5_operatorAt_55 : decode cX5_operatorAt 55 = .ok (.iconst (-1), 1) := zo_2 zh_cX5_operatorAt_2 15 rfl
theorem dX5_operatorAt_56 : decode cX5_operatorAt 56 = .ok (.ireturn, 1) := zo_172 zh_cX5_operatorAt_2 16 rfl
theorem dX5_operatorAt_57 : decode cX5_operatorAt 57 = .ok (.iload_n 2, 1) := zo_28 zh_cX5_operatorAt_2 17 rfl
theorem dX5_operatorAt_58 : decode cX5_operatorAt 58 = .ok (.bipush 38, 2) := zo_p16 zh_cX5_operatorAt_2 18 38 rfl rfl
theorem zh_cX5_operatorAt_3 : zck [160, 0, 8, 16, 7, 167, 0, 4, 2, 172, 28, 16, 60, 160, 0, 8, 16, 8, 167, 0, 26, 28] (zdu 60 cX5_operatorAt.data.toList) = true := by decide +kernel
theorem dX5_operatorAt_60 : decode cX5_operatorAt 60 = .ok (.if_icmp .ne 8, 3) := zo_p160 zh_cX5_operatorAt_3 0 8 rfl rfl
theorem dX5_operatorAt_63 : decode cX5_operatorAt 63 = .ok (.bipush 7, 2) := zo_p16 zh_cX5_operatorAt_3 3 7 rfl rfl
theorem dX5_operatorAt_65 : decode cX5_operatorAt 65 = .ok (.goto 4, 3) := zo_p167 zh_cX5_operatorAt_3 5 4 rfl rfl
theorem dX5_operatorAt_68 : decode cX5_operatorAt 68 = .ok (.iconst (-1), 1) := zo_2 zh_cX5_operatorAt_3 8 rfl
theorem dX5_operatorAt_69 : decode cX5_operatorAt 69 = .ok (.ireturn, 1) := zo_172 zh_cX5_operatorAt_3 9 rfl
theorem dX5_operatorAt_70 : decode cX5_operatorAt 70 = .ok (.iload_n 2, 1) := zo_28 zh_cX5_operatorAt_3 10 rfl
theorem dX5_operatorAt_71 : decode cX5_operatorAt 71 = .ok (.bipush 60, 2) := zo_p16 zh_cX5_operatorAt_3 11 60 rfl rfl
theorem dX5_operatorAt_73 : decode cX5_operatorAt 73 = .ok (.if_icmp .ne 8, 3) := zo_p160 zh_cX5_operatorAt_3 13 8 rfl rfl
theorem dX5_operatorAt_76 : decode cX5_operatorAt 76 = .ok (.bipush 8, 2) := zo_p16 zh_cX5_operatorAt_3 16 8 rfl rfl
theorem dX5_operatorAt_78 : decode cX5_operatorAt 78 = .ok (.goto 26, 3) := zo_p167 zh_cX5_operatorAt_3 18 26 rfl rfl
theorem zh_cX5_operatorAt_4 : zck [26, 28, 16, 61, 160, 0, 8, 16, 9, 167, 0, 15, 28, 16, 62, 160, 0, 8, 16, 10, 167, 0] (zdu 80 cX5_operatorAt.data.toList) = true := by decide +kernel
theorem dX5_operatorAt_81 : decode cX5_operatorAt 81 = .ok (.iload_n 2, 1) := zo_28 zh_cX5_operatorAt_4 1 rfl
theorem dX5_operatorAt_82 : decode cX5_operatorAt 82 = .ok (.bipush 61, 2) := zo_p16 zh_cX5_operatorAt_4 2 61 rfl rfl
theorem dX5_operatorAt_84 : decode cX5_operatorAt 84 = .ok (.if_icmp .ne 8, 3) := zo_p160 zh_cX5_operatorAt_4 4 8 rfl rfl
theorem dX5_operatorAt_87 : decode cX5_operatorAt 87 = .ok (.bipush 9, 2) := zo_p16 zh_cX5_operatorAt_4 7 9 rfl rfl
theorem dX5_operatorAt_89 : decode cX5_operatorAt 89 = .ok (.goto 15, 3) := zo_p167 zh_cX5_operatorAt_4 9 15 rfl rfl
theorem dX5_operatorAt_92 : decode cX5_operatorAt 92 = .ok (.iload_n 2, 1) := zo_28 zh_cX5_operatorAt_4 12 rfl
theorem dX5_operatorAt_93 : decode cX5_operatorAt 93 = .ok (.bipush 62, 2) := zo_p16 zh_cX5_operatorAt_4 13 62 rfl rfl
theorem dX5_operatorAt_95 : decode cX5_operatorAt 95 = .ok (.if_icmp .ne 8, 3) := zo_p160 zh_cX5_operatorAt_4 15 8 rfl rfl
theorem dX5_operatorAt_98 : decode cX5_operatorAt 98 = .ok (.bipush 10, 2) := zo_p16 zh_cX5_operatorAt_4 18 10 rfl rfl
theorem zh_cX5_operatorAt_5 : zck [167, 0, 4, 2, 172, 28, 16, 43, 160, 0, 8, 16, 11, 167, 0, 15, 28, 16, 45, 160, 0, 8] (zdu 100 cX5_operatorAt.data.toList) = true := by decide +kernel
theorem dX5_operatorAt_100 : decode cX5_operatorAt 100 = .ok (.goto 4, 3) := zo_p167 zh_cX5_operatorAt_5 0 4 rfl rfl
theorem dX5_operatorAt_103 : decode cX5_operatorAt 103 = .ok (.iconst (-1), 1) := zo_2 zh_cX5_operatorAt_5 3 rfl
theorem dX5_operatorAt_104 : decode cX5_operatorAt 104 = .ok (.ireturn, 1) := zo_172 zh_cX5_operatorAt_5 4 rfl
theorem dX5_operatorAt_105 : decode cX5_operatorAt 105 = .ok (.iload_n 2, 1) := zo_28 zh_cX5_operatorAt_5 5 rfl
theorem dX5_operatorAt_106 : decode cX5_operatorAt 106 = .ok (.bipush 43, 2) := zo_p16 zh_cX5_operatorAt_5 6 43 rfl rfl
theorem dX5_operatorAt_108 : decode cX5_operatorAt 108 = .ok (.if_icmp .ne 8, 3) := zo_p160 zh_cX5_operatorAt_5 8 8 rfl rfl
theorem dX5_operatorAt_111 : decode cX5_operatorAt 111 = .ok (.bipush 11, 2) := zo_p16 zh_cX5_operatorAt_5 11 11 rfl rfl
theorem dX5_operatorAt_113 : decode cX5_operatorAt 113 = .ok (.goto 15, 3) := zo_p167 zh_cX5_operatorAt_5 13 15 rfl rfl
theorem dX5_operatorAt_116 : decode cX5_operatorAt 116 = .ok (.iload_n 2, 1) := zo_28 zh_cX5_operatorAt_5 16 rfl
theorem dX5_operatorAt_117 : decode cX5_operatorAt 117 = .ok (.bipush 45, 2) := zo_p16 zh_cX5_operatorAt_5 17 45 rfl rfl
theorem dX5_operatorAt_119 : decode cX5_operatorAt 119 = .ok (.if_icmp .ne 8, 3) := zo_p160 zh_cX5_operatorAt_5 19 8 rfl rfl
theorem zh_cX5_operatorAt_6 : zck [0, 8, 16, 12, 167, 0, 4, 2, 172, 28, 16, 42, 160, 0, 8, 16, 13, 167, 0, 26, 28, 16] (zdu 120 cX5_operatorAt.data.toList) = true := by decide +kernel
theorem dX5_operatorAt_122 : decode cX5_operatorAt 122 = .ok (.bipush 12, 2) := zo_p16 zh_cX5_operatorAt_6 2 12 rfl rfl
theorem dX5_operatorAt_124 : decode cX5_operatorAt 124 = .ok (.goto 4, 3) := zo_p167 zh_cX5_operatorAt_6 4 4 rfl rfl
theorem dX5_operatorAt_127 : decode cX5_operatorAt 127 = .ok (.iconst (-1), 1) := zo_2 zh_cX5_operatorAt_6 7 rfl
theorem dX5_operatorAt_128 : decode cX5_operatorAt 128 = .ok (.ireturn, 1) := zo_172 zh_cX5_operatorAt_6 8 rfl
theorem dX5_operatorAt_129 : decode cX5_operatorAt 129 = .ok (.iload_n 2, 1) := zo_28 zh_cX5_operatorAt_6 9 rfl
theorem dX5_operatorAt_130 : decode cX5_operatorAt 130 = .ok (.bipush 42, 2) := zo_p16 zh_cX5_operatorAt_6 10 42 rfl rfl
theorem dX5_operatorAt_132 : decode cX5_operatorAt 132 = .ok (.if_icmp .ne 8, 3) := zo_p160 zh_cX5_operatorAt_6 12 8 rfl rfl
theorem dX5_operatorAt_135 : decode cX5_operatorAt 135 = .ok (.bipush 13, 2) := zo_p16 zh_cX5_operatorAt_6 15 13 rfl rfl
theorem dX5_operatorAt_137 : decode cX5_operatorAt 137 = .ok (.goto 26, 3) := zo_p167 zh_cX5_operatorAt_6 17 26 rfl rfl
theorem zh_cX5_operatorAt_7 : zck [28, 16, 47, 160, 0, 8, 16, 14, 167, 0, 15, 28, 16, 37, 160, 0, 8, 16, 15, 167, 0, 4] (zdu 140 cX5_operatorAt.data.toList) = true := by decide +kernel
theorem dX5_operatorAt_140 : decode cX5_operatorAt 140 = .ok (.iload_n 2, 1) := zo_28 zh_cX5_operatorAt_7 0 rfl
theorem dX5_operatorAt_141 : decode cX5_operatorAt 141 = .ok (.bipush 47, 2) := zo_p16 zh_cX5_operatorAt_7 1 47 rfl rfl
theorem dX5_operatorAt_143 : decode cX5_operatorAt 143 = .ok (.if_icmp .ne 8, 3) := zo_p160 zh_cX5_operatorAt_7 3 8 rfl rfl
theorem dX5_operatorAt_146 : decode cX5_operatorAt 146 = .ok (.bipush 14, 2) := zo_p16 zh_cX5_operatorAt_7 6 14 rfl rfl
theorem dX5_operatorAt_148 : decode cX5_operatorAt 148 = .ok (.goto 15, 3) := zo_p167 zh_cX5_operatorAt_7 8 15 rfl rfl
theorem dX5_operatorAt_151 : decode cX5_operatorAt 151 = .ok (.iload_n 2, 1) := zo_28 zh_cX5_operatorAt_7 11 rfl
theorem dX5_operatorAt_152 : decode cX5_operatorAt 152 = .ok (.bipush 37, 2) := zo_p16 zh_cX5_operatorAt_7 12 37 rfl rfl
theorem dX5_operatorAt_154 : decode cX5_operatorAt 154 = .ok (.if_icmp .ne 8, 3) := zo_p160 zh_cX5_operatorAt_7 14 8 rfl rfl
theorem dX5_operatorAt_157 : decode cX5_operatorAt 157 = .ok (.bipush 15, 2) := zo_p16 zh_cX5_operatorAt_7 17 15 rfl rfl
theorem dX5_operatorAt_159 : decode cX5_operatorAt 159 = .ok (.goto 4, 3) := zo_p167 zh_cX5_operatorAt_7 19 4 rfl rfl
theorem zh_cX5_operatorAt_8 : zck [0, 4, 2, 172] (zdu 160 cX5_operatorAt.data.toList) = true := by decide +kernel
theorem dX5_operatorAt_162 : decode cX5_operatorAt 162 = .ok (.iconst (-1), 1) := zo_2 zh_cX5_operatorAt_8 2 rfl
theorem dX5_operatorAt_163 : decode cX5_operatorAt 163 = .ok (.ireturn, 1) := zo_172 zh_cX5_operatorAt_8 3 rfl
abbrev z_X5_operatorAt : List Cond := .code yX5_operatorAt cX5_operatorAt 3 (some .int) :: zW
abbrev wl_X5_operatorAt (ad : Nat → Nat) (cs : Nat → ClassId)  (tape_size : Int32) (tape_bytes : Nat → Int32) (lr_size : Int32) (lr_at : Int32) (lr_fault : Int32) : va_W := [((ad 23), .inr (9, [.ref (ad 24), .int tape_size])), ((ad 24), .inl (cs 0, 120, .inl tape_bytes)), ((ad 26), .inr (5, [.ref (ad 23), .ref (ad 27), .int lr_size, .int lr_at, .int lr_fault]))]
def Q_X5_operatorAt (D : va_G) (cs : Nat → ClassId) (ad : Nat → Nat)  (tape_size : Int32) (tape_bytes : Nat → Int32) (lr_size : Int32) (lr_at : Int32) (lr_fault : Int32) (A : Nat → Prop) (R : Int32 × Unit) : Array Value → State → Outcome → State → Prop :=
  va_Qi (fun (r : Int32) (u : Unit) => (r, u) = R) (fun (u : Unit) (t : State) => va_P D classes (wl_X5_operatorAt ad cs tape_size tape_bytes lr_size lr_at lr_fault) t.heap ∧ va_D A (wl_X5_operatorAt ad cs tape_size tape_bytes lr_size lr_at lr_fault)) A
abbrev rm_X5_operatorAt : Room := { frames := 1, cells := 0, slots := 0, locals := 21 }
def B_X5_operatorAt_0    (tape_size : Int32) (tape_bytes : Nat → Int32) (lr_size : Int32) (lr_at : Int32) (lr_fault : Int32) (x1 : Int32) : Option (Int32 × Unit) :=
  (zk_b2 (f_X9_byteAt lr_at tape_size tape_bytes) (fun r_1 u_2 => (if x1 = (0 : Int32) then (if r_1 = (124 : Int32) then (some ((6 : Int32), ())) else (some ((-1 : Int32), ()))) else (if x1 = (1 : Int32) then (if r_1 = (38 : Int32) then (some ((7 : Int32), ())) else (some ((-1 : Int32), ()))) else (if x1 = (2 : Int32) then (if r_1 = (60 : Int32) then (some ((8 : Int32), ())) else (if r_1 = (61 : Int32) then (some ((9 : Int32), ())) else (if r_1 = (62 : Int32) then (some ((10 : Int32), ())) else (some ((-1 : Int32), ()))))) else (if x1 = (3 : Int32) then (if r_1 = (43 : Int32) then (some ((11 : Int32), ())) else (if r_1 = (45 : Int32) then (some ((12 : Int32), ())) else (some ((-1 : Int32), ())))) else (if r_1 = (42 : Int32) then (some ((13 : Int32), ())) else (if r_1 = (47 : Int32) then (some ((14 : Int32), ())) else (if r_1 = (37 : Int32) then (some ((15 : Int32), ())) else (some ((-1 : Int32), ())))))))))))
def f_X5_operatorAt   (x1 : Int32) (tape_size : Int32) (tape_bytes : Nat → Int32) (lr_size : Int32) (lr_at : Int32) (lr_fault : Int32) : Option (Int32 × Unit) := B_X5_operatorAt_0   tape_size tape_bytes lr_size lr_at lr_fault x1 
set_option maxHeartbeats 4000000 in
set_option maxRecDepth 100000 in
theorem L_X5_operatorAt_0 {p : Program} {l : Launch} {e : Env} {s : State} {m : MethodId} {args : Array Value} {below : List Frame} {meth : Method} {c : Code} {A : Nat → Prop} {D : va_G} {cs : Nat → ClassId} {ad : Nat → Nat} {tape_size : Int32} {tape_bytes : Nat → Int32} {lr_size : Int32} {lr_at : Int32} {lr_fault : Int32} {R : Int32 × Unit} (C0 : zC p s m args meth c cX5_operatorAt 3 (some .int) RX5 zW) (hK : va_K D classes (zT cs) s) (hA : ∀ q : Nat, s.heap.size ≤ q → A q) (x1 : Int32) (h : B_X5_operatorAt_0 tape_size tape_bytes lr_size lr_at lr_fault x1 = some R) (H : Heap) (locs : List Loc) (ls : Array Slot) (hP : va_P D classes (wl_X5_operatorAt ad cs tape_size tape_bytes lr_size lr_at lr_fault) H) (hD : va_D A (wl_X5_operatorAt ad cs tape_size tape_bytes lr_size lr_at lr_fault)) (hS : va_S A s.heap H locs) (hl : lv_has ls 3 [(0, .ref (ad 26)), (1, .int x1)]) : W p l e rm_X5_operatorAt s m args below meth c H locs 0 0 (MQ below (Q_X5_operatorAt D cs ad tape_size tape_bytes lr_size lr_at lr_fault A R) args s 0 0 A) (F0 m 0 ls []) := by
  obtain ⟨hx, hb, hr, hml, hown, ht, hlocks⟩ := id C0
  refine lv_aload_n hx hb dX5_operatorAt_0 rfl (lv_at hl 0 rfl) ?_
  refine va_get (D := D) (ci := 5) (v := .ref (ad 23)) (C := RX5) (T := TX5) (N := 5) hx hb ht iX5 hown hK hP 2 rfl rfl 0 (by decide) (ht _ kw_274) (fun _ h9 => h9) rfl dX5_operatorAt_1 ?_
  refine lv_aload_n hx hb dX5_operatorAt_4 rfl (lv_at hl 0 rfl) ?_
  refine va_get (D := D) (ci := 5) (v := .int lr_at) (C := RX5) (T := TX5) (N := 5) hx hb ht iX5 hown hK hP 2 rfl rfl 3 (by decide) (ht _ kw_277) (fun _ h9 => h9) rfl dX5_operatorAt_5 ?_
  obtain ⟨r_1, u_2, hc_3, h⟩ := zk_o2 h
  refine zz_vi (post := (fun r u => (r, u) = (r_1, u_2))) (w1 := fun u => (wl_X9_byteAt ad cs tape_size tape_bytes)) (As := [.int lr_at]) (rest := []) (c_X9_byteAt l D cs ad  H.size lr_at tape_size tape_bytes (r_1, u_2) hc_3) ⟨hx, hb, hml, hown, ht⟩ (cwV 1 ht g_X5_68 rfl rfl rfl ⟨rfl, hd_X9_byteAt⟩ ⟨Nat.le_of_ble_eq_true rfl, Nat.le_of_ble_eq_true rfl⟩) (va_recv hK hP (ci := 9) (q0 := 0) rfl rfl) hP hD hS hK hA [0, 1] rfl rfl [(ad 23), (ad 24)] rfl (fun _ => rfl) rfl hl.1 (Nat.le_of_ble_eq_true rfl) dX5_operatorAt_8 ⟨Nat.zero_le _, Nat.zero_le _⟩ (fun r u H locs hq hP hS => ?_)
  cases hq
  have hP : va_P D classes (wl_X5_operatorAt ad cs tape_size tape_bytes lr_size lr_at lr_fault) H := hP
  have hD : va_D A (wl_X5_operatorAt ad cs tape_size tape_bytes lr_size lr_at lr_fault) := zDk hD [(ad 23), (ad 24), (ad 26)] rfl rfl
  refine lv_istore_n (lv' := [(2, .int r_1), (0, .ref (ad 26)), (1, .int x1)]) hx hb dX5_operatorAt_11 rfl hl (by decide) rfl (fun ls hl => ?_)
  refine lv_iload_n hx hb dX5_operatorAt_12 rfl (lv_at hl 2 rfl) ?_
  by_cases c_14 : x1 = (0 : Int32)
  · have h := zk_t c_14 h
    refine lv_tableIn (tgt := 44) hx hb dX5_operatorAt_13 (by rw [c_14]; decide) (by rw [c_14]; decide) (by rw [c_14]; rfl) (by decide) ?_
    refine lv_iload_n hx hb dX5_operatorAt_44 rfl (lv_at hl 0 rfl) ?_
    refine lv_bipush (v := (124 : Int32)) hx hb dX5_operatorAt_45 (by decide) ?_
    refine lv_icmp_ne (tgt := 55) hx hb dX5_operatorAt_47 (by decide) (fun c_4 => ?_) (fun c_4 => ?_)
    · have h := zk_f c_4 h
      refine lv_iconst (v := (-1 : Int32)) hx hb dX5_operatorAt_55 (by decide) ?_
      exact W.iret (v := (-1 : Int32)) hx hb hr (fun t ht2 hW => ⟨⟨(-1 : Int32), (), rfl, Option.some.inj h, by rw [ht2]; exact hP, hD⟩, hS.F ht2⟩) hS.2.2 dX5_operatorAt_56 hlocks
    · have h := zk_t c_4 h
      refine lv_bipush (v := (6 : Int32)) hx hb dX5_operatorAt_50 (by decide) ?_
      refine lv_goto (tgt := 56) hx hb dX5_operatorAt_52 (by decide) ?_
      exact W.iret (v := (6 : Int32)) hx hb hr (fun t ht2 hW => ⟨⟨(6 : Int32), (), rfl, Option.some.inj h, by rw [ht2]; exact hP, hD⟩, hS.F ht2⟩) hS.2.2 dX5_operatorAt_56 hlocks
  · have h := zk_f c_14 h
    by_cases c_15 : x1 = (1 : Int32)
    · have h := zk_t c_15 h
      refine lv_tableIn (tgt := 57) hx hb dX5_operatorAt_13 (by rw [c_15]; decide) (by rw [c_15]; decide) (by rw [c_15]; rfl) (by decide) ?_
      refine lv_iload_n hx hb dX5_operatorAt_57 rfl (lv_at hl 0 rfl) ?_
      refine lv_bipush (v := (38 : Int32)) hx hb dX5_operatorAt_58 (by decide) ?_
      refine lv_icmp_ne (tgt := 68) hx hb dX5_operatorAt_60 (by decide) (fun c_5 => ?_) (fun c_5 => ?_)
      · have h := zk_f c_5 h
        refine lv_iconst (v := (-1 : Int32)) hx hb dX5_operatorAt_68 (by decide) ?_
        exact W.iret (v := (-1 : Int32)) hx hb hr (fun t ht2 hW => ⟨⟨(-1 : Int32), (), rfl, Option.some.inj h, by rw [ht2]; exact hP, hD⟩, hS.F ht2⟩) hS.2.2 dX5_operatorAt_69 hlocks
      · have h := zk_t c_5 h
        refine lv_bipush (v := (7 : Int32)) hx hb dX5_operatorAt_63 (by decide) ?_
        refine lv_goto (tgt := 69) hx hb dX5_operatorAt_65 (by decide) ?_
        exact W.iret (v := (7 : Int32)) hx hb hr (fun t ht2 hW => ⟨⟨(7 : Int32), (), rfl, Option.some.inj h, by rw [ht2]; exact hP, hD⟩, hS.F ht2⟩) hS.2.2 dX5_operatorAt_69 hlocks
    · have h := zk_f c_15 h
      by_cases c_16 : x1 = (2 : Int32)
      · have h := zk_t c_16 h
        refine lv_tableIn (tgt := 70) hx hb dX5_operatorAt_13 (by rw [c_16]; decide) (by rw [c_16]; decide) (by rw [c_16]; rfl) (by decide) ?_
        refine lv_iload_n hx hb dX5_operatorAt_70 rfl (lv_at hl 0 rfl) ?_
        refine lv_bipush (v := (60 : Int32)) hx hb dX5_operatorAt_71 (by decide) ?_
        refine lv_icmp_ne (tgt := 81) hx hb dX5_operatorAt_73 (by decide) (fun c_6 => ?_) (fun c_6 => ?_)
        · have h := zk_f c_6 h
          refine lv_iload_n hx hb dX5_operatorAt_81 rfl (lv_at hl 0 rfl) ?_
          refine lv_bipush (v := (61 : Int32)) hx hb dX5_operatorAt_82 (by decide) ?_
          refine lv_icmp_ne (tgt := 92) hx hb dX5_operatorAt_84 (by decide) (fun c_7 => ?_) (fun c_7 => ?_)
          · have h := zk_f c_7 h
            refine lv_iload_n hx hb dX5_operatorAt_92 rfl (lv_at hl 0 rfl) ?_
            refine lv_bipush (v := (62 : Int32)) hx hb dX5_operatorAt_93 (by decide) ?_
            refine lv_icmp_ne (tgt := 103) hx hb dX5_operatorAt_95 (by decide) (fun c_8 => ?_) (fun c_8 => ?_)
            · have h := zk_f c_8 h
              refine lv_iconst (v := (-1 : Int32)) hx hb dX5_operatorAt_103 (by decide) ?_
              exact W.iret (v := (-1 : Int32)) hx hb hr (fun t ht2 hW => ⟨⟨(-1 : Int32), (), rfl, Option.some.inj h, by rw [ht2]; exact hP, hD⟩, hS.F ht2⟩) hS.2.2 dX5_operatorAt_104 hlocks
            · have h := zk_t c_8 h
              refine lv_bipush (v := (10 : Int32)) hx hb dX5_operatorAt_98 (by decide) ?_
              refine lv_goto (tgt := 104) hx hb dX5_operatorAt_100 (by decide) ?_
              exact W.iret (v := (10 : Int32)) hx hb hr (fun t ht2 hW => ⟨⟨(10 : Int32), (), rfl, Option.some.inj h, by rw [ht2]; exact hP, hD⟩, hS.F ht2⟩) hS.2.2 dX5_operatorAt_104 hlocks
          · have h := zk_t c_7 h
            refine lv_bipush (v := (9 : Int32)) hx hb dX5_operatorAt_87 (by decide) ?_
            refine lv_goto (tgt := 104) hx hb dX5_operatorAt_89 (by decide) ?_
            exact W.iret (v := (9 : Int32)) hx hb hr (fun t ht2 hW => ⟨⟨(9 : Int32), (), rfl, Option.some.inj h, by rw [ht2]; exact hP, hD⟩, hS.F ht2⟩) hS.2.2 dX5_operatorAt_104 hlocks
        · have h := zk_t c_6 h
          refine lv_bipush (v := (8 : Int32)) hx hb dX5_operatorAt_76 (by decide) ?_
          refine lv_goto (tgt := 104) hx hb dX5_operatorAt_78 (by decide) ?_
          exact W.iret (v := (8 : Int32)) hx hb hr (fun t ht2 hW => ⟨⟨(8 : Int32), (), rfl, Option.some.inj h, by rw [ht2]; exact hP, hD⟩, hS.F ht2⟩) hS.2.2 dX5_operatorAt_104 hlocks
      · have h := zk_f c_16 h
        by_cases c_17 : x1 = (3 : Int32)
        · have h := zk_t c_17 h
          refine lv_tableIn (tgt := 105) hx hb dX5_operatorAt_13 (by rw [c_17]; decide) (by rw [c_17]; decide) (by rw [c_17]; rfl) (by decide) ?_
          refine lv_iload_n hx hb dX5_operatorAt_105 rfl (lv_at hl 0 rfl) ?_
          refine lv_bipush (v := (43 : Int32)) hx hb dX5_operatorAt_106 (by decide) ?_
          refine lv_icmp_ne (tgt := 116) hx hb dX5_operatorAt_108 (by decide) (fun c_9 => ?_) (fun c_9 => ?_)
          · have h := zk_f c_9 h
            refine lv_iload_n hx hb dX5_operatorAt_116 rfl (lv_at hl 0 rfl) ?_
            refine lv_bipush (v := (45 : Int32)) hx hb dX5_operatorAt_117 (by decide) ?_
            refine lv_icmp_ne (tgt := 127) hx hb dX5_operatorAt_119 (by decide) (fun c_10 => ?_) (fun c_10 => ?_)
            · have h := zk_f c_10 h
              refine lv_iconst (v := (-1 : Int32)) hx hb dX5_operatorAt_127 (by decide) ?_
              exact W.iret (v := (-1 : Int32)) hx hb hr (fun t ht2 hW => ⟨⟨(-1 : Int32), (), rfl, Option.some.inj h, by rw [ht2]; exact hP, hD⟩, hS.F ht2⟩) hS.2.2 dX5_operatorAt_128 hlocks
            · have h := zk_t c_10 h
              refine lv_bipush (v := (12 : Int32)) hx hb dX5_operatorAt_122 (by decide) ?_
              refine lv_goto (tgt := 128) hx hb dX5_operatorAt_124 (by decide) ?_
              exact W.iret (v := (12 : Int32)) hx hb hr (fun t ht2 hW => ⟨⟨(12 : Int32), (), rfl, Option.some.inj h, by rw [ht2]; exact hP, hD⟩, hS.F ht2⟩) hS.2.2 dX5_operatorAt_128 hlocks
          · have h := zk_t c_9 h
            refine lv_bipush (v := (11 : Int32)) hx hb dX5_operatorAt_111 (by decide) ?_
            refine lv_goto (tgt := 128) hx hb dX5_operatorAt_113 (by decide) ?_
            exact W.iret (v := (11 : Int32)) hx hb hr (fun t ht2 hW => ⟨⟨(11 : Int32), (), rfl, Option.some.inj h, by rw [ht2]; exact hP, hD⟩, hS.F ht2⟩) hS.2.2 dX5_operatorAt_128 hlocks
        · have h := zk_f c_17 h
          refine lv_tableOut (tgt := 129) hx hb dX5_operatorAt_13 (zk_out (lo := 0) (hi := 3) [(0 : Int32), (1 : Int32), (2 : Int32), (3 : Int32)] (by decide +kernel) (List.forall_mem_cons.mpr ⟨c_14, List.forall_mem_cons.mpr ⟨c_15, List.forall_mem_cons.mpr ⟨c_16, List.forall_mem_cons.mpr ⟨c_17, fun _ h => absurd h List.not_mem_nil⟩⟩⟩⟩)) (by decide) ?_
          refine lv_iload_n hx hb dX5_operatorAt_129 rfl (lv_at hl 0 rfl) ?_
          refine lv_bipush (v := (42 : Int32)) hx hb dX5_operatorAt_130 (by decide) ?_
          refine lv_icmp_ne (tgt := 140) hx hb dX5_operatorAt_132 (by decide) (fun c_11 => ?_) (fun c_11 => ?_)
          · have h := zk_f c_11 h
            refine lv_iload_n hx hb dX5_operatorAt_140 rfl (lv_at hl 0 rfl) ?_
            refine lv_bipush (v := (47 : Int32)) hx hb dX5_operatorAt_141 (by decide) ?_
            refine lv_icmp_ne (tgt := 151) hx hb dX5_operatorAt_143 (by decide) (fun c_12 => ?_) (fun c_12 => ?_)
            · have h := zk_f c_12 h
              refine lv_iload_n hx hb dX5_operatorAt_151 rfl (lv_at hl 0 rfl) ?_
              refine lv_bipush (v := (37 : Int32)) hx hb dX5_operatorAt_152 (by decide) ?_
              refine lv_icmp_ne (tgt := 162) hx hb dX5_operatorAt_154 (by decide) (fun c_13 => ?_) (fun c_13 => ?_)
              · have h := zk_f c_13 h
                refine lv_iconst (v := (-1 : Int32)) hx hb dX5_operatorAt_162 (by decide) ?_
                exact W.iret (v := (-1 : Int32)) hx hb hr (fun t ht2 hW => ⟨⟨(-1 : Int32), (), rfl, Option.some.inj h, by rw [ht2]; exact hP, hD⟩, hS.F ht2⟩) hS.2.2 dX5_operatorAt_163 hlocks
              · have h := zk_t c_13 h
                refine lv_bipush (v := (15 : Int32)) hx hb dX5_operatorAt_157 (by decide) ?_
                refine lv_goto (tgt := 163) hx hb dX5_operatorAt_159 (by decide) ?_
                exact W.iret (v := (15 : Int32)) hx hb hr (fun t ht2 hW => ⟨⟨(15 : Int32), (), rfl, Option.some.inj h, by rw [ht2]; exact hP, hD⟩, hS.F ht2⟩) hS.2.2 dX5_operatorAt_163 hlocks
            · have h := zk_t c_12 h
              refine lv_bipush (v := (14 : Int32)) hx hb dX5_operatorAt_146 (by decide) ?_
              refine lv_goto (tgt := 163) hx hb dX5_operatorAt_148 (by decide) ?_
              exact W.iret (v := (14 : Int32)) hx hb hr (fun t ht2 hW => ⟨⟨(14 : Int32), (), rfl, Option.some.inj h, by rw [ht2]; exact hP, hD⟩, hS.F ht2⟩) hS.2.2 dX5_operatorAt_163 hlocks
          · have h := zk_t c_11 h
            refine lv_bipush (v := (13 : Int32)) hx hb dX5_operatorAt_135 (by decide) ?_
            refine lv_goto (tgt := 163) hx hb dX5_operatorAt_137 (by decide) ?_
            exact W.iret (v := (13 : Int32)) hx hb hr (fun t ht2 hW => ⟨⟨(13 : Int32), (), rfl, Option.some.inj h, by rw [ht2]; exact hP, hD⟩, hS.F ht2⟩) hS.2.2 dX5_operatorAt_163 hlocks
set_option maxHeartbeats 4000000 in
set_option maxRecDepth 100000 in
theorem c_X5_operatorAt (l : Launch) (D : va_G) (cs : Nat → ClassId) (ad : Nat → Nat) (sz : Nat) (x1 : Int32) (tape_size : Int32) (tape_bytes : Nat → Int32) (lr_size : Int32) (lr_at : Int32) (lr_fault : Int32) (R : Int32 × Unit) (h : f_X5_operatorAt   x1 tape_size tape_bytes lr_size lr_at lr_fault = some R) : Met l yX5_operatorAt (z_X5_operatorAt) rm_X5_operatorAt (va_Pc [.ref (ad 26), .int x1] (zPre D cs (wl_X5_operatorAt ad cs tape_size tape_bytes lr_size lr_at lr_fault) sz)) (Q_X5_operatorAt D cs ad tape_size tape_bytes lr_size lr_at lr_fault (va_A (wl_X5_operatorAt ad cs tape_size tape_bytes lr_size lr_at lr_fault) sz) R) 0 0 (va_A (wl_X5_operatorAt ad cs tape_size tape_bytes lr_size lr_at lr_fault) sz) := by
  refine Met.ofW (cc := cX5_operatorAt) (maxL := 3) (ret := (some .int)) (by decide) rfl ?_
  intro p e s m args below meth c s₁ B hml hv
  obtain ⟨rfl, hsz, hP, hK, hD0⟩ := hv
  subst hsz
  have hD := hD0.self (sz := s.heap.size)
  have C0 : zC p s m _ meth c cX5_operatorAt 3 (some .int) RX5 zW := ⟨B.exec, B.bytes, B.returns, hml, findClass_of_methodNamed B.named, fun w hw => atoms_spec (ws := z_X5_operatorAt) B.pre w (List.mem_cons_of_mem _ hw), B.notSynchronized⟩
  have hA : ∀ q : Nat, s.heap.size ≤ q → va_A (wl_X5_operatorAt ad cs tape_size tape_bytes lr_size lr_at lr_fault) s.heap.size q := fun q h => Or.inr h
  have hl := lv_entry ([.ref (ad 26), .int x1]) (n := 3) (Nat.le_of_ble_eq_true rfl)
  rw [lg_entry_eq]
  generalize (lg_sl ([.ref (ad 26), .int x1]) ++ List.replicate (3 - (lg_sl ([.ref (ad 26), .int x1])).length) Slot.unset).toArray = ls at hl ⊢
  exact L_X5_operatorAt_0 C0 hK hA   x1  h s.heap [] ls hP hD va_S.rf hl
theorem kw_557 : Cond.methodLink RX5 71 yX9_isDigitAt ∈ zW := zwC (i := 3) zc_3 rfl rfl
theorem kw_566 : Cond.methodLink RX5 57 yX5_emit ∈ zW := zwC (i := 12) zc_3 rfl rfl
theorem kw_567 : Cond.instanceMethod yX5_emit ∈ zW := zwC (i := 13) zc_3 rfl rfl
theorem kw_568 : Cond.selects RX5 yX5_emit yX5_emit ∈ zW := zwC (i := 14) zc_3 rfl rfl
theorem kw_569 : Cond.code yX5_emit cX5_emit 2 none ∈ zW := zwC (i := 15) zc_3 rfl rfl
theorem zh_cX5_readNumber_0 : zck [3, 60, 3, 61, 28, 7, 162, 0, 53, 42, 180, 0, 15, 42, 180, 0, 19, 182, 0, 71, 153, 0] (zdu 0 cX5_readNumber.data.toList) = true := by decide +kernel
theorem dX5_readNumber_0 : decode cX5_readNumber 0 = .ok (.iconst 0, 1) := zo_3 zh_cX5_readNumber_0 0 rfl
theorem dX5_readNumber_1 : decode cX5_readNumber 1 = .ok (.istore_n 1, 1) := zo_60 zh_cX5_readNumber_0 1 rfl
theorem dX5_readNumber_2 : decode cX5_readNumber 2 = .ok (.iconst 0, 1) := zo_3 zh_cX5_readNumber_0 2 rfl
theorem dX5_readNumber_3 : decode cX5_readNumber 3 = .ok (.istore_n 2, 1) := zo_61 zh_cX5_readNumber_0 3 rfl
theorem dX5_readNumber_4 : decode cX5_readNumber 4 = .ok (.iload_n 2, 1) := zo_28 zh_cX5_readNumber_0 4 rfl
theorem dX5_readNumber_5 : decode cX5_readNumber 5 = .ok (.iconst 4, 1) := zo_7 zh_cX5_readNumber_0 5 rfl
theorem dX5_readNumber_6 : decode cX5_readNumber 6 = .ok (.if_icmp .ge 53, 3) := zo_p162 zh_cX5_readNumber_0 6 53 rfl rfl
theorem dX5_readNumber_9 : decode cX5_readNumber 9 = .ok (.aload_n 0, 1) := zo_42 zh_cX5_readNumber_0 9 rfl
theorem dX5_readNumber_10 : decode cX5_readNumber 10 = .ok (.getfield 15, 3) := zo_180 zh_cX5_readNumber_0 10 rfl
theorem dX5_readNumber_13 : decode cX5_readNumber 13 = .ok (.aload_n 0, 1) := zo_42 zh_cX5_readNumber_0 13 rfl
theorem dX5_readNumber_14 : decode cX5_readNumber 14 = .ok (.getfield 19, 3) := zo_180 zh_cX5_readNumber_0 14 rfl
theorem dX5_readNumber_17 : decode cX5_readNumber 17 = .ok (.invokevirtual 71, 3) := zo_182 zh_cX5_readNumber_0 17 rfl
theorem zh_cX5_readNumber_1 : zck [153, 0, 39, 27, 16, 10, 104, 42, 180, 0, 15, 42, 180, 0, 19, 182, 0, 68, 96, 16, 48, 100] (zdu 20 cX5_readNumber.data.toList) = true := by decide +kernel
theorem dX5_readNumber_20 : decode cX5_readNumber 20 = .ok (.ifCond .eq 39, 3) := zo_p153 zh_cX5_readNumber_1 0 39 rfl rfl
theorem dX5_readNumber_23 : decode cX5_readNumber 23 = .ok (.iload_n 1, 1) := zo_27 zh_cX5_readNumber_1 3 rfl
theorem dX5_readNumber_24 : decode cX5_readNumber 24 = .ok (.bipush 10, 2) := zo_p16 zh_cX5_readNumber_1 4 10 rfl rfl
theorem dX5_readNumber_26 : decode cX5_readNumber 26 = .ok (.imul, 1) := zo_104 zh_cX5_readNumber_1 6 rfl
theorem dX5_readNumber_27 : decode cX5_readNumber 27 = .ok (.aload_n 0, 1) := zo_42 zh_cX5_readNumber_1 7 rfl
theorem dX5_readNumber_28 : decode cX5_readNumber 28 = .ok (.getfield 15, 3) := zo_180 zh_cX5_readNumber_1 8 rfl
theorem dX5_readNumber_31 : decode cX5_readNumber 31 = .ok (.aload_n 0, 1) := zo_42 zh_cX5_readNumber_1 11 rfl
theorem dX5_readNumber_32 : decode cX5_readNumber 32 = .ok (.getfield 19, 3) := zo_180 zh_cX5_readNumber_1 12 rfl
theorem dX5_readNumber_35 : decode cX5_readNumber 35 = .ok (.invokevirtual 68, 3) := zo_182 zh_cX5_readNumber_1 15 rfl
theorem dX5_readNumber_38 : decode cX5_readNumber 38 = .ok (.iadd, 1) := zo_96 zh_cX5_readNumber_1 18 rfl
theorem dX5_readNumber_39 : decode cX5_readNumber 39 = .ok (.bipush 48, 2) := zo_p16 zh_cX5_readNumber_1 19 48 rfl rfl
theorem zh_cX5_readNumber_2 : zck [48, 100, 60, 42, 89, 180, 0, 19, 4, 96, 181, 0, 19, 132, 2, 1, 167, 255, 204, 42, 27, 8] (zdu 40 cX5_readNumber.data.toList) = true := by decide +kernel
theorem dX5_readNumber_41 : decode cX5_readNumber 41 = .ok (.isub, 1) := zo_100 zh_cX5_readNumber_2 1 rfl
theorem dX5_readNumber_42 : decode cX5_readNumber 42 = .ok (.istore_n 1, 1) := zo_60 zh_cX5_readNumber_2 2 rfl
theorem dX5_readNumber_43 : decode cX5_readNumber 43 = .ok (.aload_n 0, 1) := zo_42 zh_cX5_readNumber_2 3 rfl
theorem dX5_readNumber_44 : decode cX5_readNumber 44 = .ok (.dup, 1) := zo_89 zh_cX5_readNumber_2 4 rfl
theorem dX5_readNumber_45 : decode cX5_readNumber 45 = .ok (.getfield 19, 3) := zo_180 zh_cX5_readNumber_2 5 rfl
theorem dX5_readNumber_48 : decode cX5_readNumber 48 = .ok (.iconst 1, 1) := zo_4 zh_cX5_readNumber_2 8 rfl
theorem dX5_readNumber_49 : decode cX5_readNumber 49 = .ok (.iadd, 1) := zo_96 zh_cX5_readNumber_2 9 rfl
theorem dX5_readNumber_50 : decode cX5_readNumber 50 = .ok (.putfield 19, 3) := zo_181 zh_cX5_readNumber_2 10 rfl
theorem dX5_readNumber_53 : decode cX5_readNumber 53 = .ok (.iinc 2 1, 3) := zo_p132 zh_cX5_readNumber_2 13 1 rfl rfl
theorem dX5_readNumber_56 : decode cX5_readNumber 56 = .ok (.goto (-52), 3) := zo_n167 zh_cX5_readNumber_2 16 51 rfl rfl
theorem dX5_readNumber_59 : decode cX5_readNumber 59 = .ok (.aload_n 0, 1) := zo_42 zh_cX5_readNumber_2 19 rfl
theorem zh_cX5_readNumber_3 : zck [27, 8, 120, 3, 128, 182, 0, 57, 177] (zdu 60 cX5_readNumber.data.toList) = true := by decide +kernel
theorem dX5_readNumber_60 : decode cX5_readNumber 60 = .ok (.iload_n 1, 1) := zo_27 zh_cX5_readNumber_3 0 rfl
theorem dX5_readNumber_61 : decode cX5_readNumber 61 = .ok (.iconst 5, 1) := zo_8 zh_cX5_readNumber_3 1 rfl
theorem dX5_readNumber_62 : decode cX5_readNumber 62 = .ok (.ishl, 1) := zo_120 zh_cX5_readNumber_3 2 rfl
theorem dX5_readNumber_63 : decode cX5_readNumber 63 = .ok (.iconst 0, 1) := zo_3 zh_cX5_readNumber_3 3 rfl
theorem dX5_readNumber_64 : decode cX5_readNumber 64 = .ok (.ior, 1) := zo_128 zh_cX5_readNumber_3 4 rfl
theorem dX5_readNumber_65 : decode cX5_readNumber 65 = .ok (.invokevirtual 57, 3) := zo_182 zh_cX5_readNumber_3 5 rfl
theorem dX5_readNumber_68 : decode cX5_readNumber 68 = .ok (.return_, 1) := zo_177 zh_cX5_readNumber_3 8 rfl
abbrev z_X5_readNumber : List Cond := .code yX5_readNumber cX5_readNumber 3 none :: zW
abbrev wl_X5_readNumber (ad : Nat → Nat) (cs : Nat → ClassId)  (tape_size : Int32) (tape_bytes : Nat → Int32) (lr_size : Int32) (lr_at : Int32) (lr_fault : Int32) (lr_code : Nat → Int32) : va_W := [((ad 23), .inr (9, [.ref (ad 24), .int tape_size])), ((ad 24), .inl (cs 0, 120, .inl tape_bytes)), ((ad 26), .inr (5, [.ref (ad 23), .ref (ad 27), .int lr_size, .int lr_at, .int lr_fault])), ((ad 27), .inl (cs 0, 121, .inl lr_code))]
def Q_X5_readNumber (D : va_G) (cs : Nat → ClassId) (ad : Nat → Nat)  (tape_size : Int32) (tape_bytes : Nat → Int32) (lr_fault : Int32) (A : Nat → Prop) (R : Int32 × Int32 × (Nat → Int32)) : Array Value → State → Outcome → State → Prop :=
  va_Qv (fun u : Int32 × Int32 × (Nat → Int32) => u = R) (fun (u : Int32 × Int32 × (Nat → Int32)) (t : State) => va_P D classes (wl_X5_readNumber ad cs tape_size tape_bytes u.1 u.2.1 lr_fault u.2.2) t.heap ∧ va_D A (wl_X5_readNumber ad cs tape_size tape_bytes u.1 u.2.1 lr_fault u.2.2)) A
abbrev rm_X5_readNumber : Room := { frames := 2, cells := 0, slots := 0, locals := 43 }
theorem g_X5_57 : GoodIn zW (wsV RX5 57 RX5 yX5_emit z_X5_emit) := zGV kw_566 kw_567 kw_568 kw_80 kw_569
theorem g_X5_71 : GoodIn zW (wsV RX5 71 RX9 yX9_isDigitAt z_X9_isDigitAt) := zGV kw_557 kw_558 kw_559 kw_78 kw_560
theorem hd_X5_emit : yX5_emit.cls ≠ "java/lang/invoke/MethodHandle" ∧ yX5_emit.cls ≠ "java/lang/invoke/VarHandle" ∧ (parseMethodDescriptor yX5_emit.desc).map (fun d => d.parameters.length) = some 1 := by decide +kernel
def B_X5_readNumber_59   (g4 : Int32 → Int32 → Int32 → Int32 → (Nat → Int32) → (Option (Int32 × Int32 × (Nat → Int32)))) (tape_size : Int32) (tape_bytes : Nat → Int32) (lr_fault : Int32) (x1 : Int32) (lr_size : Int32) (lr_at : Int32) (lr_code : Nat → Int32) : Option (Int32 × Int32 × (Nat → Int32)) :=
  (zk_b2 (f_X5_emit ((x1 <<< ((5 : Int32) &&& 31)) ||| (0 : Int32)) lr_size lr_at lr_fault lr_code) (fun u_12 u_13 => (some (u_12, lr_at, u_13))))
def B_X5_readNumber_4   (g4 : Int32 → Int32 → Int32 → Int32 → (Nat → Int32) → (Option (Int32 × Int32 × (Nat → Int32)))) (tape_size : Int32) (tape_bytes : Nat → Int32) (lr_fault : Int32) (x1 : Int32) (x2 : Int32) (lr_size : Int32) (lr_at : Int32) (lr_code : Nat → Int32) : Option (Int32 × Int32 × (Nat → Int32)) :=
  (if (4 : Int32) ≤ x2 then (B_X5_readNumber_59 g4 tape_size tape_bytes lr_fault x1 lr_size lr_at lr_code) else (zk_b2 (f_X9_isDigitAt lr_at tape_size tape_bytes) (fun r_2 u_3 => (if r_2 = 0 then (B_X5_readNumber_59 g4 tape_size tape_bytes lr_fault x1 lr_size lr_at lr_code) else (zk_b2 (f_X9_byteAt lr_at tape_size tape_bytes) (fun r_6 u_7 => (zk_let (((x1 * (10 : Int32)) + r_6) - (48 : Int32)) (fun v_9 => (zk_let (lr_at + (1 : Int32)) (fun v_10 => (zk_let (x2 + (1 : Int32)) (fun v_11 => (g4 v_9 v_11 lr_size v_10 lr_code)))))))))))))
def B_X5_readNumber_0   (g4 : Int32 → Int32 → Int32 → Int32 → (Nat → Int32) → (Option (Int32 × Int32 × (Nat → Int32)))) (tape_size : Int32) (tape_bytes : Nat → Int32) (lr_fault : Int32) (lr_size : Int32) (lr_at : Int32) (lr_code : Nat → Int32) : Option (Int32 × Int32 × (Nat → Int32)) :=
  (g4 (0 : Int32) (0 : Int32) lr_size lr_at lr_code)
def G_X5_readNumber   (tape_size : Int32) (tape_bytes : Nat → Int32) (lr_fault : Int32) (n : Nat) : (Int32 → Int32 → Int32 → Int32 → (Nat → Int32) → (Option (Int32 × Int32 × (Nat → Int32)))) :=
  Nat.rec (motive := fun _ => (Int32 → Int32 → Int32 → Int32 → (Nat → Int32) → (Option (Int32 × Int32 × (Nat → Int32))))) ((fun _ _ _ _ _ => none)) (fun _ ih => (B_X5_readNumber_4   ih tape_size tape_bytes lr_fault)) n
def f_X5_readNumber   (n : Nat)  (tape_size : Int32) (tape_bytes : Nat → Int32) (lr_size : Int32) (lr_at : Int32) (lr_fault : Int32) (lr_code : Nat → Int32) : Option (Int32 × Int32 × (Nat → Int32)) := B_X5_readNumber_0   ((G_X5_readNumber   tape_size tape_bytes lr_fault n)) tape_size tape_bytes lr_fault  lr_size lr_at lr_code
set_option maxHeartbeats 4000000 in
set_option maxRecDepth 100000 in
theorem L_X5_readNumber_59 {p : Program} {l : Launch} {e : Env} {s : State} {m : MethodId} {args : Array Value} {below : List Frame} {meth : Method} {c : Code} {A : Nat → Prop} {D : va_G} {cs : Nat → ClassId} {ad : Nat → Nat} {tape_size : Int32} {tape_bytes : Nat → Int32} {lr_fault : Int32} {R : Int32 × Int32 × (Nat → Int32)} {g4 : Int32 → Int32 → Int32 → Int32 → (Nat → Int32) → (Option (Int32 × Int32 × (Nat → Int32)))} (C0 : zC p s m args meth c cX5_readNumber 3 none RX5 zW) (hK : va_K D classes (zT cs) s) (hA : ∀ q : Nat, s.heap.size ≤ q → A q) (ih4 : ∀ (x1 : Int32) (x2 : Int32) (lr_size : Int32) (lr_at : Int32) (lr_code : Nat → Int32) (h : g4 x1 x2 lr_size lr_at lr_code = some R) (H : Heap) (locs : List Loc) (ls : Array Slot) (hP : va_P D classes (wl_X5_readNumber ad cs tape_size tape_bytes lr_size lr_at lr_fault lr_code) H) (hD : va_D A (wl_X5_readNumber ad cs tape_size tape_bytes lr_size lr_at lr_fault lr_code)) (hS : va_S A s.heap H locs) (hl : lv_has ls 3 [(0, .ref (ad 26)), (1, .int x1), (2, .int x2)]), W p l e rm_X5_readNumber s m args below meth c H locs 0 0 (MQ below (Q_X5_readNumber D cs ad tape_size tape_bytes lr_fault A R) args s 0 0 A) (F0 m 4 ls [])) (x1 : Int32) (lr_size : Int32) (lr_at : Int32) (lr_code : Nat → Int32) (h : B_X5_readNumber_59 g4 tape_size tape_bytes lr_fault x1 lr_size lr_at lr_code = some R) (H : Heap) (locs : List Loc) (ls : Array Slot) (hP : va_P D classes (wl_X5_readNumber ad cs tape_size tape_bytes lr_size lr_at lr_fault lr_code) H) (hD : va_D A (wl_X5_readNumber ad cs tape_size tape_bytes lr_size lr_at lr_fault lr_code)) (hS : va_S A s.heap H locs) (hl : lv_has ls 3 [(0, .ref (ad 26)), (1, .int x1)]) : W p l e rm_X5_readNumber s m args below meth c H locs 0 0 (MQ below (Q_X5_readNumber D cs ad tape_size tape_bytes lr_fault A R) args s 0 0 A) (F0 m 59 ls []) := by
  obtain ⟨hx, hb, hr, hml, hown, ht, hlocks⟩ := id C0
  refine lv_aload_n hx hb dX5_readNumber_59 rfl (lv_at hl 0 rfl) ?_
  refine lv_iload_n hx hb dX5_readNumber_60 rfl (lv_at hl 1 rfl) ?_
  refine lv_iconst (v := (5 : Int32)) hx hb dX5_readNumber_61 (by decide) ?_
  refine lv_ishl hx hb dX5_readNumber_62 ?_
  refine lv_iconst (v := (0 : Int32)) hx hb dX5_readNumber_63 (by decide) ?_
  refine lv_ior hx hb dX5_readNumber_64 ?_
  obtain ⟨u_12, u_13, hc_14, h⟩ := zk_o2 h
  refine zz_vv (post := (fun u => u = (u_12, u_13))) (w1 := fun u => (wl_X5_emit ad cs u.1 lr_at lr_fault u.2)) (As := [.int ((x1 <<< ((5 : Int32) &&& 31)) ||| (0 : Int32))]) (rest := []) (c_X5_emit l D cs ad  H.size ((x1 <<< ((5 : Int32) &&& 31)) ||| (0 : Int32)) lr_size lr_at lr_fault lr_code (u_12, u_13) hc_14) ⟨hx, hb, hml, hown, ht⟩ (cwV 1 ht g_X5_57 rfl rfl rfl ⟨rfl, hd_X5_emit⟩ ⟨Nat.le_of_ble_eq_true rfl, Nat.le_of_ble_eq_true rfl⟩) (va_recv hK hP (ci := 5) (q0 := 2) rfl rfl) hP hD hS hK hA [2, 3] rfl rfl [(ad 26), (ad 27)] rfl (fun _ => rfl) rfl hl.1 (Nat.le_of_ble_eq_true rfl) dX5_readNumber_65 ⟨Nat.zero_le _, Nat.zero_le _⟩ (fun u H locs hq hP hS => ?_)
  cases hq
  have hP : va_P D classes (wl_X5_readNumber ad cs tape_size tape_bytes u_12 lr_at lr_fault u_13) H := hP
  have hD : va_D A (wl_X5_readNumber ad cs tape_size tape_bytes u_12 lr_at lr_fault u_13) := zDk hD [(ad 23), (ad 24), (ad 26), (ad 27)] rfl rfl
  exact W.vret hx hb hr (fun t ht2 hW => ⟨⟨(u_12, lr_at, u_13), rfl, Option.some.inj h, by rw [ht2]; exact hP, hD⟩, hS.F ht2⟩) hS.2.2 dX5_readNumber_68 hlocks
set_option maxHeartbeats 4000000 in
set_option maxRecDepth 100000 in
theorem L_X5_readNumber_4 {p : Program} {l : Launch} {e : Env} {s : State} {m : MethodId} {args : Array Value} {below : List Frame} {meth : Method} {c : Code} {A : Nat → Prop} {D : va_G} {cs : Nat → ClassId} {ad : Nat → Nat} {tape_size : Int32} {tape_bytes : Nat → Int32} {lr_fault : Int32} {R : Int32 × Int32 × (Nat → Int32)} {g4 : Int32 → Int32 → Int32 → Int32 → (Nat → Int32) → (Option (Int32 × Int32 × (Nat → Int32)))} (C0 : zC p s m args meth c cX5_readNumber 3 none RX5 zW) (hK : va_K D classes (zT cs) s) (hA : ∀ q : Nat, s.heap.size ≤ q → A q) (ih4 : ∀ (x1 : Int32) (x2 : Int32) (lr_size : Int32) (lr_at : Int32) (lr_code : Nat → Int32) (h : g4 x1 x2 lr_size lr_at lr_code = some R) (H : Heap) (locs : List Loc) (ls : Array Slot) (hP : va_P D classes (wl_X5_readNumber ad cs tape_size tape_bytes lr_size lr_at lr_fault lr_code) H) (hD : va_D A (wl_X5_readNumber ad cs tape_size tape_bytes lr_size lr_at lr_fault lr_code)) (hS : va_S A s.heap H locs) (hl : lv_has ls 3 [(0, .ref (ad 26)), (1, .int x1), (2, .int x2)]), W p l e rm_X5_readNumber s m args below meth c H locs 0 0 (MQ below (Q_X5_readNumber D cs ad tape_size tape_bytes lr_fault A R) args s 0 0 A) (F0 m 4 ls [])) (x1 : Int32) (x2 : Int32) (lr_size : Int32) (lr_at : Int32) (lr_code : Nat → Int32) (h : B_X5_readNumber_4 g4 tape_size tape_bytes lr_fault x1 x2 lr_size lr_at lr_code = some R) (H : Heap) (locs : List Loc) (ls : Array Slot) (hP : va_P D classes (wl_X5_readNumber ad cs tape_size tape_bytes lr_size lr_at lr_fault lr_code) H) (hD : va_D A (wl_X5_readNumber ad cs tape_size tape_bytes lr_size lr_at lr_fault lr_code)) (hS : va_S A s.heap H locs) (hl : lv_has ls 3 [(0, .ref (ad 26)), (1, .int x1), (2, .int x2)]) : W p l e rm_X5_readNumber s m args below meth c H locs 0 0 (MQ below (Q_X5_readNumber D cs ad tape_size tape_bytes lr_fault A R) args s 0 0 A) (F0 m 4 ls []) := by
  obtain ⟨hx, hb, hr, hml, hown, ht, hlocks⟩ := id C0
  refine lv_iload_n hx hb dX5_readNumber_4 rfl (lv_at hl 2 rfl) ?_
  refine lv_iconst (v := (4 : Int32)) hx hb dX5_readNumber_5 (by decide) ?_
  refine lv_icmp_ge (tgt := 59) hx hb dX5_readNumber_6 (by decide) (fun c_1 => ?_) (fun c_1 => ?_)
  · have h := zk_t c_1 h
    exact L_X5_readNumber_59 C0 hK hA  ih4 x1 lr_size lr_at lr_code h H locs ls hP hD hS (lv_sub hl [0, 1] rfl)
  · have h := zk_f c_1 h
    refine lv_aload_n hx hb dX5_readNumber_9 rfl (lv_at hl 0 rfl) ?_
    refine va_get (D := D) (ci := 5) (v := .ref (ad 23)) (C := RX5) (T := TX5) (N := 5) hx hb ht iX5 hown hK hP 2 rfl rfl 0 (by decide) (ht _ kw_274) (fun _ h9 => h9) rfl dX5_readNumber_10 ?_
    refine lv_aload_n hx hb dX5_readNumber_13 rfl (lv_at hl 0 rfl) ?_
    refine va_get (D := D) (ci := 5) (v := .int lr_at) (C := RX5) (T := TX5) (N := 5) hx hb ht iX5 hown hK hP 2 rfl rfl 3 (by decide) (ht _ kw_277) (fun _ h9 => h9) rfl dX5_readNumber_14 ?_
    obtain ⟨r_2, u_3, hc_4, h⟩ := zk_o2 h
    refine zz_vi (post := (fun r u => (r, u) = (r_2, u_3))) (w1 := fun u => (wl_X9_isDigitAt ad cs tape_size tape_bytes)) (As := [.int lr_at]) (rest := []) (c_X9_isDigitAt l D cs ad  H.size lr_at tape_size tape_bytes (r_2, u_3) hc_4) ⟨hx, hb, hml, hown, ht⟩ (cwV 1 ht g_X5_71 rfl rfl rfl ⟨rfl, hd_X9_isDigitAt⟩ ⟨Nat.le_of_ble_eq_true rfl, Nat.le_of_ble_eq_true rfl⟩) (va_recv hK hP (ci := 9) (q0 := 0) rfl rfl) hP hD hS hK hA [0, 1] rfl rfl [(ad 23), (ad 24)] rfl (fun _ => rfl) rfl hl.1 (Nat.le_of_ble_eq_true rfl) dX5_readNumber_17 ⟨Nat.zero_le _, Nat.zero_le _⟩ (fun r u H locs hq hP hS => ?_)
    cases hq
    have hP : va_P D classes (wl_X5_readNumber ad cs tape_size tape_bytes lr_size lr_at lr_fault lr_code) H := hP
    have hD : va_D A (wl_X5_readNumber ad cs tape_size tape_bytes lr_size lr_at lr_fault lr_code) := zDk hD [(ad 23), (ad 24), (ad 26), (ad 27)] rfl rfl
    refine lv_if_eq (tgt := 59) hx hb dX5_readNumber_20 (by decide) (fun c_5 => ?_) (fun c_5 => ?_)
    · have h := zk_t c_5 h
      exact L_X5_readNumber_59 C0 hK hA  ih4 x1 lr_size lr_at lr_code h H locs ls hP hD hS (lv_sub hl [0, 1] rfl)
    · have h := zk_f c_5 h
      refine lv_iload_n hx hb dX5_readNumber_23 rfl (lv_at hl 1 rfl) ?_
      refine lv_bipush (v := (10 : Int32)) hx hb dX5_readNumber_24 (by decide) ?_
      refine lv_imul hx hb dX5_readNumber_26 ?_
      refine lv_aload_n hx hb dX5_readNumber_27 rfl (lv_at hl 0 rfl) ?_
      refine va_get (D := D) (ci := 5) (v := .ref (ad 23)) (C := RX5) (T := TX5) (N := 5) hx hb ht iX5 hown hK hP 2 rfl rfl 0 (by decide) (ht _ kw_274) (fun _ h9 => h9) rfl dX5_readNumber_28 ?_
      refine lv_aload_n hx hb dX5_readNumber_31 rfl (lv_at hl 0 rfl) ?_
      refine va_get (D := D) (ci := 5) (v := .int lr_at) (C := RX5) (T := TX5) (N := 5) hx hb ht iX5 hown hK hP 2 rfl rfl 3 (by decide) (ht _ kw_277) (fun _ h9 => h9) rfl dX5_readNumber_32 ?_
      obtain ⟨r_6, u_7, hc_8, h⟩ := zk_o2 h
      refine zz_vi (post := (fun r u => (r, u) = (r_6, u_7))) (w1 := fun u => (wl_X9_byteAt ad cs tape_size tape_bytes)) (As := [.int lr_at]) (rest := [.int (x1 * (10 : Int32))]) (c_X9_byteAt l D cs ad  H.size lr_at tape_size tape_bytes (r_6, u_7) hc_8) ⟨hx, hb, hml, hown, ht⟩ (cwV 1 ht g_X5_68 rfl rfl rfl ⟨rfl, hd_X9_byteAt⟩ ⟨Nat.le_of_ble_eq_true rfl, Nat.le_of_ble_eq_true rfl⟩) (va_recv hK hP (ci := 9) (q0 := 0) rfl rfl) hP hD hS hK hA [0, 1] rfl rfl [(ad 23), (ad 24)] rfl (fun _ => rfl) rfl hl.1 (Nat.le_of_ble_eq_true rfl) dX5_readNumber_35 ⟨Nat.zero_le _, Nat.zero_le _⟩ (fun r u H locs hq hP hS => ?_)
      cases hq
      have hP : va_P D classes (wl_X5_readNumber ad cs tape_size tape_bytes lr_size lr_at lr_fault lr_code) H := hP
      have hD : va_D A (wl_X5_readNumber ad cs tape_size tape_bytes lr_size lr_at lr_fault lr_code) := zDk hD [(ad 23), (ad 24), (ad 26), (ad 27)] rfl rfl
      refine lv_iadd hx hb dX5_readNumber_38 ?_
      refine lv_bipush (v := (48 : Int32)) hx hb dX5_readNumber_39 (by decide) ?_
      refine lv_isub hx hb dX5_readNumber_41 ?_
      obtain ⟨v_9, ev_9, h⟩ := zk_lt h
      refine W.eq (g2 := F0 m 42 ls [.int v_9]) (by rw [ev_9]) ?_
      refine lv_istore_n (lv' := [(1, .int v_9), (0, .ref (ad 26)), (2, .int x2)]) hx hb dX5_readNumber_42 rfl hl (by decide) rfl (fun ls hl => ?_)
      refine lv_aload_n hx hb dX5_readNumber_43 rfl (lv_at hl 1 rfl) ?_
      refine lv_dup hx hb dX5_readNumber_44 rfl ?_
      refine va_get (D := D) (ci := 5) (v := .int lr_at) (C := RX5) (T := TX5) (N := 5) hx hb ht iX5 hown hK hP 2 rfl rfl 3 (by decide) (ht _ kw_277) (fun _ h9 => h9) rfl dX5_readNumber_45 ?_
      refine lv_iconst (v := (1 : Int32)) hx hb dX5_readNumber_48 (by decide) ?_
      refine lv_iadd hx hb dX5_readNumber_49 ?_
      obtain ⟨v_10, ev_10, h⟩ := zk_lt h
      refine W.eq (g2 := F0 m 50 ls [.int v_10, .ref (ad 26)]) (by rw [ev_10]) ?_
      refine va_put (D := D) (ci := 5) (v := .int v_10) (ty := .int) (C := RX5) (T := TX5) (N := 5) hx hb ht iX5 tyX5 tyX5_ok nmX5 hown hK hP hD hS 2 rfl rfl 3 (by decide) (ht _ kw_277) (fun _ h9 => h9) rfl (by decide +kernel) rfl rfl (Nat.le_of_ble_eq_true rfl) dX5_readNumber_50 (fun H locs hP hD hS => ?_)
      have hP : va_P D classes (wl_X5_readNumber ad cs tape_size tape_bytes lr_size v_10 lr_fault lr_code) H := hP
      have hD : va_D A (wl_X5_readNumber ad cs tape_size tape_bytes lr_size v_10 lr_fault lr_code) := hD
      obtain ⟨v_11, ev_11, h⟩ := zk_lt h
      refine lv_iinc (v := v_11) (lv' := [(2, .int v_11), (1, .int v_9), (0, .ref (ad 26))]) hx hb dX5_readNumber_53 hl (k := 2) rfl (by rw [ev_11]; rfl) (by decide) rfl (fun ls hl => ?_)
      refine lv_goto (tgt := 4) hx hb dX5_readNumber_56 (by decide) ?_
      exact ih4 v_9 v_11 lr_size v_10 lr_code h H locs ls hP hD hS (lv_sub hl [2, 1, 0] rfl)
set_option maxHeartbeats 4000000 in
set_option maxRecDepth 100000 in
theorem L_X5_readNumber_0 {p : Program} {l : Launch} {e : Env} {s : State} {m : MethodId} {args : Array Value} {below : List Frame} {meth : Method} {c : Code} {A : Nat → Prop} {D : va_G} {cs : Nat → ClassId} {ad : Nat → Nat} {tape_size : Int32} {tape_bytes : Nat → Int32} {lr_fault : Int32} {R : Int32 × Int32 × (Nat → Int32)} {g4 : Int32 → Int32 → Int32 → Int32 → (Nat → Int32) → (Option (Int32 × Int32 × (Nat → Int32)))} (C0 : zC p s m args meth c cX5_readNumber 3 none RX5 zW) (hK : va_K D classes (zT cs) s) (hA : ∀ q : Nat, s.heap.size ≤ q → A q) (ih4 : ∀ (x1 : Int32) (x2 : Int32) (lr_size : Int32) (lr_at : Int32) (lr_code : Nat → Int32) (h : g4 x1 x2 lr_size lr_at lr_code = some R) (H : Heap) (locs : List Loc) (ls : Array Slot) (hP : va_P D classes (wl_X5_readNumber ad cs tape_size tape_bytes lr_size lr_at lr_fault lr_code) H) (hD : va_D A (wl_X5_readNumber ad cs tape_size tape_bytes lr_size lr_at lr_fault lr_code)) (hS : va_S A s.heap H locs) (hl : lv_has ls 3 [(0, .ref (ad 26)), (1, .int x1), (2, .int x2)]), W p l e rm_X5_readNumber s m args below meth c H locs 0 0 (MQ below (Q_X5_readNumber D cs ad tape_size tape_bytes lr_fault A R) args s 0 0 A) (F0 m 4 ls [])) (lr_size : Int32) (lr_at : Int32) (lr_code : Nat → Int32) (h : B_X5_readNumber_0 g4 tape_size tape_bytes lr_fault lr_size lr_at lr_code = some R) (H : Heap) (locs : List Loc) (ls : Array Slot) (hP : va_P D classes (wl_X5_readNumber ad cs tape_size tape_bytes lr_size lr_at lr_fault lr_code) H) (hD : va_D A (wl_X5_readNumber ad cs tape_size tape_bytes lr_size lr_at lr_fault lr_code)) (hS : va_S A s.heap H locs) (hl : lv_has ls 3 [(0, .ref (ad 26))]) : W p l e rm_X5_readNumber s m args below meth c H locs 0 0 (MQ below (Q_X5_readNumber D cs ad tape_size tape_bytes lr_fault A R) args s 0 0 A) (F0 m 0 ls []) := by
  obtain ⟨hx, hb, hr, hml, hown, ht, hlocks⟩ := id C0
  refine lv_iconst (v := (0 : Int32)) hx hb dX5_readNumber_0 (by decide) ?_
  refine lv_istore_n (lv' := [(1, .int (0 : Int32)), (0, .ref (ad 26))]) hx hb dX5_readNumber_1 rfl hl (by decide) rfl (fun ls hl => ?_)
  refine lv_iconst (v := (0 : Int32)) hx hb dX5_readNumber_2 (by decide) ?_
  refine lv_istore_n (lv' := [(2, .int (0 : Int32)), (1, .int (0 : Int32)), (0, .ref (ad 26))]) hx hb dX5_readNumber_3 rfl hl (by decide) rfl (fun ls hl => ?_)
  exact ih4 (0 : Int32) (0 : Int32) lr_size lr_at lr_code h H locs ls hP hD hS (lv_sub hl [2, 1, 0] rfl)
theorem LG_X5_readNumber {p : Program} {l : Launch} {e : Env} {s : State} {m : MethodId} {args : Array Value} {below : List Frame} {meth : Method} {c : Code} {A : Nat → Prop} {D : va_G} {cs : Nat → ClassId} {ad : Nat → Nat} {tape_size : Int32} {tape_bytes : Nat → Int32} {lr_fault : Int32} {R : Int32 × Int32 × (Nat → Int32)} (C0 : zC p s m args meth c cX5_readNumber 3 none RX5 zW) (hK : va_K D classes (zT cs) s) (hA : ∀ q : Nat, s.heap.size ≤ q → A q) : ∀ n : Nat, (∀ (x1 : Int32) (x2 : Int32) (lr_size : Int32) (lr_at : Int32) (lr_code : Nat → Int32) (h : (G_X5_readNumber   tape_size tape_bytes lr_fault n) x1 x2 lr_size lr_at lr_code = some R) (H : Heap) (locs : List Loc) (ls : Array Slot) (hP : va_P D classes (wl_X5_readNumber ad cs tape_size tape_bytes lr_size lr_at lr_fault lr_code) H) (hD : va_D A (wl_X5_readNumber ad cs tape_size tape_bytes lr_size lr_at lr_fault lr_code)) (hS : va_S A s.heap H locs) (hl : lv_has ls 3 [(0, .ref (ad 26)), (1, .int x1), (2, .int x2)]), W p l e rm_X5_readNumber s m args below meth c H locs 0 0 (MQ below (Q_X5_readNumber D cs ad tape_size tape_bytes lr_fault A R) args s 0 0 A) (F0 m 4 ls [])) := by
  intro n
  induction n with
  | zero =>
    refine ?_ <;> (intros; rename_i h _ _ _ _ _ _ _; cases h)
  | succ n ih =>
    exact L_X5_readNumber_4 C0 hK hA  ih
set_option maxHeartbeats 4000000 in
set_option maxRecDepth 100000 in
theorem c_X5_readNumber (l : Launch) (D : va_G) (cs : Nat → ClassId) (ad : Nat → Nat) (sz : Nat) (n : Nat)  (tape_size : Int32) (tape_bytes : Nat → Int32) (lr_size : Int32) (lr_at : Int32) (lr_fault : Int32) (lr_code : Nat → Int32) (R : Int32 × Int32 × (Nat → Int32)) (h : f_X5_readNumber   n  tape_size tape_bytes lr_size lr_at lr_fault lr_code = some R) : Met l yX5_readNumber (z_X5_readNumber) rm_X5_readNumber (va_Pc [.ref (ad 26)] (zPre D cs (wl_X5_readNumber ad cs tape_size tape_bytes lr_size lr_at lr_fault lr_code) sz)) (Q_X5_readNumber D cs ad tape_size tape_bytes lr_fault (va_A (wl_X5_readNumber ad cs tape_size tape_bytes lr_size lr_at lr_fault lr_code) sz) R) 0 0 (va_A (wl_X5_readNumber ad cs tape_size tape_bytes lr_size lr_at lr_fault lr_code) sz) := by
  refine Met.ofW (cc := cX5_readNumber) (maxL := 3) (ret := none) (by decide) rfl ?_
  intro p e s m args below meth c s₁ B hml hv
  obtain ⟨rfl, hsz, hP, hK, hD0⟩ := hv
  subst hsz
  have hD := hD0.self (sz := s.heap.size)
  have C0 : zC p s m _ meth c cX5_readNumber 3 none RX5 zW := ⟨B.exec, B.bytes, B.returns, hml, findClass_of_methodNamed B.named, fun w hw => atoms_spec (ws := z_X5_readNumber) B.pre w (List.mem_cons_of_mem _ hw), B.notSynchronized⟩
  have hA : ∀ q : Nat, s.heap.size ≤ q → va_A (wl_X5_readNumber ad cs tape_size tape_bytes lr_size lr_at lr_fault lr_code) s.heap.size q := fun q h => Or.inr h
  have hl := lv_entry ([.ref (ad 26)]) (n := 3) (Nat.le_of_ble_eq_true rfl)
  rw [lg_entry_eq]
  generalize (lg_sl ([.ref (ad 26)]) ++ List.replicate (3 - (lg_sl ([.ref (ad 26)])).length) Slot.unset).toArray = ls at hl ⊢
  exact L_X5_readNumber_0 C0 hK hA  ((LG_X5_readNumber C0 hK hA  n))  lr_size lr_at lr_code h s.heap [] ls hP hD va_S.rf hl
theorem kw_587 : Cond.methodLink RX5 85 yJ0_indexOf_0f7a4 ∈ zW := zwC (i := 33) zc_3 rfl rfl
theorem kw_588 : Cond.instanceMethod yJ0_indexOf_0f7a4 ∈ zW := zwC (i := 34) zc_3 rfl rfl
theorem kw_589 : Cond.selects RJ0 yJ0_indexOf_0f7a4 yJ0_indexOf_0f7a4 ∈ zW := zwC (i := 35) zc_3 rfl rfl
theorem kw_590 : Cond.code yJ0_indexOf_0f7a4 cJ0_indexOf_0f7a4 2 (some .int) ∈ zW := zwC (i := 36) zc_3 rfl rfl
theorem zh_cX5_readName_0 : zck [27, 156, 0, 7, 2, 167, 0, 10, 18, 83, 27, 146, 182, 0, 85, 61, 28, 156, 0, 8, 42, 182] (zdu 0 cX5_readName.data.toList) = true := by decide +kernel
theorem dX5_readName_0 : decode cX5_readName 0 = .ok (.iload_n 1, 1) := zo_27 zh_cX5_readName_0 0 rfl
theorem dX5_readName_1 : decode cX5_readName 1 = .ok (.ifCond .ge 7, 3) := zo_p156 zh_cX5_readName_0 1 7 rfl rfl
theorem dX5_readName_4 : decode cX5_readName 4 = .ok (.iconst (-1), 1) := zo_2 zh_cX5_readName_0 4 rfl
theorem dX5_readName_5 : decode cX5_readName 5 = .ok (.goto 10, 3) := zo_p167 zh_cX5_readName_0 5 10 rfl rfl
theorem dX5_readName_8 : decode cX5_readName 8 = .ok (.ldc 83, 2) := zo_18 zh_cX5_readName_0 8 rfl
theorem dX5_readName_10 : decode cX5_readName 10 = .ok (.iload_n 1, 1) := zo_27 zh_cX5_readName_0 10 rfl
theorem dX5_readName_11 : decode cX5_readName 11 = .ok (.i2c, 1) := zo_146 zh_cX5_readName_0 11 rfl
theorem dX5_readName_12 : decode cX5_readName 12 = .ok (.invokevirtual 85, 3) := zo_182 zh_cX5_readName_0 12 rfl
theorem dX5_readName_15 : decode cX5_readName 15 = .ok (.istore_n 2, 1) := zo_61 zh_cX5_readName_0 15 rfl
theorem dX5_readName_16 : decode cX5_readName 16 = .ok (.iload_n 2, 1) := zo_28 zh_cX5_readName_0 16 rfl
theorem dX5_readName_17 : decode cX5_readName 17 = .ok (.ifCond .ge 8, 3) := zo_p156 zh_cX5_readName_0 17 8 rfl rfl
theorem zh_cX5_readName_1 : zck [42, 182, 0, 39, 177, 42, 89, 180, 0, 19, 4, 96, 181, 0, 19, 42, 28, 8, 120, 4, 128, 182] (zdu 20 cX5_readName.data.toList) = true := by decide +kernel
theorem dX5_readName_20 : decode cX5_readName 20 = .ok (.aload_n 0, 1) := zo_42 zh_cX5_readName_1 0 rfl
theorem dX5_readName_21 : decode cX5_readName 21 = .ok (.invokevirtual 39, 3) := zo_182 zh_cX5_readName_1 1 rfl
theorem dX5_readName_24 : decode cX5_readName 24 = .ok (.return_, 1) := zo_177 zh_cX5_readName_1 4 rfl
theorem dX5_readName_25 : decode cX5_readName 25 = .ok (.aload_n 0, 1) := zo_42 zh_cX5_readName_1 5 rfl
theorem dX5_readName_26 : decode cX5_readName 26 = .ok (.dup, 1) := zo_89 zh_cX5_readName_1 6 rfl
theorem dX5_readName_27 : decode cX5_readName 27 = .ok (.getfield 19, 3) := zo_180 zh_cX5_readName_1 7 rfl
theorem dX5_readName_30 : decode cX5_readName 30 = .ok (.iconst 1, 1) := zo_4 zh_cX5_readName_1 10 rfl
theorem dX5_readName_31 : decode cX5_readName 31 = .ok (.iadd, 1) := zo_96 zh_cX5_readName_1 11 rfl
theorem dX5_readName_32 : decode cX5_readName 32 = .ok (.putfield 19, 3) := zo_181 zh_cX5_readName_1 12 rfl
theorem dX5_readName_35 : decode cX5_readName 35 = .ok (.aload_n 0, 1) := zo_42 zh_cX5_readName_1 15 rfl
theorem dX5_readName_36 : decode cX5_readName 36 = .ok (.iload_n 2, 1) := zo_28 zh_cX5_readName_1 16 rfl
theorem dX5_readName_37 : decode cX5_readName 37 = .ok (.iconst 5, 1) := zo_8 zh_cX5_readName_1 17 rfl
theorem dX5_readName_38 : decode cX5_readName 38 = .ok (.ishl, 1) := zo_120 zh_cX5_readName_1 18 rfl
theorem dX5_readName_39 : decode cX5_readName 39 = .ok (.iconst 1, 1) := zo_4 zh_cX5_readName_1 19 rfl
theorem zh_cX5_readName_2 : zck [128, 182, 0, 57, 177] (zdu 40 cX5_readName.data.toList) = true := by decide +kernel
theorem dX5_readName_40 : decode cX5_readName 40 = .ok (.ior, 1) := zo_128 zh_cX5_readName_2 0 rfl
theorem dX5_readName_41 : decode cX5_readName 41 = .ok (.invokevirtual 57, 3) := zo_182 zh_cX5_readName_2 1 rfl
theorem dX5_readName_44 : decode cX5_readName 44 = .ok (.return_, 1) := zo_177 zh_cX5_readName_2 4 rfl
abbrev z_X5_readName : List Cond := .code yX5_readName cX5_readName 3 none :: zW
abbrev wl_X5_readName (ad : Nat → Nat) (cs : Nat → ClassId)  (lr_size : Int32) (lr_at : Int32) (lr_fault : Int32) (lr_code : Nat → Int32) : va_W := [((ad 26), .inr (5, [.ref (ad 23), .ref (ad 27), .int lr_size, .int lr_at, .int lr_fault])), ((ad 27), .inl (cs 0, 121, .inl lr_code))]
def Q_X5_readName (D : va_G) (cs : Nat → ClassId) (ad : Nat → Nat)   (A : Nat → Prop) (R : Int32 × Int32 × Int32 × (Nat → Int32)) : Array Value → State → Outcome → State → Prop :=
  va_Qv (fun u : Int32 × Int32 × Int32 × (Nat → Int32) => u = R) (fun (u : Int32 × Int32 × Int32 × (Nat → Int32)) (t : State) => va_P D classes (wl_X5_readName ad cs u.1 u.2.1 u.2.2.1 u.2.2.2) t.heap ∧ va_D A (wl_X5_readName ad cs u.1 u.2.1 u.2.2.1 u.2.2.2)) A
abbrev rm_X5_readName : Room := { frames := 4, cells := 0, slots := 0, locals := 91 }
theorem g_X5_85 : GoodIn zW (wsV RX5 85 RJ0 yJ0_indexOf_0f7a4 z_J0_indexOf_0f7a4) := zGV kw_587 kw_588 kw_589 kw_85 kw_590
theorem hd_J0_indexOf_0f7a4 : yJ0_indexOf_0f7a4.cls ≠ "java/lang/invoke/MethodHandle" ∧ yJ0_indexOf_0f7a4.cls ≠ "java/lang/invoke/VarHandle" ∧ (parseMethodDescriptor yJ0_indexOf_0f7a4.desc).map (fun d => d.parameters.length) = some 1 := by decide +kernel
def B_X5_readName_15     (s0 : Int32) (lr_size : Int32) (lr_at : Int32) (lr_fault : Int32) (lr_code : Nat → Int32) : Option (Int32 × Int32 × Int32 × (Nat → Int32)) :=
  (if 0 ≤ s0 then (zk_let (lr_at + (1 : Int32)) (fun v_6 => (zk_b2 (f_X5_emit ((s0 <<< ((5 : Int32) &&& 31)) ||| (1 : Int32)) lr_size v_6 lr_fault lr_code) (fun u_7 u_8 => (some (u_7, v_6, lr_fault, u_8)))))) else (zk_b1 (f_X5_fail lr_size lr_at lr_fault) (fun u_10 => (some (lr_size, lr_at, u_10, lr_code)))))
def B_X5_readName_0     (x1 : Int32) (lr_size : Int32) (lr_at : Int32) (lr_fault : Int32) (lr_code : Nat → Int32) : Option (Int32 × Int32 × Int32 × (Nat → Int32)) :=
  (if 0 ≤ x1 then (zk_b2 (f_J0_indexOf_0f7a4 4 ((x1.toUInt32 % 65536).toInt32)) (fun r_2 u_3 => (B_X5_readName_15 r_2 lr_size lr_at lr_fault lr_code))) else (B_X5_readName_15 (-1 : Int32) lr_size lr_at lr_fault lr_code))
def f_X5_readName   (x1 : Int32) (lr_size : Int32) (lr_at : Int32) (lr_fault : Int32) (lr_code : Nat → Int32) : Option (Int32 × Int32 × Int32 × (Nat → Int32)) := B_X5_readName_0    x1 lr_size lr_at lr_fault lr_code
set_option maxHeartbeats 4000000 in
set_option maxRecDepth 100000 in
theorem L_X5_readName_15 {p : Program} {l : Launch} {e : Env} {s : State} {m : MethodId} {args : Array Value} {below : List Frame} {meth : Method} {c : Code} {A : Nat → Prop} {D : va_G} {cs : Nat → ClassId} {ad : Nat → Nat} {R : Int32 × Int32 × Int32 × (Nat → Int32)} (C0 : zC p s m args meth c cX5_readName 3 none RX5 zW) (hK : va_K D classes (zT cs) s) {k : (Nat → Nat) × (Nat → Nat)} (hO : zO s) (hE : zE k A s) (hA : ∀ q : Nat, s.heap.size ≤ q → A q) (s0 : Int32) (lr_size : Int32) (lr_at : Int32) (lr_fault : Int32) (lr_code : Nat → Int32) (h : B_X5_readName_15 s0 lr_size lr_at lr_fault lr_code = some R) (H : Heap) (locs : List Loc) (ls : Array Slot) (hP : va_P D classes (wl_X5_readName ad cs lr_size lr_at lr_fault lr_code) H) (hD : va_D A (wl_X5_readName ad cs lr_size lr_at lr_fault lr_code)) (hS : va_S A s.heap H locs) (hl : lv_has ls 3 [(0, .ref (ad 26))]) : W p l e rm_X5_readName s m args below meth c H locs 0 0 (MQ below (Q_X5_readName D cs ad  A R) args s 0 0 A) (F0 m 15 ls [.int s0]) := by
  obtain ⟨hx, hb, hr, hml, hown, ht, hlocks⟩ := id C0
  refine lv_istore_n (lv' := [(2, .int s0), (0, .ref (ad 26))]) hx hb dX5_readName_15 rfl hl (by decide) rfl (fun ls hl => ?_)
  refine lv_iload_n hx hb dX5_readName_16 rfl (lv_at hl 0 rfl) ?_
  refine lv_if_ge (tgt := 25) hx hb dX5_readName_17 (by decide) (fun c_5 => ?_) (fun c_5 => ?_)
  · have h := zk_t c_5 h
    refine lv_aload_n hx hb dX5_readName_25 rfl (lv_at hl 1 rfl) ?_
    refine lv_dup hx hb dX5_readName_26 rfl ?_
    refine va_get (D := D) (ci := 5) (v := .int lr_at) (C := RX5) (T := TX5) (N := 5) hx hb ht iX5 hown hK hP 0 rfl rfl 3 (by decide) (ht _ kw_277) (fun _ h9 => h9) rfl dX5_readName_27 ?_
    refine lv_iconst (v := (1 : Int32)) hx hb dX5_readName_30 (by decide) ?_
    refine lv_iadd hx hb dX5_readName_31 ?_
    obtain ⟨v_6, ev_6, h⟩ := zk_lt h
    refine W.eq (g2 := F0 m 32 ls [.int v_6, .ref (ad 26)]) (by rw [ev_6]) ?_
    refine va_put (D := D) (ci := 5) (v := .int v_6) (ty := .int) (C := RX5) (T := TX5) (N := 5) hx hb ht iX5 tyX5 tyX5_ok nmX5 hown hK hP hD hS 0 rfl rfl 3 (by decide) (ht _ kw_277) (fun _ h9 => h9) rfl (by decide +kernel) rfl rfl (Nat.le_of_ble_eq_true rfl) dX5_readName_32 (fun H locs hP hD hS => ?_)
    have hP : va_P D classes (wl_X5_readName ad cs lr_size v_6 lr_fault lr_code) H := hP
    have hD : va_D A (wl_X5_readName ad cs lr_size v_6 lr_fault lr_code) := hD
    refine lv_aload_n hx hb dX5_readName_35 rfl (lv_at hl 1 rfl) ?_
    refine lv_iload_n hx hb dX5_readName_36 rfl (lv_at hl 0 rfl) ?_
    refine lv_iconst (v := (5 : Int32)) hx hb dX5_readName_37 (by decide) ?_
    refine lv_ishl hx hb dX5_readName_38 ?_
    refine lv_iconst (v := (1 : Int32)) hx hb dX5_readName_39 (by decide) ?_
    refine lv_ior hx hb dX5_readName_40 ?_
    obtain ⟨u_7, u_8, hc_9, h⟩ := zk_o2 h
    refine zz_vv (post := (fun u => u = (u_7, u_8))) (w1 := fun u => (wl_X5_emit ad cs u.1 v_6 lr_fault u.2)) (As := [.int ((s0 <<< ((5 : Int32) &&& 31)) ||| (1 : Int32))]) (rest := []) (c_X5_emit l D cs ad  H.size ((s0 <<< ((5 : Int32) &&& 31)) ||| (1 : Int32)) lr_size v_6 lr_fault lr_code (u_7, u_8) hc_9) ⟨hx, hb, hml, hown, ht⟩ (cwV 1 ht g_X5_57 rfl rfl rfl ⟨rfl, hd_X5_emit⟩ ⟨Nat.le_of_ble_eq_true rfl, Nat.le_of_ble_eq_true rfl⟩) (va_recv hK hP (ci := 5) (q0 := 0) rfl rfl) hP hD hS hK hA [0, 1] rfl rfl [(ad 26), (ad 27)] rfl (fun _ => rfl) rfl hl.1 (Nat.le_of_ble_eq_true rfl) dX5_readName_41 ⟨Nat.zero_le _, Nat.zero_le _⟩ (fun u H locs hq hP hS => ?_)
    cases hq
    have hP : va_P D classes (wl_X5_readName ad cs u_7 v_6 lr_fault u_8) H := hP
    have hD : va_D A (wl_X5_readName ad cs u_7 v_6 lr_fault u_8) := zDk hD [(ad 26), (ad 27)] rfl rfl
    exact W.vret hx hb hr (fun t ht2 hW => ⟨⟨(u_7, v_6, lr_fault, u_8), rfl, Option.some.inj h, by rw [ht2]; exact hP, hD⟩, hS.F ht2⟩) hS.2.2 dX5_readName_44 hlocks
  · have h := zk_f c_5 h
    refine lv_aload_n hx hb dX5_readName_20 rfl (lv_at hl 1 rfl) ?_
    obtain ⟨u_10, hc_11, h⟩ := zk_o1 h
    refine zz_vv (post := (fun u => u = u_10)) (w1 := fun u => (wl_X5_fail ad cs lr_size lr_at u)) (As := []) (rest := []) (c_X5_fail l D cs ad  H.size lr_size lr_at lr_fault u_10 hc_11) ⟨hx, hb, hml, hown, ht⟩ (cwV 0 ht g_X5_39 rfl rfl rfl ⟨rfl, hd_X5_fail⟩ ⟨Nat.le_of_ble_eq_true rfl, Nat.le_of_ble_eq_true rfl⟩) (va_recv hK hP (ci := 5) (q0 := 0) rfl rfl) hP hD hS hK hA [0] rfl rfl [(ad 26)] rfl (fun _ => rfl) rfl hl.1 (Nat.le_of_ble_eq_true rfl) dX5_readName_21 ⟨Nat.zero_le _, Nat.zero_le _⟩ (fun u H locs hq hP hS => ?_)
    cases hq
    have hP : va_P D classes (wl_X5_readName ad cs lr_size lr_at u_10 lr_code) H := hP
    have hD : va_D A (wl_X5_readName ad cs lr_size lr_at u_10 lr_code) := zDk hD [(ad 26), (ad 27)] rfl rfl
    exact W.vret hx hb hr (fun t ht2 hW => ⟨⟨(lr_size, lr_at, u_10, lr_code), rfl, Option.some.inj h, by rw [ht2]; exact hP, hD⟩, hS.F ht2⟩) hS.2.2 dX5_readName_24 hlocks
set_option maxHeartbeats 4000000 in
set_option maxRecDepth 100000 in
theorem L_X5_readName_0 {p : Program} {l : Launch} {e : Env} {s : State} {m : MethodId} {args : Array Value} {below : List Frame} {meth : Method} {c : Code} {A : Nat → Prop} {D : va_G} {cs : Nat → ClassId} {ad : Nat → Nat} {R : Int32 × Int32 × Int32 × (Nat → Int32)} (C0 : zC p s m args meth c cX5_readName 3 none RX5 zW) (hK : va_K D classes (zT cs) s) {k : (Nat → Nat) × (Nat → Nat)} (hO : zO s) (hE : zE k A s) (hA : ∀ q : Nat, s.heap.size ≤ q → A q) (x1 : Int32) (lr_size : Int32) (lr_at : Int32) (lr_fault : Int32) (lr_code : Nat → Int32) (h : B_X5_readName_0 x1 lr_size lr_at lr_fault lr_code = some R) (H : Heap) (locs : List Loc) (ls : Array Slot) (hP : va_P D classes (wl_X5_readName ad cs lr_size lr_at lr_fault lr_code) H) (hD : va_D A (wl_X5_readName ad cs lr_size lr_at lr_fault lr_code)) (hS : va_S A s.heap H locs) (hl : lv_has ls 3 [(0, .ref (ad 26)), (1, .int x1)]) : W p l e rm_X5_readName s m args below meth c H locs 0 0 (MQ below (Q_X5_readName D cs ad  A R) args s 0 0 A) (F0 m 0 ls []) := by
  obtain ⟨hx, hb, hr, hml, hown, ht, hlocks⟩ := id C0
  refine lv_iload_n hx hb dX5_readName_0 rfl (lv_at hl 1 rfl) ?_
  refine lv_if_ge (tgt := 8) hx hb dX5_readName_1 (by decide) (fun c_1 => ?_) (fun c_1 => ?_)
  · have h := zk_t c_1 h
    refine va_ldcS hx hb hown (hE.2.1 4 _ rfl) dX5_readName_8 ?_
    refine lv_iload_n hx hb dX5_readName_10 rfl (lv_at hl 1 rfl) ?_
    refine lv_i2c (v := (x1.toUInt32 % 65536).toInt32) hx hb dX5_readName_11 rfl ?_
    obtain ⟨r_2, u_3, hc_4, h⟩ := zk_o2 h
    refine zk_viE (post := (fun r u => (r, u) = (r_2, u_3))) (w1 := fun u => (wl_J0_indexOf_0f7a4 ad cs )) (As := [.int ((x1.toUInt32 % 65536).toInt32)]) (rest := []) hE hO (c_J0_indexOf_0f7a4 l D cs ad k 4 (by decide) H.size ((x1.toUInt32 % 65536).toInt32) (r_2, u_3) hc_4) ⟨hx, hb, hml, hown, ht⟩ (cwV 1 ht g_X5_85 rfl rfl rfl ⟨rfl, hd_J0_indexOf_0f7a4⟩ ⟨Nat.le_of_ble_eq_true rfl, Nat.le_of_ble_eq_true rfl⟩) (vk_recv hE.1 (by decide) hS) hP hD hS hK hA [] [0, 1] rfl rfl rfl rfl (by decide) rfl hl.1 (Nat.le_of_ble_eq_true rfl) dX5_readName_12 ⟨Nat.zero_le _, Nat.zero_le _⟩ (fun r u H locs hq hP hD hS => ?_)
    cases hq
    have hP : va_P D classes (wl_X5_readName ad cs lr_size lr_at lr_fault lr_code) H := hP.sub [0, 1] rfl
    have hD : va_D A (wl_X5_readName ad cs lr_size lr_at lr_fault lr_code) := hD.sub [0, 1] rfl rfl
    exact L_X5_readName_15 C0 hK hO hE hA   r_2 lr_size lr_at lr_fault lr_code h H locs ls hP hD hS (lv_sub hl [0] rfl)
  · have h := zk_f c_1 h
    refine lv_iconst (v := (-1 : Int32)) hx hb dX5_readName_4 (by decide) ?_
    refine lv_goto (tgt := 15) hx hb dX5_readName_5 (by decide) ?_
    exact L_X5_readName_15 C0 hK hO hE hA   (-1 : Int32) lr_size lr_at lr_fault lr_code h H locs ls hP hD hS (lv_sub hl [0] rfl)
set_option maxHeartbeats 4000000 in
set_option maxRecDepth 100000 in
theorem c_X5_readName (l : Launch) (D : va_G) (cs : Nat → ClassId) (ad : Nat → Nat) (k : (Nat → Nat) × (Nat → Nat)) (sz : Nat) (x1 : Int32) (lr_size : Int32) (lr_at : Int32) (lr_fault : Int32) (lr_code : Nat → Int32) (R : Int32 × Int32 × Int32 × (Nat → Int32)) (h : f_X5_readName   x1 lr_size lr_at lr_fault lr_code = some R) : Met l yX5_readName (z_X5_readName) rm_X5_readName (va_Pc [.ref (ad 26), .int x1] (zPreE k D cs (wl_X5_readName ad cs lr_size lr_at lr_fault lr_code) sz)) (Q_X5_readName D cs ad  (va_A (wl_X5_readName ad cs lr_size lr_at lr_fault lr_code) sz) R) 0 0 (va_A (wl_X5_readName ad cs lr_size lr_at lr_fault lr_code) sz) := by
  refine Met.ofW (cc := cX5_readName) (maxL := 3) (ret := none) (by decide) rfl ?_
  intro p e s m args below meth c s₁ B hml hv
  obtain ⟨rfl, ⟨⟨hsz, hP, hK, hD0⟩, hO⟩, hE⟩ := hv
  subst hsz
  have hD := hD0.self (sz := s.heap.size)
  have C0 : zC p s m _ meth c cX5_readName 3 none RX5 zW := ⟨B.exec, B.bytes, B.returns, hml, findClass_of_methodNamed B.named, fun w hw => atoms_spec (ws := z_X5_readName) B.pre w (List.mem_cons_of_mem _ hw), B.notSynchronized⟩
  have hA : ∀ q : Nat, s.heap.size ≤ q → va_A (wl_X5_readName ad cs lr_size lr_at lr_fault lr_code) s.heap.size q := fun q h => Or.inr h
  have hl := lv_entry ([.ref (ad 26), .int x1]) (n := 3) (Nat.le_of_ble_eq_true rfl)
  rw [lg_entry_eq]
  generalize (lg_sl ([.ref (ad 26), .int x1]) ++ List.replicate (3 - (lg_sl ([.ref (ad 26), .int x1])).length) Slot.unset).toArray = ls at hl ⊢
  exact L_X5_readName_0 C0 hK hO hE hA   x1 lr_size lr_at lr_fault lr_code h s.heap [] ls hP hD va_S.rf hl
theorem kw_0 : Cond.selects RX5 yX5_readLevel yX5_readLevel ∈ zW := zwI (i := 0) (by decide +kernel) (by decide +kernel)
theorem kw_1 : Cond.selects RX5 yX5_readOperand yX5_readOperand ∈ zW := zwI (i := 1) (by decide +kernel) (by decide +kernel)
theorem kw_545 : Cond.methodLink RX5 53 yX5_readLevel ∈ zW := zwC (i := 231) zc_2 rfl rfl
theorem kw_547 : Cond.instanceMethod yX5_readLevel ∈ zW := zwC (i := 233) zc_2 rfl rfl
theorem kw_548 : Cond.code yX5_readLevel cX5_readLevel 5 none ∈ zW := zwC (i := 234) zc_2 rfl rfl
theorem kw_549 : Cond.methodLink RX5 61 yX5_readOperand ∈ zW := zwC (i := 235) zc_2 rfl rfl
theorem kw_551 : Cond.instanceMethod yX5_readOperand ∈ zW := zwC (i := 237) zc_2 rfl rfl
theorem kw_552 : Cond.code yX5_readOperand cX5_readOperand 3 none ∈ zW := zwC (i := 238) zc_2 rfl rfl
theorem kw_562 : Cond.methodLink RX5 74 yX5_readNumber ∈ zW := zwC (i := 8) zc_3 rfl rfl
theorem kw_563 : Cond.instanceMethod yX5_readNumber ∈ zW := zwC (i := 9) zc_3 rfl rfl
theorem kw_564 : Cond.selects RX5 yX5_readNumber yX5_readNumber ∈ zW := zwC (i := 10) zc_3 rfl rfl
theorem kw_565 : Cond.code yX5_readNumber cX5_readNumber 3 none ∈ zW := zwC (i := 11) zc_3 rfl rfl
theorem kw_570 : Cond.methodLink RX5 77 yX5_mayOpen ∈ zW := zwC (i := 16) zc_3 rfl rfl
theorem kw_571 : Cond.instanceMethod yX5_mayOpen ∈ zW := zwC (i := 17) zc_3 rfl rfl
theorem kw_572 : Cond.selects RX5 yX5_mayOpen yX5_mayOpen ∈ zW := zwC (i := 18) zc_3 rfl rfl
theorem kw_573 : Cond.code yX5_mayOpen cX5_mayOpen 2 (some .boolean) ∈ zW := zwC (i := 19) zc_3 rfl rfl
theorem kw_578 : Cond.methodLink RX5 32 yX5_accept ∈ zW := zwC (i := 24) zc_3 rfl rfl
theorem kw_579 : Cond.instanceMethod yX5_accept ∈ zW := zwC (i := 25) zc_3 rfl rfl
theorem kw_580 : Cond.selects RX5 yX5_accept yX5_accept ∈ zW := zwC (i := 26) zc_3 rfl rfl
theorem kw_581 : Cond.code yX5_accept cX5_accept 2 (some .boolean) ∈ zW := zwC (i := 27) zc_3 rfl rfl
theorem kw_582 : Cond.methodLink RX5 80 yX5_readName ∈ zW := zwC (i := 28) zc_3 rfl rfl
theorem kw_583 : Cond.instanceMethod yX5_readName ∈ zW := zwC (i := 29) zc_3 rfl rfl
theorem kw_584 : Cond.selects RX5 yX5_readName yX5_readName ∈ zW := zwC (i := 30) zc_3 rfl rfl
theorem kw_585 : Cond.code yX5_readName cX5_readName 3 none ∈ zW := zwC (i := 31) zc_3 rfl rfl
theorem kw_646 : Cond.methodLink RX5 64 yX5_operatorAt ∈ zW := zwC (i := 92) zc_3 rfl rfl
theorem kw_647 : Cond.instanceMethod yX5_operatorAt ∈ zW := zwC (i := 93) zc_3 rfl rfl
theorem kw_648 : Cond.selects RX5 yX5_operatorAt yX5_operatorAt ∈ zW := zwC (i := 94) zc_3 rfl rfl
theorem kw_649 : Cond.code yX5_operatorAt cX5_operatorAt 3 (some .int) ∈ zW := zwC (i := 95) zc_3 rfl rfl
theorem zh_cX5_readLevel_0 : zck [27, 7, 164, 0, 9, 42, 28, 182, 0, 61, 177, 42, 27, 4, 96, 28, 182, 0, 53, 3, 62, 29] (zdu 0 cX5_readLevel.data.toList) = true := by decide +kernel
theorem dX5_readLevel_0 : decode cX5_readLevel 0 = .ok (.iload_n 1, 1) := zo_27 zh_cX5_readLevel_0 0 rfl
theorem dX5_readLevel_1 : decode cX5_readLevel 1 = .ok (.iconst 4, 1) := zo_7 zh_cX5_readLevel_0 1 rfl
theorem dX5_readLevel_2 : decode cX5_readLevel 2 = .ok (.if_icmp .le 9, 3) := zo_p164 zh_cX5_readLevel_0 2 9 rfl rfl
theorem dX5_readLevel_5 : decode cX5_readLevel 5 = .ok (.aload_n 0, 1) := zo_42 zh_cX5_readLevel_0 5 rfl
theorem dX5_readLevel_6 : decode cX5_readLevel 6 = .ok (.iload_n 2, 1) := zo_28 zh_cX5_readLevel_0 6 rfl
theorem dX5_readLevel_7 : decode cX5_readLevel 7 = .ok (.invokevirtual 61, 3) := zo_182 zh_cX5_readLevel_0 7 rfl
theorem dX5_readLevel_10 : decode cX5_readLevel 10 = .ok (.return_, 1) := zo_177 zh_cX5_readLevel_0 10 rfl
theorem dX5_readLevel_11 : decode cX5_readLevel 11 = .ok (.aload_n 0, 1) := zo_42 zh_cX5_readLevel_0 11 rfl
theorem dX5_readLevel_12 : decode cX5_readLevel 12 = .ok (.iload_n 1, 1) := zo_27 zh_cX5_readLevel_0 12 rfl
theorem dX5_readLevel_13 : decode cX5_readLevel 13 = .ok (.iconst 1, 1) := zo_4 zh_cX5_readLevel_0 13 rfl
theorem dX5_readLevel_14 : decode cX5_readLevel 14 = .ok (.iadd, 1) := zo_96 zh_cX5_readLevel_0 14 rfl
theorem dX5_readLevel_15 : decode cX5_readLevel 15 = .ok (.iload_n 2, 1) := zo_28 zh_cX5_readLevel_0 15 rfl
theorem dX5_readLevel_16 : decode cX5_readLevel 16 = .ok (.invokevirtual 53, 3) := zo_182 zh_cX5_readLevel_0 16 rfl
theorem dX5_readLevel_19 : decode cX5_readLevel 19 = .ok (.iconst 0, 1) := zo_3 zh_cX5_readLevel_0 19 rfl
theorem zh_cX5_readLevel_1 : zck [62, 29, 16, 120, 162, 0, 59, 42, 180, 0, 26, 156, 0, 52, 42, 27, 182, 0, 64, 54, 4, 21] (zdu 20 cX5_readLevel.data.toList) = true := by decide +kernel
theorem dX5_readLevel_20 : decode cX5_readLevel 20 = .ok (.istore_n 3, 1) := zo_62 zh_cX5_readLevel_1 0 rfl
theorem dX5_readLevel_21 : decode cX5_readLevel 21 = .ok (.iload_n 3, 1) := zo_29 zh_cX5_readLevel_1 1 rfl
theorem dX5_readLevel_22 : decode cX5_readLevel 22 = .ok (.bipush 120, 2) := zo_p16 zh_cX5_readLevel_1 2 120 rfl rfl
theorem dX5_readLevel_24 : decode cX5_readLevel 24 = .ok (.if_icmp .ge 59, 3) := zo_p162 zh_cX5_readLevel_1 4 59 rfl rfl
theorem dX5_readLevel_27 : decode cX5_readLevel 27 = .ok (.aload_n 0, 1) := zo_42 zh_cX5_readLevel_1 7 rfl
theorem dX5_readLevel_28 : decode cX5_readLevel 28 = .ok (.getfield 26, 3) := zo_180 zh_cX5_readLevel_1 8 rfl
theorem dX5_readLevel_31 : decode cX5_readLevel 31 = .ok (.ifCond .ge 52, 3) := zo_p156 zh_cX5_readLevel_1 11 52 rfl rfl
theorem dX5_readLevel_34 : decode cX5_readLevel 34 = .ok (.aload_n 0, 1) := zo_42 zh_cX5_readLevel_1 14 rfl
theorem dX5_readLevel_35 : decode cX5_readLevel 35 = .ok (.iload_n 1, 1) := zo_27 zh_cX5_readLevel_1 15 rfl
theorem dX5_readLevel_36 : decode cX5_readLevel 36 = .ok (.invokevirtual 64, 3) := zo_182 zh_cX5_readLevel_1 16 rfl
theorem dX5_readLevel_39 : decode cX5_readLevel 39 = .ok (.istore 4, 2) := zo_54 zh_cX5_readLevel_1 19 rfl
theorem zh_cX5_readLevel_2 : zck [4, 21, 4, 156, 0, 4, 177, 42, 89, 180, 0, 19, 4, 96, 181, 0, 19, 42, 27, 4, 96, 28] (zdu 40 cX5_readLevel.data.toList) = true := by decide +kernel
theorem dX5_readLevel_41 : decode cX5_readLevel 41 = .ok (.iload 4, 2) := zo_21 zh_cX5_readLevel_2 1 rfl
theorem dX5_readLevel_43 : decode cX5_readLevel 43 = .ok (.ifCond .ge 4, 3) := zo_p156 zh_cX5_readLevel_2 3 4 rfl rfl
theorem dX5_readLevel_46 : decode cX5_readLevel 46 = .ok (.return_, 1) := zo_177 zh_cX5_readLevel_2 6 rfl
theorem dX5_readLevel_47 : decode cX5_readLevel 47 = .ok (.aload_n 0, 1) := zo_42 zh_cX5_readLevel_2 7 rfl
theorem dX5_readLevel_48 : decode cX5_readLevel 48 = .ok (.dup, 1) := zo_89 zh_cX5_readLevel_2 8 rfl
theorem dX5_readLevel_49 : decode cX5_readLevel 49 = .ok (.getfield 19, 3) := zo_180 zh_cX5_readLevel_2 9 rfl
theorem dX5_readLevel_52 : decode cX5_readLevel 52 = .ok (.iconst 1, 1) := zo_4 zh_cX5_readLevel_2 12 rfl
theorem dX5_readLevel_53 : decode cX5_readLevel 53 = .ok (.iadd, 1) := zo_96 zh_cX5_readLevel_2 13 rfl
theorem dX5_readLevel_54 : decode cX5_readLevel 54 = .ok (.putfield 19, 3) := zo_181 zh_cX5_readLevel_2 14 rfl
theorem dX5_readLevel_57 : decode cX5_readLevel 57 = .ok (.aload_n 0, 1) := zo_42 zh_cX5_readLevel_2 17 rfl
theorem dX5_readLevel_58 : decode cX5_readLevel 58 = .ok (.iload_n 1, 1) := zo_27 zh_cX5_readLevel_2 18 rfl
theorem dX5_readLevel_59 : decode cX5_readLevel 59 = .ok (.iconst 1, 1) := zo_4 zh_cX5_readLevel_2 19 rfl
theorem zh_cX5_readLevel_3 : zck [96, 28, 182, 0, 53, 42, 21, 4, 182, 0, 57, 27, 5, 160, 0, 4, 177, 132, 3, 1, 167, 255] (zdu 60 cX5_readLevel.data.toList) = true := by decide +kernel
theorem dX5_readLevel_60 : decode cX5_readLevel 60 = .ok (.iadd, 1) := zo_96 zh_cX5_readLevel_3 0 rfl
theorem dX5_readLevel_61 : decode cX5_readLevel 61 = .ok (.iload_n 2, 1) := zo_28 zh_cX5_readLevel_3 1 rfl
theorem dX5_readLevel_62 : decode cX5_readLevel 62 = .ok (.invokevirtual 53, 3) := zo_182 zh_cX5_readLevel_3 2 rfl
theorem dX5_readLevel_65 : decode cX5_readLevel 65 = .ok (.aload_n 0, 1) := zo_42 zh_cX5_readLevel_3 5 rfl
theorem dX5_readLevel_66 : decode cX5_readLevel 66 = .ok (.iload 4, 2) := zo_21 zh_cX5_readLevel_3 6 rfl
theorem dX5_readLevel_68 : decode cX5_readLevel 68 = .ok (.invokevirtual 57, 3) := zo_182 zh_cX5_readLevel_3 8 rfl
theorem dX5_readLevel_71 : decode cX5_readLevel 71 = .ok (.iload_n 1, 1) := zo_27 zh_cX5_readLevel_3 11 rfl
theorem dX5_readLevel_72 : decode cX5_readLevel 72 = .ok (.iconst 2, 1) := zo_5 zh_cX5_readLevel_3 12 rfl
theorem dX5_readLevel_73 : decode cX5_readLevel 73 = .ok (.if_icmp .ne 4, 3) := zo_p160 zh_cX5_readLevel_3 13 4 rfl rfl
theorem dX5_readLevel_76 : decode cX5_readLevel 76 = .ok (.return_, 1) := zo_177 zh_cX5_readLevel_3 16 rfl
theorem dX5_readLevel_77 : decode cX5_readLevel 77 = .ok (.iinc 3 1, 3) := zo_p132 zh_cX5_readLevel_3 17 1 rfl rfl
theorem zh_cX5_readLevel_4 : zck [167, 255, 197, 177] (zdu 80 cX5_readLevel.data.toList) = true := by decide +kernel
theorem dX5_readLevel_80 : decode cX5_readLevel 80 = .ok (.goto (-59), 3) := zo_n167 zh_cX5_readLevel_4 0 58 rfl rfl
theorem dX5_readLevel_83 : decode cX5_readLevel 83 = .ok (.return_, 1) := zo_177 zh_cX5_readLevel_4 3 rfl
theorem zh_cX5_readOperand_0 : zck [42, 180, 0, 15, 42, 180, 0, 19, 182, 0, 68, 61, 42, 180, 0, 26, 155, 0, 4, 177, 42, 180] (zdu 0 cX5_readOperand.data.toList) = true := by decide +kernel
theorem dX5_readOperand_0 : decode cX5_readOperand 0 = .ok (.aload_n 0, 1) := zo_42 zh_cX5_readOperand_0 0 rfl
theorem dX5_readOperand_1 : decode cX5_readOperand 1 = .ok (.getfield 15, 3) := zo_180 zh_cX5_readOperand_0 1 rfl
theorem dX5_readOperand_4 : decode cX5_readOperand 4 = .ok (.aload_n 0, 1) := zo_42 zh_cX5_readOperand_0 4 rfl
theorem dX5_readOperand_5 : decode cX5_readOperand 5 = .ok (.getfield 19, 3) := zo_180 zh_cX5_readOperand_0 5 rfl
theorem dX5_readOperand_8 : decode cX5_readOperand 8 = .ok (.invokevirtual 68, 3) := zo_182 zh_cX5_readOperand_0 8 rfl
theorem dX5_readOperand_11 : decode cX5_readOperand 11 = .ok (.istore_n 2, 1) := zo_61 zh_cX5_readOperand_0 11 rfl
theorem dX5_readOperand_12 : decode cX5_readOperand 12 = .ok (.aload_n 0, 1) := zo_42 zh_cX5_readOperand_0 12 rfl
theorem dX5_readOperand_13 : decode cX5_readOperand 13 = .ok (.getfield 26, 3) := zo_180 zh_cX5_readOperand_0 13 rfl
theorem dX5_readOperand_16 : decode cX5_readOperand 16 = .ok (.ifCond .lt 4, 3) := zo_p155 zh_cX5_readOperand_0 16 4 rfl rfl
theorem dX5_readOperand_19 : decode cX5_readOperand 19 = .ok (.return_, 1) := zo_177 zh_cX5_readOperand_0 19 rfl
theorem zh_cX5_readOperand_1 : zck [42, 180, 0, 15, 42, 180, 0, 19, 182, 0, 71, 153, 0, 10, 42, 182, 0, 74, 167, 0, 91, 28] (zdu 20 cX5_readOperand.data.toList) = true := by decide +kernel
theorem dX5_readOperand_20 : decode cX5_readOperand 20 = .ok (.aload_n 0, 1) := zo_42 zh_cX5_readOperand_1 0 rfl
theorem dX5_readOperand_21 : decode cX5_readOperand 21 = .ok (.getfield 15, 3) := zo_180 zh_cX5_readOperand_1 1 rfl
theorem dX5_readOperand_24 : decode cX5_readOperand 24 = .ok (.aload_n 0, 1) := zo_42 zh_cX5_readOperand_1 4 rfl
theorem dX5_readOperand_25 : decode cX5_readOperand 25 = .ok (.getfield 19, 3) := zo_180 zh_cX5_readOperand_1 5 rfl
theorem dX5_readOperand_28 : decode cX5_readOperand 28 = .ok (.invokevirtual 71, 3) := zo_182 zh_cX5_readOperand_1 8 rfl
theorem dX5_readOperand_31 : decode cX5_readOperand 31 = .ok (.ifCond .eq 10, 3) := zo_p153 zh_cX5_readOperand_1 11 10 rfl rfl
theorem dX5_readOperand_34 : decode cX5_readOperand 34 = .ok (.aload_n 0, 1) := zo_42 zh_cX5_readOperand_1 14 rfl
theorem dX5_readOperand_35 : decode cX5_readOperand 35 = .ok (.invokevirtual 74, 3) := zo_182 zh_cX5_readOperand_1 15 rfl
theorem dX5_readOperand_38 : decode cX5_readOperand 38 = .ok (.goto 91, 3) := zo_p167 zh_cX5_readOperand_1 18 91 rfl rfl
theorem zh_cX5_readOperand_2 : zck [91, 28, 16, 33, 159, 0, 9, 28, 16, 45, 160, 0, 36, 42, 27, 182, 0, 77, 153, 0, 71, 42] (zdu 40 cX5_readOperand.data.toList) = true := by decide +kernel
theorem dX5_readOperand_41 : decode cX5_readOperand 41 = .ok (.iload_n 2, 1) := zo_28 zh_cX5_readOperand_2 1 rfl
theorem dX5_readOperand_42 : decode cX5_readOperand 42 = .ok (.bipush 33, 2) := zo_p16 zh_cX5_readOperand_2 2 33 rfl rfl
theorem dX5_readOperand_44 : decode cX5_readOperand 44 = .ok (.if_icmp .eq 9, 3) := zo_p159 zh_cX5_readOperand_2 4 9 rfl rfl
theorem dX5_readOperand_47 : decode cX5_readOperand 47 = .ok (.iload_n 2, 1) := zo_28 zh_cX5_readOperand_2 7 rfl
theorem dX5_readOperand_48 : decode cX5_readOperand 48 = .ok (.bipush 45, 2) := zo_p16 zh_cX5_readOperand_2 8 45 rfl rfl
theorem dX5_readOperand_50 : decode cX5_readOperand 50 = .ok (.if_icmp .ne 36, 3) := zo_p160 zh_cX5_readOperand_2 10 36 rfl rfl
theorem dX5_readOperand_53 : decode cX5_readOperand 53 = .ok (.aload_n 0, 1) := zo_42 zh_cX5_readOperand_2 13 rfl
theorem dX5_readOperand_54 : decode cX5_readOperand 54 = .ok (.iload_n 1, 1) := zo_27 zh_cX5_readOperand_2 14 rfl
theorem dX5_readOperand_55 : decode cX5_readOperand 55 = .ok (.invokevirtual 77, 3) := zo_182 zh_cX5_readOperand_2 15 rfl
theorem dX5_readOperand_58 : decode cX5_readOperand 58 = .ok (.ifCond .eq 71, 3) := zo_p153 zh_cX5_readOperand_2 18 71 rfl rfl
theorem zh_cX5_readOperand_3 : zck [71, 42, 27, 4, 96, 182, 0, 61, 42, 28, 16, 33, 160, 0, 7, 7, 167, 0, 4, 8, 182, 0] (zdu 60 cX5_readOperand.data.toList) = true := by decide +kernel
theorem dX5_readOperand_61 : decode cX5_readOperand 61 = .ok (.aload_n 0, 1) := zo_42 zh_cX5_readOperand_3 1 rfl
theorem dX5_readOperand_62 : decode cX5_readOperand 62 = .ok (.iload_n 1, 1) := zo_27 zh_cX5_readOperand_3 2 rfl
theorem dX5_readOperand_63 : decode cX5_readOperand 63 = .ok (.iconst 1, 1) := zo_4 zh_cX5_readOperand_3 3 rfl
theorem dX5_readOperand_64 : decode cX5_readOperand 64 = .ok (.iadd, 1) := zo_96 zh_cX5_readOperand_3 4 rfl
theorem dX5_readOperand_65 : decode cX5_readOperand 65 = .ok (.invokevirtual 61, 3) := zo_182 zh_cX5_readOperand_3 5 rfl
theorem dX5_readOperand_68 : decode cX5_readOperand 68 = .ok (.aload_n 0, 1) := zo_42 zh_cX5_readOperand_3 8 rfl
theorem dX5_readOperand_69 : decode cX5_readOperand 69 = .ok (.iload_n 2, 1) := zo_28 zh_cX5_readOperand_3 9 rfl
theorem dX5_readOperand_70 : decode cX5_readOperand 70 = .ok (.bipush 33, 2) := zo_p16 zh_cX5_readOperand_3 10 33 rfl rfl
theorem dX5_readOperand_72 : decode cX5_readOperand 72 = .ok (.if_icmp .ne 7, 3) := zo_p160 zh_cX5_readOperand_3 12 7 rfl rfl
theorem dX5_readOperand_75 : decode cX5_readOperand 75 = .ok (.iconst 4, 1) := zo_7 zh_cX5_readOperand_3 15 rfl
theorem dX5_readOperand_76 : decode cX5_readOperand 76 = .ok (.goto 4, 3) := zo_p167 zh_cX5_readOperand_3 16 4 rfl rfl
theorem dX5_readOperand_79 : decode cX5_readOperand 79 = .ok (.iconst 5, 1) := zo_8 zh_cX5_readOperand_3 19 rfl
theorem zh_cX5_readOperand_4 : zck [182, 0, 57, 167, 0, 46, 28, 16, 40, 160, 0, 35, 42, 27, 182, 0, 77, 153, 0, 32, 42, 3] (zdu 80 cX5_readOperand.data.toList) = true := by decide +kernel
theorem dX5_readOperand_80 : decode cX5_readOperand 80 = .ok (.invokevirtual 57, 3) := zo_182 zh_cX5_readOperand_4 0 rfl
theorem dX5_readOperand_83 : decode cX5_readOperand 83 = .ok (.goto 46, 3) := zo_p167 zh_cX5_readOperand_4 3 46 rfl rfl
theorem dX5_readOperand_86 : decode cX5_readOperand 86 = .ok (.iload_n 2, 1) := zo_28 zh_cX5_readOperand_4 6 rfl
theorem dX5_readOperand_87 : decode cX5_readOperand 87 = .ok (.bipush 40, 2) := zo_p16 zh_cX5_readOperand_4 7 40 rfl rfl
theorem dX5_readOperand_89 : decode cX5_readOperand 89 = .ok (.if_icmp .ne 35, 3) := zo_p160 zh_cX5_readOperand_4 9 35 rfl rfl
theorem dX5_readOperand_92 : decode cX5_readOperand 92 = .ok (.aload_n 0, 1) := zo_42 zh_cX5_readOperand_4 12 rfl
theorem dX5_readOperand_93 : decode cX5_readOperand 93 = .ok (.iload_n 1, 1) := zo_27 zh_cX5_readOperand_4 13 rfl
theorem dX5_readOperand_94 : decode cX5_readOperand 94 = .ok (.invokevirtual 77, 3) := zo_182 zh_cX5_readOperand_4 14 rfl
theorem dX5_readOperand_97 : decode cX5_readOperand 97 = .ok (.ifCond .eq 32, 3) := zo_p153 zh_cX5_readOperand_4 17 32 rfl rfl
theorem zh_cX5_readOperand_5 : zck [42, 3, 27, 4, 96, 182, 0, 53, 42, 16, 41, 182, 0, 32, 154, 0, 15, 42, 182, 0, 39, 167] (zdu 100 cX5_readOperand.data.toList) = true := by decide +kernel
theorem dX5_readOperand_100 : decode cX5_readOperand 100 = .ok (.aload_n 0, 1) := zo_42 zh_cX5_readOperand_5 0 rfl
theorem dX5_readOperand_101 : decode cX5_readOperand 101 = .ok (.iconst 0, 1) := zo_3 zh_cX5_readOperand_5 1 rfl
theorem dX5_readOperand_102 : decode cX5_readOperand 102 = .ok (.iload_n 1, 1) := zo_27 zh_cX5_readOperand_5 2 rfl
theorem dX5_readOperand_103 : decode cX5_readOperand 103 = .ok (.iconst 1, 1) := zo_4 zh_cX5_readOperand_5 3 rfl
theorem dX5_readOperand_104 : decode cX5_readOperand 104 = .ok (.iadd, 1) := zo_96 zh_cX5_readOperand_5 4 rfl
theorem dX5_readOperand_105 : decode cX5_readOperand 105 = .ok (.invokevirtual 53, 3) := zo_182 zh_cX5_readOperand_5 5 rfl
theorem dX5_readOperand_108 : decode cX5_readOperand 108 = .ok (.aload_n 0, 1) := zo_42 zh_cX5_readOperand_5 8 rfl
theorem dX5_readOperand_109 : decode cX5_readOperand 109 = .ok (.bipush 41, 2) := zo_p16 zh_cX5_readOperand_5 9 41 rfl rfl
theorem dX5_readOperand_111 : decode cX5_readOperand 111 = .ok (.invokevirtual 32, 3) := zo_182 zh_cX5_readOperand_5 11 rfl
theorem dX5_readOperand_114 : decode cX5_readOperand 114 = .ok (.ifCond .ne 15, 3) := zo_p154 zh_cX5_readOperand_5 14 15 rfl rfl
theorem dX5_readOperand_117 : decode cX5_readOperand 117 = .ok (.aload_n 0, 1) := zo_42 zh_cX5_readOperand_5 17 rfl
theorem dX5_readOperand_118 : decode cX5_readOperand 118 = .ok (.invokevirtual 39, 3) := zo_182 zh_cX5_readOperand_5 18 rfl
theorem zh_cX5_readOperand_6 : zck [39, 167, 0, 8, 42, 28, 182, 0, 80, 177] (zdu 120 cX5_readOperand.data.toList) = true := by decide +kernel
theorem dX5_readOperand_121 : decode cX5_readOperand 121 = .ok (.goto 8, 3) := zo_p167 zh_cX5_readOperand_6 1 8 rfl rfl
theorem dX5_readOperand_124 : decode cX5_readOperand 124 = .ok (.aload_n 0, 1) := zo_42 zh_cX5_readOperand_6 4 rfl
theorem dX5_readOperand_125 : decode cX5_readOperand 125 = .ok (.iload_n 2, 1) := zo_28 zh_cX5_readOperand_6 5 rfl
theorem dX5_readOperand_126 : decode cX5_readOperand 126 = .ok (.invokevirtual 80, 3) := zo_182 zh_cX5_readOperand_6 6 rfl
theorem dX5_readOperand_129 : decode cX5_readOperand 129 = .ok (.return_, 1) := zo_177 zh_cX5_readOperand_6 9 rfl
abbrev z_X5_readLevel : List Cond := .code yX5_readLevel cX5_readLevel 5 none :: zW
abbrev wl_X5_readLevel (ad : Nat → Nat) (cs : Nat → ClassId)  (tape_size : Int32) (tape_bytes : Nat → Int32) (lr_size : Int32) (lr_at : Int32) (lr_fault : Int32) (lr_code : Nat → Int32) : va_W := [((ad 23), .inr (9, [.ref (ad 24), .int tape_size])), ((ad 24), .inl (cs 0, 120, .inl tape_bytes)), ((ad 26), .inr (5, [.ref (ad 23), .ref (ad 27), .int lr_size, .int lr_at, .int lr_fault])), ((ad 27), .inl (cs 0, 121, .inl lr_code))]
def Q_X5_readLevel (D : va_G) (cs : Nat → ClassId) (ad : Nat → Nat)  (tape_size : Int32) (tape_bytes : Nat → Int32) (A : Nat → Prop) (R : Int32 × Int32 × Int32 × (Nat → Int32)) : Array Value → State → Outcome → State → Prop :=
  va_Qv (fun u : Int32 × Int32 × Int32 × (Nat → Int32) => u = R) (fun (u : Int32 × Int32 × Int32 × (Nat → Int32)) (t : State) => va_P D classes (wl_X5_readLevel ad cs tape_size tape_bytes u.1 u.2.1 u.2.2.1 u.2.2.2) t.heap ∧ va_D A (wl_X5_readLevel ad cs tape_size tape_bytes u.1 u.2.1 u.2.2.1 u.2.2.2)) A
abbrev z_X5_readOperand : List Cond := .code yX5_readOperand cX5_readOperand 3 none :: zW
abbrev wl_X5_readOperand (ad : Nat → Nat) (cs : Nat → ClassId)  (tape_size : Int32) (tape_bytes : Nat → Int32) (lr_size : Int32) (lr_at : Int32) (lr_fault : Int32) (lr_code : Nat → Int32) : va_W := [((ad 23), .inr (9, [.ref (ad 24), .int tape_size])), ((ad 24), .inl (cs 0, 120, .inl tape_bytes)), ((ad 26), .inr (5, [.ref (ad 23), .ref (ad 27), .int lr_size, .int lr_at, .int lr_fault])), ((ad 27), .inl (cs 0, 121, .inl lr_code))]
def Q_X5_readOperand (D : va_G) (cs : Nat → ClassId) (ad : Nat → Nat)  (tape_size : Int32) (tape_bytes : Nat → Int32) (A : Nat → Prop) (R : Int32 × Int32 × Int32 × (Nat → Int32)) : Array Value → State → Outcome → State → Prop :=
  va_Qv (fun u : Int32 × Int32 × Int32 × (Nat → Int32) => u = R) (fun (u : Int32 × Int32 × Int32 × (Nat → Int32)) (t : State) => va_P D classes (wl_X5_readOperand ad cs tape_size tape_bytes u.1 u.2.1 u.2.2.1 u.2.2.2) t.heap ∧ va_D A (wl_X5_readOperand ad cs tape_size tape_bytes u.1 u.2.1 u.2.2.1 u.2.2.2)) A
theorem g_X5_32 : GoodIn zW (wsV RX5 32 RX5 yX5_accept z_X5_accept) := zGV kw_578 kw_579 kw_580 kw_80 kw_581
theorem g_X5_53 : GoodIn zW (wsV RX5 53 RX5 yX5_readLevel z_X5_readLevel) := zGV kw_545 kw_547 kw_0 kw_80 kw_548
theorem g_X5_61 : GoodIn zW (wsV RX5 61 RX5 yX5_readOperand z_X5_readOperand) := zGV kw_549 kw_551 kw_1 kw_80 kw_552
theorem g_X5_64 : GoodIn zW (wsV RX5 64 RX5 yX5_operatorAt z_X5_operatorAt) := zGV kw_646 kw_647 kw_648 kw_80 kw_649
theorem g_X5_74 : GoodIn zW (wsV RX5 74 RX5 yX5_readNumber z_X5_readNumber) := zGV kw_562 kw_563 kw_564 kw_80 kw_565
theorem g_X5_77 : GoodIn zW (wsV RX5 77 RX5 yX5_mayOpen z_X5_mayOpen) := zGV kw_570 kw_571 kw_572 kw_80 kw_573
theorem g_X5_80 : GoodIn zW (wsV RX5 80 RX5 yX5_readName z_X5_readName) := zGV kw_582 kw_583 kw_584 kw_80 kw_585
theorem hd_X5_accept : yX5_accept.cls ≠ "java/lang/invoke/MethodHandle" ∧ yX5_accept.cls ≠ "java/lang/invoke/VarHandle" ∧ (parseMethodDescriptor yX5_accept.desc).map (fun d => d.parameters.length) = some 1 := by decide +kernel
theorem hd_X5_mayOpen : yX5_mayOpen.cls ≠ "java/lang/invoke/MethodHandle" ∧ yX5_mayOpen.cls ≠ "java/lang/invoke/VarHandle" ∧ (parseMethodDescriptor yX5_mayOpen.desc).map (fun d => d.parameters.length) = some 1 := by decide +kernel
theorem hd_X5_operatorAt : yX5_operatorAt.cls ≠ "java/lang/invoke/MethodHandle" ∧ yX5_operatorAt.cls ≠ "java/lang/invoke/VarHandle" ∧ (parseMethodDescriptor yX5_operatorAt.desc).map (fun d => d.parameters.length) = some 1 := by decide +kernel
theorem hd_X5_readLevel : yX5_readLevel.cls ≠ "java/lang/invoke/MethodHandle" ∧ yX5_readLevel.cls ≠ "java/lang/invoke/VarHandle" ∧ (parseMethodDescriptor yX5_readLevel.desc).map (fun d => d.parameters.length) = some 2 := by decide +kernel
theorem hd_X5_readName : yX5_readName.cls ≠ "java/lang/invoke/MethodHandle" ∧ yX5_readName.cls ≠ "java/lang/invoke/VarHandle" ∧ (parseMethodDescriptor yX5_readName.desc).map (fun d => d.parameters.length) = some 1 := by decide +kernel
theorem hd_X5_readNumber : yX5_readNumber.cls ≠ "java/lang/invoke/MethodHandle" ∧ yX5_readNumber.cls ≠ "java/lang/invoke/VarHandle" ∧ (parseMethodDescriptor yX5_readNumber.desc).map (fun d => d.parameters.length) = some 0 := by decide +kernel
theorem hd_X5_readOperand : yX5_readOperand.cls ≠ "java/lang/invoke/MethodHandle" ∧ yX5_readOperand.cls ≠ "java/lang/invoke/VarHandle" ∧ (parseMethodDescriptor yX5_readOperand.desc).map (fun d => d.parameters.length) = some 1 := by decide +kernel
def B_X5_readLevel_21  (r_X5_readLevel : Int32 → Int32 → Int32 → (Nat → Int32) → Int32 → Int32 → Int32 → (Nat → Int32) → (Option (Int32 × Int32 × Int32 × (Nat → Int32)))) (r_X5_readOperand : Int32 → Int32 → (Nat → Int32) → Int32 → Int32 → Int32 → (Nat → Int32) → (Option (Int32 × Int32 × Int32 × (Nat → Int32)))) (g21 : Int32 → Int32 → Int32 → Int32 → Int32 → Int32 → (Nat → Int32) → (Option (Int32 × Int32 × Int32 × (Nat → Int32)))) (tape_size : Int32) (tape_bytes : Nat → Int32) (x1 : Int32) (x2 : Int32) (x3 : Int32) (lr_size : Int32) (lr_at : Int32) (lr_fault : Int32) (lr_code : Nat → Int32) : Option (Int32 × Int32 × Int32 × (Nat → Int32)) :=
  (if (120 : Int32) ≤ x3 then (some (lr_size, lr_at, lr_fault, lr_code)) else (if 0 ≤ lr_fault then (some (lr_size, lr_at, lr_fault, lr_code)) else (zk_b2 (f_X5_operatorAt x1 tape_size tape_bytes lr_size lr_at lr_fault) (fun r_14 u_15 => (if 0 ≤ r_14 then (zk_let (lr_at + (1 : Int32)) (fun v_18 => (zk_b4 (r_X5_readLevel (x1 + (1 : Int32)) x2 tape_size tape_bytes lr_size v_18 lr_fault lr_code) (fun u_19 u_20 u_21 u_22 => (zk_b2 (f_X5_emit r_14 u_19 u_20 u_21 u_22) (fun u_24 u_25 => (if x1 = (2 : Int32) then (some (u_24, u_20, u_21, u_25)) else (zk_let (x3 + (1 : Int32)) (fun v_28 => (g21 x1 x2 v_28 u_24 u_20 u_21 u_25)))))))))) else (some (lr_size, lr_at, lr_fault, lr_code)))))))
def B_X5_readLevel_0  (r_X5_readLevel : Int32 → Int32 → Int32 → (Nat → Int32) → Int32 → Int32 → Int32 → (Nat → Int32) → (Option (Int32 × Int32 × Int32 × (Nat → Int32)))) (r_X5_readOperand : Int32 → Int32 → (Nat → Int32) → Int32 → Int32 → Int32 → (Nat → Int32) → (Option (Int32 × Int32 × Int32 × (Nat → Int32)))) (g21 : Int32 → Int32 → Int32 → Int32 → Int32 → Int32 → (Nat → Int32) → (Option (Int32 × Int32 × Int32 × (Nat → Int32)))) (tape_size : Int32) (tape_bytes : Nat → Int32) (x1 : Int32) (x2 : Int32) (lr_size : Int32) (lr_at : Int32) (lr_fault : Int32) (lr_code : Nat → Int32) : Option (Int32 × Int32 × Int32 × (Nat → Int32)) :=
  (if x1 ≤ (4 : Int32) then (zk_b4 (r_X5_readLevel (x1 + (1 : Int32)) x2 tape_size tape_bytes lr_size lr_at lr_fault lr_code) (fun u_2 u_3 u_4 u_5 => (g21 x1 x2 (0 : Int32) u_2 u_3 u_4 u_5))) else (zk_b4 (r_X5_readOperand x2 tape_size tape_bytes lr_size lr_at lr_fault lr_code) (fun u_7 u_8 u_9 u_10 => (some (u_7, u_8, u_9, u_10)))))
def G_X5_readLevel  (r_X5_readLevel : Int32 → Int32 → Int32 → (Nat → Int32) → Int32 → Int32 → Int32 → (Nat → Int32) → (Option (Int32 × Int32 × Int32 × (Nat → Int32)))) (r_X5_readOperand : Int32 → Int32 → (Nat → Int32) → Int32 → Int32 → Int32 → (Nat → Int32) → (Option (Int32 × Int32 × Int32 × (Nat → Int32)))) (tape_size : Int32) (tape_bytes : Nat → Int32) (n : Nat) : (Int32 → Int32 → Int32 → Int32 → Int32 → Int32 → (Nat → Int32) → (Option (Int32 × Int32 × Int32 × (Nat → Int32)))) :=
  Nat.rec (motive := fun _ => (Int32 → Int32 → Int32 → Int32 → Int32 → Int32 → (Nat → Int32) → (Option (Int32 × Int32 × Int32 × (Nat → Int32))))) ((fun _ _ _ _ _ _ _ => none)) (fun _ ih => (B_X5_readLevel_21  r_X5_readLevel r_X5_readOperand ih tape_size tape_bytes)) n
def f_X5_readLevel  (r_X5_readLevel : Int32 → Int32 → Int32 → (Nat → Int32) → Int32 → Int32 → Int32 → (Nat → Int32) → (Option (Int32 × Int32 × Int32 × (Nat → Int32)))) (r_X5_readOperand : Int32 → Int32 → (Nat → Int32) → Int32 → Int32 → Int32 → (Nat → Int32) → (Option (Int32 × Int32 × Int32 × (Nat → Int32)))) (n : Nat) (x1 : Int32) (x2 : Int32) (tape_size : Int32) (tape_bytes : Nat → Int32) (lr_size : Int32) (lr_at : Int32) (lr_fault : Int32) (lr_code : Nat → Int32) : Option (Int32 × Int32 × Int32 × (Nat → Int32)) := B_X5_readLevel_0  r_X5_readLevel r_X5_readOperand ((G_X5_readLevel  r_X5_readLevel r_X5_readOperand tape_size tape_bytes n)) tape_size tape_bytes x1 x2 lr_size lr_at lr_fault lr_code
def B_X5_readOperand_80  (r_X5_readLevel : Int32 → Int32 → Int32 → (Nat → Int32) → Int32 → Int32 → Int32 → (Nat → Int32) → (Option (Int32 × Int32 × Int32 × (Nat → Int32)))) (r_X5_readOperand : Int32 → Int32 → (Nat → Int32) → Int32 → Int32 → Int32 → (Nat → Int32) → (Option (Int32 × Int32 × Int32 × (Nat → Int32))))  (tape_size : Int32) (tape_bytes : Nat → Int32) (s0 : Int32) (lr_size : Int32) (lr_at : Int32) (lr_fault : Int32) (lr_code : Nat → Int32) : Option (Int32 × Int32 × Int32 × (Nat → Int32)) :=
  (zk_b2 (f_X5_emit s0 lr_size lr_at lr_fault lr_code) (fun u_48 u_49 => (some (u_48, lr_at, lr_fault, u_49))))
def B_X5_readOperand_53  (r_X5_readLevel : Int32 → Int32 → Int32 → (Nat → Int32) → Int32 → Int32 → Int32 → (Nat → Int32) → (Option (Int32 × Int32 × Int32 × (Nat → Int32)))) (r_X5_readOperand : Int32 → Int32 → (Nat → Int32) → Int32 → Int32 → Int32 → (Nat → Int32) → (Option (Int32 × Int32 × Int32 × (Nat → Int32))))  (tape_size : Int32) (tape_bytes : Nat → Int32) (x1 : Int32) (x2 : Int32) (lr_size : Int32) (lr_at : Int32) (lr_fault : Int32) (lr_code : Nat → Int32) : Option (Int32 × Int32 × Int32 × (Nat → Int32)) :=
  (zk_b3 (f_X5_mayOpen x1 lr_size lr_at lr_fault) (fun r_37 u_38 u_39 => (if r_37 = 0 then (some (lr_size, u_38, u_39, lr_code)) else (zk_b4 (r_X5_readOperand (x1 + (1 : Int32)) tape_size tape_bytes lr_size u_38 u_39 lr_code) (fun u_42 u_43 u_44 u_45 => (if x2 = (33 : Int32) then (B_X5_readOperand_80 r_X5_readLevel r_X5_readOperand tape_size tape_bytes (4 : Int32) u_42 u_43 u_44 u_45) else (B_X5_readOperand_80 r_X5_readLevel r_X5_readOperand tape_size tape_bytes (5 : Int32) u_42 u_43 u_44 u_45)))))))
def B_X5_readOperand_0  (r_X5_readLevel : Int32 → Int32 → Int32 → (Nat → Int32) → Int32 → Int32 → Int32 → (Nat → Int32) → (Option (Int32 × Int32 × Int32 × (Nat → Int32)))) (r_X5_readOperand : Int32 → Int32 → (Nat → Int32) → Int32 → Int32 → Int32 → (Nat → Int32) → (Option (Int32 × Int32 × Int32 × (Nat → Int32))))  (tape_size : Int32) (tape_bytes : Nat → Int32) (x1 : Int32) (lr_size : Int32) (lr_at : Int32) (lr_fault : Int32) (lr_code : Nat → Int32) : Option (Int32 × Int32 × Int32 × (Nat → Int32)) :=
  (zk_b2 (f_X9_byteAt lr_at tape_size tape_bytes) (fun r_1 u_2 => (if lr_fault < 0 then (zk_b2 (f_X9_isDigitAt lr_at tape_size tape_bytes) (fun r_5 u_6 => (if r_5 = 0 then (if r_1 = (33 : Int32) then (B_X5_readOperand_53 r_X5_readLevel r_X5_readOperand tape_size tape_bytes x1 r_1 lr_size lr_at lr_fault lr_code) else (if r_1 = (45 : Int32) then (B_X5_readOperand_53 r_X5_readLevel r_X5_readOperand tape_size tape_bytes x1 r_1 lr_size lr_at lr_fault lr_code) else (if r_1 = (40 : Int32) then (zk_b3 (f_X5_mayOpen x1 lr_size lr_at lr_fault) (fun r_17 u_18 u_19 => (if r_17 = 0 then (some (lr_size, u_18, u_19, lr_code)) else (zk_b4 (r_X5_readLevel (0 : Int32) (x1 + (1 : Int32)) tape_size tape_bytes lr_size u_18 u_19 lr_code) (fun u_22 u_23 u_24 u_25 => (zk_b2 (f_X5_accept (41 : Int32) tape_size tape_bytes u_22 u_23 u_24) (fun r_27 u_28 => (if r_27 = 0 then (zk_b1 (f_X5_fail u_22 u_28 u_24) (fun u_31 => (some (u_22, u_28, u_31, u_25)))) else (some (u_22, u_28, u_24, u_25)))))))))) else (zk_b4 (f_X5_readName r_1 lr_size lr_at lr_fault lr_code) (fun u_12 u_13 u_14 u_15 => (some (u_12, u_13, u_14, u_15))))))) else (zk_b3 (f_X5_readNumber 100000 tape_size tape_bytes lr_size lr_at lr_fault lr_code) (fun u_33 u_34 u_35 => (some (u_33, u_34, lr_fault, u_35))))))) else (some (lr_size, lr_at, lr_fault, lr_code)))))
def f_X5_readOperand  (r_X5_readLevel : Int32 → Int32 → Int32 → (Nat → Int32) → Int32 → Int32 → Int32 → (Nat → Int32) → (Option (Int32 × Int32 × Int32 × (Nat → Int32)))) (r_X5_readOperand : Int32 → Int32 → (Nat → Int32) → Int32 → Int32 → Int32 → (Nat → Int32) → (Option (Int32 × Int32 × Int32 × (Nat → Int32)))) (x1 : Int32) (tape_size : Int32) (tape_bytes : Nat → Int32) (lr_size : Int32) (lr_at : Int32) (lr_fault : Int32) (lr_code : Nat → Int32) : Option (Int32 × Int32 × Int32 × (Nat → Int32)) := B_X5_readOperand_0  r_X5_readLevel r_X5_readOperand tape_size tape_bytes x1 lr_size lr_at lr_fault lr_code
def grp_lawgrp (n : Nat) : (Int32 → Int32 → Int32 → (Nat → Int32) → Int32 → Int32 → Int32 → (Nat → Int32) → (Option (Int32 × Int32 × Int32 × (Nat → Int32)))) × (Int32 → Int32 → (Nat → Int32) → Int32 → Int32 → Int32 → (Nat → Int32) → (Option (Int32 × Int32 × Int32 × (Nat → Int32)))) :=
  Nat.rec (motive := fun _ => (Int32 → Int32 → Int32 → (Nat → Int32) → Int32 → Int32 → Int32 → (Nat → Int32) → (Option (Int32 × Int32 × Int32 × (Nat → Int32)))) × (Int32 → Int32 → (Nat → Int32) → Int32 → Int32 → Int32 → (Nat → Int32) → (Option (Int32 × Int32 × Int32 × (Nat → Int32))))) ((fun _ _ _ _ _ _ _ _ => none), (fun _ _ _ _ _ _ _ => none)) (fun _ ih => (f_X5_readLevel (ih.1) (ih.2) 100000, f_X5_readOperand (ih.1) (ih.2))) n
set_option maxHeartbeats 4000000 in
set_option maxRecDepth 100000 in
theorem L_X5_readLevel_21 {p : Program} {l : Launch} {e : Env} {s : State} {m : MethodId} {args : Array Value} {below : List Frame} {meth : Method} {c : Code} {A : Nat → Prop} {D : va_G} {cs : Nat → ClassId} {ad : Nat → Nat} {tape_size : Int32} {tape_bytes : Nat → Int32} {R : Int32 × Int32 × Int32 × (Nat → Int32)} {g21 : Int32 → Int32 → Int32 → Int32 → Int32 → Int32 → (Nat → Int32) → (Option (Int32 × Int32 × Int32 × (Nat → Int32)))} (C0 : zC p s m args meth c cX5_readLevel 5 none RX5 zW) (hK : va_K D classes (zT cs) s) {k : (Nat → Nat) × (Nat → Nat)} (hO : zO s) (hE : zE k A s) (hA : ∀ q : Nat, s.heap.size ≤ q → A q) {fr lo : Nat} {r_X5_readLevel : Int32 → Int32 → Int32 → (Nat → Int32) → Int32 → Int32 → Int32 → (Nat → Int32) → (Option (Int32 × Int32 × Int32 × (Nat → Int32)))} {r_X5_readOperand : Int32 → Int32 → (Nat → Int32) → Int32 → Int32 → Int32 → (Nat → Int32) → (Option (Int32 × Int32 × Int32 × (Nat → Int32)))} (hr_X5_readLevel : ∀ (D : va_G) (cs : Nat → ClassId) (ad : Nat → Nat) (k : (Nat → Nat) × (Nat → Nat)) (sz : Nat) (x1 : Int32) (x2 : Int32) (tape_size : Int32) (tape_bytes : Nat → Int32) (lr_size : Int32) (lr_at : Int32) (lr_fault : Int32) (lr_code : Nat → Int32) (R : Int32 × Int32 × Int32 × (Nat → Int32)) (h : r_X5_readLevel x1 x2 tape_size tape_bytes lr_size lr_at lr_fault lr_code = some R), Met l yX5_readLevel z_X5_readLevel ({ frames := fr, cells := 0, slots := 0, locals := lo } : Room) (va_Pc [.ref (ad 26), .int x1, .int x2] (zPreE k D cs (wl_X5_readLevel ad cs tape_size tape_bytes lr_size lr_at lr_fault lr_code) sz)) (Q_X5_readLevel D cs ad tape_size tape_bytes (va_A (wl_X5_readLevel ad cs tape_size tape_bytes lr_size lr_at lr_fault lr_code) sz) R) 0 0 (va_A (wl_X5_readLevel ad cs tape_size tape_bytes lr_size lr_at lr_fault lr_code) sz)) (hr_X5_readOperand : ∀ (D : va_G) (cs : Nat → ClassId) (ad : Nat → Nat) (k : (Nat → Nat) × (Nat → Nat)) (sz : Nat) (x1 : Int32) (tape_size : Int32) (tape_bytes : Nat → Int32) (lr_size : Int32) (lr_at : Int32) (lr_fault : Int32) (lr_code : Nat → Int32) (R : Int32 × Int32 × Int32 × (Nat → Int32)) (h : r_X5_readOperand x1 tape_size tape_bytes lr_size lr_at lr_fault lr_code = some R), Met l yX5_readOperand z_X5_readOperand ({ frames := fr, cells := 0, slots := 0, locals := lo } : Room) (va_Pc [.ref (ad 26), .int x1] (zPreE k D cs (wl_X5_readOperand ad cs tape_size tape_bytes lr_size lr_at lr_fault lr_code) sz)) (Q_X5_readOperand D cs ad tape_size tape_bytes (va_A (wl_X5_readOperand ad cs tape_size tape_bytes lr_size lr_at lr_fault lr_code) sz) R) 0 0 (va_A (wl_X5_readOperand ad cs tape_size tape_bytes lr_size lr_at lr_fault lr_code) sz)) (ih21 : ∀ (x1 : Int32) (x2 : Int32) (x3 : Int32) (lr_size : Int32) (lr_at : Int32) (lr_fault : Int32) (lr_code : Nat → Int32) (h : g21 x1 x2 x3 lr_size lr_at lr_fault lr_code = some R) (H : Heap) (locs : List Loc) (ls : Array Slot) (hP : va_P D classes (wl_X5_readLevel ad cs tape_size tape_bytes lr_size lr_at lr_fault lr_code) H) (hD : va_D A (wl_X5_readLevel ad cs tape_size tape_bytes lr_size lr_at lr_fault lr_code)) (hS : va_S A s.heap H locs) (hl : lv_has ls 5 [(0, .ref (ad 26)), (1, .int x1), (2, .int x2), (3, .int x3)]), W p l e ({ frames := fr + 5, cells := 0, slots := 0, locals := lo + 113 } : Room) s m args below meth c H locs 0 0 (MQ below (Q_X5_readLevel D cs ad tape_size tape_bytes A R) args s 0 0 A) (F0 m 21 ls [])) (x1 : Int32) (x2 : Int32) (x3 : Int32) (lr_size : Int32) (lr_at : Int32) (lr_fault : Int32) (lr_code : Nat → Int32) (h : B_X5_readLevel_21 r_X5_readLevel r_X5_readOperand g21 tape_size tape_bytes x1 x2 x3 lr_size lr_at lr_fault lr_code = some R) (H : Heap) (locs : List Loc) (ls : Array Slot) (hP : va_P D classes (wl_X5_readLevel ad cs tape_size tape_bytes lr_size lr_at lr_fault lr_code) H) (hD : va_D A (wl_X5_readLevel ad cs tape_size tape_bytes lr_size lr_at lr_fault lr_code)) (hS : va_S A s.heap H locs) (hl : lv_has ls 5 [(0, .ref (ad 26)), (1, .int x1), (2, .int x2), (3, .int x3)]) : W p l e ({ frames := fr + 5, cells := 0, slots := 0, locals := lo + 113 } : Room) s m args below meth c H locs 0 0 (MQ below (Q_X5_readLevel D cs ad tape_size tape_bytes A R) args s 0 0 A) (F0 m 21 ls []) := by
  obtain ⟨hx, hb, hr, hml, hown, ht, hlocks⟩ := id C0
  refine lv_iload_n hx hb dX5_readLevel_21 rfl (lv_at hl 3 rfl) ?_
  refine lv_bipush (v := (120 : Int32)) hx hb dX5_readLevel_22 (by decide) ?_
  refine lv_icmp_ge (tgt := 83) hx hb dX5_readLevel_24 (by decide) (fun c_12 => ?_) (fun c_12 => ?_)
  · have h := zk_t c_12 h
    exact W.vret hx hb hr (fun t ht2 hW => ⟨⟨(lr_size, lr_at, lr_fault, lr_code), rfl, Option.some.inj h, by rw [ht2]; exact hP, hD⟩, hS.F ht2⟩) hS.2.2 dX5_readLevel_83 hlocks
  · have h := zk_f c_12 h
    refine lv_aload_n hx hb dX5_readLevel_27 rfl (lv_at hl 0 rfl) ?_
    refine va_get (D := D) (ci := 5) (v := .int lr_fault) (C := RX5) (T := TX5) (N := 5) hx hb ht iX5 hown hK hP 2 rfl rfl 4 (by decide) (ht _ kw_278) (fun _ h9 => h9) rfl dX5_readLevel_28 ?_
    refine lv_if_ge (tgt := 83) hx hb dX5_readLevel_31 (by decide) (fun c_13 => ?_) (fun c_13 => ?_)
    · have h := zk_t c_13 h
      exact W.vret hx hb hr (fun t ht2 hW => ⟨⟨(lr_size, lr_at, lr_fault, lr_code), rfl, Option.some.inj h, by rw [ht2]; exact hP, hD⟩, hS.F ht2⟩) hS.2.2 dX5_readLevel_83 hlocks
    · have h := zk_f c_13 h
      refine lv_aload_n hx hb dX5_readLevel_34 rfl (lv_at hl 0 rfl) ?_
      refine lv_iload_n hx hb dX5_readLevel_35 rfl (lv_at hl 1 rfl) ?_
      obtain ⟨r_14, u_15, hc_16, h⟩ := zk_o2 h
      refine zz_vi (post := (fun r u => (r, u) = (r_14, u_15))) (w1 := fun u => (wl_X5_operatorAt ad cs tape_size tape_bytes lr_size lr_at lr_fault)) (As := [.int x1]) (rest := []) (c_X5_operatorAt l D cs ad  H.size x1 tape_size tape_bytes lr_size lr_at lr_fault (r_14, u_15) hc_16) ⟨hx, hb, hml, hown, ht⟩ (cwV 1 ht g_X5_64 rfl rfl rfl ⟨rfl, hd_X5_operatorAt⟩ ⟨(by show 1 + 1 ≤ fr + 5; omega), (by show 8 + (3 + 11) + 21 ≤ lo + 113; omega)⟩) (va_recv hK hP (ci := 5) (q0 := 2) rfl rfl) hP hD hS hK hA [0, 1, 2] rfl rfl [(ad 23), (ad 24), (ad 26)] rfl (fun _ => rfl) rfl hl.1 (Nat.le_of_ble_eq_true rfl) dX5_readLevel_36 ⟨Nat.zero_le _, Nat.zero_le _⟩ (fun r u H locs hq hP hS => ?_)
      cases hq
      have hP : va_P D classes (wl_X5_readLevel ad cs tape_size tape_bytes lr_size lr_at lr_fault lr_code) H := hP
      have hD : va_D A (wl_X5_readLevel ad cs tape_size tape_bytes lr_size lr_at lr_fault lr_code) := zDk hD [(ad 23), (ad 24), (ad 26), (ad 27)] rfl rfl
      refine lv_istore (lv' := [(4, .int r_14), (0, .ref (ad 26)), (1, .int x1), (2, .int x2), (3, .int x3)]) hx hb dX5_readLevel_39 hl (by decide) rfl (fun ls hl => ?_)
      refine lv_iload hx hb dX5_readLevel_41 (lv_at hl 0 rfl) ?_
      refine lv_if_ge (tgt := 47) hx hb dX5_readLevel_43 (by decide) (fun c_17 => ?_) (fun c_17 => ?_)
      · have h := zk_t c_17 h
        refine lv_aload_n hx hb dX5_readLevel_47 rfl (lv_at hl 1 rfl) ?_
        refine lv_dup hx hb dX5_readLevel_48 rfl ?_
        refine va_get (D := D) (ci := 5) (v := .int lr_at) (C := RX5) (T := TX5) (N := 5) hx hb ht iX5 hown hK hP 2 rfl rfl 3 (by decide) (ht _ kw_277) (fun _ h9 => h9) rfl dX5_readLevel_49 ?_
        refine lv_iconst (v := (1 : Int32)) hx hb dX5_readLevel_52 (by decide) ?_
        refine lv_iadd hx hb dX5_readLevel_53 ?_
        obtain ⟨v_18, ev_18, h⟩ := zk_lt h
        refine W.eq (g2 := F0 m 54 ls [.int v_18, .ref (ad 26)]) (by rw [ev_18]) ?_
        refine va_put (D := D) (ci := 5) (v := .int v_18) (ty := .int) (C := RX5) (T := TX5) (N := 5) hx hb ht iX5 tyX5 tyX5_ok nmX5 hown hK hP hD hS 2 rfl rfl 3 (by decide) (ht _ kw_277) (fun _ h9 => h9) rfl (by decide +kernel) rfl rfl (Nat.le_of_ble_eq_true rfl) dX5_readLevel_54 (fun H locs hP hD hS => ?_)
        have hP : va_P D classes (wl_X5_readLevel ad cs tape_size tape_bytes lr_size v_18 lr_fault lr_code) H := hP
        have hD : va_D A (wl_X5_readLevel ad cs tape_size tape_bytes lr_size v_18 lr_fault lr_code) := hD
        refine lv_aload_n hx hb dX5_readLevel_57 rfl (lv_at hl 1 rfl) ?_
        refine lv_iload_n hx hb dX5_readLevel_58 rfl (lv_at hl 2 rfl) ?_
        refine lv_iconst (v := (1 : Int32)) hx hb dX5_readLevel_59 (by decide) ?_
        refine lv_iadd hx hb dX5_readLevel_60 ?_
        refine lv_iload_n hx hb dX5_readLevel_61 rfl (lv_at hl 3 rfl) ?_
        obtain ⟨u_19, u_20, u_21, u_22, hc_23, h⟩ := zk_o4 h
        refine zk_vvE (post := (fun u => u = (u_19, u_20, u_21, u_22))) (w1 := fun u => (wl_X5_readLevel ad cs tape_size tape_bytes u.1 u.2.1 u.2.2.1 u.2.2.2)) (As := [.int (x1 + (1 : Int32)), .int x2]) (rest := []) hE hO (hr_X5_readLevel D cs ad k H.size (x1 + (1 : Int32)) x2 tape_size tape_bytes lr_size v_18 lr_fault lr_code (u_19, u_20, u_21, u_22) hc_23) ⟨hx, hb, hml, hown, ht⟩ (cwV 2 ht g_X5_53 rfl rfl rfl ⟨rfl, hd_X5_readLevel⟩ ⟨(by show fr + 1 ≤ fr + 5; omega), (by show 8 + (5 + 11) + lo ≤ lo + 113; omega)⟩) (va_recv hK hP (ci := 5) (q0 := 2) rfl rfl) hP hD hS hK hA [0, 1, 2, 3] [] rfl rfl rfl rfl (by decide) rfl hl.1 (Nat.le_of_ble_eq_true rfl) dX5_readLevel_62 ⟨Nat.zero_le _, Nat.zero_le _⟩ (fun u H locs hq hP hD hS => ?_)
        cases hq
        have hP : va_P D classes (wl_X5_readLevel ad cs tape_size tape_bytes u_19 u_20 u_21 u_22) H := hP.sub [0, 1, 2, 3] rfl
        have hD : va_D A (wl_X5_readLevel ad cs tape_size tape_bytes u_19 u_20 u_21 u_22) := hD.sub [0, 1, 2, 3] rfl rfl
        refine lv_aload_n hx hb dX5_readLevel_65 rfl (lv_at hl 1 rfl) ?_
        refine lv_iload hx hb dX5_readLevel_66 (lv_at hl 0 rfl) ?_
        obtain ⟨u_24, u_25, hc_26, h⟩ := zk_o2 h
        refine zz_vv (post := (fun u => u = (u_24, u_25))) (w1 := fun u => (wl_X5_emit ad cs u.1 u_20 u_21 u.2)) (As := [.int r_14]) (rest := []) (c_X5_emit l D cs ad  H.size r_14 u_19 u_20 u_21 u_22 (u_24, u_25) hc_26) ⟨hx, hb, hml, hown, ht⟩ (cwV 1 ht g_X5_57 rfl rfl rfl ⟨rfl, hd_X5_emit⟩ ⟨(by show 0 + 1 ≤ fr + 5; omega), (by show 8 + (2 + 11) + 0 ≤ lo + 113; omega)⟩) (va_recv hK hP (ci := 5) (q0 := 2) rfl rfl) hP hD hS hK hA [2, 3] rfl rfl [(ad 26), (ad 27)] rfl (fun _ => rfl) rfl hl.1 (Nat.le_of_ble_eq_true rfl) dX5_readLevel_68 ⟨Nat.zero_le _, Nat.zero_le _⟩ (fun u H locs hq hP hS => ?_)
        cases hq
        have hP : va_P D classes (wl_X5_readLevel ad cs tape_size tape_bytes u_24 u_20 u_21 u_25) H := hP
        have hD : va_D A (wl_X5_readLevel ad cs tape_size tape_bytes u_24 u_20 u_21 u_25) := zDk hD [(ad 23), (ad 24), (ad 26), (ad 27)] rfl rfl
        refine lv_iload_n hx hb dX5_readLevel_71 rfl (lv_at hl 2 rfl) ?_
        refine lv_iconst (v := (2 : Int32)) hx hb dX5_readLevel_72 (by decide) ?_
        refine lv_icmp_ne (tgt := 77) hx hb dX5_readLevel_73 (by decide) (fun c_27 => ?_) (fun c_27 => ?_)
        · have h := zk_f c_27 h
          obtain ⟨v_28, ev_28, h⟩ := zk_lt h
          refine lv_iinc (v := v_28) (lv' := [(3, .int v_28), (4, .int r_14), (0, .ref (ad 26)), (1, .int x1), (2, .int x2)]) hx hb dX5_readLevel_77 hl (k := 4) rfl (by rw [ev_28]; rfl) (by decide) rfl (fun ls hl => ?_)
          refine lv_goto (tgt := 21) hx hb dX5_readLevel_80 (by decide) ?_
          exact ih21 x1 x2 v_28 u_24 u_20 u_21 u_25 h H locs ls hP hD hS (lv_sub hl [2, 3, 4, 0] rfl)
        · have h := zk_t c_27 h
          exact W.vret hx hb hr (fun t ht2 hW => ⟨⟨(u_24, u_20, u_21, u_25), rfl, Option.some.inj h, by rw [ht2]; exact hP, hD⟩, hS.F ht2⟩) hS.2.2 dX5_readLevel_76 hlocks
      · have h := zk_f c_17 h
        exact W.vret hx hb hr (fun t ht2 hW => ⟨⟨(lr_size, lr_at, lr_fault, lr_code), rfl, Option.some.inj h, by rw [ht2]; exact hP, hD⟩, hS.F ht2⟩) hS.2.2 dX5_readLevel_46 hlocks
set_option maxHeartbeats 4000000 in
set_option maxRecDepth 100000 in
theorem L_X5_readLevel_0 {p : Program} {l : Launch} {e : Env} {s : State} {m : MethodId} {args : Array Value} {below : List Frame} {meth : Method} {c : Code} {A : Nat → Prop} {D : va_G} {cs : Nat → ClassId} {ad : Nat → Nat} {tape_size : Int32} {tape_bytes : Nat → Int32} {R : Int32 × Int32 × Int32 × (Nat → Int32)} {g21 : Int32 → Int32 → Int32 → Int32 → Int32 → Int32 → (Nat → Int32) → (Option (Int32 × Int32 × Int32 × (Nat → Int32)))} (C0 : zC p s m args meth c cX5_readLevel 5 none RX5 zW) (hK : va_K D classes (zT cs) s) {k : (Nat → Nat) × (Nat → Nat)} (hO : zO s) (hE : zE k A s) (hA : ∀ q : Nat, s.heap.size ≤ q → A q) {fr lo : Nat} {r_X5_readLevel : Int32 → Int32 → Int32 → (Nat → Int32) → Int32 → Int32 → Int32 → (Nat → Int32) → (Option (Int32 × Int32 × Int32 × (Nat → Int32)))} {r_X5_readOperand : Int32 → Int32 → (Nat → Int32) → Int32 → Int32 → Int32 → (Nat → Int32) → (Option (Int32 × Int32 × Int32 × (Nat → Int32)))} (hr_X5_readLevel : ∀ (D : va_G) (cs : Nat → ClassId) (ad : Nat → Nat) (k : (Nat → Nat) × (Nat → Nat)) (sz : Nat) (x1 : Int32) (x2 : Int32) (tape_size : Int32) (tape_bytes : Nat → Int32) (lr_size : Int32) (lr_at : Int32) (lr_fault : Int32) (lr_code : Nat → Int32) (R : Int32 × Int32 × Int32 × (Nat → Int32)) (h : r_X5_readLevel x1 x2 tape_size tape_bytes lr_size lr_at lr_fault lr_code = some R), Met l yX5_readLevel z_X5_readLevel ({ frames := fr, cells := 0, slots := 0, locals := lo } : Room) (va_Pc [.ref (ad 26), .int x1, .int x2] (zPreE k D cs (wl_X5_readLevel ad cs tape_size tape_bytes lr_size lr_at lr_fault lr_code) sz)) (Q_X5_readLevel D cs ad tape_size tape_bytes (va_A (wl_X5_readLevel ad cs tape_size tape_bytes lr_size lr_at lr_fault lr_code) sz) R) 0 0 (va_A (wl_X5_readLevel ad cs tape_size tape_bytes lr_size lr_at lr_fault lr_code) sz)) (hr_X5_readOperand : ∀ (D : va_G) (cs : Nat → ClassId) (ad : Nat → Nat) (k : (Nat → Nat) × (Nat → Nat)) (sz : Nat) (x1 : Int32) (tape_size : Int32) (tape_bytes : Nat → Int32) (lr_size : Int32) (lr_at : Int32) (lr_fault : Int32) (lr_code : Nat → Int32) (R : Int32 × Int32 × Int32 × (Nat → Int32)) (h : r_X5_readOperand x1 tape_size tape_bytes lr_size lr_at lr_fault lr_code = some R), Met l yX5_readOperand z_X5_readOperand ({ frames := fr, cells := 0, slots := 0, locals := lo } : Room) (va_Pc [.ref (ad 26), .int x1] (zPreE k D cs (wl_X5_readOperand ad cs tape_size tape_bytes lr_size lr_at lr_fault lr_code) sz)) (Q_X5_readOperand D cs ad tape_size tape_bytes (va_A (wl_X5_readOperand ad cs tape_size tape_bytes lr_size lr_at lr_fault lr_code) sz) R) 0 0 (va_A (wl_X5_readOperand ad cs tape_size tape_bytes lr_size lr_at lr_fault lr_code) sz)) (ih21 : ∀ (x1 : Int32) (x2 : Int32) (x3 : Int32) (lr_size : Int32) (lr_at : Int32) (lr_fault : Int32) (lr_code : Nat → Int32) (h : g21 x1 x2 x3 lr_size lr_at lr_fault lr_code = some R) (H : Heap) (locs : List Loc) (ls : Array Slot) (hP : va_P D classes (wl_X5_readLevel ad cs tape_size tape_bytes lr_size lr_at lr_fault lr_code) H) (hD : va_D A (wl_X5_readLevel ad cs tape_size tape_bytes lr_size lr_at lr_fault lr_code)) (hS : va_S A s.heap H locs) (hl : lv_has ls 5 [(0, .ref (ad 26)), (1, .int x1), (2, .int x2), (3, .int x3)]), W p l e ({ frames := fr + 5, cells := 0, slots := 0, locals := lo + 113 } : Room) s m args below meth c H locs 0 0 (MQ below (Q_X5_readLevel D cs ad tape_size tape_bytes A R) args s 0 0 A) (F0 m 21 ls [])) (x1 : Int32) (x2 : Int32) (lr_size : Int32) (lr_at : Int32) (lr_fault : Int32) (lr_code : Nat → Int32) (h : B_X5_readLevel_0 r_X5_readLevel r_X5_readOperand g21 tape_size tape_bytes x1 x2 lr_size lr_at lr_fault lr_code = some R) (H : Heap) (locs : List Loc) (ls : Array Slot) (hP : va_P D classes (wl_X5_readLevel ad cs tape_size tape_bytes lr_size lr_at lr_fault lr_code) H) (hD : va_D A (wl_X5_readLevel ad cs tape_size tape_bytes lr_size lr_at lr_fault lr_code)) (hS : va_S A s.heap H locs) (hl : lv_has ls 5 [(0, .ref (ad 26)), (1, .int x1), (2, .int x2)]) : W p l e ({ frames := fr + 5, cells := 0, slots := 0, locals := lo + 113 } : Room) s m args below meth c H locs 0 0 (MQ below (Q_X5_readLevel D cs ad tape_size tape_bytes A R) args s 0 0 A) (F0 m 0 ls []) := by
  obtain ⟨hx, hb, hr, hml, hown, ht, hlocks⟩ := id C0
  refine lv_iload_n hx hb dX5_readLevel_0 rfl (lv_at hl 1 rfl) ?_
  refine lv_iconst (v := (4 : Int32)) hx hb dX5_readLevel_1 (by decide) ?_
  refine lv_icmp_le (tgt := 11) hx hb dX5_readLevel_2 (by decide) (fun c_1 => ?_) (fun c_1 => ?_)
  · have h := zk_t c_1 h
    refine lv_aload_n hx hb dX5_readLevel_11 rfl (lv_at hl 0 rfl) ?_
    refine lv_iload_n hx hb dX5_readLevel_12 rfl (lv_at hl 1 rfl) ?_
    refine lv_iconst (v := (1 : Int32)) hx hb dX5_readLevel_13 (by decide) ?_
    refine lv_iadd hx hb dX5_readLevel_14 ?_
    refine lv_iload_n hx hb dX5_readLevel_15 rfl (lv_at hl 2 rfl) ?_
    obtain ⟨u_2, u_3, u_4, u_5, hc_6, h⟩ := zk_o4 h
    refine zk_vvE (post := (fun u => u = (u_2, u_3, u_4, u_5))) (w1 := fun u => (wl_X5_readLevel ad cs tape_size tape_bytes u.1 u.2.1 u.2.2.1 u.2.2.2)) (As := [.int (x1 + (1 : Int32)), .int x2]) (rest := []) hE hO (hr_X5_readLevel D cs ad k H.size (x1 + (1 : Int32)) x2 tape_size tape_bytes lr_size lr_at lr_fault lr_code (u_2, u_3, u_4, u_5) hc_6) ⟨hx, hb, hml, hown, ht⟩ (cwV 2 ht g_X5_53 rfl rfl rfl ⟨rfl, hd_X5_readLevel⟩ ⟨(by show fr + 1 ≤ fr + 5; omega), (by show 8 + (5 + 11) + lo ≤ lo + 113; omega)⟩) (va_recv hK hP (ci := 5) (q0 := 2) rfl rfl) hP hD hS hK hA [0, 1, 2, 3] [] rfl rfl rfl rfl (by decide) rfl hl.1 (Nat.le_of_ble_eq_true rfl) dX5_readLevel_16 ⟨Nat.zero_le _, Nat.zero_le _⟩ (fun u H locs hq hP hD hS => ?_)
    cases hq
    have hP : va_P D classes (wl_X5_readLevel ad cs tape_size tape_bytes u_2 u_3 u_4 u_5) H := hP.sub [0, 1, 2, 3] rfl
    have hD : va_D A (wl_X5_readLevel ad cs tape_size tape_bytes u_2 u_3 u_4 u_5) := hD.sub [0, 1, 2, 3] rfl rfl
    refine lv_iconst (v := (0 : Int32)) hx hb dX5_readLevel_19 (by decide) ?_
    refine lv_istore_n (lv' := [(3, .int (0 : Int32)), (0, .ref (ad 26)), (1, .int x1), (2, .int x2)]) hx hb dX5_readLevel_20 rfl hl (by decide) rfl (fun ls hl => ?_)
    exact ih21 x1 x2 (0 : Int32) u_2 u_3 u_4 u_5 h H locs ls hP hD hS (lv_sub hl [1, 2, 3, 0] rfl)
  · have h := zk_f c_1 h
    refine lv_aload_n hx hb dX5_readLevel_5 rfl (lv_at hl 0 rfl) ?_
    refine lv_iload_n hx hb dX5_readLevel_6 rfl (lv_at hl 2 rfl) ?_
    obtain ⟨u_7, u_8, u_9, u_10, hc_11, h⟩ := zk_o4 h
    refine zk_vvE (post := (fun u => u = (u_7, u_8, u_9, u_10))) (w1 := fun u => (wl_X5_readOperand ad cs tape_size tape_bytes u.1 u.2.1 u.2.2.1 u.2.2.2)) (As := [.int x2]) (rest := []) hE hO (hr_X5_readOperand D cs ad k H.size x2 tape_size tape_bytes lr_size lr_at lr_fault lr_code (u_7, u_8, u_9, u_10) hc_11) ⟨hx, hb, hml, hown, ht⟩ (cwV 1 ht g_X5_61 rfl rfl rfl ⟨rfl, hd_X5_readOperand⟩ ⟨(by show fr + 1 ≤ fr + 5; omega), (by show 8 + (3 + 11) + lo ≤ lo + 113; omega)⟩) (va_recv hK hP (ci := 5) (q0 := 2) rfl rfl) hP hD hS hK hA [0, 1, 2, 3] [] rfl rfl rfl rfl (by decide) rfl hl.1 (Nat.le_of_ble_eq_true rfl) dX5_readLevel_7 ⟨Nat.zero_le _, Nat.zero_le _⟩ (fun u H locs hq hP hD hS => ?_)
    cases hq
    have hP : va_P D classes (wl_X5_readLevel ad cs tape_size tape_bytes u_7 u_8 u_9 u_10) H := hP.sub [0, 1, 2, 3] rfl
    have hD : va_D A (wl_X5_readLevel ad cs tape_size tape_bytes u_7 u_8 u_9 u_10) := hD.sub [0, 1, 2, 3] rfl rfl
    exact W.vret hx hb hr (fun t ht2 hW => ⟨⟨(u_7, u_8, u_9, u_10), rfl, Option.some.inj h, by rw [ht2]; exact hP, hD⟩, hS.F ht2⟩) hS.2.2 dX5_readLevel_10 hlocks
theorem LG_X5_readLevel {p : Program} {l : Launch} {e : Env} {s : State} {m : MethodId} {args : Array Value} {below : List Frame} {meth : Method} {c : Code} {A : Nat → Prop} {D : va_G} {cs : Nat → ClassId} {ad : Nat → Nat} {tape_size : Int32} {tape_bytes : Nat → Int32} {R : Int32 × Int32 × Int32 × (Nat → Int32)} (C0 : zC p s m args meth c cX5_readLevel 5 none RX5 zW) (hK : va_K D classes (zT cs) s) {k : (Nat → Nat) × (Nat → Nat)} (hO : zO s) (hE : zE k A s) (hA : ∀ q : Nat, s.heap.size ≤ q → A q) {fr lo : Nat} {r_X5_readLevel : Int32 → Int32 → Int32 → (Nat → Int32) → Int32 → Int32 → Int32 → (Nat → Int32) → (Option (Int32 × Int32 × Int32 × (Nat → Int32)))} {r_X5_readOperand : Int32 → Int32 → (Nat → Int32) → Int32 → Int32 → Int32 → (Nat → Int32) → (Option (Int32 × Int32 × Int32 × (Nat → Int32)))} (hr_X5_readLevel : ∀ (D : va_G) (cs : Nat → ClassId) (ad : Nat → Nat) (k : (Nat → Nat) × (Nat → Nat)) (sz : Nat) (x1 : Int32) (x2 : Int32) (tape_size : Int32) (tape_bytes : Nat → Int32) (lr_size : Int32) (lr_at : Int32) (lr_fault : Int32) (lr_code : Nat → Int32) (R : Int32 × Int32 × Int32 × (Nat → Int32)) (h : r_X5_readLevel x1 x2 tape_size tape_bytes lr_size lr_at lr_fault lr_code = some R), Met l yX5_readLevel z_X5_readLevel ({ frames := fr, cells := 0, slots := 0, locals := lo } : Room) (va_Pc [.ref (ad 26), .int x1, .int x2] (zPreE k D cs (wl_X5_readLevel ad cs tape_size tape_bytes lr_size lr_at lr_fault lr_code) sz)) (Q_X5_readLevel D cs ad tape_size tape_bytes (va_A (wl_X5_readLevel ad cs tape_size tape_bytes lr_size lr_at lr_fault lr_code) sz) R) 0 0 (va_A (wl_X5_readLevel ad cs tape_size tape_bytes lr_size lr_at lr_fault lr_code) sz)) (hr_X5_readOperand : ∀ (D : va_G) (cs : Nat → ClassId) (ad : Nat → Nat) (k : (Nat → Nat) × (Nat → Nat)) (sz : Nat) (x1 : Int32) (tape_size : Int32) (tape_bytes : Nat → Int32) (lr_size : Int32) (lr_at : Int32) (lr_fault : Int32) (lr_code : Nat → Int32) (R : Int32 × Int32 × Int32 × (Nat → Int32)) (h : r_X5_readOperand x1 tape_size tape_bytes lr_size lr_at lr_fault lr_code = some R), Met l yX5_readOperand z_X5_readOperand ({ frames := fr, cells := 0, slots := 0, locals := lo } : Room) (va_Pc [.ref (ad 26), .int x1] (zPreE k D cs (wl_X5_readOperand ad cs tape_size tape_bytes lr_size lr_at lr_fault lr_code) sz)) (Q_X5_readOperand D cs ad tape_size tape_bytes (va_A (wl_X5_readOperand ad cs tape_size tape_bytes lr_size lr_at lr_fault lr_code) sz) R) 0 0 (va_A (wl_X5_readOperand ad cs tape_size tape_bytes lr_size lr_at lr_fault lr_code) sz)) : ∀ n : Nat, (∀ (x1 : Int32) (x2 : Int32) (x3 : Int32) (lr_size : Int32) (lr_at : Int32) (lr_fault : Int32) (lr_code : Nat → Int32) (h : (G_X5_readLevel  r_X5_readLevel r_X5_readOperand tape_size tape_bytes n) x1 x2 x3 lr_size lr_at lr_fault lr_code = some R) (H : Heap) (locs : List Loc) (ls : Array Slot) (hP : va_P D classes (wl_X5_readLevel ad cs tape_size tape_bytes lr_size lr_at lr_fault lr_code) H) (hD : va_D A (wl_X5_readLevel ad cs tape_size tape_bytes lr_size lr_at lr_fault lr_code)) (hS : va_S A s.heap H locs) (hl : lv_has ls 5 [(0, .ref (ad 26)), (1, .int x1), (2, .int x2), (3, .int x3)]), W p l e ({ frames := fr + 5, cells := 0, slots := 0, locals := lo + 113 } : Room) s m args below meth c H locs 0 0 (MQ below (Q_X5_readLevel D cs ad tape_size tape_bytes A R) args s 0 0 A) (F0 m 21 ls [])) := by
  intro n
  induction n with
  | zero =>
    refine ?_ <;> (intros; rename_i h _ _ _ _ _ _ _; cases h)
  | succ n ih =>
    exact L_X5_readLevel_21 C0 hK hO hE hA hr_X5_readLevel hr_X5_readOperand ih
set_option maxHeartbeats 4000000 in
set_option maxRecDepth 100000 in
theorem c_X5_readLevel (l : Launch) (D : va_G) (cs : Nat → ClassId) (ad : Nat → Nat) (k : (Nat → Nat) × (Nat → Nat)) {fr lo : Nat} {r_X5_readLevel : Int32 → Int32 → Int32 → (Nat → Int32) → Int32 → Int32 → Int32 → (Nat → Int32) → (Option (Int32 × Int32 × Int32 × (Nat → Int32)))} {r_X5_readOperand : Int32 → Int32 → (Nat → Int32) → Int32 → Int32 → Int32 → (Nat → Int32) → (Option (Int32 × Int32 × Int32 × (Nat → Int32)))} (hr_X5_readLevel : ∀ (D : va_G) (cs : Nat → ClassId) (ad : Nat → Nat) (k : (Nat → Nat) × (Nat → Nat)) (sz : Nat) (x1 : Int32) (x2 : Int32) (tape_size : Int32) (tape_bytes : Nat → Int32) (lr_size : Int32) (lr_at : Int32) (lr_fault : Int32) (lr_code : Nat → Int32) (R : Int32 × Int32 × Int32 × (Nat → Int32)) (h : r_X5_readLevel x1 x2 tape_size tape_bytes lr_size lr_at lr_fault lr_code = some R), Met l yX5_readLevel z_X5_readLevel ({ frames := fr, cells := 0, slots := 0, locals := lo } : Room) (va_Pc [.ref (ad 26), .int x1, .int x2] (zPreE k D cs (wl_X5_readLevel ad cs tape_size tape_bytes lr_size lr_at lr_fault lr_code) sz)) (Q_X5_readLevel D cs ad tape_size tape_bytes (va_A (wl_X5_readLevel ad cs tape_size tape_bytes lr_size lr_at lr_fault lr_code) sz) R) 0 0 (va_A (wl_X5_readLevel ad cs tape_size tape_bytes lr_size lr_at lr_fault lr_code) sz)) (hr_X5_readOperand : ∀ (D : va_G) (cs : Nat → ClassId) (ad : Nat → Nat) (k : (Nat → Nat) × (Nat → Nat)) (sz : Nat) (x1 : Int32) (tape_size : Int32) (tape_bytes : Nat → Int32) (lr_size : Int32) (lr_at : Int32) (lr_fault : Int32) (lr_code : Nat → Int32) (R : Int32 × Int32 × Int32 × (Nat → Int32)) (h : r_X5_readOperand x1 tape_size tape_bytes lr_size lr_at lr_fault lr_code = some R), Met l yX5_readOperand z_X5_readOperand ({ frames := fr, cells := 0, slots := 0, locals := lo } : Room) (va_Pc [.ref (ad 26), .int x1] (zPreE k D cs (wl_X5_readOperand ad cs tape_size tape_bytes lr_size lr_at lr_fault lr_code) sz)) (Q_X5_readOperand D cs ad tape_size tape_bytes (va_A (wl_X5_readOperand ad cs tape_size tape_bytes lr_size lr_at lr_fault lr_code) sz) R) 0 0 (va_A (wl_X5_readOperand ad cs tape_size tape_bytes lr_size lr_at lr_fault lr_code) sz)) (sz : Nat) (n : Nat) (x1 : Int32) (x2 : Int32) (tape_size : Int32) (tape_bytes : Nat → Int32) (lr_size : Int32) (lr_at : Int32) (lr_fault : Int32) (lr_code : Nat → Int32) (R : Int32 × Int32 × Int32 × (Nat → Int32)) (h : f_X5_readLevel  r_X5_readLevel r_X5_readOperand n x1 x2 tape_size tape_bytes lr_size lr_at lr_fault lr_code = some R) : Met l yX5_readLevel (z_X5_readLevel) ({ frames := fr + 5, cells := 0, slots := 0, locals := lo + 113 } : Room) (va_Pc [.ref (ad 26), .int x1, .int x2] (zPreE k D cs (wl_X5_readLevel ad cs tape_size tape_bytes lr_size lr_at lr_fault lr_code) sz)) (Q_X5_readLevel D cs ad tape_size tape_bytes (va_A (wl_X5_readLevel ad cs tape_size tape_bytes lr_size lr_at lr_fault lr_code) sz) R) 0 0 (va_A (wl_X5_readLevel ad cs tape_size tape_bytes lr_size lr_at lr_fault lr_code) sz) := by
  refine Met.ofW (cc := cX5_readLevel) (maxL := 5) (ret := none) (by decide) rfl ?_
  intro p e s m args below meth c s₁ B hml hv
  obtain ⟨rfl, ⟨⟨hsz, hP, hK, hD0⟩, hO⟩, hE⟩ := hv
  subst hsz
  have hD := hD0.self (sz := s.heap.size)
  have C0 : zC p s m _ meth c cX5_readLevel 5 none RX5 zW := ⟨B.exec, B.bytes, B.returns, hml, findClass_of_methodNamed B.named, fun w hw => atoms_spec (ws := z_X5_readLevel) B.pre w (List.mem_cons_of_mem _ hw), B.notSynchronized⟩
  have hA : ∀ q : Nat, s.heap.size ≤ q → va_A (wl_X5_readLevel ad cs tape_size tape_bytes lr_size lr_at lr_fault lr_code) s.heap.size q := fun q h => Or.inr h
  have hl := lv_entry ([.ref (ad 26), .int x1, .int x2]) (n := 5) (Nat.le_of_ble_eq_true rfl)
  rw [lg_entry_eq]
  generalize (lg_sl ([.ref (ad 26), .int x1, .int x2]) ++ List.replicate (5 - (lg_sl ([.ref (ad 26), .int x1, .int x2])).length) Slot.unset).toArray = ls at hl ⊢
  exact L_X5_readLevel_0 C0 hK hO hE hA hr_X5_readLevel hr_X5_readOperand ((LG_X5_readLevel C0 hK hO hE hA hr_X5_readLevel hr_X5_readOperand n)) x1 x2 lr_size lr_at lr_fault lr_code h s.heap [] ls hP hD va_S.rf hl
set_option maxHeartbeats 4000000 in
set_option maxRecDepth 100000 in
theorem L_X5_readOperand_80 {p : Program} {l : Launch} {e : Env} {s : State} {m : MethodId} {args : Array Value} {below : List Frame} {meth : Method} {c : Code} {A : Nat → Prop} {D : va_G} {cs : Nat → ClassId} {ad : Nat → Nat} {tape_size : Int32} {tape_bytes : Nat → Int32} {R : Int32 × Int32 × Int32 × (Nat → Int32)} (C0 : zC p s m args meth c cX5_readOperand 3 none RX5 zW) (hK : va_K D classes (zT cs) s) {k : (Nat → Nat) × (Nat → Nat)} (hO : zO s) (hE : zE k A s) (hA : ∀ q : Nat, s.heap.size ≤ q → A q) {fr lo : Nat} {r_X5_readLevel : Int32 → Int32 → Int32 → (Nat → Int32) → Int32 → Int32 → Int32 → (Nat → Int32) → (Option (Int32 × Int32 × Int32 × (Nat → Int32)))} {r_X5_readOperand : Int32 → Int32 → (Nat → Int32) → Int32 → Int32 → Int32 → (Nat → Int32) → (Option (Int32 × Int32 × Int32 × (Nat → Int32)))} (hr_X5_readLevel : ∀ (D : va_G) (cs : Nat → ClassId) (ad : Nat → Nat) (k : (Nat → Nat) × (Nat → Nat)) (sz : Nat) (x1 : Int32) (x2 : Int32) (tape_size : Int32) (tape_bytes : Nat → Int32) (lr_size : Int32) (lr_at : Int32) (lr_fault : Int32) (lr_code : Nat → Int32) (R : Int32 × Int32 × Int32 × (Nat → Int32)) (h : r_X5_readLevel x1 x2 tape_size tape_bytes lr_size lr_at lr_fault lr_code = some R), Met l yX5_readLevel z_X5_readLevel ({ frames := fr, cells := 0, slots := 0, locals := lo } : Room) (va_Pc [.ref (ad 26), .int x1, .int x2] (zPreE k D cs (wl_X5_readLevel ad cs tape_size tape_bytes lr_size lr_at lr_fault lr_code) sz)) (Q_X5_readLevel D cs ad tape_size tape_bytes (va_A (wl_X5_readLevel ad cs tape_size tape_bytes lr_size lr_at lr_fault lr_code) sz) R) 0 0 (va_A (wl_X5_readLevel ad cs tape_size tape_bytes lr_size lr_at lr_fault lr_code) sz)) (hr_X5_readOperand : ∀ (D : va_G) (cs : Nat → ClassId) (ad : Nat → Nat) (k : (Nat → Nat) × (Nat → Nat)) (sz : Nat) (x1 : Int32) (tape_size : Int32) (tape_bytes : Nat → Int32) (lr_size : Int32) (lr_at : Int32) (lr_fault : Int32) (lr_code : Nat → Int32) (R : Int32 × Int32 × Int32 × (Nat → Int32)) (h : r_X5_readOperand x1 tape_size tape_bytes lr_size lr_at lr_fault lr_code = some R), Met l yX5_readOperand z_X5_readOperand ({ frames := fr, cells := 0, slots := 0, locals := lo } : Room) (va_Pc [.ref (ad 26), .int x1] (zPreE k D cs (wl_X5_readOperand ad cs tape_size tape_bytes lr_size lr_at lr_fault lr_code) sz)) (Q_X5_readOperand D cs ad tape_size tape_bytes (va_A (wl_X5_readOperand ad cs tape_size tape_bytes lr_size lr_at lr_fault lr_code) sz) R) 0 0 (va_A (wl_X5_readOperand ad cs tape_size tape_bytes lr_size lr_at lr_fault lr_code) sz)) (s0 : Int32) (lr_size : Int32) (lr_at : Int32) (lr_fault : Int32) (lr_code : Nat → Int32) (h : B_X5_readOperand_80 r_X5_readLevel r_X5_readOperand tape_size tape_bytes s0 lr_size lr_at lr_fault lr_code = some R) (H : Heap) (locs : List Loc) (ls : Array Slot) (hP : va_P D classes (wl_X5_readOperand ad cs tape_size tape_bytes lr_size lr_at lr_fault lr_code) H) (hD : va_D A (wl_X5_readOperand ad cs tape_size tape_bytes lr_size lr_at lr_fault lr_code)) (hS : va_S A s.heap H locs) (hl : lv_has ls 3 []) : W p l e ({ frames := fr + 5, cells := 0, slots := 0, locals := lo + 113 } : Room) s m args below meth c H locs 0 0 (MQ below (Q_X5_readOperand D cs ad tape_size tape_bytes A R) args s 0 0 A) (F0 m 80 ls [.int s0, .ref (ad 26)]) := by
  obtain ⟨hx, hb, hr, hml, hown, ht, hlocks⟩ := id C0
  obtain ⟨u_48, u_49, hc_50, h⟩ := zk_o2 h
  refine zz_vv (post := (fun u => u = (u_48, u_49))) (w1 := fun u => (wl_X5_emit ad cs u.1 lr_at lr_fault u.2)) (As := [.int s0]) (rest := []) (c_X5_emit l D cs ad  H.size s0 lr_size lr_at lr_fault lr_code (u_48, u_49) hc_50) ⟨hx, hb, hml, hown, ht⟩ (cwV 1 ht g_X5_57 rfl rfl rfl ⟨rfl, hd_X5_emit⟩ ⟨(by show 0 + 1 ≤ fr + 5; omega), (by show 8 + (2 + 11) + 0 ≤ lo + 113; omega)⟩) (va_recv hK hP (ci := 5) (q0 := 2) rfl rfl) hP hD hS hK hA [2, 3] rfl rfl [(ad 26), (ad 27)] rfl (fun _ => rfl) rfl hl.1 (Nat.le_of_ble_eq_true rfl) dX5_readOperand_80 ⟨Nat.zero_le _, Nat.zero_le _⟩ (fun u H locs hq hP hS => ?_)
  cases hq
  have hP : va_P D classes (wl_X5_readOperand ad cs tape_size tape_bytes u_48 lr_at lr_fault u_49) H := hP
  have hD : va_D A (wl_X5_readOperand ad cs tape_size tape_bytes u_48 lr_at lr_fault u_49) := zDk hD [(ad 23), (ad 24), (ad 26), (ad 27)] rfl rfl
  refine lv_goto (tgt := 129) hx hb dX5_readOperand_83 (by decide) ?_
  exact W.vret hx hb hr (fun t ht2 hW => ⟨⟨(u_48, lr_at, lr_fault, u_49), rfl, Option.some.inj h, by rw [ht2]; exact hP, hD⟩, hS.F ht2⟩) hS.2.2 dX5_readOperand_129 hlocks
set_option maxHeartbeats 4000000 in
set_option maxRecDepth 100000 in
theorem L_X5_readOperand_53 {p : Program} {l : Launch} {e : Env} {s : State} {m : MethodId} {args : Array Value} {below : List Frame} {meth : Method} {c : Code} {A : Nat → Prop} {D : va_G} {cs : Nat → ClassId} {ad : Nat → Nat} {tape_size : Int32} {tape_bytes : Nat → Int32} {R : Int32 × Int32 × Int32 × (Nat → Int32)} (C0 : zC p s m args meth c cX5_readOperand 3 none RX5 zW) (hK : va_K D classes (zT cs) s) {k : (Nat → Nat) × (Nat → Nat)} (hO : zO s) (hE : zE k A s) (hA : ∀ q : Nat, s.heap.size ≤ q → A q) {fr lo : Nat} {r_X5_readLevel : Int32 → Int32 → Int32 → (Nat → Int32) → Int32 → Int32 → Int32 → (Nat → Int32) → (Option (Int32 × Int32 × Int32 × (Nat → Int32)))} {r_X5_readOperand : Int32 → Int32 → (Nat → Int32) → Int32 → Int32 → Int32 → (Nat → Int32) → (Option (Int32 × Int32 × Int32 × (Nat → Int32)))} (hr_X5_readLevel : ∀ (D : va_G) (cs : Nat → ClassId) (ad : Nat → Nat) (k : (Nat → Nat) × (Nat → Nat)) (sz : Nat) (x1 : Int32) (x2 : Int32) (tape_size : Int32) (tape_bytes : Nat → Int32) (lr_size : Int32) (lr_at : Int32) (lr_fault : Int32) (lr_code : Nat → Int32) (R : Int32 × Int32 × Int32 × (Nat → Int32)) (h : r_X5_readLevel x1 x2 tape_size tape_bytes lr_size lr_at lr_fault lr_code = some R), Met l yX5_readLevel z_X5_readLevel ({ frames := fr, cells := 0, slots := 0, locals := lo } : Room) (va_Pc [.ref (ad 26), .int x1, .int x2] (zPreE k D cs (wl_X5_readLevel ad cs tape_size tape_bytes lr_size lr_at lr_fault lr_code) sz)) (Q_X5_readLevel D cs ad tape_size tape_bytes (va_A (wl_X5_readLevel ad cs tape_size tape_bytes lr_size lr_at lr_fault lr_code) sz) R) 0 0 (va_A (wl_X5_readLevel ad cs tape_size tape_bytes lr_size lr_at lr_fault lr_code) sz)) (hr_X5_readOperand : ∀ (D : va_G) (cs : Nat → ClassId) (ad : Nat → Nat) (k : (Nat → Nat) × (Nat → Nat)) (sz : Nat) (x1 : Int32) (tape_size : Int32) (tape_bytes : Nat → Int32) (lr_size : Int32) (lr_at : Int32) (lr_fault : Int32) (lr_code : Nat → Int32) (R : Int32 × Int32 × Int32 × (Nat → Int32)) (h : r_X5_readOperand x1 tape_size tape_bytes lr_size lr_at lr_fault lr_code = some R), Met l yX5_readOperand z_X5_readOperand ({ frames := fr, cells := 0, slots := 0, locals := lo } : Room) (va_Pc [.ref (ad 26), .int x1] (zPreE k D cs (wl_X5_readOperand ad cs tape_size tape_bytes lr_size lr_at lr_fault lr_code) sz)) (Q_X5_readOperand D cs ad tape_size tape_bytes (va_A (wl_X5_readOperand ad cs tape_size tape_bytes lr_size lr_at lr_fault lr_code) sz) R) 0 0 (va_A (wl_X5_readOperand ad cs tape_size tape_bytes lr_size lr_at lr_fault lr_code) sz)) (x1 : Int32) (x2 : Int32) (lr_size : Int32) (lr_at : Int32) (lr_fault : Int32) (lr_code : Nat → Int32) (h : B_X5_readOperand_53 r_X5_readLevel r_X5_readOperand tape_size tape_bytes x1 x2 lr_size lr_at lr_fault lr_code = some R) (H : Heap) (locs : List Loc) (ls : Array Slot) (hP : va_P D classes (wl_X5_readOperand ad cs tape_size tape_bytes lr_size lr_at lr_fault lr_code) H) (hD : va_D A (wl_X5_readOperand ad cs tape_size tape_bytes lr_size lr_at lr_fault lr_code)) (hS : va_S A s.heap H locs) (hl : lv_has ls 3 [(0, .ref (ad 26)), (1, .int x1), (2, .int x2)]) : W p l e ({ frames := fr + 5, cells := 0, slots := 0, locals := lo + 113 } : Room) s m args below meth c H locs 0 0 (MQ below (Q_X5_readOperand D cs ad tape_size tape_bytes A R) args s 0 0 A) (F0 m 53 ls []) := by
  obtain ⟨hx, hb, hr, hml, hown, ht, hlocks⟩ := id C0
  refine lv_aload_n hx hb dX5_readOperand_53 rfl (lv_at hl 0 rfl) ?_
  refine lv_iload_n hx hb dX5_readOperand_54 rfl (lv_at hl 1 rfl) ?_
  obtain ⟨r_37, u_38, u_39, hc_40, h⟩ := zk_o3 h
  refine zz_vi (post := (fun r u => (r, u) = (r_37, u_38, u_39))) (w1 := fun u => (wl_X5_mayOpen ad cs lr_size u.1 u.2)) (As := [.int x1]) (rest := []) (c_X5_mayOpen l D cs ad  H.size x1 lr_size lr_at lr_fault (r_37, u_38, u_39) hc_40) ⟨hx, hb, hml, hown, ht⟩ (cwV 1 ht g_X5_77 rfl rfl rfl ⟨rfl, hd_X5_mayOpen⟩ ⟨(by show 1 + 1 ≤ fr + 5; omega), (by show 8 + (2 + 11) + 20 ≤ lo + 113; omega)⟩) (va_recv hK hP (ci := 5) (q0 := 2) rfl rfl) hP hD hS hK hA [2] rfl rfl [(ad 26)] rfl (fun _ => rfl) rfl hl.1 (Nat.le_of_ble_eq_true rfl) dX5_readOperand_55 ⟨Nat.zero_le _, Nat.zero_le _⟩ (fun r u H locs hq hP hS => ?_)
  cases hq
  have hP : va_P D classes (wl_X5_readOperand ad cs tape_size tape_bytes lr_size u_38 u_39 lr_code) H := hP
  have hD : va_D A (wl_X5_readOperand ad cs tape_size tape_bytes lr_size u_38 u_39 lr_code) := zDk hD [(ad 23), (ad 24), (ad 26), (ad 27)] rfl rfl
  refine lv_if_eq (tgt := 129) hx hb dX5_readOperand_58 (by decide) (fun c_41 => ?_) (fun c_41 => ?_)
  · have h := zk_t c_41 h
    exact W.vret hx hb hr (fun t ht2 hW => ⟨⟨(lr_size, u_38, u_39, lr_code), rfl, Option.some.inj h, by rw [ht2]; exact hP, hD⟩, hS.F ht2⟩) hS.2.2 dX5_readOperand_129 hlocks
  · have h := zk_f c_41 h
    refine lv_aload_n hx hb dX5_readOperand_61 rfl (lv_at hl 0 rfl) ?_
    refine lv_iload_n hx hb dX5_readOperand_62 rfl (lv_at hl 1 rfl) ?_
    refine lv_iconst (v := (1 : Int32)) hx hb dX5_readOperand_63 (by decide) ?_
    refine lv_iadd hx hb dX5_readOperand_64 ?_
    obtain ⟨u_42, u_43, u_44, u_45, hc_46, h⟩ := zk_o4 h
    refine zk_vvE (post := (fun u => u = (u_42, u_43, u_44, u_45))) (w1 := fun u => (wl_X5_readOperand ad cs tape_size tape_bytes u.1 u.2.1 u.2.2.1 u.2.2.2)) (As := [.int (x1 + (1 : Int32))]) (rest := []) hE hO (hr_X5_readOperand D cs ad k H.size (x1 + (1 : Int32)) tape_size tape_bytes lr_size u_38 u_39 lr_code (u_42, u_43, u_44, u_45) hc_46) ⟨hx, hb, hml, hown, ht⟩ (cwV 1 ht g_X5_61 rfl rfl rfl ⟨rfl, hd_X5_readOperand⟩ ⟨(by show fr + 1 ≤ fr + 5; omega), (by show 8 + (3 + 11) + lo ≤ lo + 113; omega)⟩) (va_recv hK hP (ci := 5) (q0 := 2) rfl rfl) hP hD hS hK hA [0, 1, 2, 3] [] rfl rfl rfl rfl (by decide) rfl hl.1 (Nat.le_of_ble_eq_true rfl) dX5_readOperand_65 ⟨Nat.zero_le _, Nat.zero_le _⟩ (fun u H locs hq hP hD hS => ?_)
    cases hq
    have hP : va_P D classes (wl_X5_readOperand ad cs tape_size tape_bytes u_42 u_43 u_44 u_45) H := hP.sub [0, 1, 2, 3] rfl
    have hD : va_D A (wl_X5_readOperand ad cs tape_size tape_bytes u_42 u_43 u_44 u_45) := hD.sub [0, 1, 2, 3] rfl rfl
    refine lv_aload_n hx hb dX5_readOperand_68 rfl (lv_at hl 0 rfl) ?_
    refine lv_iload_n hx hb dX5_readOperand_69 rfl (lv_at hl 2 rfl) ?_
    refine lv_bipush (v := (33 : Int32)) hx hb dX5_readOperand_70 (by decide) ?_
    refine lv_icmp_ne (tgt := 79) hx hb dX5_readOperand_72 (by decide) (fun c_47 => ?_) (fun c_47 => ?_)
    · have h := zk_f c_47 h
      refine lv_iconst (v := (5 : Int32)) hx hb dX5_readOperand_79 (by decide) ?_
      exact L_X5_readOperand_80 C0 hK hO hE hA hr_X5_readLevel hr_X5_readOperand  (5 : Int32) u_42 u_43 u_44 u_45 h H locs ls hP hD hS (lv_sub hl [] rfl)
    · have h := zk_t c_47 h
      refine lv_iconst (v := (4 : Int32)) hx hb dX5_readOperand_75 (by decide) ?_
      refine lv_goto (tgt := 80) hx hb dX5_readOperand_76 (by decide) ?_
      exact L_X5_readOperand_80 C0 hK hO hE hA hr_X5_readLevel hr_X5_readOperand  (4 : Int32) u_42 u_43 u_44 u_45 h H locs ls hP hD hS (lv_sub hl [] rfl)
set_option maxHeartbeats 4000000 in
set_option maxRecDepth 100000 in
theorem L_X5_readOperand_0 {p : Program} {l : Launch} {e : Env} {s : State} {m : MethodId} {args : Array Value} {below : List Frame} {meth : Method} {c : Code} {A : Nat → Prop} {D : va_G} {cs : Nat → ClassId} {ad : Nat → Nat} {tape_size : Int32} {tape_bytes : Nat → Int32} {R : Int32 × Int32 × Int32 × (Nat → Int32)} (C0 : zC p s m args meth c cX5_readOperand 3 none RX5 zW) (hK : va_K D classes (zT cs) s) {k : (Nat → Nat) × (Nat → Nat)} (hO : zO s) (hE : zE k A s) (hA : ∀ q : Nat, s.heap.size ≤ q → A q) {fr lo : Nat} {r_X5_readLevel : Int32 → Int32 → Int32 → (Nat → Int32) → Int32 → Int32 → Int32 → (Nat → Int32) → (Option (Int32 × Int32 × Int32 × (Nat → Int32)))} {r_X5_readOperand : Int32 → Int32 → (Nat → Int32) → Int32 → Int32 → Int32 → (Nat → Int32) → (Option (Int32 × Int32 × Int32 × (Nat → Int32)))} (hr_X5_readLevel : ∀ (D : va_G) (cs : Nat → ClassId) (ad : Nat → Nat) (k : (Nat → Nat) × (Nat → Nat)) (sz : Nat) (x1 : Int32) (x2 : Int32) (tape_size : Int32) (tape_bytes : Nat → Int32) (lr_size : Int32) (lr_at : Int32) (lr_fault : Int32) (lr_code : Nat → Int32) (R : Int32 × Int32 × Int32 × (Nat → Int32)) (h : r_X5_readLevel x1 x2 tape_size tape_bytes lr_size lr_at lr_fault lr_code = some R), Met l yX5_readLevel z_X5_readLevel ({ frames := fr, cells := 0, slots := 0, locals := lo } : Room) (va_Pc [.ref (ad 26), .int x1, .int x2] (zPreE k D cs (wl_X5_readLevel ad cs tape_size tape_bytes lr_size lr_at lr_fault lr_code) sz)) (Q_X5_readLevel D cs ad tape_size tape_bytes (va_A (wl_X5_readLevel ad cs tape_size tape_bytes lr_size lr_at lr_fault lr_code) sz) R) 0 0 (va_A (wl_X5_readLevel ad cs tape_size tape_bytes lr_size lr_at lr_fault lr_code) sz)) (hr_X5_readOperand : ∀ (D : va_G) (cs : Nat → ClassId) (ad : Nat → Nat) (k : (Nat → Nat) × (Nat → Nat)) (sz : Nat) (x1 : Int32) (tape_size : Int32) (tape_bytes : Nat → Int32) (lr_size : Int32) (lr_at : Int32) (lr_fault : Int32) (lr_code : Nat → Int32) (R : Int32 × Int32 × Int32 × (Nat → Int32)) (h : r_X5_readOperand x1 tape_size tape_bytes lr_size lr_at lr_fault lr_code = some R), Met l yX5_readOperand z_X5_readOperand ({ frames := fr, cells := 0, slots := 0, locals := lo } : Room) (va_Pc [.ref (ad 26), .int x1] (zPreE k D cs (wl_X5_readOperand ad cs tape_size tape_bytes lr_size lr_at lr_fault lr_code) sz)) (Q_X5_readOperand D cs ad tape_size tape_bytes (va_A (wl_X5_readOperand ad cs tape_size tape_bytes lr_size lr_at lr_fault lr_code) sz) R) 0 0 (va_A (wl_X5_readOperand ad cs tape_size tape_bytes lr_size lr_at lr_fault lr_code) sz)) (x1 : Int32) (lr_size : Int32) (lr_at : Int32) (lr_fault : Int32) (lr_code : Nat → Int32) (h : B_X5_readOperand_0 r_X5_readLevel r_X5_readOperand tape_size tape_bytes x1 lr_size lr_at lr_fault lr_code = some R) (H : Heap) (locs : List Loc) (ls : Array Slot) (hP : va_P D classes (wl_X5_readOperand ad cs tape_size tape_bytes lr_size lr_at lr_fault lr_code) H) (hD : va_D A (wl_X5_readOperand ad cs tape_size tape_bytes lr_size lr_at lr_fault lr_code)) (hS : va_S A s.heap H locs) (hl : lv_has ls 3 [(0, .ref (ad 26)), (1, .int x1)]) : W p l e ({ frames := fr + 5, cells := 0, slots := 0, locals := lo + 113 } : Room) s m args below meth c H locs 0 0 (MQ below (Q_X5_readOperand D cs ad tape_size tape_bytes A R) args s 0 0 A) (F0 m 0 ls []) := by
  obtain ⟨hx, hb, hr, hml, hown, ht, hlocks⟩ := id C0
  refine lv_aload_n hx hb dX5_readOperand_0 rfl (lv_at hl 0 rfl) ?_
  refine va_get (D := D) (ci := 5) (v := .ref (ad 23)) (C := RX5) (T := TX5) (N := 5) hx hb ht iX5 hown hK hP 2 rfl rfl 0 (by decide) (ht _ kw_274) (fun _ h9 => h9) rfl dX5_readOperand_1 ?_
  refine lv_aload_n hx hb dX5_readOperand_4 rfl (lv_at hl 0 rfl) ?_
  refine va_get (D := D) (ci := 5) (v := .int lr_at) (C := RX5) (T := TX5) (N := 5) hx hb ht iX5 hown hK hP 2 rfl rfl 3 (by decide) (ht _ kw_277) (fun _ h9 => h9) rfl dX5_readOperand_5 ?_
  obtain ⟨r_1, u_2, hc_3, h⟩ := zk_o2 h
  refine zz_vi (post := (fun r u => (r, u) = (r_1, u_2))) (w1 := fun u => (wl_X9_byteAt ad cs tape_size tape_bytes)) (As := [.int lr_at]) (rest := []) (c_X9_byteAt l D cs ad  H.size lr_at tape_size tape_bytes (r_1, u_2) hc_3) ⟨hx, hb, hml, hown, ht⟩ (cwV 1 ht g_X5_68 rfl rfl rfl ⟨rfl, hd_X9_byteAt⟩ ⟨(by show 0 + 1 ≤ fr + 5; omega), (by show 8 + (2 + 11) + 0 ≤ lo + 113; omega)⟩) (va_recv hK hP (ci := 9) (q0 := 0) rfl rfl) hP hD hS hK hA [0, 1] rfl rfl [(ad 23), (ad 24)] rfl (fun _ => rfl) rfl hl.1 (Nat.le_of_ble_eq_true rfl) dX5_readOperand_8 ⟨Nat.zero_le _, Nat.zero_le _⟩ (fun r u H locs hq hP hS => ?_)
  cases hq
  have hP : va_P D classes (wl_X5_readOperand ad cs tape_size tape_bytes lr_size lr_at lr_fault lr_code) H := hP
  have hD : va_D A (wl_X5_readOperand ad cs tape_size tape_bytes lr_size lr_at lr_fault lr_code) := zDk hD [(ad 23), (ad 24), (ad 26), (ad 27)] rfl rfl
  refine lv_istore_n (lv' := [(2, .int r_1), (0, .ref (ad 26)), (1, .int x1)]) hx hb dX5_readOperand_11 rfl hl (by decide) rfl (fun ls hl => ?_)
  refine lv_aload_n hx hb dX5_readOperand_12 rfl (lv_at hl 1 rfl) ?_
  refine va_get (D := D) (ci := 5) (v := .int lr_fault) (C := RX5) (T := TX5) (N := 5) hx hb ht iX5 hown hK hP 2 rfl rfl 4 (by decide) (ht _ kw_278) (fun _ h9 => h9) rfl dX5_readOperand_13 ?_
  refine lv_if_lt (tgt := 20) hx hb dX5_readOperand_16 (by decide) (fun c_4 => ?_) (fun c_4 => ?_)
  · have h := zk_t c_4 h
    refine lv_aload_n hx hb dX5_readOperand_20 rfl (lv_at hl 1 rfl) ?_
    refine va_get (D := D) (ci := 5) (v := .ref (ad 23)) (C := RX5) (T := TX5) (N := 5) hx hb ht iX5 hown hK hP 2 rfl rfl 0 (by decide) (ht _ kw_274) (fun _ h9 => h9) rfl dX5_readOperand_21 ?_
    refine lv_aload_n hx hb dX5_readOperand_24 rfl (lv_at hl 1 rfl) ?_
    refine va_get (D := D) (ci := 5) (v := .int lr_at) (C := RX5) (T := TX5) (N := 5) hx hb ht iX5 hown hK hP 2 rfl rfl 3 (by decide) (ht _ kw_277) (fun _ h9 => h9) rfl dX5_readOperand_25 ?_
    obtain ⟨r_5, u_6, hc_7, h⟩ := zk_o2 h
    refine zz_vi (post := (fun r u => (r, u) = (r_5, u_6))) (w1 := fun u => (wl_X9_isDigitAt ad cs tape_size tape_bytes)) (As := [.int lr_at]) (rest := []) (c_X9_isDigitAt l D cs ad  H.size lr_at tape_size tape_bytes (r_5, u_6) hc_7) ⟨hx, hb, hml, hown, ht⟩ (cwV 1 ht g_X5_71 rfl rfl rfl ⟨rfl, hd_X9_isDigitAt⟩ ⟨(by show 1 + 1 ≤ fr + 5; omega), (by show 8 + (3 + 11) + 21 ≤ lo + 113; omega)⟩) (va_recv hK hP (ci := 9) (q0 := 0) rfl rfl) hP hD hS hK hA [0, 1] rfl rfl [(ad 23), (ad 24)] rfl (fun _ => rfl) rfl hl.1 (Nat.le_of_ble_eq_true rfl) dX5_readOperand_28 ⟨Nat.zero_le _, Nat.zero_le _⟩ (fun r u H locs hq hP hS => ?_)
    cases hq
    have hP : va_P D classes (wl_X5_readOperand ad cs tape_size tape_bytes lr_size lr_at lr_fault lr_code) H := hP
    have hD : va_D A (wl_X5_readOperand ad cs tape_size tape_bytes lr_size lr_at lr_fault lr_code) := zDk hD [(ad 23), (ad 24), (ad 26), (ad 27)] rfl rfl
    refine lv_if_eq (tgt := 41) hx hb dX5_readOperand_31 (by decide) (fun c_8 => ?_) (fun c_8 => ?_)
    · have h := zk_t c_8 h
      refine lv_iload_n hx hb dX5_readOperand_41 rfl (lv_at hl 0 rfl) ?_
      refine lv_bipush (v := (33 : Int32)) hx hb dX5_readOperand_42 (by decide) ?_
      refine lv_icmp_eq (tgt := 53) hx hb dX5_readOperand_44 (by decide) (fun c_9 => ?_) (fun c_9 => ?_)
      · have h := zk_t c_9 h
        exact L_X5_readOperand_53 C0 hK hO hE hA hr_X5_readLevel hr_X5_readOperand  x1 r_1 lr_size lr_at lr_fault lr_code h H locs ls hP hD hS (lv_sub hl [1, 2, 0] rfl)
      · have h := zk_f c_9 h
        refine lv_iload_n hx hb dX5_readOperand_47 rfl (lv_at hl 0 rfl) ?_
        refine lv_bipush (v := (45 : Int32)) hx hb dX5_readOperand_48 (by decide) ?_
        refine lv_icmp_ne (tgt := 86) hx hb dX5_readOperand_50 (by decide) (fun c_10 => ?_) (fun c_10 => ?_)
        · have h := zk_f c_10 h
          refine lv_iload_n hx hb dX5_readOperand_86 rfl (lv_at hl 0 rfl) ?_
          refine lv_bipush (v := (40 : Int32)) hx hb dX5_readOperand_87 (by decide) ?_
          refine lv_icmp_ne (tgt := 124) hx hb dX5_readOperand_89 (by decide) (fun c_11 => ?_) (fun c_11 => ?_)
          · have h := zk_f c_11 h
            refine lv_aload_n hx hb dX5_readOperand_124 rfl (lv_at hl 1 rfl) ?_
            refine lv_iload_n hx hb dX5_readOperand_125 rfl (lv_at hl 0 rfl) ?_
            obtain ⟨u_12, u_13, u_14, u_15, hc_16, h⟩ := zk_o4 h
            refine zk_vvE (post := (fun u => u = (u_12, u_13, u_14, u_15))) (w1 := fun u => (wl_X5_readName ad cs u.1 u.2.1 u.2.2.1 u.2.2.2)) (As := [.int r_1]) (rest := []) hE hO (c_X5_readName l D cs ad k H.size r_1 lr_size lr_at lr_fault lr_code (u_12, u_13, u_14, u_15) hc_16) ⟨hx, hb, hml, hown, ht⟩ (cwV 1 ht g_X5_80 rfl rfl rfl ⟨rfl, hd_X5_readName⟩ ⟨(by show 4 + 1 ≤ fr + 5; omega), (by show 8 + (3 + 11) + 91 ≤ lo + 113; omega)⟩) (va_recv hK hP (ci := 5) (q0 := 2) rfl rfl) hP hD hS hK hA [2, 3] [0, 1] rfl rfl rfl rfl (by decide) rfl hl.1 (Nat.le_of_ble_eq_true rfl) dX5_readOperand_126 ⟨Nat.zero_le _, Nat.zero_le _⟩ (fun u H locs hq hP hD hS => ?_)
            cases hq
            have hP : va_P D classes (wl_X5_readOperand ad cs tape_size tape_bytes u_12 u_13 u_14 u_15) H := hP.sub [0, 1, 2, 3] rfl
            have hD : va_D A (wl_X5_readOperand ad cs tape_size tape_bytes u_12 u_13 u_14 u_15) := hD.sub [0, 1, 2, 3] rfl rfl
            exact W.vret hx hb hr (fun t ht2 hW => ⟨⟨(u_12, u_13, u_14, u_15), rfl, Option.some.inj h, by rw [ht2]; exact hP, hD⟩, hS.F ht2⟩) hS.2.2 dX5_readOperand_129 hlocks
          · have h := zk_t c_11 h
            refine lv_aload_n hx hb dX5_readOperand_92 rfl (lv_at hl 1 rfl) ?_
            refine lv_iload_n hx hb dX5_readOperand_93 rfl (lv_at hl 2 rfl) ?_
            obtain ⟨r_17, u_18, u_19, hc_20, h⟩ := zk_o3 h
            refine zz_vi (post := (fun r u => (r, u) = (r_17, u_18, u_19))) (w1 := fun u => (wl_X5_mayOpen ad cs lr_size u.1 u.2)) (As := [.int x1]) (rest := []) (c_X5_mayOpen l D cs ad  H.size x1 lr_size lr_at lr_fault (r_17, u_18, u_19) hc_20) ⟨hx, hb, hml, hown, ht⟩ (cwV 1 ht g_X5_77 rfl rfl rfl ⟨rfl, hd_X5_mayOpen⟩ ⟨(by show 1 + 1 ≤ fr + 5; omega), (by show 8 + (2 + 11) + 20 ≤ lo + 113; omega)⟩) (va_recv hK hP (ci := 5) (q0 := 2) rfl rfl) hP hD hS hK hA [2] rfl rfl [(ad 26)] rfl (fun _ => rfl) rfl hl.1 (Nat.le_of_ble_eq_true rfl) dX5_readOperand_94 ⟨Nat.zero_le _, Nat.zero_le _⟩ (fun r u H locs hq hP hS => ?_)
            cases hq
            have hP : va_P D classes (wl_X5_readOperand ad cs tape_size tape_bytes lr_size u_18 u_19 lr_code) H := hP
            have hD : va_D A (wl_X5_readOperand ad cs tape_size tape_bytes lr_size u_18 u_19 lr_code) := zDk hD [(ad 23), (ad 24), (ad 26), (ad 27)] rfl rfl
            refine lv_if_eq (tgt := 129) hx hb dX5_readOperand_97 (by decide) (fun c_21 => ?_) (fun c_21 => ?_)
            · have h := zk_t c_21 h
              exact W.vret hx hb hr (fun t ht2 hW => ⟨⟨(lr_size, u_18, u_19, lr_code), rfl, Option.some.inj h, by rw [ht2]; exact hP, hD⟩, hS.F ht2⟩) hS.2.2 dX5_readOperand_129 hlocks
            · have h := zk_f c_21 h
              refine lv_aload_n hx hb dX5_readOperand_100 rfl (lv_at hl 1 rfl) ?_
              refine lv_iconst (v := (0 : Int32)) hx hb dX5_readOperand_101 (by decide) ?_
              refine lv_iload_n hx hb dX5_readOperand_102 rfl (lv_at hl 2 rfl) ?_
              refine lv_iconst (v := (1 : Int32)) hx hb dX5_readOperand_103 (by decide) ?_
              refine lv_iadd hx hb dX5_readOperand_104 ?_
              obtain ⟨u_22, u_23, u_24, u_25, hc_26, h⟩ := zk_o4 h
              refine zk_vvE (post := (fun u => u = (u_22, u_23, u_24, u_25))) (w1 := fun u => (wl_X5_readLevel ad cs tape_size tape_bytes u.1 u.2.1 u.2.2.1 u.2.2.2)) (As := [.int (0 : Int32), .int (x1 + (1 : Int32))]) (rest := []) hE hO (hr_X5_readLevel D cs ad k H.size (0 : Int32) (x1 + (1 : Int32)) tape_size tape_bytes lr_size u_18 u_19 lr_code (u_22, u_23, u_24, u_25) hc_26) ⟨hx, hb, hml, hown, ht⟩ (cwV 2 ht g_X5_53 rfl rfl rfl ⟨rfl, hd_X5_readLevel⟩ ⟨(by show fr + 1 ≤ fr + 5; omega), (by show 8 + (5 + 11) + lo ≤ lo + 113; omega)⟩) (va_recv hK hP (ci := 5) (q0 := 2) rfl rfl) hP hD hS hK hA [0, 1, 2, 3] [] rfl rfl rfl rfl (by decide) rfl hl.1 (Nat.le_of_ble_eq_true rfl) dX5_readOperand_105 ⟨Nat.zero_le _, Nat.zero_le _⟩ (fun u H locs hq hP hD hS => ?_)
              cases hq
              have hP : va_P D classes (wl_X5_readOperand ad cs tape_size tape_bytes u_22 u_23 u_24 u_25) H := hP.sub [0, 1, 2, 3] rfl
              have hD : va_D A (wl_X5_readOperand ad cs tape_size tape_bytes u_22 u_23 u_24 u_25) := hD.sub [0, 1, 2, 3] rfl rfl
              refine lv_aload_n hx hb dX5_readOperand_108 rfl (lv_at hl 1 rfl) ?_
              refine lv_bipush (v := (41 : Int32)) hx hb dX5_readOperand_109 (by decide) ?_
              obtain ⟨r_27, u_28, hc_29, h⟩ := zk_o2 h
              refine zz_vi (post := (fun r u => (r, u) = (r_27, u_28))) (w1 := fun u => (wl_X5_accept ad cs tape_size tape_bytes u_22 u u_24)) (As := [.int (41 : Int32)]) (rest := []) (c_X5_accept l D cs ad  H.size (41 : Int32) tape_size tape_bytes u_22 u_23 u_24 (r_27, u_28) hc_29) ⟨hx, hb, hml, hown, ht⟩ (cwV 1 ht g_X5_32 rfl rfl rfl ⟨rfl, hd_X5_accept⟩ ⟨(by show 1 + 1 ≤ fr + 5; omega), (by show 8 + (2 + 11) + 21 ≤ lo + 113; omega)⟩) (va_recv hK hP (ci := 5) (q0 := 2) rfl rfl) hP hD hS hK hA [0, 1, 2] rfl rfl [(ad 23), (ad 24), (ad 26)] rfl (fun _ => rfl) rfl hl.1 (Nat.le_of_ble_eq_true rfl) dX5_readOperand_111 ⟨Nat.zero_le _, Nat.zero_le _⟩ (fun r u H locs hq hP hS => ?_)
              cases hq
              have hP : va_P D classes (wl_X5_readOperand ad cs tape_size tape_bytes u_22 u_28 u_24 u_25) H := hP
              have hD : va_D A (wl_X5_readOperand ad cs tape_size tape_bytes u_22 u_28 u_24 u_25) := zDk hD [(ad 23), (ad 24), (ad 26), (ad 27)] rfl rfl
              refine lv_if_ne (tgt := 129) hx hb dX5_readOperand_114 (by decide) (fun c_30 => ?_) (fun c_30 => ?_)
              · have h := zk_f c_30 h
                exact W.vret hx hb hr (fun t ht2 hW => ⟨⟨(u_22, u_28, u_24, u_25), rfl, Option.some.inj h, by rw [ht2]; exact hP, hD⟩, hS.F ht2⟩) hS.2.2 dX5_readOperand_129 hlocks
              · have h := zk_t c_30 h
                refine lv_aload_n hx hb dX5_readOperand_117 rfl (lv_at hl 1 rfl) ?_
                obtain ⟨u_31, hc_32, h⟩ := zk_o1 h
                refine zz_vv (post := (fun u => u = u_31)) (w1 := fun u => (wl_X5_fail ad cs u_22 u_28 u)) (As := []) (rest := []) (c_X5_fail l D cs ad  H.size u_22 u_28 u_24 u_31 hc_32) ⟨hx, hb, hml, hown, ht⟩ (cwV 0 ht g_X5_39 rfl rfl rfl ⟨rfl, hd_X5_fail⟩ ⟨(by show 0 + 1 ≤ fr + 5; omega), (by show 8 + (1 + 11) + 0 ≤ lo + 113; omega)⟩) (va_recv hK hP (ci := 5) (q0 := 2) rfl rfl) hP hD hS hK hA [2] rfl rfl [(ad 26)] rfl (fun _ => rfl) rfl hl.1 (Nat.le_of_ble_eq_true rfl) dX5_readOperand_118 ⟨Nat.zero_le _, Nat.zero_le _⟩ (fun u H locs hq hP hS => ?_)
                cases hq
                have hP : va_P D classes (wl_X5_readOperand ad cs tape_size tape_bytes u_22 u_28 u_31 u_25) H := hP
                have hD : va_D A (wl_X5_readOperand ad cs tape_size tape_bytes u_22 u_28 u_31 u_25) := zDk hD [(ad 23), (ad 24), (ad 26), (ad 27)] rfl rfl
                refine lv_goto (tgt := 129) hx hb dX5_readOperand_121 (by decide) ?_
                exact W.vret hx hb hr (fun t ht2 hW => ⟨⟨(u_22, u_28, u_31, u_25), rfl, Option.some.inj h, by rw [ht2]; exact hP, hD⟩, hS.F ht2⟩) hS.2.2 dX5_readOperand_129 hlocks
        · have h := zk_t c_10 h
          exact L_X5_readOperand_53 C0 hK hO hE hA hr_X5_readLevel hr_X5_readOperand  x1 r_1 lr_size lr_at lr_fault lr_code h H locs ls hP hD hS (lv_sub hl [1, 2, 0] rfl)
    · have h := zk_f c_8 h
      refine lv_aload_n hx hb dX5_readOperand_34 rfl (lv_at hl 1 rfl) ?_
      obtain ⟨u_33, u_34, u_35, hc_36, h⟩ := zk_o3 h
      refine zz_vv (post := (fun u => u = (u_33, u_34, u_35))) (w1 := fun u => (wl_X5_readNumber ad cs tape_size tape_bytes u.1 u.2.1 lr_fault u.2.2)) (As := []) (rest := []) (c_X5_readNumber l D cs ad  H.size 100000 tape_size tape_bytes lr_size lr_at lr_fault lr_code (u_33, u_34, u_35) hc_36) ⟨hx, hb, hml, hown, ht⟩ (cwV 0 ht g_X5_74 rfl rfl rfl ⟨rfl, hd_X5_readNumber⟩ ⟨(by show 2 + 1 ≤ fr + 5; omega), (by show 8 + (3 + 11) + 43 ≤ lo + 113; omega)⟩) (va_recv hK hP (ci := 5) (q0 := 2) rfl rfl) hP hD hS hK hA [0, 1, 2, 3] rfl rfl [(ad 23), (ad 24), (ad 26), (ad 27)] rfl (fun _ => rfl) rfl hl.1 (Nat.le_of_ble_eq_true rfl) dX5_readOperand_35 ⟨Nat.zero_le _, Nat.zero_le _⟩ (fun u H locs hq hP hS => ?_)
      cases hq
      have hP : va_P D classes (wl_X5_readOperand ad cs tape_size tape_bytes u_33 u_34 lr_fault u_35) H := hP
      have hD : va_D A (wl_X5_readOperand ad cs tape_size tape_bytes u_33 u_34 lr_fault u_35) := zDk hD [(ad 23), (ad 24), (ad 26), (ad 27)] rfl rfl
      refine lv_goto (tgt := 129) hx hb dX5_readOperand_38 (by decide) ?_
      exact W.vret hx hb hr (fun t ht2 hW => ⟨⟨(u_33, u_34, lr_fault, u_35), rfl, Option.some.inj h, by rw [ht2]; exact hP, hD⟩, hS.F ht2⟩) hS.2.2 dX5_readOperand_129 hlocks
  · have h := zk_f c_4 h
    exact W.vret hx hb hr (fun t ht2 hW => ⟨⟨(lr_size, lr_at, lr_fault, lr_code), rfl, Option.some.inj h, by rw [ht2]; exact hP, hD⟩, hS.F ht2⟩) hS.2.2 dX5_readOperand_19 hlocks
set_option maxHeartbeats 4000000 in
set_option maxRecDepth 100000 in
theorem c_X5_readOperand (l : Launch) (D : va_G) (cs : Nat → ClassId) (ad : Nat → Nat) (k : (Nat → Nat) × (Nat → Nat)) {fr lo : Nat} {r_X5_readLevel : Int32 → Int32 → Int32 → (Nat → Int32) → Int32 → Int32 → Int32 → (Nat → Int32) → (Option (Int32 × Int32 × Int32 × (Nat → Int32)))} {r_X5_readOperand : Int32 → Int32 → (Nat → Int32) → Int32 → Int32 → Int32 → (Nat → Int32) → (Option (Int32 × Int32 × Int32 × (Nat → Int32)))} (hr_X5_readLevel : ∀ (D : va_G) (cs : Nat → ClassId) (ad : Nat → Nat) (k : (Nat → Nat) × (Nat → Nat)) (sz : Nat) (x1 : Int32) (x2 : Int32) (tape_size : Int32) (tape_bytes : Nat → Int32) (lr_size : Int32) (lr_at : Int32) (lr_fault : Int32) (lr_code : Nat → Int32) (R : Int32 × Int32 × Int32 × (Nat → Int32)) (h : r_X5_readLevel x1 x2 tape_size tape_bytes lr_size lr_at lr_fault lr_code = some R), Met l yX5_readLevel z_X5_readLevel ({ frames := fr, cells := 0, slots := 0, locals := lo } : Room) (va_Pc [.ref (ad 26), .int x1, .int x2] (zPreE k D cs (wl_X5_readLevel ad cs tape_size tape_bytes lr_size lr_at lr_fault lr_code) sz)) (Q_X5_readLevel D cs ad tape_size tape_bytes (va_A (wl_X5_readLevel ad cs tape_size tape_bytes lr_size lr_at lr_fault lr_code) sz) R) 0 0 (va_A (wl_X5_readLevel ad cs tape_size tape_bytes lr_size lr_at lr_fault lr_code) sz)) (hr_X5_readOperand : ∀ (D : va_G) (cs : Nat → ClassId) (ad : Nat → Nat) (k : (Nat → Nat) × (Nat → Nat)) (sz : Nat) (x1 : Int32) (tape_size : Int32) (tape_bytes : Nat → Int32) (lr_size : Int32) (lr_at : Int32) (lr_fault : Int32) (lr_code : Nat → Int32) (R : Int32 × Int32 × Int32 × (Nat → Int32)) (h : r_X5_readOperand x1 tape_size tape_bytes lr_size lr_at lr_fault lr_code = some R), Met l yX5_readOperand z_X5_readOperand ({ frames := fr, cells := 0, slots := 0, locals := lo } : Room) (va_Pc [.ref (ad 26), .int x1] (zPreE k D cs (wl_X5_readOperand ad cs tape_size tape_bytes lr_size lr_at lr_fault lr_code) sz)) (Q_X5_readOperand D cs ad tape_size tape_bytes (va_A (wl_X5_readOperand ad cs tape_size tape_bytes lr_size lr_at lr_fault lr_code) sz) R) 0 0 (va_A (wl_X5_readOperand ad cs tape_size tape_bytes lr_size lr_at lr_fault lr_code) sz)) (sz : Nat) (x1 : Int32) (tape_size : Int32) (tape_bytes : Nat → Int32) (lr_size : Int32) (lr_at : Int32) (lr_fault : Int32) (lr_code : Nat → Int32) (R : Int32 × Int32 × Int32 × (Nat → Int32)) (h : f_X5_readOperand  r_X5_readLevel r_X5_readOperand x1 tape_size tape_bytes lr_size lr_at lr_fault lr_code = some R) : Met l yX5_readOperand (z_X5_readOperand) ({ frames := fr + 5, cells := 0, slots := 0, locals := lo + 113 } : Room) (va_Pc [.ref (ad 26), .int x1] (zPreE k D cs (wl_X5_readOperand ad cs tape_size tape_bytes lr_size lr_at lr_fault lr_code) sz)) (Q_X5_readOperand D cs ad tape_size tape_bytes (va_A (wl_X5_readOperand ad cs tape_size tape_bytes lr_size lr_at lr_fault lr_code) sz) R) 0 0 (va_A (wl_X5_readOperand ad cs tape_size tape_bytes lr_size lr_at lr_fault lr_code) sz) := by
  refine Met.ofW (cc := cX5_readOperand) (maxL := 3) (ret := none) (by decide) rfl ?_
  intro p e s m args below meth c s₁ B hml hv
  obtain ⟨rfl, ⟨⟨hsz, hP, hK, hD0⟩, hO⟩, hE⟩ := hv
  subst hsz
  have hD := hD0.self (sz := s.heap.size)
  have C0 : zC p s m _ meth c cX5_readOperand 3 none RX5 zW := ⟨B.exec, B.bytes, B.returns, hml, findClass_of_methodNamed B.named, fun w hw => atoms_spec (ws := z_X5_readOperand) B.pre w (List.mem_cons_of_mem _ hw), B.notSynchronized⟩
  have hA : ∀ q : Nat, s.heap.size ≤ q → va_A (wl_X5_readOperand ad cs tape_size tape_bytes lr_size lr_at lr_fault lr_code) s.heap.size q := fun q h => Or.inr h
  have hl := lv_entry ([.ref (ad 26), .int x1]) (n := 3) (Nat.le_of_ble_eq_true rfl)
  rw [lg_entry_eq]
  generalize (lg_sl ([.ref (ad 26), .int x1]) ++ List.replicate (3 - (lg_sl ([.ref (ad 26), .int x1])).length) Slot.unset).toArray = ls at hl ⊢
  exact L_X5_readOperand_0 C0 hK hO hE hA hr_X5_readLevel hr_X5_readOperand  x1 lr_size lr_at lr_fault lr_code h s.heap [] ls hP hD va_S.rf hl
theorem cg_lawgrp (l : Launch) : ∀ n : Nat, (∀ (D : va_G) (cs : Nat → ClassId) (ad : Nat → Nat) (k : (Nat → Nat) × (Nat → Nat)) (sz : Nat) (x1 : Int32) (x2 : Int32) (tape_size : Int32) (tape_bytes : Nat → Int32) (lr_size : Int32) (lr_at : Int32) (lr_fault : Int32) (lr_code : Nat → Int32) (R : Int32 × Int32 × Int32 × (Nat → Int32)) (h : ((grp_lawgrp n).1) x1 x2 tape_size tape_bytes lr_size lr_at lr_fault lr_code = some R), Met l yX5_readLevel z_X5_readLevel ({ frames := 5 * n, cells := 0, slots := 0, locals := 113 * n } : Room) (va_Pc [.ref (ad 26), .int x1, .int x2] (zPreE k D cs (wl_X5_readLevel ad cs tape_size tape_bytes lr_size lr_at lr_fault lr_code) sz)) (Q_X5_readLevel D cs ad tape_size tape_bytes (va_A (wl_X5_readLevel ad cs tape_size tape_bytes lr_size lr_at lr_fault lr_code) sz) R) 0 0 (va_A (wl_X5_readLevel ad cs tape_size tape_bytes lr_size lr_at lr_fault lr_code) sz)) ∧ (∀ (D : va_G) (cs : Nat → ClassId) (ad : Nat → Nat) (k : (Nat → Nat) × (Nat → Nat)) (sz : Nat) (x1 : Int32) (tape_size : Int32) (tape_bytes : Nat → Int32) (lr_size : Int32) (lr_at : Int32) (lr_fault : Int32) (lr_code : Nat → Int32) (R : Int32 × Int32 × Int32 × (Nat → Int32)) (h : ((grp_lawgrp n).2) x1 tape_size tape_bytes lr_size lr_at lr_fault lr_code = some R), Met l yX5_readOperand z_X5_readOperand ({ frames := 5 * n, cells := 0, slots := 0, locals := 113 * n } : Room) (va_Pc [.ref (ad 26), .int x1] (zPreE k D cs (wl_X5_readOperand ad cs tape_size tape_bytes lr_size lr_at lr_fault lr_code) sz)) (Q_X5_readOperand D cs ad tape_size tape_bytes (va_A (wl_X5_readOperand ad cs tape_size tape_bytes lr_size lr_at lr_fault lr_code) sz) R) 0 0 (va_A (wl_X5_readOperand ad cs tape_size tape_bytes lr_size lr_at lr_fault lr_code) sz)) := by
  intro n
  induction n with
  | zero =>
    refine ⟨?_, ?_⟩ <;> (intros; rename_i h; cases h)
  | succ n ih =>
    exact ⟨(fun D cs ad  k sz x1 x2 tape_size tape_bytes lr_size lr_at lr_fault lr_code R h => c_X5_readLevel l D cs ad  k (ih.1) (ih.2) sz 100000 x1 x2 tape_size tape_bytes lr_size lr_at lr_fault lr_code R h), (fun D cs ad  k sz x1 tape_size tape_bytes lr_size lr_at lr_fault lr_code R h => c_X5_readOperand l D cs ad  k (ih.1) (ih.2) sz x1 tape_size tape_bytes lr_size lr_at lr_fault lr_code R h)⟩
theorem zh_cX5_readLine_0 : zck [42, 3, 3, 182, 0, 53, 42, 16, 63, 182, 0, 32, 153, 0, 50, 42, 180, 0, 23, 60, 42, 6] (zdu 0 cX5_readLine.data.toList) = true := by decide +kernel
theorem dX5_readLine_0 : decode cX5_readLine 0 = .ok (.aload_n 0, 1) := zo_42 zh_cX5_readLine_0 0 rfl
theorem dX5_readLine_1 : decode cX5_readLine 1 = .ok (.iconst 0, 1) := zo_3 zh_cX5_readLine_0 1 rfl
theorem dX5_readLine_2 : decode cX5_readLine 2 = .ok (.iconst 0, 1) := zo_3 zh_cX5_readLine_0 2 rfl
theorem dX5_readLine_3 : decode cX5_readLine 3 = .ok (.invokevirtual 53, 3) := zo_182 zh_cX5_readLine_0 3 rfl
theorem dX5_readLine_6 : decode cX5_readLine 6 = .ok (.aload_n 0, 1) := zo_42 zh_cX5_readLine_0 6 rfl
theorem dX5_readLine_7 : decode cX5_readLine 7 = .ok (.bipush 63, 2) := zo_p16 zh_cX5_readLine_0 7 63 rfl rfl
theorem dX5_readLine_9 : decode cX5_readLine 9 = .ok (.invokevirtual 32, 3) := zo_182 zh_cX5_readLine_0 9 rfl
theorem dX5_readLine_12 : decode cX5_readLine 12 = .ok (.ifCond .eq 50, 3) := zo_p153 zh_cX5_readLine_0 12 50 rfl rfl
theorem dX5_readLine_15 : decode cX5_readLine 15 = .ok (.aload_n 0, 1) := zo_42 zh_cX5_readLine_0 15 rfl
theorem dX5_readLine_16 : decode cX5_readLine 16 = .ok (.getfield 23, 3) := zo_180 zh_cX5_readLine_0 16 rfl
theorem dX5_readLine_19 : decode cX5_readLine 19 = .ok (.istore_n 1, 1) := zo_60 zh_cX5_readLine_0 19 rfl
theorem zh_cX5_readLine_1 : zck [42, 6, 182, 0, 57, 42, 3, 3, 182, 0, 53, 42, 5, 182, 0, 57, 27, 42, 180, 0, 9, 190] (zdu 20 cX5_readLine.data.toList) = true := by decide +kernel
theorem dX5_readLine_20 : decode cX5_readLine 20 = .ok (.aload_n 0, 1) := zo_42 zh_cX5_readLine_1 0 rfl
theorem dX5_readLine_21 : decode cX5_readLine 21 = .ok (.iconst 3, 1) := zo_6 zh_cX5_readLine_1 1 rfl
theorem dX5_readLine_22 : decode cX5_readLine 22 = .ok (.invokevirtual 57, 3) := zo_182 zh_cX5_readLine_1 2 rfl
theorem dX5_readLine_25 : decode cX5_readLine 25 = .ok (.aload_n 0, 1) := zo_42 zh_cX5_readLine_1 5 rfl
theorem dX5_readLine_26 : decode cX5_readLine 26 = .ok (.iconst 0, 1) := zo_3 zh_cX5_readLine_1 6 rfl
theorem dX5_readLine_27 : decode cX5_readLine 27 = .ok (.iconst 0, 1) := zo_3 zh_cX5_readLine_1 7 rfl
theorem dX5_readLine_28 : decode cX5_readLine 28 = .ok (.invokevirtual 53, 3) := zo_182 zh_cX5_readLine_1 8 rfl
theorem dX5_readLine_31 : decode cX5_readLine 31 = .ok (.aload_n 0, 1) := zo_42 zh_cX5_readLine_1 11 rfl
theorem dX5_readLine_32 : decode cX5_readLine 32 = .ok (.iconst 2, 1) := zo_5 zh_cX5_readLine_1 12 rfl
theorem dX5_readLine_33 : decode cX5_readLine 33 = .ok (.invokevirtual 57, 3) := zo_182 zh_cX5_readLine_1 13 rfl
theorem dX5_readLine_36 : decode cX5_readLine 36 = .ok (.iload_n 1, 1) := zo_27 zh_cX5_readLine_1 16 rfl
theorem dX5_readLine_37 : decode cX5_readLine 37 = .ok (.aload_n 0, 1) := zo_42 zh_cX5_readLine_1 17 rfl
theorem dX5_readLine_38 : decode cX5_readLine 38 = .ok (.getfield 9, 3) := zo_180 zh_cX5_readLine_1 18 rfl
theorem zh_cX5_readLine_2 : zck [9, 190, 162, 0, 17, 42, 180, 0, 9, 27, 42, 180, 0, 23, 8, 120, 6, 128, 79, 167, 0, 8] (zdu 40 cX5_readLine.data.toList) = true := by decide +kernel
theorem dX5_readLine_41 : decode cX5_readLine 41 = .ok (.arraylength, 1) := zo_190 zh_cX5_readLine_2 1 rfl
theorem dX5_readLine_42 : decode cX5_readLine 42 = .ok (.if_icmp .ge 17, 3) := zo_p162 zh_cX5_readLine_2 2 17 rfl rfl
theorem dX5_readLine_45 : decode cX5_readLine 45 = .ok (.aload_n 0, 1) := zo_42 zh_cX5_readLine_2 5 rfl
theorem dX5_readLine_46 : decode cX5_readLine 46 = .ok (.getfield 9, 3) := zo_180 zh_cX5_readLine_2 6 rfl
theorem dX5_readLine_49 : decode cX5_readLine 49 = .ok (.iload_n 1, 1) := zo_27 zh_cX5_readLine_2 9 rfl
theorem dX5_readLine_50 : decode cX5_readLine 50 = .ok (.aload_n 0, 1) := zo_42 zh_cX5_readLine_2 10 rfl
theorem dX5_readLine_51 : decode cX5_readLine 51 = .ok (.getfield 23, 3) := zo_180 zh_cX5_readLine_2 11 rfl
theorem dX5_readLine_54 : decode cX5_readLine 54 = .ok (.iconst 5, 1) := zo_8 zh_cX5_readLine_2 14 rfl
theorem dX5_readLine_55 : decode cX5_readLine 55 = .ok (.ishl, 1) := zo_120 zh_cX5_readLine_2 15 rfl
theorem dX5_readLine_56 : decode cX5_readLine 56 = .ok (.iconst 3, 1) := zo_6 zh_cX5_readLine_2 16 rfl
theorem dX5_readLine_57 : decode cX5_readLine 57 = .ok (.ior, 1) := zo_128 zh_cX5_readLine_2 17 rfl
theorem dX5_readLine_58 : decode cX5_readLine 58 = .ok (.iastore, 1) := zo_79 zh_cX5_readLine_2 18 rfl
theorem dX5_readLine_59 : decode cX5_readLine 59 = .ok (.goto 8, 3) := zo_p167 zh_cX5_readLine_2 19 8 rfl rfl
theorem zh_cX5_readLine_3 : zck [0, 8, 42, 5, 182, 0, 57, 177] (zdu 60 cX5_readLine.data.toList) = true := by decide +kernel
theorem dX5_readLine_62 : decode cX5_readLine 62 = .ok (.aload_n 0, 1) := zo_42 zh_cX5_readLine_3 2 rfl
theorem dX5_readLine_63 : decode cX5_readLine 63 = .ok (.iconst 2, 1) := zo_5 zh_cX5_readLine_3 3 rfl
theorem dX5_readLine_64 : decode cX5_readLine 64 = .ok (.invokevirtual 57, 3) := zo_182 zh_cX5_readLine_3 4 rfl
theorem dX5_readLine_67 : decode cX5_readLine 67 = .ok (.return_, 1) := zo_177 zh_cX5_readLine_3 7 rfl
abbrev z_X5_readLine : List Cond := .code yX5_readLine cX5_readLine 2 none :: zW
abbrev wl_X5_readLine (ad : Nat → Nat) (cs : Nat → ClassId)  (tape_size : Int32) (tape_bytes : Nat → Int32) (lr_size : Int32) (lr_at : Int32) (lr_fault : Int32) (lr_code : Nat → Int32) : va_W := [((ad 23), .inr (9, [.ref (ad 24), .int tape_size])), ((ad 24), .inl (cs 0, 120, .inl tape_bytes)), ((ad 26), .inr (5, [.ref (ad 23), .ref (ad 27), .int lr_size, .int lr_at, .int lr_fault])), ((ad 27), .inl (cs 0, 121, .inl lr_code))]
def Q_X5_readLine (D : va_G) (cs : Nat → ClassId) (ad : Nat → Nat)  (tape_size : Int32) (tape_bytes : Nat → Int32) (A : Nat → Prop) (R : Int32 × Int32 × Int32 × (Nat → Int32)) : Array Value → State → Outcome → State → Prop :=
  va_Qv (fun u : Int32 × Int32 × Int32 × (Nat → Int32) => u = R) (fun (u : Int32 × Int32 × Int32 × (Nat → Int32)) (t : State) => va_P D classes (wl_X5_readLine ad cs tape_size tape_bytes u.1 u.2.1 u.2.2.1 u.2.2.2) t.heap ∧ va_D A (wl_X5_readLine ad cs tape_size tape_bytes u.1 u.2.1 u.2.2.1 u.2.2.2)) A
abbrev rm_X5_readLine : Room := { frames := 301, cells := 0, slots := 0, locals := 6804 }
def B_X5_readLine_59    (tape_size : Int32) (tape_bytes : Nat → Int32) (lr_size : Int32) (lr_at : Int32) (lr_fault : Int32) (lr_code : Nat → Int32) : Option (Int32 × Int32 × Int32 × (Nat → Int32)) :=
  (some (lr_size, lr_at, lr_fault, lr_code))
def B_X5_readLine_0    (tape_size : Int32) (tape_bytes : Nat → Int32) (lr_size : Int32) (lr_at : Int32) (lr_fault : Int32) (lr_code : Nat → Int32) : Option (Int32 × Int32 × Int32 × (Nat → Int32)) :=
  (zk_b4 ((grp_lawgrp 60).1 (0 : Int32) (0 : Int32) tape_size tape_bytes lr_size lr_at lr_fault lr_code) (fun u_1 u_2 u_3 u_4 => (zk_b2 (f_X5_accept (63 : Int32) tape_size tape_bytes u_1 u_2 u_3) (fun r_6 u_7 => (if r_6 = 0 then (zk_b2 (f_X5_emit (2 : Int32) u_1 u_7 u_3 u_4) (fun u_10 u_11 => (some (u_10, u_7, u_3, u_11)))) else (zk_b2 (f_X5_emit (3 : Int32) u_1 u_7 u_3 u_4) (fun u_13 u_14 => (zk_b4 ((grp_lawgrp 60).1 (0 : Int32) (0 : Int32) tape_size tape_bytes u_13 u_7 u_3 u_14) (fun u_16 u_17 u_18 u_19 => (zk_b2 (f_X5_emit (2 : Int32) u_16 u_17 u_18 u_19) (fun u_21 u_22 => (if (121 : Int32) ≤ u_1 then (B_X5_readLine_59 tape_size tape_bytes u_21 u_17 u_18 u_22) else (zk_let ((u_21 <<< ((5 : Int32) &&& 31)) ||| (3 : Int32)) (fun v_25 => (if (u_1 < 0 ∨ 121 ≤ u_1.toNatClampNeg) then none else (zk_let (upd u_22 u_1.toNatClampNeg v_25) (fun f_27 => (B_X5_readLine_59 tape_size tape_bytes u_21 u_17 u_18 f_27))))))))))))))))))
def f_X5_readLine    (tape_size : Int32) (tape_bytes : Nat → Int32) (lr_size : Int32) (lr_at : Int32) (lr_fault : Int32) (lr_code : Nat → Int32) : Option (Int32 × Int32 × Int32 × (Nat → Int32)) := B_X5_readLine_0   tape_size tape_bytes  lr_size lr_at lr_fault lr_code
set_option maxHeartbeats 4000000 in
set_option maxRecDepth 100000 in
theorem L_X5_readLine_59 {p : Program} {l : Launch} {e : Env} {s : State} {m : MethodId} {args : Array Value} {below : List Frame} {meth : Method} {c : Code} {A : Nat → Prop} {D : va_G} {cs : Nat → ClassId} {ad : Nat → Nat} {tape_size : Int32} {tape_bytes : Nat → Int32} {R : Int32 × Int32 × Int32 × (Nat → Int32)} (C0 : zC p s m args meth c cX5_readLine 2 none RX5 zW) (hK : va_K D classes (zT cs) s) {k : (Nat → Nat) × (Nat → Nat)} (hO : zO s) (hE : zE k A s) (hA : ∀ q : Nat, s.heap.size ≤ q → A q) (lr_size : Int32) (lr_at : Int32) (lr_fault : Int32) (lr_code : Nat → Int32) (h : B_X5_readLine_59 tape_size tape_bytes lr_size lr_at lr_fault lr_code = some R) (H : Heap) (locs : List Loc) (ls : Array Slot) (hP : va_P D classes (wl_X5_readLine ad cs tape_size tape_bytes lr_size lr_at lr_fault lr_code) H) (hD : va_D A (wl_X5_readLine ad cs tape_size tape_bytes lr_size lr_at lr_fault lr_code)) (hS : va_S A s.heap H locs) (hl : lv_has ls 2 []) : W p l e rm_X5_readLine s m args below meth c H locs 0 0 (MQ below (Q_X5_readLine D cs ad tape_size tape_bytes A R) args s 0 0 A) (F0 m 59 ls []) := by
  obtain ⟨hx, hb, hr, hml, hown, ht, hlocks⟩ := id C0
  refine lv_goto (tgt := 67) hx hb dX5_readLine_59 (by decide) ?_
  exact W.vret hx hb hr (fun t ht2 hW => ⟨⟨(lr_size, lr_at, lr_fault, lr_code), rfl, Option.some.inj h, by rw [ht2]; exact hP, hD⟩, hS.F ht2⟩) hS.2.2 dX5_readLine_67 hlocks
set_option maxHeartbeats 4000000 in
set_option maxRecDepth 100000 in
theorem L_X5_readLine_0 {p : Program} {l : Launch} {e : Env} {s : State} {m : MethodId} {args : Array Value} {below : List Frame} {meth : Method} {c : Code} {A : Nat → Prop} {D : va_G} {cs : Nat → ClassId} {ad : Nat → Nat} {tape_size : Int32} {tape_bytes : Nat → Int32} {R : Int32 × Int32 × Int32 × (Nat → Int32)} (C0 : zC p s m args meth c cX5_readLine 2 none RX5 zW) (hK : va_K D classes (zT cs) s) {k : (Nat → Nat) × (Nat → Nat)} (hO : zO s) (hE : zE k A s) (hA : ∀ q : Nat, s.heap.size ≤ q → A q) (lr_size : Int32) (lr_at : Int32) (lr_fault : Int32) (lr_code : Nat → Int32) (h : B_X5_readLine_0 tape_size tape_bytes lr_size lr_at lr_fault lr_code = some R) (H : Heap) (locs : List Loc) (ls : Array Slot) (hP : va_P D classes (wl_X5_readLine ad cs tape_size tape_bytes lr_size lr_at lr_fault lr_code) H) (hD : va_D A (wl_X5_readLine ad cs tape_size tape_bytes lr_size lr_at lr_fault lr_code)) (hS : va_S A s.heap H locs) (hl : lv_has ls 2 [(0, .ref (ad 26))]) : W p l e rm_X5_readLine s m args below meth c H locs 0 0 (MQ below (Q_X5_readLine D cs ad tape_size tape_bytes A R) args s 0 0 A) (F0 m 0 ls []) := by
  obtain ⟨hx, hb, hr, hml, hown, ht, hlocks⟩ := id C0
  refine lv_aload_n hx hb dX5_readLine_0 rfl (lv_at hl 0 rfl) ?_
  refine lv_iconst (v := (0 : Int32)) hx hb dX5_readLine_1 (by decide) ?_
  refine lv_iconst (v := (0 : Int32)) hx hb dX5_readLine_2 (by decide) ?_
  obtain ⟨u_1, u_2, u_3, u_4, hc_5, h⟩ := zk_o4 h
  refine zk_vvE (post := (fun u => u = (u_1, u_2, u_3, u_4))) (w1 := fun u => (wl_X5_readLevel ad cs tape_size tape_bytes u.1 u.2.1 u.2.2.1 u.2.2.2)) (As := [.int (0 : Int32), .int (0 : Int32)]) (rest := []) hE hO (((cg_lawgrp l 60).1) D cs ad k H.size (0 : Int32) (0 : Int32) tape_size tape_bytes lr_size lr_at lr_fault lr_code (u_1, u_2, u_3, u_4) hc_5) ⟨hx, hb, hml, hown, ht⟩ (cwV 2 ht g_X5_53 rfl rfl rfl ⟨rfl, hd_X5_readLevel⟩ ⟨Nat.le_of_ble_eq_true rfl, Nat.le_of_ble_eq_true rfl⟩) (va_recv hK hP (ci := 5) (q0 := 2) rfl rfl) hP hD hS hK hA [0, 1, 2, 3] [] rfl rfl rfl rfl (by decide) rfl hl.1 (Nat.le_of_ble_eq_true rfl) dX5_readLine_3 ⟨Nat.zero_le _, Nat.zero_le _⟩ (fun u H locs hq hP hD hS => ?_)
  cases hq
  have hP : va_P D classes (wl_X5_readLine ad cs tape_size tape_bytes u_1 u_2 u_3 u_4) H := hP.sub [0, 1, 2, 3] rfl
  have hD : va_D A (wl_X5_readLine ad cs tape_size tape_bytes u_1 u_2 u_3 u_4) := hD.sub [0, 1, 2, 3] rfl rfl
  refine lv_aload_n hx hb dX5_readLine_6 rfl (lv_at hl 0 rfl) ?_
  refine lv_bipush (v := (63 : Int32)) hx hb dX5_readLine_7 (by decide) ?_
  obtain ⟨r_6, u_7, hc_8, h⟩ := zk_o2 h
  refine zz_vi (post := (fun r u => (r, u) = (r_6, u_7))) (w1 := fun u => (wl_X5_accept ad cs tape_size tape_bytes u_1 u u_3)) (As := [.int (63 : Int32)]) (rest := []) (c_X5_accept l D cs ad  H.size (63 : Int32) tape_size tape_bytes u_1 u_2 u_3 (r_6, u_7) hc_8) ⟨hx, hb, hml, hown, ht⟩ (cwV 1 ht g_X5_32 rfl rfl rfl ⟨rfl, hd_X5_accept⟩ ⟨Nat.le_of_ble_eq_true rfl, Nat.le_of_ble_eq_true rfl⟩) (va_recv hK hP (ci := 5) (q0 := 2) rfl rfl) hP hD hS hK hA [0, 1, 2] rfl rfl [(ad 23), (ad 24), (ad 26)] rfl (fun _ => rfl) rfl hl.1 (Nat.le_of_ble_eq_true rfl) dX5_readLine_9 ⟨Nat.zero_le _, Nat.zero_le _⟩ (fun r u H locs hq hP hS => ?_)
  cases hq
  have hP : va_P D classes (wl_X5_readLine ad cs tape_size tape_bytes u_1 u_7 u_3 u_4) H := hP
  have hD : va_D A (wl_X5_readLine ad cs tape_size tape_bytes u_1 u_7 u_3 u_4) := zDk hD [(ad 23), (ad 24), (ad 26), (ad 27)] rfl rfl
  refine lv_if_eq (tgt := 62) hx hb dX5_readLine_12 (by decide) (fun c_9 => ?_) (fun c_9 => ?_)
  · have h := zk_t c_9 h
    refine lv_aload_n hx hb dX5_readLine_62 rfl (lv_at hl 0 rfl) ?_
    refine lv_iconst (v := (2 : Int32)) hx hb dX5_readLine_63 (by decide) ?_
    obtain ⟨u_10, u_11, hc_12, h⟩ := zk_o2 h
    refine zz_vv (post := (fun u => u = (u_10, u_11))) (w1 := fun u => (wl_X5_emit ad cs u.1 u_7 u_3 u.2)) (As := [.int (2 : Int32)]) (rest := []) (c_X5_emit l D cs ad  H.size (2 : Int32) u_1 u_7 u_3 u_4 (u_10, u_11) hc_12) ⟨hx, hb, hml, hown, ht⟩ (cwV 1 ht g_X5_57 rfl rfl rfl ⟨rfl, hd_X5_emit⟩ ⟨Nat.le_of_ble_eq_true rfl, Nat.le_of_ble_eq_true rfl⟩) (va_recv hK hP (ci := 5) (q0 := 2) rfl rfl) hP hD hS hK hA [2, 3] rfl rfl [(ad 26), (ad 27)] rfl (fun _ => rfl) rfl hl.1 (Nat.le_of_ble_eq_true rfl) dX5_readLine_64 ⟨Nat.zero_le _, Nat.zero_le _⟩ (fun u H locs hq hP hS => ?_)
    cases hq
    have hP : va_P D classes (wl_X5_readLine ad cs tape_size tape_bytes u_10 u_7 u_3 u_11) H := hP
    have hD : va_D A (wl_X5_readLine ad cs tape_size tape_bytes u_10 u_7 u_3 u_11) := zDk hD [(ad 23), (ad 24), (ad 26), (ad 27)] rfl rfl
    exact W.vret hx hb hr (fun t ht2 hW => ⟨⟨(u_10, u_7, u_3, u_11), rfl, Option.some.inj h, by rw [ht2]; exact hP, hD⟩, hS.F ht2⟩) hS.2.2 dX5_readLine_67 hlocks
  · have h := zk_f c_9 h
    refine lv_aload_n hx hb dX5_readLine_15 rfl (lv_at hl 0 rfl) ?_
    refine va_get (D := D) (ci := 5) (v := .int u_1) (C := RX5) (T := TX5) (N := 5) hx hb ht iX5 hown hK hP 2 rfl rfl 2 (by decide) (ht _ kw_276) (fun _ h9 => h9) rfl dX5_readLine_16 ?_
    refine lv_istore_n (lv' := [(1, .int u_1), (0, .ref (ad 26))]) hx hb dX5_readLine_19 rfl hl (by decide) rfl (fun ls hl => ?_)
    refine lv_aload_n hx hb dX5_readLine_20 rfl (lv_at hl 1 rfl) ?_
    refine lv_iconst (v := (3 : Int32)) hx hb dX5_readLine_21 (by decide) ?_
    obtain ⟨u_13, u_14, hc_15, h⟩ := zk_o2 h
    refine zz_vv (post := (fun u => u = (u_13, u_14))) (w1 := fun u => (wl_X5_emit ad cs u.1 u_7 u_3 u.2)) (As := [.int (3 : Int32)]) (rest := []) (c_X5_emit l D cs ad  H.size (3 : Int32) u_1 u_7 u_3 u_4 (u_13, u_14) hc_15) ⟨hx, hb, hml, hown, ht⟩ (cwV 1 ht g_X5_57 rfl rfl rfl ⟨rfl, hd_X5_emit⟩ ⟨Nat.le_of_ble_eq_true rfl, Nat.le_of_ble_eq_true rfl⟩) (va_recv hK hP (ci := 5) (q0 := 2) rfl rfl) hP hD hS hK hA [2, 3] rfl rfl [(ad 26), (ad 27)] rfl (fun _ => rfl) rfl hl.1 (Nat.le_of_ble_eq_true rfl) dX5_readLine_22 ⟨Nat.zero_le _, Nat.zero_le _⟩ (fun u H locs hq hP hS => ?_)
    cases hq
    have hP : va_P D classes (wl_X5_readLine ad cs tape_size tape_bytes u_13 u_7 u_3 u_14) H := hP
    have hD : va_D A (wl_X5_readLine ad cs tape_size tape_bytes u_13 u_7 u_3 u_14) := zDk hD [(ad 23), (ad 24), (ad 26), (ad 27)] rfl rfl
    refine lv_aload_n hx hb dX5_readLine_25 rfl (lv_at hl 1 rfl) ?_
    refine lv_iconst (v := (0 : Int32)) hx hb dX5_readLine_26 (by decide) ?_
    refine lv_iconst (v := (0 : Int32)) hx hb dX5_readLine_27 (by decide) ?_
    obtain ⟨u_16, u_17, u_18, u_19, hc_20, h⟩ := zk_o4 h
    refine zk_vvE (post := (fun u => u = (u_16, u_17, u_18, u_19))) (w1 := fun u => (wl_X5_readLevel ad cs tape_size tape_bytes u.1 u.2.1 u.2.2.1 u.2.2.2)) (As := [.int (0 : Int32), .int (0 : Int32)]) (rest := []) hE hO (((cg_lawgrp l 60).1) D cs ad k H.size (0 : Int32) (0 : Int32) tape_size tape_bytes u_13 u_7 u_3 u_14 (u_16, u_17, u_18, u_19) hc_20) ⟨hx, hb, hml, hown, ht⟩ (cwV 2 ht g_X5_53 rfl rfl rfl ⟨rfl, hd_X5_readLevel⟩ ⟨Nat.le_of_ble_eq_true rfl, Nat.le_of_ble_eq_true rfl⟩) (va_recv hK hP (ci := 5) (q0 := 2) rfl rfl) hP hD hS hK hA [0, 1, 2, 3] [] rfl rfl rfl rfl (by decide) rfl hl.1 (Nat.le_of_ble_eq_true rfl) dX5_readLine_28 ⟨Nat.zero_le _, Nat.zero_le _⟩ (fun u H locs hq hP hD hS => ?_)
    cases hq
    have hP : va_P D classes (wl_X5_readLine ad cs tape_size tape_bytes u_16 u_17 u_18 u_19) H := hP.sub [0, 1, 2, 3] rfl
    have hD : va_D A (wl_X5_readLine ad cs tape_size tape_bytes u_16 u_17 u_18 u_19) := hD.sub [0, 1, 2, 3] rfl rfl
    refine lv_aload_n hx hb dX5_readLine_31 rfl (lv_at hl 1 rfl) ?_
    refine lv_iconst (v := (2 : Int32)) hx hb dX5_readLine_32 (by decide) ?_
    obtain ⟨u_21, u_22, hc_23, h⟩ := zk_o2 h
    refine zz_vv (post := (fun u => u = (u_21, u_22))) (w1 := fun u => (wl_X5_emit ad cs u.1 u_17 u_18 u.2)) (As := [.int (2 : Int32)]) (rest := []) (c_X5_emit l D cs ad  H.size (2 : Int32) u_16 u_17 u_18 u_19 (u_21, u_22) hc_23) ⟨hx, hb, hml, hown, ht⟩ (cwV 1 ht g_X5_57 rfl rfl rfl ⟨rfl, hd_X5_emit⟩ ⟨Nat.le_of_ble_eq_true rfl, Nat.le_of_ble_eq_true rfl⟩) (va_recv hK hP (ci := 5) (q0 := 2) rfl rfl) hP hD hS hK hA [2, 3] rfl rfl [(ad 26), (ad 27)] rfl (fun _ => rfl) rfl hl.1 (Nat.le_of_ble_eq_true rfl) dX5_readLine_33 ⟨Nat.zero_le _, Nat.zero_le _⟩ (fun u H locs hq hP hS => ?_)
    cases hq
    have hP : va_P D classes (wl_X5_readLine ad cs tape_size tape_bytes u_21 u_17 u_18 u_22) H := hP
    have hD : va_D A (wl_X5_readLine ad cs tape_size tape_bytes u_21 u_17 u_18 u_22) := zDk hD [(ad 23), (ad 24), (ad 26), (ad 27)] rfl rfl
    refine lv_iload_n hx hb dX5_readLine_36 rfl (lv_at hl 0 rfl) ?_
    refine lv_aload_n hx hb dX5_readLine_37 rfl (lv_at hl 1 rfl) ?_
    refine va_get (D := D) (ci := 5) (v := .ref (ad 27)) (C := RX5) (T := TX5) (N := 5) hx hb ht iX5 hown hK hP 2 rfl rfl 1 (by decide) (ht _ kw_275) (fun _ h9 => h9) rfl dX5_readLine_38 ?_
    refine va_alen (v := (121 : Int32)) hx hb hK hP 3 0 rfl rfl rfl dX5_readLine_41 ?_
    refine lv_icmp_ge (tgt := 59) hx hb dX5_readLine_42 (by decide) (fun c_24 => ?_) (fun c_24 => ?_)
    · have h := zk_t c_24 h
      exact L_X5_readLine_59 C0 hK hO hE hA   u_21 u_17 u_18 u_22 h H locs ls hP hD hS (lv_sub hl [] rfl)
    · have h := zk_f c_24 h
      refine lv_aload_n hx hb dX5_readLine_45 rfl (lv_at hl 1 rfl) ?_
      refine va_get (D := D) (ci := 5) (v := .ref (ad 27)) (C := RX5) (T := TX5) (N := 5) hx hb ht iX5 hown hK hP 2 rfl rfl 1 (by decide) (ht _ kw_275) (fun _ h9 => h9) rfl dX5_readLine_46 ?_
      refine lv_iload_n hx hb dX5_readLine_49 rfl (lv_at hl 0 rfl) ?_
      refine lv_aload_n hx hb dX5_readLine_50 rfl (lv_at hl 1 rfl) ?_
      refine va_get (D := D) (ci := 5) (v := .int u_21) (C := RX5) (T := TX5) (N := 5) hx hb ht iX5 hown hK hP 2 rfl rfl 2 (by decide) (ht _ kw_276) (fun _ h9 => h9) rfl dX5_readLine_51 ?_
      refine lv_iconst (v := (5 : Int32)) hx hb dX5_readLine_54 (by decide) ?_
      refine lv_ishl hx hb dX5_readLine_55 ?_
      refine lv_iconst (v := (3 : Int32)) hx hb dX5_readLine_56 (by decide) ?_
      refine lv_ior hx hb dX5_readLine_57 ?_
      obtain ⟨v_25, ev_25, h⟩ := zk_lt h
      refine W.eq (g2 := F0 m 58 ls [.int v_25, .int u_1, .ref (ad 27)]) (by rw [ev_25]) ?_
      obtain ⟨g_26, h⟩ := zk_gd h
      obtain ⟨f_27, ef_27, h⟩ := zk_lt h
      refine va_iast hx hb hK hP hD hS 3 0 rfl rfl g_26 dX5_readLine_58 (fun H locs hP hD hS => ?_)
      have hP : va_P D classes (wl_X5_readLine ad cs tape_size tape_bytes u_21 u_17 u_18 f_27) H := by rw [ef_27]; exact hP
      have hD : va_D A (wl_X5_readLine ad cs tape_size tape_bytes u_21 u_17 u_18 f_27) := by rw [ef_27]; exact hD
      exact L_X5_readLine_59 C0 hK hO hE hA   u_21 u_17 u_18 f_27 h H locs ls hP hD hS (lv_sub hl [] rfl)
set_option maxHeartbeats 4000000 in
set_option maxRecDepth 100000 in
theorem c_X5_readLine (l : Launch) (D : va_G) (cs : Nat → ClassId) (ad : Nat → Nat) (k : (Nat → Nat) × (Nat → Nat)) (sz : Nat)  (tape_size : Int32) (tape_bytes : Nat → Int32) (lr_size : Int32) (lr_at : Int32) (lr_fault : Int32) (lr_code : Nat → Int32) (R : Int32 × Int32 × Int32 × (Nat → Int32)) (h : f_X5_readLine    tape_size tape_bytes lr_size lr_at lr_fault lr_code = some R) : Met l yX5_readLine (z_X5_readLine) rm_X5_readLine (va_Pc [.ref (ad 26)] (zPreE k D cs (wl_X5_readLine ad cs tape_size tape_bytes lr_size lr_at lr_fault lr_code) sz)) (Q_X5_readLine D cs ad tape_size tape_bytes (va_A (wl_X5_readLine ad cs tape_size tape_bytes lr_size lr_at lr_fault lr_code) sz) R) 0 0 (va_A (wl_X5_readLine ad cs tape_size tape_bytes lr_size lr_at lr_fault lr_code) sz) := by
  refine Met.ofW (cc := cX5_readLine) (maxL := 2) (ret := none) (by decide) rfl ?_
  intro p e s m args below meth c s₁ B hml hv
  obtain ⟨rfl, ⟨⟨hsz, hP, hK, hD0⟩, hO⟩, hE⟩ := hv
  subst hsz
  have hD := hD0.self (sz := s.heap.size)
  have C0 : zC p s m _ meth c cX5_readLine 2 none RX5 zW := ⟨B.exec, B.bytes, B.returns, hml, findClass_of_methodNamed B.named, fun w hw => atoms_spec (ws := z_X5_readLine) B.pre w (List.mem_cons_of_mem _ hw), B.notSynchronized⟩
  have hA : ∀ q : Nat, s.heap.size ≤ q → va_A (wl_X5_readLine ad cs tape_size tape_bytes lr_size lr_at lr_fault lr_code) s.heap.size q := fun q h => Or.inr h
  have hl := lv_entry ([.ref (ad 26)]) (n := 2) (Nat.le_of_ble_eq_true rfl)
  rw [lg_entry_eq]
  generalize (lg_sl ([.ref (ad 26)]) ++ List.replicate (2 - (lg_sl ([.ref (ad 26)])).length) Slot.unset).toArray = ls at hl ⊢
  exact L_X5_readLine_0 C0 hK hO hE hA    lr_size lr_at lr_fault lr_code h s.heap [] ls hP hD va_S.rf hl

def zp {A : Type} (x : Option A) (P : A → Prop) : Prop := ∃ R, x = some R ∧ P R
section ZP
variable {A B : Type} {P : A → Prop} {c : Prop} {x y : Option A}
theorem zp_i {a : A} (h : P a) : zp (some a) P := ⟨a, rfl, h⟩
theorem zp_ite {d : Decidable c} (h1 : c → zp x P) (h2 : ¬ c → zp y P) : zp (@ite _ c d x y) P := by
  by_cases h : c
  · rw [if_pos h]; exact h1 h
  · rw [if_neg h]; exact h2 h
theorem zp_g {d : Decidable c} (h : ¬ c) (h2 : zp y P) : zp (@ite _ c d none y) P := by rw [if_neg h]; exact h2
theorem zp_let {a : B} {k : B → Option A} (h : ∀ v, v = a → zp (k v) P) : zp (zk_let a k) P := h a rfl
theorem zp_w {Q : A → Prop} (h : zp x Q) (hq : ∀ a, Q a → P a) : zp x P := by
  obtain ⟨R, e, h⟩ := h
  exact ⟨R, e, hq R h⟩
theorem zp_b1 {x : Option B} {k : B → Option A} {Q : B → Prop} (h : zp x Q) (hk : ∀ a, Q a → zp (k a) P) : zp (zk_b1 x k) P := by
  obtain ⟨R, e, h⟩ := h
  subst e
  exact hk R h
theorem zp_b2 {A0 A1 : Type} {x : Option (A0 × A1)} {k : A0 → A1 → Option A} {Q : A0 × A1 → Prop} (h : zp x Q) (hk : ∀ a0 a1, Q (a0, a1) → zp (k a0 a1) P) : zp (zk_b2 x k) P := by
  obtain ⟨⟨a0, a1⟩, e, h⟩ := h
  subst e
  exact hk a0 a1 h
theorem zp_b3 {A0 A1 A2 : Type} {x : Option (A0 × A1 × A2)} {k : A0 → A1 → A2 → Option A} {Q : A0 × A1 × A2 → Prop} (h : zp x Q) (hk : ∀ a0 a1 a2, Q (a0, a1, a2) → zp (k a0 a1 a2) P) : zp (zk_b3 x k) P := by
  obtain ⟨⟨a0, a1, a2⟩, e, h⟩ := h
  subst e
  exact hk a0 a1 a2 h
theorem zp_b4 {A0 A1 A2 A3 : Type} {x : Option (A0 × A1 × A2 × A3)} {k : A0 → A1 → A2 → A3 → Option A} {Q : A0 × A1 × A2 × A3 → Prop} (h : zp x Q) (hk : ∀ a0 a1 a2 a3, Q (a0, a1, a2, a3) → zp (k a0 a1 a2 a3) P) : zp (zk_b4 x k) P := by
  obtain ⟨⟨a0, a1, a2, a3⟩, e, h⟩ := h
  subst e
  exact hk a0 a1 a2 a3 h
theorem zp_b5 {A0 A1 A2 A3 A4 : Type} {x : Option (A0 × A1 × A2 × A3 × A4)} {k : A0 → A1 → A2 → A3 → A4 → Option A} {Q : A0 × A1 × A2 × A3 × A4 → Prop} (h : zp x Q) (hk : ∀ a0 a1 a2 a3 a4, Q (a0, a1, a2, a3, a4) → zp (k a0 a1 a2 a3 a4) P) : zp (zk_b5 x k) P := by
  obtain ⟨⟨a0, a1, a2, a3, a4⟩, e, h⟩ := h
  subst e
  exact hk a0 a1 a2 a3 a4 h
theorem zp_b6 {A0 A1 A2 A3 A4 A5 : Type} {x : Option (A0 × A1 × A2 × A3 × A4 × A5)} {k : A0 → A1 → A2 → A3 → A4 → A5 → Option A} {Q : A0 × A1 × A2 × A3 × A4 × A5 → Prop} (h : zp x Q) (hk : ∀ a0 a1 a2 a3 a4 a5, Q (a0, a1, a2, a3, a4, a5) → zp (k a0 a1 a2 a3 a4 a5) P) : zp (zk_b6 x k) P := by
  obtain ⟨⟨a0, a1, a2, a3, a4, a5⟩, e, h⟩ := h
  subst e
  exact hk a0 a1 a2 a3 a4 a5 h
theorem zp_b7 {A0 A1 A2 A3 A4 A5 A6 : Type} {x : Option (A0 × A1 × A2 × A3 × A4 × A5 × A6)} {k : A0 → A1 → A2 → A3 → A4 → A5 → A6 → Option A} {Q : A0 × A1 × A2 × A3 × A4 × A5 × A6 → Prop} (h : zp x Q) (hk : ∀ a0 a1 a2 a3 a4 a5 a6, Q (a0, a1, a2, a3, a4, a5, a6) → zp (k a0 a1 a2 a3 a4 a5 a6) P) : zp (zk_b7 x k) P := by
  obtain ⟨⟨a0, a1, a2, a3, a4, a5, a6⟩, e, h⟩ := h
  subst e
  exact hk a0 a1 a2 a3 a4 a5 a6 h
theorem zp_b8 {A0 A1 A2 A3 A4 A5 A6 A7 : Type} {x : Option (A0 × A1 × A2 × A3 × A4 × A5 × A6 × A7)} {k : A0 → A1 → A2 → A3 → A4 → A5 → A6 → A7 → Option A} {Q : A0 × A1 × A2 × A3 × A4 × A5 × A6 × A7 → Prop} (h : zp x Q) (hk : ∀ a0 a1 a2 a3 a4 a5 a6 a7, Q (a0, a1, a2, a3, a4, a5, a6, a7) → zp (k a0 a1 a2 a3 a4 a5 a6 a7) P) : zp (zk_b8 x k) P := by
  obtain ⟨⟨a0, a1, a2, a3, a4, a5, a6, a7⟩, e, h⟩ := h
  subst e
  exact hk a0 a1 a2 a3 a4 a5 a6 a7 h
theorem zp_b9 {A0 A1 A2 A3 A4 A5 A6 A7 A8 : Type} {x : Option (A0 × A1 × A2 × A3 × A4 × A5 × A6 × A7 × A8)} {k : A0 → A1 → A2 → A3 → A4 → A5 → A6 → A7 → A8 → Option A} {Q : A0 × A1 × A2 × A3 × A4 × A5 × A6 × A7 × A8 → Prop} (h : zp x Q) (hk : ∀ a0 a1 a2 a3 a4 a5 a6 a7 a8, Q (a0, a1, a2, a3, a4, a5, a6, a7, a8) → zp (k a0 a1 a2 a3 a4 a5 a6 a7 a8) P) : zp (zk_b9 x k) P := by
  obtain ⟨⟨a0, a1, a2, a3, a4, a5, a6, a7, a8⟩, e, h⟩ := h
  subst e
  exact hk a0 a1 a2 a3 a4 a5 a6 a7 a8 h
theorem zp_b10 {A0 A1 A2 A3 A4 A5 A6 A7 A8 A9 : Type} {x : Option (A0 × A1 × A2 × A3 × A4 × A5 × A6 × A7 × A8 × A9)} {k : A0 → A1 → A2 → A3 → A4 → A5 → A6 → A7 → A8 → A9 → Option A} {Q : A0 × A1 × A2 × A3 × A4 × A5 × A6 × A7 × A8 × A9 → Prop} (h : zp x Q) (hk : ∀ a0 a1 a2 a3 a4 a5 a6 a7 a8 a9, Q (a0, a1, a2, a3, a4, a5, a6, a7, a8, a9) → zp (k a0 a1 a2 a3 a4 a5 a6 a7 a8 a9) P) : zp (zk_b10 x k) P := by
  obtain ⟨⟨a0, a1, a2, a3, a4, a5, a6, a7, a8, a9⟩, e, h⟩ := h
  subst e
  exact hk a0 a1 a2 a3 a4 a5 a6 a7 a8 a9 h
theorem zp_b11 {A0 A1 A2 A3 A4 A5 A6 A7 A8 A9 A10 : Type} {x : Option (A0 × A1 × A2 × A3 × A4 × A5 × A6 × A7 × A8 × A9 × A10)} {k : A0 → A1 → A2 → A3 → A4 → A5 → A6 → A7 → A8 → A9 → A10 → Option A} {Q : A0 × A1 × A2 × A3 × A4 × A5 × A6 × A7 × A8 × A9 × A10 → Prop} (h : zp x Q) (hk : ∀ a0 a1 a2 a3 a4 a5 a6 a7 a8 a9 a10, Q (a0, a1, a2, a3, a4, a5, a6, a7, a8, a9, a10) → zp (k a0 a1 a2 a3 a4 a5 a6 a7 a8 a9 a10) P) : zp (zk_b11 x k) P := by
  obtain ⟨⟨a0, a1, a2, a3, a4, a5, a6, a7, a8, a9, a10⟩, e, h⟩ := h
  subst e
  exact hk a0 a1 a2 a3 a4 a5 a6 a7 a8 a9 a10 h
theorem zp_b12 {A0 A1 A2 A3 A4 A5 A6 A7 A8 A9 A10 A11 : Type} {x : Option (A0 × A1 × A2 × A3 × A4 × A5 × A6 × A7 × A8 × A9 × A10 × A11)} {k : A0 → A1 → A2 → A3 → A4 → A5 → A6 → A7 → A8 → A9 → A10 → A11 → Option A} {Q : A0 × A1 × A2 × A3 × A4 × A5 × A6 × A7 × A8 × A9 × A10 × A11 → Prop} (h : zp x Q) (hk : ∀ a0 a1 a2 a3 a4 a5 a6 a7 a8 a9 a10 a11, Q (a0, a1, a2, a3, a4, a5, a6, a7, a8, a9, a10, a11) → zp (k a0 a1 a2 a3 a4 a5 a6 a7 a8 a9 a10 a11) P) : zp (zk_b12 x k) P := by
  obtain ⟨⟨a0, a1, a2, a3, a4, a5, a6, a7, a8, a9, a10, a11⟩, e, h⟩ := h
  subst e
  exact hk a0 a1 a2 a3 a4 a5 a6 a7 a8 a9 a10 a11 h
theorem zp_b13 {A0 A1 A2 A3 A4 A5 A6 A7 A8 A9 A10 A11 A12 : Type} {x : Option (A0 × A1 × A2 × A3 × A4 × A5 × A6 × A7 × A8 × A9 × A10 × A11 × A12)} {k : A0 → A1 → A2 → A3 → A4 → A5 → A6 → A7 → A8 → A9 → A10 → A11 → A12 → Option A} {Q : A0 × A1 × A2 × A3 × A4 × A5 × A6 × A7 × A8 × A9 × A10 × A11 × A12 → Prop} (h : zp x Q) (hk : ∀ a0 a1 a2 a3 a4 a5 a6 a7 a8 a9 a10 a11 a12, Q (a0, a1, a2, a3, a4, a5, a6, a7, a8, a9, a10, a11, a12) → zp (k a0 a1 a2 a3 a4 a5 a6 a7 a8 a9 a10 a11 a12) P) : zp (zk_b13 x k) P := by
  obtain ⟨⟨a0, a1, a2, a3, a4, a5, a6, a7, a8, a9, a10, a11, a12⟩, e, h⟩ := h
  subst e
  exact hk a0 a1 a2 a3 a4 a5 a6 a7 a8 a9 a10 a11 a12 h
theorem zp_b14 {A0 A1 A2 A3 A4 A5 A6 A7 A8 A9 A10 A11 A12 A13 : Type} {x : Option (A0 × A1 × A2 × A3 × A4 × A5 × A6 × A7 × A8 × A9 × A10 × A11 × A12 × A13)} {k : A0 → A1 → A2 → A3 → A4 → A5 → A6 → A7 → A8 → A9 → A10 → A11 → A12 → A13 → Option A} {Q : A0 × A1 × A2 × A3 × A4 × A5 × A6 × A7 × A8 × A9 × A10 × A11 × A12 × A13 → Prop} (h : zp x Q) (hk : ∀ a0 a1 a2 a3 a4 a5 a6 a7 a8 a9 a10 a11 a12 a13, Q (a0, a1, a2, a3, a4, a5, a6, a7, a8, a9, a10, a11, a12, a13) → zp (k a0 a1 a2 a3 a4 a5 a6 a7 a8 a9 a10 a11 a12 a13) P) : zp (zk_b14 x k) P := by
  obtain ⟨⟨a0, a1, a2, a3, a4, a5, a6, a7, a8, a9, a10, a11, a12, a13⟩, e, h⟩ := h
  subst e
  exact hk a0 a1 a2 a3 a4 a5 a6 a7 a8 a9 a10 a11 a12 a13 h
theorem zp_b15 {A0 A1 A2 A3 A4 A5 A6 A7 A8 A9 A10 A11 A12 A13 A14 : Type} {x : Option (A0 × A1 × A2 × A3 × A4 × A5 × A6 × A7 × A8 × A9 × A10 × A11 × A12 × A13 × A14)} {k : A0 → A1 → A2 → A3 → A4 → A5 → A6 → A7 → A8 → A9 → A10 → A11 → A12 → A13 → A14 → Option A} {Q : A0 × A1 × A2 × A3 × A4 × A5 × A6 × A7 × A8 × A9 × A10 × A11 × A12 × A13 × A14 → Prop} (h : zp x Q) (hk : ∀ a0 a1 a2 a3 a4 a5 a6 a7 a8 a9 a10 a11 a12 a13 a14, Q (a0, a1, a2, a3, a4, a5, a6, a7, a8, a9, a10, a11, a12, a13, a14) → zp (k a0 a1 a2 a3 a4 a5 a6 a7 a8 a9 a10 a11 a12 a13 a14) P) : zp (zk_b15 x k) P := by
  obtain ⟨⟨a0, a1, a2, a3, a4, a5, a6, a7, a8, a9, a10, a11, a12, a13, a14⟩, e, h⟩ := h
  subst e
  exact hk a0 a1 a2 a3 a4 a5 a6 a7 a8 a9 a10 a11 a12 a13 a14 h
theorem zp_b16 {A0 A1 A2 A3 A4 A5 A6 A7 A8 A9 A10 A11 A12 A13 A14 A15 : Type} {x : Option (A0 × A1 × A2 × A3 × A4 × A5 × A6 × A7 × A8 × A9 × A10 × A11 × A12 × A13 × A14 × A15)} {k : A0 → A1 → A2 → A3 → A4 → A5 → A6 → A7 → A8 → A9 → A10 → A11 → A12 → A13 → A14 → A15 → Option A} {Q : A0 × A1 × A2 × A3 × A4 × A5 × A6 × A7 × A8 × A9 × A10 × A11 × A12 × A13 × A14 × A15 → Prop} (h : zp x Q) (hk : ∀ a0 a1 a2 a3 a4 a5 a6 a7 a8 a9 a10 a11 a12 a13 a14 a15, Q (a0, a1, a2, a3, a4, a5, a6, a7, a8, a9, a10, a11, a12, a13, a14, a15) → zp (k a0 a1 a2 a3 a4 a5 a6 a7 a8 a9 a10 a11 a12 a13 a14 a15) P) : zp (zk_b16 x k) P := by
  obtain ⟨⟨a0, a1, a2, a3, a4, a5, a6, a7, a8, a9, a10, a11, a12, a13, a14, a15⟩, e, h⟩ := h
  subst e
  exact hk a0 a1 a2 a3 a4 a5 a6 a7 a8 a9 a10 a11 a12 a13 a14 a15 h
theorem zp_b17 {A0 A1 A2 A3 A4 A5 A6 A7 A8 A9 A10 A11 A12 A13 A14 A15 A16 : Type} {x : Option (A0 × A1 × A2 × A3 × A4 × A5 × A6 × A7 × A8 × A9 × A10 × A11 × A12 × A13 × A14 × A15 × A16)} {k : A0 → A1 → A2 → A3 → A4 → A5 → A6 → A7 → A8 → A9 → A10 → A11 → A12 → A13 → A14 → A15 → A16 → Option A} {Q : A0 × A1 × A2 × A3 × A4 × A5 × A6 × A7 × A8 × A9 × A10 × A11 × A12 × A13 × A14 × A15 × A16 → Prop} (h : zp x Q) (hk : ∀ a0 a1 a2 a3 a4 a5 a6 a7 a8 a9 a10 a11 a12 a13 a14 a15 a16, Q (a0, a1, a2, a3, a4, a5, a6, a7, a8, a9, a10, a11, a12, a13, a14, a15, a16) → zp (k a0 a1 a2 a3 a4 a5 a6 a7 a8 a9 a10 a11 a12 a13 a14 a15 a16) P) : zp (zk_b17 x k) P := by
  obtain ⟨⟨a0, a1, a2, a3, a4, a5, a6, a7, a8, a9, a10, a11, a12, a13, a14, a15, a16⟩, e, h⟩ := h
  subst e
  exact hk a0 a1 a2 a3 a4 a5 a6 a7 a8 a9 a10 a11 a12 a13 a14 a15 a16 h
theorem zp_b18 {A0 A1 A2 A3 A4 A5 A6 A7 A8 A9 A10 A11 A12 A13 A14 A15 A16 A17 : Type} {x : Option (A0 × A1 × A2 × A3 × A4 × A5 × A6 × A7 × A8 × A9 × A10 × A11 × A12 × A13 × A14 × A15 × A16 × A17)} {k : A0 → A1 → A2 → A3 → A4 → A5 → A6 → A7 → A8 → A9 → A10 → A11 → A12 → A13 → A14 → A15 → A16 → A17 → Option A} {Q : A0 × A1 × A2 × A3 × A4 × A5 × A6 × A7 × A8 × A9 × A10 × A11 × A12 × A13 × A14 × A15 × A16 × A17 → Prop} (h : zp x Q) (hk : ∀ a0 a1 a2 a3 a4 a5 a6 a7 a8 a9 a10 a11 a12 a13 a14 a15 a16 a17, Q (a0, a1, a2, a3, a4, a5, a6, a7, a8, a9, a10, a11, a12, a13, a14, a15, a16, a17) → zp (k a0 a1 a2 a3 a4 a5 a6 a7 a8 a9 a10 a11 a12 a13 a14 a15 a16 a17) P) : zp (zk_b18 x k) P := by
  obtain ⟨⟨a0, a1, a2, a3, a4, a5, a6, a7, a8, a9, a10, a11, a12, a13, a14, a15, a16, a17⟩, e, h⟩ := h
  subst e
  exact hk a0 a1 a2 a3 a4 a5 a6 a7 a8 a9 a10 a11 a12 a13 a14 a15 a16 a17 h
theorem zp_b19 {A0 A1 A2 A3 A4 A5 A6 A7 A8 A9 A10 A11 A12 A13 A14 A15 A16 A17 A18 : Type} {x : Option (A0 × A1 × A2 × A3 × A4 × A5 × A6 × A7 × A8 × A9 × A10 × A11 × A12 × A13 × A14 × A15 × A16 × A17 × A18)} {k : A0 → A1 → A2 → A3 → A4 → A5 → A6 → A7 → A8 → A9 → A10 → A11 → A12 → A13 → A14 → A15 → A16 → A17 → A18 → Option A} {Q : A0 × A1 × A2 × A3 × A4 × A5 × A6 × A7 × A8 × A9 × A10 × A11 × A12 × A13 × A14 × A15 × A16 × A17 × A18 → Prop} (h : zp x Q) (hk : ∀ a0 a1 a2 a3 a4 a5 a6 a7 a8 a9 a10 a11 a12 a13 a14 a15 a16 a17 a18, Q (a0, a1, a2, a3, a4, a5, a6, a7, a8, a9, a10, a11, a12, a13, a14, a15, a16, a17, a18) → zp (k a0 a1 a2 a3 a4 a5 a6 a7 a8 a9 a10 a11 a12 a13 a14 a15 a16 a17 a18) P) : zp (zk_b19 x k) P := by
  obtain ⟨⟨a0, a1, a2, a3, a4, a5, a6, a7, a8, a9, a10, a11, a12, a13, a14, a15, a16, a17, a18⟩, e, h⟩ := h
  subst e
  exact hk a0 a1 a2 a3 a4 a5 a6 a7 a8 a9 a10 a11 a12 a13 a14 a15 a16 a17 a18 h
theorem zp_b20 {A0 A1 A2 A3 A4 A5 A6 A7 A8 A9 A10 A11 A12 A13 A14 A15 A16 A17 A18 A19 : Type} {x : Option (A0 × A1 × A2 × A3 × A4 × A5 × A6 × A7 × A8 × A9 × A10 × A11 × A12 × A13 × A14 × A15 × A16 × A17 × A18 × A19)} {k : A0 → A1 → A2 → A3 → A4 → A5 → A6 → A7 → A8 → A9 → A10 → A11 → A12 → A13 → A14 → A15 → A16 → A17 → A18 → A19 → Option A} {Q : A0 × A1 × A2 × A3 × A4 × A5 × A6 × A7 × A8 × A9 × A10 × A11 × A12 × A13 × A14 × A15 × A16 × A17 × A18 × A19 → Prop} (h : zp x Q) (hk : ∀ a0 a1 a2 a3 a4 a5 a6 a7 a8 a9 a10 a11 a12 a13 a14 a15 a16 a17 a18 a19, Q (a0, a1, a2, a3, a4, a5, a6, a7, a8, a9, a10, a11, a12, a13, a14, a15, a16, a17, a18, a19) → zp (k a0 a1 a2 a3 a4 a5 a6 a7 a8 a9 a10 a11 a12 a13 a14 a15 a16 a17 a18 a19) P) : zp (zk_b20 x k) P := by
  obtain ⟨⟨a0, a1, a2, a3, a4, a5, a6, a7, a8, a9, a10, a11, a12, a13, a14, a15, a16, a17, a18, a19⟩, e, h⟩ := h
  subst e
  exact hk a0 a1 a2 a3 a4 a5 a6 a7 a8 a9 a10 a11 a12 a13 a14 a15 a16 a17 a18 a19 h
theorem zp_b21 {A0 A1 A2 A3 A4 A5 A6 A7 A8 A9 A10 A11 A12 A13 A14 A15 A16 A17 A18 A19 A20 : Type} {x : Option (A0 × A1 × A2 × A3 × A4 × A5 × A6 × A7 × A8 × A9 × A10 × A11 × A12 × A13 × A14 × A15 × A16 × A17 × A18 × A19 × A20)} {k : A0 → A1 → A2 → A3 → A4 → A5 → A6 → A7 → A8 → A9 → A10 → A11 → A12 → A13 → A14 → A15 → A16 → A17 → A18 → A19 → A20 → Option A} {Q : A0 × A1 × A2 × A3 × A4 × A5 × A6 × A7 × A8 × A9 × A10 × A11 × A12 × A13 × A14 × A15 × A16 × A17 × A18 × A19 × A20 → Prop} (h : zp x Q) (hk : ∀ a0 a1 a2 a3 a4 a5 a6 a7 a8 a9 a10 a11 a12 a13 a14 a15 a16 a17 a18 a19 a20, Q (a0, a1, a2, a3, a4, a5, a6, a7, a8, a9, a10, a11, a12, a13, a14, a15, a16, a17, a18, a19, a20) → zp (k a0 a1 a2 a3 a4 a5 a6 a7 a8 a9 a10 a11 a12 a13 a14 a15 a16 a17 a18 a19 a20) P) : zp (zk_b21 x k) P := by
  obtain ⟨⟨a0, a1, a2, a3, a4, a5, a6, a7, a8, a9, a10, a11, a12, a13, a14, a15, a16, a17, a18, a19, a20⟩, e, h⟩ := h
  subst e
  exact hk a0 a1 a2 a3 a4 a5 a6 a7 a8 a9 a10 a11 a12 a13 a14 a15 a16 a17 a18 a19 a20 h
theorem zp_b22 {A0 A1 A2 A3 A4 A5 A6 A7 A8 A9 A10 A11 A12 A13 A14 A15 A16 A17 A18 A19 A20 A21 : Type} {x : Option (A0 × A1 × A2 × A3 × A4 × A5 × A6 × A7 × A8 × A9 × A10 × A11 × A12 × A13 × A14 × A15 × A16 × A17 × A18 × A19 × A20 × A21)} {k : A0 → A1 → A2 → A3 → A4 → A5 → A6 → A7 → A8 → A9 → A10 → A11 → A12 → A13 → A14 → A15 → A16 → A17 → A18 → A19 → A20 → A21 → Option A} {Q : A0 × A1 × A2 × A3 × A4 × A5 × A6 × A7 × A8 × A9 × A10 × A11 × A12 × A13 × A14 × A15 × A16 × A17 × A18 × A19 × A20 × A21 → Prop} (h : zp x Q) (hk : ∀ a0 a1 a2 a3 a4 a5 a6 a7 a8 a9 a10 a11 a12 a13 a14 a15 a16 a17 a18 a19 a20 a21, Q (a0, a1, a2, a3, a4, a5, a6, a7, a8, a9, a10, a11, a12, a13, a14, a15, a16, a17, a18, a19, a20, a21) → zp (k a0 a1 a2 a3 a4 a5 a6 a7 a8 a9 a10 a11 a12 a13 a14 a15 a16 a17 a18 a19 a20 a21) P) : zp (zk_b22 x k) P := by
  obtain ⟨⟨a0, a1, a2, a3, a4, a5, a6, a7, a8, a9, a10, a11, a12, a13, a14, a15, a16, a17, a18, a19, a20, a21⟩, e, h⟩ := h
  subst e
  exact hk a0 a1 a2 a3 a4 a5 a6 a7 a8 a9 a10 a11 a12 a13 a14 a15 a16 a17 a18 a19 a20 a21 h
theorem zp_b23 {A0 A1 A2 A3 A4 A5 A6 A7 A8 A9 A10 A11 A12 A13 A14 A15 A16 A17 A18 A19 A20 A21 A22 : Type} {x : Option (A0 × A1 × A2 × A3 × A4 × A5 × A6 × A7 × A8 × A9 × A10 × A11 × A12 × A13 × A14 × A15 × A16 × A17 × A18 × A19 × A20 × A21 × A22)} {k : A0 → A1 → A2 → A3 → A4 → A5 → A6 → A7 → A8 → A9 → A10 → A11 → A12 → A13 → A14 → A15 → A16 → A17 → A18 → A19 → A20 → A21 → A22 → Option A} {Q : A0 × A1 × A2 × A3 × A4 × A5 × A6 × A7 × A8 × A9 × A10 × A11 × A12 × A13 × A14 × A15 × A16 × A17 × A18 × A19 × A20 × A21 × A22 → Prop} (h : zp x Q) (hk : ∀ a0 a1 a2 a3 a4 a5 a6 a7 a8 a9 a10 a11 a12 a13 a14 a15 a16 a17 a18 a19 a20 a21 a22, Q (a0, a1, a2, a3, a4, a5, a6, a7, a8, a9, a10, a11, a12, a13, a14, a15, a16, a17, a18, a19, a20, a21, a22) → zp (k a0 a1 a2 a3 a4 a5 a6 a7 a8 a9 a10 a11 a12 a13 a14 a15 a16 a17 a18 a19 a20 a21 a22) P) : zp (zk_b23 x k) P := by
  obtain ⟨⟨a0, a1, a2, a3, a4, a5, a6, a7, a8, a9, a10, a11, a12, a13, a14, a15, a16, a17, a18, a19, a20, a21, a22⟩, e, h⟩ := h
  subst e
  exact hk a0 a1 a2 a3 a4 a5 a6 a7 a8 a9 a10 a11 a12 a13 a14 a15 a16 a17 a18 a19 a20 a21 a22 h
end ZP
def st1 (a w : Int32) (e : Nat) : Option Nat := if a.toInt = 1 then some (e + 1) else if a.toInt = 2 then (if 0 ≤ w.toInt ∧ w.toInt ≤ 10 then some (e + 1) else none) else if a.toInt = 3 ∨ a.toInt = 4 then (if 1 ≤ e then some e else none) else (if 2 ≤ e then some (e - 1) else none)
def dp (a w : Nat → Int32) (b : Nat) : Nat → Option Nat
  | 0 => some 0
  | m + 1 => (dp a w b m).bind (st1 (a (b + m)) (w (b + m)))
def SG (a w : Nat → Int32) (p f e : Nat) : Prop := f ≤ e ∧ e ≤ 130 ∧ dp a w (130 * p + f) (e - f) ≠ none
def lE (le : Nat → Int32) (p l : Nat) : Nat := if l = 0 then 0 else (le (61 * p + l - 1)).toInt.toNat
def SEG (a w te le : Nat → Int32) (p l : Nat) : Prop := 0 ≤ (te (61 * p + l)).toInt ∧ 0 ≤ (le (61 * p + l)).toInt ∧ (lE le p l = (te (61 * p + l)).toInt.toNat ∨ SG a w p (lE le p l) (te (61 * p + l)).toInt.toNat) ∧ SG a w p (te (61 * p + l)).toInt.toNat (le (61 * p + l)).toInt.toNat
def LPa (a w lm te le : Nat → Int32) (p : Nat) : Prop := ∀ l, l < (lm p).toInt.toNat → SEG a w te le p l
def LW (act wi lm te le : Nat → Int32) : Prop := ∀ p, p < 32 → LPa act wi lm te le p
def LWx (act wi lm te le : Nat → Int32) (x : Int32) : Prop := ∀ p, p < 32 → p ≠ x.toInt.toNat → LPa act wi lm te le p
def LN (act wi lm te le : Nat → Int32) (L : Int32) : Prop := lE le 32 (lm 32).toInt.toNat = L.toInt.toNat ∧ LPa act wi lm te le 32
def AR (lo hi : Int) (a : Nat → Int32) : Prop := ∀ k, lo ≤ (a k).toInt ∧ (a k).toInt ≤ hi
theorem zp_letA {A : Type} {P : A → Prop} {lo hi : Int} {a : Nat → Int32} {i : Nat} {v : Int32} {k : (Nat → Int32) → Option A} (ha : AR lo hi a) (hv : lo ≤ v.toInt ∧ v.toInt ≤ hi) (h : ∀ f, AR lo hi f → f i = v → zp (k f) P) : zp (zk_let (upd a i v) k) P := by
  refine h _ (fun j => ?_) (by unfold upd; rw [if_pos rfl])
  unfold upd
  by_cases c : j = i
  · rw [if_pos c]; exact hv
  · rw [if_neg c]; exact ha j
def AQ (a : Nat → Int32) : Prop := ∀ k, (0 ≤ (a k).toInt ∧ (a k).toInt ≤ 61) ∧ (40 ≤ k → (a k).toInt ≤ 1)
theorem zp_letAQ {A : Type} {P : A → Prop} {a : Nat → Int32} {i : Nat} {v : Int32} {k : (Nat → Int32) → Option A} (ha : AQ a) (hv : 0 ≤ v.toInt ∧ v.toInt ≤ 61) (hw : 40 ≤ i → v.toInt ≤ 1) (h : ∀ f, AQ f → f i = v → zp (k f) P) : zp (zk_let (upd a i v) k) P := by
  refine h _ (fun j => ?_) (by unfold upd; rw [if_pos rfl])
  unfold upd
  by_cases c : j = i
  · rw [if_pos c, c]; exact ⟨hv, hw⟩
  · rw [if_neg c]; exact ha j
def SL (n : Int32) (a : Nat → Int32) : Prop := ∀ k, k < n.toInt.toNat → 0 ≤ (a k).toInt ∧ (a k).toInt ≤ 7
theorem zp_letSL {A : Type} {P : A → Prop} {n : Int32} {a : Nat → Int32} {i : Nat} {v : Int32} {k : (Nat → Int32) → Option A} (ha : SL n a) (hv : i < n.toInt.toNat → 0 ≤ v.toInt ∧ v.toInt ≤ 7) (h : ∀ f, SL n f → f i = v → zp (k f) P) : zp (zk_let (upd a i v) k) P := by
  refine h _ (fun j hj => ?_) (by unfold upd; rw [if_pos rfl])
  unfold upd
  by_cases c : j = i
  · rw [if_pos c]; exact hv (c ▸ hj)
  · rw [if_neg c]; exact ha j hj
theorem SL_up {n m : Int32} {a : Nat → Int32} (ha : SL n a) (hv : 0 ≤ (a n.toNatClampNeg).toInt ∧ (a n.toNatClampNeg).toInt ≤ 7) (hn : 0 ≤ n.toInt) (hm : m.toInt = n.toInt + 1) : SL m a := by
  intro k hk
  by_cases c : k = n.toInt.toNat
  · rw [c]; exact hv
  · exact ha k (by omega)
theorem zi_bm {e : Int} (h1 : -2147483648 ≤ e) (h2 : e < 2147483648) : Int.bmod e 4294967296 = e := Int.bmod_eq_of_le (by omega) (by omega)
theorem zi_bm2 {e : Int} (h1 : -2147483648 ≤ e) (h2 : e < 2147483648) : Int.bmod e (2 ^ 32) = e := Int.bmod_eq_of_le (by omega) (by omega)
theorem zs_dv100 (x : Int32) : 0 ≤ x.toInt → (x / 100).toInt = x.toInt / 100 := by
  intro h
  have h2 := Int32.toInt_lt x
  have e : (100 : Int32).toInt = 100 := by decide
  rw [Int32.toInt_div, e, Int.tdiv_eq_ediv_of_nonneg h]
  rw [Int.bmod_eq_of_le (by omega) (by omega)]
theorem zs_dv10 (x : Int32) : 0 ≤ x.toInt → (x / 10).toInt = x.toInt / 10 := by
  intro h
  have h2 := Int32.toInt_lt x
  have e : (10 : Int32).toInt = 10 := by decide
  rw [Int32.toInt_div, e, Int.tdiv_eq_ediv_of_nonneg h]
  rw [Int.bmod_eq_of_le (by omega) (by omega)]
theorem zi_bm64 {e : Int} (h1 : -9223372036854775808 ≤ e) (h2 : e < 9223372036854775808) : Int.bmod e (2 ^ 64) = e := Int.bmod_eq_of_le (by omega) (by omega)
theorem zi_bm8 {e : Int} (h1 : -128 ≤ e) (h2 : e < 128) : Int.bmod e (2 ^ 8) = e := Int.bmod_eq_of_le (by omega) (by omega)
theorem zl6_0 : (0 : Int64).toInt = 0 := by decide
theorem zl6_3 : (3 : Int64).toInt = 3 := by decide
theorem zi_cmp (a b : Int64) : ((lg_cmp a b).toInt < 0 ↔ a.toInt < b.toInt) := by
  have e1 : (-1 : Int32).toInt = -1 := by decide
  have e0 : (0 : Int32).toInt = 0 := by decide
  have e2 : (1 : Int32).toInt = 1 := by decide
  unfold lg_cmp
  by_cases h : a > b
  · rw [if_pos h, e2]
    have := Int64.lt_iff_toInt_lt.mp h
    omega
  · rw [if_neg h]
    have h3 : ¬ b.toInt < a.toInt := fun q => h (Int64.lt_iff_toInt_lt.mpr q)
    by_cases h2 : a = b
    · rw [if_pos h2, e0, h2]
      omega
    · rw [if_neg h2, e1]
      have h4 : ¬ a.toInt = b.toInt := fun q => h2 (Int64.toInt_inj.mp q)
      omega
theorem zn_byte {lo hi : Int} {v : Int32} (h : lo ≤ v.toInt ∧ v.toInt ≤ hi) (h2 : -128 ≤ v.toInt ∧ v.toInt ≤ 127) : lo ≤ (vp_nar .byte v).toInt ∧ (vp_nar .byte v).toInt ≤ hi := by
  have e : (vp_nar .byte v).toInt = v.toInt := by
    show (v.toInt8.toInt32).toInt = v.toInt
    rw [Int8.toInt_toInt32, Int32.toInt_toInt8]
    exact Int.bmod_eq_of_le (by omega) (by omega)
  rw [e]
  exact h
theorem zn_byteR (v : Int32) : -128 ≤ (vp_nar .byte v).toInt ∧ (vp_nar .byte v).toInt ≤ 127 := by
  show -128 ≤ (v.toInt8.toInt32).toInt ∧ (v.toInt8.toInt32).toInt ≤ 127
  rw [Int8.toInt_toInt32]
  have h1 := Int8.le_toInt v.toInt8
  have h2 := Int8.toInt_lt v.toInt8
  omega
theorem zi_and (a b : Int32) : 0 ≤ a.toInt → 0 ≤ (a &&& b).toInt ∧ (a &&& b).toInt ≤ a.toInt := by
  intro h
  have ha : a.toInt = (a.toBitVec.toNat : Int) := by
    have h1 := a.toBitVec.isLt
    show a.toBitVec.toInt = _
    rw [BitVec.toInt_eq_toNat_cond]
    have h2 : 0 ≤ a.toBitVec.toInt := h
    rw [BitVec.toInt_eq_toNat_cond] at h2
    split at h2
    · rw [if_pos (by assumption)]
    · omega
  have h3 : a.toBitVec.toNat < 2147483648 := by
    have := Int32.toInt_lt a
    omega
  have h4 : (a &&& b).toBitVec.toNat ≤ a.toBitVec.toNat := by
    rw [Int32.toBitVec_and, BitVec.toNat_and]
    exact Nat.and_le_left
  have h5 : (a &&& b).toInt = ((a &&& b).toBitVec.toNat : Int) := by
    show (a &&& b).toBitVec.toInt = _
    rw [BitVec.toInt_eq_toNat_cond, if_pos (by omega)]
  rw [h5, ha]
  omega
theorem zi_rng (x : Int32) : -2147483648 ≤ x.toInt ∧ x.toInt < 2147483648 := ⟨Int32.le_toInt x, Int32.toInt_lt x⟩
theorem zi_cl (x : Int32) : x.toNatClampNeg = x.toInt.toNat := rfl
theorem zl_m100 : (-100 : Int32).toInt = -100 := by decide
theorem zl_m20 : (-20 : Int32).toInt = -20 := by decide
theorem zl_m19 : (-19 : Int32).toInt = -19 := by decide
theorem zl_m18 : (-18 : Int32).toInt = -18 := by decide
theorem zl_m17 : (-17 : Int32).toInt = -17 := by decide
theorem zl_m16 : (-16 : Int32).toInt = -16 := by decide
theorem zl_m15 : (-15 : Int32).toInt = -15 := by decide
theorem zl_m14 : (-14 : Int32).toInt = -14 := by decide
theorem zl_m13 : (-13 : Int32).toInt = -13 := by decide
theorem zl_m12 : (-12 : Int32).toInt = -12 := by decide
theorem zl_m11 : (-11 : Int32).toInt = -11 := by decide
theorem zl_m10 : (-10 : Int32).toInt = -10 := by decide
theorem zl_m9 : (-9 : Int32).toInt = -9 := by decide
theorem zl_m8 : (-8 : Int32).toInt = -8 := by decide
theorem zl_m7 : (-7 : Int32).toInt = -7 := by decide
theorem zl_m6 : (-6 : Int32).toInt = -6 := by decide
theorem zl_m5 : (-5 : Int32).toInt = -5 := by decide
theorem zl_m4 : (-4 : Int32).toInt = -4 := by decide
theorem zl_m3 : (-3 : Int32).toInt = -3 := by decide
theorem zl_m2 : (-2 : Int32).toInt = -2 := by decide
theorem zl_m1 : (-1 : Int32).toInt = -1 := by decide
theorem zl_0 : (0 : Int32).toInt = 0 := by decide
theorem zl_1 : (1 : Int32).toInt = 1 := by decide
theorem zl_2 : (2 : Int32).toInt = 2 := by decide
theorem zl_3 : (3 : Int32).toInt = 3 := by decide
theorem zl_4 : (4 : Int32).toInt = 4 := by decide
theorem zl_5 : (5 : Int32).toInt = 5 := by decide
theorem zl_6 : (6 : Int32).toInt = 6 := by decide
theorem zl_7 : (7 : Int32).toInt = 7 := by decide
theorem zl_8 : (8 : Int32).toInt = 8 := by decide
theorem zl_9 : (9 : Int32).toInt = 9 := by decide
theorem zl_10 : (10 : Int32).toInt = 10 := by decide
theorem zl_11 : (11 : Int32).toInt = 11 := by decide
theorem zl_12 : (12 : Int32).toInt = 12 := by decide
theorem zl_13 : (13 : Int32).toInt = 13 := by decide
theorem zl_14 : (14 : Int32).toInt = 14 := by decide
theorem zl_15 : (15 : Int32).toInt = 15 := by decide
theorem zl_16 : (16 : Int32).toInt = 16 := by decide
theorem zl_17 : (17 : Int32).toInt = 17 := by decide
theorem zl_18 : (18 : Int32).toInt = 18 := by decide
theorem zl_19 : (19 : Int32).toInt = 19 := by decide
theorem zl_20 : (20 : Int32).toInt = 20 := by decide
theorem zl_21 : (21 : Int32).toInt = 21 := by decide
theorem zl_22 : (22 : Int32).toInt = 22 := by decide
theorem zl_23 : (23 : Int32).toInt = 23 := by decide
theorem zl_24 : (24 : Int32).toInt = 24 := by decide
theorem zl_25 : (25 : Int32).toInt = 25 := by decide
theorem zl_26 : (26 : Int32).toInt = 26 := by decide
theorem zl_27 : (27 : Int32).toInt = 27 := by decide
theorem zl_28 : (28 : Int32).toInt = 28 := by decide
theorem zl_29 : (29 : Int32).toInt = 29 := by decide
theorem zl_30 : (30 : Int32).toInt = 30 := by decide
theorem zl_31 : (31 : Int32).toInt = 31 := by decide
theorem zl_32 : (32 : Int32).toInt = 32 := by decide
theorem zl_33 : (33 : Int32).toInt = 33 := by decide
theorem zl_34 : (34 : Int32).toInt = 34 := by decide
theorem zl_35 : (35 : Int32).toInt = 35 := by decide
theorem zl_36 : (36 : Int32).toInt = 36 := by decide
theorem zl_37 : (37 : Int32).toInt = 37 := by decide
theorem zl_38 : (38 : Int32).toInt = 38 := by decide
theorem zl_39 : (39 : Int32).toInt = 39 := by decide
theorem zl_40 : (40 : Int32).toInt = 40 := by decide
theorem zl_41 : (41 : Int32).toInt = 41 := by decide
theorem zl_42 : (42 : Int32).toInt = 42 := by decide
theorem zl_43 : (43 : Int32).toInt = 43 := by decide
theorem zl_44 : (44 : Int32).toInt = 44 := by decide
theorem zl_45 : (45 : Int32).toInt = 45 := by decide
theorem zl_46 : (46 : Int32).toInt = 46 := by decide
theorem zl_47 : (47 : Int32).toInt = 47 := by decide
theorem zl_48 : (48 : Int32).toInt = 48 := by decide
theorem zl_49 : (49 : Int32).toInt = 49 := by decide
theorem zl_50 : (50 : Int32).toInt = 50 := by decide
theorem zl_51 : (51 : Int32).toInt = 51 := by decide
theorem zl_52 : (52 : Int32).toInt = 52 := by decide
theorem zl_53 : (53 : Int32).toInt = 53 := by decide
theorem zl_54 : (54 : Int32).toInt = 54 := by decide
theorem zl_55 : (55 : Int32).toInt = 55 := by decide
theorem zl_56 : (56 : Int32).toInt = 56 := by decide
theorem zl_57 : (57 : Int32).toInt = 57 := by decide
theorem zl_58 : (58 : Int32).toInt = 58 := by decide
theorem zl_59 : (59 : Int32).toInt = 59 := by decide
theorem zl_60 : (60 : Int32).toInt = 60 := by decide
theorem zl_61 : (61 : Int32).toInt = 61 := by decide
theorem zl_62 : (62 : Int32).toInt = 62 := by decide
theorem zl_63 : (63 : Int32).toInt = 63 := by decide
theorem zl_64 : (64 : Int32).toInt = 64 := by decide
theorem zl_70 : (70 : Int32).toInt = 70 := by decide
theorem zl_71 : (71 : Int32).toInt = 71 := by decide
theorem zl_81 : (81 : Int32).toInt = 81 := by decide
theorem zl_97 : (97 : Int32).toInt = 97 := by decide
theorem zl_98 : (98 : Int32).toInt = 98 := by decide
theorem zl_99 : (99 : Int32).toInt = 99 := by decide
theorem zl_100 : (100 : Int32).toInt = 100 := by decide
theorem zl_101 : (101 : Int32).toInt = 101 := by decide
theorem zl_102 : (102 : Int32).toInt = 102 := by decide
theorem zl_103 : (103 : Int32).toInt = 103 := by decide
theorem zl_104 : (104 : Int32).toInt = 104 := by decide
theorem zl_105 : (105 : Int32).toInt = 105 := by decide
theorem zl_106 : (106 : Int32).toInt = 106 := by decide
theorem zl_107 : (107 : Int32).toInt = 107 := by decide
theorem zl_108 : (108 : Int32).toInt = 108 := by decide
theorem zl_109 : (109 : Int32).toInt = 109 := by decide
theorem zl_110 : (110 : Int32).toInt = 110 := by decide
theorem zl_111 : (111 : Int32).toInt = 111 := by decide
theorem zl_112 : (112 : Int32).toInt = 112 := by decide
theorem zl_113 : (113 : Int32).toInt = 113 := by decide
theorem zl_114 : (114 : Int32).toInt = 114 := by decide
theorem zl_115 : (115 : Int32).toInt = 115 := by decide
theorem zl_116 : (116 : Int32).toInt = 116 := by decide
theorem zl_117 : (117 : Int32).toInt = 117 := by decide
theorem zl_118 : (118 : Int32).toInt = 118 := by decide
theorem zl_119 : (119 : Int32).toInt = 119 := by decide
theorem zl_120 : (120 : Int32).toInt = 120 := by decide
theorem zl_124 : (124 : Int32).toInt = 124 := by decide
theorem zl_130 : (130 : Int32).toInt = 130 := by decide
theorem zl_256 : (256 : Int32).toInt = 256 := by decide
theorem zl_1952 : (1952 : Int32).toInt = 1952 := by decide
theorem zl_4160 : (4160 : Int32).toInt = 4160 := by decide
theorem zl_5120 : (5120 : Int32).toInt = 5120 := by decide
theorem zl_9999 : (9999 : Int32).toInt = 9999 := by decide
theorem zl_10000 : (10000 : Int32).toInt = 10000 := by decide

theorem dp_ext {a w a' w' : Nat → Int32} {b b' : Nat} : ∀ m : Nat, (∀ i, i < m → a' (b' + i) = a (b + i) ∧ w' (b' + i) = w (b + i)) → dp a' w' b' m = dp a w b m
  | 0, _ => rfl
  | m + 1, h => by
    have h1 := dp_ext m (fun i hi => h i (by omega))
    have h2 := h m (by omega)
    show (dp a' w' b' m).bind _ = (dp a w b m).bind _
    rw [h1, h2.1, h2.2]
theorem dp_pre {a w : Nat → Int32} {b : Nat} : ∀ (m i : Nat), i ≤ m → dp a w b m ≠ none → dp a w b i ≠ none
  | 0, i, hi, h => by
    have e : i = 0 := by omega
    subst e
    exact h
  | m + 1, i, hi, h => by
    by_cases c : i = m + 1
    · subst c
      exact h
    · refine dp_pre m i (by omega) (fun e => h ?_)
      show (dp a w b m).bind _ = none
      rw [e]
      rfl
theorem st1_le {a w : Int32} {e r : Nat} (h : st1 a w e = some r) : r ≤ e + 1 := by
  unfold st1 at h
  split at h
  · injection h with h
    omega
  · split at h
    · split at h
      · injection h with h
        omega
      · cases h
    · split at h
      · split at h
        · injection h with h
          omega
        · cases h
      · split at h
        · injection h with h
          omega
        · cases h
theorem dp_le {a w : Nat → Int32} {b : Nat} : ∀ (m e : Nat), dp a w b m = some e → e ≤ m
  | 0, e, h => by
    injection h with h
    omega
  | m + 1, e, h => by
    obtain ⟨d, h1, h2⟩ := Option.bind_eq_some_iff.mp (show (dp a w b m).bind _ = some e from h)
    have h3 := dp_le m d h1
    have h4 := st1_le h2
    omega
def WK (a w : Nat → Int32) (p e n k : Int32) : Prop := ∃ f i m : Nat, i ≤ m ∧ f + m ≤ 130 ∧ 0 ≤ p.toInt ∧ p.toInt ≤ 31 ∧ k.toInt = 130 * p.toInt + (f : Int) + (i : Int) ∧ e.toInt = (f : Int) + (m : Int) ∧ 0 ≤ n.toInt ∧ dp a w (130 * p.toInt.toNat + f) i = some n.toInt.toNat ∧ dp a w (130 * p.toInt.toNat + f) m ≠ none
def WP (a w : Nat → Int32) (p f e : Int32) : Prop := 0 ≤ p.toInt ∧ p.toInt ≤ 31 ∧ 0 ≤ f.toInt ∧ f.toInt ≤ e.toInt ∧ e.toInt ≤ 130 ∧ dp a w (130 * p.toInt.toNat + f.toInt.toNat) (e.toInt.toNat - f.toInt.toNat) ≠ none
theorem WK_0 {a w : Nat → Int32} {p f e n v : Int32} (h : WP a w p f e) (hn : n.toInt = 0) (hv : v.toInt = 130 * p.toInt + f.toInt) : WK a w p e n v := by
  obtain ⟨h1, h2, h3, h4, h5, h6⟩ := h
  exact ⟨f.toInt.toNat, 0, e.toInt.toNat - f.toInt.toNat, by omega, by omega, h1, h2, by omega, by omega, by omega, by rw [hn]; rfl, h6⟩
theorem WK_in {a w : Nat → Int32} {p e n k : Int32} (h : WK a w p e n k) : 0 ≤ n.toInt ∧ n.toInt ≤ 130 ∧ 0 ≤ k.toInt ∧ k.toInt ≤ 130 * p.toInt + e.toInt ∧ 0 ≤ p.toInt ∧ p.toInt ≤ 31 ∧ 0 ≤ e.toInt ∧ e.toInt ≤ 130 ∧ (k.toInt < 130 * p.toInt + e.toInt → n.toInt ≤ 129 ∧ ((a k.toInt.toNat).toInt = 2 → 0 ≤ (w k.toInt.toNat).toInt ∧ (w k.toInt.toNat).toInt ≤ 10) ∧ (((a k.toInt.toNat).toInt = 3 ∨ (a k.toInt.toNat).toInt = 4) → 1 ≤ n.toInt) ∧ (¬ (a k.toInt.toNat).toInt = 1 → ¬ (a k.toInt.toNat).toInt = 2 → ¬ (a k.toInt.toNat).toInt = 3 → ¬ (a k.toInt.toNat).toInt = 4 → 2 ≤ n.toInt)) := by
  obtain ⟨f, i, m, him, hm, hp0, hp1, hk0, he, hn, hd, hD⟩ := h
  have hle := dp_le _ _ hd
  refine ⟨hn, by omega, by omega, by omega, hp0, hp1, by omega, by omega, fun hk => ?_⟩
  have hi : i < m := by omega
  have hx : k.toInt.toNat = 130 * p.toInt.toNat + f + i := by omega
  have hS : dp a w (130 * p.toInt.toNat + f) (i + 1) ≠ none := dp_pre m (i + 1) (by omega) hD
  have hS2 : dp a w (130 * p.toInt.toNat + f) (i + 1) = st1 (a k.toInt.toNat) (w k.toInt.toNat) n.toInt.toNat := by
    show (dp a w _ i).bind _ = _
    rw [hd, hx]
    rfl
  rw [hS2] at hS
  unfold st1 at hS
  refine ⟨by omega, fun c => ?_, fun c => ?_, fun c1 c2 c3 c4 => ?_⟩
  · rw [if_neg (by omega), if_pos c] at hS
    by_cases q : 0 ≤ (w k.toInt.toNat).toInt ∧ (w k.toInt.toNat).toInt ≤ 10
    · exact q
    · rw [if_neg q] at hS
      exact absurd rfl hS
  · rw [if_neg (by omega), if_neg (by omega), if_pos c] at hS
    by_cases q : 1 ≤ n.toInt.toNat
    · omega
    · rw [if_neg q] at hS
      exact absurd rfl hS
  · rw [if_neg c1, if_neg c2, if_neg (by omega)] at hS
    by_cases q : 2 ≤ n.toInt.toNat
    · omega
    · rw [if_neg q] at hS
      exact absurd rfl hS
theorem WK_nx {a w : Nat → Int32} {p e n k : Int32} (h : WK a w p e n k) (hk : k.toInt < 130 * p.toInt + e.toInt) {n' k' : Int32} (hk' : k'.toInt = k.toInt + 1) (h1 : ((a k.toInt.toNat).toInt = 1 ∨ (a k.toInt.toNat).toInt = 2) → n'.toInt = n.toInt + 1) (h2 : ((a k.toInt.toNat).toInt = 3 ∨ (a k.toInt.toNat).toInt = 4) → n'.toInt = n.toInt) (h3 : ¬ (a k.toInt.toNat).toInt = 1 → ¬ (a k.toInt.toNat).toInt = 2 → ¬ (a k.toInt.toNat).toInt = 3 → ¬ (a k.toInt.toNat).toInt = 4 → n'.toInt = n.toInt - 1) : WK a w p e n' k' := by
  have hin := (WK_in h).2.2.2.2.2.2.2.2 hk
  obtain ⟨f, i, m, him, hm, hp0, hp1, hk0, he, hn, hd, hD⟩ := h
  have hi : i < m := by omega
  have hx : k.toInt.toNat = 130 * p.toInt.toNat + f + i := by omega
  have hS2 : dp a w (130 * p.toInt.toNat + f) (i + 1) = st1 (a k.toInt.toNat) (w k.toInt.toNat) n.toInt.toNat := by
    show (dp a w _ i).bind _ = _
    rw [hd, hx]
    rfl
  have key : 0 ≤ n'.toInt ∧ st1 (a k.toInt.toNat) (w k.toInt.toNat) n.toInt.toNat = some n'.toInt.toNat := by
    unfold st1
    by_cases c1 : (a k.toInt.toNat).toInt = 1
    · have g := h1 (Or.inl c1)
      rw [if_pos c1]
      exact ⟨by omega, congrArg some (by omega)⟩
    · rw [if_neg c1]
      by_cases c2 : (a k.toInt.toNat).toInt = 2
      · have g := h1 (Or.inr c2)
        rw [if_pos c2, if_pos (hin.2.1 c2)]
        exact ⟨by omega, congrArg some (by omega)⟩
      · rw [if_neg c2]
        by_cases c3 : (a k.toInt.toNat).toInt = 3 ∨ (a k.toInt.toNat).toInt = 4
        · have g := h2 c3
          have g2 := hin.2.2.1 c3
          rw [if_pos c3, if_pos (by omega)]
          exact ⟨by omega, congrArg some (by omega)⟩
        · have g := h3 c1 c2 (fun z => c3 (Or.inl z)) (fun z => c3 (Or.inr z))
          have g2 := hin.2.2.2 c1 c2 (fun z => c3 (Or.inl z)) (fun z => c3 (Or.inr z))
          rw [if_neg c3, if_pos (by omega)]
          exact ⟨by omega, congrArg some (by omega)⟩
  exact ⟨f, i + 1, m, by omega, hm, hp0, hp1, by omega, he, key.1, by rw [hS2]; exact key.2, hD⟩
def GV (le : Nat → Int32) (p f l : Int32) : Prop := 0 ≤ p.toInt ∧ p.toInt ≤ 31 ∧ 61 * p.toInt ≤ l.toInt ∧ 0 ≤ f.toInt ∧ f.toInt.toNat = lE le p.toInt.toNat (l.toInt - 61 * p.toInt).toNat
theorem GV_0 {le : Nat → Int32} {p f l : Int32} (h1 : 0 ≤ p.toInt ∧ p.toInt ≤ 31) (h2 : f.toInt = 0) (h3 : l.toInt = 61 * p.toInt) : GV le p f l := by
  refine ⟨h1.1, h1.2, by omega, by omega, ?_⟩
  have e : (l.toInt - 61 * p.toInt).toNat = 0 := by omega
  rw [e, h2]
  rfl
theorem GV_seg {a w lm te le : Nat → Int32} {p f l : Int32} (hW : LW a w lm te le) (h : GV le p f l) (hl : l.toInt < 61 * p.toInt + (lm p.toInt.toNat).toInt) : (¬ (te l.toInt.toNat).toInt = f.toInt → WP a w p f (te l.toInt.toNat)) ∧ WP a w p (te l.toInt.toNat) (le l.toInt.toNat) ∧ (∀ f' l' : Int32, f'.toInt = (le l.toInt.toNat).toInt → l'.toInt = l.toInt + 1 → GV le p f' l') := by
  obtain ⟨h1, h2, h3, h4, h5⟩ := h
  have hs := hW p.toInt.toNat (by omega) (l.toInt - 61 * p.toInt).toNat (by omega)
  have e : 61 * p.toInt.toNat + (l.toInt - 61 * p.toInt).toNat = l.toInt.toNat := by omega
  unfold SEG at hs
  rw [e, ← h5] at hs
  obtain ⟨g1, g2, g3, g4⟩ := hs
  obtain ⟨s1, s2, s3⟩ := g4
  refine ⟨fun hne => ?_, ⟨h1, h2, g1, by omega, by omega, s3⟩, fun f' l' e1 e2 => ⟨h1, h2, by omega, by omega, ?_⟩⟩
  · rcases g3 with g3 | g3
    · exact absurd (by omega) hne
    · obtain ⟨t1, t2, t3⟩ := g3
      exact ⟨h1, h2, h4, by omega, by omega, t3⟩
  · have e3 : (l'.toInt - 61 * p.toInt).toNat = (l.toInt - 61 * p.toInt).toNat + 1 := by omega
    unfold lE
    rw [e3, if_neg (by omega), e1]
    have e4 : 61 * p.toInt.toNat + ((l.toInt - 61 * p.toInt).toNat + 1) - 1 = l.toInt.toNat := by omega
    rw [e4]
def FRM (a w a' w' : Nat → Int32) (L : Int32) : Prop := ∀ i, i < 4160 + L.toInt.toNat → a' i = a i ∧ w' i = w i
def BY (a : Nat → Int32) (f e : Nat) : Prop := ∀ i, f ≤ i → i < e → -128 ≤ (a (4160 + i)).toInt ∧ (a (4160 + i)).toInt ≤ 127
def VKB (a w : Nat → Int32) (b : Nat) (L : Int32) (k : Nat) : Prop := b ≤ L.toInt.toNat ∧ BY a b L.toInt.toNat ∧ dp a w (4160 + b) (L.toInt.toNat - b) = some k
def VCB (a w a' w' : Nat → Int32) (L L' : Int32) (i o : Nat) : Prop := ∀ b k, VKB a w b L (k + i) → VKB a' w' b L' (k + o)
theorem FRM_rf {a w : Nat → Int32} {L : Int32} : FRM a w a w L := fun _ _ => ⟨rfl, rfl⟩
theorem FRM_tr {a w a1 w1 a2 w2 : Nat → Int32} {L L1 : Int32} (h1 : FRM a w a1 w1 L) (h2 : FRM a1 w1 a2 w2 L1) (h : L.toInt ≤ L1.toInt) : FRM a w a2 w2 L := fun i hi => by
  have q1 := h1 i hi
  have q2 := h2 i (by omega)
  exact ⟨q2.1.trans q1.1, q2.2.trans q1.2⟩
theorem VKB_0 {a w : Nat → Int32} {L : Int32} : VKB a w L.toInt.toNat L 0 := by
  refine ⟨Nat.le_refl _, fun i h1 h2 => absurd h1 (by omega), ?_⟩
  rw [Nat.sub_self]
  rfl
theorem zn_byteE {v x : Int32} (e : v = x.toInt8.toInt32) (h2 : -128 ≤ x.toInt ∧ x.toInt ≤ 127) : (vp_nar .byte v).toInt = x.toInt := by
  have e0 : v.toInt = x.toInt := by
    rw [e, Int8.toInt_toInt32, Int32.toInt_toInt8]
    exact Int.bmod_eq_of_le (by omega) (by omega)
  show (v.toInt8.toInt32).toInt = x.toInt
  rw [Int8.toInt_toInt32, Int32.toInt_toInt8, e0]
  exact Int.bmod_eq_of_le (by omega) (by omega)
theorem zn_byteI {v : Int32} (h2 : -128 ≤ v.toInt ∧ v.toInt ≤ 127) : vp_nar .byte v = v := by
  apply Int32.toInt_inj.mp
  show (v.toInt8.toInt32).toInt = v.toInt
  rw [Int8.toInt_toInt32, Int32.toInt_toInt8]
  exact Int.bmod_eq_of_le (by omega) (by omega)
theorem zn_shortI {v : Int32} (h2 : -32768 ≤ v.toInt ∧ v.toInt ≤ 32767) : vp_nar .short v = v := by
  apply Int32.toInt_inj.mp
  show (v.toInt16.toInt32).toInt = v.toInt
  rw [Int16.toInt_toInt32, Int32.toInt_toInt16]
  exact Int.bmod_eq_of_le (by omega) (by omega)
theorem zn_short0 {v : Int32} (h2 : -32768 ≤ v.toInt ∧ v.toInt ≤ 32767) : v.toInt16.toInt32 = v := by
  apply Int32.toInt_inj.mp
  rw [Int16.toInt_toInt32, Int32.toInt_toInt16]
  exact Int.bmod_eq_of_le (by omega) (by omega)
theorem lay_q {a w f1 f2 : Nat → Int32} {L L2 x1 v1 x2 : Int32} (i j : Nat) (hL0 : 0 ≤ L.toInt) (hx : 1 ≤ x1.toInt ∧ x1.toInt ≤ 127) (e1 : v1 = x1.toInt8.toInt32) (hi : i = 4160 + L.toInt.toNat) (hj : j = i) (ef1 : f1 = upd a i (vp_nar .byte v1)) (ef2 : f2 = upd w j x2) (eL : L2.toInt = L.toInt + 1) : FRM a w f1 f2 L ∧ ((x1.toInt = 1 ∨ (x1.toInt = 2 ∧ 0 ≤ x2.toInt ∧ x2.toInt ≤ 10)) → VCB a w f1 f2 L L2 0 1) ∧ ((x1.toInt = 3 ∨ x1.toInt = 4) → VCB a w f1 f2 L L2 1 1) ∧ (5 ≤ x1.toInt → VCB a w f1 f2 L L2 2 1) := by
  subst hj
  have hv := zn_byteE e1 (x := x1) (by omega)
  have hF : FRM a w f1 f2 L := fun q hq => by
    have hne : ¬ q = j := by omega
    rw [ef1, ef2]
    unfold upd
    rw [if_neg hne, if_neg hne]
    exact ⟨rfl, rfl⟩
  have a1 : (f1 j).toInt = x1.toInt := by
    rw [ef1]
    unfold upd
    rw [if_pos rfl, hv]
  have a2 : f2 j = x2 := by
    rw [ef2]
    unfold upd
    rw [if_pos rfl]
  have key : ∀ (b n r : Nat), VKB a w b L n → st1 (f1 j) (f2 j) n = some r → VKB f1 f2 b L2 r := by
    intro b n r h hs
    obtain ⟨h1, h2, h3⟩ := h
    refine ⟨by omega, fun q q1 q2 => ?_, ?_⟩
    · by_cases c : q = L.toInt.toNat
      · have e : 4160 + q = j := by omega
        rw [e, a1]
        omega
      · have := hF (4160 + q) (by omega)
        rw [this.1]
        exact h2 q q1 (by omega)
    · have e : L2.toInt.toNat - b = (L.toInt.toNat - b) + 1 := by omega
      rw [e]
      show (dp f1 f2 (4160 + b) (L.toInt.toNat - b)).bind _ = _
      rw [dp_ext (L.toInt.toNat - b) (fun q hq => hF (4160 + b + q) (by omega)), h3]
      have e2 : 4160 + b + (L.toInt.toNat - b) = j := by omega
      show st1 (f1 (4160 + b + (L.toInt.toNat - b))) (f2 (4160 + b + (L.toInt.toNat - b))) n = some r
      rw [e2]
      exact hs
  refine ⟨hF, fun c b k h => key b _ _ h ?_, fun c b k h => key b _ _ h ?_, fun c b k h => key b _ _ h ?_⟩
  · unfold st1
    rw [a1, a2]
    rcases c with c | c
    · rw [if_pos c]
    · rw [if_neg (by omega), if_pos c.1, if_pos c.2]
  · unfold st1
    rw [a1, if_neg (by omega), if_neg (by omega), if_pos c, if_pos (by omega)]
  · unfold st1
    rw [a1, if_neg (by omega), if_neg (by omega), if_neg (by omega), if_pos (by omega)]
    exact congrArg some (by omega)
theorem SG_ext {a w a' w' : Nat → Int32} {p p' f e : Nat} (h : SG a w p f e) (hx : ∀ i, f ≤ i → i < e → a' (130 * p' + i) = a (130 * p + i) ∧ w' (130 * p' + i) = w (130 * p + i)) : SG a' w' p' f e := by
  obtain ⟨h1, h2, h3⟩ := h
  refine ⟨h1, h2, ?_⟩
  rw [dp_ext (e - f) (a := a) (w := w) (b := 130 * p + f)]
  · exact h3
  · intro i hi
    have q := hx (f + i) (by omega) (by omega)
    rw [Nat.add_assoc, Nat.add_assoc]
    exact q
/-- a row of lines at one place, read off another -/
theorem LP_ext {a w lm te le a' w' lm' te' le' : Nat → Int32} {p p' n : Nat} (h : LPa a w lm te le p) (hn : (lm p).toInt.toNat = n) (hlm : (lm' p').toInt.toNat = n) (hL : ∀ l, l < n → ∀ i, i < (le (61 * p + l)).toInt.toNat → a' (130 * p' + i) = a (130 * p + i) ∧ w' (130 * p' + i) = w (130 * p + i)) (hT : ∀ l, l < n → te' (61 * p' + l) = te (61 * p + l) ∧ le' (61 * p' + l) = le (61 * p + l)) : LPa a' w' lm' te' le' p' := by
  intro l hl
  have hl2 : l < n := by omega
  have hs := h l (by omega)
  obtain ⟨g1, g2, g3, g4⟩ := hs
  have t := hT l hl2
  have eE : lE le' p' l = lE le p l := by
    unfold lE
    by_cases c : l = 0
    · rw [if_pos c, if_pos c]
    · rw [if_neg c, if_neg c]
      have t2 := hT (l - 1) (by omega)
      have e1 : 61 * p' + l - 1 = 61 * p' + (l - 1) := by omega
      have e2 : 61 * p + l - 1 = 61 * p + (l - 1) := by omega
      rw [e1, e2, t2.2]
  unfold SEG
  rw [t.1, t.2, eE]
  refine ⟨g1, g2, ?_, SG_ext g4 (fun i _ hi => hL l hl2 i hi)⟩
  rcases g3 with g3 | g3
  · exact Or.inl g3
  · exact Or.inr (SG_ext g3 (fun i _ hi => hL l hl2 i (by have := g4.1; omega)))
theorem LP_keep {a w lm te le a' w' lm' te' le' : Nat → Int32} {p : Nat} (h : LPa a w lm te le p) (hm : (lm p).toInt.toNat ≤ 61) (hlm : lm' p = lm p) (hA : ∀ i, i < 130 → a' (130 * p + i) = a (130 * p + i) ∧ w' (130 * p + i) = w (130 * p + i)) (hT : ∀ l, l < 61 → te' (61 * p + l) = te (61 * p + l) ∧ le' (61 * p + l) = le (61 * p + l)) : LPa a' w' lm' te' le' p :=
  LP_ext (n := (lm p).toInt.toNat) h rfl (by rw [hlm]) (fun l hl i hi => hA i (by have := (h l hl).2.2.2.2.1; omega)) (fun l hl => hT l (by omega))
theorem upd_o {a f : Nat → Int32} {i : Nat} {v : Int32} (e : f = upd a i v) {j : Nat} (h : ¬ j = i) : f j = a j := by
  rw [e]
  unfold upd
  rw [if_neg h]
theorem upd_s {a f : Nat → Int32} {i : Nat} {v : Int32} (e : f = upd a i v) {j : Nat} (h : j = i) : f j = v := by
  rw [e]
  unfold upd
  rw [if_pos h]
def LNB (a w lm te le : Nat → Int32) (L : Int32) : Prop := LN a w lm te le L ∧ BY a 0 L.toInt.toNat ∧ (∀ l, l < (lm 32).toInt.toNat → (le (1952 + l)).toInt.toNat ≤ L.toInt.toNat)
theorem LNB_add {a w lm te le a' w' lm' te' le' : Nat → Int32} {L T L' : Int32} (h : LNB a w lm te le L) (n : Nat) (hn : (lm 32).toInt = (n : Int)) (hn6 : n ≤ 60) (hfr : FRM a w a' w' L) (o1 : 0 ≤ L.toInt) (o2 : L.toInt ≤ T.toInt) (o3 : T.toInt ≤ L'.toInt) (o4 : L'.toInt ≤ 130) (hT : T.toInt = L.toInt ∨ dp a' w' (4160 + L.toInt.toNat) (T.toInt.toNat - L.toInt.toNat) ≠ none) (hd : dp a' w' (4160 + T.toInt.toNat) (L'.toInt.toNat - T.toInt.toNat) ≠ none) (hb : BY a' L.toInt.toNat L'.toInt.toNat) (hlm : (lm' 32).toInt = (n : Int) + 1) (hte : ∀ i, ¬ i = 1952 + n → te' i = te i) (hteT : (te' (1952 + n)).toInt = T.toInt) (hle : ∀ i, ¬ i = 1952 + n → le' i = le i) (hleL : (le' (1952 + n)).toInt = L'.toInt) : LNB a' w' lm' te' le' L' := by
  obtain ⟨⟨h1, h2⟩, h3, h4⟩ := h
  have hnn : (lm 32).toInt.toNat = n := by omega
  have hnn' : (lm' 32).toInt.toNat = n + 1 := by omega
  rw [hnn] at h1 h4
  refine ⟨⟨?_, fun l hl => ?_⟩, fun i q1 q2 => ?_, fun l hl => ?_⟩
  · rw [hnn']
    unfold lE
    rw [if_neg (by omega)]
    show (le' (1952 + n)).toInt.toNat = _
    rw [hleL]
  · by_cases c : l = n
    · subst c
      have eE : lE le' 32 l = L.toInt.toNat := by
        rw [← h1]
        unfold lE
        by_cases c0 : l = 0
        · rw [if_pos c0, if_pos c0]
        · rw [if_neg c0, if_neg c0]
          rw [hle (61 * 32 + l - 1) (by omega)]
      show SEG a' w' te' le' 32 l
      have e1 : (te' (61 * 32 + l)).toInt = T.toInt := hteT
      have e2 : (le' (61 * 32 + l)).toInt = L'.toInt := hleL
      unfold SEG
      rw [e1, e2, eE]
      refine ⟨by omega, by omega, ?_, ⟨by omega, by omega, hd⟩⟩
      rcases hT with hT | hT
      · exact Or.inl (by omega)
      · exact Or.inr ⟨by omega, by omega, hT⟩
    · have hl2 : l < n := by omega
      refine LP_ext (p := 32) (p' := 32) (n := n) (lm := lm) (lm' := lm) h2 hnn hnn (fun l2 q i hi => hfr _ ?_) (fun l2 q => ⟨hte _ (by omega), hle _ (by omega)⟩) l (by omega)
      have := h4 l2 q
      have e : (le (61 * 32 + l2)).toInt.toNat = (le (1952 + l2)).toInt.toNat := rfl
      omega
  · by_cases c : i < L.toInt.toNat
    · rw [(hfr (4160 + i) (by omega)).1]
      exact h3 i q1 c
    · exact hb i (by omega) q2
  · by_cases c : l = n
    · subst c
      rw [hleL]
      exact Nat.le_refl _
    · rw [hle (1952 + l) (by omega)]
      have := h4 l (by omega)
      omega
theorem LW_line {a w lm te le a' w' lm' te' le' : Nat → Int32} {L : Int32} (h : LW a w lm te le) (hb : AR 0 61 lm) (hfr : FRM a w a' w' L) (hlm : ∀ p, ¬ p = 32 → lm' p = lm p) (n : Nat) (hte : ∀ i, ¬ i = 1952 + n → te' i = te i) (hle : ∀ i, ¬ i = 1952 + n → le' i = le i) : LW a' w' lm' te' le' := fun p hp =>
  LP_keep (h p hp) (by have := hb p; omega) (hlm p (by omega)) (fun i hi => hfr _ (by omega)) (fun l hl => ⟨hte _ (by omega), hle _ (by omega)⟩)
theorem zp_letE {A : Type} {P : A → Prop} {B : Type} {a : B} {k : B → Option A} (h : ∀ v, v = a → zp (k v) P) : zp (zk_let a k) P := h a rfl
theorem zp_letAE {A : Type} {P : A → Prop} {lo hi : Int} {a : Nat → Int32} {i : Nat} {v : Int32} {k : (Nat → Int32) → Option A} (ha : AR lo hi a) (hv : lo ≤ v.toInt ∧ v.toInt ≤ hi) (h : ∀ f, AR lo hi f → f = upd a i v → zp (k f) P) : zp (zk_let (upd a i v) k) P := by
  refine h _ (fun j => ?_) rfl
  unfold upd
  by_cases c : j = i
  · rw [if_pos c]
    exact hv
  · rw [if_neg c]
    exact ha j
theorem LWx_of {a w lm te le : Nat → Int32} {x : Int32} (h : LW a w lm te le) : LWx a w lm te le x := fun p hp _ => h p hp
def CA (a w : Nat → Int32) (x k : Int32) : Prop := ∀ j, j < k.toInt.toNat → a (130 * x.toInt.toNat + j) = a (4160 + j) ∧ w (130 * x.toInt.toNat + j) = w (4160 + j)
def CT (te le : Nat → Int32) (x k : Int32) : Prop := ∀ j, j < k.toInt.toNat → te (61 * x.toInt.toNat + j) = te (1952 + j) ∧ le (61 * x.toInt.toNat + j) = le (1952 + j)
theorem CA_0 {a w : Nat → Int32} {x k : Int32} (h : k.toInt = 0) : CA a w x k := fun j hj => absurd hj (by omega)
theorem CT_0 {te le : Nat → Int32} {x k : Int32} (h : k.toInt = 0) : CT te le x k := fun j hj => absurd hj (by omega)
/-- one token of the new law is copied to its place -/
theorem cp_act {a w lm te le f1 f2 : Nat → Int32} {x k k' L v1 v2 : Int32} {i j : Nat} (hx : 0 ≤ x.toInt ∧ x.toInt ≤ 31) (hk : 0 ≤ k.toInt ∧ k.toInt < L.toInt) (hL : L.toInt ≤ 130) (hb : AR 0 61 lm) (hW : LWx a w lm te le x) (hN : LNB a w lm te le L) (hC : CA a w x k) (hi : i = 130 * x.toInt.toNat + k.toInt.toNat) (hj : j = i) (ev1 : v1.toInt = (a (4160 + k.toInt.toNat)).toInt) (ev2 : v2.toInt = (w (4160 + k.toInt.toNat)).toInt) (ef1 : f1 = upd a i (vp_nar .byte v1)) (ef2 : f2 = upd w j v2) (ek : k'.toInt = k.toInt + 1) : LWx f1 f2 lm te le x ∧ LNB f1 f2 lm te le L ∧ CA f1 f2 x k' := by
  subst hj
  have hby := hN.2.1 k.toInt.toNat (by omega) (by omega)
  have e1 : vp_nar .byte v1 = a (4160 + k.toInt.toNat) := by
    rw [zn_byteI (by omega)]
    exact Int32.toInt_inj.mp ev1
  have e2 : v2 = w (4160 + k.toInt.toNat) := Int32.toInt_inj.mp ev2
  have o : ∀ q, ¬ q = j → f1 q = a q ∧ f2 q = w q := fun q hq => ⟨upd_o ef1 hq, upd_o ef2 hq⟩
  refine ⟨fun p hp hne => LP_keep (hW p hp hne) (by have := hb p; omega) rfl (fun q hq => o _ (by omega)) (fun l hl => ⟨rfl, rfl⟩), ⟨⟨hN.1.1, ?_⟩, fun q q1 q2 => ?_, hN.2.2⟩, fun q hq => ?_⟩
  · exact LP_keep hN.1.2 (by have := hb 32; omega) rfl (fun q hq => o _ (by omega)) (fun l hl => ⟨rfl, rfl⟩)
  · rw [(o (4160 + q) (by omega)).1]
    exact hN.2.1 q q1 q2
  · have n1 := o (4160 + q) (by omega)
    rw [n1.1, n1.2]
    by_cases c : q = k.toInt.toNat
    · subst c
      rw [upd_s ef1 (by omega), upd_s ef2 (by omega), e1, e2]
      exact ⟨rfl, rfl⟩
    · rw [(o (130 * x.toInt.toNat + q) (by omega)).1, (o (130 * x.toInt.toNat + q) (by omega)).2]
      exact hC q (by omega)
theorem cp_lm {a w lm te le lm' : Nat → Int32} {x L v : Int32} {i : Nat} (hx : 0 ≤ x.toInt ∧ x.toInt ≤ 31) (hb : AR 0 61 lm) (hW : LWx a w lm te le x) (hN : LNB a w lm te le L) (hi : i = x.toInt.toNat) (ef : lm' = upd lm i v) (ev : v.toInt = (lm 32).toInt) : LWx a w lm' te le x ∧ LNB a w lm' te le L ∧ (lm' x.toInt.toNat).toInt = (lm' 32).toInt := by
  have o : ∀ q, ¬ q = i → lm' q = lm q := fun q hq => upd_o ef hq
  have e32 := o 32 (by omega)
  refine ⟨fun p hp hne => LP_keep (hW p hp hne) (by have := hb p; omega) (o p (by omega)) (fun q hq => ⟨rfl, rfl⟩) (fun l hl => ⟨rfl, rfl⟩), ⟨⟨?_, ?_⟩, hN.2.1, ?_⟩, ?_⟩
  · rw [e32]
    exact hN.1.1
  · exact LP_keep hN.1.2 (by have := hb 32; omega) e32 (fun q hq => ⟨rfl, rfl⟩) (fun l hl => ⟨rfl, rfl⟩)
  · rw [e32]
    exact hN.2.2
  · rw [e32, upd_s ef (j := x.toInt.toNat) (by omega), ev]
theorem cp_te {a w lm te le t1 l1 : Nat → Int32} {x k k' L v1 v2 : Int32} {i j : Nat} (hx : 0 ≤ x.toInt ∧ x.toInt ≤ 31) (hk : 0 ≤ k.toInt ∧ k.toInt < (lm 32).toInt) (hb : AR 0 61 lm) (hW : LWx a w lm te le x) (hN : LNB a w lm te le L) (hC : CT te le x k) (hi : i = 61 * x.toInt.toNat + k.toInt.toNat) (hj : j = i) (ev1 : v1.toInt = (te (1952 + k.toInt.toNat)).toInt) (ev2 : v2.toInt = (le (1952 + k.toInt.toNat)).toInt) (ef1 : t1 = upd te i (vp_nar .short v1)) (ef2 : l1 = upd le j (vp_nar .short v2)) (ek : k'.toInt = k.toInt + 1) : LWx a w lm t1 l1 x ∧ LNB a w lm t1 l1 L ∧ CT t1 l1 x k' := by
  subst hj
  have hb32 := hb 32
  have hs := hN.1.2 k.toInt.toNat (by omega)
  obtain ⟨g1, g2, g3, g4⟩ := hs
  have g1' : 0 ≤ (te (1952 + k.toInt.toNat)).toInt := g1
  have g2' : 0 ≤ (le (1952 + k.toInt.toNat)).toInt := g2
  have g5 : (te (1952 + k.toInt.toNat)).toInt.toNat ≤ (le (1952 + k.toInt.toNat)).toInt.toNat := g4.1
  have g6 : (le (1952 + k.toInt.toNat)).toInt.toNat ≤ 130 := g4.2.1
  have e1 : vp_nar .short v1 = te (1952 + k.toInt.toNat) := by
    rw [zn_shortI (by omega)]
    exact Int32.toInt_inj.mp ev1
  have e2 : vp_nar .short v2 = le (1952 + k.toInt.toNat) := by
    rw [zn_shortI (by omega)]
    exact Int32.toInt_inj.mp ev2
  have o : ∀ q, ¬ q = j → t1 q = te q ∧ l1 q = le q := fun q hq => ⟨upd_o ef1 hq, upd_o ef2 hq⟩
  refine ⟨fun p hp hne => LP_keep (hW p hp hne) (by have := hb p; omega) rfl (fun q hq => ⟨rfl, rfl⟩) (fun l hl => o _ (by omega)), ⟨⟨?_, ?_⟩, hN.2.1, fun l hl => ?_⟩, fun q hq => ?_⟩
  · have h1 := hN.1.1
    unfold lE at h1 ⊢
    rw [if_neg (by omega)] at h1 ⊢
    rw [(o (61 * 32 + (lm 32).toInt.toNat - 1) (by omega)).2]
    exact h1
  · exact LP_keep hN.1.2 (by omega) rfl (fun q hq => ⟨rfl, rfl⟩) (fun l hl => o _ (by omega))
  · rw [(o (1952 + l) (by omega)).2]
    exact hN.2.2 l hl
  · have n1 := o (1952 + q) (by omega)
    rw [n1.1, n1.2]
    by_cases c : q = k.toInt.toNat
    · subst c
      rw [upd_s ef1 (by omega), upd_s ef2 (by omega), e1, e2]
      exact ⟨rfl, rfl⟩
    · rw [(o (61 * x.toInt.toNat + q) (by omega)).1, (o (61 * x.toInt.toNat + q) (by omega)).2]
      exact hC q (by omega)
theorem cp_end {a w lm te le : Nat → Int32} {x k L : Int32} (hx : 0 ≤ x.toInt ∧ x.toInt ≤ 31) (hW : LWx a w lm te le x) (hN : LNB a w lm te le L) (hA : CA a w x L) (hT : CT te le x k) (hm : (lm x.toInt.toNat).toInt = (lm 32).toInt) (hk : (lm x.toInt.toNat).toInt ≤ k.toInt) : LW a w lm te le := fun p hp => by
  by_cases c : p = x.toInt.toNat
  · rw [c]
    refine LP_ext (p := 32) (n := (lm 32).toInt.toNat) hN.1.2 rfl (by omega) (fun l hl i hi => ?_) (fun l hl => ?_)
    · have h1 := hN.2.2 l hl
      have h2 : (le (61 * 32 + l)).toInt.toNat = (le (1952 + l)).toInt.toNat := rfl
      exact hA i (by omega)
    · exact hT l (by omega)
  · exact hW p hp c
theorem z32 : (32 : Int32).toNatClampNeg = 32 := by decide
theorem VKB_frm {a w a' w' : Nat → Int32} {b k : Nat} {T : Int32} (h : VKB a w b T k) (hf : FRM a w a' w' T) : VKB a' w' b T k := by
  obtain ⟨h1, h2, h3⟩ := h
  refine ⟨h1, fun i q1 q2 => ?_, ?_⟩
  · rw [(hf (4160 + i) (by omega)).1]
    exact h2 i q1 q2
  · rw [dp_ext (T.toInt.toNat - b) (fun q hq => hf (4160 + b + q) (by omega))]
    exact h3
theorem sn {x : Option Nat} {k : Nat} (h : x = some k) : x ≠ none := by rw [h]; exact fun q => by cases q
theorem line_A {a w lm te le a' w' lm' te' le' : Nat → Int32} {L L' v t s : Int32} (h : LNB a w lm te le L) (hb : AR 0 61 lm) (n iv jv : Nat) (hn : (lm 32).toInt = (n : Int)) (hn6 : n ≤ 60) (hiv : iv = 1952 + n) (hjv : jv = 1952 + n) (hfr : FRM a w a' w' L) (o1 : 0 ≤ L.toInt) (o4 : 0 ≤ L'.toInt ∧ L'.toInt ≤ 130) (ht : t = L.toInt16.toInt32) (hs : s = L'.toInt16.toInt32) (ete : te' = upd te iv (vp_nar .short t)) (ele : le' = upd le jv (vp_nar .short s)) (elm : lm' = upd lm (32 : Int32).toNatClampNeg v) (ev : v.toInt = (n : Int) + 1) (hv : VKB a' w' L.toInt.toNat L' 1) : LNB a' w' lm' te' le' L' := by
  subst hiv
  obtain ⟨h1, h2, h3⟩ := hv
  have e1 : vp_nar .short t = L := by rw [ht, zn_short0 (by omega), zn_shortI (by omega)]
  have e2 : vp_nar .short s = L' := by rw [hs, zn_short0 (by omega), zn_shortI (by omega)]
  rw [e1] at ete
  rw [e2] at ele
  refine LNB_add (T := L) h n hn hn6 hfr o1 (Int.le_refl _) (by omega) o4.2 (Or.inl rfl) (sn h3) h2 ?_ (fun i hi => upd_o ete hi) ?_ (fun i hi => upd_o ele (by omega)) ?_
  · rw [upd_s elm (by rw [z32]), ev]
  · rw [upd_s ete rfl]
  · rw [upd_s ele (by omega)]
theorem line_B {a w lm te le a' w' lm' te1 te' le' : Nat → Int32} {L T L' v t0 t s : Int32} (h : LNB a w lm te le L) (hb : AR 0 61 lm) (n iv kv jv : Nat) (hn : (lm 32).toInt = (n : Int)) (hn6 : n ≤ 60) (hiv : iv = 1952 + n) (hkv : kv = 1952 + n) (hjv : jv = 1952 + n) (hfr : FRM a w a' w' L) (o1 : 0 ≤ L.toInt) (o2 : L.toInt ≤ T.toInt) (o4 : 0 ≤ L'.toInt ∧ L'.toInt ≤ 130) (ht : t = T.toInt16.toInt32) (hs : s = L'.toInt16.toInt32) (ete1 : te1 = upd te iv t0) (ete : te' = upd te1 kv (vp_nar .short t)) (ele : le' = upd le jv (vp_nar .short s)) (elm : lm' = upd lm (32 : Int32).toNatClampNeg v) (ev : v.toInt = (n : Int) + 1) (hv1 : VKB a' w' L.toInt.toNat T 1) (hv : VKB a' w' T.toInt.toNat L' 1) : LNB a' w' lm' te' le' L' := by
  subst hiv
  obtain ⟨g1, g2, g3⟩ := hv1
  obtain ⟨h1, h2, h3⟩ := hv
  have e1 : vp_nar .short t = T := by rw [ht, zn_short0 (by omega), zn_shortI (by omega)]
  have e2 : vp_nar .short s = L' := by rw [hs, zn_short0 (by omega), zn_shortI (by omega)]
  rw [e1] at ete
  rw [e2] at ele
  refine LNB_add (T := T) h n hn hn6 hfr o1 o2 (by omega) o4.2 (Or.inr (sn g3)) (sn h3) (fun i q1 q2 => ?_) ?_ (fun i hi => ?_) ?_ (fun i hi => upd_o ele (by omega)) ?_
  · by_cases c : i < T.toInt.toNat
    · exact g2 i q1 c
    · exact h2 i (by omega) q2
  · rw [upd_s elm (by rw [z32]), ev]
  · rw [upd_o ete (by omega), upd_o ete1 hi]
  · rw [upd_s ete (by omega)]
  · rw [upd_s ele (by omega)]
theorem line_WA {a w lm te le a' w' lm' te' le' : Nat → Int32} {L v t s : Int32} (h : LW a w lm te le) (hb : AR 0 61 lm) (n iv jv : Nat) (hiv : iv = 1952 + n) (hjv : jv = 1952 + n) (hfr : FRM a w a' w' L) (ete : te' = upd te iv t) (ele : le' = upd le jv s) (elm : lm' = upd lm (32 : Int32).toNatClampNeg v) : LW a' w' lm' te' le' :=
  LW_line h hb hfr (fun p hp => upd_o elm (by rw [z32]; exact hp)) n (fun i hi => upd_o ete (by omega)) (fun i hi => upd_o ele (by omega))
theorem line_WB {a w lm te le a' w' lm' te1 te' le' : Nat → Int32} {L v t0 t s : Int32} (h : LW a w lm te le) (hb : AR 0 61 lm) (n iv kv jv : Nat) (hiv : iv = 1952 + n) (hkv : kv = 1952 + n) (hjv : jv = 1952 + n) (hfr : FRM a w a' w' L) (ete1 : te1 = upd te iv t0) (ete : te' = upd te1 kv t) (ele : le' = upd le jv s) (elm : lm' = upd lm (32 : Int32).toNatClampNeg v) : LW a' w' lm' te' le' :=
  LW_line h hb hfr (fun p hp => upd_o elm (by rw [z32]; exact hp)) n (fun i hi => by rw [upd_o ete (by omega), upd_o ete1 (by omega)]) (fun i hi => upd_o ele (by omega))
theorem LW_z {a w lm te le f : Nat → Int32} {v : Int32} (h : LW a w lm te le) (hb : AR 0 61 lm) (e : f = upd lm (32 : Int32).toNatClampNeg v) : LW a w f te le := fun p hp =>
  LP_keep (h p hp) (by have := hb p; omega) (upd_o e (by rw [z32]; omega)) (fun _ _ => ⟨rfl, rfl⟩) (fun _ _ => ⟨rfl, rfl⟩)
theorem LNB_z {a w lm te le f : Nat → Int32} {v L : Int32} (e : f = upd lm (32 : Int32).toNatClampNeg v) (hv : v.toInt = 0) (hL : L.toInt = 0) : LNB a w f te le L := by
  have e1 : (f 32).toInt = 0 := by rw [upd_s e (by rw [z32]), hv]
  have e2 : (f 32).toInt.toNat = 0 := by omega
  refine ⟨⟨?_, fun l hl => absurd hl (by omega)⟩, fun i q1 q2 => absurd q2 (by omega), fun l hl => absurd hl (by omega)⟩
  rw [e2, hL]
  rfl
theorem z32b : (32 : Int32).toInt.toNat = 32 := by decide
def EQL (lm : Nat → Int32) (x : Int32) : Prop := (lm x.toInt.toNat).toInt = (lm 32).toInt
theorem CA_eq {a w : Nat → Int32} {x k k' : Int32} (h : CA a w x k) (e : k'.toInt = k.toInt) : CA a w x k' := fun j hj => h j (by omega)
def IMP (A B : Prop) : Prop := A → B
def LK (t : Nat → Int32) (h n : Int32) : Int := if n.toInt ≤ h.toInt then -1 else (t h.toInt.toNat).toInt
/-- one token of the new law is copied to its place -/
theorem cq_act {a w lm te le f1 f2 : Nat → Int32} {x k k' L v1 v2 : Int32} {i j p1 p2 : Nat} (hx : 0 ≤ x.toInt ∧ x.toInt ≤ 31) (hk : 0 ≤ k.toInt ∧ k.toInt < L.toInt) (hL : L.toInt ≤ 130) (hb : AR 0 61 lm) (hW : LWx a w lm te le x) (hN : LNB a w lm te le L) (hC : CA a w x k) (hi : i = 130 * x.toInt.toNat + k.toInt.toNat) (hj : j = i) (ev1 : v1 = a p1) (ev2 : v2 = w p2) (hp1 : p1 = 4160 + k.toInt.toNat) (hp2 : p2 = p1) (ef1 : f1 = upd a i (vp_nar .byte v1)) (ef2 : f2 = upd w j v2) (ek : k'.toInt = k.toInt + 1) : LWx f1 f2 lm te le x ∧ LNB f1 f2 lm te le L ∧ CA f1 f2 x k' := by
  subst hj
  subst hp2
  subst hp1
  have hby := hN.2.1 k.toInt.toNat (by omega) (by omega)
  have e1 : vp_nar .byte v1 = a (4160 + k.toInt.toNat) := by
    rw [ev1, zn_byteI (by omega)]
  have e2 : v2 = w (4160 + k.toInt.toNat) := ev2
  have o : ∀ q, ¬ q = j → f1 q = a q ∧ f2 q = w q := fun q hq => ⟨upd_o ef1 hq, upd_o ef2 hq⟩
  refine ⟨fun p hp hne => LP_keep (hW p hp hne) (by have := hb p; omega) rfl (fun q hq => o _ (by omega)) (fun l hl => ⟨rfl, rfl⟩), ⟨⟨hN.1.1, ?_⟩, fun q q1 q2 => ?_, hN.2.2⟩, fun q hq => ?_⟩
  · exact LP_keep hN.1.2 (by have := hb 32; omega) rfl (fun q hq => o _ (by omega)) (fun l hl => ⟨rfl, rfl⟩)
  · rw [(o (4160 + q) (by omega)).1]
    exact hN.2.1 q q1 q2
  · have n1 := o (4160 + q) (by omega)
    rw [n1.1, n1.2]
    by_cases c : q = k.toInt.toNat
    · subst c
      rw [upd_s ef1 (by omega), upd_s ef2 (by omega), e1, e2]
      exact ⟨rfl, rfl⟩
    · rw [(o (130 * x.toInt.toNat + q) (by omega)).1, (o (130 * x.toInt.toNat + q) (by omega)).2]
      exact hC q (by omega)
theorem cq_lm {a w lm te le lm' : Nat → Int32} {x L v : Int32} {i p1 : Nat} (hx : 0 ≤ x.toInt ∧ x.toInt ≤ 31) (hb : AR 0 61 lm) (hW : LWx a w lm te le x) (hN : LNB a w lm te le L) (hi : i = x.toInt.toNat) (ef : lm' = upd lm i v) (ev : v = lm p1) (hp1 : p1 = 32) : LWx a w lm' te le x ∧ LNB a w lm' te le L ∧ (lm' x.toInt.toNat).toInt = (lm' 32).toInt := by
  have o : ∀ q, ¬ q = i → lm' q = lm q := fun q hq => upd_o ef hq
  have e32 := o 32 (by omega)
  refine ⟨fun p hp hne => LP_keep (hW p hp hne) (by have := hb p; omega) (o p (by omega)) (fun q hq => ⟨rfl, rfl⟩) (fun l hl => ⟨rfl, rfl⟩), ⟨⟨?_, ?_⟩, hN.2.1, ?_⟩, ?_⟩
  · rw [e32]
    exact hN.1.1
  · exact LP_keep hN.1.2 (by have := hb 32; omega) e32 (fun q hq => ⟨rfl, rfl⟩) (fun l hl => ⟨rfl, rfl⟩)
  · rw [e32]
    exact hN.2.2
  · rw [e32, upd_s ef (j := x.toInt.toNat) (by omega), ev, hp1]
theorem cq_te {a w lm te le t1 l1 : Nat → Int32} {x k k' L v1 v2 : Int32} {i j p1 p2 : Nat} (hx : 0 ≤ x.toInt ∧ x.toInt ≤ 31) (hk : 0 ≤ k.toInt ∧ k.toInt < (lm 32).toInt) (hb : AR 0 61 lm) (hW : LWx a w lm te le x) (hN : LNB a w lm te le L) (hC : CT te le x k) (hi : i = 61 * x.toInt.toNat + k.toInt.toNat) (hj : j = i) (ev1 : v1 = te p1) (ev2 : v2 = le p2) (hp1 : p1 = 1952 + k.toInt.toNat) (hp2 : p2 = p1) (ef1 : t1 = upd te i (vp_nar .short v1)) (ef2 : l1 = upd le j (vp_nar .short v2)) (ek : k'.toInt = k.toInt + 1) : LWx a w lm t1 l1 x ∧ LNB a w lm t1 l1 L ∧ CT t1 l1 x k' := by
  subst hj
  subst hp2
  subst hp1
  have hb32 := hb 32
  have hs := hN.1.2 k.toInt.toNat (by omega)
  obtain ⟨g1, g2, g3, g4⟩ := hs
  have g1' : 0 ≤ (te (1952 + k.toInt.toNat)).toInt := g1
  have g2' : 0 ≤ (le (1952 + k.toInt.toNat)).toInt := g2
  have g5 : (te (1952 + k.toInt.toNat)).toInt.toNat ≤ (le (1952 + k.toInt.toNat)).toInt.toNat := g4.1
  have g6 : (le (1952 + k.toInt.toNat)).toInt.toNat ≤ 130 := g4.2.1
  have e1 : vp_nar .short v1 = te (1952 + k.toInt.toNat) := by
    rw [ev1, zn_shortI (by omega)]
  have e2 : vp_nar .short v2 = le (1952 + k.toInt.toNat) := by
    rw [ev2, zn_shortI (by omega)]
  have o : ∀ q, ¬ q = j → t1 q = te q ∧ l1 q = le q := fun q hq => ⟨upd_o ef1 hq, upd_o ef2 hq⟩
  refine ⟨fun p hp hne => LP_keep (hW p hp hne) (by have := hb p; omega) rfl (fun q hq => ⟨rfl, rfl⟩) (fun l hl => o _ (by omega)), ⟨⟨?_, ?_⟩, hN.2.1, fun l hl => ?_⟩, fun q hq => ?_⟩
  · have h1 := hN.1.1
    unfold lE at h1 ⊢
    rw [if_neg (by omega)] at h1 ⊢
    rw [(o (61 * 32 + (lm 32).toInt.toNat - 1) (by omega)).2]
    exact h1
  · exact LP_keep hN.1.2 (by omega) rfl (fun q hq => ⟨rfl, rfl⟩) (fun l hl => o _ (by omega))
  · rw [(o (1952 + l) (by omega)).2]
    exact hN.2.2 l hl
  · have n1 := o (1952 + q) (by omega)
    rw [n1.1, n1.2]
    by_cases c : q = k.toInt.toNat
    · subst c
      rw [upd_s ef1 (by omega), upd_s ef2 (by omega), e1, e2]
      exact ⟨rfl, rfl⟩
    · rw [(o (61 * x.toInt.toNat + q) (by omega)).1, (o (61 * x.toInt.toNat + q) (by omega)).2]
      exact hC q (by omega)

