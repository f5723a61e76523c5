
theorem zP_l {D : va_G} {X PL : va_W} {H : Heap} (h : va_P D classes (X ++ PL) H) : va_P D classes X H := fun k q hk => h k q (by rw [List.getElem?_append_left (List.getElem?_eq_some_iff.mp hk).1]; exact hk)
theorem zD_l {A : Nat → Prop} {X PL : va_W} (h : va_D A (X ++ PL)) : va_D A X := by
  have g : ∀ (k : Nat) (q : Nat × va_E), X[k]? = some q → (X ++ PL)[k]? = some q := fun k q hk => by rw [List.getElem?_append_left (List.getElem?_eq_some_iff.mp hk).1]; exact hk
  exact ⟨fun i j p q hi hj e => h.1 i j p q (g i p hi) (g j q hj) e, fun k q hk => h.2 k q (g k q hk)⟩
theorem zPm {X PL : va_W} {j n : Nat} {q : Nat × va_E} (h : PL[j]? = some q) (hn : X.length = n) : (X ++ PL)[n + j]? = some q := by
  rw [← hn, List.getElem?_append_right (Nat.le_add_right _ _), Nat.add_sub_cancel_left]
  exact h
theorem zk_joinM {A : Nat → Prop} {D : va_G} {ws : va_W} {H H1 : Heap} {b j : Nat} {e : va_E} (hP : va_P D classes ws H) (hD : va_D A ws) (hj : ws[j]? = some (b, e)) (hk : ∀ q : Nat, q < H.size → ¬ va_A [(b, e)] H.size q → H1[q]? = H[q]?) (hB : va_P D classes [(b, e)] H1) : va_P D classes ws H1 := by
  intro k q hq
  by_cases c : q.1 = b
  · have e1 : k = j := hD.1 k j q (b, e) hq hj c
    subst e1
    have e2 : q = (b, e) := Option.some.inj (hq.symm.trans hj)
    rw [e2]
    exact hB 0 (b, e) rfl
  · have hl := (hP k q hq).lt
    refine (hP k q hq).kept (hk q.1 hl (fun h => ?_))
    rcases h with ⟨i, e2, h⟩ | h
    · cases i with
      | zero => exact c (congrArg Prod.fst (Option.some.inj h)).symm
      | succ i => cases h
    · omega
section ZKP
variable {p : Program} {l : Launch} {e : Env} {R : Room} {s : State} {m : MethodId} {args : Array Value} {below : List Frame} {meth : Method} {c : Code} {H : Heap} {locs : List Loc} {cells slots : Nat} {Q : State → Prop} {ls : Array Slot} {pc : Nat}
variable {A : Nat → Prop} {D : va_G} {cs : Nat → ClassId} {X cx PL : va_W} {S : Type} {w1 pl1 : S → va_W} {y : MethodName} {wsY : List Cond} {rm : Room} {C own host : String} {index maxL mc ms n nL : Nat} {bytes cc : ByteArray} {ret : Option FieldType} {b : Nat} {As rest : List Value}
theorem zk_viP  {post : Int32 → S → Prop} (hM : Met l y wsY rm (va_Pc (.ref b :: As) (zPre D cs (cx ++ PL) H.size)) (va_Qi post (fun (u : S) (t : State) => va_P D classes (w1 u ++ pl1 u) t.heap ∧ va_D (va_A (cx ++ PL) H.size) (w1 u ++ pl1 u)) (va_A (cx ++ PL) H.size)) mc ms (va_A (cx ++ PL) H.size))
    (S0 : CallFix p m c cc nL s args zW own) (cw : CallW R s args own C index y bytes maxL ret wsY rm mc ms n) (hrv : ∃ cellB : Cell, H[b]? = some cellB ∧ cellB.vm.isStatics = false ∧ s.vm.findClass C = some cellB.cls)
    (hP : va_P D classes (X ++ PL) H) (hD : va_D A (X ++ PL)) (hS : va_S A s.heap H locs) (hK : va_K D classes (zT cs) s) (hA : ∀ q : Nat, s.heap.size ≤ q → A q) (isC isR : List Nat) (hC : isC.map (fun i => X[i]?) = cx.map some) (hnC : va_nd isC = true) (hR : isR.map (fun i => X[i]?) = (isR.filterMap (fun i => X[i]?)).map some) (hn : va_nd isR = true) (hdis : ∀ i ∈ isR, i ∉ isC)
    (hlen : As.length = n) (hsize : ls.size = nL) (hW : (rest.map fun v => v.category).sum ≤ 8) (hdg : decode cc pc = .ok (.invokevirtual index, 3)) (hf : cells + mc ≤ R.cells ∧ slots + ms ≤ R.slots)
    (kk : ∀ (r : Int32) (u : S) (H1 : Heap) (locs1 : List Loc), post r u → va_P D classes ((isR.filterMap (fun i => X[i]?) ++ w1 u) ++ pl1 u) H1 → va_D A ((isR.filterMap (fun i => X[i]?) ++ w1 u) ++ pl1 u) → va_S A s.heap H1 locs1 → W p l e R s m args below meth c H1 locs1 (cells + mc) (slots + ms) Q (F0 m (pc + 3) ls (.int r :: rest))) :
    W p l e R s m args below meth c H locs cells slots Q (F0 m pc ls (As.reverse ++ .ref b :: rest)) := by
  have hPc : va_P D classes (cx ++ PL) H := hP.part isC hC
  have hDc : va_D A (cx ++ PL) := hD.part isC hnC hC
  have hFc := va_freeP hD hS hA isC hC
  refine va_calli (va_runV (As := As) (rest := rest) S0 hM cw ⟨zPre_blind, hrv, fun U hU hW => ⟨rfl, ⟨by rw [hU], by rw [hU]; exact hPc, va_K.moved hW.alike hK, hDc.weaken (fun _ _ _ _ => trivial)⟩⟩⟩ rfl hlen hsize rfl (lv_room hW) hdg hf) hS (fun q _ h => hFc q h) hFc (fun r u t H1 locs1 ht hvm hw hB hz1 hk1 hS1 => ?_)
  have hB : va_P D classes (w1 u ++ pl1 u) t.heap ∧ va_D (va_A (cx ++ PL) H.size) (w1 u ++ pl1 u) := hB
  rw [ht] at hB
  obtain ⟨hP2, hD2⟩ := va_joinP hP hD isC isR hC hR hn hdis hk1 hFc hB.1 hB.2
  exact kk r u H1 locs1 hw hP2 hD2 hS1
theorem zk_viQ  {post : Int32 → S → Prop} (hM : Met l y wsY rm (va_Pc (.ref b :: As) (zPre D cs cx H.size)) (va_Qi post (fun (u : S) (t : State) => va_P D classes (w1 u) t.heap ∧ va_D (va_A cx H.size) (w1 u)) (va_A cx H.size)) mc ms (va_A cx H.size))
    (S0 : CallFix p m c cc nL s args zW own) (cw : CallW R s args own C index y bytes maxL ret wsY rm mc ms n) (hrv : ∃ cellB : Cell, H[b]? = some cellB ∧ cellB.vm.isStatics = false ∧ s.vm.findClass C = some cellB.cls)
    (hP : va_P D classes (X ++ PL) H) (hD : va_D A (X ++ PL)) (hS : va_S A s.heap H locs) (hK : va_K D classes (zT cs) s) (hA : ∀ q : Nat, s.heap.size ≤ q → A q) (isC isR : List Nat) (hC : isC.map (fun i => X[i]?) = cx.map some) (hnC : va_nd isC = true) (hR : isR.map (fun i => X[i]?) = (isR.filterMap (fun i => X[i]?)).map some) (hn : va_nd isR = true) (hdis : ∀ i ∈ isR, i ∉ isC)
    (hlen : As.length = n) (hsize : ls.size = nL) (hW : (rest.map fun v => v.category).sum ≤ 8) (hdg : decode cc pc = .ok (.invokevirtual index, 3)) (hf : cells + mc ≤ R.cells ∧ slots + ms ≤ R.slots)
    (kk : ∀ (r : Int32) (u : S) (H1 : Heap) (locs1 : List Loc), post r u → va_P D classes ((isR.filterMap (fun i => X[i]?) ++ w1 u) ++ PL) H1 → va_D A ((isR.filterMap (fun i => X[i]?) ++ w1 u) ++ PL) → va_S A s.heap H1 locs1 → W p l e R s m args below meth c H1 locs1 (cells + mc) (slots + ms) Q (F0 m (pc + 3) ls (.int r :: rest))) :
    W p l e R s m args below meth c H locs cells slots Q (F0 m pc ls (As.reverse ++ .ref b :: rest)) := by
  have hPc : va_P D classes cx H := (zP_l hP).sub isC (zk_fm hC)
  have hDc : va_D A cx := (zD_l hD).sub isC hnC hC
  have hFc := va_free (zD_l hD) hS hA isC hC
  refine va_calli (va_runV (As := As) (rest := rest) S0 hM cw ⟨zPre_blind, hrv, fun U hU hW => ⟨rfl, ⟨by rw [hU], by rw [hU]; exact hPc, va_K.moved hW.alike hK, hDc.weaken (fun _ _ _ _ => trivial)⟩⟩⟩ rfl hlen hsize rfl (lv_room hW) hdg hf) hS (fun q _ h => hFc q h) hFc (fun r u t H1 locs1 ht hvm hw hB hz1 hk1 hS1 => ?_)
  have hB : va_P D classes (w1 u) t.heap ∧ va_D (va_A cx H.size) (w1 u) := hB
  rw [ht] at hB
  obtain ⟨hP2, hD2⟩ := va_joinQ hP hD isC isR hC hR hn hdis hk1 hFc hB.1 hB.2
  exact kk r u H1 locs1 hw hP2 hD2 hS1
theorem zk_viOP  {post : Int32 → S → Prop} (hO : zO s) (hM : Met l y wsY rm (va_Pc (.ref b :: As) (zPreO D cs (cx ++ PL) H.size)) (va_Qi post (fun (u : S) (t : State) => va_P D classes (w1 u ++ pl1 u) t.heap ∧ va_D (va_A (cx ++ PL) H.size) (w1 u ++ pl1 u)) (va_A (cx ++ PL) H.size)) mc ms (va_A (cx ++ PL) H.size))
    (S0 : CallFix p m c cc nL s args zW own) (cw : CallW R s args own C index y bytes maxL ret wsY rm mc ms n) (hrv : ∃ cellB : Cell, H[b]? = some cellB ∧ cellB.vm.isStatics = false ∧ s.vm.findClass C = some cellB.cls)
    (hP : va_P D classes (X ++ PL) H) (hD : va_D A (X ++ PL)) (hS : va_S A s.heap H locs) (hK : va_K D classes (zT cs) s) (hA : ∀ q : Nat, s.heap.size ≤ q → A q) (isC isR : List Nat) (hC : isC.map (fun i => X[i]?) = cx.map some) (hnC : va_nd isC = true) (hR : isR.map (fun i => X[i]?) = (isR.filterMap (fun i => X[i]?)).map some) (hn : va_nd isR = true) (hdis : ∀ i ∈ isR, i ∉ isC)
    (hlen : As.length = n) (hsize : ls.size = nL) (hW : (rest.map fun v => v.category).sum ≤ 8) (hdg : decode cc pc = .ok (.invokevirtual index, 3)) (hf : cells + mc ≤ R.cells ∧ slots + ms ≤ R.slots)
    (kk : ∀ (r : Int32) (u : S) (H1 : Heap) (locs1 : List Loc), post r u → va_P D classes ((isR.filterMap (fun i => X[i]?) ++ w1 u) ++ pl1 u) H1 → va_D A ((isR.filterMap (fun i => X[i]?) ++ w1 u) ++ pl1 u) → va_S A s.heap H1 locs1 → W p l e R s m args below meth c H1 locs1 (cells + mc) (slots + ms) Q (F0 m (pc + 3) ls (.int r :: rest))) :
    W p l e R s m args below meth c H locs cells slots Q (F0 m pc ls (As.reverse ++ .ref b :: rest)) := by
  have hPc : va_P D classes (cx ++ PL) H := hP.part isC hC
  have hDc : va_D A (cx ++ PL) := hD.part isC hnC hC
  have hFc := va_freeP hD hS hA isC hC
  refine va_calli (va_runV (As := As) (rest := rest) S0 hM cw ⟨zPreO_blind, hrv, fun U hU hW => ⟨rfl, ⟨by rw [hU], by rw [hU]; exact hPc, va_K.moved hW.alike hK, hDc.weaken (fun _ _ _ _ => trivial)⟩, zO.warm hW hO⟩⟩ rfl hlen hsize rfl (lv_room hW) hdg hf) hS (fun q _ h => hFc q h) hFc (fun r u t H1 locs1 ht hvm hw hB hz1 hk1 hS1 => ?_)
  have hB : va_P D classes (w1 u ++ pl1 u) t.heap ∧ va_D (va_A (cx ++ PL) H.size) (w1 u ++ pl1 u) := hB
  rw [ht] at hB
  obtain ⟨hP2, hD2⟩ := va_joinP hP hD isC isR hC hR hn hdis hk1 hFc hB.1 hB.2
  exact kk r u H1 locs1 hw hP2 hD2 hS1
theorem zk_viOQ  {post : Int32 → S → Prop} (hO : zO s) (hM : Met l y wsY rm (va_Pc (.ref b :: As) (zPreO D cs cx H.size)) (va_Qi post (fun (u : S) (t : State) => va_P D classes (w1 u) t.heap ∧ va_D (va_A cx H.size) (w1 u)) (va_A cx H.size)) mc ms (va_A cx H.size))
    (S0 : CallFix p m c cc nL s args zW own) (cw : CallW R s args own C index y bytes maxL ret wsY rm mc ms n) (hrv : ∃ cellB : Cell, H[b]? = some cellB ∧ cellB.vm.isStatics = false ∧ s.vm.findClass C = some cellB.cls)
    (hP : va_P D classes (X ++ PL) H) (hD : va_D A (X ++ PL)) (hS : va_S A s.heap H locs) (hK : va_K D classes (zT cs) s) (hA : ∀ q : Nat, s.heap.size ≤ q → A q) (isC isR : List Nat) (hC : isC.map (fun i => X[i]?) = cx.map some) (hnC : va_nd isC = true) (hR : isR.map (fun i => X[i]?) = (isR.filterMap (fun i => X[i]?)).map some) (hn : va_nd isR = true) (hdis : ∀ i ∈ isR, i ∉ isC)
    (hlen : As.length = n) (hsize : ls.size = nL) (hW : (rest.map fun v => v.category).sum ≤ 8) (hdg : decode cc pc = .ok (.invokevirtual index, 3)) (hf : cells + mc ≤ R.cells ∧ slots + ms ≤ R.slots)
    (kk : ∀ (r : Int32) (u : S) (H1 : Heap) (locs1 : List Loc), post r u → va_P D classes ((isR.filterMap (fun i => X[i]?) ++ w1 u) ++ PL) H1 → va_D A ((isR.filterMap (fun i => X[i]?) ++ w1 u) ++ PL) → va_S A s.heap H1 locs1 → W p l e R s m args below meth c H1 locs1 (cells + mc) (slots + ms) Q (F0 m (pc + 3) ls (.int r :: rest))) :
    W p l e R s m args below meth c H locs cells slots Q (F0 m pc ls (As.reverse ++ .ref b :: rest)) := by
  have hPc : va_P D classes cx H := (zP_l hP).sub isC (zk_fm hC)
  have hDc : va_D A cx := (zD_l hD).sub isC hnC hC
  have hFc := va_free (zD_l hD) hS hA isC hC
  refine va_calli (va_runV (As := As) (rest := rest) S0 hM cw ⟨zPreO_blind, hrv, fun U hU hW => ⟨rfl, ⟨by rw [hU], by rw [hU]; exact hPc, va_K.moved hW.alike hK, hDc.weaken (fun _ _ _ _ => trivial)⟩, zO.warm hW hO⟩⟩ rfl hlen hsize rfl (lv_room hW) hdg hf) hS (fun q _ h => hFc q h) hFc (fun r u t H1 locs1 ht hvm hw hB hz1 hk1 hS1 => ?_)
  have hB : va_P D classes (w1 u) t.heap ∧ va_D (va_A cx H.size) (w1 u) := hB
  rw [ht] at hB
  obtain ⟨hP2, hD2⟩ := va_joinQ hP hD isC isR hC hR hn hdis hk1 hFc hB.1 hB.2
  exact kk r u H1 locs1 hw hP2 hD2 hS1
theorem zk_vlP  {post : Int64 → S → Prop} (hM : Met l y wsY rm (va_Pc (.ref b :: As) (zPre D cs (cx ++ PL) H.size)) (va_Ql post (fun (u : S) (t : State) => va_P D classes (w1 u ++ pl1 u) t.heap ∧ va_D (va_A (cx ++ PL) H.size) (w1 u ++ pl1 u)) (va_A (cx ++ PL) H.size)) mc ms (va_A (cx ++ PL) H.size))
    (S0 : CallFix p m c cc nL s args zW own) (cw : CallW R s args own C index y bytes maxL ret wsY rm mc ms n) (hrv : ∃ cellB : Cell, H[b]? = some cellB ∧ cellB.vm.isStatics = false ∧ s.vm.findClass C = some cellB.cls)
    (hP : va_P D classes (X ++ PL) H) (hD : va_D A (X ++ PL)) (hS : va_S A s.heap H locs) (hK : va_K D classes (zT cs) s) (hA : ∀ q : Nat, s.heap.size ≤ q → A q) (isC isR : List Nat) (hC : isC.map (fun i => X[i]?) = cx.map some) (hnC : va_nd isC = true) (hR : isR.map (fun i => X[i]?) = (isR.filterMap (fun i => X[i]?)).map some) (hn : va_nd isR = true) (hdis : ∀ i ∈ isR, i ∉ isC)
    (hlen : As.length = n) (hsize : ls.size = nL) (hW : (rest.map fun v => v.category).sum ≤ 8) (hdg : decode cc pc = .ok (.invokevirtual index, 3)) (hf : cells + mc ≤ R.cells ∧ slots + ms ≤ R.slots)
    (kk : ∀ (r : Int64) (u : S) (H1 : Heap) (locs1 : List Loc), post r u → va_P D classes ((isR.filterMap (fun i => X[i]?) ++ w1 u) ++ pl1 u) H1 → va_D A ((isR.filterMap (fun i => X[i]?) ++ w1 u) ++ pl1 u) → va_S A s.heap H1 locs1 → W p l e R s m args below meth c H1 locs1 (cells + mc) (slots + ms) Q (F0 m (pc + 3) ls (.long r :: rest))) :
    W p l e R s m args below meth c H locs cells slots Q (F0 m pc ls (As.reverse ++ .ref b :: rest)) := by
  have hPc : va_P D classes (cx ++ PL) H := hP.part isC hC
  have hDc : va_D A (cx ++ PL) := hD.part isC hnC hC
  have hFc := va_freeP hD hS hA isC hC
  refine va_calll (va_runV (As := As) (rest := rest) S0 hM cw ⟨zPre_blind, hrv, fun U hU hW => ⟨rfl, ⟨by rw [hU], by rw [hU]; exact hPc, va_K.moved hW.alike hK, hDc.weaken (fun _ _ _ _ => trivial)⟩⟩⟩ rfl hlen hsize rfl (lv_room hW) hdg hf) hS (fun q _ h => hFc q h) hFc (fun r u t H1 locs1 ht hvm hw hB hz1 hk1 hS1 => ?_)
  have hB : va_P D classes (w1 u ++ pl1 u) t.heap ∧ va_D (va_A (cx ++ PL) H.size) (w1 u ++ pl1 u) := hB
  rw [ht] at hB
  obtain ⟨hP2, hD2⟩ := va_joinP hP hD isC isR hC hR hn hdis hk1 hFc hB.1 hB.2
  exact kk r u H1 locs1 hw hP2 hD2 hS1
theorem zk_vlQ  {post : Int64 → S → Prop} (hM : Met l y wsY rm (va_Pc (.ref b :: As) (zPre D cs cx H.size)) (va_Ql post (fun (u : S) (t : State) => va_P D classes (w1 u) t.heap ∧ va_D (va_A cx H.size) (w1 u)) (va_A cx H.size)) mc ms (va_A cx H.size))
    (S0 : CallFix p m c cc nL s args zW own) (cw : CallW R s args own C index y bytes maxL ret wsY rm mc ms n) (hrv : ∃ cellB : Cell, H[b]? = some cellB ∧ cellB.vm.isStatics = false ∧ s.vm.findClass C = some cellB.cls)
    (hP : va_P D classes (X ++ PL) H) (hD : va_D A (X ++ PL)) (hS : va_S A s.heap H locs) (hK : va_K D classes (zT cs) s) (hA : ∀ q : Nat, s.heap.size ≤ q → A q) (isC isR : List Nat) (hC : isC.map (fun i => X[i]?) = cx.map some) (hnC : va_nd isC = true) (hR : isR.map (fun i => X[i]?) = (isR.filterMap (fun i => X[i]?)).map some) (hn : va_nd isR = true) (hdis : ∀ i ∈ isR, i ∉ isC)
    (hlen : As.length = n) (hsize : ls.size = nL) (hW : (rest.map fun v => v.category).sum ≤ 8) (hdg : decode cc pc = .ok (.invokevirtual index, 3)) (hf : cells + mc ≤ R.cells ∧ slots + ms ≤ R.slots)
    (kk : ∀ (r : Int64) (u : S) (H1 : Heap) (locs1 : List Loc), post r u → va_P D classes ((isR.filterMap (fun i => X[i]?) ++ w1 u) ++ PL) H1 → va_D A ((isR.filterMap (fun i => X[i]?) ++ w1 u) ++ PL) → va_S A s.heap H1 locs1 → W p l e R s m args below meth c H1 locs1 (cells + mc) (slots + ms) Q (F0 m (pc + 3) ls (.long r :: rest))) :
    W p l e R s m args below meth c H locs cells slots Q (F0 m pc ls (As.reverse ++ .ref b :: rest)) := by
  have hPc : va_P D classes cx H := (zP_l hP).sub isC (zk_fm hC)
  have hDc : va_D A cx := (zD_l hD).sub isC hnC hC
  have hFc := va_free (zD_l hD) hS hA isC hC
  refine va_calll (va_runV (As := As) (rest := rest) S0 hM cw ⟨zPre_blind, hrv, fun U hU hW => ⟨rfl, ⟨by rw [hU], by rw [hU]; exact hPc, va_K.moved hW.alike hK, hDc.weaken (fun _ _ _ _ => trivial)⟩⟩⟩ rfl hlen hsize rfl (lv_room hW) hdg hf) hS (fun q _ h => hFc q h) hFc (fun r u t H1 locs1 ht hvm hw hB hz1 hk1 hS1 => ?_)
  have hB : va_P D classes (w1 u) t.heap ∧ va_D (va_A cx H.size) (w1 u) := hB
  rw [ht] at hB
  obtain ⟨hP2, hD2⟩ := va_joinQ hP hD isC isR hC hR hn hdis hk1 hFc hB.1 hB.2
  exact kk r u H1 locs1 hw hP2 hD2 hS1
theorem zk_vlOP  {post : Int64 → S → Prop} (hO : zO s) (hM : Met l y wsY rm (va_Pc (.ref b :: As) (zPreO D cs (cx ++ PL) H.size)) (va_Ql post (fun (u : S) (t : State) => va_P D classes (w1 u ++ pl1 u) t.heap ∧ va_D (va_A (cx ++ PL) H.size) (w1 u ++ pl1 u)) (va_A (cx ++ PL) H.size)) mc ms (va_A (cx ++ PL) H.size))
    (S0 : CallFix p m c cc nL s args zW own) (cw : CallW R s args own C index y bytes maxL ret wsY rm mc ms n) (hrv : ∃ cellB : Cell, H[b]? = some cellB ∧ cellB.vm.isStatics = false ∧ s.vm.findClass C = some cellB.cls)
    (hP : va_P D classes (X ++ PL) H) (hD : va_D A (X ++ PL)) (hS : va_S A s.heap H locs) (hK : va_K D classes (zT cs) s) (hA : ∀ q : Nat, s.heap.size ≤ q → A q) (isC isR : List Nat) (hC : isC.map (fun i => X[i]?) = cx.map some) (hnC : va_nd isC = true) (hR : isR.map (fun i => X[i]?) = (isR.filterMap (fun i => X[i]?)).map some) (hn : va_nd isR = true) (hdis : ∀ i ∈ isR, i ∉ isC)
    (hlen : As.length = n) (hsize : ls.size = nL) (hW : (rest.map fun v => v.category).sum ≤ 8) (hdg : decode cc pc = .ok (.invokevirtual index, 3)) (hf : cells + mc ≤ R.cells ∧ slots + ms ≤ R.slots)
    (kk : ∀ (r : Int64) (u : S) (H1 : Heap) (locs1 : List Loc), post r u → va_P D classes ((isR.filterMap (fun i => X[i]?) ++ w1 u) ++ pl1 u) H1 → va_D A ((isR.filterMap (fun i => X[i]?) ++ w1 u) ++ pl1 u) → va_S A s.heap H1 locs1 → W p l e R s m args below meth c H1 locs1 (cells + mc) (slots + ms) Q (F0 m (pc + 3) ls (.long r :: rest))) :
    W p l e R s m args below meth c H locs cells slots Q (F0 m pc ls (As.reverse ++ .ref b :: rest)) := by
  have hPc : va_P D classes (cx ++ PL) H := hP.part isC hC
  have hDc : va_D A (cx ++ PL) := hD.part isC hnC hC
  have hFc := va_freeP hD hS hA isC hC
  refine va_calll (va_runV (As := As) (rest := rest) S0 hM cw ⟨zPreO_blind, hrv, fun U hU hW => ⟨rfl, ⟨by rw [hU], by rw [hU]; exact hPc, va_K.moved hW.alike hK, hDc.weaken (fun _ _ _ _ => trivial)⟩, zO.warm hW hO⟩⟩ rfl hlen hsize rfl (lv_room hW) hdg hf) hS (fun q _ h => hFc q h) hFc (fun r u t H1 locs1 ht hvm hw hB hz1 hk1 hS1 => ?_)
  have hB : va_P D classes (w1 u ++ pl1 u) t.heap ∧ va_D (va_A (cx ++ PL) H.size) (w1 u ++ pl1 u) := hB
  rw [ht] at hB
  obtain ⟨hP2, hD2⟩ := va_joinP hP hD isC isR hC hR hn hdis hk1 hFc hB.1 hB.2
  exact kk r u H1 locs1 hw hP2 hD2 hS1
theorem zk_vlOQ  {post : Int64 → S → Prop} (hO : zO s) (hM : Met l y wsY rm (va_Pc (.ref b :: As) (zPreO D cs cx H.size)) (va_Ql post (fun (u : S) (t : State) => va_P D classes (w1 u) t.heap ∧ va_D (va_A cx H.size) (w1 u)) (va_A cx H.size)) mc ms (va_A cx H.size))
    (S0 : CallFix p m c cc nL s args zW own) (cw : CallW R s args own C index y bytes maxL ret wsY rm mc ms n) (hrv : ∃ cellB : Cell, H[b]? = some cellB ∧ cellB.vm.isStatics = false ∧ s.vm.findClass C = some cellB.cls)
    (hP : va_P D classes (X ++ PL) H) (hD : va_D A (X ++ PL)) (hS : va_S A s.heap H locs) (hK : va_K D classes (zT cs) s) (hA : ∀ q : Nat, s.heap.size ≤ q → A q) (isC isR : List Nat) (hC : isC.map (fun i => X[i]?) = cx.map some) (hnC : va_nd isC = true) (hR : isR.map (fun i => X[i]?) = (isR.filterMap (fun i => X[i]?)).map some) (hn : va_nd isR = true) (hdis : ∀ i ∈ isR, i ∉ isC)
    (hlen : As.length = n) (hsize : ls.size = nL) (hW : (rest.map fun v => v.category).sum ≤ 8) (hdg : decode cc pc = .ok (.invokevirtual index, 3)) (hf : cells + mc ≤ R.cells ∧ slots + ms ≤ R.slots)
    (kk : ∀ (r : Int64) (u : S) (H1 : Heap) (locs1 : List Loc), post r u → va_P D classes ((isR.filterMap (fun i => X[i]?) ++ w1 u) ++ PL) H1 → va_D A ((isR.filterMap (fun i => X[i]?) ++ w1 u) ++ PL) → va_S A s.heap H1 locs1 → W p l e R s m args below meth c H1 locs1 (cells + mc) (slots + ms) Q (F0 m (pc + 3) ls (.long r :: rest))) :
    W p l e R s m args below meth c H locs cells slots Q (F0 m pc ls (As.reverse ++ .ref b :: rest)) := by
  have hPc : va_P D classes cx H := (zP_l hP).sub isC (zk_fm hC)
  have hDc : va_D A cx := (zD_l hD).sub isC hnC hC
  have hFc := va_free (zD_l hD) hS hA isC hC
  refine va_calll (va_runV (As := As) (rest := rest) S0 hM cw ⟨zPreO_blind, hrv, fun U hU hW => ⟨rfl, ⟨by rw [hU], by rw [hU]; exact hPc, va_K.moved hW.alike hK, hDc.weaken (fun _ _ _ _ => trivial)⟩, zO.warm hW hO⟩⟩ rfl hlen hsize rfl (lv_room hW) hdg hf) hS (fun q _ h => hFc q h) hFc (fun r u t H1 locs1 ht hvm hw hB hz1 hk1 hS1 => ?_)
  have hB : va_P D classes (w1 u) t.heap ∧ va_D (va_A cx H.size) (w1 u) := hB
  rw [ht] at hB
  obtain ⟨hP2, hD2⟩ := va_joinQ hP hD isC isR hC hR hn hdis hk1 hFc hB.1 hB.2
  exact kk r u H1 locs1 hw hP2 hD2 hS1
theorem zk_vvP  {post : S → Prop} (hM : Met l y wsY rm (va_Pc (.ref b :: As) (zPre D cs (cx ++ PL) H.size)) (va_Qv post (fun (u : S) (t : State) => va_P D classes (w1 u ++ pl1 u) t.heap ∧ va_D (va_A (cx ++ PL) H.size) (w1 u ++ pl1 u)) (va_A (cx ++ PL) H.size)) mc ms (va_A (cx ++ PL) H.size))
    (S0 : CallFix p m c cc nL s args zW own) (cw : CallW R s args own C index y bytes maxL ret wsY rm mc ms n) (hrv : ∃ cellB : Cell, H[b]? = some cellB ∧ cellB.vm.isStatics = false ∧ s.vm.findClass C = some cellB.cls)
    (hP : va_P D classes (X ++ PL) H) (hD : va_D A (X ++ PL)) (hS : va_S A s.heap H locs) (hK : va_K D classes (zT cs) s) (hA : ∀ q : Nat, s.heap.size ≤ q → A q) (isC isR : List Nat) (hC : isC.map (fun i => X[i]?) = cx.map some) (hnC : va_nd isC = true) (hR : isR.map (fun i => X[i]?) = (isR.filterMap (fun i => X[i]?)).map some) (hn : va_nd isR = true) (hdis : ∀ i ∈ isR, i ∉ isC)
    (hlen : As.length = n) (hsize : ls.size = nL) (hW : (rest.map fun v => v.category).sum ≤ 8) (hdg : decode cc pc = .ok (.invokevirtual index, 3)) (hf : cells + mc ≤ R.cells ∧ slots + ms ≤ R.slots)
    (kk : ∀ (u : S) (H1 : Heap) (locs1 : List Loc), post u → va_P D classes ((isR.filterMap (fun i => X[i]?) ++ w1 u) ++ pl1 u) H1 → va_D A ((isR.filterMap (fun i => X[i]?) ++ w1 u) ++ pl1 u) → va_S A s.heap H1 locs1 → W p l e R s m args below meth c H1 locs1 (cells + mc) (slots + ms) Q (F0 m (pc + 3) ls (rest))) :
    W p l e R s m args below meth c H locs cells slots Q (F0 m pc ls (As.reverse ++ .ref b :: rest)) := by
  have hPc : va_P D classes (cx ++ PL) H := hP.part isC hC
  have hDc : va_D A (cx ++ PL) := hD.part isC hnC hC
  have hFc := va_freeP hD hS hA isC hC
  refine va_callv (va_runV (As := As) (rest := rest) S0 hM cw ⟨zPre_blind, hrv, fun U hU hW => ⟨rfl, ⟨by rw [hU], by rw [hU]; exact hPc, va_K.moved hW.alike hK, hDc.weaken (fun _ _ _ _ => trivial)⟩⟩⟩ rfl hlen hsize rfl (lv_room hW) hdg hf) hS (fun q _ h => hFc q h) hFc (fun u t H1 locs1 ht hvm hw hB hz1 hk1 hS1 => ?_)
  have hB : va_P D classes (w1 u ++ pl1 u) t.heap ∧ va_D (va_A (cx ++ PL) H.size) (w1 u ++ pl1 u) := hB
  rw [ht] at hB
  obtain ⟨hP2, hD2⟩ := va_joinP hP hD isC isR hC hR hn hdis hk1 hFc hB.1 hB.2
  exact kk u H1 locs1 hw hP2 hD2 hS1
theorem zk_vvQ  {post : S → Prop} (hM : Met l y wsY rm (va_Pc (.ref b :: As) (zPre D cs cx H.size)) (va_Qv post (fun (u : S) (t : State) => va_P D classes (w1 u) t.heap ∧ va_D (va_A cx H.size) (w1 u)) (va_A cx H.size)) mc ms (va_A cx H.size))
    (S0 : CallFix p m c cc nL s args zW own) (cw : CallW R s args own C index y bytes maxL ret wsY rm mc ms n) (hrv : ∃ cellB : Cell, H[b]? = some cellB ∧ cellB.vm.isStatics = false ∧ s.vm.findClass C = some cellB.cls)
    (hP : va_P D classes (X ++ PL) H) (hD : va_D A (X ++ PL)) (hS : va_S A s.heap H locs) (hK : va_K D classes (zT cs) s) (hA : ∀ q : Nat, s.heap.size ≤ q → A q) (isC isR : List Nat) (hC : isC.map (fun i => X[i]?) = cx.map some) (hnC : va_nd isC = true) (hR : isR.map (fun i => X[i]?) = (isR.filterMap (fun i => X[i]?)).map some) (hn : va_nd isR = true) (hdis : ∀ i ∈ isR, i ∉ isC)
    (hlen : As.length = n) (hsize : ls.size = nL) (hW : (rest.map fun v => v.category).sum ≤ 8) (hdg : decode cc pc = .ok (.invokevirtual index, 3)) (hf : cells + mc ≤ R.cells ∧ slots + ms ≤ R.slots)
    (kk : ∀ (u : S) (H1 : Heap) (locs1 : List Loc), post u → va_P D classes ((isR.filterMap (fun i => X[i]?) ++ w1 u) ++ PL) H1 → va_D A ((isR.filterMap (fun i => X[i]?) ++ w1 u) ++ PL) → va_S A s.heap H1 locs1 → W p l e R s m args below meth c H1 locs1 (cells + mc) (slots + ms) Q (F0 m (pc + 3) ls (rest))) :
    W p l e R s m args below meth c H locs cells slots Q (F0 m pc ls (As.reverse ++ .ref b :: rest)) := by
  have hPc : va_P D classes cx H := (zP_l hP).sub isC (zk_fm hC)
  have hDc : va_D A cx := (zD_l hD).sub isC hnC hC
  have hFc := va_free (zD_l hD) hS hA isC hC
  refine va_callv (va_runV (As := As) (rest := rest) S0 hM cw ⟨zPre_blind, hrv, fun U hU hW => ⟨rfl, ⟨by rw [hU], by rw [hU]; exact hPc, va_K.moved hW.alike hK, hDc.weaken (fun _ _ _ _ => trivial)⟩⟩⟩ rfl hlen hsize rfl (lv_room hW) hdg hf) hS (fun q _ h => hFc q h) hFc (fun u t H1 locs1 ht hvm hw hB hz1 hk1 hS1 => ?_)
  have hB : va_P D classes (w1 u) t.heap ∧ va_D (va_A cx H.size) (w1 u) := hB
  rw [ht] at hB
  obtain ⟨hP2, hD2⟩ := va_joinQ hP hD isC isR hC hR hn hdis hk1 hFc hB.1 hB.2
  exact kk u H1 locs1 hw hP2 hD2 hS1
theorem zk_vvOP  {post : S → Prop} (hO : zO s) (hM : Met l y wsY rm (va_Pc (.ref b :: As) (zPreO D cs (cx ++ PL) H.size)) (va_Qv post (fun (u : S) (t : State) => va_P D classes (w1 u ++ pl1 u) t.heap ∧ va_D (va_A (cx ++ PL) H.size) (w1 u ++ pl1 u)) (va_A (cx ++ PL) H.size)) mc ms (va_A (cx ++ PL) H.size))
    (S0 : CallFix p m c cc nL s args zW own) (cw : CallW R s args own C index y bytes maxL ret wsY rm mc ms n) (hrv : ∃ cellB : Cell, H[b]? = some cellB ∧ cellB.vm.isStatics = false ∧ s.vm.findClass C = some cellB.cls)
    (hP : va_P D classes (X ++ PL) H) (hD : va_D A (X ++ PL)) (hS : va_S A s.heap H locs) (hK : va_K D classes (zT cs) s) (hA : ∀ q : Nat, s.heap.size ≤ q → A q) (isC isR : List Nat) (hC : isC.map (fun i => X[i]?) = cx.map some) (hnC : va_nd isC = true) (hR : isR.map (fun i => X[i]?) = (isR.filterMap (fun i => X[i]?)).map some) (hn : va_nd isR = true) (hdis : ∀ i ∈ isR, i ∉ isC)
    (hlen : As.length = n) (hsize : ls.size = nL) (hW : (rest.map fun v => v.category).sum ≤ 8) (hdg : decode cc pc = .ok (.invokevirtual index, 3)) (hf : cells + mc ≤ R.cells ∧ slots + ms ≤ R.slots)
    (kk : ∀ (u : S) (H1 : Heap) (locs1 : List Loc), post u → va_P D classes ((isR.filterMap (fun i => X[i]?) ++ w1 u) ++ pl1 u) H1 → va_D A ((isR.filterMap (fun i => X[i]?) ++ w1 u) ++ pl1 u) → va_S A s.heap H1 locs1 → W p l e R s m args below meth c H1 locs1 (cells + mc) (slots + ms) Q (F0 m (pc + 3) ls (rest))) :
    W p l e R s m args below meth c H locs cells slots Q (F0 m pc ls (As.reverse ++ .ref b :: rest)) := by
  have hPc : va_P D classes (cx ++ PL) H := hP.part isC hC
  have hDc : va_D A (cx ++ PL) := hD.part isC hnC hC
  have hFc := va_freeP hD hS hA isC hC
  refine va_callv (va_runV (As := As) (rest := rest) S0 hM cw ⟨zPreO_blind, hrv, fun U hU hW => ⟨rfl, ⟨by rw [hU], by rw [hU]; exact hPc, va_K.moved hW.alike hK, hDc.weaken (fun _ _ _ _ => trivial)⟩, zO.warm hW hO⟩⟩ rfl hlen hsize rfl (lv_room hW) hdg hf) hS (fun q _ h => hFc q h) hFc (fun u t H1 locs1 ht hvm hw hB hz1 hk1 hS1 => ?_)
  have hB : va_P D classes (w1 u ++ pl1 u) t.heap ∧ va_D (va_A (cx ++ PL) H.size) (w1 u ++ pl1 u) := hB
  rw [ht] at hB
  obtain ⟨hP2, hD2⟩ := va_joinP hP hD isC isR hC hR hn hdis hk1 hFc hB.1 hB.2
  exact kk u H1 locs1 hw hP2 hD2 hS1
theorem zk_vvOQ  {post : S → Prop} (hO : zO s) (hM : Met l y wsY rm (va_Pc (.ref b :: As) (zPreO D cs cx H.size)) (va_Qv post (fun (u : S) (t : State) => va_P D classes (w1 u) t.heap ∧ va_D (va_A cx H.size) (w1 u)) (va_A cx H.size)) mc ms (va_A cx H.size))
    (S0 : CallFix p m c cc nL s args zW own) (cw : CallW R s args own C index y bytes maxL ret wsY rm mc ms n) (hrv : ∃ cellB : Cell, H[b]? = some cellB ∧ cellB.vm.isStatics = false ∧ s.vm.findClass C = some cellB.cls)
    (hP : va_P D classes (X ++ PL) H) (hD : va_D A (X ++ PL)) (hS : va_S A s.heap H locs) (hK : va_K D classes (zT cs) s) (hA : ∀ q : Nat, s.heap.size ≤ q → A q) (isC isR : List Nat) (hC : isC.map (fun i => X[i]?) = cx.map some) (hnC : va_nd isC = true) (hR : isR.map (fun i => X[i]?) = (isR.filterMap (fun i => X[i]?)).map some) (hn : va_nd isR = true) (hdis : ∀ i ∈ isR, i ∉ isC)
    (hlen : As.length = n) (hsize : ls.size = nL) (hW : (rest.map fun v => v.category).sum ≤ 8) (hdg : decode cc pc = .ok (.invokevirtual index, 3)) (hf : cells + mc ≤ R.cells ∧ slots + ms ≤ R.slots)
    (kk : ∀ (u : S) (H1 : Heap) (locs1 : List Loc), post u → va_P D classes ((isR.filterMap (fun i => X[i]?) ++ w1 u) ++ PL) H1 → va_D A ((isR.filterMap (fun i => X[i]?) ++ w1 u) ++ PL) → va_S A s.heap H1 locs1 → W p l e R s m args below meth c H1 locs1 (cells + mc) (slots + ms) Q (F0 m (pc + 3) ls (rest))) :
    W p l e R s m args below meth c H locs cells slots Q (F0 m pc ls (As.reverse ++ .ref b :: rest)) := by
  have hPc : va_P D classes cx H := (zP_l hP).sub isC (zk_fm hC)
  have hDc : va_D A cx := (zD_l hD).sub isC hnC hC
  have hFc := va_free (zD_l hD) hS hA isC hC
  refine va_callv (va_runV (As := As) (rest := rest) S0 hM cw ⟨zPreO_blind, hrv, fun U hU hW => ⟨rfl, ⟨by rw [hU], by rw [hU]; exact hPc, va_K.moved hW.alike hK, hDc.weaken (fun _ _ _ _ => trivial)⟩, zO.warm hW hO⟩⟩ rfl hlen hsize rfl (lv_room hW) hdg hf) hS (fun q _ h => hFc q h) hFc (fun u t H1 locs1 ht hvm hw hB hz1 hk1 hS1 => ?_)
  have hB : va_P D classes (w1 u) t.heap ∧ va_D (va_A cx H.size) (w1 u) := hB
  rw [ht] at hB
  obtain ⟨hP2, hD2⟩ := va_joinQ hP hD isC isR hC hR hn hdis hk1 hFc hB.1 hB.2
  exact kk u H1 locs1 hw hP2 hD2 hS1
theorem zk_vqP  {post : Option Nat → S → Prop} (hM : Met l y wsY rm (va_Pc (.ref b :: As) (zPre D cs (cx ++ PL) H.size)) (va_Qq post (fun (u : S) (t : State) => va_P D classes (w1 u ++ pl1 u) t.heap ∧ va_D (va_A (cx ++ PL) H.size) (w1 u ++ pl1 u)) (va_A (cx ++ PL) H.size)) mc ms (va_A (cx ++ PL) H.size))
    (S0 : CallFix p m c cc nL s args zW own) (cw : CallW R s args own C index y bytes maxL ret wsY rm mc ms n) (hrv : ∃ cellB : Cell, H[b]? = some cellB ∧ cellB.vm.isStatics = false ∧ s.vm.findClass C = some cellB.cls)
    (hP : va_P D classes (X ++ PL) H) (hD : va_D A (X ++ PL)) (hS : va_S A s.heap H locs) (hK : va_K D classes (zT cs) s) (hA : ∀ q : Nat, s.heap.size ≤ q → A q) (isC isR : List Nat) (hC : isC.map (fun i => X[i]?) = cx.map some) (hnC : va_nd isC = true) (hR : isR.map (fun i => X[i]?) = (isR.filterMap (fun i => X[i]?)).map some) (hn : va_nd isR = true) (hdis : ∀ i ∈ isR, i ∉ isC)
    (hlen : As.length = n) (hsize : ls.size = nL) (hW : (rest.map fun v => v.category).sum ≤ 8) (hdg : decode cc pc = .ok (.invokevirtual index, 3)) (hf : cells + mc ≤ R.cells ∧ slots + ms ≤ R.slots)
    (kk : ∀ (r : Option Nat) (u : S) (H1 : Heap) (locs1 : List Loc), post r u → va_P D classes ((isR.filterMap (fun i => X[i]?) ++ w1 u) ++ pl1 u) H1 → va_D A ((isR.filterMap (fun i => X[i]?) ++ w1 u) ++ pl1 u) → va_S A s.heap H1 locs1 → W p l e R s m args below meth c H1 locs1 (cells + mc) (slots + ms) Q (F0 m (pc + 3) ls (va_rf r :: rest))) :
    W p l e R s m args below meth c H locs cells slots Q (F0 m pc ls (As.reverse ++ .ref b :: rest)) := by
  have hPc : va_P D classes (cx ++ PL) H := hP.part isC hC
  have hDc : va_D A (cx ++ PL) := hD.part isC hnC hC
  have hFc := va_freeP hD hS hA isC hC
  refine va_callq (va_runV (As := As) (rest := rest) S0 hM cw ⟨zPre_blind, hrv, fun U hU hW => ⟨rfl, ⟨by rw [hU], by rw [hU]; exact hPc, va_K.moved hW.alike hK, hDc.weaken (fun _ _ _ _ => trivial)⟩⟩⟩ rfl hlen hsize rfl (lv_room hW) hdg hf) hS (fun q _ h => hFc q h) hFc (fun r u t H1 locs1 ht hvm hw hB hz1 hk1 hS1 => ?_)
  have hB : va_P D classes (w1 u ++ pl1 u) t.heap ∧ va_D (va_A (cx ++ PL) H.size) (w1 u ++ pl1 u) := hB
  rw [ht] at hB
  obtain ⟨hP2, hD2⟩ := va_joinP hP hD isC isR hC hR hn hdis hk1 hFc hB.1 hB.2
  exact kk r u H1 locs1 hw hP2 hD2 hS1
theorem zk_vqQ  {post : Option Nat → S → Prop} (hM : Met l y wsY rm (va_Pc (.ref b :: As) (zPre D cs cx H.size)) (va_Qq post (fun (u : S) (t : State) => va_P D classes (w1 u) t.heap ∧ va_D (va_A cx H.size) (w1 u)) (va_A cx H.size)) mc ms (va_A cx H.size))
    (S0 : CallFix p m c cc nL s args zW own) (cw : CallW R s args own C index y bytes maxL ret wsY rm mc ms n) (hrv : ∃ cellB : Cell, H[b]? = some cellB ∧ cellB.vm.isStatics = false ∧ s.vm.findClass C = some cellB.cls)
    (hP : va_P D classes (X ++ PL) H) (hD : va_D A (X ++ PL)) (hS : va_S A s.heap H locs) (hK : va_K D classes (zT cs) s) (hA : ∀ q : Nat, s.heap.size ≤ q → A q) (isC isR : List Nat) (hC : isC.map (fun i => X[i]?) = cx.map some) (hnC : va_nd isC = true) (hR : isR.map (fun i => X[i]?) = (isR.filterMap (fun i => X[i]?)).map some) (hn : va_nd isR = true) (hdis : ∀ i ∈ isR, i ∉ isC)
    (hlen : As.length = n) (hsize : ls.size = nL) (hW : (rest.map fun v => v.category).sum ≤ 8) (hdg : decode cc pc = .ok (.invokevirtual index, 3)) (hf : cells + mc ≤ R.cells ∧ slots + ms ≤ R.slots)
    (kk : ∀ (r : Option Nat) (u : S) (H1 : Heap) (locs1 : List Loc), post r u → va_P D classes ((isR.filterMap (fun i => X[i]?) ++ w1 u) ++ PL) H1 → va_D A ((isR.filterMap (fun i => X[i]?) ++ w1 u) ++ PL) → va_S A s.heap H1 locs1 → W p l e R s m args below meth c H1 locs1 (cells + mc) (slots + ms) Q (F0 m (pc + 3) ls (va_rf r :: rest))) :
    W p l e R s m args below meth c H locs cells slots Q (F0 m pc ls (As.reverse ++ .ref b :: rest)) := by
  have hPc : va_P D classes cx H := (zP_l hP).sub isC (zk_fm hC)
  have hDc : va_D A cx := (zD_l hD).sub isC hnC hC
  have hFc := va_free (zD_l hD) hS hA isC hC
  refine va_callq (va_runV (As := As) (rest := rest) S0 hM cw ⟨zPre_blind, hrv, fun U hU hW => ⟨rfl, ⟨by rw [hU], by rw [hU]; exact hPc, va_K.moved hW.alike hK, hDc.weaken (fun _ _ _ _ => trivial)⟩⟩⟩ rfl hlen hsize rfl (lv_room hW) hdg hf) hS (fun q _ h => hFc q h) hFc (fun r u t H1 locs1 ht hvm hw hB hz1 hk1 hS1 => ?_)
  have hB : va_P D classes (w1 u) t.heap ∧ va_D (va_A cx H.size) (w1 u) := hB
  rw [ht] at hB
  obtain ⟨hP2, hD2⟩ := va_joinQ hP hD isC isR hC hR hn hdis hk1 hFc hB.1 hB.2
  exact kk r u H1 locs1 hw hP2 hD2 hS1
theorem zk_vqOP  {post : Option Nat → S → Prop} (hO : zO s) (hM : Met l y wsY rm (va_Pc (.ref b :: As) (zPreO D cs (cx ++ PL) H.size)) (va_Qq post (fun (u : S) (t : State) => va_P D classes (w1 u ++ pl1 u) t.heap ∧ va_D (va_A (cx ++ PL) H.size) (w1 u ++ pl1 u)) (va_A (cx ++ PL) H.size)) mc ms (va_A (cx ++ PL) H.size))
    (S0 : CallFix p m c cc nL s args zW own) (cw : CallW R s args own C index y bytes maxL ret wsY rm mc ms n) (hrv : ∃ cellB : Cell, H[b]? = some cellB ∧ cellB.vm.isStatics = false ∧ s.vm.findClass C = some cellB.cls)
    (hP : va_P D classes (X ++ PL) H) (hD : va_D A (X ++ PL)) (hS : va_S A s.heap H locs) (hK : va_K D classes (zT cs) s) (hA : ∀ q : Nat, s.heap.size ≤ q → A q) (isC isR : List Nat) (hC : isC.map (fun i => X[i]?) = cx.map some) (hnC : va_nd isC = true) (hR : isR.map (fun i => X[i]?) = (isR.filterMap (fun i => X[i]?)).map some) (hn : va_nd isR = true) (hdis : ∀ i ∈ isR, i ∉ isC)
    (hlen : As.length = n) (hsize : ls.size = nL) (hW : (rest.map fun v => v.category).sum ≤ 8) (hdg : decode cc pc = .ok (.invokevirtual index, 3)) (hf : cells + mc ≤ R.cells ∧ slots + ms ≤ R.slots)
    (kk : ∀ (r : Option Nat) (u : S) (H1 : Heap) (locs1 : List Loc), post r u → va_P D classes ((isR.filterMap (fun i => X[i]?) ++ w1 u) ++ pl1 u) H1 → va_D A ((isR.filterMap (fun i => X[i]?) ++ w1 u) ++ pl1 u) → va_S A s.heap H1 locs1 → W p l e R s m args below meth c H1 locs1 (cells + mc) (slots + ms) Q (F0 m (pc + 3) ls (va_rf r :: rest))) :
    W p l e R s m args below meth c H locs cells slots Q (F0 m pc ls (As.reverse ++ .ref b :: rest)) := by
  have hPc : va_P D classes (cx ++ PL) H := hP.part isC hC
  have hDc : va_D A (cx ++ PL) := hD.part isC hnC hC
  have hFc := va_freeP hD hS hA isC hC
  refine va_callq (va_runV (As := As) (rest := rest) S0 hM cw ⟨zPreO_blind, hrv, fun U hU hW => ⟨rfl, ⟨by rw [hU], by rw [hU]; exact hPc, va_K.moved hW.alike hK, hDc.weaken (fun _ _ _ _ => trivial)⟩, zO.warm hW hO⟩⟩ rfl hlen hsize rfl (lv_room hW) hdg hf) hS (fun q _ h => hFc q h) hFc (fun r u t H1 locs1 ht hvm hw hB hz1 hk1 hS1 => ?_)
  have hB : va_P D classes (w1 u ++ pl1 u) t.heap ∧ va_D (va_A (cx ++ PL) H.size) (w1 u ++ pl1 u) := hB
  rw [ht] at hB
  obtain ⟨hP2, hD2⟩ := va_joinP hP hD isC isR hC hR hn hdis hk1 hFc hB.1 hB.2
  exact kk r u H1 locs1 hw hP2 hD2 hS1
theorem zk_vqOQ  {post : Option Nat → S → Prop} (hO : zO s) (hM : Met l y wsY rm (va_Pc (.ref b :: As) (zPreO D cs cx H.size)) (va_Qq post (fun (u : S) (t : State) => va_P D classes (w1 u) t.heap ∧ va_D (va_A cx H.size) (w1 u)) (va_A cx H.size)) mc ms (va_A cx H.size))
    (S0 : CallFix p m c cc nL s args zW own) (cw : CallW R s args own C index y bytes maxL ret wsY rm mc ms n) (hrv : ∃ cellB : Cell, H[b]? = some cellB ∧ cellB.vm.isStatics = false ∧ s.vm.findClass C = some cellB.cls)
    (hP : va_P D classes (X ++ PL) H) (hD : va_D A (X ++ PL)) (hS : va_S A s.heap H locs) (hK : va_K D classes (zT cs) s) (hA : ∀ q : Nat, s.heap.size ≤ q → A q) (isC isR : List Nat) (hC : isC.map (fun i => X[i]?) = cx.map some) (hnC : va_nd isC = true) (hR : isR.map (fun i => X[i]?) = (isR.filterMap (fun i => X[i]?)).map some) (hn : va_nd isR = true) (hdis : ∀ i ∈ isR, i ∉ isC)
    (hlen : As.length = n) (hsize : ls.size = nL) (hW : (rest.map fun v => v.category).sum ≤ 8) (hdg : decode cc pc = .ok (.invokevirtual index, 3)) (hf : cells + mc ≤ R.cells ∧ slots + ms ≤ R.slots)
    (kk : ∀ (r : Option Nat) (u : S) (H1 : Heap) (locs1 : List Loc), post r u → va_P D classes ((isR.filterMap (fun i => X[i]?) ++ w1 u) ++ PL) H1 → va_D A ((isR.filterMap (fun i => X[i]?) ++ w1 u) ++ PL) → va_S A s.heap H1 locs1 → W p l e R s m args below meth c H1 locs1 (cells + mc) (slots + ms) Q (F0 m (pc + 3) ls (va_rf r :: rest))) :
    W p l e R s m args below meth c H locs cells slots Q (F0 m pc ls (As.reverse ++ .ref b :: rest)) := by
  have hPc : va_P D classes cx H := (zP_l hP).sub isC (zk_fm hC)
  have hDc : va_D A cx := (zD_l hD).sub isC hnC hC
  have hFc := va_free (zD_l hD) hS hA isC hC
  refine va_callq (va_runV (As := As) (rest := rest) S0 hM cw ⟨zPreO_blind, hrv, fun U hU hW => ⟨rfl, ⟨by rw [hU], by rw [hU]; exact hPc, va_K.moved hW.alike hK, hDc.weaken (fun _ _ _ _ => trivial)⟩, zO.warm hW hO⟩⟩ rfl hlen hsize rfl (lv_room hW) hdg hf) hS (fun q _ h => hFc q h) hFc (fun r u t H1 locs1 ht hvm hw hB hz1 hk1 hS1 => ?_)
  have hB : va_P D classes (w1 u) t.heap ∧ va_D (va_A cx H.size) (w1 u) := hB
  rw [ht] at hB
  obtain ⟨hP2, hD2⟩ := va_joinQ hP hD isC isR hC hR hn hdis hk1 hFc hB.1 hB.2
  exact kk r u H1 locs1 hw hP2 hD2 hS1
theorem zk_siP  {post : Int32 → S → Prop} (hM : Met l y wsY rm (va_Pc As (zPre D cs (cx ++ PL) H.size)) (va_Qi post (fun (u : S) (t : State) => va_P D classes (w1 u ++ pl1 u) t.heap ∧ va_D (va_A (cx ++ PL) H.size) (w1 u ++ pl1 u)) (va_A (cx ++ PL) H.size)) mc ms (va_A (cx ++ PL) H.size))
    (S0 : CallFix p m c cc nL s args zW own) (cw : CallB R s args own index y bytes maxL ret wsY rm mc ms n ∧ (Cond.static y).before args s = true)
    (hP : va_P D classes (X ++ PL) H) (hD : va_D A (X ++ PL)) (hS : va_S A s.heap H locs) (hK : va_K D classes (zT cs) s) (hA : ∀ q : Nat, s.heap.size ≤ q → A q) (isC isR : List Nat) (hC : isC.map (fun i => X[i]?) = cx.map some) (hnC : va_nd isC = true) (hR : isR.map (fun i => X[i]?) = (isR.filterMap (fun i => X[i]?)).map some) (hn : va_nd isR = true) (hdis : ∀ i ∈ isR, i ∉ isC)
    (hlen : As.length = n) (hsize : ls.size = nL) (hW : (rest.map fun v => v.category).sum ≤ 8) (hdg : decode cc pc = .ok (.invokestatic index, 3)) (hf : cells + mc ≤ R.cells ∧ slots + ms ≤ R.slots)
    (kk : ∀ (r : Int32) (u : S) (H1 : Heap) (locs1 : List Loc), post r u → va_P D classes ((isR.filterMap (fun i => X[i]?) ++ w1 u) ++ pl1 u) H1 → va_D A ((isR.filterMap (fun i => X[i]?) ++ w1 u) ++ pl1 u) → va_S A s.heap H1 locs1 → W p l e R s m args below meth c H1 locs1 (cells + mc) (slots + ms) Q (F0 m (pc + 3) ls (.int r :: rest))) :
    W p l e R s m args below meth c H locs cells slots Q (F0 m pc ls (As.reverse ++ rest)) := by
  have hPc : va_P D classes (cx ++ PL) H := hP.part isC hC
  have hDc : va_D A (cx ++ PL) := hD.part isC hnC hC
  have hFc := va_freeP hD hS hA isC hC
  refine va_calli (va_runS (As := As) (rest := rest) S0 hM cw ⟨zPre_blind, fun U hU hW => ⟨rfl, ⟨by rw [hU], by rw [hU]; exact hPc, va_K.moved hW.alike hK, hDc.weaken (fun _ _ _ _ => trivial)⟩⟩⟩ rfl hlen hsize rfl (lv_room hW) hdg hf) hS (fun q _ h => hFc q h) hFc (fun r u t H1 locs1 ht hvm hw hB hz1 hk1 hS1 => ?_)
  have hB : va_P D classes (w1 u ++ pl1 u) t.heap ∧ va_D (va_A (cx ++ PL) H.size) (w1 u ++ pl1 u) := hB
  rw [ht] at hB
  obtain ⟨hP2, hD2⟩ := va_joinP hP hD isC isR hC hR hn hdis hk1 hFc hB.1 hB.2
  exact kk r u H1 locs1 hw hP2 hD2 hS1
theorem zk_siQ  {post : Int32 → S → Prop} (hM : Met l y wsY rm (va_Pc As (zPre D cs cx H.size)) (va_Qi post (fun (u : S) (t : State) => va_P D classes (w1 u) t.heap ∧ va_D (va_A cx H.size) (w1 u)) (va_A cx H.size)) mc ms (va_A cx H.size))
    (S0 : CallFix p m c cc nL s args zW own) (cw : CallB R s args own index y bytes maxL ret wsY rm mc ms n ∧ (Cond.static y).before args s = true)
    (hP : va_P D classes (X ++ PL) H) (hD : va_D A (X ++ PL)) (hS : va_S A s.heap H locs) (hK : va_K D classes (zT cs) s) (hA : ∀ q : Nat, s.heap.size ≤ q → A q) (isC isR : List Nat) (hC : isC.map (fun i => X[i]?) = cx.map some) (hnC : va_nd isC = true) (hR : isR.map (fun i => X[i]?) = (isR.filterMap (fun i => X[i]?)).map some) (hn : va_nd isR = true) (hdis : ∀ i ∈ isR, i ∉ isC)
    (hlen : As.length = n) (hsize : ls.size = nL) (hW : (rest.map fun v => v.category).sum ≤ 8) (hdg : decode cc pc = .ok (.invokestatic index, 3)) (hf : cells + mc ≤ R.cells ∧ slots + ms ≤ R.slots)
    (kk : ∀ (r : Int32) (u : S) (H1 : Heap) (locs1 : List Loc), post r u → va_P D classes ((isR.filterMap (fun i => X[i]?) ++ w1 u) ++ PL) H1 → va_D A ((isR.filterMap (fun i => X[i]?) ++ w1 u) ++ PL) → va_S A s.heap H1 locs1 → W p l e R s m args below meth c H1 locs1 (cells + mc) (slots + ms) Q (F0 m (pc + 3) ls (.int r :: rest))) :
    W p l e R s m args below meth c H locs cells slots Q (F0 m pc ls (As.reverse ++ rest)) := by
  have hPc : va_P D classes cx H := (zP_l hP).sub isC (zk_fm hC)
  have hDc : va_D A cx := (zD_l hD).sub isC hnC hC
  have hFc := va_free (zD_l hD) hS hA isC hC
  refine va_calli (va_runS (As := As) (rest := rest) S0 hM cw ⟨zPre_blind, fun U hU hW => ⟨rfl, ⟨by rw [hU], by rw [hU]; exact hPc, va_K.moved hW.alike hK, hDc.weaken (fun _ _ _ _ => trivial)⟩⟩⟩ rfl hlen hsize rfl (lv_room hW) hdg hf) hS (fun q _ h => hFc q h) hFc (fun r u t H1 locs1 ht hvm hw hB hz1 hk1 hS1 => ?_)
  have hB : va_P D classes (w1 u) t.heap ∧ va_D (va_A cx H.size) (w1 u) := hB
  rw [ht] at hB
  obtain ⟨hP2, hD2⟩ := va_joinQ hP hD isC isR hC hR hn hdis hk1 hFc hB.1 hB.2
  exact kk r u H1 locs1 hw hP2 hD2 hS1
theorem zk_siOP  {post : Int32 → S → Prop} (hO : zO s) (hM : Met l y wsY rm (va_Pc As (zPreO D cs (cx ++ PL) H.size)) (va_Qi post (fun (u : S) (t : State) => va_P D classes (w1 u ++ pl1 u) t.heap ∧ va_D (va_A (cx ++ PL) H.size) (w1 u ++ pl1 u)) (va_A (cx ++ PL) H.size)) mc ms (va_A (cx ++ PL) H.size))
    (S0 : CallFix p m c cc nL s args zW own) (cw : CallB R s args own index y bytes maxL ret wsY rm mc ms n ∧ (Cond.static y).before args s = true)
    (hP : va_P D classes (X ++ PL) H) (hD : va_D A (X ++ PL)) (hS : va_S A s.heap H locs) (hK : va_K D classes (zT cs) s) (hA : ∀ q : Nat, s.heap.size ≤ q → A q) (isC isR : List Nat) (hC : isC.map (fun i => X[i]?) = cx.map some) (hnC : va_nd isC = true) (hR : isR.map (fun i => X[i]?) = (isR.filterMap (fun i => X[i]?)).map some) (hn : va_nd isR = true) (hdis : ∀ i ∈ isR, i ∉ isC)
    (hlen : As.length = n) (hsize : ls.size = nL) (hW : (rest.map fun v => v.category).sum ≤ 8) (hdg : decode cc pc = .ok (.invokestatic index, 3)) (hf : cells + mc ≤ R.cells ∧ slots + ms ≤ R.slots)
    (kk : ∀ (r : Int32) (u : S) (H1 : Heap) (locs1 : List Loc), post r u → va_P D classes ((isR.filterMap (fun i => X[i]?) ++ w1 u) ++ pl1 u) H1 → va_D A ((isR.filterMap (fun i => X[i]?) ++ w1 u) ++ pl1 u) → va_S A s.heap H1 locs1 → W p l e R s m args below meth c H1 locs1 (cells + mc) (slots + ms) Q (F0 m (pc + 3) ls (.int r :: rest))) :
    W p l e R s m args below meth c H locs cells slots Q (F0 m pc ls (As.reverse ++ rest)) := by
  have hPc : va_P D classes (cx ++ PL) H := hP.part isC hC
  have hDc : va_D A (cx ++ PL) := hD.part isC hnC hC
  have hFc := va_freeP hD hS hA isC hC
  refine va_calli (va_runS (As := As) (rest := rest) S0 hM cw ⟨zPreO_blind, fun U hU hW => ⟨rfl, ⟨by rw [hU], by rw [hU]; exact hPc, va_K.moved hW.alike hK, hDc.weaken (fun _ _ _ _ => trivial)⟩, zO.warm hW hO⟩⟩ rfl hlen hsize rfl (lv_room hW) hdg hf) hS (fun q _ h => hFc q h) hFc (fun r u t H1 locs1 ht hvm hw hB hz1 hk1 hS1 => ?_)
  have hB : va_P D classes (w1 u ++ pl1 u) t.heap ∧ va_D (va_A (cx ++ PL) H.size) (w1 u ++ pl1 u) := hB
  rw [ht] at hB
  obtain ⟨hP2, hD2⟩ := va_joinP hP hD isC isR hC hR hn hdis hk1 hFc hB.1 hB.2
  exact kk r u H1 locs1 hw hP2 hD2 hS1
theorem zk_siOQ  {post : Int32 → S → Prop} (hO : zO s) (hM : Met l y wsY rm (va_Pc As (zPreO D cs cx H.size)) (va_Qi post (fun (u : S) (t : State) => va_P D classes (w1 u) t.heap ∧ va_D (va_A cx H.size) (w1 u)) (va_A cx H.size)) mc ms (va_A cx H.size))
    (S0 : CallFix p m c cc nL s args zW own) (cw : CallB R s args own index y bytes maxL ret wsY rm mc ms n ∧ (Cond.static y).before args s = true)
    (hP : va_P D classes (X ++ PL) H) (hD : va_D A (X ++ PL)) (hS : va_S A s.heap H locs) (hK : va_K D classes (zT cs) s) (hA : ∀ q : Nat, s.heap.size ≤ q → A q) (isC isR : List Nat) (hC : isC.map (fun i => X[i]?) = cx.map some) (hnC : va_nd isC = true) (hR : isR.map (fun i => X[i]?) = (isR.filterMap (fun i => X[i]?)).map some) (hn : va_nd isR = true) (hdis : ∀ i ∈ isR, i ∉ isC)
    (hlen : As.length = n) (hsize : ls.size = nL) (hW : (rest.map fun v => v.category).sum ≤ 8) (hdg : decode cc pc = .ok (.invokestatic index, 3)) (hf : cells + mc ≤ R.cells ∧ slots + ms ≤ R.slots)
    (kk : ∀ (r : Int32) (u : S) (H1 : Heap) (locs1 : List Loc), post r u → va_P D classes ((isR.filterMap (fun i => X[i]?) ++ w1 u) ++ PL) H1 → va_D A ((isR.filterMap (fun i => X[i]?) ++ w1 u) ++ PL) → va_S A s.heap H1 locs1 → W p l e R s m args below meth c H1 locs1 (cells + mc) (slots + ms) Q (F0 m (pc + 3) ls (.int r :: rest))) :
    W p l e R s m args below meth c H locs cells slots Q (F0 m pc ls (As.reverse ++ rest)) := by
  have hPc : va_P D classes cx H := (zP_l hP).sub isC (zk_fm hC)
  have hDc : va_D A cx := (zD_l hD).sub isC hnC hC
  have hFc := va_free (zD_l hD) hS hA isC hC
  refine va_calli (va_runS (As := As) (rest := rest) S0 hM cw ⟨zPreO_blind, fun U hU hW => ⟨rfl, ⟨by rw [hU], by rw [hU]; exact hPc, va_K.moved hW.alike hK, hDc.weaken (fun _ _ _ _ => trivial)⟩, zO.warm hW hO⟩⟩ rfl hlen hsize rfl (lv_room hW) hdg hf) hS (fun q _ h => hFc q h) hFc (fun r u t H1 locs1 ht hvm hw hB hz1 hk1 hS1 => ?_)
  have hB : va_P D classes (w1 u) t.heap ∧ va_D (va_A cx H.size) (w1 u) := hB
  rw [ht] at hB
  obtain ⟨hP2, hD2⟩ := va_joinQ hP hD isC isR hC hR hn hdis hk1 hFc hB.1 hB.2
  exact kk r u H1 locs1 hw hP2 hD2 hS1
theorem zk_slP  {post : Int64 → S → Prop} (hM : Met l y wsY rm (va_Pc As (zPre D cs (cx ++ PL) H.size)) (va_Ql post (fun (u : S) (t : State) => va_P D classes (w1 u ++ pl1 u) t.heap ∧ va_D (va_A (cx ++ PL) H.size) (w1 u ++ pl1 u)) (va_A (cx ++ PL) H.size)) mc ms (va_A (cx ++ PL) H.size))
    (S0 : CallFix p m c cc nL s args zW own) (cw : CallB R s args own index y bytes maxL ret wsY rm mc ms n ∧ (Cond.static y).before args s = true)
    (hP : va_P D classes (X ++ PL) H) (hD : va_D A (X ++ PL)) (hS : va_S A s.heap H locs) (hK : va_K D classes (zT cs) s) (hA : ∀ q : Nat, s.heap.size ≤ q → A q) (isC isR : List Nat) (hC : isC.map (fun i => X[i]?) = cx.map some) (hnC : va_nd isC = true) (hR : isR.map (fun i => X[i]?) = (isR.filterMap (fun i => X[i]?)).map some) (hn : va_nd isR = true) (hdis : ∀ i ∈ isR, i ∉ isC)
    (hlen : As.length = n) (hsize : ls.size = nL) (hW : (rest.map fun v => v.category).sum ≤ 8) (hdg : decode cc pc = .ok (.invokestatic index, 3)) (hf : cells + mc ≤ R.cells ∧ slots + ms ≤ R.slots)
    (kk : ∀ (r : Int64) (u : S) (H1 : Heap) (locs1 : List Loc), post r u → va_P D classes ((isR.filterMap (fun i => X[i]?) ++ w1 u) ++ pl1 u) H1 → va_D A ((isR.filterMap (fun i => X[i]?) ++ w1 u) ++ pl1 u) → va_S A s.heap H1 locs1 → W p l e R s m args below meth c H1 locs1 (cells + mc) (slots + ms) Q (F0 m (pc + 3) ls (.long r :: rest))) :
    W p l e R s m args below meth c H locs cells slots Q (F0 m pc ls (As.reverse ++ rest)) := by
  have hPc : va_P D classes (cx ++ PL) H := hP.part isC hC
  have hDc : va_D A (cx ++ PL) := hD.part isC hnC hC
  have hFc := va_freeP hD hS hA isC hC
  refine va_calll (va_runS (As := As) (rest := rest) S0 hM cw ⟨zPre_blind, fun U hU hW => ⟨rfl, ⟨by rw [hU], by rw [hU]; exact hPc, va_K.moved hW.alike hK, hDc.weaken (fun _ _ _ _ => trivial)⟩⟩⟩ rfl hlen hsize rfl (lv_room hW) hdg hf) hS (fun q _ h => hFc q h) hFc (fun r u t H1 locs1 ht hvm hw hB hz1 hk1 hS1 => ?_)
  have hB : va_P D classes (w1 u ++ pl1 u) t.heap ∧ va_D (va_A (cx ++ PL) H.size) (w1 u ++ pl1 u) := hB
  rw [ht] at hB
  obtain ⟨hP2, hD2⟩ := va_joinP hP hD isC isR hC hR hn hdis hk1 hFc hB.1 hB.2
  exact kk r u H1 locs1 hw hP2 hD2 hS1
theorem zk_slQ  {post : Int64 → S → Prop} (hM : Met l y wsY rm (va_Pc As (zPre D cs cx H.size)) (va_Ql post (fun (u : S) (t : State) => va_P D classes (w1 u) t.heap ∧ va_D (va_A cx H.size) (w1 u)) (va_A cx H.size)) mc ms (va_A cx H.size))
    (S0 : CallFix p m c cc nL s args zW own) (cw : CallB R s args own index y bytes maxL ret wsY rm mc ms n ∧ (Cond.static y).before args s = true)
    (hP : va_P D classes (X ++ PL) H) (hD : va_D A (X ++ PL)) (hS : va_S A s.heap H locs) (hK : va_K D classes (zT cs) s) (hA : ∀ q : Nat, s.heap.size ≤ q → A q) (isC isR : List Nat) (hC : isC.map (fun i => X[i]?) = cx.map some) (hnC : va_nd isC = true) (hR : isR.map (fun i => X[i]?) = (isR.filterMap (fun i => X[i]?)).map some) (hn : va_nd isR = true) (hdis : ∀ i ∈ isR, i ∉ isC)
    (hlen : As.length = n) (hsize : ls.size = nL) (hW : (rest.map fun v => v.category).sum ≤ 8) (hdg : decode cc pc = .ok (.invokestatic index, 3)) (hf : cells + mc ≤ R.cells ∧ slots + ms ≤ R.slots)
    (kk : ∀ (r : Int64) (u : S) (H1 : Heap) (locs1 : List Loc), post r u → va_P D classes ((isR.filterMap (fun i => X[i]?) ++ w1 u) ++ PL) H1 → va_D A ((isR.filterMap (fun i => X[i]?) ++ w1 u) ++ PL) → va_S A s.heap H1 locs1 → W p l e R s m args below meth c H1 locs1 (cells + mc) (slots + ms) Q (F0 m (pc + 3) ls (.long r :: rest))) :
    W p l e R s m args below meth c H locs cells slots Q (F0 m pc ls (As.reverse ++ rest)) := by
  have hPc : va_P D classes cx H := (zP_l hP).sub isC (zk_fm hC)
  have hDc : va_D A cx := (zD_l hD).sub isC hnC hC
  have hFc := va_free (zD_l hD) hS hA isC hC
  refine va_calll (va_runS (As := As) (rest := rest) S0 hM cw ⟨zPre_blind, fun U hU hW => ⟨rfl, ⟨by rw [hU], by rw [hU]; exact hPc, va_K.moved hW.alike hK, hDc.weaken (fun _ _ _ _ => trivial)⟩⟩⟩ rfl hlen hsize rfl (lv_room hW) hdg hf) hS (fun q _ h => hFc q h) hFc (fun r u t H1 locs1 ht hvm hw hB hz1 hk1 hS1 => ?_)
  have hB : va_P D classes (w1 u) t.heap ∧ va_D (va_A cx H.size) (w1 u) := hB
  rw [ht] at hB
  obtain ⟨hP2, hD2⟩ := va_joinQ hP hD isC isR hC hR hn hdis hk1 hFc hB.1 hB.2
  exact kk r u H1 locs1 hw hP2 hD2 hS1
theorem zk_slOP  {post : Int64 → S → Prop} (hO : zO s) (hM : Met l y wsY rm (va_Pc As (zPreO D cs (cx ++ PL) H.size)) (va_Ql post (fun (u : S) (t : State) => va_P D classes (w1 u ++ pl1 u) t.heap ∧ va_D (va_A (cx ++ PL) H.size) (w1 u ++ pl1 u)) (va_A (cx ++ PL) H.size)) mc ms (va_A (cx ++ PL) H.size))
    (S0 : CallFix p m c cc nL s args zW own) (cw : CallB R s args own index y bytes maxL ret wsY rm mc ms n ∧ (Cond.static y).before args s = true)
    (hP : va_P D classes (X ++ PL) H) (hD : va_D A (X ++ PL)) (hS : va_S A s.heap H locs) (hK : va_K D classes (zT cs) s) (hA : ∀ q : Nat, s.heap.size ≤ q → A q) (isC isR : List Nat) (hC : isC.map (fun i => X[i]?) = cx.map some) (hnC : va_nd isC = true) (hR : isR.map (fun i => X[i]?) = (isR.filterMap (fun i => X[i]?)).map some) (hn : va_nd isR = true) (hdis : ∀ i ∈ isR, i ∉ isC)
    (hlen : As.length = n) (hsize : ls.size = nL) (hW : (rest.map fun v => v.category).sum ≤ 8) (hdg : decode cc pc = .ok (.invokestatic index, 3)) (hf : cells + mc ≤ R.cells ∧ slots + ms ≤ R.slots)
    (kk : ∀ (r : Int64) (u : S) (H1 : Heap) (locs1 : List Loc), post r u → va_P D classes ((isR.filterMap (fun i => X[i]?) ++ w1 u) ++ pl1 u) H1 → va_D A ((isR.filterMap (fun i => X[i]?) ++ w1 u) ++ pl1 u) → va_S A s.heap H1 locs1 → W p l e R s m args below meth c H1 locs1 (cells + mc) (slots + ms) Q (F0 m (pc + 3) ls (.long r :: rest))) :
    W p l e R s m args below meth c H locs cells slots Q (F0 m pc ls (As.reverse ++ rest)) := by
  have hPc : va_P D classes (cx ++ PL) H := hP.part isC hC
  have hDc : va_D A (cx ++ PL) := hD.part isC hnC hC
  have hFc := va_freeP hD hS hA isC hC
  refine va_calll (va_runS (As := As) (rest := rest) S0 hM cw ⟨zPreO_blind, fun U hU hW => ⟨rfl, ⟨by rw [hU], by rw [hU]; exact hPc, va_K.moved hW.alike hK, hDc.weaken (fun _ _ _ _ => trivial)⟩, zO.warm hW hO⟩⟩ rfl hlen hsize rfl (lv_room hW) hdg hf) hS (fun q _ h => hFc q h) hFc (fun r u t H1 locs1 ht hvm hw hB hz1 hk1 hS1 => ?_)
  have hB : va_P D classes (w1 u ++ pl1 u) t.heap ∧ va_D (va_A (cx ++ PL) H.size) (w1 u ++ pl1 u) := hB
  rw [ht] at hB
  obtain ⟨hP2, hD2⟩ := va_joinP hP hD isC isR hC hR hn hdis hk1 hFc hB.1 hB.2
  exact kk r u H1 locs1 hw hP2 hD2 hS1
theorem zk_slOQ  {post : Int64 → S → Prop} (hO : zO s) (hM : Met l y wsY rm (va_Pc As (zPreO D cs cx H.size)) (va_Ql post (fun (u : S) (t : State) => va_P D classes (w1 u) t.heap ∧ va_D (va_A cx H.size) (w1 u)) (va_A cx H.size)) mc ms (va_A cx H.size))
    (S0 : CallFix p m c cc nL s args zW own) (cw : CallB R s args own index y bytes maxL ret wsY rm mc ms n ∧ (Cond.static y).before args s = true)
    (hP : va_P D classes (X ++ PL) H) (hD : va_D A (X ++ PL)) (hS : va_S A s.heap H locs) (hK : va_K D classes (zT cs) s) (hA : ∀ q : Nat, s.heap.size ≤ q → A q) (isC isR : List Nat) (hC : isC.map (fun i => X[i]?) = cx.map some) (hnC : va_nd isC = true) (hR : isR.map (fun i => X[i]?) = (isR.filterMap (fun i => X[i]?)).map some) (hn : va_nd isR = true) (hdis : ∀ i ∈ isR, i ∉ isC)
    (hlen : As.length = n) (hsize : ls.size = nL) (hW : (rest.map fun v => v.category).sum ≤ 8) (hdg : decode cc pc = .ok (.invokestatic index, 3)) (hf : cells + mc ≤ R.cells ∧ slots + ms ≤ R.slots)
    (kk : ∀ (r : Int64) (u : S) (H1 : Heap) (locs1 : List Loc), post r u → va_P D classes ((isR.filterMap (fun i => X[i]?) ++ w1 u) ++ PL) H1 → va_D A ((isR.filterMap (fun i => X[i]?) ++ w1 u) ++ PL) → va_S A s.heap H1 locs1 → W p l e R s m args below meth c H1 locs1 (cells + mc) (slots + ms) Q (F0 m (pc + 3) ls (.long r :: rest))) :
    W p l e R s m args below meth c H locs cells slots Q (F0 m pc ls (As.reverse ++ rest)) := by
  have hPc : va_P D classes cx H := (zP_l hP).sub isC (zk_fm hC)
  have hDc : va_D A cx := (zD_l hD).sub isC hnC hC
  have hFc := va_free (zD_l hD) hS hA isC hC
  refine va_calll (va_runS (As := As) (rest := rest) S0 hM cw ⟨zPreO_blind, fun U hU hW => ⟨rfl, ⟨by rw [hU], by rw [hU]; exact hPc, va_K.moved hW.alike hK, hDc.weaken (fun _ _ _ _ => trivial)⟩, zO.warm hW hO⟩⟩ rfl hlen hsize rfl (lv_room hW) hdg hf) hS (fun q _ h => hFc q h) hFc (fun r u t H1 locs1 ht hvm hw hB hz1 hk1 hS1 => ?_)
  have hB : va_P D classes (w1 u) t.heap ∧ va_D (va_A cx H.size) (w1 u) := hB
  rw [ht] at hB
  obtain ⟨hP2, hD2⟩ := va_joinQ hP hD isC isR hC hR hn hdis hk1 hFc hB.1 hB.2
  exact kk r u H1 locs1 hw hP2 hD2 hS1
theorem zk_svP  {post : S → Prop} (hM : Met l y wsY rm (va_Pc As (zPre D cs (cx ++ PL) H.size)) (va_Qv post (fun (u : S) (t : State) => va_P D classes (w1 u ++ pl1 u) t.heap ∧ va_D (va_A (cx ++ PL) H.size) (w1 u ++ pl1 u)) (va_A (cx ++ PL) H.size)) mc ms (va_A (cx ++ PL) H.size))
    (S0 : CallFix p m c cc nL s args zW own) (cw : CallB R s args own index y bytes maxL ret wsY rm mc ms n ∧ (Cond.static y).before args s = true)
    (hP : va_P D classes (X ++ PL) H) (hD : va_D A (X ++ PL)) (hS : va_S A s.heap H locs) (hK : va_K D classes (zT cs) s) (hA : ∀ q : Nat, s.heap.size ≤ q → A q) (isC isR : List Nat) (hC : isC.map (fun i => X[i]?) = cx.map some) (hnC : va_nd isC = true) (hR : isR.map (fun i => X[i]?) = (isR.filterMap (fun i => X[i]?)).map some) (hn : va_nd isR = true) (hdis : ∀ i ∈ isR, i ∉ isC)
    (hlen : As.length = n) (hsize : ls.size = nL) (hW : (rest.map fun v => v.category).sum ≤ 8) (hdg : decode cc pc = .ok (.invokestatic index, 3)) (hf : cells + mc ≤ R.cells ∧ slots + ms ≤ R.slots)
    (kk : ∀ (u : S) (H1 : Heap) (locs1 : List Loc), post u → va_P D classes ((isR.filterMap (fun i => X[i]?) ++ w1 u) ++ pl1 u) H1 → va_D A ((isR.filterMap (fun i => X[i]?) ++ w1 u) ++ pl1 u) → va_S A s.heap H1 locs1 → W p l e R s m args below meth c H1 locs1 (cells + mc) (slots + ms) Q (F0 m (pc + 3) ls (rest))) :
    W p l e R s m args below meth c H locs cells slots Q (F0 m pc ls (As.reverse ++ rest)) := by
  have hPc : va_P D classes (cx ++ PL) H := hP.part isC hC
  have hDc : va_D A (cx ++ PL) := hD.part isC hnC hC
  have hFc := va_freeP hD hS hA isC hC
  refine va_callv (va_runS (As := As) (rest := rest) S0 hM cw ⟨zPre_blind, fun U hU hW => ⟨rfl, ⟨by rw [hU], by rw [hU]; exact hPc, va_K.moved hW.alike hK, hDc.weaken (fun _ _ _ _ => trivial)⟩⟩⟩ rfl hlen hsize rfl (lv_room hW) hdg hf) hS (fun q _ h => hFc q h) hFc (fun u t H1 locs1 ht hvm hw hB hz1 hk1 hS1 => ?_)
  have hB : va_P D classes (w1 u ++ pl1 u) t.heap ∧ va_D (va_A (cx ++ PL) H.size) (w1 u ++ pl1 u) := hB
  rw [ht] at hB
  obtain ⟨hP2, hD2⟩ := va_joinP hP hD isC isR hC hR hn hdis hk1 hFc hB.1 hB.2
  exact kk u H1 locs1 hw hP2 hD2 hS1
theorem zk_svQ  {post : S → Prop} (hM : Met l y wsY rm (va_Pc As (zPre D cs cx H.size)) (va_Qv post (fun (u : S) (t : State) => va_P D classes (w1 u) t.heap ∧ va_D (va_A cx H.size) (w1 u)) (va_A cx H.size)) mc ms (va_A cx H.size))
    (S0 : CallFix p m c cc nL s args zW own) (cw : CallB R s args own index y bytes maxL ret wsY rm mc ms n ∧ (Cond.static y).before args s = true)
    (hP : va_P D classes (X ++ PL) H) (hD : va_D A (X ++ PL)) (hS : va_S A s.heap H locs) (hK : va_K D classes (zT cs) s) (hA : ∀ q : Nat, s.heap.size ≤ q → A q) (isC isR : List Nat) (hC : isC.map (fun i => X[i]?) = cx.map some) (hnC : va_nd isC = true) (hR : isR.map (fun i => X[i]?) = (isR.filterMap (fun i => X[i]?)).map some) (hn : va_nd isR = true) (hdis : ∀ i ∈ isR, i ∉ isC)
    (hlen : As.length = n) (hsize : ls.size = nL) (hW : (rest.map fun v => v.category).sum ≤ 8) (hdg : decode cc pc = .ok (.invokestatic index, 3)) (hf : cells + mc ≤ R.cells ∧ slots + ms ≤ R.slots)
    (kk : ∀ (u : S) (H1 : Heap) (locs1 : List Loc), post u → va_P D classes ((isR.filterMap (fun i => X[i]?) ++ w1 u) ++ PL) H1 → va_D A ((isR.filterMap (fun i => X[i]?) ++ w1 u) ++ PL) → va_S A s.heap H1 locs1 → W p l e R s m args below meth c H1 locs1 (cells + mc) (slots + ms) Q (F0 m (pc + 3) ls (rest))) :
    W p l e R s m args below meth c H locs cells slots Q (F0 m pc ls (As.reverse ++ rest)) := by
  have hPc : va_P D classes cx H := (zP_l hP).sub isC (zk_fm hC)
  have hDc : va_D A cx := (zD_l hD).sub isC hnC hC
  have hFc := va_free (zD_l hD) hS hA isC hC
  refine va_callv (va_runS (As := As) (rest := rest) S0 hM cw ⟨zPre_blind, fun U hU hW => ⟨rfl, ⟨by rw [hU], by rw [hU]; exact hPc, va_K.moved hW.alike hK, hDc.weaken (fun _ _ _ _ => trivial)⟩⟩⟩ rfl hlen hsize rfl (lv_room hW) hdg hf) hS (fun q _ h => hFc q h) hFc (fun u t H1 locs1 ht hvm hw hB hz1 hk1 hS1 => ?_)
  have hB : va_P D classes (w1 u) t.heap ∧ va_D (va_A cx H.size) (w1 u) := hB
  rw [ht] at hB
  obtain ⟨hP2, hD2⟩ := va_joinQ hP hD isC isR hC hR hn hdis hk1 hFc hB.1 hB.2
  exact kk u H1 locs1 hw hP2 hD2 hS1
theorem zk_svOP  {post : S → Prop} (hO : zO s) (hM : Met l y wsY rm (va_Pc As (zPreO D cs (cx ++ PL) H.size)) (va_Qv post (fun (u : S) (t : State) => va_P D classes (w1 u ++ pl1 u) t.heap ∧ va_D (va_A (cx ++ PL) H.size) (w1 u ++ pl1 u)) (va_A (cx ++ PL) H.size)) mc ms (va_A (cx ++ PL) H.size))
    (S0 : CallFix p m c cc nL s args zW own) (cw : CallB R s args own index y bytes maxL ret wsY rm mc ms n ∧ (Cond.static y).before args s = true)
    (hP : va_P D classes (X ++ PL) H) (hD : va_D A (X ++ PL)) (hS : va_S A s.heap H locs) (hK : va_K D classes (zT cs) s) (hA : ∀ q : Nat, s.heap.size ≤ q → A q) (isC isR : List Nat) (hC : isC.map (fun i => X[i]?) = cx.map some) (hnC : va_nd isC = true) (hR : isR.map (fun i => X[i]?) = (isR.filterMap (fun i => X[i]?)).map some) (hn : va_nd isR = true) (hdis : ∀ i ∈ isR, i ∉ isC)
    (hlen : As.length = n) (hsize : ls.size = nL) (hW : (rest.map fun v => v.category).sum ≤ 8) (hdg : decode cc pc = .ok (.invokestatic index, 3)) (hf : cells + mc ≤ R.cells ∧ slots + ms ≤ R.slots)
    (kk : ∀ (u : S) (H1 : Heap) (locs1 : List Loc), post u → va_P D classes ((isR.filterMap (fun i => X[i]?) ++ w1 u) ++ pl1 u) H1 → va_D A ((isR.filterMap (fun i => X[i]?) ++ w1 u) ++ pl1 u) → va_S A s.heap H1 locs1 → W p l e R s m args below meth c H1 locs1 (cells + mc) (slots + ms) Q (F0 m (pc + 3) ls (rest))) :
    W p l e R s m args below meth c H locs cells slots Q (F0 m pc ls (As.reverse ++ rest)) := by
  have hPc : va_P D classes (cx ++ PL) H := hP.part isC hC
  have hDc : va_D A (cx ++ PL) := hD.part isC hnC hC
  have hFc := va_freeP hD hS hA isC hC
  refine va_callv (va_runS (As := As) (rest := rest) S0 hM cw ⟨zPreO_blind, fun U hU hW => ⟨rfl, ⟨by rw [hU], by rw [hU]; exact hPc, va_K.moved hW.alike hK, hDc.weaken (fun _ _ _ _ => trivial)⟩, zO.warm hW hO⟩⟩ rfl hlen hsize rfl (lv_room hW) hdg hf) hS (fun q _ h => hFc q h) hFc (fun u t H1 locs1 ht hvm hw hB hz1 hk1 hS1 => ?_)
  have hB : va_P D classes (w1 u ++ pl1 u) t.heap ∧ va_D (va_A (cx ++ PL) H.size) (w1 u ++ pl1 u) := hB
  rw [ht] at hB
  obtain ⟨hP2, hD2⟩ := va_joinP hP hD isC isR hC hR hn hdis hk1 hFc hB.1 hB.2
  exact kk u H1 locs1 hw hP2 hD2 hS1
theorem zk_svOQ  {post : S → Prop} (hO : zO s) (hM : Met l y wsY rm (va_Pc As (zPreO D cs cx H.size)) (va_Qv post (fun (u : S) (t : State) => va_P D classes (w1 u) t.heap ∧ va_D (va_A cx H.size) (w1 u)) (va_A cx H.size)) mc ms (va_A cx H.size))
    (S0 : CallFix p m c cc nL s args zW own) (cw : CallB R s args own index y bytes maxL ret wsY rm mc ms n ∧ (Cond.static y).before args s = true)
    (hP : va_P D classes (X ++ PL) H) (hD : va_D A (X ++ PL)) (hS : va_S A s.heap H locs) (hK : va_K D classes (zT cs) s) (hA : ∀ q : Nat, s.heap.size ≤ q → A q) (isC isR : List Nat) (hC : isC.map (fun i => X[i]?) = cx.map some) (hnC : va_nd isC = true) (hR : isR.map (fun i => X[i]?) = (isR.filterMap (fun i => X[i]?)).map some) (hn : va_nd isR = true) (hdis : ∀ i ∈ isR, i ∉ isC)
    (hlen : As.length = n) (hsize : ls.size = nL) (hW : (rest.map fun v => v.category).sum ≤ 8) (hdg : decode cc pc = .ok (.invokestatic index, 3)) (hf : cells + mc ≤ R.cells ∧ slots + ms ≤ R.slots)
    (kk : ∀ (u : S) (H1 : Heap) (locs1 : List Loc), post u → va_P D classes ((isR.filterMap (fun i => X[i]?) ++ w1 u) ++ PL) H1 → va_D A ((isR.filterMap (fun i => X[i]?) ++ w1 u) ++ PL) → va_S A s.heap H1 locs1 → W p l e R s m args below meth c H1 locs1 (cells + mc) (slots + ms) Q (F0 m (pc + 3) ls (rest))) :
    W p l e R s m args below meth c H locs cells slots Q (F0 m pc ls (As.reverse ++ rest)) := by
  have hPc : va_P D classes cx H := (zP_l hP).sub isC (zk_fm hC)
  have hDc : va_D A cx := (zD_l hD).sub isC hnC hC
  have hFc := va_free (zD_l hD) hS hA isC hC
  refine va_callv (va_runS (As := As) (rest := rest) S0 hM cw ⟨zPreO_blind, fun U hU hW => ⟨rfl, ⟨by rw [hU], by rw [hU]; exact hPc, va_K.moved hW.alike hK, hDc.weaken (fun _ _ _ _ => trivial)⟩, zO.warm hW hO⟩⟩ rfl hlen hsize rfl (lv_room hW) hdg hf) hS (fun q _ h => hFc q h) hFc (fun u t H1 locs1 ht hvm hw hB hz1 hk1 hS1 => ?_)
  have hB : va_P D classes (w1 u) t.heap ∧ va_D (va_A cx H.size) (w1 u) := hB
  rw [ht] at hB
  obtain ⟨hP2, hD2⟩ := va_joinQ hP hD isC isR hC hR hn hdis hk1 hFc hB.1 hB.2
  exact kk u H1 locs1 hw hP2 hD2 hS1
theorem zk_sqP  {post : Option Nat → S → Prop} (hM : Met l y wsY rm (va_Pc As (zPre D cs (cx ++ PL) H.size)) (va_Qq post (fun (u : S) (t : State) => va_P D classes (w1 u ++ pl1 u) t.heap ∧ va_D (va_A (cx ++ PL) H.size) (w1 u ++ pl1 u)) (va_A (cx ++ PL) H.size)) mc ms (va_A (cx ++ PL) H.size))
    (S0 : CallFix p m c cc nL s args zW own) (cw : CallB R s args own index y bytes maxL ret wsY rm mc ms n ∧ (Cond.static y).before args s = true)
    (hP : va_P D classes (X ++ PL) H) (hD : va_D A (X ++ PL)) (hS : va_S A s.heap H locs) (hK : va_K D classes (zT cs) s) (hA : ∀ q : Nat, s.heap.size ≤ q → A q) (isC isR : List Nat) (hC : isC.map (fun i => X[i]?) = cx.map some) (hnC : va_nd isC = true) (hR : isR.map (fun i => X[i]?) = (isR.filterMap (fun i => X[i]?)).map some) (hn : va_nd isR = true) (hdis : ∀ i ∈ isR, i ∉ isC)
    (hlen : As.length = n) (hsize : ls.size = nL) (hW : (rest.map fun v => v.category).sum ≤ 8) (hdg : decode cc pc = .ok (.invokestatic index, 3)) (hf : cells + mc ≤ R.cells ∧ slots + ms ≤ R.slots)
    (kk : ∀ (r : Option Nat) (u : S) (H1 : Heap) (locs1 : List Loc), post r u → va_P D classes ((isR.filterMap (fun i => X[i]?) ++ w1 u) ++ pl1 u) H1 → va_D A ((isR.filterMap (fun i => X[i]?) ++ w1 u) ++ pl1 u) → va_S A s.heap H1 locs1 → W p l e R s m args below meth c H1 locs1 (cells + mc) (slots + ms) Q (F0 m (pc + 3) ls (va_rf r :: rest))) :
    W p l e R s m args below meth c H locs cells slots Q (F0 m pc ls (As.reverse ++ rest)) := by
  have hPc : va_P D classes (cx ++ PL) H := hP.part isC hC
  have hDc : va_D A (cx ++ PL) := hD.part isC hnC hC
  have hFc := va_freeP hD hS hA isC hC
  refine va_callq (va_runS (As := As) (rest := rest) S0 hM cw ⟨zPre_blind, fun U hU hW => ⟨rfl, ⟨by rw [hU], by rw [hU]; exact hPc, va_K.moved hW.alike hK, hDc.weaken (fun _ _ _ _ => trivial)⟩⟩⟩ rfl hlen hsize rfl (lv_room hW) hdg hf) hS (fun q _ h => hFc q h) hFc (fun r u t H1 locs1 ht hvm hw hB hz1 hk1 hS1 => ?_)
  have hB : va_P D classes (w1 u ++ pl1 u) t.heap ∧ va_D (va_A (cx ++ PL) H.size) (w1 u ++ pl1 u) := hB
  rw [ht] at hB
  obtain ⟨hP2, hD2⟩ := va_joinP hP hD isC isR hC hR hn hdis hk1 hFc hB.1 hB.2
  exact kk r u H1 locs1 hw hP2 hD2 hS1
theorem zk_sqQ  {post : Option Nat → S → Prop} (hM : Met l y wsY rm (va_Pc As (zPre D cs cx H.size)) (va_Qq post (fun (u : S) (t : State) => va_P D classes (w1 u) t.heap ∧ va_D (va_A cx H.size) (w1 u)) (va_A cx H.size)) mc ms (va_A cx H.size))
    (S0 : CallFix p m c cc nL s args zW own) (cw : CallB R s args own index y bytes maxL ret wsY rm mc ms n ∧ (Cond.static y).before args s = true)
    (hP : va_P D classes (X ++ PL) H) (hD : va_D A (X ++ PL)) (hS : va_S A s.heap H locs) (hK : va_K D classes (zT cs) s) (hA : ∀ q : Nat, s.heap.size ≤ q → A q) (isC isR : List Nat) (hC : isC.map (fun i => X[i]?) = cx.map some) (hnC : va_nd isC = true) (hR : isR.map (fun i => X[i]?) = (isR.filterMap (fun i => X[i]?)).map some) (hn : va_nd isR = true) (hdis : ∀ i ∈ isR, i ∉ isC)
    (hlen : As.length = n) (hsize : ls.size = nL) (hW : (rest.map fun v => v.category).sum ≤ 8) (hdg : decode cc pc = .ok (.invokestatic index, 3)) (hf : cells + mc ≤ R.cells ∧ slots + ms ≤ R.slots)
    (kk : ∀ (r : Option Nat) (u : S) (H1 : Heap) (locs1 : List Loc), post r u → va_P D classes ((isR.filterMap (fun i => X[i]?) ++ w1 u) ++ PL) H1 → va_D A ((isR.filterMap (fun i => X[i]?) ++ w1 u) ++ PL) → va_S A s.heap H1 locs1 → W p l e R s m args below meth c H1 locs1 (cells + mc) (slots + ms) Q (F0 m (pc + 3) ls (va_rf r :: rest))) :
    W p l e R s m args below meth c H locs cells slots Q (F0 m pc ls (As.reverse ++ rest)) := by
  have hPc : va_P D classes cx H := (zP_l hP).sub isC (zk_fm hC)
  have hDc : va_D A cx := (zD_l hD).sub isC hnC hC
  have hFc := va_free (zD_l hD) hS hA isC hC
  refine va_callq (va_runS (As := As) (rest := rest) S0 hM cw ⟨zPre_blind, fun U hU hW => ⟨rfl, ⟨by rw [hU], by rw [hU]; exact hPc, va_K.moved hW.alike hK, hDc.weaken (fun _ _ _ _ => trivial)⟩⟩⟩ rfl hlen hsize rfl (lv_room hW) hdg hf) hS (fun q _ h => hFc q h) hFc (fun r u t H1 locs1 ht hvm hw hB hz1 hk1 hS1 => ?_)
  have hB : va_P D classes (w1 u) t.heap ∧ va_D (va_A cx H.size) (w1 u) := hB
  rw [ht] at hB
  obtain ⟨hP2, hD2⟩ := va_joinQ hP hD isC isR hC hR hn hdis hk1 hFc hB.1 hB.2
  exact kk r u H1 locs1 hw hP2 hD2 hS1
theorem zk_sqOP  {post : Option Nat → S → Prop} (hO : zO s) (hM : Met l y wsY rm (va_Pc As (zPreO D cs (cx ++ PL) H.size)) (va_Qq post (fun (u : S) (t : State) => va_P D classes (w1 u ++ pl1 u) t.heap ∧ va_D (va_A (cx ++ PL) H.size) (w1 u ++ pl1 u)) (va_A (cx ++ PL) H.size)) mc ms (va_A (cx ++ PL) H.size))
    (S0 : CallFix p m c cc nL s args zW own) (cw : CallB R s args own index y bytes maxL ret wsY rm mc ms n ∧ (Cond.static y).before args s = true)
    (hP : va_P D classes (X ++ PL) H) (hD : va_D A (X ++ PL)) (hS : va_S A s.heap H locs) (hK : va_K D classes (zT cs) s) (hA : ∀ q : Nat, s.heap.size ≤ q → A q) (isC isR : List Nat) (hC : isC.map (fun i => X[i]?) = cx.map some) (hnC : va_nd isC = true) (hR : isR.map (fun i => X[i]?) = (isR.filterMap (fun i => X[i]?)).map some) (hn : va_nd isR = true) (hdis : ∀ i ∈ isR, i ∉ isC)
    (hlen : As.length = n) (hsize : ls.size = nL) (hW : (rest.map fun v => v.category).sum ≤ 8) (hdg : decode cc pc = .ok (.invokestatic index, 3)) (hf : cells + mc ≤ R.cells ∧ slots + ms ≤ R.slots)
    (kk : ∀ (r : Option Nat) (u : S) (H1 : Heap) (locs1 : List Loc), post r u → va_P D classes ((isR.filterMap (fun i => X[i]?) ++ w1 u) ++ pl1 u) H1 → va_D A ((isR.filterMap (fun i => X[i]?) ++ w1 u) ++ pl1 u) → va_S A s.heap H1 locs1 → W p l e R s m args below meth c H1 locs1 (cells + mc) (slots + ms) Q (F0 m (pc + 3) ls (va_rf r :: rest))) :
    W p l e R s m args below meth c H locs cells slots Q (F0 m pc ls (As.reverse ++ rest)) := by
  have hPc : va_P D classes (cx ++ PL) H := hP.part isC hC
  have hDc : va_D A (cx ++ PL) := hD.part isC hnC hC
  have hFc := va_freeP hD hS hA isC hC
  refine va_callq (va_runS (As := As) (rest := rest) S0 hM cw ⟨zPreO_blind, fun U hU hW => ⟨rfl, ⟨by rw [hU], by rw [hU]; exact hPc, va_K.moved hW.alike hK, hDc.weaken (fun _ _ _ _ => trivial)⟩, zO.warm hW hO⟩⟩ rfl hlen hsize rfl (lv_room hW) hdg hf) hS (fun q _ h => hFc q h) hFc (fun r u t H1 locs1 ht hvm hw hB hz1 hk1 hS1 => ?_)
  have hB : va_P D classes (w1 u ++ pl1 u) t.heap ∧ va_D (va_A (cx ++ PL) H.size) (w1 u ++ pl1 u) := hB
  rw [ht] at hB
  obtain ⟨hP2, hD2⟩ := va_joinP hP hD isC isR hC hR hn hdis hk1 hFc hB.1 hB.2
  exact kk r u H1 locs1 hw hP2 hD2 hS1
theorem zk_sqOQ  {post : Option Nat → S → Prop} (hO : zO s) (hM : Met l y wsY rm (va_Pc As (zPreO D cs cx H.size)) (va_Qq post (fun (u : S) (t : State) => va_P D classes (w1 u) t.heap ∧ va_D (va_A cx H.size) (w1 u)) (va_A cx H.size)) mc ms (va_A cx H.size))
    (S0 : CallFix p m c cc nL s args zW own) (cw : CallB R s args own index y bytes maxL ret wsY rm mc ms n ∧ (Cond.static y).before args s = true)
    (hP : va_P D classes (X ++ PL) H) (hD : va_D A (X ++ PL)) (hS : va_S A s.heap H locs) (hK : va_K D classes (zT cs) s) (hA : ∀ q : Nat, s.heap.size ≤ q → A q) (isC isR : List Nat) (hC : isC.map (fun i => X[i]?) = cx.map some) (hnC : va_nd isC = true) (hR : isR.map (fun i => X[i]?) = (isR.filterMap (fun i => X[i]?)).map some) (hn : va_nd isR = true) (hdis : ∀ i ∈ isR, i ∉ isC)
    (hlen : As.length = n) (hsize : ls.size = nL) (hW : (rest.map fun v => v.category).sum ≤ 8) (hdg : decode cc pc = .ok (.invokestatic index, 3)) (hf : cells + mc ≤ R.cells ∧ slots + ms ≤ R.slots)
    (kk : ∀ (r : Option Nat) (u : S) (H1 : Heap) (locs1 : List Loc), post r u → va_P D classes ((isR.filterMap (fun i => X[i]?) ++ w1 u) ++ PL) H1 → va_D A ((isR.filterMap (fun i => X[i]?) ++ w1 u) ++ PL) → va_S A s.heap H1 locs1 → W p l e R s m args below meth c H1 locs1 (cells + mc) (slots + ms) Q (F0 m (pc + 3) ls (va_rf r :: rest))) :
    W p l e R s m args below meth c H locs cells slots Q (F0 m pc ls (As.reverse ++ rest)) := by
  have hPc : va_P D classes cx H := (zP_l hP).sub isC (zk_fm hC)
  have hDc : va_D A cx := (zD_l hD).sub isC hnC hC
  have hFc := va_free (zD_l hD) hS hA isC hC
  refine va_callq (va_runS (As := As) (rest := rest) S0 hM cw ⟨zPreO_blind, fun U hU hW => ⟨rfl, ⟨by rw [hU], by rw [hU]; exact hPc, va_K.moved hW.alike hK, hDc.weaken (fun _ _ _ _ => trivial)⟩, zO.warm hW hO⟩⟩ rfl hlen hsize rfl (lv_room hW) hdg hf) hS (fun q _ h => hFc q h) hFc (fun r u t H1 locs1 ht hvm hw hB hz1 hk1 hS1 => ?_)
  have hB : va_P D classes (w1 u) t.heap ∧ va_D (va_A cx H.size) (w1 u) := hB
  rw [ht] at hB
  obtain ⟨hP2, hD2⟩ := va_joinQ hP hD isC isR hC hR hn hdis hk1 hFc hB.1 hB.2
  exact kk r u H1 locs1 hw hP2 hD2 hS1
theorem zk_niP  {post : Int32 → S → Prop} (hM : Met l y wsY rm (va_Pc (.ref b :: As) (zPre D cs (cx ++ PL) H.size)) (va_Qi post (fun (u : S) (t : State) => va_P D classes (w1 u ++ pl1 u) t.heap ∧ va_D (va_A (cx ++ PL) H.size) (w1 u ++ pl1 u)) (va_A (cx ++ PL) H.size)) mc ms (va_A (cx ++ PL) H.size))
    (S0 : CallFix p m c cc nL s args zW own) (cw : va_CN R s args own index y host bytes maxL ret wsY rm mc ms n ∧ (Cond.instanceMethod y).before args s = true ∧ (Cond.selects C y y).before args s = true) (hrv : ∃ cellB : Cell, H[b]? = some cellB ∧ cellB.vm.isStatics = false ∧ s.vm.findClass C = some cellB.cls)
    (hP : va_P D classes (X ++ PL) H) (hD : va_D A (X ++ PL)) (hS : va_S A s.heap H locs) (hK : va_K D classes (zT cs) s) (hA : ∀ q : Nat, s.heap.size ≤ q → A q) (isC isR : List Nat) (hC : isC.map (fun i => X[i]?) = cx.map some) (hnC : va_nd isC = true) (hR : isR.map (fun i => X[i]?) = (isR.filterMap (fun i => X[i]?)).map some) (hn : va_nd isR = true) (hdis : ∀ i ∈ isR, i ∉ isC)
    (hlen : As.length = n) (hsize : ls.size = nL) (hW : (rest.map fun v => v.category).sum ≤ 8) (hdg : decode cc pc = .ok (.invokevirtual index, 3)) (hf : cells + mc ≤ R.cells ∧ slots + ms ≤ R.slots)
    (kk : ∀ (r : Int32) (u : S) (H1 : Heap) (locs1 : List Loc), post r u → va_P D classes ((isR.filterMap (fun i => X[i]?) ++ w1 u) ++ pl1 u) H1 → va_D A ((isR.filterMap (fun i => X[i]?) ++ w1 u) ++ pl1 u) → va_S A s.heap H1 locs1 → W p l e R s m args below meth c H1 locs1 (cells + mc) (slots + ms) Q (F0 m (pc + 3) ls (.int r :: rest))) :
    W p l e R s m args below meth c H locs cells slots Q (F0 m pc ls (As.reverse ++ .ref b :: rest)) := by
  have hPc : va_P D classes (cx ++ PL) H := hP.part isC hC
  have hDc : va_D A (cx ++ PL) := hD.part isC hnC hC
  have hFc := va_freeP hD hS hA isC hC
  refine va_calli (va_runVN (As := As) (rest := rest) S0 hM cw ⟨zPre_blind, hrv, fun U hU hW => ⟨rfl, ⟨by rw [hU], by rw [hU]; exact hPc, va_K.moved hW.alike hK, hDc.weaken (fun _ _ _ _ => trivial)⟩⟩⟩ rfl hlen hsize rfl (lv_room hW) hdg hf) hS (fun q _ h => hFc q h) hFc (fun r u t H1 locs1 ht hvm hw hB hz1 hk1 hS1 => ?_)
  have hB : va_P D classes (w1 u ++ pl1 u) t.heap ∧ va_D (va_A (cx ++ PL) H.size) (w1 u ++ pl1 u) := hB
  rw [ht] at hB
  obtain ⟨hP2, hD2⟩ := va_joinP hP hD isC isR hC hR hn hdis hk1 hFc hB.1 hB.2
  exact kk r u H1 locs1 hw hP2 hD2 hS1
theorem zk_niQ  {post : Int32 → S → Prop} (hM : Met l y wsY rm (va_Pc (.ref b :: As) (zPre D cs cx H.size)) (va_Qi post (fun (u : S) (t : State) => va_P D classes (w1 u) t.heap ∧ va_D (va_A cx H.size) (w1 u)) (va_A cx H.size)) mc ms (va_A cx H.size))
    (S0 : CallFix p m c cc nL s args zW own) (cw : va_CN R s args own index y host bytes maxL ret wsY rm mc ms n ∧ (Cond.instanceMethod y).before args s = true ∧ (Cond.selects C y y).before args s = true) (hrv : ∃ cellB : Cell, H[b]? = some cellB ∧ cellB.vm.isStatics = false ∧ s.vm.findClass C = some cellB.cls)
    (hP : va_P D classes (X ++ PL) H) (hD : va_D A (X ++ PL)) (hS : va_S A s.heap H locs) (hK : va_K D classes (zT cs) s) (hA : ∀ q : Nat, s.heap.size ≤ q → A q) (isC isR : List Nat) (hC : isC.map (fun i => X[i]?) = cx.map some) (hnC : va_nd isC = true) (hR : isR.map (fun i => X[i]?) = (isR.filterMap (fun i => X[i]?)).map some) (hn : va_nd isR = true) (hdis : ∀ i ∈ isR, i ∉ isC)
    (hlen : As.length = n) (hsize : ls.size = nL) (hW : (rest.map fun v => v.category).sum ≤ 8) (hdg : decode cc pc = .ok (.invokevirtual index, 3)) (hf : cells + mc ≤ R.cells ∧ slots + ms ≤ R.slots)
    (kk : ∀ (r : Int32) (u : S) (H1 : Heap) (locs1 : List Loc), post r u → va_P D classes ((isR.filterMap (fun i => X[i]?) ++ w1 u) ++ PL) H1 → va_D A ((isR.filterMap (fun i => X[i]?) ++ w1 u) ++ PL) → va_S A s.heap H1 locs1 → W p l e R s m args below meth c H1 locs1 (cells + mc) (slots + ms) Q (F0 m (pc + 3) ls (.int r :: rest))) :
    W p l e R s m args below meth c H locs cells slots Q (F0 m pc ls (As.reverse ++ .ref b :: rest)) := by
  have hPc : va_P D classes cx H := (zP_l hP).sub isC (zk_fm hC)
  have hDc : va_D A cx := (zD_l hD).sub isC hnC hC
  have hFc := va_free (zD_l hD) hS hA isC hC
  refine va_calli (va_runVN (As := As) (rest := rest) S0 hM cw ⟨zPre_blind, hrv, fun U hU hW => ⟨rfl, ⟨by rw [hU], by rw [hU]; exact hPc, va_K.moved hW.alike hK, hDc.weaken (fun _ _ _ _ => trivial)⟩⟩⟩ rfl hlen hsize rfl (lv_room hW) hdg hf) hS (fun q _ h => hFc q h) hFc (fun r u t H1 locs1 ht hvm hw hB hz1 hk1 hS1 => ?_)
  have hB : va_P D classes (w1 u) t.heap ∧ va_D (va_A cx H.size) (w1 u) := hB
  rw [ht] at hB
  obtain ⟨hP2, hD2⟩ := va_joinQ hP hD isC isR hC hR hn hdis hk1 hFc hB.1 hB.2
  exact kk r u H1 locs1 hw hP2 hD2 hS1
theorem zk_niOP  {post : Int32 → S → Prop} (hO : zO s) (hM : Met l y wsY rm (va_Pc (.ref b :: As) (zPreO D cs (cx ++ PL) H.size)) (va_Qi post (fun (u : S) (t : State) => va_P D classes (w1 u ++ pl1 u) t.heap ∧ va_D (va_A (cx ++ PL) H.size) (w1 u ++ pl1 u)) (va_A (cx ++ PL) H.size)) mc ms (va_A (cx ++ PL) H.size))
    (S0 : CallFix p m c cc nL s args zW own) (cw : va_CN R s args own index y host bytes maxL ret wsY rm mc ms n ∧ (Cond.instanceMethod y).before args s = true ∧ (Cond.selects C y y).before args s = true) (hrv : ∃ cellB : Cell, H[b]? = some cellB ∧ cellB.vm.isStatics = false ∧ s.vm.findClass C = some cellB.cls)
    (hP : va_P D classes (X ++ PL) H) (hD : va_D A (X ++ PL)) (hS : va_S A s.heap H locs) (hK : va_K D classes (zT cs) s) (hA : ∀ q : Nat, s.heap.size ≤ q → A q) (isC isR : List Nat) (hC : isC.map (fun i => X[i]?) = cx.map some) (hnC : va_nd isC = true) (hR : isR.map (fun i => X[i]?) = (isR.filterMap (fun i => X[i]?)).map some) (hn : va_nd isR = true) (hdis : ∀ i ∈ isR, i ∉ isC)
    (hlen : As.length = n) (hsize : ls.size = nL) (hW : (rest.map fun v => v.category).sum ≤ 8) (hdg : decode cc pc = .ok (.invokevirtual index, 3)) (hf : cells + mc ≤ R.cells ∧ slots + ms ≤ R.slots)
    (kk : ∀ (r : Int32) (u : S) (H1 : Heap) (locs1 : List Loc), post r u → va_P D classes ((isR.filterMap (fun i => X[i]?) ++ w1 u) ++ pl1 u) H1 → va_D A ((isR.filterMap (fun i => X[i]?) ++ w1 u) ++ pl1 u) → va_S A s.heap H1 locs1 → W p l e R s m args below meth c H1 locs1 (cells + mc) (slots + ms) Q (F0 m (pc + 3) ls (.int r :: rest))) :
    W p l e R s m args below meth c H locs cells slots Q (F0 m pc ls (As.reverse ++ .ref b :: rest)) := by
  have hPc : va_P D classes (cx ++ PL) H := hP.part isC hC
  have hDc : va_D A (cx ++ PL) := hD.part isC hnC hC
  have hFc := va_freeP hD hS hA isC hC
  refine va_calli (va_runVN (As := As) (rest := rest) S0 hM cw ⟨zPreO_blind, hrv, fun U hU hW => ⟨rfl, ⟨by rw [hU], by rw [hU]; exact hPc, va_K.moved hW.alike hK, hDc.weaken (fun _ _ _ _ => trivial)⟩, zO.warm hW hO⟩⟩ rfl hlen hsize rfl (lv_room hW) hdg hf) hS (fun q _ h => hFc q h) hFc (fun r u t H1 locs1 ht hvm hw hB hz1 hk1 hS1 => ?_)
  have hB : va_P D classes (w1 u ++ pl1 u) t.heap ∧ va_D (va_A (cx ++ PL) H.size) (w1 u ++ pl1 u) := hB
  rw [ht] at hB
  obtain ⟨hP2, hD2⟩ := va_joinP hP hD isC isR hC hR hn hdis hk1 hFc hB.1 hB.2
  exact kk r u H1 locs1 hw hP2 hD2 hS1
theorem zk_niOQ  {post : Int32 → S → Prop} (hO : zO s) (hM : Met l y wsY rm (va_Pc (.ref b :: As) (zPreO D cs cx H.size)) (va_Qi post (fun (u : S) (t : State) => va_P D classes (w1 u) t.heap ∧ va_D (va_A cx H.size) (w1 u)) (va_A cx H.size)) mc ms (va_A cx H.size))
    (S0 : CallFix p m c cc nL s args zW own) (cw : va_CN R s args own index y host bytes maxL ret wsY rm mc ms n ∧ (Cond.instanceMethod y).before args s = true ∧ (Cond.selects C y y).before args s = true) (hrv : ∃ cellB : Cell, H[b]? = some cellB ∧ cellB.vm.isStatics = false ∧ s.vm.findClass C = some cellB.cls)
    (hP : va_P D classes (X ++ PL) H) (hD : va_D A (X ++ PL)) (hS : va_S A s.heap H locs) (hK : va_K D classes (zT cs) s) (hA : ∀ q : Nat, s.heap.size ≤ q → A q) (isC isR : List Nat) (hC : isC.map (fun i => X[i]?) = cx.map some) (hnC : va_nd isC = true) (hR : isR.map (fun i => X[i]?) = (isR.filterMap (fun i => X[i]?)).map some) (hn : va_nd isR = true) (hdis : ∀ i ∈ isR, i ∉ isC)
    (hlen : As.length = n) (hsize : ls.size = nL) (hW : (rest.map fun v => v.category).sum ≤ 8) (hdg : decode cc pc = .ok (.invokevirtual index, 3)) (hf : cells + mc ≤ R.cells ∧ slots + ms ≤ R.slots)
    (kk : ∀ (r : Int32) (u : S) (H1 : Heap) (locs1 : List Loc), post r u → va_P D classes ((isR.filterMap (fun i => X[i]?) ++ w1 u) ++ PL) H1 → va_D A ((isR.filterMap (fun i => X[i]?) ++ w1 u) ++ PL) → va_S A s.heap H1 locs1 → W p l e R s m args below meth c H1 locs1 (cells + mc) (slots + ms) Q (F0 m (pc + 3) ls (.int r :: rest))) :
    W p l e R s m args below meth c H locs cells slots Q (F0 m pc ls (As.reverse ++ .ref b :: rest)) := by
  have hPc : va_P D classes cx H := (zP_l hP).sub isC (zk_fm hC)
  have hDc : va_D A cx := (zD_l hD).sub isC hnC hC
  have hFc := va_free (zD_l hD) hS hA isC hC
  refine va_calli (va_runVN (As := As) (rest := rest) S0 hM cw ⟨zPreO_blind, hrv, fun U hU hW => ⟨rfl, ⟨by rw [hU], by rw [hU]; exact hPc, va_K.moved hW.alike hK, hDc.weaken (fun _ _ _ _ => trivial)⟩, zO.warm hW hO⟩⟩ rfl hlen hsize rfl (lv_room hW) hdg hf) hS (fun q _ h => hFc q h) hFc (fun r u t H1 locs1 ht hvm hw hB hz1 hk1 hS1 => ?_)
  have hB : va_P D classes (w1 u) t.heap ∧ va_D (va_A cx H.size) (w1 u) := hB
  rw [ht] at hB
  obtain ⟨hP2, hD2⟩ := va_joinQ hP hD isC isR hC hR hn hdis hk1 hFc hB.1 hB.2
  exact kk r u H1 locs1 hw hP2 hD2 hS1
theorem zk_nlP  {post : Int64 → S → Prop} (hM : Met l y wsY rm (va_Pc (.ref b :: As) (zPre D cs (cx ++ PL) H.size)) (va_Ql post (fun (u : S) (t : State) => va_P D classes (w1 u ++ pl1 u) t.heap ∧ va_D (va_A (cx ++ PL) H.size) (w1 u ++ pl1 u)) (va_A (cx ++ PL) H.size)) mc ms (va_A (cx ++ PL) H.size))
    (S0 : CallFix p m c cc nL s args zW own) (cw : va_CN R s args own index y host bytes maxL ret wsY rm mc ms n ∧ (Cond.instanceMethod y).before args s = true ∧ (Cond.selects C y y).before args s = true) (hrv : ∃ cellB : Cell, H[b]? = some cellB ∧ cellB.vm.isStatics = false ∧ s.vm.findClass C = some cellB.cls)
    (hP : va_P D classes (X ++ PL) H) (hD : va_D A (X ++ PL)) (hS : va_S A s.heap H locs) (hK : va_K D classes (zT cs) s) (hA : ∀ q : Nat, s.heap.size ≤ q → A q) (isC isR : List Nat) (hC : isC.map (fun i => X[i]?) = cx.map some) (hnC : va_nd isC = true) (hR : isR.map (fun i => X[i]?) = (isR.filterMap (fun i => X[i]?)).map some) (hn : va_nd isR = true) (hdis : ∀ i ∈ isR, i ∉ isC)
    (hlen : As.length = n) (hsize : ls.size = nL) (hW : (rest.map fun v => v.category).sum ≤ 8) (hdg : decode cc pc = .ok (.invokevirtual index, 3)) (hf : cells + mc ≤ R.cells ∧ slots + ms ≤ R.slots)
    (kk : ∀ (r : Int64) (u : S) (H1 : Heap) (locs1 : List Loc), post r u → va_P D classes ((isR.filterMap (fun i => X[i]?) ++ w1 u) ++ pl1 u) H1 → va_D A ((isR.filterMap (fun i => X[i]?) ++ w1 u) ++ pl1 u) → va_S A s.heap H1 locs1 → W p l e R s m args below meth c H1 locs1 (cells + mc) (slots + ms) Q (F0 m (pc + 3) ls (.long r :: rest))) :
    W p l e R s m args below meth c H locs cells slots Q (F0 m pc ls (As.reverse ++ .ref b :: rest)) := by
  have hPc : va_P D classes (cx ++ PL) H := hP.part isC hC
  have hDc : va_D A (cx ++ PL) := hD.part isC hnC hC
  have hFc := va_freeP hD hS hA isC hC
  refine va_calll (va_runVN (As := As) (rest := rest) S0 hM cw ⟨zPre_blind, hrv, fun U hU hW => ⟨rfl, ⟨by rw [hU], by rw [hU]; exact hPc, va_K.moved hW.alike hK, hDc.weaken (fun _ _ _ _ => trivial)⟩⟩⟩ rfl hlen hsize rfl (lv_room hW) hdg hf) hS (fun q _ h => hFc q h) hFc (fun r u t H1 locs1 ht hvm hw hB hz1 hk1 hS1 => ?_)
  have hB : va_P D classes (w1 u ++ pl1 u) t.heap ∧ va_D (va_A (cx ++ PL) H.size) (w1 u ++ pl1 u) := hB
  rw [ht] at hB
  obtain ⟨hP2, hD2⟩ := va_joinP hP hD isC isR hC hR hn hdis hk1 hFc hB.1 hB.2
  exact kk r u H1 locs1 hw hP2 hD2 hS1
theorem zk_nlQ  {post : Int64 → S → Prop} (hM : Met l y wsY rm (va_Pc (.ref b :: As) (zPre D cs cx H.size)) (va_Ql post (fun (u : S) (t : State) => va_P D classes (w1 u) t.heap ∧ va_D (va_A cx H.size) (w1 u)) (va_A cx H.size)) mc ms (va_A cx H.size))
    (S0 : CallFix p m c cc nL s args zW own) (cw : va_CN R s args own index y host bytes maxL ret wsY rm mc ms n ∧ (Cond.instanceMethod y).before args s = true ∧ (Cond.selects C y y).before args s = true) (hrv : ∃ cellB : Cell, H[b]? = some cellB ∧ cellB.vm.isStatics = false ∧ s.vm.findClass C = some cellB.cls)
    (hP : va_P D classes (X ++ PL) H) (hD : va_D A (X ++ PL)) (hS : va_S A s.heap H locs) (hK : va_K D classes (zT cs) s) (hA : ∀ q : Nat, s.heap.size ≤ q → A q) (isC isR : List Nat) (hC : isC.map (fun i => X[i]?) = cx.map some) (hnC : va_nd isC = true) (hR : isR.map (fun i => X[i]?) = (isR.filterMap (fun i => X[i]?)).map some) (hn : va_nd isR = true) (hdis : ∀ i ∈ isR, i ∉ isC)
    (hlen : As.length = n) (hsize : ls.size = nL) (hW : (rest.map fun v => v.category).sum ≤ 8) (hdg : decode cc pc = .ok (.invokevirtual index, 3)) (hf : cells + mc ≤ R.cells ∧ slots + ms ≤ R.slots)
    (kk : ∀ (r : Int64) (u : S) (H1 : Heap) (locs1 : List Loc), post r u → va_P D classes ((isR.filterMap (fun i => X[i]?) ++ w1 u) ++ PL) H1 → va_D A ((isR.filterMap (fun i => X[i]?) ++ w1 u) ++ PL) → va_S A s.heap H1 locs1 → W p l e R s m args below meth c H1 locs1 (cells + mc) (slots + ms) Q (F0 m (pc + 3) ls (.long r :: rest))) :
    W p l e R s m args below meth c H locs cells slots Q (F0 m pc ls (As.reverse ++ .ref b :: rest)) := by
  have hPc : va_P D classes cx H := (zP_l hP).sub isC (zk_fm hC)
  have hDc : va_D A cx := (zD_l hD).sub isC hnC hC
  have hFc := va_free (zD_l hD) hS hA isC hC
  refine va_calll (va_runVN (As := As) (rest := rest) S0 hM cw ⟨zPre_blind, hrv, fun U hU hW => ⟨rfl, ⟨by rw [hU], by rw [hU]; exact hPc, va_K.moved hW.alike hK, hDc.weaken (fun _ _ _ _ => trivial)⟩⟩⟩ rfl hlen hsize rfl (lv_room hW) hdg hf) hS (fun q _ h => hFc q h) hFc (fun r u t H1 locs1 ht hvm hw hB hz1 hk1 hS1 => ?_)
  have hB : va_P D classes (w1 u) t.heap ∧ va_D (va_A cx H.size) (w1 u) := hB
  rw [ht] at hB
  obtain ⟨hP2, hD2⟩ := va_joinQ hP hD isC isR hC hR hn hdis hk1 hFc hB.1 hB.2
  exact kk r u H1 locs1 hw hP2 hD2 hS1
theorem zk_nlOP  {post : Int64 → S → Prop} (hO : zO s) (hM : Met l y wsY rm (va_Pc (.ref b :: As) (zPreO D cs (cx ++ PL) H.size)) (va_Ql post (fun (u : S) (t : State) => va_P D classes (w1 u ++ pl1 u) t.heap ∧ va_D (va_A (cx ++ PL) H.size) (w1 u ++ pl1 u)) (va_A (cx ++ PL) H.size)) mc ms (va_A (cx ++ PL) H.size))
    (S0 : CallFix p m c cc nL s args zW own) (cw : va_CN R s args own index y host bytes maxL ret wsY rm mc ms n ∧ (Cond.instanceMethod y).before args s = true ∧ (Cond.selects C y y).before args s = true) (hrv : ∃ cellB : Cell, H[b]? = some cellB ∧ cellB.vm.isStatics = false ∧ s.vm.findClass C = some cellB.cls)
    (hP : va_P D classes (X ++ PL) H) (hD : va_D A (X ++ PL)) (hS : va_S A s.heap H locs) (hK : va_K D classes (zT cs) s) (hA : ∀ q : Nat, s.heap.size ≤ q → A q) (isC isR : List Nat) (hC : isC.map (fun i => X[i]?) = cx.map some) (hnC : va_nd isC = true) (hR : isR.map (fun i => X[i]?) = (isR.filterMap (fun i => X[i]?)).map some) (hn : va_nd isR = true) (hdis : ∀ i ∈ isR, i ∉ isC)
    (hlen : As.length = n) (hsize : ls.size = nL) (hW : (rest.map fun v => v.category).sum ≤ 8) (hdg : decode cc pc = .ok (.invokevirtual index, 3)) (hf : cells + mc ≤ R.cells ∧ slots + ms ≤ R.slots)
    (kk : ∀ (r : Int64) (u : S) (H1 : Heap) (locs1 : List Loc), post r u → va_P D classes ((isR.filterMap (fun i => X[i]?) ++ w1 u) ++ pl1 u) H1 → va_D A ((isR.filterMap (fun i => X[i]?) ++ w1 u) ++ pl1 u) → va_S A s.heap H1 locs1 → W p l e R s m args below meth c H1 locs1 (cells + mc) (slots + ms) Q (F0 m (pc + 3) ls (.long r :: rest))) :
    W p l e R s m args below meth c H locs cells slots Q (F0 m pc ls (As.reverse ++ .ref b :: rest)) := by
  have hPc : va_P D classes (cx ++ PL) H := hP.part isC hC
  have hDc : va_D A (cx ++ PL) := hD.part isC hnC hC
  have hFc := va_freeP hD hS hA isC hC
  refine va_calll (va_runVN (As := As) (rest := rest) S0 hM cw ⟨zPreO_blind, hrv, fun U hU hW => ⟨rfl, ⟨by rw [hU], by rw [hU]; exact hPc, va_K.moved hW.alike hK, hDc.weaken (fun _ _ _ _ => trivial)⟩, zO.warm hW hO⟩⟩ rfl hlen hsize rfl (lv_room hW) hdg hf) hS (fun q _ h => hFc q h) hFc (fun r u t H1 locs1 ht hvm hw hB hz1 hk1 hS1 => ?_)
  have hB : va_P D classes (w1 u ++ pl1 u) t.heap ∧ va_D (va_A (cx ++ PL) H.size) (w1 u ++ pl1 u) := hB
  rw [ht] at hB
  obtain ⟨hP2, hD2⟩ := va_joinP hP hD isC isR hC hR hn hdis hk1 hFc hB.1 hB.2
  exact kk r u H1 locs1 hw hP2 hD2 hS1
theorem zk_nlOQ  {post : Int64 → S → Prop} (hO : zO s) (hM : Met l y wsY rm (va_Pc (.ref b :: As) (zPreO D cs cx H.size)) (va_Ql post (fun (u : S) (t : State) => va_P D classes (w1 u) t.heap ∧ va_D (va_A cx H.size) (w1 u)) (va_A cx H.size)) mc ms (va_A cx H.size))
    (S0 : CallFix p m c cc nL s args zW own) (cw : va_CN R s args own index y host bytes maxL ret wsY rm mc ms n ∧ (Cond.instanceMethod y).before args s = true ∧ (Cond.selects C y y).before args s = true) (hrv : ∃ cellB : Cell, H[b]? = some cellB ∧ cellB.vm.isStatics = false ∧ s.vm.findClass C = some cellB.cls)
    (hP : va_P D classes (X ++ PL) H) (hD : va_D A (X ++ PL)) (hS : va_S A s.heap H locs) (hK : va_K D classes (zT cs) s) (hA : ∀ q : Nat, s.heap.size ≤ q → A q) (isC isR : List Nat) (hC : isC.map (fun i => X[i]?) = cx.map some) (hnC : va_nd isC = true) (hR : isR.map (fun i => X[i]?) = (isR.filterMap (fun i => X[i]?)).map some) (hn : va_nd isR = true) (hdis : ∀ i ∈ isR, i ∉ isC)
    (hlen : As.length = n) (hsize : ls.size = nL) (hW : (rest.map fun v => v.category).sum ≤ 8) (hdg : decode cc pc = .ok (.invokevirtual index, 3)) (hf : cells + mc ≤ R.cells ∧ slots + ms ≤ R.slots)
    (kk : ∀ (r : Int64) (u : S) (H1 : Heap) (locs1 : List Loc), post r u → va_P D classes ((isR.filterMap (fun i => X[i]?) ++ w1 u) ++ PL) H1 → va_D A ((isR.filterMap (fun i => X[i]?) ++ w1 u) ++ PL) → va_S A s.heap H1 locs1 → W p l e R s m args below meth c H1 locs1 (cells + mc) (slots + ms) Q (F0 m (pc + 3) ls (.long r :: rest))) :
    W p l e R s m args below meth c H locs cells slots Q (F0 m pc ls (As.reverse ++ .ref b :: rest)) := by
  have hPc : va_P D classes cx H := (zP_l hP).sub isC (zk_fm hC)
  have hDc : va_D A cx := (zD_l hD).sub isC hnC hC
  have hFc := va_free (zD_l hD) hS hA isC hC
  refine va_calll (va_runVN (As := As) (rest := rest) S0 hM cw ⟨zPreO_blind, hrv, fun U hU hW => ⟨rfl, ⟨by rw [hU], by rw [hU]; exact hPc, va_K.moved hW.alike hK, hDc.weaken (fun _ _ _ _ => trivial)⟩, zO.warm hW hO⟩⟩ rfl hlen hsize rfl (lv_room hW) hdg hf) hS (fun q _ h => hFc q h) hFc (fun r u t H1 locs1 ht hvm hw hB hz1 hk1 hS1 => ?_)
  have hB : va_P D classes (w1 u) t.heap ∧ va_D (va_A cx H.size) (w1 u) := hB
  rw [ht] at hB
  obtain ⟨hP2, hD2⟩ := va_joinQ hP hD isC isR hC hR hn hdis hk1 hFc hB.1 hB.2
  exact kk r u H1 locs1 hw hP2 hD2 hS1
theorem zk_nvP  {post : S → Prop} (hM : Met l y wsY rm (va_Pc (.ref b :: As) (zPre D cs (cx ++ PL) H.size)) (va_Qv post (fun (u : S) (t : State) => va_P D classes (w1 u ++ pl1 u) t.heap ∧ va_D (va_A (cx ++ PL) H.size) (w1 u ++ pl1 u)) (va_A (cx ++ PL) H.size)) mc ms (va_A (cx ++ PL) H.size))
    (S0 : CallFix p m c cc nL s args zW own) (cw : va_CN R s args own index y host bytes maxL ret wsY rm mc ms n ∧ (Cond.instanceMethod y).before args s = true ∧ (Cond.selects C y y).before args s = true) (hrv : ∃ cellB : Cell, H[b]? = some cellB ∧ cellB.vm.isStatics = false ∧ s.vm.findClass C = some cellB.cls)
    (hP : va_P D classes (X ++ PL) H) (hD : va_D A (X ++ PL)) (hS : va_S A s.heap H locs) (hK : va_K D classes (zT cs) s) (hA : ∀ q : Nat, s.heap.size ≤ q → A q) (isC isR : List Nat) (hC : isC.map (fun i => X[i]?) = cx.map some) (hnC : va_nd isC = true) (hR : isR.map (fun i => X[i]?) = (isR.filterMap (fun i => X[i]?)).map some) (hn : va_nd isR = true) (hdis : ∀ i ∈ isR, i ∉ isC)
    (hlen : As.length = n) (hsize : ls.size = nL) (hW : (rest.map fun v => v.category).sum ≤ 8) (hdg : decode cc pc = .ok (.invokevirtual index, 3)) (hf : cells + mc ≤ R.cells ∧ slots + ms ≤ R.slots)
    (kk : ∀ (u : S) (H1 : Heap) (locs1 : List Loc), post u → va_P D classes ((isR.filterMap (fun i => X[i]?) ++ w1 u) ++ pl1 u) H1 → va_D A ((isR.filterMap (fun i => X[i]?) ++ w1 u) ++ pl1 u) → va_S A s.heap H1 locs1 → W p l e R s m args below meth c H1 locs1 (cells + mc) (slots + ms) Q (F0 m (pc + 3) ls (rest))) :
    W p l e R s m args below meth c H locs cells slots Q (F0 m pc ls (As.reverse ++ .ref b :: rest)) := by
  have hPc : va_P D classes (cx ++ PL) H := hP.part isC hC
  have hDc : va_D A (cx ++ PL) := hD.part isC hnC hC
  have hFc := va_freeP hD hS hA isC hC
  refine va_callv (va_runVN (As := As) (rest := rest) S0 hM cw ⟨zPre_blind, hrv, fun U hU hW => ⟨rfl, ⟨by rw [hU], by rw [hU]; exact hPc, va_K.moved hW.alike hK, hDc.weaken (fun _ _ _ _ => trivial)⟩⟩⟩ rfl hlen hsize rfl (lv_room hW) hdg hf) hS (fun q _ h => hFc q h) hFc (fun u t H1 locs1 ht hvm hw hB hz1 hk1 hS1 => ?_)
  have hB : va_P D classes (w1 u ++ pl1 u) t.heap ∧ va_D (va_A (cx ++ PL) H.size) (w1 u ++ pl1 u) := hB
  rw [ht] at hB
  obtain ⟨hP2, hD2⟩ := va_joinP hP hD isC isR hC hR hn hdis hk1 hFc hB.1 hB.2
  exact kk u H1 locs1 hw hP2 hD2 hS1
theorem zk_nvQ  {post : S → Prop} (hM : Met l y wsY rm (va_Pc (.ref b :: As) (zPre D cs cx H.size)) (va_Qv post (fun (u : S) (t : State) => va_P D classes (w1 u) t.heap ∧ va_D (va_A cx H.size) (w1 u)) (va_A cx H.size)) mc ms (va_A cx H.size))
    (S0 : CallFix p m c cc nL s args zW own) (cw : va_CN R s args own index y host bytes maxL ret wsY rm mc ms n ∧ (Cond.instanceMethod y).before args s = true ∧ (Cond.selects C y y).before args s = true) (hrv : ∃ cellB : Cell, H[b]? = some cellB ∧ cellB.vm.isStatics = false ∧ s.vm.findClass C = some cellB.cls)
    (hP : va_P D classes (X ++ PL) H) (hD : va_D A (X ++ PL)) (hS : va_S A s.heap H locs) (hK : va_K D classes (zT cs) s) (hA : ∀ q : Nat, s.heap.size ≤ q → A q) (isC isR : List Nat) (hC : isC.map (fun i => X[i]?) = cx.map some) (hnC : va_nd isC = true) (hR : isR.map (fun i => X[i]?) = (isR.filterMap (fun i => X[i]?)).map some) (hn : va_nd isR = true) (hdis : ∀ i ∈ isR, i ∉ isC)
    (hlen : As.length = n) (hsize : ls.size = nL) (hW : (rest.map fun v => v.category).sum ≤ 8) (hdg : decode cc pc = .ok (.invokevirtual index, 3)) (hf : cells + mc ≤ R.cells ∧ slots + ms ≤ R.slots)
    (kk : ∀ (u : S) (H1 : Heap) (locs1 : List Loc), post u → va_P D classes ((isR.filterMap (fun i => X[i]?) ++ w1 u) ++ PL) H1 → va_D A ((isR.filterMap (fun i => X[i]?) ++ w1 u) ++ PL) → va_S A s.heap H1 locs1 → W p l e R s m args below meth c H1 locs1 (cells + mc) (slots + ms) Q (F0 m (pc + 3) ls (rest))) :
    W p l e R s m args below meth c H locs cells slots Q (F0 m pc ls (As.reverse ++ .ref b :: rest)) := by
  have hPc : va_P D classes cx H := (zP_l hP).sub isC (zk_fm hC)
  have hDc : va_D A cx := (zD_l hD).sub isC hnC hC
  have hFc := va_free (zD_l hD) hS hA isC hC
  refine va_callv (va_runVN (As := As) (rest := rest) S0 hM cw ⟨zPre_blind, hrv, fun U hU hW => ⟨rfl, ⟨by rw [hU], by rw [hU]; exact hPc, va_K.moved hW.alike hK, hDc.weaken (fun _ _ _ _ => trivial)⟩⟩⟩ rfl hlen hsize rfl (lv_room hW) hdg hf) hS (fun q _ h => hFc q h) hFc (fun u t H1 locs1 ht hvm hw hB hz1 hk1 hS1 => ?_)
  have hB : va_P D classes (w1 u) t.heap ∧ va_D (va_A cx H.size) (w1 u) := hB
  rw [ht] at hB
  obtain ⟨hP2, hD2⟩ := va_joinQ hP hD isC isR hC hR hn hdis hk1 hFc hB.1 hB.2
  exact kk u H1 locs1 hw hP2 hD2 hS1
theorem zk_nvOP  {post : S → Prop} (hO : zO s) (hM : Met l y wsY rm (va_Pc (.ref b :: As) (zPreO D cs (cx ++ PL) H.size)) (va_Qv post (fun (u : S) (t : State) => va_P D classes (w1 u ++ pl1 u) t.heap ∧ va_D (va_A (cx ++ PL) H.size) (w1 u ++ pl1 u)) (va_A (cx ++ PL) H.size)) mc ms (va_A (cx ++ PL) H.size))
    (S0 : CallFix p m c cc nL s args zW own) (cw : va_CN R s args own index y host bytes maxL ret wsY rm mc ms n ∧ (Cond.instanceMethod y).before args s = true ∧ (Cond.selects C y y).before args s = true) (hrv : ∃ cellB : Cell, H[b]? = some cellB ∧ cellB.vm.isStatics = false ∧ s.vm.findClass C = some cellB.cls)
    (hP : va_P D classes (X ++ PL) H) (hD : va_D A (X ++ PL)) (hS : va_S A s.heap H locs) (hK : va_K D classes (zT cs) s) (hA : ∀ q : Nat, s.heap.size ≤ q → A q) (isC isR : List Nat) (hC : isC.map (fun i => X[i]?) = cx.map some) (hnC : va_nd isC = true) (hR : isR.map (fun i => X[i]?) = (isR.filterMap (fun i => X[i]?)).map some) (hn : va_nd isR = true) (hdis : ∀ i ∈ isR, i ∉ isC)
    (hlen : As.length = n) (hsize : ls.size = nL) (hW : (rest.map fun v => v.category).sum ≤ 8) (hdg : decode cc pc = .ok (.invokevirtual index, 3)) (hf : cells + mc ≤ R.cells ∧ slots + ms ≤ R.slots)
    (kk : ∀ (u : S) (H1 : Heap) (locs1 : List Loc), post u → va_P D classes ((isR.filterMap (fun i => X[i]?) ++ w1 u) ++ pl1 u) H1 → va_D A ((isR.filterMap (fun i => X[i]?) ++ w1 u) ++ pl1 u) → va_S A s.heap H1 locs1 → W p l e R s m args below meth c H1 locs1 (cells + mc) (slots + ms) Q (F0 m (pc + 3) ls (rest))) :
    W p l e R s m args below meth c H locs cells slots Q (F0 m pc ls (As.reverse ++ .ref b :: rest)) := by
  have hPc : va_P D classes (cx ++ PL) H := hP.part isC hC
  have hDc : va_D A (cx ++ PL) := hD.part isC hnC hC
  have hFc := va_freeP hD hS hA isC hC
  refine va_callv (va_runVN (As := As) (rest := rest) S0 hM cw ⟨zPreO_blind, hrv, fun U hU hW => ⟨rfl, ⟨by rw [hU], by rw [hU]; exact hPc, va_K.moved hW.alike hK, hDc.weaken (fun _ _ _ _ => trivial)⟩, zO.warm hW hO⟩⟩ rfl hlen hsize rfl (lv_room hW) hdg hf) hS (fun q _ h => hFc q h) hFc (fun u t H1 locs1 ht hvm hw hB hz1 hk1 hS1 => ?_)
  have hB : va_P D classes (w1 u ++ pl1 u) t.heap ∧ va_D (va_A (cx ++ PL) H.size) (w1 u ++ pl1 u) := hB
  rw [ht] at hB
  obtain ⟨hP2, hD2⟩ := va_joinP hP hD isC isR hC hR hn hdis hk1 hFc hB.1 hB.2
  exact kk u H1 locs1 hw hP2 hD2 hS1
theorem zk_nvOQ  {post : S → Prop} (hO : zO s) (hM : Met l y wsY rm (va_Pc (.ref b :: As) (zPreO D cs cx H.size)) (va_Qv post (fun (u : S) (t : State) => va_P D classes (w1 u) t.heap ∧ va_D (va_A cx H.size) (w1 u)) (va_A cx H.size)) mc ms (va_A cx H.size))
    (S0 : CallFix p m c cc nL s args zW own) (cw : va_CN R s args own index y host bytes maxL ret wsY rm mc ms n ∧ (Cond.instanceMethod y).before args s = true ∧ (Cond.selects C y y).before args s = true) (hrv : ∃ cellB : Cell, H[b]? = some cellB ∧ cellB.vm.isStatics = false ∧ s.vm.findClass C = some cellB.cls)
    (hP : va_P D classes (X ++ PL) H) (hD : va_D A (X ++ PL)) (hS : va_S A s.heap H locs) (hK : va_K D classes (zT cs) s) (hA : ∀ q : Nat, s.heap.size ≤ q → A q) (isC isR : List Nat) (hC : isC.map (fun i => X[i]?) = cx.map some) (hnC : va_nd isC = true) (hR : isR.map (fun i => X[i]?) = (isR.filterMap (fun i => X[i]?)).map some) (hn : va_nd isR = true) (hdis : ∀ i ∈ isR, i ∉ isC)
    (hlen : As.length = n) (hsize : ls.size = nL) (hW : (rest.map fun v => v.category).sum ≤ 8) (hdg : decode cc pc = .ok (.invokevirtual index, 3)) (hf : cells + mc ≤ R.cells ∧ slots + ms ≤ R.slots)
    (kk : ∀ (u : S) (H1 : Heap) (locs1 : List Loc), post u → va_P D classes ((isR.filterMap (fun i => X[i]?) ++ w1 u) ++ PL) H1 → va_D A ((isR.filterMap (fun i => X[i]?) ++ w1 u) ++ PL) → va_S A s.heap H1 locs1 → W p l e R s m args below meth c H1 locs1 (cells + mc) (slots + ms) Q (F0 m (pc + 3) ls (rest))) :
    W p l e R s m args below meth c H locs cells slots Q (F0 m pc ls (As.reverse ++ .ref b :: rest)) := by
  have hPc : va_P D classes cx H := (zP_l hP).sub isC (zk_fm hC)
  have hDc : va_D A cx := (zD_l hD).sub isC hnC hC
  have hFc := va_free (zD_l hD) hS hA isC hC
  refine va_callv (va_runVN (As := As) (rest := rest) S0 hM cw ⟨zPreO_blind, hrv, fun U hU hW => ⟨rfl, ⟨by rw [hU], by rw [hU]; exact hPc, va_K.moved hW.alike hK, hDc.weaken (fun _ _ _ _ => trivial)⟩, zO.warm hW hO⟩⟩ rfl hlen hsize rfl (lv_room hW) hdg hf) hS (fun q _ h => hFc q h) hFc (fun u t H1 locs1 ht hvm hw hB hz1 hk1 hS1 => ?_)
  have hB : va_P D classes (w1 u) t.heap ∧ va_D (va_A cx H.size) (w1 u) := hB
  rw [ht] at hB
  obtain ⟨hP2, hD2⟩ := va_joinQ hP hD isC isR hC hR hn hdis hk1 hFc hB.1 hB.2
  exact kk u H1 locs1 hw hP2 hD2 hS1
theorem zk_nqP  {post : Option Nat → S → Prop} (hM : Met l y wsY rm (va_Pc (.ref b :: As) (zPre D cs (cx ++ PL) H.size)) (va_Qq post (fun (u : S) (t : State) => va_P D classes (w1 u ++ pl1 u) t.heap ∧ va_D (va_A (cx ++ PL) H.size) (w1 u ++ pl1 u)) (va_A (cx ++ PL) H.size)) mc ms (va_A (cx ++ PL) H.size))
    (S0 : CallFix p m c cc nL s args zW own) (cw : va_CN R s args own index y host bytes maxL ret wsY rm mc ms n ∧ (Cond.instanceMethod y).before args s = true ∧ (Cond.selects C y y).before args s = true) (hrv : ∃ cellB : Cell, H[b]? = some cellB ∧ cellB.vm.isStatics = false ∧ s.vm.findClass C = some cellB.cls)
    (hP : va_P D classes (X ++ PL) H) (hD : va_D A (X ++ PL)) (hS : va_S A s.heap H locs) (hK : va_K D classes (zT cs) s) (hA : ∀ q : Nat, s.heap.size ≤ q → A q) (isC isR : List Nat) (hC : isC.map (fun i => X[i]?) = cx.map some) (hnC : va_nd isC = true) (hR : isR.map (fun i => X[i]?) = (isR.filterMap (fun i => X[i]?)).map some) (hn : va_nd isR = true) (hdis : ∀ i ∈ isR, i ∉ isC)
    (hlen : As.length = n) (hsize : ls.size = nL) (hW : (rest.map fun v => v.category).sum ≤ 8) (hdg : decode cc pc = .ok (.invokevirtual index, 3)) (hf : cells + mc ≤ R.cells ∧ slots + ms ≤ R.slots)
    (kk : ∀ (r : Option Nat) (u : S) (H1 : Heap) (locs1 : List Loc), post r u → va_P D classes ((isR.filterMap (fun i => X[i]?) ++ w1 u) ++ pl1 u) H1 → va_D A ((isR.filterMap (fun i => X[i]?) ++ w1 u) ++ pl1 u) → va_S A s.heap H1 locs1 → W p l e R s m args below meth c H1 locs1 (cells + mc) (slots + ms) Q (F0 m (pc + 3) ls (va_rf r :: rest))) :
    W p l e R s m args below meth c H locs cells slots Q (F0 m pc ls (As.reverse ++ .ref b :: rest)) := by
  have hPc : va_P D classes (cx ++ PL) H := hP.part isC hC
  have hDc : va_D A (cx ++ PL) := hD.part isC hnC hC
  have hFc := va_freeP hD hS hA isC hC
  refine va_callq (va_runVN (As := As) (rest := rest) S0 hM cw ⟨zPre_blind, hrv, fun U hU hW => ⟨rfl, ⟨by rw [hU], by rw [hU]; exact hPc, va_K.moved hW.alike hK, hDc.weaken (fun _ _ _ _ => trivial)⟩⟩⟩ rfl hlen hsize rfl (lv_room hW) hdg hf) hS (fun q _ h => hFc q h) hFc (fun r u t H1 locs1 ht hvm hw hB hz1 hk1 hS1 => ?_)
  have hB : va_P D classes (w1 u ++ pl1 u) t.heap ∧ va_D (va_A (cx ++ PL) H.size) (w1 u ++ pl1 u) := hB
  rw [ht] at hB
  obtain ⟨hP2, hD2⟩ := va_joinP hP hD isC isR hC hR hn hdis hk1 hFc hB.1 hB.2
  exact kk r u H1 locs1 hw hP2 hD2 hS1
theorem zk_nqQ  {post : Option Nat → S → Prop} (hM : Met l y wsY rm (va_Pc (.ref b :: As) (zPre D cs cx H.size)) (va_Qq post (fun (u : S) (t : State) => va_P D classes (w1 u) t.heap ∧ va_D (va_A cx H.size) (w1 u)) (va_A cx H.size)) mc ms (va_A cx H.size))
    (S0 : CallFix p m c cc nL s args zW own) (cw : va_CN R s args own index y host bytes maxL ret wsY rm mc ms n ∧ (Cond.instanceMethod y).before args s = true ∧ (Cond.selects C y y).before args s = true) (hrv : ∃ cellB : Cell, H[b]? = some cellB ∧ cellB.vm.isStatics = false ∧ s.vm.findClass C = some cellB.cls)
    (hP : va_P D classes (X ++ PL) H) (hD : va_D A (X ++ PL)) (hS : va_S A s.heap H locs) (hK : va_K D classes (zT cs) s) (hA : ∀ q : Nat, s.heap.size ≤ q → A q) (isC isR : List Nat) (hC : isC.map (fun i => X[i]?) = cx.map some) (hnC : va_nd isC = true) (hR : isR.map (fun i => X[i]?) = (isR.filterMap (fun i => X[i]?)).map some) (hn : va_nd isR = true) (hdis : ∀ i ∈ isR, i ∉ isC)
    (hlen : As.length = n) (hsize : ls.size = nL) (hW : (rest.map fun v => v.category).sum ≤ 8) (hdg : decode cc pc = .ok (.invokevirtual index, 3)) (hf : cells + mc ≤ R.cells ∧ slots + ms ≤ R.slots)
    (kk : ∀ (r : Option Nat) (u : S) (H1 : Heap) (locs1 : List Loc), post r u → va_P D classes ((isR.filterMap (fun i => X[i]?) ++ w1 u) ++ PL) H1 → va_D A ((isR.filterMap (fun i => X[i]?) ++ w1 u) ++ PL) → va_S A s.heap H1 locs1 → W p l e R s m args below meth c H1 locs1 (cells + mc) (slots + ms) Q (F0 m (pc + 3) ls (va_rf r :: rest))) :
    W p l e R s m args below meth c H locs cells slots Q (F0 m pc ls (As.reverse ++ .ref b :: rest)) := by
  have hPc : va_P D classes cx H := (zP_l hP).sub isC (zk_fm hC)
  have hDc : va_D A cx := (zD_l hD).sub isC hnC hC
  have hFc := va_free (zD_l hD) hS hA isC hC
  refine va_callq (va_runVN (As := As) (rest := rest) S0 hM cw ⟨zPre_blind, hrv, fun U hU hW => ⟨rfl, ⟨by rw [hU], by rw [hU]; exact hPc, va_K.moved hW.alike hK, hDc.weaken (fun _ _ _ _ => trivial)⟩⟩⟩ rfl hlen hsize rfl (lv_room hW) hdg hf) hS (fun q _ h => hFc q h) hFc (fun r u t H1 locs1 ht hvm hw hB hz1 hk1 hS1 => ?_)
  have hB : va_P D classes (w1 u) t.heap ∧ va_D (va_A cx H.size) (w1 u) := hB
  rw [ht] at hB
  obtain ⟨hP2, hD2⟩ := va_joinQ hP hD isC isR hC hR hn hdis hk1 hFc hB.1 hB.2
  exact kk r u H1 locs1 hw hP2 hD2 hS1
theorem zk_nqOP  {post : Option Nat → S → Prop} (hO : zO s) (hM : Met l y wsY rm (va_Pc (.ref b :: As) (zPreO D cs (cx ++ PL) H.size)) (va_Qq post (fun (u : S) (t : State) => va_P D classes (w1 u ++ pl1 u) t.heap ∧ va_D (va_A (cx ++ PL) H.size) (w1 u ++ pl1 u)) (va_A (cx ++ PL) H.size)) mc ms (va_A (cx ++ PL) H.size))
    (S0 : CallFix p m c cc nL s args zW own) (cw : va_CN R s args own index y host bytes maxL ret wsY rm mc ms n ∧ (Cond.instanceMethod y).before args s = true ∧ (Cond.selects C y y).before args s = true) (hrv : ∃ cellB : Cell, H[b]? = some cellB ∧ cellB.vm.isStatics = false ∧ s.vm.findClass C = some cellB.cls)
    (hP : va_P D classes (X ++ PL) H) (hD : va_D A (X ++ PL)) (hS : va_S A s.heap H locs) (hK : va_K D classes (zT cs) s) (hA : ∀ q : Nat, s.heap.size ≤ q → A q) (isC isR : List Nat) (hC : isC.map (fun i => X[i]?) = cx.map some) (hnC : va_nd isC = true) (hR : isR.map (fun i => X[i]?) = (isR.filterMap (fun i => X[i]?)).map some) (hn : va_nd isR = true) (hdis : ∀ i ∈ isR, i ∉ isC)
    (hlen : As.length = n) (hsize : ls.size = nL) (hW : (rest.map fun v => v.category).sum ≤ 8) (hdg : decode cc pc = .ok (.invokevirtual index, 3)) (hf : cells + mc ≤ R.cells ∧ slots + ms ≤ R.slots)
    (kk : ∀ (r : Option Nat) (u : S) (H1 : Heap) (locs1 : List Loc), post r u → va_P D classes ((isR.filterMap (fun i => X[i]?) ++ w1 u) ++ pl1 u) H1 → va_D A ((isR.filterMap (fun i => X[i]?) ++ w1 u) ++ pl1 u) → va_S A s.heap H1 locs1 → W p l e R s m args below meth c H1 locs1 (cells + mc) (slots + ms) Q (F0 m (pc + 3) ls (va_rf r :: rest))) :
    W p l e R s m args below meth c H locs cells slots Q (F0 m pc ls (As.reverse ++ .ref b :: rest)) := by
  have hPc : va_P D classes (cx ++ PL) H := hP.part isC hC
  have hDc : va_D A (cx ++ PL) := hD.part isC hnC hC
  have hFc := va_freeP hD hS hA isC hC
  refine va_callq (va_runVN (As := As) (rest := rest) S0 hM cw ⟨zPreO_blind, hrv, fun U hU hW => ⟨rfl, ⟨by rw [hU], by rw [hU]; exact hPc, va_K.moved hW.alike hK, hDc.weaken (fun _ _ _ _ => trivial)⟩, zO.warm hW hO⟩⟩ rfl hlen hsize rfl (lv_room hW) hdg hf) hS (fun q _ h => hFc q h) hFc (fun r u t H1 locs1 ht hvm hw hB hz1 hk1 hS1 => ?_)
  have hB : va_P D classes (w1 u ++ pl1 u) t.heap ∧ va_D (va_A (cx ++ PL) H.size) (w1 u ++ pl1 u) := hB
  rw [ht] at hB
  obtain ⟨hP2, hD2⟩ := va_joinP hP hD isC isR hC hR hn hdis hk1 hFc hB.1 hB.2
  exact kk r u H1 locs1 hw hP2 hD2 hS1
theorem zk_nqOQ  {post : Option Nat → S → Prop} (hO : zO s) (hM : Met l y wsY rm (va_Pc (.ref b :: As) (zPreO D cs cx H.size)) (va_Qq post (fun (u : S) (t : State) => va_P D classes (w1 u) t.heap ∧ va_D (va_A cx H.size) (w1 u)) (va_A cx H.size)) mc ms (va_A cx H.size))
    (S0 : CallFix p m c cc nL s args zW own) (cw : va_CN R s args own index y host bytes maxL ret wsY rm mc ms n ∧ (Cond.instanceMethod y).before args s = true ∧ (Cond.selects C y y).before args s = true) (hrv : ∃ cellB : Cell, H[b]? = some cellB ∧ cellB.vm.isStatics = false ∧ s.vm.findClass C = some cellB.cls)
    (hP : va_P D classes (X ++ PL) H) (hD : va_D A (X ++ PL)) (hS : va_S A s.heap H locs) (hK : va_K D classes (zT cs) s) (hA : ∀ q : Nat, s.heap.size ≤ q → A q) (isC isR : List Nat) (hC : isC.map (fun i => X[i]?) = cx.map some) (hnC : va_nd isC = true) (hR : isR.map (fun i => X[i]?) = (isR.filterMap (fun i => X[i]?)).map some) (hn : va_nd isR = true) (hdis : ∀ i ∈ isR, i ∉ isC)
    (hlen : As.length = n) (hsize : ls.size = nL) (hW : (rest.map fun v => v.category).sum ≤ 8) (hdg : decode cc pc = .ok (.invokevirtual index, 3)) (hf : cells + mc ≤ R.cells ∧ slots + ms ≤ R.slots)
    (kk : ∀ (r : Option Nat) (u : S) (H1 : Heap) (locs1 : List Loc), post r u → va_P D classes ((isR.filterMap (fun i => X[i]?) ++ w1 u) ++ PL) H1 → va_D A ((isR.filterMap (fun i => X[i]?) ++ w1 u) ++ PL) → va_S A s.heap H1 locs1 → W p l e R s m args below meth c H1 locs1 (cells + mc) (slots + ms) Q (F0 m (pc + 3) ls (va_rf r :: rest))) :
    W p l e R s m args below meth c H locs cells slots Q (F0 m pc ls (As.reverse ++ .ref b :: rest)) := by
  have hPc : va_P D classes cx H := (zP_l hP).sub isC (zk_fm hC)
  have hDc : va_D A cx := (zD_l hD).sub isC hnC hC
  have hFc := va_free (zD_l hD) hS hA isC hC
  refine va_callq (va_runVN (As := As) (rest := rest) S0 hM cw ⟨zPreO_blind, hrv, fun U hU hW => ⟨rfl, ⟨by rw [hU], by rw [hU]; exact hPc, va_K.moved hW.alike hK, hDc.weaken (fun _ _ _ _ => trivial)⟩, zO.warm hW hO⟩⟩ rfl hlen hsize rfl (lv_room hW) hdg hf) hS (fun q _ h => hFc q h) hFc (fun r u t H1 locs1 ht hvm hw hB hz1 hk1 hS1 => ?_)
  have hB : va_P D classes (w1 u) t.heap ∧ va_D (va_A cx H.size) (w1 u) := hB
  rw [ht] at hB
  obtain ⟨hP2, hD2⟩ := va_joinQ hP hD isC isR hC hR hn hdis hk1 hFc hB.1 hB.2
  exact kk r u H1 locs1 hw hP2 hD2 hS1
theorem zk_tiP  {post : Int32 → S → Prop} (hM : Met l y wsY rm (va_Pc As (zPre D cs (cx ++ PL) H.size)) (va_Qi post (fun (u : S) (t : State) => va_P D classes (w1 u ++ pl1 u) t.heap ∧ va_D (va_A (cx ++ PL) H.size) (w1 u ++ pl1 u)) (va_A (cx ++ PL) H.size)) mc ms (va_A (cx ++ PL) H.size))
    (S0 : CallFix p m c cc nL s args zW own) (cw : va_CN R s args own index y host bytes maxL ret wsY rm mc ms n ∧ (Cond.static y).before args s = true ∧ True)
    (hP : va_P D classes (X ++ PL) H) (hD : va_D A (X ++ PL)) (hS : va_S A s.heap H locs) (hK : va_K D classes (zT cs) s) (hA : ∀ q : Nat, s.heap.size ≤ q → A q) (isC isR : List Nat) (hC : isC.map (fun i => X[i]?) = cx.map some) (hnC : va_nd isC = true) (hR : isR.map (fun i => X[i]?) = (isR.filterMap (fun i => X[i]?)).map some) (hn : va_nd isR = true) (hdis : ∀ i ∈ isR, i ∉ isC)
    (hlen : As.length = n) (hsize : ls.size = nL) (hW : (rest.map fun v => v.category).sum ≤ 8) (hdg : decode cc pc = .ok (.invokestatic index, 3)) (hf : cells + mc ≤ R.cells ∧ slots + ms ≤ R.slots)
    (kk : ∀ (r : Int32) (u : S) (H1 : Heap) (locs1 : List Loc), post r u → va_P D classes ((isR.filterMap (fun i => X[i]?) ++ w1 u) ++ pl1 u) H1 → va_D A ((isR.filterMap (fun i => X[i]?) ++ w1 u) ++ pl1 u) → va_S A s.heap H1 locs1 → W p l e R s m args below meth c H1 locs1 (cells + mc) (slots + ms) Q (F0 m (pc + 3) ls (.int r :: rest))) :
    W p l e R s m args below meth c H locs cells slots Q (F0 m pc ls (As.reverse ++ rest)) := by
  have hPc : va_P D classes (cx ++ PL) H := hP.part isC hC
  have hDc : va_D A (cx ++ PL) := hD.part isC hnC hC
  have hFc := va_freeP hD hS hA isC hC
  refine va_calli (va_runSN (As := As) (rest := rest) S0 hM cw ⟨zPre_blind, fun U hU hW => ⟨rfl, ⟨by rw [hU], by rw [hU]; exact hPc, va_K.moved hW.alike hK, hDc.weaken (fun _ _ _ _ => trivial)⟩⟩⟩ rfl hlen hsize rfl (lv_room hW) hdg hf) hS (fun q _ h => hFc q h) hFc (fun r u t H1 locs1 ht hvm hw hB hz1 hk1 hS1 => ?_)
  have hB : va_P D classes (w1 u ++ pl1 u) t.heap ∧ va_D (va_A (cx ++ PL) H.size) (w1 u ++ pl1 u) := hB
  rw [ht] at hB
  obtain ⟨hP2, hD2⟩ := va_joinP hP hD isC isR hC hR hn hdis hk1 hFc hB.1 hB.2
  exact kk r u H1 locs1 hw hP2 hD2 hS1
theorem zk_tiQ  {post : Int32 → S → Prop} (hM : Met l y wsY rm (va_Pc As (zPre D cs cx H.size)) (va_Qi post (fun (u : S) (t : State) => va_P D classes (w1 u) t.heap ∧ va_D (va_A cx H.size) (w1 u)) (va_A cx H.size)) mc ms (va_A cx H.size))
    (S0 : CallFix p m c cc nL s args zW own) (cw : va_CN R s args own index y host bytes maxL ret wsY rm mc ms n ∧ (Cond.static y).before args s = true ∧ True)
    (hP : va_P D classes (X ++ PL) H) (hD : va_D A (X ++ PL)) (hS : va_S A s.heap H locs) (hK : va_K D classes (zT cs) s) (hA : ∀ q : Nat, s.heap.size ≤ q → A q) (isC isR : List Nat) (hC : isC.map (fun i => X[i]?) = cx.map some) (hnC : va_nd isC = true) (hR : isR.map (fun i => X[i]?) = (isR.filterMap (fun i => X[i]?)).map some) (hn : va_nd isR = true) (hdis : ∀ i ∈ isR, i ∉ isC)
    (hlen : As.length = n) (hsize : ls.size = nL) (hW : (rest.map fun v => v.category).sum ≤ 8) (hdg : decode cc pc = .ok (.invokestatic index, 3)) (hf : cells + mc ≤ R.cells ∧ slots + ms ≤ R.slots)
    (kk : ∀ (r : Int32) (u : S) (H1 : Heap) (locs1 : List Loc), post r u → va_P D classes ((isR.filterMap (fun i => X[i]?) ++ w1 u) ++ PL) H1 → va_D A ((isR.filterMap (fun i => X[i]?) ++ w1 u) ++ PL) → va_S A s.heap H1 locs1 → W p l e R s m args below meth c H1 locs1 (cells + mc) (slots + ms) Q (F0 m (pc + 3) ls (.int r :: rest))) :
    W p l e R s m args below meth c H locs cells slots Q (F0 m pc ls (As.reverse ++ rest)) := by
  have hPc : va_P D classes cx H := (zP_l hP).sub isC (zk_fm hC)
  have hDc : va_D A cx := (zD_l hD).sub isC hnC hC
  have hFc := va_free (zD_l hD) hS hA isC hC
  refine va_calli (va_runSN (As := As) (rest := rest) S0 hM cw ⟨zPre_blind, fun U hU hW => ⟨rfl, ⟨by rw [hU], by rw [hU]; exact hPc, va_K.moved hW.alike hK, hDc.weaken (fun _ _ _ _ => trivial)⟩⟩⟩ rfl hlen hsize rfl (lv_room hW) hdg hf) hS (fun q _ h => hFc q h) hFc (fun r u t H1 locs1 ht hvm hw hB hz1 hk1 hS1 => ?_)
  have hB : va_P D classes (w1 u) t.heap ∧ va_D (va_A cx H.size) (w1 u) := hB
  rw [ht] at hB
  obtain ⟨hP2, hD2⟩ := va_joinQ hP hD isC isR hC hR hn hdis hk1 hFc hB.1 hB.2
  exact kk r u H1 locs1 hw hP2 hD2 hS1
theorem zk_tiOP  {post : Int32 → S → Prop} (hO : zO s) (hM : Met l y wsY rm (va_Pc As (zPreO D cs (cx ++ PL) H.size)) (va_Qi post (fun (u : S) (t : State) => va_P D classes (w1 u ++ pl1 u) t.heap ∧ va_D (va_A (cx ++ PL) H.size) (w1 u ++ pl1 u)) (va_A (cx ++ PL) H.size)) mc ms (va_A (cx ++ PL) H.size))
    (S0 : CallFix p m c cc nL s args zW own) (cw : va_CN R s args own index y host bytes maxL ret wsY rm mc ms n ∧ (Cond.static y).before args s = true ∧ True)
    (hP : va_P D classes (X ++ PL) H) (hD : va_D A (X ++ PL)) (hS : va_S A s.heap H locs) (hK : va_K D classes (zT cs) s) (hA : ∀ q : Nat, s.heap.size ≤ q → A q) (isC isR : List Nat) (hC : isC.map (fun i => X[i]?) = cx.map some) (hnC : va_nd isC = true) (hR : isR.map (fun i => X[i]?) = (isR.filterMap (fun i => X[i]?)).map some) (hn : va_nd isR = true) (hdis : ∀ i ∈ isR, i ∉ isC)
    (hlen : As.length = n) (hsize : ls.size = nL) (hW : (rest.map fun v => v.category).sum ≤ 8) (hdg : decode cc pc = .ok (.invokestatic index, 3)) (hf : cells + mc ≤ R.cells ∧ slots + ms ≤ R.slots)
    (kk : ∀ (r : Int32) (u : S) (H1 : Heap) (locs1 : List Loc), post r u → va_P D classes ((isR.filterMap (fun i => X[i]?) ++ w1 u) ++ pl1 u) H1 → va_D A ((isR.filterMap (fun i => X[i]?) ++ w1 u) ++ pl1 u) → va_S A s.heap H1 locs1 → W p l e R s m args below meth c H1 locs1 (cells + mc) (slots + ms) Q (F0 m (pc + 3) ls (.int r :: rest))) :
    W p l e R s m args below meth c H locs cells slots Q (F0 m pc ls (As.reverse ++ rest)) := by
  have hPc : va_P D classes (cx ++ PL) H := hP.part isC hC
  have hDc : va_D A (cx ++ PL) := hD.part isC hnC hC
  have hFc := va_freeP hD hS hA isC hC
  refine va_calli (va_runSN (As := As) (rest := rest) S0 hM cw ⟨zPreO_blind, fun U hU hW => ⟨rfl, ⟨by rw [hU], by rw [hU]; exact hPc, va_K.moved hW.alike hK, hDc.weaken (fun _ _ _ _ => trivial)⟩, zO.warm hW hO⟩⟩ rfl hlen hsize rfl (lv_room hW) hdg hf) hS (fun q _ h => hFc q h) hFc (fun r u t H1 locs1 ht hvm hw hB hz1 hk1 hS1 => ?_)
  have hB : va_P D classes (w1 u ++ pl1 u) t.heap ∧ va_D (va_A (cx ++ PL) H.size) (w1 u ++ pl1 u) := hB
  rw [ht] at hB
  obtain ⟨hP2, hD2⟩ := va_joinP hP hD isC isR hC hR hn hdis hk1 hFc hB.1 hB.2
  exact kk r u H1 locs1 hw hP2 hD2 hS1
theorem zk_tiOQ  {post : Int32 → S → Prop} (hO : zO s) (hM : Met l y wsY rm (va_Pc As (zPreO D cs cx H.size)) (va_Qi post (fun (u : S) (t : State) => va_P D classes (w1 u) t.heap ∧ va_D (va_A cx H.size) (w1 u)) (va_A cx H.size)) mc ms (va_A cx H.size))
    (S0 : CallFix p m c cc nL s args zW own) (cw : va_CN R s args own index y host bytes maxL ret wsY rm mc ms n ∧ (Cond.static y).before args s = true ∧ True)
    (hP : va_P D classes (X ++ PL) H) (hD : va_D A (X ++ PL)) (hS : va_S A s.heap H locs) (hK : va_K D classes (zT cs) s) (hA : ∀ q : Nat, s.heap.size ≤ q → A q) (isC isR : List Nat) (hC : isC.map (fun i => X[i]?) = cx.map some) (hnC : va_nd isC = true) (hR : isR.map (fun i => X[i]?) = (isR.filterMap (fun i => X[i]?)).map some) (hn : va_nd isR = true) (hdis : ∀ i ∈ isR, i ∉ isC)
    (hlen : As.length = n) (hsize : ls.size = nL) (hW : (rest.map fun v => v.category).sum ≤ 8) (hdg : decode cc pc = .ok (.invokestatic index, 3)) (hf : cells + mc ≤ R.cells ∧ slots + ms ≤ R.slots)
    (kk : ∀ (r : Int32) (u : S) (H1 : Heap) (locs1 : List Loc), post r u → va_P D classes ((isR.filterMap (fun i => X[i]?) ++ w1 u) ++ PL) H1 → va_D A ((isR.filterMap (fun i => X[i]?) ++ w1 u) ++ PL) → va_S A s.heap H1 locs1 → W p l e R s m args below meth c H1 locs1 (cells + mc) (slots + ms) Q (F0 m (pc + 3) ls (.int r :: rest))) :
    W p l e R s m args below meth c H locs cells slots Q (F0 m pc ls (As.reverse ++ rest)) := by
  have hPc : va_P D classes cx H := (zP_l hP).sub isC (zk_fm hC)
  have hDc : va_D A cx := (zD_l hD).sub isC hnC hC
  have hFc := va_free (zD_l hD) hS hA isC hC
  refine va_calli (va_runSN (As := As) (rest := rest) S0 hM cw ⟨zPreO_blind, fun U hU hW => ⟨rfl, ⟨by rw [hU], by rw [hU]; exact hPc, va_K.moved hW.alike hK, hDc.weaken (fun _ _ _ _ => trivial)⟩, zO.warm hW hO⟩⟩ rfl hlen hsize rfl (lv_room hW) hdg hf) hS (fun q _ h => hFc q h) hFc (fun r u t H1 locs1 ht hvm hw hB hz1 hk1 hS1 => ?_)
  have hB : va_P D classes (w1 u) t.heap ∧ va_D (va_A cx H.size) (w1 u) := hB
  rw [ht] at hB
  obtain ⟨hP2, hD2⟩ := va_joinQ hP hD isC isR hC hR hn hdis hk1 hFc hB.1 hB.2
  exact kk r u H1 locs1 hw hP2 hD2 hS1
theorem zk_tlP  {post : Int64 → S → Prop} (hM : Met l y wsY rm (va_Pc As (zPre D cs (cx ++ PL) H.size)) (va_Ql post (fun (u : S) (t : State) => va_P D classes (w1 u ++ pl1 u) t.heap ∧ va_D (va_A (cx ++ PL) H.size) (w1 u ++ pl1 u)) (va_A (cx ++ PL) H.size)) mc ms (va_A (cx ++ PL) H.size))
    (S0 : CallFix p m c cc nL s args zW own) (cw : va_CN R s args own index y host bytes maxL ret wsY rm mc ms n ∧ (Cond.static y).before args s = true ∧ True)
    (hP : va_P D classes (X ++ PL) H) (hD : va_D A (X ++ PL)) (hS : va_S A s.heap H locs) (hK : va_K D classes (zT cs) s) (hA : ∀ q : Nat, s.heap.size ≤ q → A q) (isC isR : List Nat) (hC : isC.map (fun i => X[i]?) = cx.map some) (hnC : va_nd isC = true) (hR : isR.map (fun i => X[i]?) = (isR.filterMap (fun i => X[i]?)).map some) (hn : va_nd isR = true) (hdis : ∀ i ∈ isR, i ∉ isC)
    (hlen : As.length = n) (hsize : ls.size = nL) (hW : (rest.map fun v => v.category).sum ≤ 8) (hdg : decode cc pc = .ok (.invokestatic index, 3)) (hf : cells + mc ≤ R.cells ∧ slots + ms ≤ R.slots)
    (kk : ∀ (r : Int64) (u : S) (H1 : Heap) (locs1 : List Loc), post r u → va_P D classes ((isR.filterMap (fun i => X[i]?) ++ w1 u) ++ pl1 u) H1 → va_D A ((isR.filterMap (fun i => X[i]?) ++ w1 u) ++ pl1 u) → va_S A s.heap H1 locs1 → W p l e R s m args below meth c H1 locs1 (cells + mc) (slots + ms) Q (F0 m (pc + 3) ls (.long r :: rest))) :
    W p l e R s m args below meth c H locs cells slots Q (F0 m pc ls (As.reverse ++ rest)) := by
  have hPc : va_P D classes (cx ++ PL) H := hP.part isC hC
  have hDc : va_D A (cx ++ PL) := hD.part isC hnC hC
  have hFc := va_freeP hD hS hA isC hC
  refine va_calll (va_runSN (As := As) (rest := rest) S0 hM cw ⟨zPre_blind, fun U hU hW => ⟨rfl, ⟨by rw [hU], by rw [hU]; exact hPc, va_K.moved hW.alike hK, hDc.weaken (fun _ _ _ _ => trivial)⟩⟩⟩ rfl hlen hsize rfl (lv_room hW) hdg hf) hS (fun q _ h => hFc q h) hFc (fun r u t H1 locs1 ht hvm hw hB hz1 hk1 hS1 => ?_)
  have hB : va_P D classes (w1 u ++ pl1 u) t.heap ∧ va_D (va_A (cx ++ PL) H.size) (w1 u ++ pl1 u) := hB
  rw [ht] at hB
  obtain ⟨hP2, hD2⟩ := va_joinP hP hD isC isR hC hR hn hdis hk1 hFc hB.1 hB.2
  exact kk r u H1 locs1 hw hP2 hD2 hS1
theorem zk_tlQ  {post : Int64 → S → Prop} (hM : Met l y wsY rm (va_Pc As (zPre D cs cx H.size)) (va_Ql post (fun (u : S) (t : State) => va_P D classes (w1 u) t.heap ∧ va_D (va_A cx H.size) (w1 u)) (va_A cx H.size)) mc ms (va_A cx H.size))
    (S0 : CallFix p m c cc nL s args zW own) (cw : va_CN R s args own index y host bytes maxL ret wsY rm mc ms n ∧ (Cond.static y).before args s = true ∧ True)
    (hP : va_P D classes (X ++ PL) H) (hD : va_D A (X ++ PL)) (hS : va_S A s.heap H locs) (hK : va_K D classes (zT cs) s) (hA : ∀ q : Nat, s.heap.size ≤ q → A q) (isC isR : List Nat) (hC : isC.map (fun i => X[i]?) = cx.map some) (hnC : va_nd isC = true) (hR : isR.map (fun i => X[i]?) = (isR.filterMap (fun i => X[i]?)).map some) (hn : va_nd isR = true) (hdis : ∀ i ∈ isR, i ∉ isC)
    (hlen : As.length = n) (hsize : ls.size = nL) (hW : (rest.map fun v => v.category).sum ≤ 8) (hdg : decode cc pc = .ok (.invokestatic index, 3)) (hf : cells + mc ≤ R.cells ∧ slots + ms ≤ R.slots)
    (kk : ∀ (r : Int64) (u : S) (H1 : Heap) (locs1 : List Loc), post r u → va_P D classes ((isR.filterMap (fun i => X[i]?) ++ w1 u) ++ PL) H1 → va_D A ((isR.filterMap (fun i => X[i]?) ++ w1 u) ++ PL) → va_S A s.heap H1 locs1 → W p l e R s m args below meth c H1 locs1 (cells + mc) (slots + ms) Q (F0 m (pc + 3) ls (.long r :: rest))) :
    W p l e R s m args below meth c H locs cells slots Q (F0 m pc ls (As.reverse ++ rest)) := by
  have hPc : va_P D classes cx H := (zP_l hP).sub isC (zk_fm hC)
  have hDc : va_D A cx := (zD_l hD).sub isC hnC hC
  have hFc := va_free (zD_l hD) hS hA isC hC
  refine va_calll (va_runSN (As := As) (rest := rest) S0 hM cw ⟨zPre_blind, fun U hU hW => ⟨rfl, ⟨by rw [hU], by rw [hU]; exact hPc, va_K.moved hW.alike hK, hDc.weaken (fun _ _ _ _ => trivial)⟩⟩⟩ rfl hlen hsize rfl (lv_room hW) hdg hf) hS (fun q _ h => hFc q h) hFc (fun r u t H1 locs1 ht hvm hw hB hz1 hk1 hS1 => ?_)
  have hB : va_P D classes (w1 u) t.heap ∧ va_D (va_A cx H.size) (w1 u) := hB
  rw [ht] at hB
  obtain ⟨hP2, hD2⟩ := va_joinQ hP hD isC isR hC hR hn hdis hk1 hFc hB.1 hB.2
  exact kk r u H1 locs1 hw hP2 hD2 hS1
theorem zk_tlOP  {post : Int64 → S → Prop} (hO : zO s) (hM : Met l y wsY rm (va_Pc As (zPreO D cs (cx ++ PL) H.size)) (va_Ql post (fun (u : S) (t : State) => va_P D classes (w1 u ++ pl1 u) t.heap ∧ va_D (va_A (cx ++ PL) H.size) (w1 u ++ pl1 u)) (va_A (cx ++ PL) H.size)) mc ms (va_A (cx ++ PL) H.size))
    (S0 : CallFix p m c cc nL s args zW own) (cw : va_CN R s args own index y host bytes maxL ret wsY rm mc ms n ∧ (Cond.static y).before args s = true ∧ True)
    (hP : va_P D classes (X ++ PL) H) (hD : va_D A (X ++ PL)) (hS : va_S A s.heap H locs) (hK : va_K D classes (zT cs) s) (hA : ∀ q : Nat, s.heap.size ≤ q → A q) (isC isR : List Nat) (hC : isC.map (fun i => X[i]?) = cx.map some) (hnC : va_nd isC = true) (hR : isR.map (fun i => X[i]?) = (isR.filterMap (fun i => X[i]?)).map some) (hn : va_nd isR = true) (hdis : ∀ i ∈ isR, i ∉ isC)
    (hlen : As.length = n) (hsize : ls.size = nL) (hW : (rest.map fun v => v.category).sum ≤ 8) (hdg : decode cc pc = .ok (.invokestatic index, 3)) (hf : cells + mc ≤ R.cells ∧ slots + ms ≤ R.slots)
    (kk : ∀ (r : Int64) (u : S) (H1 : Heap) (locs1 : List Loc), post r u → va_P D classes ((isR.filterMap (fun i => X[i]?) ++ w1 u) ++ pl1 u) H1 → va_D A ((isR.filterMap (fun i => X[i]?) ++ w1 u) ++ pl1 u) → va_S A s.heap H1 locs1 → W p l e R s m args below meth c H1 locs1 (cells + mc) (slots + ms) Q (F0 m (pc + 3) ls (.long r :: rest))) :
    W p l e R s m args below meth c H locs cells slots Q (F0 m pc ls (As.reverse ++ rest)) := by
  have hPc : va_P D classes (cx ++ PL) H := hP.part isC hC
  have hDc : va_D A (cx ++ PL) := hD.part isC hnC hC
  have hFc := va_freeP hD hS hA isC hC
  refine va_calll (va_runSN (As := As) (rest := rest) S0 hM cw ⟨zPreO_blind, fun U hU hW => ⟨rfl, ⟨by rw [hU], by rw [hU]; exact hPc, va_K.moved hW.alike hK, hDc.weaken (fun _ _ _ _ => trivial)⟩, zO.warm hW hO⟩⟩ rfl hlen hsize rfl (lv_room hW) hdg hf) hS (fun q _ h => hFc q h) hFc (fun r u t H1 locs1 ht hvm hw hB hz1 hk1 hS1 => ?_)
  have hB : va_P D classes (w1 u ++ pl1 u) t.heap ∧ va_D (va_A (cx ++ PL) H.size) (w1 u ++ pl1 u) := hB
  rw [ht] at hB
  obtain ⟨hP2, hD2⟩ := va_joinP hP hD isC isR hC hR hn hdis hk1 hFc hB.1 hB.2
  exact kk r u H1 locs1 hw hP2 hD2 hS1
theorem zk_tlOQ  {post : Int64 → S → Prop} (hO : zO s) (hM : Met l y wsY rm (va_Pc As (zPreO D cs cx H.size)) (va_Ql post (fun (u : S) (t : State) => va_P D classes (w1 u) t.heap ∧ va_D (va_A cx H.size) (w1 u)) (va_A cx H.size)) mc ms (va_A cx H.size))
    (S0 : CallFix p m c cc nL s args zW own) (cw : va_CN R s args own index y host bytes maxL ret wsY rm mc ms n ∧ (Cond.static y).before args s = true ∧ True)
    (hP : va_P D classes (X ++ PL) H) (hD : va_D A (X ++ PL)) (hS : va_S A s.heap H locs) (hK : va_K D classes (zT cs) s) (hA : ∀ q : Nat, s.heap.size ≤ q → A q) (isC isR : List Nat) (hC : isC.map (fun i => X[i]?) = cx.map some) (hnC : va_nd isC = true) (hR : isR.map (fun i => X[i]?) = (isR.filterMap (fun i => X[i]?)).map some) (hn : va_nd isR = true) (hdis : ∀ i ∈ isR, i ∉ isC)
    (hlen : As.length = n) (hsize : ls.size = nL) (hW : (rest.map fun v => v.category).sum ≤ 8) (hdg : decode cc pc = .ok (.invokestatic index, 3)) (hf : cells + mc ≤ R.cells ∧ slots + ms ≤ R.slots)
    (kk : ∀ (r : Int64) (u : S) (H1 : Heap) (locs1 : List Loc), post r u → va_P D classes ((isR.filterMap (fun i => X[i]?) ++ w1 u) ++ PL) H1 → va_D A ((isR.filterMap (fun i => X[i]?) ++ w1 u) ++ PL) → va_S A s.heap H1 locs1 → W p l e R s m args below meth c H1 locs1 (cells + mc) (slots + ms) Q (F0 m (pc + 3) ls (.long r :: rest))) :
    W p l e R s m args below meth c H locs cells slots Q (F0 m pc ls (As.reverse ++ rest)) := by
  have hPc : va_P D classes cx H := (zP_l hP).sub isC (zk_fm hC)
  have hDc : va_D A cx := (zD_l hD).sub isC hnC hC
  have hFc := va_free (zD_l hD) hS hA isC hC
  refine va_calll (va_runSN (As := As) (rest := rest) S0 hM cw ⟨zPreO_blind, fun U hU hW => ⟨rfl, ⟨by rw [hU], by rw [hU]; exact hPc, va_K.moved hW.alike hK, hDc.weaken (fun _ _ _ _ => trivial)⟩, zO.warm hW hO⟩⟩ rfl hlen hsize rfl (lv_room hW) hdg hf) hS (fun q _ h => hFc q h) hFc (fun r u t H1 locs1 ht hvm hw hB hz1 hk1 hS1 => ?_)
  have hB : va_P D classes (w1 u) t.heap ∧ va_D (va_A cx H.size) (w1 u) := hB
  rw [ht] at hB
  obtain ⟨hP2, hD2⟩ := va_joinQ hP hD isC isR hC hR hn hdis hk1 hFc hB.1 hB.2
  exact kk r u H1 locs1 hw hP2 hD2 hS1
theorem zk_tvP  {post : S → Prop} (hM : Met l y wsY rm (va_Pc As (zPre D cs (cx ++ PL) H.size)) (va_Qv post (fun (u : S) (t : State) => va_P D classes (w1 u ++ pl1 u) t.heap ∧ va_D (va_A (cx ++ PL) H.size) (w1 u ++ pl1 u)) (va_A (cx ++ PL) H.size)) mc ms (va_A (cx ++ PL) H.size))
    (S0 : CallFix p m c cc nL s args zW own) (cw : va_CN R s args own index y host bytes maxL ret wsY rm mc ms n ∧ (Cond.static y).before args s = true ∧ True)
    (hP : va_P D classes (X ++ PL) H) (hD : va_D A (X ++ PL)) (hS : va_S A s.heap H locs) (hK : va_K D classes (zT cs) s) (hA : ∀ q : Nat, s.heap.size ≤ q → A q) (isC isR : List Nat) (hC : isC.map (fun i => X[i]?) = cx.map some) (hnC : va_nd isC = true) (hR : isR.map (fun i => X[i]?) = (isR.filterMap (fun i => X[i]?)).map some) (hn : va_nd isR = true) (hdis : ∀ i ∈ isR, i ∉ isC)
    (hlen : As.length = n) (hsize : ls.size = nL) (hW : (rest.map fun v => v.category).sum ≤ 8) (hdg : decode cc pc = .ok (.invokestatic index, 3)) (hf : cells + mc ≤ R.cells ∧ slots + ms ≤ R.slots)
    (kk : ∀ (u : S) (H1 : Heap) (locs1 : List Loc), post u → va_P D classes ((isR.filterMap (fun i => X[i]?) ++ w1 u) ++ pl1 u) H1 → va_D A ((isR.filterMap (fun i => X[i]?) ++ w1 u) ++ pl1 u) → va_S A s.heap H1 locs1 → W p l e R s m args below meth c H1 locs1 (cells + mc) (slots + ms) Q (F0 m (pc + 3) ls (rest))) :
    W p l e R s m args below meth c H locs cells slots Q (F0 m pc ls (As.reverse ++ rest)) := by
  have hPc : va_P D classes (cx ++ PL) H := hP.part isC hC
  have hDc : va_D A (cx ++ PL) := hD.part isC hnC hC
  have hFc := va_freeP hD hS hA isC hC
  refine va_callv (va_runSN (As := As) (rest := rest) S0 hM cw ⟨zPre_blind, fun U hU hW => ⟨rfl, ⟨by rw [hU], by rw [hU]; exact hPc, va_K.moved hW.alike hK, hDc.weaken (fun _ _ _ _ => trivial)⟩⟩⟩ rfl hlen hsize rfl (lv_room hW) hdg hf) hS (fun q _ h => hFc q h) hFc (fun u t H1 locs1 ht hvm hw hB hz1 hk1 hS1 => ?_)
  have hB : va_P D classes (w1 u ++ pl1 u) t.heap ∧ va_D (va_A (cx ++ PL) H.size) (w1 u ++ pl1 u) := hB
  rw [ht] at hB
  obtain ⟨hP2, hD2⟩ := va_joinP hP hD isC isR hC hR hn hdis hk1 hFc hB.1 hB.2
  exact kk u H1 locs1 hw hP2 hD2 hS1
theorem zk_tvQ  {post : S → Prop} (hM : Met l y wsY rm (va_Pc As (zPre D cs cx H.size)) (va_Qv post (fun (u : S) (t : State) => va_P D classes (w1 u) t.heap ∧ va_D (va_A cx H.size) (w1 u)) (va_A cx H.size)) mc ms (va_A cx H.size))
    (S0 : CallFix p m c cc nL s args zW own) (cw : va_CN R s args own index y host bytes maxL ret wsY rm mc ms n ∧ (Cond.static y).before args s = true ∧ True)
    (hP : va_P D classes (X ++ PL) H) (hD : va_D A (X ++ PL)) (hS : va_S A s.heap H locs) (hK : va_K D classes (zT cs) s) (hA : ∀ q : Nat, s.heap.size ≤ q → A q) (isC isR : List Nat) (hC : isC.map (fun i => X[i]?) = cx.map some) (hnC : va_nd isC = true) (hR : isR.map (fun i => X[i]?) = (isR.filterMap (fun i => X[i]?)).map some) (hn : va_nd isR = true) (hdis : ∀ i ∈ isR, i ∉ isC)
    (hlen : As.length = n) (hsize : ls.size = nL) (hW : (rest.map fun v => v.category).sum ≤ 8) (hdg : decode cc pc = .ok (.invokestatic index, 3)) (hf : cells + mc ≤ R.cells ∧ slots + ms ≤ R.slots)
    (kk : ∀ (u : S) (H1 : Heap) (locs1 : List Loc), post u → va_P D classes ((isR.filterMap (fun i => X[i]?) ++ w1 u) ++ PL) H1 → va_D A ((isR.filterMap (fun i => X[i]?) ++ w1 u) ++ PL) → va_S A s.heap H1 locs1 → W p l e R s m args below meth c H1 locs1 (cells + mc) (slots + ms) Q (F0 m (pc + 3) ls (rest))) :
    W p l e R s m args below meth c H locs cells slots Q (F0 m pc ls (As.reverse ++ rest)) := by
  have hPc : va_P D classes cx H := (zP_l hP).sub isC (zk_fm hC)
  have hDc : va_D A cx := (zD_l hD).sub isC hnC hC
  have hFc := va_free (zD_l hD) hS hA isC hC
  refine va_callv (va_runSN (As := As) (rest := rest) S0 hM cw ⟨zPre_blind, fun U hU hW => ⟨rfl, ⟨by rw [hU], by rw [hU]; exact hPc, va_K.moved hW.alike hK, hDc.weaken (fun _ _ _ _ => trivial)⟩⟩⟩ rfl hlen hsize rfl (lv_room hW) hdg hf) hS (fun q _ h => hFc q h) hFc (fun u t H1 locs1 ht hvm hw hB hz1 hk1 hS1 => ?_)
  have hB : va_P D classes (w1 u) t.heap ∧ va_D (va_A cx H.size) (w1 u) := hB
  rw [ht] at hB
  obtain ⟨hP2, hD2⟩ := va_joinQ hP hD isC isR hC hR hn hdis hk1 hFc hB.1 hB.2
  exact kk u H1 locs1 hw hP2 hD2 hS1
theorem zk_tvOP  {post : S → Prop} (hO : zO s) (hM : Met l y wsY rm (va_Pc As (zPreO D cs (cx ++ PL) H.size)) (va_Qv post (fun (u : S) (t : State) => va_P D classes (w1 u ++ pl1 u) t.heap ∧ va_D (va_A (cx ++ PL) H.size) (w1 u ++ pl1 u)) (va_A (cx ++ PL) H.size)) mc ms (va_A (cx ++ PL) H.size))
    (S0 : CallFix p m c cc nL s args zW own) (cw : va_CN R s args own index y host bytes maxL ret wsY rm mc ms n ∧ (Cond.static y).before args s = true ∧ True)
    (hP : va_P D classes (X ++ PL) H) (hD : va_D A (X ++ PL)) (hS : va_S A s.heap H locs) (hK : va_K D classes (zT cs) s) (hA : ∀ q : Nat, s.heap.size ≤ q → A q) (isC isR : List Nat) (hC : isC.map (fun i => X[i]?) = cx.map some) (hnC : va_nd isC = true) (hR : isR.map (fun i => X[i]?) = (isR.filterMap (fun i => X[i]?)).map some) (hn : va_nd isR = true) (hdis : ∀ i ∈ isR, i ∉ isC)
    (hlen : As.length = n) (hsize : ls.size = nL) (hW : (rest.map fun v => v.category).sum ≤ 8) (hdg : decode cc pc = .ok (.invokestatic index, 3)) (hf : cells + mc ≤ R.cells ∧ slots + ms ≤ R.slots)
    (kk : ∀ (u : S) (H1 : Heap) (locs1 : List Loc), post u → va_P D classes ((isR.filterMap (fun i => X[i]?) ++ w1 u) ++ pl1 u) H1 → va_D A ((isR.filterMap (fun i => X[i]?) ++ w1 u) ++ pl1 u) → va_S A s.heap H1 locs1 → W p l e R s m args below meth c H1 locs1 (cells + mc) (slots + ms) Q (F0 m (pc + 3) ls (rest))) :
    W p l e R s m args below meth c H locs cells slots Q (F0 m pc ls (As.reverse ++ rest)) := by
  have hPc : va_P D classes (cx ++ PL) H := hP.part isC hC
  have hDc : va_D A (cx ++ PL) := hD.part isC hnC hC
  have hFc := va_freeP hD hS hA isC hC
  refine va_callv (va_runSN (As := As) (rest := rest) S0 hM cw ⟨zPreO_blind, fun U hU hW => ⟨rfl, ⟨by rw [hU], by rw [hU]; exact hPc, va_K.moved hW.alike hK, hDc.weaken (fun _ _ _ _ => trivial)⟩, zO.warm hW hO⟩⟩ rfl hlen hsize rfl (lv_room hW) hdg hf) hS (fun q _ h => hFc q h) hFc (fun u t H1 locs1 ht hvm hw hB hz1 hk1 hS1 => ?_)
  have hB : va_P D classes (w1 u ++ pl1 u) t.heap ∧ va_D (va_A (cx ++ PL) H.size) (w1 u ++ pl1 u) := hB
  rw [ht] at hB
  obtain ⟨hP2, hD2⟩ := va_joinP hP hD isC isR hC hR hn hdis hk1 hFc hB.1 hB.2
  exact kk u H1 locs1 hw hP2 hD2 hS1
theorem zk_tvOQ  {post : S → Prop} (hO : zO s) (hM : Met l y wsY rm (va_Pc As (zPreO D cs cx H.size)) (va_Qv post (fun (u : S) (t : State) => va_P D classes (w1 u) t.heap ∧ va_D (va_A cx H.size) (w1 u)) (va_A cx H.size)) mc ms (va_A cx H.size))
    (S0 : CallFix p m c cc nL s args zW own) (cw : va_CN R s args own index y host bytes maxL ret wsY rm mc ms n ∧ (Cond.static y).before args s = true ∧ True)
    (hP : va_P D classes (X ++ PL) H) (hD : va_D A (X ++ PL)) (hS : va_S A s.heap H locs) (hK : va_K D classes (zT cs) s) (hA : ∀ q : Nat, s.heap.size ≤ q → A q) (isC isR : List Nat) (hC : isC.map (fun i => X[i]?) = cx.map some) (hnC : va_nd isC = true) (hR : isR.map (fun i => X[i]?) = (isR.filterMap (fun i => X[i]?)).map some) (hn : va_nd isR = true) (hdis : ∀ i ∈ isR, i ∉ isC)
    (hlen : As.length = n) (hsize : ls.size = nL) (hW : (rest.map fun v => v.category).sum ≤ 8) (hdg : decode cc pc = .ok (.invokestatic index, 3)) (hf : cells + mc ≤ R.cells ∧ slots + ms ≤ R.slots)
    (kk : ∀ (u : S) (H1 : Heap) (locs1 : List Loc), post u → va_P D classes ((isR.filterMap (fun i => X[i]?) ++ w1 u) ++ PL) H1 → va_D A ((isR.filterMap (fun i => X[i]?) ++ w1 u) ++ PL) → va_S A s.heap H1 locs1 → W p l e R s m args below meth c H1 locs1 (cells + mc) (slots + ms) Q (F0 m (pc + 3) ls (rest))) :
    W p l e R s m args below meth c H locs cells slots Q (F0 m pc ls (As.reverse ++ rest)) := by
  have hPc : va_P D classes cx H := (zP_l hP).sub isC (zk_fm hC)
  have hDc : va_D A cx := (zD_l hD).sub isC hnC hC
  have hFc := va_free (zD_l hD) hS hA isC hC
  refine va_callv (va_runSN (As := As) (rest := rest) S0 hM cw ⟨zPreO_blind, fun U hU hW => ⟨rfl, ⟨by rw [hU], by rw [hU]; exact hPc, va_K.moved hW.alike hK, hDc.weaken (fun _ _ _ _ => trivial)⟩, zO.warm hW hO⟩⟩ rfl hlen hsize rfl (lv_room hW) hdg hf) hS (fun q _ h => hFc q h) hFc (fun u t H1 locs1 ht hvm hw hB hz1 hk1 hS1 => ?_)
  have hB : va_P D classes (w1 u) t.heap ∧ va_D (va_A cx H.size) (w1 u) := hB
  rw [ht] at hB
  obtain ⟨hP2, hD2⟩ := va_joinQ hP hD isC isR hC hR hn hdis hk1 hFc hB.1 hB.2
  exact kk u H1 locs1 hw hP2 hD2 hS1
theorem zk_tqP  {post : Option Nat → S → Prop} (hM : Met l y wsY rm (va_Pc As (zPre D cs (cx ++ PL) H.size)) (va_Qq post (fun (u : S) (t : State) => va_P D classes (w1 u ++ pl1 u) t.heap ∧ va_D (va_A (cx ++ PL) H.size) (w1 u ++ pl1 u)) (va_A (cx ++ PL) H.size)) mc ms (va_A (cx ++ PL) H.size))
    (S0 : CallFix p m c cc nL s args zW own) (cw : va_CN R s args own index y host bytes maxL ret wsY rm mc ms n ∧ (Cond.static y).before args s = true ∧ True)
    (hP : va_P D classes (X ++ PL) H) (hD : va_D A (X ++ PL)) (hS : va_S A s.heap H locs) (hK : va_K D classes (zT cs) s) (hA : ∀ q : Nat, s.heap.size ≤ q → A q) (isC isR : List Nat) (hC : isC.map (fun i => X[i]?) = cx.map some) (hnC : va_nd isC = true) (hR : isR.map (fun i => X[i]?) = (isR.filterMap (fun i => X[i]?)).map some) (hn : va_nd isR = true) (hdis : ∀ i ∈ isR, i ∉ isC)
    (hlen : As.length = n) (hsize : ls.size = nL) (hW : (rest.map fun v => v.category).sum ≤ 8) (hdg : decode cc pc = .ok (.invokestatic index, 3)) (hf : cells + mc ≤ R.cells ∧ slots + ms ≤ R.slots)
    (kk : ∀ (r : Option Nat) (u : S) (H1 : Heap) (locs1 : List Loc), post r u → va_P D classes ((isR.filterMap (fun i => X[i]?) ++ w1 u) ++ pl1 u) H1 → va_D A ((isR.filterMap (fun i => X[i]?) ++ w1 u) ++ pl1 u) → va_S A s.heap H1 locs1 → W p l e R s m args below meth c H1 locs1 (cells + mc) (slots + ms) Q (F0 m (pc + 3) ls (va_rf r :: rest))) :
    W p l e R s m args below meth c H locs cells slots Q (F0 m pc ls (As.reverse ++ rest)) := by
  have hPc : va_P D classes (cx ++ PL) H := hP.part isC hC
  have hDc : va_D A (cx ++ PL) := hD.part isC hnC hC
  have hFc := va_freeP hD hS hA isC hC
  refine va_callq (va_runSN (As := As) (rest := rest) S0 hM cw ⟨zPre_blind, fun U hU hW => ⟨rfl, ⟨by rw [hU], by rw [hU]; exact hPc, va_K.moved hW.alike hK, hDc.weaken (fun _ _ _ _ => trivial)⟩⟩⟩ rfl hlen hsize rfl (lv_room hW) hdg hf) hS (fun q _ h => hFc q h) hFc (fun r u t H1 locs1 ht hvm hw hB hz1 hk1 hS1 => ?_)
  have hB : va_P D classes (w1 u ++ pl1 u) t.heap ∧ va_D (va_A (cx ++ PL) H.size) (w1 u ++ pl1 u) := hB
  rw [ht] at hB
  obtain ⟨hP2, hD2⟩ := va_joinP hP hD isC isR hC hR hn hdis hk1 hFc hB.1 hB.2
  exact kk r u H1 locs1 hw hP2 hD2 hS1
theorem zk_tqQ  {post : Option Nat → S → Prop} (hM : Met l y wsY rm (va_Pc As (zPre D cs cx H.size)) (va_Qq post (fun (u : S) (t : State) => va_P D classes (w1 u) t.heap ∧ va_D (va_A cx H.size) (w1 u)) (va_A cx H.size)) mc ms (va_A cx H.size))
    (S0 : CallFix p m c cc nL s args zW own) (cw : va_CN R s args own index y host bytes maxL ret wsY rm mc ms n ∧ (Cond.static y).before args s = true ∧ True)
    (hP : va_P D classes (X ++ PL) H) (hD : va_D A (X ++ PL)) (hS : va_S A s.heap H locs) (hK : va_K D classes (zT cs) s) (hA : ∀ q : Nat, s.heap.size ≤ q → A q) (isC isR : List Nat) (hC : isC.map (fun i => X[i]?) = cx.map some) (hnC : va_nd isC = true) (hR : isR.map (fun i => X[i]?) = (isR.filterMap (fun i => X[i]?)).map some) (hn : va_nd isR = true) (hdis : ∀ i ∈ isR, i ∉ isC)
    (hlen : As.length = n) (hsize : ls.size = nL) (hW : (rest.map fun v => v.category).sum ≤ 8) (hdg : decode cc pc = .ok (.invokestatic index, 3)) (hf : cells + mc ≤ R.cells ∧ slots + ms ≤ R.slots)
    (kk : ∀ (r : Option Nat) (u : S) (H1 : Heap) (locs1 : List Loc), post r u → va_P D classes ((isR.filterMap (fun i => X[i]?) ++ w1 u) ++ PL) H1 → va_D A ((isR.filterMap (fun i => X[i]?) ++ w1 u) ++ PL) → va_S A s.heap H1 locs1 → W p l e R s m args below meth c H1 locs1 (cells + mc) (slots + ms) Q (F0 m (pc + 3) ls (va_rf r :: rest))) :
    W p l e R s m args below meth c H locs cells slots Q (F0 m pc ls (As.reverse ++ rest)) := by
  have hPc : va_P D classes cx H := (zP_l hP).sub isC (zk_fm hC)
  have hDc : va_D A cx := (zD_l hD).sub isC hnC hC
  have hFc := va_free (zD_l hD) hS hA isC hC
  refine va_callq (va_runSN (As := As) (rest := rest) S0 hM cw ⟨zPre_blind, fun U hU hW => ⟨rfl, ⟨by rw [hU], by rw [hU]; exact hPc, va_K.moved hW.alike hK, hDc.weaken (fun _ _ _ _ => trivial)⟩⟩⟩ rfl hlen hsize rfl (lv_room hW) hdg hf) hS (fun q _ h => hFc q h) hFc (fun r u t H1 locs1 ht hvm hw hB hz1 hk1 hS1 => ?_)
  have hB : va_P D classes (w1 u) t.heap ∧ va_D (va_A cx H.size) (w1 u) := hB
  rw [ht] at hB
  obtain ⟨hP2, hD2⟩ := va_joinQ hP hD isC isR hC hR hn hdis hk1 hFc hB.1 hB.2
  exact kk r u H1 locs1 hw hP2 hD2 hS1
theorem zk_tqOP  {post : Option Nat → S → Prop} (hO : zO s) (hM : Met l y wsY rm (va_Pc As (zPreO D cs (cx ++ PL) H.size)) (va_Qq post (fun (u : S) (t : State) => va_P D classes (w1 u ++ pl1 u) t.heap ∧ va_D (va_A (cx ++ PL) H.size) (w1 u ++ pl1 u)) (va_A (cx ++ PL) H.size)) mc ms (va_A (cx ++ PL) H.size))
    (S0 : CallFix p m c cc nL s args zW own) (cw : va_CN R s args own index y host bytes maxL ret wsY rm mc ms n ∧ (Cond.static y).before args s = true ∧ True)
    (hP : va_P D classes (X ++ PL) H) (hD : va_D A (X ++ PL)) (hS : va_S A s.heap H locs) (hK : va_K D classes (zT cs) s) (hA : ∀ q : Nat, s.heap.size ≤ q → A q) (isC isR : List Nat) (hC : isC.map (fun i => X[i]?) = cx.map some) (hnC : va_nd isC = true) (hR : isR.map (fun i => X[i]?) = (isR.filterMap (fun i => X[i]?)).map some) (hn : va_nd isR = true) (hdis : ∀ i ∈ isR, i ∉ isC)
    (hlen : As.length = n) (hsize : ls.size = nL) (hW : (rest.map fun v => v.category).sum ≤ 8) (hdg : decode cc pc = .ok (.invokestatic index, 3)) (hf : cells + mc ≤ R.cells ∧ slots + ms ≤ R.slots)
    (kk : ∀ (r : Option Nat) (u : S) (H1 : Heap) (locs1 : List Loc), post r u → va_P D classes ((isR.filterMap (fun i => X[i]?) ++ w1 u) ++ pl1 u) H1 → va_D A ((isR.filterMap (fun i => X[i]?) ++ w1 u) ++ pl1 u) → va_S A s.heap H1 locs1 → W p l e R s m args below meth c H1 locs1 (cells + mc) (slots + ms) Q (F0 m (pc + 3) ls (va_rf r :: rest))) :
    W p l e R s m args below meth c H locs cells slots Q (F0 m pc ls (As.reverse ++ rest)) := by
  have hPc : va_P D classes (cx ++ PL) H := hP.part isC hC
  have hDc : va_D A (cx ++ PL) := hD.part isC hnC hC
  have hFc := va_freeP hD hS hA isC hC
  refine va_callq (va_runSN (As := As) (rest := rest) S0 hM cw ⟨zPreO_blind, fun U hU hW => ⟨rfl, ⟨by rw [hU], by rw [hU]; exact hPc, va_K.moved hW.alike hK, hDc.weaken (fun _ _ _ _ => trivial)⟩, zO.warm hW hO⟩⟩ rfl hlen hsize rfl (lv_room hW) hdg hf) hS (fun q _ h => hFc q h) hFc (fun r u t H1 locs1 ht hvm hw hB hz1 hk1 hS1 => ?_)
  have hB : va_P D classes (w1 u ++ pl1 u) t.heap ∧ va_D (va_A (cx ++ PL) H.size) (w1 u ++ pl1 u) := hB
  rw [ht] at hB
  obtain ⟨hP2, hD2⟩ := va_joinP hP hD isC isR hC hR hn hdis hk1 hFc hB.1 hB.2
  exact kk r u H1 locs1 hw hP2 hD2 hS1
theorem zk_tqOQ  {post : Option Nat → S → Prop} (hO : zO s) (hM : Met l y wsY rm (va_Pc As (zPreO D cs cx H.size)) (va_Qq post (fun (u : S) (t : State) => va_P D classes (w1 u) t.heap ∧ va_D (va_A cx H.size) (w1 u)) (va_A cx H.size)) mc ms (va_A cx H.size))
    (S0 : CallFix p m c cc nL s args zW own) (cw : va_CN R s args own index y host bytes maxL ret wsY rm mc ms n ∧ (Cond.static y).before args s = true ∧ True)
    (hP : va_P D classes (X ++ PL) H) (hD : va_D A (X ++ PL)) (hS : va_S A s.heap H locs) (hK : va_K D classes (zT cs) s) (hA : ∀ q : Nat, s.heap.size ≤ q → A q) (isC isR : List Nat) (hC : isC.map (fun i => X[i]?) = cx.map some) (hnC : va_nd isC = true) (hR : isR.map (fun i => X[i]?) = (isR.filterMap (fun i => X[i]?)).map some) (hn : va_nd isR = true) (hdis : ∀ i ∈ isR, i ∉ isC)
    (hlen : As.length = n) (hsize : ls.size = nL) (hW : (rest.map fun v => v.category).sum ≤ 8) (hdg : decode cc pc = .ok (.invokestatic index, 3)) (hf : cells + mc ≤ R.cells ∧ slots + ms ≤ R.slots)
    (kk : ∀ (r : Option Nat) (u : S) (H1 : Heap) (locs1 : List Loc), post r u → va_P D classes ((isR.filterMap (fun i => X[i]?) ++ w1 u) ++ PL) H1 → va_D A ((isR.filterMap (fun i => X[i]?) ++ w1 u) ++ PL) → va_S A s.heap H1 locs1 → W p l e R s m args below meth c H1 locs1 (cells + mc) (slots + ms) Q (F0 m (pc + 3) ls (va_rf r :: rest))) :
    W p l e R s m args below meth c H locs cells slots Q (F0 m pc ls (As.reverse ++ rest)) := by
  have hPc : va_P D classes cx H := (zP_l hP).sub isC (zk_fm hC)
  have hDc : va_D A cx := (zD_l hD).sub isC hnC hC
  have hFc := va_free (zD_l hD) hS hA isC hC
  refine va_callq (va_runSN (As := As) (rest := rest) S0 hM cw ⟨zPreO_blind, fun U hU hW => ⟨rfl, ⟨by rw [hU], by rw [hU]; exact hPc, va_K.moved hW.alike hK, hDc.weaken (fun _ _ _ _ => trivial)⟩, zO.warm hW hO⟩⟩ rfl hlen hsize rfl (lv_room hW) hdg hf) hS (fun q _ h => hFc q h) hFc (fun r u t H1 locs1 ht hvm hw hB hz1 hk1 hS1 => ?_)
  have hB : va_P D classes (w1 u) t.heap ∧ va_D (va_A cx H.size) (w1 u) := hB
  rw [ht] at hB
  obtain ⟨hP2, hD2⟩ := va_joinQ hP hD isC isR hC hR hn hdis hk1 hFc hB.1 hB.2
  exact kk r u H1 locs1 hw hP2 hD2 hS1
theorem zk_viM {e0 : va_E} {ws : va_W} {post : Int32 → S → Prop} (hM : Met l y wsY rm (va_Pc (.ref b :: As) (zPre D cs [(b, e0)] H.size)) (va_Qi post (fun (u : S) (t : State) => va_P D classes [(b, e0)] t.heap ∧ va_D (va_A [(b, e0)] H.size) [(b, e0)]) (va_A [(b, e0)] H.size)) mc ms (va_A [(b, e0)] H.size))
    (S0 : CallFix p m c cc nL s args zW own) (cw : CallW R s args own C index y bytes maxL ret wsY rm mc ms n) (hrv : ∃ cellB : Cell, H[b]? = some cellB ∧ cellB.vm.isStatics = false ∧ s.vm.findClass C = some cellB.cls)
    (hP : va_P D classes ws H) (hD : va_D A ws) (hS : va_S A s.heap H locs) (hK : va_K D classes (zT cs) s) (hA : ∀ q : Nat, s.heap.size ≤ q → A q) (j : Nat) (hj : ws[j]? = some (b, e0))
    (hlen : As.length = n) (hsize : ls.size = nL) (hW : (rest.map fun v => v.category).sum ≤ 8) (hdg : decode cc pc = .ok (.invokevirtual index, 3)) (hf : cells + mc ≤ R.cells ∧ slots + ms ≤ R.slots)
    (kk : ∀ (r : Int32) (u : S) (H1 : Heap) (locs1 : List Loc), post r u → va_P D classes ws H1 → va_D A ws → va_S A s.heap H1 locs1 → W p l e R s m args below meth c H1 locs1 (cells + mc) (slots + ms) Q (F0 m (pc + 3) ls (.int r :: rest))) :
    W p l e R s m args below meth c H locs cells slots Q (F0 m pc ls (As.reverse ++ .ref b :: rest)) := by
  have hPc : va_P D classes [(b, e0)] H := fun k q hk => by
    cases k with
    | zero => exact hP j q (hj.trans (by rw [← hk]; rfl))
    | succ k => cases hk
  have hDc : va_D A [(b, e0)] := by
    refine ⟨fun i k p q hi hk _ => ?_, fun k q hk => ?_⟩
    · cases i with
      | zero => cases k with
        | zero => rfl
        | succ k => cases hk
      | succ i => cases hi
    · cases k with
      | zero => exact hD.2 j q (hj.trans (by rw [← hk]; rfl))
      | succ k => cases hk
  have hFc : ∀ q, va_A [(b, e0)] H.size q → A q := fun q h => by
    rcases h with ⟨i, e2, h⟩ | h
    · cases i with
      | zero => exact hD.2 j (q, e2) (hj.trans h)
      | succ i => cases h
    · exact hA q (Nat.le_trans hS.1 h)
  refine va_calli (va_runV (As := As) (rest := rest) S0 hM cw ⟨zPre_blind, hrv, fun U hU hW => ⟨rfl, ⟨by rw [hU], by rw [hU]; exact hPc, va_K.moved hW.alike hK, hDc.weaken (fun _ _ _ _ => trivial)⟩⟩⟩ rfl hlen hsize rfl (lv_room hW) hdg hf) hS (fun q _ h => hFc q h) hFc (fun r u t H1 locs1 ht hvm hw hB hz1 hk1 hS1 => ?_)
  have hB : va_P D classes [(b, e0)] t.heap ∧ va_D (va_A [(b, e0)] H.size) [(b, e0)] := hB
  rw [ht] at hB
  have hP2 := zk_joinM hP hD hj hk1 hB.1
  have hD2 := hD
  exact kk r u H1 locs1 hw hP2 hD2 hS1
theorem zk_vvM {e0 : va_E} {ws : va_W} {post : S → Prop} (hM : Met l y wsY rm (va_Pc (.ref b :: As) (zPre D cs [(b, e0)] H.size)) (va_Qv post (fun (u : S) (t : State) => va_P D classes [(b, e0)] t.heap ∧ va_D (va_A [(b, e0)] H.size) [(b, e0)]) (va_A [(b, e0)] H.size)) mc ms (va_A [(b, e0)] H.size))
    (S0 : CallFix p m c cc nL s args zW own) (cw : CallW R s args own C index y bytes maxL ret wsY rm mc ms n) (hrv : ∃ cellB : Cell, H[b]? = some cellB ∧ cellB.vm.isStatics = false ∧ s.vm.findClass C = some cellB.cls)
    (hP : va_P D classes ws H) (hD : va_D A ws) (hS : va_S A s.heap H locs) (hK : va_K D classes (zT cs) s) (hA : ∀ q : Nat, s.heap.size ≤ q → A q) (j : Nat) (hj : ws[j]? = some (b, e0))
    (hlen : As.length = n) (hsize : ls.size = nL) (hW : (rest.map fun v => v.category).sum ≤ 8) (hdg : decode cc pc = .ok (.invokevirtual index, 3)) (hf : cells + mc ≤ R.cells ∧ slots + ms ≤ R.slots)
    (kk : ∀ (u : S) (H1 : Heap) (locs1 : List Loc), post u → va_P D classes ws H1 → va_D A ws → va_S A s.heap H1 locs1 → W p l e R s m args below meth c H1 locs1 (cells + mc) (slots + ms) Q (F0 m (pc + 3) ls (rest))) :
    W p l e R s m args below meth c H locs cells slots Q (F0 m pc ls (As.reverse ++ .ref b :: rest)) := by
  have hPc : va_P D classes [(b, e0)] H := fun k q hk => by
    cases k with
    | zero => exact hP j q (hj.trans (by rw [← hk]; rfl))
    | succ k => cases hk
  have hDc : va_D A [(b, e0)] := by
    refine ⟨fun i k p q hi hk _ => ?_, fun k q hk => ?_⟩
    · cases i with
      | zero => cases k with
        | zero => rfl
        | succ k => cases hk
      | succ i => cases hi
    · cases k with
      | zero => exact hD.2 j q (hj.trans (by rw [← hk]; rfl))
      | succ k => cases hk
  have hFc : ∀ q, va_A [(b, e0)] H.size q → A q := fun q h => by
    rcases h with ⟨i, e2, h⟩ | h
    · cases i with
      | zero => exact hD.2 j (q, e2) (hj.trans h)
      | succ i => cases h
    · exact hA q (Nat.le_trans hS.1 h)
  refine va_callv (va_runV (As := As) (rest := rest) S0 hM cw ⟨zPre_blind, hrv, fun U hU hW => ⟨rfl, ⟨by rw [hU], by rw [hU]; exact hPc, va_K.moved hW.alike hK, hDc.weaken (fun _ _ _ _ => trivial)⟩⟩⟩ rfl hlen hsize rfl (lv_room hW) hdg hf) hS (fun q _ h => hFc q h) hFc (fun u t H1 locs1 ht hvm hw hB hz1 hk1 hS1 => ?_)
  have hB : va_P D classes [(b, e0)] t.heap ∧ va_D (va_A [(b, e0)] H.size) [(b, e0)] := hB
  rw [ht] at hB
  have hP2 := zk_joinM hP hD hj hk1 hB.1
  have hD2 := hD
  exact kk u H1 locs1 hw hP2 hD2 hS1
theorem zk_viOM {e0 : va_E} {ws : va_W} {post : Int32 → S → Prop} (hO : zO s) (hM : Met l y wsY rm (va_Pc (.ref b :: As) (zPreO D cs [(b, e0)] H.size)) (va_Qi post (fun (u : S) (t : State) => va_P D classes [(b, e0)] t.heap ∧ va_D (va_A [(b, e0)] H.size) [(b, e0)]) (va_A [(b, e0)] H.size)) mc ms (va_A [(b, e0)] H.size))
    (S0 : CallFix p m c cc nL s args zW own) (cw : CallW R s args own C index y bytes maxL ret wsY rm mc ms n) (hrv : ∃ cellB : Cell, H[b]? = some cellB ∧ cellB.vm.isStatics = false ∧ s.vm.findClass C = some cellB.cls)
    (hP : va_P D classes ws H) (hD : va_D A ws) (hS : va_S A s.heap H locs) (hK : va_K D classes (zT cs) s) (hA : ∀ q : Nat, s.heap.size ≤ q → A q) (j : Nat) (hj : ws[j]? = some (b, e0))
    (hlen : As.length = n) (hsize : ls.size = nL) (hW : (rest.map fun v => v.category).sum ≤ 8) (hdg : decode cc pc = .ok (.invokevirtual index, 3)) (hf : cells + mc ≤ R.cells ∧ slots + ms ≤ R.slots)
    (kk : ∀ (r : Int32) (u : S) (H1 : Heap) (locs1 : List Loc), post r u → va_P D classes ws H1 → va_D A ws → va_S A s.heap H1 locs1 → W p l e R s m args below meth c H1 locs1 (cells + mc) (slots + ms) Q (F0 m (pc + 3) ls (.int r :: rest))) :
    W p l e R s m args below meth c H locs cells slots Q (F0 m pc ls (As.reverse ++ .ref b :: rest)) := by
  have hPc : va_P D classes [(b, e0)] H := fun k q hk => by
    cases k with
    | zero => exact hP j q (hj.trans (by rw [← hk]; rfl))
    | succ k => cases hk
  have hDc : va_D A [(b, e0)] := by
    refine ⟨fun i k p q hi hk _ => ?_, fun k q hk => ?_⟩
    · cases i with
      | zero => cases k with
        | zero => rfl
        | succ k => cases hk
      | succ i => cases hi
    · cases k with
      | zero => exact hD.2 j q (hj.trans (by rw [← hk]; rfl))
      | succ k => cases hk
  have hFc : ∀ q, va_A [(b, e0)] H.size q → A q := fun q h => by
    rcases h with ⟨i, e2, h⟩ | h
    · cases i with
      | zero => exact hD.2 j (q, e2) (hj.trans h)
      | succ i => cases h
    · exact hA q (Nat.le_trans hS.1 h)
  refine va_calli (va_runV (As := As) (rest := rest) S0 hM cw ⟨zPreO_blind, hrv, fun U hU hW => ⟨rfl, ⟨by rw [hU], by rw [hU]; exact hPc, va_K.moved hW.alike hK, hDc.weaken (fun _ _ _ _ => trivial)⟩, zO.warm hW hO⟩⟩ rfl hlen hsize rfl (lv_room hW) hdg hf) hS (fun q _ h => hFc q h) hFc (fun r u t H1 locs1 ht hvm hw hB hz1 hk1 hS1 => ?_)
  have hB : va_P D classes [(b, e0)] t.heap ∧ va_D (va_A [(b, e0)] H.size) [(b, e0)] := hB
  rw [ht] at hB
  have hP2 := zk_joinM hP hD hj hk1 hB.1
  have hD2 := hD
  exact kk r u H1 locs1 hw hP2 hD2 hS1
theorem zk_vvOM {e0 : va_E} {ws : va_W} {post : S → Prop} (hO : zO s) (hM : Met l y wsY rm (va_Pc (.ref b :: As) (zPreO D cs [(b, e0)] H.size)) (va_Qv post (fun (u : S) (t : State) => va_P D classes [(b, e0)] t.heap ∧ va_D (va_A [(b, e0)] H.size) [(b, e0)]) (va_A [(b, e0)] H.size)) mc ms (va_A [(b, e0)] H.size))
    (S0 : CallFix p m c cc nL s args zW own) (cw : CallW R s args own C index y bytes maxL ret wsY rm mc ms n) (hrv : ∃ cellB : Cell, H[b]? = some cellB ∧ cellB.vm.isStatics = false ∧ s.vm.findClass C = some cellB.cls)
    (hP : va_P D classes ws H) (hD : va_D A ws) (hS : va_S A s.heap H locs) (hK : va_K D classes (zT cs) s) (hA : ∀ q : Nat, s.heap.size ≤ q → A q) (j : Nat) (hj : ws[j]? = some (b, e0))
    (hlen : As.length = n) (hsize : ls.size = nL) (hW : (rest.map fun v => v.category).sum ≤ 8) (hdg : decode cc pc = .ok (.invokevirtual index, 3)) (hf : cells + mc ≤ R.cells ∧ slots + ms ≤ R.slots)
    (kk : ∀ (u : S) (H1 : Heap) (locs1 : List Loc), post u → va_P D classes ws H1 → va_D A ws → va_S A s.heap H1 locs1 → W p l e R s m args below meth c H1 locs1 (cells + mc) (slots + ms) Q (F0 m (pc + 3) ls (rest))) :
    W p l e R s m args below meth c H locs cells slots Q (F0 m pc ls (As.reverse ++ .ref b :: rest)) := by
  have hPc : va_P D classes [(b, e0)] H := fun k q hk => by
    cases k with
    | zero => exact hP j q (hj.trans (by rw [← hk]; rfl))
    | succ k => cases hk
  have hDc : va_D A [(b, e0)] := by
    refine ⟨fun i k p q hi hk _ => ?_, fun k q hk => ?_⟩
    · cases i with
      | zero => cases k with
        | zero => rfl
        | succ k => cases hk
      | succ i => cases hi
    · cases k with
      | zero => exact hD.2 j q (hj.trans (by rw [← hk]; rfl))
      | succ k => cases hk
  have hFc : ∀ q, va_A [(b, e0)] H.size q → A q := fun q h => by
    rcases h with ⟨i, e2, h⟩ | h
    · cases i with
      | zero => exact hD.2 j (q, e2) (hj.trans h)
      | succ i => cases h
    · exact hA q (Nat.le_trans hS.1 h)
  refine va_callv (va_runV (As := As) (rest := rest) S0 hM cw ⟨zPreO_blind, hrv, fun U hU hW => ⟨rfl, ⟨by rw [hU], by rw [hU]; exact hPc, va_K.moved hW.alike hK, hDc.weaken (fun _ _ _ _ => trivial)⟩, zO.warm hW hO⟩⟩ rfl hlen hsize rfl (lv_room hW) hdg hf) hS (fun q _ h => hFc q h) hFc (fun u t H1 locs1 ht hvm hw hB hz1 hk1 hS1 => ?_)
  have hB : va_P D classes [(b, e0)] t.heap ∧ va_D (va_A [(b, e0)] H.size) [(b, e0)] := hB
  rw [ht] at hB
  have hP2 := zk_joinM hP hD hj hk1 hB.1
  have hD2 := hD
  exact kk u H1 locs1 hw hP2 hD2 hS1
end ZKP
section ZZP
variable {p : Program} {l : Launch} {e : Env} {R : Room} {s : State} {m : MethodId} {args : Array Value} {below : List Frame} {meth : Method} {c : Code} {H : Heap} {locs : List Loc} {cells slots : Nat} {Q : State → Prop} {ls : Array Slot} {pc : Nat}
variable {A : Nat → Prop} {D : va_G} {cs : Nat → ClassId} {ws wc X cx PL : va_W} {S : Type} {w1 : S → va_W} {y : MethodName} {wsY : List Cond} {rm : Room} {C own host : String} {index maxL mc ms n nL : Nat} {bytes cc : ByteArray} {ret : Option FieldType} {b : Nat} {As rest : List Value}
theorem zz_viP {post : Int32 → S → Prop} (hM : Met l y wsY rm (va_Pc (.ref b :: As) (zPre D cs (cx ++ PL) H.size)) (va_Qi post (fun (u : S) (t : State) => va_P D classes (w1 u ++ PL) t.heap ∧ va_D (va_A (cx ++ PL) H.size) (w1 u ++ PL)) (va_A (cx ++ PL) H.size)) mc ms (va_A (cx ++ PL) H.size))
    (S0 : CallFix p m c cc nL s args zW own) (cw : CallW R s args own C index y bytes maxL ret wsY rm mc ms n) (hrv : ∃ cellB : Cell, H[b]? = some cellB ∧ cellB.vm.isStatics = false ∧ s.vm.findClass C = some cellB.cls)
    (hP : va_P D classes (X ++ PL) H) (hD : va_D A (X ++ PL)) (hS : va_S A s.heap H locs) (hK : va_K D classes (zT cs) s) (hA : ∀ q : Nat, s.heap.size ≤ q → A q) (isC : List Nat) (hC0 : isC.map (zgt X) = cx.map some) (hnC : va_nd isC = true) (ks : List Nat) (hks : cx.map Prod.fst = ks) (hkey : ∀ u : S, (w1 u).map Prod.fst = ks)
    (hlen : As.length = n) (hsize : ls.size = nL) (hW : (rest.map fun v => v.category).sum ≤ 8) (hdg : decode cc pc = .ok (.invokevirtual index, 3)) (hf : cells + mc ≤ R.cells ∧ slots + ms ≤ R.slots)
    (kk : ∀ (r : Int32) (u : S) (H1 : Heap) (locs1 : List Loc), post r u → va_P D classes (zset isC X (w1 u) ++ PL) H1 → va_S A s.heap H1 locs1 → W p l e R s m args below meth c H1 locs1 (cells + mc) (slots + ms) Q (F0 m (pc + 3) ls (.int r :: rest))) :
    W p l e R s m args below meth c H locs cells slots Q (F0 m pc ls (As.reverse ++ .ref b :: rest)) := by
  have hC := zmp hC0
  have hPc : va_P D classes (cx ++ PL) H := hP.part isC hC
  have hDc : va_D A (cx ++ PL) := hD.part isC hnC hC
  have hFc := va_freeP hD hS hA isC hC
  refine va_calli (va_runV (As := As) (rest := rest) S0 hM cw ⟨zPre_blind, hrv, fun U hU hW => ⟨rfl, ⟨by rw [hU], by rw [hU]; exact hPc, va_K.moved hW.alike hK, hDc.weaken (fun _ _ _ _ => trivial)⟩⟩⟩ rfl hlen hsize rfl (lv_room hW) hdg hf) hS (fun q _ h => hFc q h) hFc (fun r u t H1 locs1 ht hvm hw hB hz1 hk1 hS1 => ?_)
  have hB : va_P D classes (w1 u ++ PL) t.heap ∧ va_D (va_A (cx ++ PL) H.size) (w1 u ++ PL) := hB
  rw [ht] at hB
  exact kk r u H1 locs1 hw (zjP hP hD hC ((hkey u).trans hks.symm) hk1 hB.1) hS1
theorem zz_viQ {post : Int32 → S → Prop} (hM : Met l y wsY rm (va_Pc (.ref b :: As) (zPre D cs cx H.size)) (va_Qi post (fun (u : S) (t : State) => va_P D classes (w1 u) t.heap ∧ va_D (va_A cx H.size) (w1 u)) (va_A cx H.size)) mc ms (va_A cx H.size))
    (S0 : CallFix p m c cc nL s args zW own) (cw : CallW R s args own C index y bytes maxL ret wsY rm mc ms n) (hrv : ∃ cellB : Cell, H[b]? = some cellB ∧ cellB.vm.isStatics = false ∧ s.vm.findClass C = some cellB.cls)
    (hP : va_P D classes (X ++ PL) H) (hD : va_D A (X ++ PL)) (hS : va_S A s.heap H locs) (hK : va_K D classes (zT cs) s) (hA : ∀ q : Nat, s.heap.size ≤ q → A q) (isC : List Nat) (hC0 : isC.map (zgt X) = cx.map some) (hnC : va_nd isC = true) (ks : List Nat) (hks : cx.map Prod.fst = ks) (hkey : ∀ u : S, (w1 u).map Prod.fst = ks)
    (hlen : As.length = n) (hsize : ls.size = nL) (hW : (rest.map fun v => v.category).sum ≤ 8) (hdg : decode cc pc = .ok (.invokevirtual index, 3)) (hf : cells + mc ≤ R.cells ∧ slots + ms ≤ R.slots)
    (kk : ∀ (r : Int32) (u : S) (H1 : Heap) (locs1 : List Loc), post r u → va_P D classes (zset isC X (w1 u) ++ PL) H1 → va_S A s.heap H1 locs1 → W p l e R s m args below meth c H1 locs1 (cells + mc) (slots + ms) Q (F0 m (pc + 3) ls (.int r :: rest))) :
    W p l e R s m args below meth c H locs cells slots Q (F0 m pc ls (As.reverse ++ .ref b :: rest)) := by
  have hC := zmp hC0
  have hPc : va_P D classes cx H := (zP_l hP).sub isC (zk_fm hC)
  have hDc : va_D A cx := (zD_l hD).sub isC hnC hC
  have hFc := va_free (zD_l hD) hS hA isC hC
  refine va_calli (va_runV (As := As) (rest := rest) S0 hM cw ⟨zPre_blind, hrv, fun U hU hW => ⟨rfl, ⟨by rw [hU], by rw [hU]; exact hPc, va_K.moved hW.alike hK, hDc.weaken (fun _ _ _ _ => trivial)⟩⟩⟩ rfl hlen hsize rfl (lv_room hW) hdg hf) hS (fun q _ h => hFc q h) hFc (fun r u t H1 locs1 ht hvm hw hB hz1 hk1 hS1 => ?_)
  have hB : va_P D classes (w1 u) t.heap ∧ va_D (va_A cx H.size) (w1 u) := hB
  rw [ht] at hB
  exact kk r u H1 locs1 hw (zjQ hP hD hC ((hkey u).trans hks.symm) hk1 hB.1) hS1
theorem zz_viOP {post : Int32 → S → Prop} (hO : zO s) (hM : Met l y wsY rm (va_Pc (.ref b :: As) (zPreO D cs (cx ++ PL) H.size)) (va_Qi post (fun (u : S) (t : State) => va_P D classes (w1 u ++ PL) t.heap ∧ va_D (va_A (cx ++ PL) H.size) (w1 u ++ PL)) (va_A (cx ++ PL) H.size)) mc ms (va_A (cx ++ PL) H.size))
    (S0 : CallFix p m c cc nL s args zW own) (cw : CallW R s args own C index y bytes maxL ret wsY rm mc ms n) (hrv : ∃ cellB : Cell, H[b]? = some cellB ∧ cellB.vm.isStatics = false ∧ s.vm.findClass C = some cellB.cls)
    (hP : va_P D classes (X ++ PL) H) (hD : va_D A (X ++ PL)) (hS : va_S A s.heap H locs) (hK : va_K D classes (zT cs) s) (hA : ∀ q : Nat, s.heap.size ≤ q → A q) (isC : List Nat) (hC0 : isC.map (zgt X) = cx.map some) (hnC : va_nd isC = true) (ks : List Nat) (hks : cx.map Prod.fst = ks) (hkey : ∀ u : S, (w1 u).map Prod.fst = ks)
    (hlen : As.length = n) (hsize : ls.size = nL) (hW : (rest.map fun v => v.category).sum ≤ 8) (hdg : decode cc pc = .ok (.invokevirtual index, 3)) (hf : cells + mc ≤ R.cells ∧ slots + ms ≤ R.slots)
    (kk : ∀ (r : Int32) (u : S) (H1 : Heap) (locs1 : List Loc), post r u → va_P D classes (zset isC X (w1 u) ++ PL) H1 → va_S A s.heap H1 locs1 → W p l e R s m args below meth c H1 locs1 (cells + mc) (slots + ms) Q (F0 m (pc + 3) ls (.int r :: rest))) :
    W p l e R s m args below meth c H locs cells slots Q (F0 m pc ls (As.reverse ++ .ref b :: rest)) := by
  have hC := zmp hC0
  have hPc : va_P D classes (cx ++ PL) H := hP.part isC hC
  have hDc : va_D A (cx ++ PL) := hD.part isC hnC hC
  have hFc := va_freeP hD hS hA isC hC
  refine va_calli (va_runV (As := As) (rest := rest) S0 hM cw ⟨zPreO_blind, hrv, fun U hU hW => ⟨rfl, ⟨by rw [hU], by rw [hU]; exact hPc, va_K.moved hW.alike hK, hDc.weaken (fun _ _ _ _ => trivial)⟩, zO.warm hW hO⟩⟩ rfl hlen hsize rfl (lv_room hW) hdg hf) hS (fun q _ h => hFc q h) hFc (fun r u t H1 locs1 ht hvm hw hB hz1 hk1 hS1 => ?_)
  have hB : va_P D classes (w1 u ++ PL) t.heap ∧ va_D (va_A (cx ++ PL) H.size) (w1 u ++ PL) := hB
  rw [ht] at hB
  exact kk r u H1 locs1 hw (zjP hP hD hC ((hkey u).trans hks.symm) hk1 hB.1) hS1
theorem zz_viOQ {post : Int32 → S → Prop} (hO : zO s) (hM : Met l y wsY rm (va_Pc (.ref b :: As) (zPreO D cs cx H.size)) (va_Qi post (fun (u : S) (t : State) => va_P D classes (w1 u) t.heap ∧ va_D (va_A cx H.size) (w1 u)) (va_A cx H.size)) mc ms (va_A cx H.size))
    (S0 : CallFix p m c cc nL s args zW own) (cw : CallW R s args own C index y bytes maxL ret wsY rm mc ms n) (hrv : ∃ cellB : Cell, H[b]? = some cellB ∧ cellB.vm.isStatics = false ∧ s.vm.findClass C = some cellB.cls)
    (hP : va_P D classes (X ++ PL) H) (hD : va_D A (X ++ PL)) (hS : va_S A s.heap H locs) (hK : va_K D classes (zT cs) s) (hA : ∀ q : Nat, s.heap.size ≤ q → A q) (isC : List Nat) (hC0 : isC.map (zgt X) = cx.map some) (hnC : va_nd isC = true) (ks : List Nat) (hks : cx.map Prod.fst = ks) (hkey : ∀ u : S, (w1 u).map Prod.fst = ks)
    (hlen : As.length = n) (hsize : ls.size = nL) (hW : (rest.map fun v => v.category).sum ≤ 8) (hdg : decode cc pc = .ok (.invokevirtual index, 3)) (hf : cells + mc ≤ R.cells ∧ slots + ms ≤ R.slots)
    (kk : ∀ (r : Int32) (u : S) (H1 : Heap) (locs1 : List Loc), post r u → va_P D classes (zset isC X (w1 u) ++ PL) H1 → va_S A s.heap H1 locs1 → W p l e R s m args below meth c H1 locs1 (cells + mc) (slots + ms) Q (F0 m (pc + 3) ls (.int r :: rest))) :
    W p l e R s m args below meth c H locs cells slots Q (F0 m pc ls (As.reverse ++ .ref b :: rest)) := by
  have hC := zmp hC0
  have hPc : va_P D classes cx H := (zP_l hP).sub isC (zk_fm hC)
  have hDc : va_D A cx := (zD_l hD).sub isC hnC hC
  have hFc := va_free (zD_l hD) hS hA isC hC
  refine va_calli (va_runV (As := As) (rest := rest) S0 hM cw ⟨zPreO_blind, hrv, fun U hU hW => ⟨rfl, ⟨by rw [hU], by rw [hU]; exact hPc, va_K.moved hW.alike hK, hDc.weaken (fun _ _ _ _ => trivial)⟩, zO.warm hW hO⟩⟩ rfl hlen hsize rfl (lv_room hW) hdg hf) hS (fun q _ h => hFc q h) hFc (fun r u t H1 locs1 ht hvm hw hB hz1 hk1 hS1 => ?_)
  have hB : va_P D classes (w1 u) t.heap ∧ va_D (va_A cx H.size) (w1 u) := hB
  rw [ht] at hB
  exact kk r u H1 locs1 hw (zjQ hP hD hC ((hkey u).trans hks.symm) hk1 hB.1) hS1
theorem zz_vlP {post : Int64 → S → Prop} (hM : Met l y wsY rm (va_Pc (.ref b :: As) (zPre D cs (cx ++ PL) H.size)) (va_Ql post (fun (u : S) (t : State) => va_P D classes (w1 u ++ PL) t.heap ∧ va_D (va_A (cx ++ PL) H.size) (w1 u ++ PL)) (va_A (cx ++ PL) H.size)) mc ms (va_A (cx ++ PL) H.size))
    (S0 : CallFix p m c cc nL s args zW own) (cw : CallW R s args own C index y bytes maxL ret wsY rm mc ms n) (hrv : ∃ cellB : Cell, H[b]? = some cellB ∧ cellB.vm.isStatics = false ∧ s.vm.findClass C = some cellB.cls)
    (hP : va_P D classes (X ++ PL) H) (hD : va_D A (X ++ PL)) (hS : va_S A s.heap H locs) (hK : va_K D classes (zT cs) s) (hA : ∀ q : Nat, s.heap.size ≤ q → A q) (isC : List Nat) (hC0 : isC.map (zgt X) = cx.map some) (hnC : va_nd isC = true) (ks : List Nat) (hks : cx.map Prod.fst = ks) (hkey : ∀ u : S, (w1 u).map Prod.fst = ks)
    (hlen : As.length = n) (hsize : ls.size = nL) (hW : (rest.map fun v => v.category).sum ≤ 8) (hdg : decode cc pc = .ok (.invokevirtual index, 3)) (hf : cells + mc ≤ R.cells ∧ slots + ms ≤ R.slots)
    (kk : ∀ (r : Int64) (u : S) (H1 : Heap) (locs1 : List Loc), post r u → va_P D classes (zset isC X (w1 u) ++ PL) H1 → va_S A s.heap H1 locs1 → W p l e R s m args below meth c H1 locs1 (cells + mc) (slots + ms) Q (F0 m (pc + 3) ls (.long r :: rest))) :
    W p l e R s m args below meth c H locs cells slots Q (F0 m pc ls (As.reverse ++ .ref b :: rest)) := by
  have hC := zmp hC0
  have hPc : va_P D classes (cx ++ PL) H := hP.part isC hC
  have hDc : va_D A (cx ++ PL) := hD.part isC hnC hC
  have hFc := va_freeP hD hS hA isC hC
  refine va_calll (va_runV (As := As) (rest := rest) S0 hM cw ⟨zPre_blind, hrv, fun U hU hW => ⟨rfl, ⟨by rw [hU], by rw [hU]; exact hPc, va_K.moved hW.alike hK, hDc.weaken (fun _ _ _ _ => trivial)⟩⟩⟩ rfl hlen hsize rfl (lv_room hW) hdg hf) hS (fun q _ h => hFc q h) hFc (fun r u t H1 locs1 ht hvm hw hB hz1 hk1 hS1 => ?_)
  have hB : va_P D classes (w1 u ++ PL) t.heap ∧ va_D (va_A (cx ++ PL) H.size) (w1 u ++ PL) := hB
  rw [ht] at hB
  exact kk r u H1 locs1 hw (zjP hP hD hC ((hkey u).trans hks.symm) hk1 hB.1) hS1
theorem zz_vlQ {post : Int64 → S → Prop} (hM : Met l y wsY rm (va_Pc (.ref b :: As) (zPre D cs cx H.size)) (va_Ql post (fun (u : S) (t : State) => va_P D classes (w1 u) t.heap ∧ va_D (va_A cx H.size) (w1 u)) (va_A cx H.size)) mc ms (va_A cx H.size))
    (S0 : CallFix p m c cc nL s args zW own) (cw : CallW R s args own C index y bytes maxL ret wsY rm mc ms n) (hrv : ∃ cellB : Cell, H[b]? = some cellB ∧ cellB.vm.isStatics = false ∧ s.vm.findClass C = some cellB.cls)
    (hP : va_P D classes (X ++ PL) H) (hD : va_D A (X ++ PL)) (hS : va_S A s.heap H locs) (hK : va_K D classes (zT cs) s) (hA : ∀ q : Nat, s.heap.size ≤ q → A q) (isC : List Nat) (hC0 : isC.map (zgt X) = cx.map some) (hnC : va_nd isC = true) (ks : List Nat) (hks : cx.map Prod.fst = ks) (hkey : ∀ u : S, (w1 u).map Prod.fst = ks)
    (hlen : As.length = n) (hsize : ls.size = nL) (hW : (rest.map fun v => v.category).sum ≤ 8) (hdg : decode cc pc = .ok (.invokevirtual index, 3)) (hf : cells + mc ≤ R.cells ∧ slots + ms ≤ R.slots)
    (kk : ∀ (r : Int64) (u : S) (H1 : Heap) (locs1 : List Loc), post r u → va_P D classes (zset isC X (w1 u) ++ PL) H1 → va_S A s.heap H1 locs1 → W p l e R s m args below meth c H1 locs1 (cells + mc) (slots + ms) Q (F0 m (pc + 3) ls (.long r :: rest))) :
    W p l e R s m args below meth c H locs cells slots Q (F0 m pc ls (As.reverse ++ .ref b :: rest)) := by
  have hC := zmp hC0
  have hPc : va_P D classes cx H := (zP_l hP).sub isC (zk_fm hC)
  have hDc : va_D A cx := (zD_l hD).sub isC hnC hC
  have hFc := va_free (zD_l hD) hS hA isC hC
  refine va_calll (va_runV (As := As) (rest := rest) S0 hM cw ⟨zPre_blind, hrv, fun U hU hW => ⟨rfl, ⟨by rw [hU], by rw [hU]; exact hPc, va_K.moved hW.alike hK, hDc.weaken (fun _ _ _ _ => trivial)⟩⟩⟩ rfl hlen hsize rfl (lv_room hW) hdg hf) hS (fun q _ h => hFc q h) hFc (fun r u t H1 locs1 ht hvm hw hB hz1 hk1 hS1 => ?_)
  have hB : va_P D classes (w1 u) t.heap ∧ va_D (va_A cx H.size) (w1 u) := hB
  rw [ht] at hB
  exact kk r u H1 locs1 hw (zjQ hP hD hC ((hkey u).trans hks.symm) hk1 hB.1) hS1
theorem zz_vlOP {post : Int64 → S → Prop} (hO : zO s) (hM : Met l y wsY rm (va_Pc (.ref b :: As) (zPreO D cs (cx ++ PL) H.size)) (va_Ql post (fun (u : S) (t : State) => va_P D classes (w1 u ++ PL) t.heap ∧ va_D (va_A (cx ++ PL) H.size) (w1 u ++ PL)) (va_A (cx ++ PL) H.size)) mc ms (va_A (cx ++ PL) H.size))
    (S0 : CallFix p m c cc nL s args zW own) (cw : CallW R s args own C index y bytes maxL ret wsY rm mc ms n) (hrv : ∃ cellB : Cell, H[b]? = some cellB ∧ cellB.vm.isStatics = false ∧ s.vm.findClass C = some cellB.cls)
    (hP : va_P D classes (X ++ PL) H) (hD : va_D A (X ++ PL)) (hS : va_S A s.heap H locs) (hK : va_K D classes (zT cs) s) (hA : ∀ q : Nat, s.heap.size ≤ q → A q) (isC : List Nat) (hC0 : isC.map (zgt X) = cx.map some) (hnC : va_nd isC = true) (ks : List Nat) (hks : cx.map Prod.fst = ks) (hkey : ∀ u : S, (w1 u).map Prod.fst = ks)
    (hlen : As.length = n) (hsize : ls.size = nL) (hW : (rest.map fun v => v.category).sum ≤ 8) (hdg : decode cc pc = .ok (.invokevirtual index, 3)) (hf : cells + mc ≤ R.cells ∧ slots + ms ≤ R.slots)
    (kk : ∀ (r : Int64) (u : S) (H1 : Heap) (locs1 : List Loc), post r u → va_P D classes (zset isC X (w1 u) ++ PL) H1 → va_S A s.heap H1 locs1 → W p l e R s m args below meth c H1 locs1 (cells + mc) (slots + ms) Q (F0 m (pc + 3) ls (.long r :: rest))) :
    W p l e R s m args below meth c H locs cells slots Q (F0 m pc ls (As.reverse ++ .ref b :: rest)) := by
  have hC := zmp hC0
  have hPc : va_P D classes (cx ++ PL) H := hP.part isC hC
  have hDc : va_D A (cx ++ PL) := hD.part isC hnC hC
  have hFc := va_freeP hD hS hA isC hC
  refine va_calll (va_runV (As := As) (rest := rest) S0 hM cw ⟨zPreO_blind, hrv, fun U hU hW => ⟨rfl, ⟨by rw [hU], by rw [hU]; exact hPc, va_K.moved hW.alike hK, hDc.weaken (fun _ _ _ _ => trivial)⟩, zO.warm hW hO⟩⟩ rfl hlen hsize rfl (lv_room hW) hdg hf) hS (fun q _ h => hFc q h) hFc (fun r u t H1 locs1 ht hvm hw hB hz1 hk1 hS1 => ?_)
  have hB : va_P D classes (w1 u ++ PL) t.heap ∧ va_D (va_A (cx ++ PL) H.size) (w1 u ++ PL) := hB
  rw [ht] at hB
  exact kk r u H1 locs1 hw (zjP hP hD hC ((hkey u).trans hks.symm) hk1 hB.1) hS1
theorem zz_vlOQ {post : Int64 → S → Prop} (hO : zO s) (hM : Met l y wsY rm (va_Pc (.ref b :: As) (zPreO D cs cx H.size)) (va_Ql post (fun (u : S) (t : State) => va_P D classes (w1 u) t.heap ∧ va_D (va_A cx H.size) (w1 u)) (va_A cx H.size)) mc ms (va_A cx H.size))
    (S0 : CallFix p m c cc nL s args zW own) (cw : CallW R s args own C index y bytes maxL ret wsY rm mc ms n) (hrv : ∃ cellB : Cell, H[b]? = some cellB ∧ cellB.vm.isStatics = false ∧ s.vm.findClass C = some cellB.cls)
    (hP : va_P D classes (X ++ PL) H) (hD : va_D A (X ++ PL)) (hS : va_S A s.heap H locs) (hK : va_K D classes (zT cs) s) (hA : ∀ q : Nat, s.heap.size ≤ q → A q) (isC : List Nat) (hC0 : isC.map (zgt X) = cx.map some) (hnC : va_nd isC = true) (ks : List Nat) (hks : cx.map Prod.fst = ks) (hkey : ∀ u : S, (w1 u).map Prod.fst = ks)
    (hlen : As.length = n) (hsize : ls.size = nL) (hW : (rest.map fun v => v.category).sum ≤ 8) (hdg : decode cc pc = .ok (.invokevirtual index, 3)) (hf : cells + mc ≤ R.cells ∧ slots + ms ≤ R.slots)
    (kk : ∀ (r : Int64) (u : S) (H1 : Heap) (locs1 : List Loc), post r u → va_P D classes (zset isC X (w1 u) ++ PL) H1 → va_S A s.heap H1 locs1 → W p l e R s m args below meth c H1 locs1 (cells + mc) (slots + ms) Q (F0 m (pc + 3) ls (.long r :: rest))) :
    W p l e R s m args below meth c H locs cells slots Q (F0 m pc ls (As.reverse ++ .ref b :: rest)) := by
  have hC := zmp hC0
  have hPc : va_P D classes cx H := (zP_l hP).sub isC (zk_fm hC)
  have hDc : va_D A cx := (zD_l hD).sub isC hnC hC
  have hFc := va_free (zD_l hD) hS hA isC hC
  refine va_calll (va_runV (As := As) (rest := rest) S0 hM cw ⟨zPreO_blind, hrv, fun U hU hW => ⟨rfl, ⟨by rw [hU], by rw [hU]; exact hPc, va_K.moved hW.alike hK, hDc.weaken (fun _ _ _ _ => trivial)⟩, zO.warm hW hO⟩⟩ rfl hlen hsize rfl (lv_room hW) hdg hf) hS (fun q _ h => hFc q h) hFc (fun r u t H1 locs1 ht hvm hw hB hz1 hk1 hS1 => ?_)
  have hB : va_P D classes (w1 u) t.heap ∧ va_D (va_A cx H.size) (w1 u) := hB
  rw [ht] at hB
  exact kk r u H1 locs1 hw (zjQ hP hD hC ((hkey u).trans hks.symm) hk1 hB.1) hS1
theorem zz_vvP {post : S → Prop} (hM : Met l y wsY rm (va_Pc (.ref b :: As) (zPre D cs (cx ++ PL) H.size)) (va_Qv post (fun (u : S) (t : State) => va_P D classes (w1 u ++ PL) t.heap ∧ va_D (va_A (cx ++ PL) H.size) (w1 u ++ PL)) (va_A (cx ++ PL) H.size)) mc ms (va_A (cx ++ PL) H.size))
    (S0 : CallFix p m c cc nL s args zW own) (cw : CallW R s args own C index y bytes maxL ret wsY rm mc ms n) (hrv : ∃ cellB : Cell, H[b]? = some cellB ∧ cellB.vm.isStatics = false ∧ s.vm.findClass C = some cellB.cls)
    (hP : va_P D classes (X ++ PL) H) (hD : va_D A (X ++ PL)) (hS : va_S A s.heap H locs) (hK : va_K D classes (zT cs) s) (hA : ∀ q : Nat, s.heap.size ≤ q → A q) (isC : List Nat) (hC0 : isC.map (zgt X) = cx.map some) (hnC : va_nd isC = true) (ks : List Nat) (hks : cx.map Prod.fst = ks) (hkey : ∀ u : S, (w1 u).map Prod.fst = ks)
    (hlen : As.length = n) (hsize : ls.size = nL) (hW : (rest.map fun v => v.category).sum ≤ 8) (hdg : decode cc pc = .ok (.invokevirtual index, 3)) (hf : cells + mc ≤ R.cells ∧ slots + ms ≤ R.slots)
    (kk : ∀ (u : S) (H1 : Heap) (locs1 : List Loc), post u → va_P D classes (zset isC X (w1 u) ++ PL) H1 → va_S A s.heap H1 locs1 → W p l e R s m args below meth c H1 locs1 (cells + mc) (slots + ms) Q (F0 m (pc + 3) ls (rest))) :
    W p l e R s m args below meth c H locs cells slots Q (F0 m pc ls (As.reverse ++ .ref b :: rest)) := by
  have hC := zmp hC0
  have hPc : va_P D classes (cx ++ PL) H := hP.part isC hC
  have hDc : va_D A (cx ++ PL) := hD.part isC hnC hC
  have hFc := va_freeP hD hS hA isC hC
  refine va_callv (va_runV (As := As) (rest := rest) S0 hM cw ⟨zPre_blind, hrv, fun U hU hW => ⟨rfl, ⟨by rw [hU], by rw [hU]; exact hPc, va_K.moved hW.alike hK, hDc.weaken (fun _ _ _ _ => trivial)⟩⟩⟩ rfl hlen hsize rfl (lv_room hW) hdg hf) hS (fun q _ h => hFc q h) hFc (fun u t H1 locs1 ht hvm hw hB hz1 hk1 hS1 => ?_)
  have hB : va_P D classes (w1 u ++ PL) t.heap ∧ va_D (va_A (cx ++ PL) H.size) (w1 u ++ PL) := hB
  rw [ht] at hB
  exact kk u H1 locs1 hw (zjP hP hD hC ((hkey u).trans hks.symm) hk1 hB.1) hS1
theorem zz_vvQ {post : S → Prop} (hM : Met l y wsY rm (va_Pc (.ref b :: As) (zPre D cs cx H.size)) (va_Qv post (fun (u : S) (t : State) => va_P D classes (w1 u) t.heap ∧ va_D (va_A cx H.size) (w1 u)) (va_A cx H.size)) mc ms (va_A cx H.size))
    (S0 : CallFix p m c cc nL s args zW own) (cw : CallW R s args own C index y bytes maxL ret wsY rm mc ms n) (hrv : ∃ cellB : Cell, H[b]? = some cellB ∧ cellB.vm.isStatics = false ∧ s.vm.findClass C = some cellB.cls)
    (hP : va_P D classes (X ++ PL) H) (hD : va_D A (X ++ PL)) (hS : va_S A s.heap H locs) (hK : va_K D classes (zT cs) s) (hA : ∀ q : Nat, s.heap.size ≤ q → A q) (isC : List Nat) (hC0 : isC.map (zgt X) = cx.map some) (hnC : va_nd isC = true) (ks : List Nat) (hks : cx.map Prod.fst = ks) (hkey : ∀ u : S, (w1 u).map Prod.fst = ks)
    (hlen : As.length = n) (hsize : ls.size = nL) (hW : (rest.map fun v => v.category).sum ≤ 8) (hdg : decode cc pc = .ok (.invokevirtual index, 3)) (hf : cells + mc ≤ R.cells ∧ slots + ms ≤ R.slots)
    (kk : ∀ (u : S) (H1 : Heap) (locs1 : List Loc), post u → va_P D classes (zset isC X (w1 u) ++ PL) H1 → va_S A s.heap H1 locs1 → W p l e R s m args below meth c H1 locs1 (cells + mc) (slots + ms) Q (F0 m (pc + 3) ls (rest))) :
    W p l e R s m args below meth c H locs cells slots Q (F0 m pc ls (As.reverse ++ .ref b :: rest)) := by
  have hC := zmp hC0
  have hPc : va_P D classes cx H := (zP_l hP).sub isC (zk_fm hC)
  have hDc : va_D A cx := (zD_l hD).sub isC hnC hC
  have hFc := va_free (zD_l hD) hS hA isC hC
  refine va_callv (va_runV (As := As) (rest := rest) S0 hM cw ⟨zPre_blind, hrv, fun U hU hW => ⟨rfl, ⟨by rw [hU], by rw [hU]; exact hPc, va_K.moved hW.alike hK, hDc.weaken (fun _ _ _ _ => trivial)⟩⟩⟩ rfl hlen hsize rfl (lv_room hW) hdg hf) hS (fun q _ h => hFc q h) hFc (fun u t H1 locs1 ht hvm hw hB hz1 hk1 hS1 => ?_)
  have hB : va_P D classes (w1 u) t.heap ∧ va_D (va_A cx H.size) (w1 u) := hB
  rw [ht] at hB
  exact kk u H1 locs1 hw (zjQ hP hD hC ((hkey u).trans hks.symm) hk1 hB.1) hS1
theorem zz_vvOP {post : S → Prop} (hO : zO s) (hM : Met l y wsY rm (va_Pc (.ref b :: As) (zPreO D cs (cx ++ PL) H.size)) (va_Qv post (fun (u : S) (t : State) => va_P D classes (w1 u ++ PL) t.heap ∧ va_D (va_A (cx ++ PL) H.size) (w1 u ++ PL)) (va_A (cx ++ PL) H.size)) mc ms (va_A (cx ++ PL) H.size))
    (S0 : CallFix p m c cc nL s args zW own) (cw : CallW R s args own C index y bytes maxL ret wsY rm mc ms n) (hrv : ∃ cellB : Cell, H[b]? = some cellB ∧ cellB.vm.isStatics = false ∧ s.vm.findClass C = some cellB.cls)
    (hP : va_P D classes (X ++ PL) H) (hD : va_D A (X ++ PL)) (hS : va_S A s.heap H locs) (hK : va_K D classes (zT cs) s) (hA : ∀ q : Nat, s.heap.size ≤ q → A q) (isC : List Nat) (hC0 : isC.map (zgt X) = cx.map some) (hnC : va_nd isC = true) (ks : List Nat) (hks : cx.map Prod.fst = ks) (hkey : ∀ u : S, (w1 u).map Prod.fst = ks)
    (hlen : As.length = n) (hsize : ls.size = nL) (hW : (rest.map fun v => v.category).sum ≤ 8) (hdg : decode cc pc = .ok (.invokevirtual index, 3)) (hf : cells + mc ≤ R.cells ∧ slots + ms ≤ R.slots)
    (kk : ∀ (u : S) (H1 : Heap) (locs1 : List Loc), post u → va_P D classes (zset isC X (w1 u) ++ PL) H1 → va_S A s.heap H1 locs1 → W p l e R s m args below meth c H1 locs1 (cells + mc) (slots + ms) Q (F0 m (pc + 3) ls (rest))) :
    W p l e R s m args below meth c H locs cells slots Q (F0 m pc ls (As.reverse ++ .ref b :: rest)) := by
  have hC := zmp hC0
  have hPc : va_P D classes (cx ++ PL) H := hP.part isC hC
  have hDc : va_D A (cx ++ PL) := hD.part isC hnC hC
  have hFc := va_freeP hD hS hA isC hC
  refine va_callv (va_runV (As := As) (rest := rest) S0 hM cw ⟨zPreO_blind, hrv, fun U hU hW => ⟨rfl, ⟨by rw [hU], by rw [hU]; exact hPc, va_K.moved hW.alike hK, hDc.weaken (fun _ _ _ _ => trivial)⟩, zO.warm hW hO⟩⟩ rfl hlen hsize rfl (lv_room hW) hdg hf) hS (fun q _ h => hFc q h) hFc (fun u t H1 locs1 ht hvm hw hB hz1 hk1 hS1 => ?_)
  have hB : va_P D classes (w1 u ++ PL) t.heap ∧ va_D (va_A (cx ++ PL) H.size) (w1 u ++ PL) := hB
  rw [ht] at hB
  exact kk u H1 locs1 hw (zjP hP hD hC ((hkey u).trans hks.symm) hk1 hB.1) hS1
theorem zz_vvOQ {post : S → Prop} (hO : zO s) (hM : Met l y wsY rm (va_Pc (.ref b :: As) (zPreO D cs cx H.size)) (va_Qv post (fun (u : S) (t : State) => va_P D classes (w1 u) t.heap ∧ va_D (va_A cx H.size) (w1 u)) (va_A cx H.size)) mc ms (va_A cx H.size))
    (S0 : CallFix p m c cc nL s args zW own) (cw : CallW R s args own C index y bytes maxL ret wsY rm mc ms n) (hrv : ∃ cellB : Cell, H[b]? = some cellB ∧ cellB.vm.isStatics = false ∧ s.vm.findClass C = some cellB.cls)
    (hP : va_P D classes (X ++ PL) H) (hD : va_D A (X ++ PL)) (hS : va_S A s.heap H locs) (hK : va_K D classes (zT cs) s) (hA : ∀ q : Nat, s.heap.size ≤ q → A q) (isC : List Nat) (hC0 : isC.map (zgt X) = cx.map some) (hnC : va_nd isC = true) (ks : List Nat) (hks : cx.map Prod.fst = ks) (hkey : ∀ u : S, (w1 u).map Prod.fst = ks)
    (hlen : As.length = n) (hsize : ls.size = nL) (hW : (rest.map fun v => v.category).sum ≤ 8) (hdg : decode cc pc = .ok (.invokevirtual index, 3)) (hf : cells + mc ≤ R.cells ∧ slots + ms ≤ R.slots)
    (kk : ∀ (u : S) (H1 : Heap) (locs1 : List Loc), post u → va_P D classes (zset isC X (w1 u) ++ PL) H1 → va_S A s.heap H1 locs1 → W p l e R s m args below meth c H1 locs1 (cells + mc) (slots + ms) Q (F0 m (pc + 3) ls (rest))) :
    W p l e R s m args below meth c H locs cells slots Q (F0 m pc ls (As.reverse ++ .ref b :: rest)) := by
  have hC := zmp hC0
  have hPc : va_P D classes cx H := (zP_l hP).sub isC (zk_fm hC)
  have hDc : va_D A cx := (zD_l hD).sub isC hnC hC
  have hFc := va_free (zD_l hD) hS hA isC hC
  refine va_callv (va_runV (As := As) (rest := rest) S0 hM cw ⟨zPreO_blind, hrv, fun U hU hW => ⟨rfl, ⟨by rw [hU], by rw [hU]; exact hPc, va_K.moved hW.alike hK, hDc.weaken (fun _ _ _ _ => trivial)⟩, zO.warm hW hO⟩⟩ rfl hlen hsize rfl (lv_room hW) hdg hf) hS (fun q _ h => hFc q h) hFc (fun u t H1 locs1 ht hvm hw hB hz1 hk1 hS1 => ?_)
  have hB : va_P D classes (w1 u) t.heap ∧ va_D (va_A cx H.size) (w1 u) := hB
  rw [ht] at hB
  exact kk u H1 locs1 hw (zjQ hP hD hC ((hkey u).trans hks.symm) hk1 hB.1) hS1
theorem zz_vqP {post : Option Nat → S → Prop} (hM : Met l y wsY rm (va_Pc (.ref b :: As) (zPre D cs (cx ++ PL) H.size)) (va_Qq post (fun (u : S) (t : State) => va_P D classes (w1 u ++ PL) t.heap ∧ va_D (va_A (cx ++ PL) H.size) (w1 u ++ PL)) (va_A (cx ++ PL) H.size)) mc ms (va_A (cx ++ PL) H.size))
    (S0 : CallFix p m c cc nL s args zW own) (cw : CallW R s args own C index y bytes maxL ret wsY rm mc ms n) (hrv : ∃ cellB : Cell, H[b]? = some cellB ∧ cellB.vm.isStatics = false ∧ s.vm.findClass C = some cellB.cls)
    (hP : va_P D classes (X ++ PL) H) (hD : va_D A (X ++ PL)) (hS : va_S A s.heap H locs) (hK : va_K D classes (zT cs) s) (hA : ∀ q : Nat, s.heap.size ≤ q → A q) (isC : List Nat) (hC0 : isC.map (zgt X) = cx.map some) (hnC : va_nd isC = true) (ks : List Nat) (hks : cx.map Prod.fst = ks) (hkey : ∀ u : S, (w1 u).map Prod.fst = ks)
    (hlen : As.length = n) (hsize : ls.size = nL) (hW : (rest.map fun v => v.category).sum ≤ 8) (hdg : decode cc pc = .ok (.invokevirtual index, 3)) (hf : cells + mc ≤ R.cells ∧ slots + ms ≤ R.slots)
    (kk : ∀ (r : Option Nat) (u : S) (H1 : Heap) (locs1 : List Loc), post r u → va_P D classes (zset isC X (w1 u) ++ PL) H1 → va_S A s.heap H1 locs1 → W p l e R s m args below meth c H1 locs1 (cells + mc) (slots + ms) Q (F0 m (pc + 3) ls (va_rf r :: rest))) :
    W p l e R s m args below meth c H locs cells slots Q (F0 m pc ls (As.reverse ++ .ref b :: rest)) := by
  have hC := zmp hC0
  have hPc : va_P D classes (cx ++ PL) H := hP.part isC hC
  have hDc : va_D A (cx ++ PL) := hD.part isC hnC hC
  have hFc := va_freeP hD hS hA isC hC
  refine va_callq (va_runV (As := As) (rest := rest) S0 hM cw ⟨zPre_blind, hrv, fun U hU hW => ⟨rfl, ⟨by rw [hU], by rw [hU]; exact hPc, va_K.moved hW.alike hK, hDc.weaken (fun _ _ _ _ => trivial)⟩⟩⟩ rfl hlen hsize rfl (lv_room hW) hdg hf) hS (fun q _ h => hFc q h) hFc (fun r u t H1 locs1 ht hvm hw hB hz1 hk1 hS1 => ?_)
  have hB : va_P D classes (w1 u ++ PL) t.heap ∧ va_D (va_A (cx ++ PL) H.size) (w1 u ++ PL) := hB
  rw [ht] at hB
  exact kk r u H1 locs1 hw (zjP hP hD hC ((hkey u).trans hks.symm) hk1 hB.1) hS1
theorem zz_vqQ {post : Option Nat → S → Prop} (hM : Met l y wsY rm (va_Pc (.ref b :: As) (zPre D cs cx H.size)) (va_Qq post (fun (u : S) (t : State) => va_P D classes (w1 u) t.heap ∧ va_D (va_A cx H.size) (w1 u)) (va_A cx H.size)) mc ms (va_A cx H.size))
    (S0 : CallFix p m c cc nL s args zW own) (cw : CallW R s args own C index y bytes maxL ret wsY rm mc ms n) (hrv : ∃ cellB : Cell, H[b]? = some cellB ∧ cellB.vm.isStatics = false ∧ s.vm.findClass C = some cellB.cls)
    (hP : va_P D classes (X ++ PL) H) (hD : va_D A (X ++ PL)) (hS : va_S A s.heap H locs) (hK : va_K D classes (zT cs) s) (hA : ∀ q : Nat, s.heap.size ≤ q → A q) (isC : List Nat) (hC0 : isC.map (zgt X) = cx.map some) (hnC : va_nd isC = true) (ks : List Nat) (hks : cx.map Prod.fst = ks) (hkey : ∀ u : S, (w1 u).map Prod.fst = ks)
    (hlen : As.length = n) (hsize : ls.size = nL) (hW : (rest.map fun v => v.category).sum ≤ 8) (hdg : decode cc pc = .ok (.invokevirtual index, 3)) (hf : cells + mc ≤ R.cells ∧ slots + ms ≤ R.slots)
    (kk : ∀ (r : Option Nat) (u : S) (H1 : Heap) (locs1 : List Loc), post r u → va_P D classes (zset isC X (w1 u) ++ PL) H1 → va_S A s.heap H1 locs1 → W p l e R s m args below meth c H1 locs1 (cells + mc) (slots + ms) Q (F0 m (pc + 3) ls (va_rf r :: rest))) :
    W p l e R s m args below meth c H locs cells slots Q (F0 m pc ls (As.reverse ++ .ref b :: rest)) := by
  have hC := zmp hC0
  have hPc : va_P D classes cx H := (zP_l hP).sub isC (zk_fm hC)
  have hDc : va_D A cx := (zD_l hD).sub isC hnC hC
  have hFc := va_free (zD_l hD) hS hA isC hC
  refine va_callq (va_runV (As := As) (rest := rest) S0 hM cw ⟨zPre_blind, hrv, fun U hU hW => ⟨rfl, ⟨by rw [hU], by rw [hU]; exact hPc, va_K.moved hW.alike hK, hDc.weaken (fun _ _ _ _ => trivial)⟩⟩⟩ rfl hlen hsize rfl (lv_room hW) hdg hf) hS (fun q _ h => hFc q h) hFc (fun r u t H1 locs1 ht hvm hw hB hz1 hk1 hS1 => ?_)
  have hB : va_P D classes (w1 u) t.heap ∧ va_D (va_A cx H.size) (w1 u) := hB
  rw [ht] at hB
  exact kk r u H1 locs1 hw (zjQ hP hD hC ((hkey u).trans hks.symm) hk1 hB.1) hS1
theorem zz_vqOP {post : Option Nat → S → Prop} (hO : zO s) (hM : Met l y wsY rm (va_Pc (.ref b :: As) (zPreO D cs (cx ++ PL) H.size)) (va_Qq post (fun (u : S) (t : State) => va_P D classes (w1 u ++ PL) t.heap ∧ va_D (va_A (cx ++ PL) H.size) (w1 u ++ PL)) (va_A (cx ++ PL) H.size)) mc ms (va_A (cx ++ PL) H.size))
    (S0 : CallFix p m c cc nL s args zW own) (cw : CallW R s args own C index y bytes maxL ret wsY rm mc ms n) (hrv : ∃ cellB : Cell, H[b]? = some cellB ∧ cellB.vm.isStatics = false ∧ s.vm.findClass C = some cellB.cls)
    (hP : va_P D classes (X ++ PL) H) (hD : va_D A (X ++ PL)) (hS : va_S A s.heap H locs) (hK : va_K D classes (zT cs) s) (hA : ∀ q : Nat, s.heap.size ≤ q → A q) (isC : List Nat) (hC0 : isC.map (zgt X) = cx.map some) (hnC : va_nd isC = true) (ks : List Nat) (hks : cx.map Prod.fst = ks) (hkey : ∀ u : S, (w1 u).map Prod.fst = ks)
    (hlen : As.length = n) (hsize : ls.size = nL) (hW : (rest.map fun v => v.category).sum ≤ 8) (hdg : decode cc pc = .ok (.invokevirtual index, 3)) (hf : cells + mc ≤ R.cells ∧ slots + ms ≤ R.slots)
    (kk : ∀ (r : Option Nat) (u : S) (H1 : Heap) (locs1 : List Loc), post r u → va_P D classes (zset isC X (w1 u) ++ PL) H1 → va_S A s.heap H1 locs1 → W p l e R s m args below meth c H1 locs1 (cells + mc) (slots + ms) Q (F0 m (pc + 3) ls (va_rf r :: rest))) :
    W p l e R s m args below meth c H locs cells slots Q (F0 m pc ls (As.reverse ++ .ref b :: rest)) := by
  have hC := zmp hC0
  have hPc : va_P D classes (cx ++ PL) H := hP.part isC hC
  have hDc : va_D A (cx ++ PL) := hD.part isC hnC hC
  have hFc := va_freeP hD hS hA isC hC
  refine va_callq (va_runV (As := As) (rest := rest) S0 hM cw ⟨zPreO_blind, hrv, fun U hU hW => ⟨rfl, ⟨by rw [hU], by rw [hU]; exact hPc, va_K.moved hW.alike hK, hDc.weaken (fun _ _ _ _ => trivial)⟩, zO.warm hW hO⟩⟩ rfl hlen hsize rfl (lv_room hW) hdg hf) hS (fun q _ h => hFc q h) hFc (fun r u t H1 locs1 ht hvm hw hB hz1 hk1 hS1 => ?_)
  have hB : va_P D classes (w1 u ++ PL) t.heap ∧ va_D (va_A (cx ++ PL) H.size) (w1 u ++ PL) := hB
  rw [ht] at hB
  exact kk r u H1 locs1 hw (zjP hP hD hC ((hkey u).trans hks.symm) hk1 hB.1) hS1
theorem zz_vqOQ {post : Option Nat → S → Prop} (hO : zO s) (hM : Met l y wsY rm (va_Pc (.ref b :: As) (zPreO D cs cx H.size)) (va_Qq post (fun (u : S) (t : State) => va_P D classes (w1 u) t.heap ∧ va_D (va_A cx H.size) (w1 u)) (va_A cx H.size)) mc ms (va_A cx H.size))
    (S0 : CallFix p m c cc nL s args zW own) (cw : CallW R s args own C index y bytes maxL ret wsY rm mc ms n) (hrv : ∃ cellB : Cell, H[b]? = some cellB ∧ cellB.vm.isStatics = false ∧ s.vm.findClass C = some cellB.cls)
    (hP : va_P D classes (X ++ PL) H) (hD : va_D A (X ++ PL)) (hS : va_S A s.heap H locs) (hK : va_K D classes (zT cs) s) (hA : ∀ q : Nat, s.heap.size ≤ q → A q) (isC : List Nat) (hC0 : isC.map (zgt X) = cx.map some) (hnC : va_nd isC = true) (ks : List Nat) (hks : cx.map Prod.fst = ks) (hkey : ∀ u : S, (w1 u).map Prod.fst = ks)
    (hlen : As.length = n) (hsize : ls.size = nL) (hW : (rest.map fun v => v.category).sum ≤ 8) (hdg : decode cc pc = .ok (.invokevirtual index, 3)) (hf : cells + mc ≤ R.cells ∧ slots + ms ≤ R.slots)
    (kk : ∀ (r : Option Nat) (u : S) (H1 : Heap) (locs1 : List Loc), post r u → va_P D classes (zset isC X (w1 u) ++ PL) H1 → va_S A s.heap H1 locs1 → W p l e R s m args below meth c H1 locs1 (cells + mc) (slots + ms) Q (F0 m (pc + 3) ls (va_rf r :: rest))) :
    W p l e R s m args below meth c H locs cells slots Q (F0 m pc ls (As.reverse ++ .ref b :: rest)) := by
  have hC := zmp hC0
  have hPc : va_P D classes cx H := (zP_l hP).sub isC (zk_fm hC)
  have hDc : va_D A cx := (zD_l hD).sub isC hnC hC
  have hFc := va_free (zD_l hD) hS hA isC hC
  refine va_callq (va_runV (As := As) (rest := rest) S0 hM cw ⟨zPreO_blind, hrv, fun U hU hW => ⟨rfl, ⟨by rw [hU], by rw [hU]; exact hPc, va_K.moved hW.alike hK, hDc.weaken (fun _ _ _ _ => trivial)⟩, zO.warm hW hO⟩⟩ rfl hlen hsize rfl (lv_room hW) hdg hf) hS (fun q _ h => hFc q h) hFc (fun r u t H1 locs1 ht hvm hw hB hz1 hk1 hS1 => ?_)
  have hB : va_P D classes (w1 u) t.heap ∧ va_D (va_A cx H.size) (w1 u) := hB
  rw [ht] at hB
  exact kk r u H1 locs1 hw (zjQ hP hD hC ((hkey u).trans hks.symm) hk1 hB.1) hS1
theorem zz_siP {post : Int32 → S → Prop} (hM : Met l y wsY rm (va_Pc As (zPre D cs (cx ++ PL) H.size)) (va_Qi post (fun (u : S) (t : State) => va_P D classes (w1 u ++ PL) t.heap ∧ va_D (va_A (cx ++ PL) H.size) (w1 u ++ PL)) (va_A (cx ++ PL) H.size)) mc ms (va_A (cx ++ PL) H.size))
    (S0 : CallFix p m c cc nL s args zW own) (cw : CallB R s args own index y bytes maxL ret wsY rm mc ms n ∧ (Cond.static y).before args s = true)
    (hP : va_P D classes (X ++ PL) H) (hD : va_D A (X ++ PL)) (hS : va_S A s.heap H locs) (hK : va_K D classes (zT cs) s) (hA : ∀ q : Nat, s.heap.size ≤ q → A q) (isC : List Nat) (hC0 : isC.map (zgt X) = cx.map some) (hnC : va_nd isC = true) (ks : List Nat) (hks : cx.map Prod.fst = ks) (hkey : ∀ u : S, (w1 u).map Prod.fst = ks)
    (hlen : As.length = n) (hsize : ls.size = nL) (hW : (rest.map fun v => v.category).sum ≤ 8) (hdg : decode cc pc = .ok (.invokestatic index, 3)) (hf : cells + mc ≤ R.cells ∧ slots + ms ≤ R.slots)
    (kk : ∀ (r : Int32) (u : S) (H1 : Heap) (locs1 : List Loc), post r u → va_P D classes (zset isC X (w1 u) ++ PL) H1 → va_S A s.heap H1 locs1 → W p l e R s m args below meth c H1 locs1 (cells + mc) (slots + ms) Q (F0 m (pc + 3) ls (.int r :: rest))) :
    W p l e R s m args below meth c H locs cells slots Q (F0 m pc ls (As.reverse ++ rest)) := by
  have hC := zmp hC0
  have hPc : va_P D classes (cx ++ PL) H := hP.part isC hC
  have hDc : va_D A (cx ++ PL) := hD.part isC hnC hC
  have hFc := va_freeP hD hS hA isC hC
  refine va_calli (va_runS (As := As) (rest := rest) S0 hM cw ⟨zPre_blind, fun U hU hW => ⟨rfl, ⟨by rw [hU], by rw [hU]; exact hPc, va_K.moved hW.alike hK, hDc.weaken (fun _ _ _ _ => trivial)⟩⟩⟩ rfl hlen hsize rfl (lv_room hW) hdg hf) hS (fun q _ h => hFc q h) hFc (fun r u t H1 locs1 ht hvm hw hB hz1 hk1 hS1 => ?_)
  have hB : va_P D classes (w1 u ++ PL) t.heap ∧ va_D (va_A (cx ++ PL) H.size) (w1 u ++ PL) := hB
  rw [ht] at hB
  exact kk r u H1 locs1 hw (zjP hP hD hC ((hkey u).trans hks.symm) hk1 hB.1) hS1
theorem zz_siQ {post : Int32 → S → Prop} (hM : Met l y wsY rm (va_Pc As (zPre D cs cx H.size)) (va_Qi post (fun (u : S) (t : State) => va_P D classes (w1 u) t.heap ∧ va_D (va_A cx H.size) (w1 u)) (va_A cx H.size)) mc ms (va_A cx H.size))
    (S0 : CallFix p m c cc nL s args zW own) (cw : CallB R s args own index y bytes maxL ret wsY rm mc ms n ∧ (Cond.static y).before args s = true)
    (hP : va_P D classes (X ++ PL) H) (hD : va_D A (X ++ PL)) (hS : va_S A s.heap H locs) (hK : va_K D classes (zT cs) s) (hA : ∀ q : Nat, s.heap.size ≤ q → A q) (isC : List Nat) (hC0 : isC.map (zgt X) = cx.map some) (hnC : va_nd isC = true) (ks : List Nat) (hks : cx.map Prod.fst = ks) (hkey : ∀ u : S, (w1 u).map Prod.fst = ks)
    (hlen : As.length = n) (hsize : ls.size = nL) (hW : (rest.map fun v => v.category).sum ≤ 8) (hdg : decode cc pc = .ok (.invokestatic index, 3)) (hf : cells + mc ≤ R.cells ∧ slots + ms ≤ R.slots)
    (kk : ∀ (r : Int32) (u : S) (H1 : Heap) (locs1 : List Loc), post r u → va_P D classes (zset isC X (w1 u) ++ PL) H1 → va_S A s.heap H1 locs1 → W p l e R s m args below meth c H1 locs1 (cells + mc) (slots + ms) Q (F0 m (pc + 3) ls (.int r :: rest))) :
    W p l e R s m args below meth c H locs cells slots Q (F0 m pc ls (As.reverse ++ rest)) := by
  have hC := zmp hC0
  have hPc : va_P D classes cx H := (zP_l hP).sub isC (zk_fm hC)
  have hDc : va_D A cx := (zD_l hD).sub isC hnC hC
  have hFc := va_free (zD_l hD) hS hA isC hC
  refine va_calli (va_runS (As := As) (rest := rest) S0 hM cw ⟨zPre_blind, fun U hU hW => ⟨rfl, ⟨by rw [hU], by rw [hU]; exact hPc, va_K.moved hW.alike hK, hDc.weaken (fun _ _ _ _ => trivial)⟩⟩⟩ rfl hlen hsize rfl (lv_room hW) hdg hf) hS (fun q _ h => hFc q h) hFc (fun r u t H1 locs1 ht hvm hw hB hz1 hk1 hS1 => ?_)
  have hB : va_P D classes (w1 u) t.heap ∧ va_D (va_A cx H.size) (w1 u) := hB
  rw [ht] at hB
  exact kk r u H1 locs1 hw (zjQ hP hD hC ((hkey u).trans hks.symm) hk1 hB.1) hS1
theorem zz_siOP {post : Int32 → S → Prop} (hO : zO s) (hM : Met l y wsY rm (va_Pc As (zPreO D cs (cx ++ PL) H.size)) (va_Qi post (fun (u : S) (t : State) => va_P D classes (w1 u ++ PL) t.heap ∧ va_D (va_A (cx ++ PL) H.size) (w1 u ++ PL)) (va_A (cx ++ PL) H.size)) mc ms (va_A (cx ++ PL) H.size))
    (S0 : CallFix p m c cc nL s args zW own) (cw : CallB R s args own index y bytes maxL ret wsY rm mc ms n ∧ (Cond.static y).before args s = true)
    (hP : va_P D classes (X ++ PL) H) (hD : va_D A (X ++ PL)) (hS : va_S A s.heap H locs) (hK : va_K D classes (zT cs) s) (hA : ∀ q : Nat, s.heap.size ≤ q → A q) (isC : List Nat) (hC0 : isC.map (zgt X) = cx.map some) (hnC : va_nd isC = true) (ks : List Nat) (hks : cx.map Prod.fst = ks) (hkey : ∀ u : S, (w1 u).map Prod.fst = ks)
    (hlen : As.length = n) (hsize : ls.size = nL) (hW : (rest.map fun v => v.category).sum ≤ 8) (hdg : decode cc pc = .ok (.invokestatic index, 3)) (hf : cells + mc ≤ R.cells ∧ slots + ms ≤ R.slots)
    (kk : ∀ (r : Int32) (u : S) (H1 : Heap) (locs1 : List Loc), post r u → va_P D classes (zset isC X (w1 u) ++ PL) H1 → va_S A s.heap H1 locs1 → W p l e R s m args below meth c H1 locs1 (cells + mc) (slots + ms) Q (F0 m (pc + 3) ls (.int r :: rest))) :
    W p l e R s m args below meth c H locs cells slots Q (F0 m pc ls (As.reverse ++ rest)) := by
  have hC := zmp hC0
  have hPc : va_P D classes (cx ++ PL) H := hP.part isC hC
  have hDc : va_D A (cx ++ PL) := hD.part isC hnC hC
  have hFc := va_freeP hD hS hA isC hC
  refine va_calli (va_runS (As := As) (rest := rest) S0 hM cw ⟨zPreO_blind, fun U hU hW => ⟨rfl, ⟨by rw [hU], by rw [hU]; exact hPc, va_K.moved hW.alike hK, hDc.weaken (fun _ _ _ _ => trivial)⟩, zO.warm hW hO⟩⟩ rfl hlen hsize rfl (lv_room hW) hdg hf) hS (fun q _ h => hFc q h) hFc (fun r u t H1 locs1 ht hvm hw hB hz1 hk1 hS1 => ?_)
  have hB : va_P D classes (w1 u ++ PL) t.heap ∧ va_D (va_A (cx ++ PL) H.size) (w1 u ++ PL) := hB
  rw [ht] at hB
  exact kk r u H1 locs1 hw (zjP hP hD hC ((hkey u).trans hks.symm) hk1 hB.1) hS1
theorem zz_siOQ {post : Int32 → S → Prop} (hO : zO s) (hM : Met l y wsY rm (va_Pc As (zPreO D cs cx H.size)) (va_Qi post (fun (u : S) (t : State) => va_P D classes (w1 u) t.heap ∧ va_D (va_A cx H.size) (w1 u)) (va_A cx H.size)) mc ms (va_A cx H.size))
    (S0 : CallFix p m c cc nL s args zW own) (cw : CallB R s args own index y bytes maxL ret wsY rm mc ms n ∧ (Cond.static y).before args s = true)
    (hP : va_P D classes (X ++ PL) H) (hD : va_D A (X ++ PL)) (hS : va_S A s.heap H locs) (hK : va_K D classes (zT cs) s) (hA : ∀ q : Nat, s.heap.size ≤ q → A q) (isC : List Nat) (hC0 : isC.map (zgt X) = cx.map some) (hnC : va_nd isC = true) (ks : List Nat) (hks : cx.map Prod.fst = ks) (hkey : ∀ u : S, (w1 u).map Prod.fst = ks)
    (hlen : As.length = n) (hsize : ls.size = nL) (hW : (rest.map fun v => v.category).sum ≤ 8) (hdg : decode cc pc = .ok (.invokestatic index, 3)) (hf : cells + mc ≤ R.cells ∧ slots + ms ≤ R.slots)
    (kk : ∀ (r : Int32) (u : S) (H1 : Heap) (locs1 : List Loc), post r u → va_P D classes (zset isC X (w1 u) ++ PL) H1 → va_S A s.heap H1 locs1 → W p l e R s m args below meth c H1 locs1 (cells + mc) (slots + ms) Q (F0 m (pc + 3) ls (.int r :: rest))) :
    W p l e R s m args below meth c H locs cells slots Q (F0 m pc ls (As.reverse ++ rest)) := by
  have hC := zmp hC0
  have hPc : va_P D classes cx H := (zP_l hP).sub isC (zk_fm hC)
  have hDc : va_D A cx := (zD_l hD).sub isC hnC hC
  have hFc := va_free (zD_l hD) hS hA isC hC
  refine va_calli (va_runS (As := As) (rest := rest) S0 hM cw ⟨zPreO_blind, fun U hU hW => ⟨rfl, ⟨by rw [hU], by rw [hU]; exact hPc, va_K.moved hW.alike hK, hDc.weaken (fun _ _ _ _ => trivial)⟩, zO.warm hW hO⟩⟩ rfl hlen hsize rfl (lv_room hW) hdg hf) hS (fun q _ h => hFc q h) hFc (fun r u t H1 locs1 ht hvm hw hB hz1 hk1 hS1 => ?_)
  have hB : va_P D classes (w1 u) t.heap ∧ va_D (va_A cx H.size) (w1 u) := hB
  rw [ht] at hB
  exact kk r u H1 locs1 hw (zjQ hP hD hC ((hkey u).trans hks.symm) hk1 hB.1) hS1
theorem zz_slP {post : Int64 → S → Prop} (hM : Met l y wsY rm (va_Pc As (zPre D cs (cx ++ PL) H.size)) (va_Ql post (fun (u : S) (t : State) => va_P D classes (w1 u ++ PL) t.heap ∧ va_D (va_A (cx ++ PL) H.size) (w1 u ++ PL)) (va_A (cx ++ PL) H.size)) mc ms (va_A (cx ++ PL) H.size))
    (S0 : CallFix p m c cc nL s args zW own) (cw : CallB R s args own index y bytes maxL ret wsY rm mc ms n ∧ (Cond.static y).before args s = true)
    (hP : va_P D classes (X ++ PL) H) (hD : va_D A (X ++ PL)) (hS : va_S A s.heap H locs) (hK : va_K D classes (zT cs) s) (hA : ∀ q : Nat, s.heap.size ≤ q → A q) (isC : List Nat) (hC0 : isC.map (zgt X) = cx.map some) (hnC : va_nd isC = true) (ks : List Nat) (hks : cx.map Prod.fst = ks) (hkey : ∀ u : S, (w1 u).map Prod.fst = ks)
    (hlen : As.length = n) (hsize : ls.size = nL) (hW : (rest.map fun v => v.category).sum ≤ 8) (hdg : decode cc pc = .ok (.invokestatic index, 3)) (hf : cells + mc ≤ R.cells ∧ slots + ms ≤ R.slots)
    (kk : ∀ (r : Int64) (u : S) (H1 : Heap) (locs1 : List Loc), post r u → va_P D classes (zset isC X (w1 u) ++ PL) H1 → va_S A s.heap H1 locs1 → W p l e R s m args below meth c H1 locs1 (cells + mc) (slots + ms) Q (F0 m (pc + 3) ls (.long r :: rest))) :
    W p l e R s m args below meth c H locs cells slots Q (F0 m pc ls (As.reverse ++ rest)) := by
  have hC := zmp hC0
  have hPc : va_P D classes (cx ++ PL) H := hP.part isC hC
  have hDc : va_D A (cx ++ PL) := hD.part isC hnC hC
  have hFc := va_freeP hD hS hA isC hC
  refine va_calll (va_runS (As := As) (rest := rest) S0 hM cw ⟨zPre_blind, fun U hU hW => ⟨rfl, ⟨by rw [hU], by rw [hU]; exact hPc, va_K.moved hW.alike hK, hDc.weaken (fun _ _ _ _ => trivial)⟩⟩⟩ rfl hlen hsize rfl (lv_room hW) hdg hf) hS (fun q _ h => hFc q h) hFc (fun r u t H1 locs1 ht hvm hw hB hz1 hk1 hS1 => ?_)
  have hB : va_P D classes (w1 u ++ PL) t.heap ∧ va_D (va_A (cx ++ PL) H.size) (w1 u ++ PL) := hB
  rw [ht] at hB
  exact kk r u H1 locs1 hw (zjP hP hD hC ((hkey u).trans hks.symm) hk1 hB.1) hS1
theorem zz_slQ {post : Int64 → S → Prop} (hM : Met l y wsY rm (va_Pc As (zPre D cs cx H.size)) (va_Ql post (fun (u : S) (t : State) => va_P D classes (w1 u) t.heap ∧ va_D (va_A cx H.size) (w1 u)) (va_A cx H.size)) mc ms (va_A cx H.size))
    (S0 : CallFix p m c cc nL s args zW own) (cw : CallB R s args own index y bytes maxL ret wsY rm mc ms n ∧ (Cond.static y).before args s = true)
    (hP : va_P D classes (X ++ PL) H) (hD : va_D A (X ++ PL)) (hS : va_S A s.heap H locs) (hK : va_K D classes (zT cs) s) (hA : ∀ q : Nat, s.heap.size ≤ q → A q) (isC : List Nat) (hC0 : isC.map (zgt X) = cx.map some) (hnC : va_nd isC = true) (ks : List Nat) (hks : cx.map Prod.fst = ks) (hkey : ∀ u : S, (w1 u).map Prod.fst = ks)
    (hlen : As.length = n) (hsize : ls.size = nL) (hW : (rest.map fun v => v.category).sum ≤ 8) (hdg : decode cc pc = .ok (.invokestatic index, 3)) (hf : cells + mc ≤ R.cells ∧ slots + ms ≤ R.slots)
    (kk : ∀ (r : Int64) (u : S) (H1 : Heap) (locs1 : List Loc), post r u → va_P D classes (zset isC X (w1 u) ++ PL) H1 → va_S A s.heap H1 locs1 → W p l e R s m args below meth c H1 locs1 (cells + mc) (slots + ms) Q (F0 m (pc + 3) ls (.long r :: rest))) :
    W p l e R s m args below meth c H locs cells slots Q (F0 m pc ls (As.reverse ++ rest)) := by
  have hC := zmp hC0
  have hPc : va_P D classes cx H := (zP_l hP).sub isC (zk_fm hC)
  have hDc : va_D A cx := (zD_l hD).sub isC hnC hC
  have hFc := va_free (zD_l hD) hS hA isC hC
  refine va_calll (va_runS (As := As) (rest := rest) S0 hM cw ⟨zPre_blind, fun U hU hW => ⟨rfl, ⟨by rw [hU], by rw [hU]; exact hPc, va_K.moved hW.alike hK, hDc.weaken (fun _ _ _ _ => trivial)⟩⟩⟩ rfl hlen hsize rfl (lv_room hW) hdg hf) hS (fun q _ h => hFc q h) hFc (fun r u t H1 locs1 ht hvm hw hB hz1 hk1 hS1 => ?_)
  have hB : va_P D classes (w1 u) t.heap ∧ va_D (va_A cx H.size) (w1 u) := hB
  rw [ht] at hB
  exact kk r u H1 locs1 hw (zjQ hP hD hC ((hkey u).trans hks.symm) hk1 hB.1) hS1
theorem zz_slOP {post : Int64 → S → Prop} (hO : zO s) (hM : Met l y wsY rm (va_Pc As (zPreO D cs (cx ++ PL) H.size)) (va_Ql post (fun (u : S) (t : State) => va_P D classes (w1 u ++ PL) t.heap ∧ va_D (va_A (cx ++ PL) H.size) (w1 u ++ PL)) (va_A (cx ++ PL) H.size)) mc ms (va_A (cx ++ PL) H.size))
    (S0 : CallFix p m c cc nL s args zW own) (cw : CallB R s args own index y bytes maxL ret wsY rm mc ms n ∧ (Cond.static y).before args s = true)
    (hP : va_P D classes (X ++ PL) H) (hD : va_D A (X ++ PL)) (hS : va_S A s.heap H locs) (hK : va_K D classes (zT cs) s) (hA : ∀ q : Nat, s.heap.size ≤ q → A q) (isC : List Nat) (hC0 : isC.map (zgt X) = cx.map some) (hnC : va_nd isC = true) (ks : List Nat) (hks : cx.map Prod.fst = ks) (hkey : ∀ u : S, (w1 u).map Prod.fst = ks)
    (hlen : As.length = n) (hsize : ls.size = nL) (hW : (rest.map fun v => v.category).sum ≤ 8) (hdg : decode cc pc = .ok (.invokestatic index, 3)) (hf : cells + mc ≤ R.cells ∧ slots + ms ≤ R.slots)
    (kk : ∀ (r : Int64) (u : S) (H1 : Heap) (locs1 : List Loc), post r u → va_P D classes (zset isC X (w1 u) ++ PL) H1 → va_S A s.heap H1 locs1 → W p l e R s m args below meth c H1 locs1 (cells + mc) (slots + ms) Q (F0 m (pc + 3) ls (.long r :: rest))) :
    W p l e R s m args below meth c H locs cells slots Q (F0 m pc ls (As.reverse ++ rest)) := by
  have hC := zmp hC0
  have hPc : va_P D classes (cx ++ PL) H := hP.part isC hC
  have hDc : va_D A (cx ++ PL) := hD.part isC hnC hC
  have hFc := va_freeP hD hS hA isC hC
  refine va_calll (va_runS (As := As) (rest := rest) S0 hM cw ⟨zPreO_blind, fun U hU hW => ⟨rfl, ⟨by rw [hU], by rw [hU]; exact hPc, va_K.moved hW.alike hK, hDc.weaken (fun _ _ _ _ => trivial)⟩, zO.warm hW hO⟩⟩ rfl hlen hsize rfl (lv_room hW) hdg hf) hS (fun q _ h => hFc q h) hFc (fun r u t H1 locs1 ht hvm hw hB hz1 hk1 hS1 => ?_)
  have hB : va_P D classes (w1 u ++ PL) t.heap ∧ va_D (va_A (cx ++ PL) H.size) (w1 u ++ PL) := hB
  rw [ht] at hB
  exact kk r u H1 locs1 hw (zjP hP hD hC ((hkey u).trans hks.symm) hk1 hB.1) hS1
theorem zz_slOQ {post : Int64 → S → Prop} (hO : zO s) (hM : Met l y wsY rm (va_Pc As (zPreO D cs cx H.size)) (va_Ql post (fun (u : S) (t : State) => va_P D classes (w1 u) t.heap ∧ va_D (va_A cx H.size) (w1 u)) (va_A cx H.size)) mc ms (va_A cx H.size))
    (S0 : CallFix p m c cc nL s args zW own) (cw : CallB R s args own index y bytes maxL ret wsY rm mc ms n ∧ (Cond.static y).before args s = true)
    (hP : va_P D classes (X ++ PL) H) (hD : va_D A (X ++ PL)) (hS : va_S A s.heap H locs) (hK : va_K D classes (zT cs) s) (hA : ∀ q : Nat, s.heap.size ≤ q → A q) (isC : List Nat) (hC0 : isC.map (zgt X) = cx.map some) (hnC : va_nd isC = true) (ks : List Nat) (hks : cx.map Prod.fst = ks) (hkey : ∀ u : S, (w1 u).map Prod.fst = ks)
    (hlen : As.length = n) (hsize : ls.size = nL) (hW : (rest.map fun v => v.category).sum ≤ 8) (hdg : decode cc pc = .ok (.invokestatic index, 3)) (hf : cells + mc ≤ R.cells ∧ slots + ms ≤ R.slots)
    (kk : ∀ (r : Int64) (u : S) (H1 : Heap) (locs1 : List Loc), post r u → va_P D classes (zset isC X (w1 u) ++ PL) H1 → va_S A s.heap H1 locs1 → W p l e R s m args below meth c H1 locs1 (cells + mc) (slots + ms) Q (F0 m (pc + 3) ls (.long r :: rest))) :
    W p l e R s m args below meth c H locs cells slots Q (F0 m pc ls (As.reverse ++ rest)) := by
  have hC := zmp hC0
  have hPc : va_P D classes cx H := (zP_l hP).sub isC (zk_fm hC)
  have hDc : va_D A cx := (zD_l hD).sub isC hnC hC
  have hFc := va_free (zD_l hD) hS hA isC hC
  refine va_calll (va_runS (As := As) (rest := rest) S0 hM cw ⟨zPreO_blind, fun U hU hW => ⟨rfl, ⟨by rw [hU], by rw [hU]; exact hPc, va_K.moved hW.alike hK, hDc.weaken (fun _ _ _ _ => trivial)⟩, zO.warm hW hO⟩⟩ rfl hlen hsize rfl (lv_room hW) hdg hf) hS (fun q _ h => hFc q h) hFc (fun r u t H1 locs1 ht hvm hw hB hz1 hk1 hS1 => ?_)
  have hB : va_P D classes (w1 u) t.heap ∧ va_D (va_A cx H.size) (w1 u) := hB
  rw [ht] at hB
  exact kk r u H1 locs1 hw (zjQ hP hD hC ((hkey u).trans hks.symm) hk1 hB.1) hS1
theorem zz_svP {post : S → Prop} (hM : Met l y wsY rm (va_Pc As (zPre D cs (cx ++ PL) H.size)) (va_Qv post (fun (u : S) (t : State) => va_P D classes (w1 u ++ PL) t.heap ∧ va_D (va_A (cx ++ PL) H.size) (w1 u ++ PL)) (va_A (cx ++ PL) H.size)) mc ms (va_A (cx ++ PL) H.size))
    (S0 : CallFix p m c cc nL s args zW own) (cw : CallB R s args own index y bytes maxL ret wsY rm mc ms n ∧ (Cond.static y).before args s = true)
    (hP : va_P D classes (X ++ PL) H) (hD : va_D A (X ++ PL)) (hS : va_S A s.heap H locs) (hK : va_K D classes (zT cs) s) (hA : ∀ q : Nat, s.heap.size ≤ q → A q) (isC : List Nat) (hC0 : isC.map (zgt X) = cx.map some) (hnC : va_nd isC = true) (ks : List Nat) (hks : cx.map Prod.fst = ks) (hkey : ∀ u : S, (w1 u).map Prod.fst = ks)
    (hlen : As.length = n) (hsize : ls.size = nL) (hW : (rest.map fun v => v.category).sum ≤ 8) (hdg : decode cc pc = .ok (.invokestatic index, 3)) (hf : cells + mc ≤ R.cells ∧ slots + ms ≤ R.slots)
    (kk : ∀ (u : S) (H1 : Heap) (locs1 : List Loc), post u → va_P D classes (zset isC X (w1 u) ++ PL) H1 → va_S A s.heap H1 locs1 → W p l e R s m args below meth c H1 locs1 (cells + mc) (slots + ms) Q (F0 m (pc + 3) ls (rest))) :
    W p l e R s m args below meth c H locs cells slots Q (F0 m pc ls (As.reverse ++ rest)) := by
  have hC := zmp hC0
  have hPc : va_P D classes (cx ++ PL) H := hP.part isC hC
  have hDc : va_D A (cx ++ PL) := hD.part isC hnC hC
  have hFc := va_freeP hD hS hA isC hC
  refine va_callv (va_runS (As := As) (rest := rest) S0 hM cw ⟨zPre_blind, fun U hU hW => ⟨rfl, ⟨by rw [hU], by rw [hU]; exact hPc, va_K.moved hW.alike hK, hDc.weaken (fun _ _ _ _ => trivial)⟩⟩⟩ rfl hlen hsize rfl (lv_room hW) hdg hf) hS (fun q _ h => hFc q h) hFc (fun u t H1 locs1 ht hvm hw hB hz1 hk1 hS1 => ?_)
  have hB : va_P D classes (w1 u ++ PL) t.heap ∧ va_D (va_A (cx ++ PL) H.size) (w1 u ++ PL) := hB
  rw [ht] at hB
  exact kk u H1 locs1 hw (zjP hP hD hC ((hkey u).trans hks.symm) hk1 hB.1) hS1
theorem zz_svQ {post : S → Prop} (hM : Met l y wsY rm (va_Pc As (zPre D cs cx H.size)) (va_Qv post (fun (u : S) (t : State) => va_P D classes (w1 u) t.heap ∧ va_D (va_A cx H.size) (w1 u)) (va_A cx H.size)) mc ms (va_A cx H.size))
    (S0 : CallFix p m c cc nL s args zW own) (cw : CallB R s args own index y bytes maxL ret wsY rm mc ms n ∧ (Cond.static y).before args s = true)
    (hP : va_P D classes (X ++ PL) H) (hD : va_D A (X ++ PL)) (hS : va_S A s.heap H locs) (hK : va_K D classes (zT cs) s) (hA : ∀ q : Nat, s.heap.size ≤ q → A q) (isC : List Nat) (hC0 : isC.map (zgt X) = cx.map some) (hnC : va_nd isC = true) (ks : List Nat) (hks : cx.map Prod.fst = ks) (hkey : ∀ u : S, (w1 u).map Prod.fst = ks)
    (hlen : As.length = n) (hsize : ls.size = nL) (hW : (rest.map fun v => v.category).sum ≤ 8) (hdg : decode cc pc = .ok (.invokestatic index, 3)) (hf : cells + mc ≤ R.cells ∧ slots + ms ≤ R.slots)
    (kk : ∀ (u : S) (H1 : Heap) (locs1 : List Loc), post u → va_P D classes (zset isC X (w1 u) ++ PL) H1 → va_S A s.heap H1 locs1 → W p l e R s m args below meth c H1 locs1 (cells + mc) (slots + ms) Q (F0 m (pc + 3) ls (rest))) :
    W p l e R s m args below meth c H locs cells slots Q (F0 m pc ls (As.reverse ++ rest)) := by
  have hC := zmp hC0
  have hPc : va_P D classes cx H := (zP_l hP).sub isC (zk_fm hC)
  have hDc : va_D A cx := (zD_l hD).sub isC hnC hC
  have hFc := va_free (zD_l hD) hS hA isC hC
  refine va_callv (va_runS (As := As) (rest := rest) S0 hM cw ⟨zPre_blind, fun U hU hW => ⟨rfl, ⟨by rw [hU], by rw [hU]; exact hPc, va_K.moved hW.alike hK, hDc.weaken (fun _ _ _ _ => trivial)⟩⟩⟩ rfl hlen hsize rfl (lv_room hW) hdg hf) hS (fun q _ h => hFc q h) hFc (fun u t H1 locs1 ht hvm hw hB hz1 hk1 hS1 => ?_)
  have hB : va_P D classes (w1 u) t.heap ∧ va_D (va_A cx H.size) (w1 u) := hB
  rw [ht] at hB
  exact kk u H1 locs1 hw (zjQ hP hD hC ((hkey u).trans hks.symm) hk1 hB.1) hS1
theorem zz_svOP {post : S → Prop} (hO : zO s) (hM : Met l y wsY rm (va_Pc As (zPreO D cs (cx ++ PL) H.size)) (va_Qv post (fun (u : S) (t : State) => va_P D classes (w1 u ++ PL) t.heap ∧ va_D (va_A (cx ++ PL) H.size) (w1 u ++ PL)) (va_A (cx ++ PL) H.size)) mc ms (va_A (cx ++ PL) H.size))
    (S0 : CallFix p m c cc nL s args zW own) (cw : CallB R s args own index y bytes maxL ret wsY rm mc ms n ∧ (Cond.static y).before args s = true)
    (hP : va_P D classes (X ++ PL) H) (hD : va_D A (X ++ PL)) (hS : va_S A s.heap H locs) (hK : va_K D classes (zT cs) s) (hA : ∀ q : Nat, s.heap.size ≤ q → A q) (isC : List Nat) (hC0 : isC.map (zgt X) = cx.map some) (hnC : va_nd isC = true) (ks : List Nat) (hks : cx.map Prod.fst = ks) (hkey : ∀ u : S, (w1 u).map Prod.fst = ks)
    (hlen : As.length = n) (hsize : ls.size = nL) (hW : (rest.map fun v => v.category).sum ≤ 8) (hdg : decode cc pc = .ok (.invokestatic index, 3)) (hf : cells + mc ≤ R.cells ∧ slots + ms ≤ R.slots)
    (kk : ∀ (u : S) (H1 : Heap) (locs1 : List Loc), post u → va_P D classes (zset isC X (w1 u) ++ PL) H1 → va_S A s.heap H1 locs1 → W p l e R s m args below meth c H1 locs1 (cells + mc) (slots + ms) Q (F0 m (pc + 3) ls (rest))) :
    W p l e R s m args below meth c H locs cells slots Q (F0 m pc ls (As.reverse ++ rest)) := by
  have hC := zmp hC0
  have hPc : va_P D classes (cx ++ PL) H := hP.part isC hC
  have hDc : va_D A (cx ++ PL) := hD.part isC hnC hC
  have hFc := va_freeP hD hS hA isC hC
  refine va_callv (va_runS (As := As) (rest := rest) S0 hM cw ⟨zPreO_blind, fun U hU hW => ⟨rfl, ⟨by rw [hU], by rw [hU]; exact hPc, va_K.moved hW.alike hK, hDc.weaken (fun _ _ _ _ => trivial)⟩, zO.warm hW hO⟩⟩ rfl hlen hsize rfl (lv_room hW) hdg hf) hS (fun q _ h => hFc q h) hFc (fun u t H1 locs1 ht hvm hw hB hz1 hk1 hS1 => ?_)
  have hB : va_P D classes (w1 u ++ PL) t.heap ∧ va_D (va_A (cx ++ PL) H.size) (w1 u ++ PL) := hB
  rw [ht] at hB
  exact kk u H1 locs1 hw (zjP hP hD hC ((hkey u).trans hks.symm) hk1 hB.1) hS1
theorem zz_svOQ {post : S → Prop} (hO : zO s) (hM : Met l y wsY rm (va_Pc As (zPreO D cs cx H.size)) (va_Qv post (fun (u : S) (t : State) => va_P D classes (w1 u) t.heap ∧ va_D (va_A cx H.size) (w1 u)) (va_A cx H.size)) mc ms (va_A cx H.size))
    (S0 : CallFix p m c cc nL s args zW own) (cw : CallB R s args own index y bytes maxL ret wsY rm mc ms n ∧ (Cond.static y).before args s = true)
    (hP : va_P D classes (X ++ PL) H) (hD : va_D A (X ++ PL)) (hS : va_S A s.heap H locs) (hK : va_K D classes (zT cs) s) (hA : ∀ q : Nat, s.heap.size ≤ q → A q) (isC : List Nat) (hC0 : isC.map (zgt X) = cx.map some) (hnC : va_nd isC = true) (ks : List Nat) (hks : cx.map Prod.fst = ks) (hkey : ∀ u : S, (w1 u).map Prod.fst = ks)
    (hlen : As.length = n) (hsize : ls.size = nL) (hW : (rest.map fun v => v.category).sum ≤ 8) (hdg : decode cc pc = .ok (.invokestatic index, 3)) (hf : cells + mc ≤ R.cells ∧ slots + ms ≤ R.slots)
    (kk : ∀ (u : S) (H1 : Heap) (locs1 : List Loc), post u → va_P D classes (zset isC X (w1 u) ++ PL) H1 → va_S A s.heap H1 locs1 → W p l e R s m args below meth c H1 locs1 (cells + mc) (slots + ms) Q (F0 m (pc + 3) ls (rest))) :
    W p l e R s m args below meth c H locs cells slots Q (F0 m pc ls (As.reverse ++ rest)) := by
  have hC := zmp hC0
  have hPc : va_P D classes cx H := (zP_l hP).sub isC (zk_fm hC)
  have hDc : va_D A cx := (zD_l hD).sub isC hnC hC
  have hFc := va_free (zD_l hD) hS hA isC hC
  refine va_callv (va_runS (As := As) (rest := rest) S0 hM cw ⟨zPreO_blind, fun U hU hW => ⟨rfl, ⟨by rw [hU], by rw [hU]; exact hPc, va_K.moved hW.alike hK, hDc.weaken (fun _ _ _ _ => trivial)⟩, zO.warm hW hO⟩⟩ rfl hlen hsize rfl (lv_room hW) hdg hf) hS (fun q _ h => hFc q h) hFc (fun u t H1 locs1 ht hvm hw hB hz1 hk1 hS1 => ?_)
  have hB : va_P D classes (w1 u) t.heap ∧ va_D (va_A cx H.size) (w1 u) := hB
  rw [ht] at hB
  exact kk u H1 locs1 hw (zjQ hP hD hC ((hkey u).trans hks.symm) hk1 hB.1) hS1
theorem zz_sqP {post : Option Nat → S → Prop} (hM : Met l y wsY rm (va_Pc As (zPre D cs (cx ++ PL) H.size)) (va_Qq post (fun (u : S) (t : State) => va_P D classes (w1 u ++ PL) t.heap ∧ va_D (va_A (cx ++ PL) H.size) (w1 u ++ PL)) (va_A (cx ++ PL) H.size)) mc ms (va_A (cx ++ PL) H.size))
    (S0 : CallFix p m c cc nL s args zW own) (cw : CallB R s args own index y bytes maxL ret wsY rm mc ms n ∧ (Cond.static y).before args s = true)
    (hP : va_P D classes (X ++ PL) H) (hD : va_D A (X ++ PL)) (hS : va_S A s.heap H locs) (hK : va_K D classes (zT cs) s) (hA : ∀ q : Nat, s.heap.size ≤ q → A q) (isC : List Nat) (hC0 : isC.map (zgt X) = cx.map some) (hnC : va_nd isC = true) (ks : List Nat) (hks : cx.map Prod.fst = ks) (hkey : ∀ u : S, (w1 u).map Prod.fst = ks)
    (hlen : As.length = n) (hsize : ls.size = nL) (hW : (rest.map fun v => v.category).sum ≤ 8) (hdg : decode cc pc = .ok (.invokestatic index, 3)) (hf : cells + mc ≤ R.cells ∧ slots + ms ≤ R.slots)
    (kk : ∀ (r : Option Nat) (u : S) (H1 : Heap) (locs1 : List Loc), post r u → va_P D classes (zset isC X (w1 u) ++ PL) H1 → va_S A s.heap H1 locs1 → W p l e R s m args below meth c H1 locs1 (cells + mc) (slots + ms) Q (F0 m (pc + 3) ls (va_rf r :: rest))) :
    W p l e R s m args below meth c H locs cells slots Q (F0 m pc ls (As.reverse ++ rest)) := by
  have hC := zmp hC0
  have hPc : va_P D classes (cx ++ PL) H := hP.part isC hC
  have hDc : va_D A (cx ++ PL) := hD.part isC hnC hC
  have hFc := va_freeP hD hS hA isC hC
  refine va_callq (va_runS (As := As) (rest := rest) S0 hM cw ⟨zPre_blind, fun U hU hW => ⟨rfl, ⟨by rw [hU], by rw [hU]; exact hPc, va_K.moved hW.alike hK, hDc.weaken (fun _ _ _ _ => trivial)⟩⟩⟩ rfl hlen hsize rfl (lv_room hW) hdg hf) hS (fun q _ h => hFc q h) hFc (fun r u t H1 locs1 ht hvm hw hB hz1 hk1 hS1 => ?_)
  have hB : va_P D classes (w1 u ++ PL) t.heap ∧ va_D (va_A (cx ++ PL) H.size) (w1 u ++ PL) := hB
  rw [ht] at hB
  exact kk r u H1 locs1 hw (zjP hP hD hC ((hkey u).trans hks.symm) hk1 hB.1) hS1
theorem zz_sqQ {post : Option Nat → S → Prop} (hM : Met l y wsY rm (va_Pc As (zPre D cs cx H.size)) (va_Qq post (fun (u : S) (t : State) => va_P D classes (w1 u) t.heap ∧ va_D (va_A cx H.size) (w1 u)) (va_A cx H.size)) mc ms (va_A cx H.size))
    (S0 : CallFix p m c cc nL s args zW own) (cw : CallB R s args own index y bytes maxL ret wsY rm mc ms n ∧ (Cond.static y).before args s = true)
    (hP : va_P D classes (X ++ PL) H) (hD : va_D A (X ++ PL)) (hS : va_S A s.heap H locs) (hK : va_K D classes (zT cs) s) (hA : ∀ q : Nat, s.heap.size ≤ q → A q) (isC : List Nat) (hC0 : isC.map (zgt X) = cx.map some) (hnC : va_nd isC = true) (ks : List Nat) (hks : cx.map Prod.fst = ks) (hkey : ∀ u : S, (w1 u).map Prod.fst = ks)
    (hlen : As.length = n) (hsize : ls.size = nL) (hW : (rest.map fun v => v.category).sum ≤ 8) (hdg : decode cc pc = .ok (.invokestatic index, 3)) (hf : cells + mc ≤ R.cells ∧ slots + ms ≤ R.slots)
    (kk : ∀ (r : Option Nat) (u : S) (H1 : Heap) (locs1 : List Loc), post r u → va_P D classes (zset isC X (w1 u) ++ PL) H1 → va_S A s.heap H1 locs1 → W p l e R s m args below meth c H1 locs1 (cells + mc) (slots + ms) Q (F0 m (pc + 3) ls (va_rf r :: rest))) :
    W p l e R s m args below meth c H locs cells slots Q (F0 m pc ls (As.reverse ++ rest)) := by
  have hC := zmp hC0
  have hPc : va_P D classes cx H := (zP_l hP).sub isC (zk_fm hC)
  have hDc : va_D A cx := (zD_l hD).sub isC hnC hC
  have hFc := va_free (zD_l hD) hS hA isC hC
  refine va_callq (va_runS (As := As) (rest := rest) S0 hM cw ⟨zPre_blind, fun U hU hW => ⟨rfl, ⟨by rw [hU], by rw [hU]; exact hPc, va_K.moved hW.alike hK, hDc.weaken (fun _ _ _ _ => trivial)⟩⟩⟩ rfl hlen hsize rfl (lv_room hW) hdg hf) hS (fun q _ h => hFc q h) hFc (fun r u t H1 locs1 ht hvm hw hB hz1 hk1 hS1 => ?_)
  have hB : va_P D classes (w1 u) t.heap ∧ va_D (va_A cx H.size) (w1 u) := hB
  rw [ht] at hB
  exact kk r u H1 locs1 hw (zjQ hP hD hC ((hkey u).trans hks.symm) hk1 hB.1) hS1
theorem zz_sqOP {post : Option Nat → S → Prop} (hO : zO s) (hM : Met l y wsY rm (va_Pc As (zPreO D cs (cx ++ PL) H.size)) (va_Qq post (fun (u : S) (t : State) => va_P D classes (w1 u ++ PL) t.heap ∧ va_D (va_A (cx ++ PL) H.size) (w1 u ++ PL)) (va_A (cx ++ PL) H.size)) mc ms (va_A (cx ++ PL) H.size))
    (S0 : CallFix p m c cc nL s args zW own) (cw : CallB R s args own index y bytes maxL ret wsY rm mc ms n ∧ (Cond.static y).before args s = true)
    (hP : va_P D classes (X ++ PL) H) (hD : va_D A (X ++ PL)) (hS : va_S A s.heap H locs) (hK : va_K D classes (zT cs) s) (hA : ∀ q : Nat, s.heap.size ≤ q → A q) (isC : List Nat) (hC0 : isC.map (zgt X) = cx.map some) (hnC : va_nd isC = true) (ks : List Nat) (hks : cx.map Prod.fst = ks) (hkey : ∀ u : S, (w1 u).map Prod.fst = ks)
    (hlen : As.length = n) (hsize : ls.size = nL) (hW : (rest.map fun v => v.category).sum ≤ 8) (hdg : decode cc pc = .ok (.invokestatic index, 3)) (hf : cells + mc ≤ R.cells ∧ slots + ms ≤ R.slots)
    (kk : ∀ (r : Option Nat) (u : S) (H1 : Heap) (locs1 : List Loc), post r u → va_P D classes (zset isC X (w1 u) ++ PL) H1 → va_S A s.heap H1 locs1 → W p l e R s m args below meth c H1 locs1 (cells + mc) (slots + ms) Q (F0 m (pc + 3) ls (va_rf r :: rest))) :
    W p l e R s m args below meth c H locs cells slots Q (F0 m pc ls (As.reverse ++ rest)) := by
  have hC := zmp hC0
  have hPc : va_P D classes (cx ++ PL) H := hP.part isC hC
  have hDc : va_D A (cx ++ PL) := hD.part isC hnC hC
  have hFc := va_freeP hD hS hA isC hC
  refine va_callq (va_runS (As := As) (rest := rest) S0 hM cw ⟨zPreO_blind, fun U hU hW => ⟨rfl, ⟨by rw [hU], by rw [hU]; exact hPc, va_K.moved hW.alike hK, hDc.weaken (fun _ _ _ _ => trivial)⟩, zO.warm hW hO⟩⟩ rfl hlen hsize rfl (lv_room hW) hdg hf) hS (fun q _ h => hFc q h) hFc (fun r u t H1 locs1 ht hvm hw hB hz1 hk1 hS1 => ?_)
  have hB : va_P D classes (w1 u ++ PL) t.heap ∧ va_D (va_A (cx ++ PL) H.size) (w1 u ++ PL) := hB
  rw [ht] at hB
  exact kk r u H1 locs1 hw (zjP hP hD hC ((hkey u).trans hks.symm) hk1 hB.1) hS1
theorem zz_sqOQ {post : Option Nat → S → Prop} (hO : zO s) (hM : Met l y wsY rm (va_Pc As (zPreO D cs cx H.size)) (va_Qq post (fun (u : S) (t : State) => va_P D classes (w1 u) t.heap ∧ va_D (va_A cx H.size) (w1 u)) (va_A cx H.size)) mc ms (va_A cx H.size))
    (S0 : CallFix p m c cc nL s args zW own) (cw : CallB R s args own index y bytes maxL ret wsY rm mc ms n ∧ (Cond.static y).before args s = true)
    (hP : va_P D classes (X ++ PL) H) (hD : va_D A (X ++ PL)) (hS : va_S A s.heap H locs) (hK : va_K D classes (zT cs) s) (hA : ∀ q : Nat, s.heap.size ≤ q → A q) (isC : List Nat) (hC0 : isC.map (zgt X) = cx.map some) (hnC : va_nd isC = true) (ks : List Nat) (hks : cx.map Prod.fst = ks) (hkey : ∀ u : S, (w1 u).map Prod.fst = ks)
    (hlen : As.length = n) (hsize : ls.size = nL) (hW : (rest.map fun v => v.category).sum ≤ 8) (hdg : decode cc pc = .ok (.invokestatic index, 3)) (hf : cells + mc ≤ R.cells ∧ slots + ms ≤ R.slots)
    (kk : ∀ (r : Option Nat) (u : S) (H1 : Heap) (locs1 : List Loc), post r u → va_P D classes (zset isC X (w1 u) ++ PL) H1 → va_S A s.heap H1 locs1 → W p l e R s m args below meth c H1 locs1 (cells + mc) (slots + ms) Q (F0 m (pc + 3) ls (va_rf r :: rest))) :
    W p l e R s m args below meth c H locs cells slots Q (F0 m pc ls (As.reverse ++ rest)) := by
  have hC := zmp hC0
  have hPc : va_P D classes cx H := (zP_l hP).sub isC (zk_fm hC)
  have hDc : va_D A cx := (zD_l hD).sub isC hnC hC
  have hFc := va_free (zD_l hD) hS hA isC hC
  refine va_callq (va_runS (As := As) (rest := rest) S0 hM cw ⟨zPreO_blind, fun U hU hW => ⟨rfl, ⟨by rw [hU], by rw [hU]; exact hPc, va_K.moved hW.alike hK, hDc.weaken (fun _ _ _ _ => trivial)⟩, zO.warm hW hO⟩⟩ rfl hlen hsize rfl (lv_room hW) hdg hf) hS (fun q _ h => hFc q h) hFc (fun r u t H1 locs1 ht hvm hw hB hz1 hk1 hS1 => ?_)
  have hB : va_P D classes (w1 u) t.heap ∧ va_D (va_A cx H.size) (w1 u) := hB
  rw [ht] at hB
  exact kk r u H1 locs1 hw (zjQ hP hD hC ((hkey u).trans hks.symm) hk1 hB.1) hS1
theorem zz_niP {post : Int32 → S → Prop} (hM : Met l y wsY rm (va_Pc (.ref b :: As) (zPre D cs (cx ++ PL) H.size)) (va_Qi post (fun (u : S) (t : State) => va_P D classes (w1 u ++ PL) t.heap ∧ va_D (va_A (cx ++ PL) H.size) (w1 u ++ PL)) (va_A (cx ++ PL) H.size)) mc ms (va_A (cx ++ PL) H.size))
    (S0 : CallFix p m c cc nL s args zW own) (cw : va_CN R s args own index y host bytes maxL ret wsY rm mc ms n ∧ (Cond.instanceMethod y).before args s = true ∧ (Cond.selects C y y).before args s = true) (hrv : ∃ cellB : Cell, H[b]? = some cellB ∧ cellB.vm.isStatics = false ∧ s.vm.findClass C = some cellB.cls)
    (hP : va_P D classes (X ++ PL) H) (hD : va_D A (X ++ PL)) (hS : va_S A s.heap H locs) (hK : va_K D classes (zT cs) s) (hA : ∀ q : Nat, s.heap.size ≤ q → A q) (isC : List Nat) (hC0 : isC.map (zgt X) = cx.map some) (hnC : va_nd isC = true) (ks : List Nat) (hks : cx.map Prod.fst = ks) (hkey : ∀ u : S, (w1 u).map Prod.fst = ks)
    (hlen : As.length = n) (hsize : ls.size = nL) (hW : (rest.map fun v => v.category).sum ≤ 8) (hdg : decode cc pc = .ok (.invokevirtual index, 3)) (hf : cells + mc ≤ R.cells ∧ slots + ms ≤ R.slots)
    (kk : ∀ (r : Int32) (u : S) (H1 : Heap) (locs1 : List Loc), post r u → va_P D classes (zset isC X (w1 u) ++ PL) H1 → va_S A s.heap H1 locs1 → W p l e R s m args below meth c H1 locs1 (cells + mc) (slots + ms) Q (F0 m (pc + 3) ls (.int r :: rest))) :
    W p l e R s m args below meth c H locs cells slots Q (F0 m pc ls (As.reverse ++ .ref b :: rest)) := by
  have hC := zmp hC0
  have hPc : va_P D classes (cx ++ PL) H := hP.part isC hC
  have hDc : va_D A (cx ++ PL) := hD.part isC hnC hC
  have hFc := va_freeP hD hS hA isC hC
  refine va_calli (va_runVN (As := As) (rest := rest) S0 hM cw ⟨zPre_blind, hrv, fun U hU hW => ⟨rfl, ⟨by rw [hU], by rw [hU]; exact hPc, va_K.moved hW.alike hK, hDc.weaken (fun _ _ _ _ => trivial)⟩⟩⟩ rfl hlen hsize rfl (lv_room hW) hdg hf) hS (fun q _ h => hFc q h) hFc (fun r u t H1 locs1 ht hvm hw hB hz1 hk1 hS1 => ?_)
  have hB : va_P D classes (w1 u ++ PL) t.heap ∧ va_D (va_A (cx ++ PL) H.size) (w1 u ++ PL) := hB
  rw [ht] at hB
  exact kk r u H1 locs1 hw (zjP hP hD hC ((hkey u).trans hks.symm) hk1 hB.1) hS1
theorem zz_niQ {post : Int32 → S → Prop} (hM : Met l y wsY rm (va_Pc (.ref b :: As) (zPre D cs cx H.size)) (va_Qi post (fun (u : S) (t : State) => va_P D classes (w1 u) t.heap ∧ va_D (va_A cx H.size) (w1 u)) (va_A cx H.size)) mc ms (va_A cx H.size))
    (S0 : CallFix p m c cc nL s args zW own) (cw : va_CN R s args own index y host bytes maxL ret wsY rm mc ms n ∧ (Cond.instanceMethod y).before args s = true ∧ (Cond.selects C y y).before args s = true) (hrv : ∃ cellB : Cell, H[b]? = some cellB ∧ cellB.vm.isStatics = false ∧ s.vm.findClass C = some cellB.cls)
    (hP : va_P D classes (X ++ PL) H) (hD : va_D A (X ++ PL)) (hS : va_S A s.heap H locs) (hK : va_K D classes (zT cs) s) (hA : ∀ q : Nat, s.heap.size ≤ q → A q) (isC : List Nat) (hC0 : isC.map (zgt X) = cx.map some) (hnC : va_nd isC = true) (ks : List Nat) (hks : cx.map Prod.fst = ks) (hkey : ∀ u : S, (w1 u).map Prod.fst = ks)
    (hlen : As.length = n) (hsize : ls.size = nL) (hW : (rest.map fun v => v.category).sum ≤ 8) (hdg : decode cc pc = .ok (.invokevirtual index, 3)) (hf : cells + mc ≤ R.cells ∧ slots + ms ≤ R.slots)
    (kk : ∀ (r : Int32) (u : S) (H1 : Heap) (locs1 : List Loc), post r u → va_P D classes (zset isC X (w1 u) ++ PL) H1 → va_S A s.heap H1 locs1 → W p l e R s m args below meth c H1 locs1 (cells + mc) (slots + ms) Q (F0 m (pc + 3) ls (.int r :: rest))) :
    W p l e R s m args below meth c H locs cells slots Q (F0 m pc ls (As.reverse ++ .ref b :: rest)) := by
  have hC := zmp hC0
  have hPc : va_P D classes cx H := (zP_l hP).sub isC (zk_fm hC)
  have hDc : va_D A cx := (zD_l hD).sub isC hnC hC
  have hFc := va_free (zD_l hD) hS hA isC hC
  refine va_calli (va_runVN (As := As) (rest := rest) S0 hM cw ⟨zPre_blind, hrv, fun U hU hW => ⟨rfl, ⟨by rw [hU], by rw [hU]; exact hPc, va_K.moved hW.alike hK, hDc.weaken (fun _ _ _ _ => trivial)⟩⟩⟩ rfl hlen hsize rfl (lv_room hW) hdg hf) hS (fun q _ h => hFc q h) hFc (fun r u t H1 locs1 ht hvm hw hB hz1 hk1 hS1 => ?_)
  have hB : va_P D classes (w1 u) t.heap ∧ va_D (va_A cx H.size) (w1 u) := hB
  rw [ht] at hB
  exact kk r u H1 locs1 hw (zjQ hP hD hC ((hkey u).trans hks.symm) hk1 hB.1) hS1
theorem zz_niOP {post : Int32 → S → Prop} (hO : zO s) (hM : Met l y wsY rm (va_Pc (.ref b :: As) (zPreO D cs (cx ++ PL) H.size)) (va_Qi post (fun (u : S) (t : State) => va_P D classes (w1 u ++ PL) t.heap ∧ va_D (va_A (cx ++ PL) H.size) (w1 u ++ PL)) (va_A (cx ++ PL) H.size)) mc ms (va_A (cx ++ PL) H.size))
    (S0 : CallFix p m c cc nL s args zW own) (cw : va_CN R s args own index y host bytes maxL ret wsY rm mc ms n ∧ (Cond.instanceMethod y).before args s = true ∧ (Cond.selects C y y).before args s = true) (hrv : ∃ cellB : Cell, H[b]? = some cellB ∧ cellB.vm.isStatics = false ∧ s.vm.findClass C = some cellB.cls)
    (hP : va_P D classes (X ++ PL) H) (hD : va_D A (X ++ PL)) (hS : va_S A s.heap H locs) (hK : va_K D classes (zT cs) s) (hA : ∀ q : Nat, s.heap.size ≤ q → A q) (isC : List Nat) (hC0 : isC.map (zgt X) = cx.map some) (hnC : va_nd isC = true) (ks : List Nat) (hks : cx.map Prod.fst = ks) (hkey : ∀ u : S, (w1 u).map Prod.fst = ks)
    (hlen : As.length = n) (hsize : ls.size = nL) (hW : (rest.map fun v => v.category).sum ≤ 8) (hdg : decode cc pc = .ok (.invokevirtual index, 3)) (hf : cells + mc ≤ R.cells ∧ slots + ms ≤ R.slots)
    (kk : ∀ (r : Int32) (u : S) (H1 : Heap) (locs1 : List Loc), post r u → va_P D classes (zset isC X (w1 u) ++ PL) H1 → va_S A s.heap H1 locs1 → W p l e R s m args below meth c H1 locs1 (cells + mc) (slots + ms) Q (F0 m (pc + 3) ls (.int r :: rest))) :
    W p l e R s m args below meth c H locs cells slots Q (F0 m pc ls (As.reverse ++ .ref b :: rest)) := by
  have hC := zmp hC0
  have hPc : va_P D classes (cx ++ PL) H := hP.part isC hC
  have hDc : va_D A (cx ++ PL) := hD.part isC hnC hC
  have hFc := va_freeP hD hS hA isC hC
  refine va_calli (va_runVN (As := As) (rest := rest) S0 hM cw ⟨zPreO_blind, hrv, fun U hU hW => ⟨rfl, ⟨by rw [hU], by rw [hU]; exact hPc, va_K.moved hW.alike hK, hDc.weaken (fun _ _ _ _ => trivial)⟩, zO.warm hW hO⟩⟩ rfl hlen hsize rfl (lv_room hW) hdg hf) hS (fun q _ h => hFc q h) hFc (fun r u t H1 locs1 ht hvm hw hB hz1 hk1 hS1 => ?_)
  have hB : va_P D classes (w1 u ++ PL) t.heap ∧ va_D (va_A (cx ++ PL) H.size) (w1 u ++ PL) := hB
  rw [ht] at hB
  exact kk r u H1 locs1 hw (zjP hP hD hC ((hkey u).trans hks.symm) hk1 hB.1) hS1
theorem zz_niOQ {post : Int32 → S → Prop} (hO : zO s) (hM : Met l y wsY rm (va_Pc (.ref b :: As) (zPreO D cs cx H.size)) (va_Qi post (fun (u : S) (t : State) => va_P D classes (w1 u) t.heap ∧ va_D (va_A cx H.size) (w1 u)) (va_A cx H.size)) mc ms (va_A cx H.size))
    (S0 : CallFix p m c cc nL s args zW own) (cw : va_CN R s args own index y host bytes maxL ret wsY rm mc ms n ∧ (Cond.instanceMethod y).before args s = true ∧ (Cond.selects C y y).before args s = true) (hrv : ∃ cellB : Cell, H[b]? = some cellB ∧ cellB.vm.isStatics = false ∧ s.vm.findClass C = some cellB.cls)
    (hP : va_P D classes (X ++ PL) H) (hD : va_D A (X ++ PL)) (hS : va_S A s.heap H locs) (hK : va_K D classes (zT cs) s) (hA : ∀ q : Nat, s.heap.size ≤ q → A q) (isC : List Nat) (hC0 : isC.map (zgt X) = cx.map some) (hnC : va_nd isC = true) (ks : List Nat) (hks : cx.map Prod.fst = ks) (hkey : ∀ u : S, (w1 u).map Prod.fst = ks)
    (hlen : As.length = n) (hsize : ls.size = nL) (hW : (rest.map fun v => v.category).sum ≤ 8) (hdg : decode cc pc = .ok (.invokevirtual index, 3)) (hf : cells + mc ≤ R.cells ∧ slots + ms ≤ R.slots)
    (kk : ∀ (r : Int32) (u : S) (H1 : Heap) (locs1 : List Loc), post r u → va_P D classes (zset isC X (w1 u) ++ PL) H1 → va_S A s.heap H1 locs1 → W p l e R s m args below meth c H1 locs1 (cells + mc) (slots + ms) Q (F0 m (pc + 3) ls (.int r :: rest))) :
    W p l e R s m args below meth c H locs cells slots Q (F0 m pc ls (As.reverse ++ .ref b :: rest)) := by
  have hC := zmp hC0
  have hPc : va_P D classes cx H := (zP_l hP).sub isC (zk_fm hC)
  have hDc : va_D A cx := (zD_l hD).sub isC hnC hC
  have hFc := va_free (zD_l hD) hS hA isC hC
  refine va_calli (va_runVN (As := As) (rest := rest) S0 hM cw ⟨zPreO_blind, hrv, fun U hU hW => ⟨rfl, ⟨by rw [hU], by rw [hU]; exact hPc, va_K.moved hW.alike hK, hDc.weaken (fun _ _ _ _ => trivial)⟩, zO.warm hW hO⟩⟩ rfl hlen hsize rfl (lv_room hW) hdg hf) hS (fun q _ h => hFc q h) hFc (fun r u t H1 locs1 ht hvm hw hB hz1 hk1 hS1 => ?_)
  have hB : va_P D classes (w1 u) t.heap ∧ va_D (va_A cx H.size) (w1 u) := hB
  rw [ht] at hB
  exact kk r u H1 locs1 hw (zjQ hP hD hC ((hkey u).trans hks.symm) hk1 hB.1) hS1
theorem zz_nlP {post : Int64 → S → Prop} (hM : Met l y wsY rm (va_Pc (.ref b :: As) (zPre D cs (cx ++ PL) H.size)) (va_Ql post (fun (u : S) (t : State) => va_P D classes (w1 u ++ PL) t.heap ∧ va_D (va_A (cx ++ PL) H.size) (w1 u ++ PL)) (va_A (cx ++ PL) H.size)) mc ms (va_A (cx ++ PL) H.size))
    (S0 : CallFix p m c cc nL s args zW own) (cw : va_CN R s args own index y host bytes maxL ret wsY rm mc ms n ∧ (Cond.instanceMethod y).before args s = true ∧ (Cond.selects C y y).before args s = true) (hrv : ∃ cellB : Cell, H[b]? = some cellB ∧ cellB.vm.isStatics = false ∧ s.vm.findClass C = some cellB.cls)
    (hP : va_P D classes (X ++ PL) H) (hD : va_D A (X ++ PL)) (hS : va_S A s.heap H locs) (hK : va_K D classes (zT cs) s) (hA : ∀ q : Nat, s.heap.size ≤ q → A q) (isC : List Nat) (hC0 : isC.map (zgt X) = cx.map some) (hnC : va_nd isC = true) (ks : List Nat) (hks : cx.map Prod.fst = ks) (hkey : ∀ u : S, (w1 u).map Prod.fst = ks)
    (hlen : As.length = n) (hsize : ls.size = nL) (hW : (rest.map fun v => v.category).sum ≤ 8) (hdg : decode cc pc = .ok (.invokevirtual index, 3)) (hf : cells + mc ≤ R.cells ∧ slots + ms ≤ R.slots)
    (kk : ∀ (r : Int64) (u : S) (H1 : Heap) (locs1 : List Loc), post r u → va_P D classes (zset isC X (w1 u) ++ PL) H1 → va_S A s.heap H1 locs1 → W p l e R s m args below meth c H1 locs1 (cells + mc) (slots + ms) Q (F0 m (pc + 3) ls (.long r :: rest))) :
    W p l e R s m args below meth c H locs cells slots Q (F0 m pc ls (As.reverse ++ .ref b :: rest)) := by
  have hC := zmp hC0
  have hPc : va_P D classes (cx ++ PL) H := hP.part isC hC
  have hDc : va_D A (cx ++ PL) := hD.part isC hnC hC
  have hFc := va_freeP hD hS hA isC hC
  refine va_calll (va_runVN (As := As) (rest := rest) S0 hM cw ⟨zPre_blind, hrv, fun U hU hW => ⟨rfl, ⟨by rw [hU], by rw [hU]; exact hPc, va_K.moved hW.alike hK, hDc.weaken (fun _ _ _ _ => trivial)⟩⟩⟩ rfl hlen hsize rfl (lv_room hW) hdg hf) hS (fun q _ h => hFc q h) hFc (fun r u t H1 locs1 ht hvm hw hB hz1 hk1 hS1 => ?_)
  have hB : va_P D classes (w1 u ++ PL) t.heap ∧ va_D (va_A (cx ++ PL) H.size) (w1 u ++ PL) := hB
  rw [ht] at hB
  exact kk r u H1 locs1 hw (zjP hP hD hC ((hkey u).trans hks.symm) hk1 hB.1) hS1
theorem zz_nlQ {post : Int64 → S → Prop} (hM : Met l y wsY rm (va_Pc (.ref b :: As) (zPre D cs cx H.size)) (va_Ql post (fun (u : S) (t : State) => va_P D classes (w1 u) t.heap ∧ va_D (va_A cx H.size) (w1 u)) (va_A cx H.size)) mc ms (va_A cx H.size))
    (S0 : CallFix p m c cc nL s args zW own) (cw : va_CN R s args own index y host bytes maxL ret wsY rm mc ms n ∧ (Cond.instanceMethod y).before args s = true ∧ (Cond.selects C y y).before args s = true) (hrv : ∃ cellB : Cell, H[b]? = some cellB ∧ cellB.vm.isStatics = false ∧ s.vm.findClass C = some cellB.cls)
    (hP : va_P D classes (X ++ PL) H) (hD : va_D A (X ++ PL)) (hS : va_S A s.heap H locs) (hK : va_K D classes (zT cs) s) (hA : ∀ q : Nat, s.heap.size ≤ q → A q) (isC : List Nat) (hC0 : isC.map (zgt X) = cx.map some) (hnC : va_nd isC = true) (ks : List Nat) (hks : cx.map Prod.fst = ks) (hkey : ∀ u : S, (w1 u).map Prod.fst = ks)
    (hlen : As.length = n) (hsize : ls.size = nL) (hW : (rest.map fun v => v.category).sum ≤ 8) (hdg : decode cc pc = .ok (.invokevirtual index, 3)) (hf : cells + mc ≤ R.cells ∧ slots + ms ≤ R.slots)
    (kk : ∀ (r : Int64) (u : S) (H1 : Heap) (locs1 : List Loc), post r u → va_P D classes (zset isC X (w1 u) ++ PL) H1 → va_S A s.heap H1 locs1 → W p l e R s m args below meth c H1 locs1 (cells + mc) (slots + ms) Q (F0 m (pc + 3) ls (.long r :: rest))) :
    W p l e R s m args below meth c H locs cells slots Q (F0 m pc ls (As.reverse ++ .ref b :: rest)) := by
  have hC := zmp hC0
  have hPc : va_P D classes cx H := (zP_l hP).sub isC (zk_fm hC)
  have hDc : va_D A cx := (zD_l hD).sub isC hnC hC
  have hFc := va_free (zD_l hD) hS hA isC hC
  refine va_calll (va_runVN (As := As) (rest := rest) S0 hM cw ⟨zPre_blind, hrv, fun U hU hW => ⟨rfl, ⟨by rw [hU], by rw [hU]; exact hPc, va_K.moved hW.alike hK, hDc.weaken (fun _ _ _ _ => trivial)⟩⟩⟩ rfl hlen hsize rfl (lv_room hW) hdg hf) hS (fun q _ h => hFc q h) hFc (fun r u t H1 locs1 ht hvm hw hB hz1 hk1 hS1 => ?_)
  have hB : va_P D classes (w1 u) t.heap ∧ va_D (va_A cx H.size) (w1 u) := hB
  rw [ht] at hB
  exact kk r u H1 locs1 hw (zjQ hP hD hC ((hkey u).trans hks.symm) hk1 hB.1) hS1
theorem zz_nlOP {post : Int64 → S → Prop} (hO : zO s) (hM : Met l y wsY rm (va_Pc (.ref b :: As) (zPreO D cs (cx ++ PL) H.size)) (va_Ql post (fun (u : S) (t : State) => va_P D classes (w1 u ++ PL) t.heap ∧ va_D (va_A (cx ++ PL) H.size) (w1 u ++ PL)) (va_A (cx ++ PL) H.size)) mc ms (va_A (cx ++ PL) H.size))
    (S0 : CallFix p m c cc nL s args zW own) (cw : va_CN R s args own index y host bytes maxL ret wsY rm mc ms n ∧ (Cond.instanceMethod y).before args s = true ∧ (Cond.selects C y y).before args s = true) (hrv : ∃ cellB : Cell, H[b]? = some cellB ∧ cellB.vm.isStatics = false ∧ s.vm.findClass C = some cellB.cls)
    (hP : va_P D classes (X ++ PL) H) (hD : va_D A (X ++ PL)) (hS : va_S A s.heap H locs) (hK : va_K D classes (zT cs) s) (hA : ∀ q : Nat, s.heap.size ≤ q → A q) (isC : List Nat) (hC0 : isC.map (zgt X) = cx.map some) (hnC : va_nd isC = true) (ks : List Nat) (hks : cx.map Prod.fst = ks) (hkey : ∀ u : S, (w1 u).map Prod.fst = ks)
    (hlen : As.length = n) (hsize : ls.size = nL) (hW : (rest.map fun v => v.category).sum ≤ 8) (hdg : decode cc pc = .ok (.invokevirtual index, 3)) (hf : cells + mc ≤ R.cells ∧ slots + ms ≤ R.slots)
    (kk : ∀ (r : Int64) (u : S) (H1 : Heap) (locs1 : List Loc), post r u → va_P D classes (zset isC X (w1 u) ++ PL) H1 → va_S A s.heap H1 locs1 → W p l e R s m args below meth c H1 locs1 (cells + mc) (slots + ms) Q (F0 m (pc + 3) ls (.long r :: rest))) :
    W p l e R s m args below meth c H locs cells slots Q (F0 m pc ls (As.reverse ++ .ref b :: rest)) := by
  have hC := zmp hC0
  have hPc : va_P D classes (cx ++ PL) H := hP.part isC hC
  have hDc : va_D A (cx ++ PL) := hD.part isC hnC hC
  have hFc := va_freeP hD hS hA isC hC
  refine va_calll (va_runVN (As := As) (rest := rest) S0 hM cw ⟨zPreO_blind, hrv, fun U hU hW => ⟨rfl, ⟨by rw [hU], by rw [hU]; exact hPc, va_K.moved hW.alike hK, hDc.weaken (fun _ _ _ _ => trivial)⟩, zO.warm hW hO⟩⟩ rfl hlen hsize rfl (lv_room hW) hdg hf) hS (fun q _ h => hFc q h) hFc (fun r u t H1 locs1 ht hvm hw hB hz1 hk1 hS1 => ?_)
  have hB : va_P D classes (w1 u ++ PL) t.heap ∧ va_D (va_A (cx ++ PL) H.size) (w1 u ++ PL) := hB
  rw [ht] at hB
  exact kk r u H1 locs1 hw (zjP hP hD hC ((hkey u).trans hks.symm) hk1 hB.1) hS1
theorem zz_nlOQ {post : Int64 → S → Prop} (hO : zO s) (hM : Met l y wsY rm (va_Pc (.ref b :: As) (zPreO D cs cx H.size)) (va_Ql post (fun (u : S) (t : State) => va_P D classes (w1 u) t.heap ∧ va_D (va_A cx H.size) (w1 u)) (va_A cx H.size)) mc ms (va_A cx H.size))
    (S0 : CallFix p m c cc nL s args zW own) (cw : va_CN R s args own index y host bytes maxL ret wsY rm mc ms n ∧ (Cond.instanceMethod y).before args s = true ∧ (Cond.selects C y y).before args s = true) (hrv : ∃ cellB : Cell, H[b]? = some cellB ∧ cellB.vm.isStatics = false ∧ s.vm.findClass C = some cellB.cls)
    (hP : va_P D classes (X ++ PL) H) (hD : va_D A (X ++ PL)) (hS : va_S A s.heap H locs) (hK : va_K D classes (zT cs) s) (hA : ∀ q : Nat, s.heap.size ≤ q → A q) (isC : List Nat) (hC0 : isC.map (zgt X) = cx.map some) (hnC : va_nd isC = true) (ks : List Nat) (hks : cx.map Prod.fst = ks) (hkey : ∀ u : S, (w1 u).map Prod.fst = ks)
    (hlen : As.length = n) (hsize : ls.size = nL) (hW : (rest.map fun v => v.category).sum ≤ 8) (hdg : decode cc pc = .ok (.invokevirtual index, 3)) (hf : cells + mc ≤ R.cells ∧ slots + ms ≤ R.slots)
    (kk : ∀ (r : Int64) (u : S) (H1 : Heap) (locs1 : List Loc), post r u → va_P D classes (zset isC X (w1 u) ++ PL) H1 → va_S A s.heap H1 locs1 → W p l e R s m args below meth c H1 locs1 (cells + mc) (slots + ms) Q (F0 m (pc + 3) ls (.long r :: rest))) :
    W p l e R s m args below meth c H locs cells slots Q (F0 m pc ls (As.reverse ++ .ref b :: rest)) := by
  have hC := zmp hC0
  have hPc : va_P D classes cx H := (zP_l hP).sub isC (zk_fm hC)
  have hDc : va_D A cx := (zD_l hD).sub isC hnC hC
  have hFc := va_free (zD_l hD) hS hA isC hC
  refine va_calll (va_runVN (As := As) (rest := rest) S0 hM cw ⟨zPreO_blind, hrv, fun U hU hW => ⟨rfl, ⟨by rw [hU], by rw [hU]; exact hPc, va_K.moved hW.alike hK, hDc.weaken (fun _ _ _ _ => trivial)⟩, zO.warm hW hO⟩⟩ rfl hlen hsize rfl (lv_room hW) hdg hf) hS (fun q _ h => hFc q h) hFc (fun r u t H1 locs1 ht hvm hw hB hz1 hk1 hS1 => ?_)
  have hB : va_P D classes (w1 u) t.heap ∧ va_D (va_A cx H.size) (w1 u) := hB
  rw [ht] at hB
  exact kk r u H1 locs1 hw (zjQ hP hD hC ((hkey u).trans hks.symm) hk1 hB.1) hS1
theorem zz_nvP {post : S → Prop} (hM : Met l y wsY rm (va_Pc (.ref b :: As) (zPre D cs (cx ++ PL) H.size)) (va_Qv post (fun (u : S) (t : State) => va_P D classes (w1 u ++ PL) t.heap ∧ va_D (va_A (cx ++ PL) H.size) (w1 u ++ PL)) (va_A (cx ++ PL) H.size)) mc ms (va_A (cx ++ PL) H.size))
    (S0 : CallFix p m c cc nL s args zW own) (cw : va_CN R s args own index y host bytes maxL ret wsY rm mc ms n ∧ (Cond.instanceMethod y).before args s = true ∧ (Cond.selects C y y).before args s = true) (hrv : ∃ cellB : Cell, H[b]? = some cellB ∧ cellB.vm.isStatics = false ∧ s.vm.findClass C = some cellB.cls)
    (hP : va_P D classes (X ++ PL) H) (hD : va_D A (X ++ PL)) (hS : va_S A s.heap H locs) (hK : va_K D classes (zT cs) s) (hA : ∀ q : Nat, s.heap.size ≤ q → A q) (isC : List Nat) (hC0 : isC.map (zgt X) = cx.map some) (hnC : va_nd isC = true) (ks : List Nat) (hks : cx.map Prod.fst = ks) (hkey : ∀ u : S, (w1 u).map Prod.fst = ks)
    (hlen : As.length = n) (hsize : ls.size = nL) (hW : (rest.map fun v => v.category).sum ≤ 8) (hdg : decode cc pc = .ok (.invokevirtual index, 3)) (hf : cells + mc ≤ R.cells ∧ slots + ms ≤ R.slots)
    (kk : ∀ (u : S) (H1 : Heap) (locs1 : List Loc), post u → va_P D classes (zset isC X (w1 u) ++ PL) H1 → va_S A s.heap H1 locs1 → W p l e R s m args below meth c H1 locs1 (cells + mc) (slots + ms) Q (F0 m (pc + 3) ls (rest))) :
    W p l e R s m args below meth c H locs cells slots Q (F0 m pc ls (As.reverse ++ .ref b :: rest)) := by
  have hC := zmp hC0
  have hPc : va_P D classes (cx ++ PL) H := hP.part isC hC
  have hDc : va_D A (cx ++ PL) := hD.part isC hnC hC
  have hFc := va_freeP hD hS hA isC hC
  refine va_callv (va_runVN (As := As) (rest := rest) S0 hM cw ⟨zPre_blind, hrv, fun U hU hW => ⟨rfl, ⟨by rw [hU], by rw [hU]; exact hPc, va_K.moved hW.alike hK, hDc.weaken (fun _ _ _ _ => trivial)⟩⟩⟩ rfl hlen hsize rfl (lv_room hW) hdg hf) hS (fun q _ h => hFc q h) hFc (fun u t H1 locs1 ht hvm hw hB hz1 hk1 hS1 => ?_)
  have hB : va_P D classes (w1 u ++ PL) t.heap ∧ va_D (va_A (cx ++ PL) H.size) (w1 u ++ PL) := hB
  rw [ht] at hB
  exact kk u H1 locs1 hw (zjP hP hD hC ((hkey u).trans hks.symm) hk1 hB.1) hS1
theorem zz_nvQ {post : S → Prop} (hM : Met l y wsY rm (va_Pc (.ref b :: As) (zPre D cs cx H.size)) (va_Qv post (fun (u : S) (t : State) => va_P D classes (w1 u) t.heap ∧ va_D (va_A cx H.size) (w1 u)) (va_A cx H.size)) mc ms (va_A cx H.size))
    (S0 : CallFix p m c cc nL s args zW own) (cw : va_CN R s args own index y host bytes maxL ret wsY rm mc ms n ∧ (Cond.instanceMethod y).before args s = true ∧ (Cond.selects C y y).before args s = true) (hrv : ∃ cellB : Cell, H[b]? = some cellB ∧ cellB.vm.isStatics = false ∧ s.vm.findClass C = some cellB.cls)
    (hP : va_P D classes (X ++ PL) H) (hD : va_D A (X ++ PL)) (hS : va_S A s.heap H locs) (hK : va_K D classes (zT cs) s) (hA : ∀ q : Nat, s.heap.size ≤ q → A q) (isC : List Nat) (hC0 : isC.map (zgt X) = cx.map some) (hnC : va_nd isC = true) (ks : List Nat) (hks : cx.map Prod.fst = ks) (hkey : ∀ u : S, (w1 u).map Prod.fst = ks)
    (hlen : As.length = n) (hsize : ls.size = nL) (hW : (rest.map fun v => v.category).sum ≤ 8) (hdg : decode cc pc = .ok (.invokevirtual index, 3)) (hf : cells + mc ≤ R.cells ∧ slots + ms ≤ R.slots)
    (kk : ∀ (u : S) (H1 : Heap) (locs1 : List Loc), post u → va_P D classes (zset isC X (w1 u) ++ PL) H1 → va_S A s.heap H1 locs1 → W p l e R s m args below meth c H1 locs1 (cells + mc) (slots + ms) Q (F0 m (pc + 3) ls (rest))) :
    W p l e R s m args below meth c H locs cells slots Q (F0 m pc ls (As.reverse ++ .ref b :: rest)) := by
  have hC := zmp hC0
  have hPc : va_P D classes cx H := (zP_l hP).sub isC (zk_fm hC)
  have hDc : va_D A cx := (zD_l hD).sub isC hnC hC
  have hFc := va_free (zD_l hD) hS hA isC hC
  refine va_callv (va_runVN (As := As) (rest := rest) S0 hM cw ⟨zPre_blind, hrv, fun U hU hW => ⟨rfl, ⟨by rw [hU], by rw [hU]; exact hPc, va_K.moved hW.alike hK, hDc.weaken (fun _ _ _ _ => trivial)⟩⟩⟩ rfl hlen hsize rfl (lv_room hW) hdg hf) hS (fun q _ h => hFc q h) hFc (fun u t H1 locs1 ht hvm hw hB hz1 hk1 hS1 => ?_)
  have hB : va_P D classes (w1 u) t.heap ∧ va_D (va_A cx H.size) (w1 u) := hB
  rw [ht] at hB
  exact kk u H1 locs1 hw (zjQ hP hD hC ((hkey u).trans hks.symm) hk1 hB.1) hS1
theorem zz_nvOP {post : S → Prop} (hO : zO s) (hM : Met l y wsY rm (va_Pc (.ref b :: As) (zPreO D cs (cx ++ PL) H.size)) (va_Qv post (fun (u : S) (t : State) => va_P D classes (w1 u ++ PL) t.heap ∧ va_D (va_A (cx ++ PL) H.size) (w1 u ++ PL)) (va_A (cx ++ PL) H.size)) mc ms (va_A (cx ++ PL) H.size))
    (S0 : CallFix p m c cc nL s args zW own) (cw : va_CN R s args own index y host bytes maxL ret wsY rm mc ms n ∧ (Cond.instanceMethod y).before args s = true ∧ (Cond.selects C y y).before args s = true) (hrv : ∃ cellB : Cell, H[b]? = some cellB ∧ cellB.vm.isStatics = false ∧ s.vm.findClass C = some cellB.cls)
    (hP : va_P D classes (X ++ PL) H) (hD : va_D A (X ++ PL)) (hS : va_S A s.heap H locs) (hK : va_K D classes (zT cs) s) (hA : ∀ q : Nat, s.heap.size ≤ q → A q) (isC : List Nat) (hC0 : isC.map (zgt X) = cx.map some) (hnC : va_nd isC = true) (ks : List Nat) (hks : cx.map Prod.fst = ks) (hkey : ∀ u : S, (w1 u).map Prod.fst = ks)
    (hlen : As.length = n) (hsize : ls.size = nL) (hW : (rest.map fun v => v.category).sum ≤ 8) (hdg : decode cc pc = .ok (.invokevirtual index, 3)) (hf : cells + mc ≤ R.cells ∧ slots + ms ≤ R.slots)
    (kk : ∀ (u : S) (H1 : Heap) (locs1 : List Loc), post u → va_P D classes (zset isC X (w1 u) ++ PL) H1 → va_S A s.heap H1 locs1 → W p l e R s m args below meth c H1 locs1 (cells + mc) (slots + ms) Q (F0 m (pc + 3) ls (rest))) :
    W p l e R s m args below meth c H locs cells slots Q (F0 m pc ls (As.reverse ++ .ref b :: rest)) := by
  have hC := zmp hC0
  have hPc : va_P D classes (cx ++ PL) H := hP.part isC hC
  have hDc : va_D A (cx ++ PL) := hD.part isC hnC hC
  have hFc := va_freeP hD hS hA isC hC
  refine va_callv (va_runVN (As := As) (rest := rest) S0 hM cw ⟨zPreO_blind, hrv, fun U hU hW => ⟨rfl, ⟨by rw [hU], by rw [hU]; exact hPc, va_K.moved hW.alike hK, hDc.weaken (fun _ _ _ _ => trivial)⟩, zO.warm hW hO⟩⟩ rfl hlen hsize rfl (lv_room hW) hdg hf) hS (fun q _ h => hFc q h) hFc (fun u t H1 locs1 ht hvm hw hB hz1 hk1 hS1 => ?_)
  have hB : va_P D classes (w1 u ++ PL) t.heap ∧ va_D (va_A (cx ++ PL) H.size) (w1 u ++ PL) := hB
  rw [ht] at hB
  exact kk u H1 locs1 hw (zjP hP hD hC ((hkey u).trans hks.symm) hk1 hB.1) hS1
theorem zz_nvOQ {post : S → Prop} (hO : zO s) (hM : Met l y wsY rm (va_Pc (.ref b :: As) (zPreO D cs cx H.size)) (va_Qv post (fun (u : S) (t : State) => va_P D classes (w1 u) t.heap ∧ va_D (va_A cx H.size) (w1 u)) (va_A cx H.size)) mc ms (va_A cx H.size))
    (S0 : CallFix p m c cc nL s args zW own) (cw : va_CN R s args own index y host bytes maxL ret wsY rm mc ms n ∧ (Cond.instanceMethod y).before args s = true ∧ (Cond.selects C y y).before args s = true) (hrv : ∃ cellB : Cell, H[b]? = some cellB ∧ cellB.vm.isStatics = false ∧ s.vm.findClass C = some cellB.cls)
    (hP : va_P D classes (X ++ PL) H) (hD : va_D A (X ++ PL)) (hS : va_S A s.heap H locs) (hK : va_K D classes (zT cs) s) (hA : ∀ q : Nat, s.heap.size ≤ q → A q) (isC : List Nat) (hC0 : isC.map (zgt X) = cx.map some) (hnC : va_nd isC = true) (ks : List Nat) (hks : cx.map Prod.fst = ks) (hkey : ∀ u : S, (w1 u).map Prod.fst = ks)
    (hlen : As.length = n) (hsize : ls.size = nL) (hW : (rest.map fun v => v.category).sum ≤ 8) (hdg : decode cc pc = .ok (.invokevirtual index, 3)) (hf : cells + mc ≤ R.cells ∧ slots + ms ≤ R.slots)
    (kk : ∀ (u : S) (H1 : Heap) (locs1 : List Loc), post u → va_P D classes (zset isC X (w1 u) ++ PL) H1 → va_S A s.heap H1 locs1 → W p l e R s m args below meth c H1 locs1 (cells + mc) (slots + ms) Q (F0 m (pc + 3) ls (rest))) :
    W p l e R s m args below meth c H locs cells slots Q (F0 m pc ls (As.reverse ++ .ref b :: rest)) := by
  have hC := zmp hC0
  have hPc : va_P D classes cx H := (zP_l hP).sub isC (zk_fm hC)
  have hDc : va_D A cx := (zD_l hD).sub isC hnC hC
  have hFc := va_free (zD_l hD) hS hA isC hC
  refine va_callv (va_runVN (As := As) (rest := rest) S0 hM cw ⟨zPreO_blind, hrv, fun U hU hW => ⟨rfl, ⟨by rw [hU], by rw [hU]; exact hPc, va_K.moved hW.alike hK, hDc.weaken (fun _ _ _ _ => trivial)⟩, zO.warm hW hO⟩⟩ rfl hlen hsize rfl (lv_room hW) hdg hf) hS (fun q _ h => hFc q h) hFc (fun u t H1 locs1 ht hvm hw hB hz1 hk1 hS1 => ?_)
  have hB : va_P D classes (w1 u) t.heap ∧ va_D (va_A cx H.size) (w1 u) := hB
  rw [ht] at hB
  exact kk u H1 locs1 hw (zjQ hP hD hC ((hkey u).trans hks.symm) hk1 hB.1) hS1
theorem zz_nqP {post : Option Nat → S → Prop} (hM : Met l y wsY rm (va_Pc (.ref b :: As) (zPre D cs (cx ++ PL) H.size)) (va_Qq post (fun (u : S) (t : State) => va_P D classes (w1 u ++ PL) t.heap ∧ va_D (va_A (cx ++ PL) H.size) (w1 u ++ PL)) (va_A (cx ++ PL) H.size)) mc ms (va_A (cx ++ PL) H.size))
    (S0 : CallFix p m c cc nL s args zW own) (cw : va_CN R s args own index y host bytes maxL ret wsY rm mc ms n ∧ (Cond.instanceMethod y).before args s = true ∧ (Cond.selects C y y).before args s = true) (hrv : ∃ cellB : Cell, H[b]? = some cellB ∧ cellB.vm.isStatics = false ∧ s.vm.findClass C = some cellB.cls)
    (hP : va_P D classes (X ++ PL) H) (hD : va_D A (X ++ PL)) (hS : va_S A s.heap H locs) (hK : va_K D classes (zT cs) s) (hA : ∀ q : Nat, s.heap.size ≤ q → A q) (isC : List Nat) (hC0 : isC.map (zgt X) = cx.map some) (hnC : va_nd isC = true) (ks : List Nat) (hks : cx.map Prod.fst = ks) (hkey : ∀ u : S, (w1 u).map Prod.fst = ks)
    (hlen : As.length = n) (hsize : ls.size = nL) (hW : (rest.map fun v => v.category).sum ≤ 8) (hdg : decode cc pc = .ok (.invokevirtual index, 3)) (hf : cells + mc ≤ R.cells ∧ slots + ms ≤ R.slots)
    (kk : ∀ (r : Option Nat) (u : S) (H1 : Heap) (locs1 : List Loc), post r u → va_P D classes (zset isC X (w1 u) ++ PL) H1 → va_S A s.heap H1 locs1 → W p l e R s m args below meth c H1 locs1 (cells + mc) (slots + ms) Q (F0 m (pc + 3) ls (va_rf r :: rest))) :
    W p l e R s m args below meth c H locs cells slots Q (F0 m pc ls (As.reverse ++ .ref b :: rest)) := by
  have hC := zmp hC0
  have hPc : va_P D classes (cx ++ PL) H := hP.part isC hC
  have hDc : va_D A (cx ++ PL) := hD.part isC hnC hC
  have hFc := va_freeP hD hS hA isC hC
  refine va_callq (va_runVN (As := As) (rest := rest) S0 hM cw ⟨zPre_blind, hrv, fun U hU hW => ⟨rfl, ⟨by rw [hU], by rw [hU]; exact hPc, va_K.moved hW.alike hK, hDc.weaken (fun _ _ _ _ => trivial)⟩⟩⟩ rfl hlen hsize rfl (lv_room hW) hdg hf) hS (fun q _ h => hFc q h) hFc (fun r u t H1 locs1 ht hvm hw hB hz1 hk1 hS1 => ?_)
  have hB : va_P D classes (w1 u ++ PL) t.heap ∧ va_D (va_A (cx ++ PL) H.size) (w1 u ++ PL) := hB
  rw [ht] at hB
  exact kk r u H1 locs1 hw (zjP hP hD hC ((hkey u).trans hks.symm) hk1 hB.1) hS1
theorem zz_nqQ {post : Option Nat → S → Prop} (hM : Met l y wsY rm (va_Pc (.ref b :: As) (zPre D cs cx H.size)) (va_Qq post (fun (u : S) (t : State) => va_P D classes (w1 u) t.heap ∧ va_D (va_A cx H.size) (w1 u)) (va_A cx H.size)) mc ms (va_A cx H.size))
    (S0 : CallFix p m c cc nL s args zW own) (cw : va_CN R s args own index y host bytes maxL ret wsY rm mc ms n ∧ (Cond.instanceMethod y).before args s = true ∧ (Cond.selects C y y).before args s = true) (hrv : ∃ cellB : Cell, H[b]? = some cellB ∧ cellB.vm.isStatics = false ∧ s.vm.findClass C = some cellB.cls)
    (hP : va_P D classes (X ++ PL) H) (hD : va_D A (X ++ PL)) (hS : va_S A s.heap H locs) (hK : va_K D classes (zT cs) s) (hA : ∀ q : Nat, s.heap.size ≤ q → A q) (isC : List Nat) (hC0 : isC.map (zgt X) = cx.map some) (hnC : va_nd isC = true) (ks : List Nat) (hks : cx.map Prod.fst = ks) (hkey : ∀ u : S, (w1 u).map Prod.fst = ks)
    (hlen : As.length = n) (hsize : ls.size = nL) (hW : (rest.map fun v => v.category).sum ≤ 8) (hdg : decode cc pc = .ok (.invokevirtual index, 3)) (hf : cells + mc ≤ R.cells ∧ slots + ms ≤ R.slots)
    (kk : ∀ (r : Option Nat) (u : S) (H1 : Heap) (locs1 : List Loc), post r u → va_P D classes (zset isC X (w1 u) ++ PL) H1 → va_S A s.heap H1 locs1 → W p l e R s m args below meth c H1 locs1 (cells + mc) (slots + ms) Q (F0 m (pc + 3) ls (va_rf r :: rest))) :
    W p l e R s m args below meth c H locs cells slots Q (F0 m pc ls (As.reverse ++ .ref b :: rest)) := by
  have hC := zmp hC0
  have hPc : va_P D classes cx H := (zP_l hP).sub isC (zk_fm hC)
  have hDc : va_D A cx := (zD_l hD).sub isC hnC hC
  have hFc := va_free (zD_l hD) hS hA isC hC
  refine va_callq (va_runVN (As := As) (rest := rest) S0 hM cw ⟨zPre_blind, hrv, fun U hU hW => ⟨rfl, ⟨by rw [hU], by rw [hU]; exact hPc, va_K.moved hW.alike hK, hDc.weaken (fun _ _ _ _ => trivial)⟩⟩⟩ rfl hlen hsize rfl (lv_room hW) hdg hf) hS (fun q _ h => hFc q h) hFc (fun r u t H1 locs1 ht hvm hw hB hz1 hk1 hS1 => ?_)
  have hB : va_P D classes (w1 u) t.heap ∧ va_D (va_A cx H.size) (w1 u) := hB
  rw [ht] at hB
  exact kk r u H1 locs1 hw (zjQ hP hD hC ((hkey u).trans hks.symm) hk1 hB.1) hS1
theorem zz_nqOP {post : Option Nat → S → Prop} (hO : zO s) (hM : Met l y wsY rm (va_Pc (.ref b :: As) (zPreO D cs (cx ++ PL) H.size)) (va_Qq post (fun (u : S) (t : State) => va_P D classes (w1 u ++ PL) t.heap ∧ va_D (va_A (cx ++ PL) H.size) (w1 u ++ PL)) (va_A (cx ++ PL) H.size)) mc ms (va_A (cx ++ PL) H.size))
    (S0 : CallFix p m c cc nL s args zW own) (cw : va_CN R s args own index y host bytes maxL ret wsY rm mc ms n ∧ (Cond.instanceMethod y).before args s = true ∧ (Cond.selects C y y).before args s = true) (hrv : ∃ cellB : Cell, H[b]? = some cellB ∧ cellB.vm.isStatics = false ∧ s.vm.findClass C = some cellB.cls)
    (hP : va_P D classes (X ++ PL) H) (hD : va_D A (X ++ PL)) (hS : va_S A s.heap H locs) (hK : va_K D classes (zT cs) s) (hA : ∀ q : Nat, s.heap.size ≤ q → A q) (isC : List Nat) (hC0 : isC.map (zgt X) = cx.map some) (hnC : va_nd isC = true) (ks : List Nat) (hks : cx.map Prod.fst = ks) (hkey : ∀ u : S, (w1 u).map Prod.fst = ks)
    (hlen : As.length = n) (hsize : ls.size = nL) (hW : (rest.map fun v => v.category).sum ≤ 8) (hdg : decode cc pc = .ok (.invokevirtual index, 3)) (hf : cells + mc ≤ R.cells ∧ slots + ms ≤ R.slots)
    (kk : ∀ (r : Option Nat) (u : S) (H1 : Heap) (locs1 : List Loc), post r u → va_P D classes (zset isC X (w1 u) ++ PL) H1 → va_S A s.heap H1 locs1 → W p l e R s m args below meth c H1 locs1 (cells + mc) (slots + ms) Q (F0 m (pc + 3) ls (va_rf r :: rest))) :
    W p l e R s m args below meth c H locs cells slots Q (F0 m pc ls (As.reverse ++ .ref b :: rest)) := by
  have hC := zmp hC0
  have hPc : va_P D classes (cx ++ PL) H := hP.part isC hC
  have hDc : va_D A (cx ++ PL) := hD.part isC hnC hC
  have hFc := va_freeP hD hS hA isC hC
  refine va_callq (va_runVN (As := As) (rest := rest) S0 hM cw ⟨zPreO_blind, hrv, fun U hU hW => ⟨rfl, ⟨by rw [hU], by rw [hU]; exact hPc, va_K.moved hW.alike hK, hDc.weaken (fun _ _ _ _ => trivial)⟩, zO.warm hW hO⟩⟩ rfl hlen hsize rfl (lv_room hW) hdg hf) hS (fun q _ h => hFc q h) hFc (fun r u t H1 locs1 ht hvm hw hB hz1 hk1 hS1 => ?_)
  have hB : va_P D classes (w1 u ++ PL) t.heap ∧ va_D (va_A (cx ++ PL) H.size) (w1 u ++ PL) := hB
  rw [ht] at hB
  exact kk r u H1 locs1 hw (zjP hP hD hC ((hkey u).trans hks.symm) hk1 hB.1) hS1
theorem zz_nqOQ {post : Option Nat → S → Prop} (hO : zO s) (hM : Met l y wsY rm (va_Pc (.ref b :: As) (zPreO D cs cx H.size)) (va_Qq post (fun (u : S) (t : State) => va_P D classes (w1 u) t.heap ∧ va_D (va_A cx H.size) (w1 u)) (va_A cx H.size)) mc ms (va_A cx H.size))
    (S0 : CallFix p m c cc nL s args zW own) (cw : va_CN R s args own index y host bytes maxL ret wsY rm mc ms n ∧ (Cond.instanceMethod y).before args s = true ∧ (Cond.selects C y y).before args s = true) (hrv : ∃ cellB : Cell, H[b]? = some cellB ∧ cellB.vm.isStatics = false ∧ s.vm.findClass C = some cellB.cls)
    (hP : va_P D classes (X ++ PL) H) (hD : va_D A (X ++ PL)) (hS : va_S A s.heap H locs) (hK : va_K D classes (zT cs) s) (hA : ∀ q : Nat, s.heap.size ≤ q → A q) (isC : List Nat) (hC0 : isC.map (zgt X) = cx.map some) (hnC : va_nd isC = true) (ks : List Nat) (hks : cx.map Prod.fst = ks) (hkey : ∀ u : S, (w1 u).map Prod.fst = ks)
    (hlen : As.length = n) (hsize : ls.size = nL) (hW : (rest.map fun v => v.category).sum ≤ 8) (hdg : decode cc pc = .ok (.invokevirtual index, 3)) (hf : cells + mc ≤ R.cells ∧ slots + ms ≤ R.slots)
    (kk : ∀ (r : Option Nat) (u : S) (H1 : Heap) (locs1 : List Loc), post r u → va_P D classes (zset isC X (w1 u) ++ PL) H1 → va_S A s.heap H1 locs1 → W p l e R s m args below meth c H1 locs1 (cells + mc) (slots + ms) Q (F0 m (pc + 3) ls (va_rf r :: rest))) :
    W p l e R s m args below meth c H locs cells slots Q (F0 m pc ls (As.reverse ++ .ref b :: rest)) := by
  have hC := zmp hC0
  have hPc : va_P D classes cx H := (zP_l hP).sub isC (zk_fm hC)
  have hDc : va_D A cx := (zD_l hD).sub isC hnC hC
  have hFc := va_free (zD_l hD) hS hA isC hC
  refine va_callq (va_runVN (As := As) (rest := rest) S0 hM cw ⟨zPreO_blind, hrv, fun U hU hW => ⟨rfl, ⟨by rw [hU], by rw [hU]; exact hPc, va_K.moved hW.alike hK, hDc.weaken (fun _ _ _ _ => trivial)⟩, zO.warm hW hO⟩⟩ rfl hlen hsize rfl (lv_room hW) hdg hf) hS (fun q _ h => hFc q h) hFc (fun r u t H1 locs1 ht hvm hw hB hz1 hk1 hS1 => ?_)
  have hB : va_P D classes (w1 u) t.heap ∧ va_D (va_A cx H.size) (w1 u) := hB
  rw [ht] at hB
  exact kk r u H1 locs1 hw (zjQ hP hD hC ((hkey u).trans hks.symm) hk1 hB.1) hS1
theorem zz_tiP {post : Int32 → S → Prop} (hM : Met l y wsY rm (va_Pc As (zPre D cs (cx ++ PL) H.size)) (va_Qi post (fun (u : S) (t : State) => va_P D classes (w1 u ++ PL) t.heap ∧ va_D (va_A (cx ++ PL) H.size) (w1 u ++ PL)) (va_A (cx ++ PL) H.size)) mc ms (va_A (cx ++ PL) H.size))
    (S0 : CallFix p m c cc nL s args zW own) (cw : va_CN R s args own index y host bytes maxL ret wsY rm mc ms n ∧ (Cond.static y).before args s = true ∧ True)
    (hP : va_P D classes (X ++ PL) H) (hD : va_D A (X ++ PL)) (hS : va_S A s.heap H locs) (hK : va_K D classes (zT cs) s) (hA : ∀ q : Nat, s.heap.size ≤ q → A q) (isC : List Nat) (hC0 : isC.map (zgt X) = cx.map some) (hnC : va_nd isC = true) (ks : List Nat) (hks : cx.map Prod.fst = ks) (hkey : ∀ u : S, (w1 u).map Prod.fst = ks)
    (hlen : As.length = n) (hsize : ls.size = nL) (hW : (rest.map fun v => v.category).sum ≤ 8) (hdg : decode cc pc = .ok (.invokestatic index, 3)) (hf : cells + mc ≤ R.cells ∧ slots + ms ≤ R.slots)
    (kk : ∀ (r : Int32) (u : S) (H1 : Heap) (locs1 : List Loc), post r u → va_P D classes (zset isC X (w1 u) ++ PL) H1 → va_S A s.heap H1 locs1 → W p l e R s m args below meth c H1 locs1 (cells + mc) (slots + ms) Q (F0 m (pc + 3) ls (.int r :: rest))) :
    W p l e R s m args below meth c H locs cells slots Q (F0 m pc ls (As.reverse ++ rest)) := by
  have hC := zmp hC0
  have hPc : va_P D classes (cx ++ PL) H := hP.part isC hC
  have hDc : va_D A (cx ++ PL) := hD.part isC hnC hC
  have hFc := va_freeP hD hS hA isC hC
  refine va_calli (va_runSN (As := As) (rest := rest) S0 hM cw ⟨zPre_blind, fun U hU hW => ⟨rfl, ⟨by rw [hU], by rw [hU]; exact hPc, va_K.moved hW.alike hK, hDc.weaken (fun _ _ _ _ => trivial)⟩⟩⟩ rfl hlen hsize rfl (lv_room hW) hdg hf) hS (fun q _ h => hFc q h) hFc (fun r u t H1 locs1 ht hvm hw hB hz1 hk1 hS1 => ?_)
  have hB : va_P D classes (w1 u ++ PL) t.heap ∧ va_D (va_A (cx ++ PL) H.size) (w1 u ++ PL) := hB
  rw [ht] at hB
  exact kk r u H1 locs1 hw (zjP hP hD hC ((hkey u).trans hks.symm) hk1 hB.1) hS1
theorem zz_tiQ {post : Int32 → S → Prop} (hM : Met l y wsY rm (va_Pc As (zPre D cs cx H.size)) (va_Qi post (fun (u : S) (t : State) => va_P D classes (w1 u) t.heap ∧ va_D (va_A cx H.size) (w1 u)) (va_A cx H.size)) mc ms (va_A cx H.size))
    (S0 : CallFix p m c cc nL s args zW own) (cw : va_CN R s args own index y host bytes maxL ret wsY rm mc ms n ∧ (Cond.static y).before args s = true ∧ True)
    (hP : va_P D classes (X ++ PL) H) (hD : va_D A (X ++ PL)) (hS : va_S A s.heap H locs) (hK : va_K D classes (zT cs) s) (hA : ∀ q : Nat, s.heap.size ≤ q → A q) (isC : List Nat) (hC0 : isC.map (zgt X) = cx.map some) (hnC : va_nd isC = true) (ks : List Nat) (hks : cx.map Prod.fst = ks) (hkey : ∀ u : S, (w1 u).map Prod.fst = ks)
    (hlen : As.length = n) (hsize : ls.size = nL) (hW : (rest.map fun v => v.category).sum ≤ 8) (hdg : decode cc pc = .ok (.invokestatic index, 3)) (hf : cells + mc ≤ R.cells ∧ slots + ms ≤ R.slots)
    (kk : ∀ (r : Int32) (u : S) (H1 : Heap) (locs1 : List Loc), post r u → va_P D classes (zset isC X (w1 u) ++ PL) H1 → va_S A s.heap H1 locs1 → W p l e R s m args below meth c H1 locs1 (cells + mc) (slots + ms) Q (F0 m (pc + 3) ls (.int r :: rest))) :
    W p l e R s m args below meth c H locs cells slots Q (F0 m pc ls (As.reverse ++ rest)) := by
  have hC := zmp hC0
  have hPc : va_P D classes cx H := (zP_l hP).sub isC (zk_fm hC)
  have hDc : va_D A cx := (zD_l hD).sub isC hnC hC
  have hFc := va_free (zD_l hD) hS hA isC hC
  refine va_calli (va_runSN (As := As) (rest := rest) S0 hM cw ⟨zPre_blind, fun U hU hW => ⟨rfl, ⟨by rw [hU], by rw [hU]; exact hPc, va_K.moved hW.alike hK, hDc.weaken (fun _ _ _ _ => trivial)⟩⟩⟩ rfl hlen hsize rfl (lv_room hW) hdg hf) hS (fun q _ h => hFc q h) hFc (fun r u t H1 locs1 ht hvm hw hB hz1 hk1 hS1 => ?_)
  have hB : va_P D classes (w1 u) t.heap ∧ va_D (va_A cx H.size) (w1 u) := hB
  rw [ht] at hB
  exact kk r u H1 locs1 hw (zjQ hP hD hC ((hkey u).trans hks.symm) hk1 hB.1) hS1
theorem zz_tiOP {post : Int32 → S → Prop} (hO : zO s) (hM : Met l y wsY rm (va_Pc As (zPreO D cs (cx ++ PL) H.size)) (va_Qi post (fun (u : S) (t : State) => va_P D classes (w1 u ++ PL) t.heap ∧ va_D (va_A (cx ++ PL) H.size) (w1 u ++ PL)) (va_A (cx ++ PL) H.size)) mc ms (va_A (cx ++ PL) H.size))
    (S0 : CallFix p m c cc nL s args zW own) (cw : va_CN R s args own index y host bytes maxL ret wsY rm mc ms n ∧ (Cond.static y).before args s = true ∧ True)
    (hP : va_P D classes (X ++ PL) H) (hD : va_D A (X ++ PL)) (hS : va_S A s.heap H locs) (hK : va_K D classes (zT cs) s) (hA : ∀ q : Nat, s.heap.size ≤ q → A q) (isC : List Nat) (hC0 : isC.map (zgt X) = cx.map some) (hnC : va_nd isC = true) (ks : List Nat) (hks : cx.map Prod.fst = ks) (hkey : ∀ u : S, (w1 u).map Prod.fst = ks)
    (hlen : As.length = n) (hsize : ls.size = nL) (hW : (rest.map fun v => v.category).sum ≤ 8) (hdg : decode cc pc = .ok (.invokestatic index, 3)) (hf : cells + mc ≤ R.cells ∧ slots + ms ≤ R.slots)
    (kk : ∀ (r : Int32) (u : S) (H1 : Heap) (locs1 : List Loc), post r u → va_P D classes (zset isC X (w1 u) ++ PL) H1 → va_S A s.heap H1 locs1 → W p l e R s m args below meth c H1 locs1 (cells + mc) (slots + ms) Q (F0 m (pc + 3) ls (.int r :: rest))) :
    W p l e R s m args below meth c H locs cells slots Q (F0 m pc ls (As.reverse ++ rest)) := by
  have hC := zmp hC0
  have hPc : va_P D classes (cx ++ PL) H := hP.part isC hC
  have hDc : va_D A (cx ++ PL) := hD.part isC hnC hC
  have hFc := va_freeP hD hS hA isC hC
  refine va_calli (va_runSN (As := As) (rest := rest) S0 hM cw ⟨zPreO_blind, fun U hU hW => ⟨rfl, ⟨by rw [hU], by rw [hU]; exact hPc, va_K.moved hW.alike hK, hDc.weaken (fun _ _ _ _ => trivial)⟩, zO.warm hW hO⟩⟩ rfl hlen hsize rfl (lv_room hW) hdg hf) hS (fun q _ h => hFc q h) hFc (fun r u t H1 locs1 ht hvm hw hB hz1 hk1 hS1 => ?_)
  have hB : va_P D classes (w1 u ++ PL) t.heap ∧ va_D (va_A (cx ++ PL) H.size) (w1 u ++ PL) := hB
  rw [ht] at hB
  exact kk r u H1 locs1 hw (zjP hP hD hC ((hkey u).trans hks.symm) hk1 hB.1) hS1
theorem zz_tiOQ {post : Int32 → S → Prop} (hO : zO s) (hM : Met l y wsY rm (va_Pc As (zPreO D cs cx H.size)) (va_Qi post (fun (u : S) (t : State) => va_P D classes (w1 u) t.heap ∧ va_D (va_A cx H.size) (w1 u)) (va_A cx H.size)) mc ms (va_A cx H.size))
    (S0 : CallFix p m c cc nL s args zW own) (cw : va_CN R s args own index y host bytes maxL ret wsY rm mc ms n ∧ (Cond.static y).before args s = true ∧ True)
    (hP : va_P D classes (X ++ PL) H) (hD : va_D A (X ++ PL)) (hS : va_S A s.heap H locs) (hK : va_K D classes (zT cs) s) (hA : ∀ q : Nat, s.heap.size ≤ q → A q) (isC : List Nat) (hC0 : isC.map (zgt X) = cx.map some) (hnC : va_nd isC = true) (ks : List Nat) (hks : cx.map Prod.fst = ks) (hkey : ∀ u : S, (w1 u).map Prod.fst = ks)
    (hlen : As.length = n) (hsize : ls.size = nL) (hW : (rest.map fun v => v.category).sum ≤ 8) (hdg : decode cc pc = .ok (.invokestatic index, 3)) (hf : cells + mc ≤ R.cells ∧ slots + ms ≤ R.slots)
    (kk : ∀ (r : Int32) (u : S) (H1 : Heap) (locs1 : List Loc), post r u → va_P D classes (zset isC X (w1 u) ++ PL) H1 → va_S A s.heap H1 locs1 → W p l e R s m args below meth c H1 locs1 (cells + mc) (slots + ms) Q (F0 m (pc + 3) ls (.int r :: rest))) :
    W p l e R s m args below meth c H locs cells slots Q (F0 m pc ls (As.reverse ++ rest)) := by
  have hC := zmp hC0
  have hPc : va_P D classes cx H := (zP_l hP).sub isC (zk_fm hC)
  have hDc : va_D A cx := (zD_l hD).sub isC hnC hC
  have hFc := va_free (zD_l hD) hS hA isC hC
  refine va_calli (va_runSN (As := As) (rest := rest) S0 hM cw ⟨zPreO_blind, fun U hU hW => ⟨rfl, ⟨by rw [hU], by rw [hU]; exact hPc, va_K.moved hW.alike hK, hDc.weaken (fun _ _ _ _ => trivial)⟩, zO.warm hW hO⟩⟩ rfl hlen hsize rfl (lv_room hW) hdg hf) hS (fun q _ h => hFc q h) hFc (fun r u t H1 locs1 ht hvm hw hB hz1 hk1 hS1 => ?_)
  have hB : va_P D classes (w1 u) t.heap ∧ va_D (va_A cx H.size) (w1 u) := hB
  rw [ht] at hB
  exact kk r u H1 locs1 hw (zjQ hP hD hC ((hkey u).trans hks.symm) hk1 hB.1) hS1
theorem zz_tlP {post : Int64 → S → Prop} (hM : Met l y wsY rm (va_Pc As (zPre D cs (cx ++ PL) H.size)) (va_Ql post (fun (u : S) (t : State) => va_P D classes (w1 u ++ PL) t.heap ∧ va_D (va_A (cx ++ PL) H.size) (w1 u ++ PL)) (va_A (cx ++ PL) H.size)) mc ms (va_A (cx ++ PL) H.size))
    (S0 : CallFix p m c cc nL s args zW own) (cw : va_CN R s args own index y host bytes maxL ret wsY rm mc ms n ∧ (Cond.static y).before args s = true ∧ True)
    (hP : va_P D classes (X ++ PL) H) (hD : va_D A (X ++ PL)) (hS : va_S A s.heap H locs) (hK : va_K D classes (zT cs) s) (hA : ∀ q : Nat, s.heap.size ≤ q → A q) (isC : List Nat) (hC0 : isC.map (zgt X) = cx.map some) (hnC : va_nd isC = true) (ks : List Nat) (hks : cx.map Prod.fst = ks) (hkey : ∀ u : S, (w1 u).map Prod.fst = ks)
    (hlen : As.length = n) (hsize : ls.size = nL) (hW : (rest.map fun v => v.category).sum ≤ 8) (hdg : decode cc pc = .ok (.invokestatic index, 3)) (hf : cells + mc ≤ R.cells ∧ slots + ms ≤ R.slots)
    (kk : ∀ (r : Int64) (u : S) (H1 : Heap) (locs1 : List Loc), post r u → va_P D classes (zset isC X (w1 u) ++ PL) H1 → va_S A s.heap H1 locs1 → W p l e R s m args below meth c H1 locs1 (cells + mc) (slots + ms) Q (F0 m (pc + 3) ls (.long r :: rest))) :
    W p l e R s m args below meth c H locs cells slots Q (F0 m pc ls (As.reverse ++ rest)) := by
  have hC := zmp hC0
  have hPc : va_P D classes (cx ++ PL) H := hP.part isC hC
  have hDc : va_D A (cx ++ PL) := hD.part isC hnC hC
  have hFc := va_freeP hD hS hA isC hC
  refine va_calll (va_runSN (As := As) (rest := rest) S0 hM cw ⟨zPre_blind, fun U hU hW => ⟨rfl, ⟨by rw [hU], by rw [hU]; exact hPc, va_K.moved hW.alike hK, hDc.weaken (fun _ _ _ _ => trivial)⟩⟩⟩ rfl hlen hsize rfl (lv_room hW) hdg hf) hS (fun q _ h => hFc q h) hFc (fun r u t H1 locs1 ht hvm hw hB hz1 hk1 hS1 => ?_)
  have hB : va_P D classes (w1 u ++ PL) t.heap ∧ va_D (va_A (cx ++ PL) H.size) (w1 u ++ PL) := hB
  rw [ht] at hB
  exact kk r u H1 locs1 hw (zjP hP hD hC ((hkey u).trans hks.symm) hk1 hB.1) hS1
theorem zz_tlQ {post : Int64 → S → Prop} (hM : Met l y wsY rm (va_Pc As (zPre D cs cx H.size)) (va_Ql post (fun (u : S) (t : State) => va_P D classes (w1 u) t.heap ∧ va_D (va_A cx H.size) (w1 u)) (va_A cx H.size)) mc ms (va_A cx H.size))
    (S0 : CallFix p m c cc nL s args zW own) (cw : va_CN R s args own index y host bytes maxL ret wsY rm mc ms n ∧ (Cond.static y).before args s = true ∧ True)
    (hP : va_P D classes (X ++ PL) H) (hD : va_D A (X ++ PL)) (hS : va_S A s.heap H locs) (hK : va_K D classes (zT cs) s) (hA : ∀ q : Nat, s.heap.size ≤ q → A q) (isC : List Nat) (hC0 : isC.map (zgt X) = cx.map some) (hnC : va_nd isC = true) (ks : List Nat) (hks : cx.map Prod.fst = ks) (hkey : ∀ u : S, (w1 u).map Prod.fst = ks)
    (hlen : As.length = n) (hsize : ls.size = nL) (hW : (rest.map fun v => v.category).sum ≤ 8) (hdg : decode cc pc = .ok (.invokestatic index, 3)) (hf : cells + mc ≤ R.cells ∧ slots + ms ≤ R.slots)
    (kk : ∀ (r : Int64) (u : S) (H1 : Heap) (locs1 : List Loc), post r u → va_P D classes (zset isC X (w1 u) ++ PL) H1 → va_S A s.heap H1 locs1 → W p l e R s m args below meth c H1 locs1 (cells + mc) (slots + ms) Q (F0 m (pc + 3) ls (.long r :: rest))) :
    W p l e R s m args below meth c H locs cells slots Q (F0 m pc ls (As.reverse ++ rest)) := by
  have hC := zmp hC0
  have hPc : va_P D classes cx H := (zP_l hP).sub isC (zk_fm hC)
  have hDc : va_D A cx := (zD_l hD).sub isC hnC hC
  have hFc := va_free (zD_l hD) hS hA isC hC
  refine va_calll (va_runSN (As := As) (rest := rest) S0 hM cw ⟨zPre_blind, fun U hU hW => ⟨rfl, ⟨by rw [hU], by rw [hU]; exact hPc, va_K.moved hW.alike hK, hDc.weaken (fun _ _ _ _ => trivial)⟩⟩⟩ rfl hlen hsize rfl (lv_room hW) hdg hf) hS (fun q _ h => hFc q h) hFc (fun r u t H1 locs1 ht hvm hw hB hz1 hk1 hS1 => ?_)
  have hB : va_P D classes (w1 u) t.heap ∧ va_D (va_A cx H.size) (w1 u) := hB
  rw [ht] at hB
  exact kk r u H1 locs1 hw (zjQ hP hD hC ((hkey u).trans hks.symm) hk1 hB.1) hS1
theorem zz_tlOP {post : Int64 → S → Prop} (hO : zO s) (hM : Met l y wsY rm (va_Pc As (zPreO D cs (cx ++ PL) H.size)) (va_Ql post (fun (u : S) (t : State) => va_P D classes (w1 u ++ PL) t.heap ∧ va_D (va_A (cx ++ PL) H.size) (w1 u ++ PL)) (va_A (cx ++ PL) H.size)) mc ms (va_A (cx ++ PL) H.size))
    (S0 : CallFix p m c cc nL s args zW own) (cw : va_CN R s args own index y host bytes maxL ret wsY rm mc ms n ∧ (Cond.static y).before args s = true ∧ True)
    (hP : va_P D classes (X ++ PL) H) (hD : va_D A (X ++ PL)) (hS : va_S A s.heap H locs) (hK : va_K D classes (zT cs) s) (hA : ∀ q : Nat, s.heap.size ≤ q → A q) (isC : List Nat) (hC0 : isC.map (zgt X) = cx.map some) (hnC : va_nd isC = true) (ks : List Nat) (hks : cx.map Prod.fst = ks) (hkey : ∀ u : S, (w1 u).map Prod.fst = ks)
    (hlen : As.length = n) (hsize : ls.size = nL) (hW : (rest.map fun v => v.category).sum ≤ 8) (hdg : decode cc pc = .ok (.invokestatic index, 3)) (hf : cells + mc ≤ R.cells ∧ slots + ms ≤ R.slots)
    (kk : ∀ (r : Int64) (u : S) (H1 : Heap) (locs1 : List Loc), post r u → va_P D classes (zset isC X (w1 u) ++ PL) H1 → va_S A s.heap H1 locs1 → W p l e R s m args below meth c H1 locs1 (cells + mc) (slots + ms) Q (F0 m (pc + 3) ls (.long r :: rest))) :
    W p l e R s m args below meth c H locs cells slots Q (F0 m pc ls (As.reverse ++ rest)) := by
  have hC := zmp hC0
  have hPc : va_P D classes (cx ++ PL) H := hP.part isC hC
  have hDc : va_D A (cx ++ PL) := hD.part isC hnC hC
  have hFc := va_freeP hD hS hA isC hC
  refine va_calll (va_runSN (As := As) (rest := rest) S0 hM cw ⟨zPreO_blind, fun U hU hW => ⟨rfl, ⟨by rw [hU], by rw [hU]; exact hPc, va_K.moved hW.alike hK, hDc.weaken (fun _ _ _ _ => trivial)⟩, zO.warm hW hO⟩⟩ rfl hlen hsize rfl (lv_room hW) hdg hf) hS (fun q _ h => hFc q h) hFc (fun r u t H1 locs1 ht hvm hw hB hz1 hk1 hS1 => ?_)
  have hB : va_P D classes (w1 u ++ PL) t.heap ∧ va_D (va_A (cx ++ PL) H.size) (w1 u ++ PL) := hB
  rw [ht] at hB
  exact kk r u H1 locs1 hw (zjP hP hD hC ((hkey u).trans hks.symm) hk1 hB.1) hS1
theorem zz_tlOQ {post : Int64 → S → Prop} (hO : zO s) (hM : Met l y wsY rm (va_Pc As (zPreO D cs cx H.size)) (va_Ql post (fun (u : S) (t : State) => va_P D classes (w1 u) t.heap ∧ va_D (va_A cx H.size) (w1 u)) (va_A cx H.size)) mc ms (va_A cx H.size))
    (S0 : CallFix p m c cc nL s args zW own) (cw : va_CN R s args own index y host bytes maxL ret wsY rm mc ms n ∧ (Cond.static y).before args s = true ∧ True)
    (hP : va_P D classes (X ++ PL) H) (hD : va_D A (X ++ PL)) (hS : va_S A s.heap H locs) (hK : va_K D classes (zT cs) s) (hA : ∀ q : Nat, s.heap.size ≤ q → A q) (isC : List Nat) (hC0 : isC.map (zgt X) = cx.map some) (hnC : va_nd isC = true) (ks : List Nat) (hks : cx.map Prod.fst = ks) (hkey : ∀ u : S, (w1 u).map Prod.fst = ks)
    (hlen : As.length = n) (hsize : ls.size = nL) (hW : (rest.map fun v => v.category).sum ≤ 8) (hdg : decode cc pc = .ok (.invokestatic index, 3)) (hf : cells + mc ≤ R.cells ∧ slots + ms ≤ R.slots)
    (kk : ∀ (r : Int64) (u : S) (H1 : Heap) (locs1 : List Loc), post r u → va_P D classes (zset isC X (w1 u) ++ PL) H1 → va_S A s.heap H1 locs1 → W p l e R s m args below meth c H1 locs1 (cells + mc) (slots + ms) Q (F0 m (pc + 3) ls (.long r :: rest))) :
    W p l e R s m args below meth c H locs cells slots Q (F0 m pc ls (As.reverse ++ rest)) := by
  have hC := zmp hC0
  have hPc : va_P D classes cx H := (zP_l hP).sub isC (zk_fm hC)
  have hDc : va_D A cx := (zD_l hD).sub isC hnC hC
  have hFc := va_free (zD_l hD) hS hA isC hC
  refine va_calll (va_runSN (As := As) (rest := rest) S0 hM cw ⟨zPreO_blind, fun U hU hW => ⟨rfl, ⟨by rw [hU], by rw [hU]; exact hPc, va_K.moved hW.alike hK, hDc.weaken (fun _ _ _ _ => trivial)⟩, zO.warm hW hO⟩⟩ rfl hlen hsize rfl (lv_room hW) hdg hf) hS (fun q _ h => hFc q h) hFc (fun r u t H1 locs1 ht hvm hw hB hz1 hk1 hS1 => ?_)
  have hB : va_P D classes (w1 u) t.heap ∧ va_D (va_A cx H.size) (w1 u) := hB
  rw [ht] at hB
  exact kk r u H1 locs1 hw (zjQ hP hD hC ((hkey u).trans hks.symm) hk1 hB.1) hS1
theorem zz_tvP {post : S → Prop} (hM : Met l y wsY rm (va_Pc As (zPre D cs (cx ++ PL) H.size)) (va_Qv post (fun (u : S) (t : State) => va_P D classes (w1 u ++ PL) t.heap ∧ va_D (va_A (cx ++ PL) H.size) (w1 u ++ PL)) (va_A (cx ++ PL) H.size)) mc ms (va_A (cx ++ PL) H.size))
    (S0 : CallFix p m c cc nL s args zW own) (cw : va_CN R s args own index y host bytes maxL ret wsY rm mc ms n ∧ (Cond.static y).before args s = true ∧ True)
    (hP : va_P D classes (X ++ PL) H) (hD : va_D A (X ++ PL)) (hS : va_S A s.heap H locs) (hK : va_K D classes (zT cs) s) (hA : ∀ q : Nat, s.heap.size ≤ q → A q) (isC : List Nat) (hC0 : isC.map (zgt X) = cx.map some) (hnC : va_nd isC = true) (ks : List Nat) (hks : cx.map Prod.fst = ks) (hkey : ∀ u : S, (w1 u).map Prod.fst = ks)
    (hlen : As.length = n) (hsize : ls.size = nL) (hW : (rest.map fun v => v.category).sum ≤ 8) (hdg : decode cc pc = .ok (.invokestatic index, 3)) (hf : cells + mc ≤ R.cells ∧ slots + ms ≤ R.slots)
    (kk : ∀ (u : S) (H1 : Heap) (locs1 : List Loc), post u → va_P D classes (zset isC X (w1 u) ++ PL) H1 → va_S A s.heap H1 locs1 → W p l e R s m args below meth c H1 locs1 (cells + mc) (slots + ms) Q (F0 m (pc + 3) ls (rest))) :
    W p l e R s m args below meth c H locs cells slots Q (F0 m pc ls (As.reverse ++ rest)) := by
  have hC := zmp hC0
  have hPc : va_P D classes (cx ++ PL) H := hP.part isC hC
  have hDc : va_D A (cx ++ PL) := hD.part isC hnC hC
  have hFc := va_freeP hD hS hA isC hC
  refine va_callv (va_runSN (As := As) (rest := rest) S0 hM cw ⟨zPre_blind, fun U hU hW => ⟨rfl, ⟨by rw [hU], by rw [hU]; exact hPc, va_K.moved hW.alike hK, hDc.weaken (fun _ _ _ _ => trivial)⟩⟩⟩ rfl hlen hsize rfl (lv_room hW) hdg hf) hS (fun q _ h => hFc q h) hFc (fun u t H1 locs1 ht hvm hw hB hz1 hk1 hS1 => ?_)
  have hB : va_P D classes (w1 u ++ PL) t.heap ∧ va_D (va_A (cx ++ PL) H.size) (w1 u ++ PL) := hB
  rw [ht] at hB
  exact kk u H1 locs1 hw (zjP hP hD hC ((hkey u).trans hks.symm) hk1 hB.1) hS1
theorem zz_tvQ {post : S → Prop} (hM : Met l y wsY rm (va_Pc As (zPre D cs cx H.size)) (va_Qv post (fun (u : S) (t : State) => va_P D classes (w1 u) t.heap ∧ va_D (va_A cx H.size) (w1 u)) (va_A cx H.size)) mc ms (va_A cx H.size))
    (S0 : CallFix p m c cc nL s args zW own) (cw : va_CN R s args own index y host bytes maxL ret wsY rm mc ms n ∧ (Cond.static y).before args s = true ∧ True)
    (hP : va_P D classes (X ++ PL) H) (hD : va_D A (X ++ PL)) (hS : va_S A s.heap H locs) (hK : va_K D classes (zT cs) s) (hA : ∀ q : Nat, s.heap.size ≤ q → A q) (isC : List Nat) (hC0 : isC.map (zgt X) = cx.map some) (hnC : va_nd isC = true) (ks : List Nat) (hks : cx.map Prod.fst = ks) (hkey : ∀ u : S, (w1 u).map Prod.fst = ks)
    (hlen : As.length = n) (hsize : ls.size = nL) (hW : (rest.map fun v => v.category).sum ≤ 8) (hdg : decode cc pc = .ok (.invokestatic index, 3)) (hf : cells + mc ≤ R.cells ∧ slots + ms ≤ R.slots)
    (kk : ∀ (u : S) (H1 : Heap) (locs1 : List Loc), post u → va_P D classes (zset isC X (w1 u) ++ PL) H1 → va_S A s.heap H1 locs1 → W p l e R s m args below meth c H1 locs1 (cells + mc) (slots + ms) Q (F0 m (pc + 3) ls (rest))) :
    W p l e R s m args below meth c H locs cells slots Q (F0 m pc ls (As.reverse ++ rest)) := by
  have hC := zmp hC0
  have hPc : va_P D classes cx H := (zP_l hP).sub isC (zk_fm hC)
  have hDc : va_D A cx := (zD_l hD).sub isC hnC hC
  have hFc := va_free (zD_l hD) hS hA isC hC
  refine va_callv (va_runSN (As := As) (rest := rest) S0 hM cw ⟨zPre_blind, fun U hU hW => ⟨rfl, ⟨by rw [hU], by rw [hU]; exact hPc, va_K.moved hW.alike hK, hDc.weaken (fun _ _ _ _ => trivial)⟩⟩⟩ rfl hlen hsize rfl (lv_room hW) hdg hf) hS (fun q _ h => hFc q h) hFc (fun u t H1 locs1 ht hvm hw hB hz1 hk1 hS1 => ?_)
  have hB : va_P D classes (w1 u) t.heap ∧ va_D (va_A cx H.size) (w1 u) := hB
  rw [ht] at hB
  exact kk u H1 locs1 hw (zjQ hP hD hC ((hkey u).trans hks.symm) hk1 hB.1) hS1
theorem zz_tvOP {post : S → Prop} (hO : zO s) (hM : Met l y wsY rm (va_Pc As (zPreO D cs (cx ++ PL) H.size)) (va_Qv post (fun (u : S) (t : State) => va_P D classes (w1 u ++ PL) t.heap ∧ va_D (va_A (cx ++ PL) H.size) (w1 u ++ PL)) (va_A (cx ++ PL) H.size)) mc ms (va_A (cx ++ PL) H.size))
    (S0 : CallFix p m c cc nL s args zW own) (cw : va_CN R s args own index y host bytes maxL ret wsY rm mc ms n ∧ (Cond.static y).before args s = true ∧ True)
    (hP : va_P D classes (X ++ PL) H) (hD : va_D A (X ++ PL)) (hS : va_S A s.heap H locs) (hK : va_K D classes (zT cs) s) (hA : ∀ q : Nat, s.heap.size ≤ q → A q) (isC : List Nat) (hC0 : isC.map (zgt X) = cx.map some) (hnC : va_nd isC = true) (ks : List Nat) (hks : cx.map Prod.fst = ks) (hkey : ∀ u : S, (w1 u).map Prod.fst = ks)
    (hlen : As.length = n) (hsize : ls.size = nL) (hW : (rest.map fun v => v.category).sum ≤ 8) (hdg : decode cc pc = .ok (.invokestatic index, 3)) (hf : cells + mc ≤ R.cells ∧ slots + ms ≤ R.slots)
    (kk : ∀ (u : S) (H1 : Heap) (locs1 : List Loc), post u → va_P D classes (zset isC X (w1 u) ++ PL) H1 → va_S A s.heap H1 locs1 → W p l e R s m args below meth c H1 locs1 (cells + mc) (slots + ms) Q (F0 m (pc + 3) ls (rest))) :
    W p l e R s m args below meth c H locs cells slots Q (F0 m pc ls (As.reverse ++ rest)) := by
  have hC := zmp hC0
  have hPc : va_P D classes (cx ++ PL) H := hP.part isC hC
  have hDc : va_D A (cx ++ PL) := hD.part isC hnC hC
  have hFc := va_freeP hD hS hA isC hC
  refine va_callv (va_runSN (As := As) (rest := rest) S0 hM cw ⟨zPreO_blind, fun U hU hW => ⟨rfl, ⟨by rw [hU], by rw [hU]; exact hPc, va_K.moved hW.alike hK, hDc.weaken (fun _ _ _ _ => trivial)⟩, zO.warm hW hO⟩⟩ rfl hlen hsize rfl (lv_room hW) hdg hf) hS (fun q _ h => hFc q h) hFc (fun u t H1 locs1 ht hvm hw hB hz1 hk1 hS1 => ?_)
  have hB : va_P D classes (w1 u ++ PL) t.heap ∧ va_D (va_A (cx ++ PL) H.size) (w1 u ++ PL) := hB
  rw [ht] at hB
  exact kk u H1 locs1 hw (zjP hP hD hC ((hkey u).trans hks.symm) hk1 hB.1) hS1
theorem zz_tvOQ {post : S → Prop} (hO : zO s) (hM : Met l y wsY rm (va_Pc As (zPreO D cs cx H.size)) (va_Qv post (fun (u : S) (t : State) => va_P D classes (w1 u) t.heap ∧ va_D (va_A cx H.size) (w1 u)) (va_A cx H.size)) mc ms (va_A cx H.size))
    (S0 : CallFix p m c cc nL s args zW own) (cw : va_CN R s args own index y host bytes maxL ret wsY rm mc ms n ∧ (Cond.static y).before args s = true ∧ True)
    (hP : va_P D classes (X ++ PL) H) (hD : va_D A (X ++ PL)) (hS : va_S A s.heap H locs) (hK : va_K D classes (zT cs) s) (hA : ∀ q : Nat, s.heap.size ≤ q → A q) (isC : List Nat) (hC0 : isC.map (zgt X) = cx.map some) (hnC : va_nd isC = true) (ks : List Nat) (hks : cx.map Prod.fst = ks) (hkey : ∀ u : S, (w1 u).map Prod.fst = ks)
    (hlen : As.length = n) (hsize : ls.size = nL) (hW : (rest.map fun v => v.category).sum ≤ 8) (hdg : decode cc pc = .ok (.invokestatic index, 3)) (hf : cells + mc ≤ R.cells ∧ slots + ms ≤ R.slots)
    (kk : ∀ (u : S) (H1 : Heap) (locs1 : List Loc), post u → va_P D classes (zset isC X (w1 u) ++ PL) H1 → va_S A s.heap H1 locs1 → W p l e R s m args below meth c H1 locs1 (cells + mc) (slots + ms) Q (F0 m (pc + 3) ls (rest))) :
    W p l e R s m args below meth c H locs cells slots Q (F0 m pc ls (As.reverse ++ rest)) := by
  have hC := zmp hC0
  have hPc : va_P D classes cx H := (zP_l hP).sub isC (zk_fm hC)
  have hDc : va_D A cx := (zD_l hD).sub isC hnC hC
  have hFc := va_free (zD_l hD) hS hA isC hC
  refine va_callv (va_runSN (As := As) (rest := rest) S0 hM cw ⟨zPreO_blind, fun U hU hW => ⟨rfl, ⟨by rw [hU], by rw [hU]; exact hPc, va_K.moved hW.alike hK, hDc.weaken (fun _ _ _ _ => trivial)⟩, zO.warm hW hO⟩⟩ rfl hlen hsize rfl (lv_room hW) hdg hf) hS (fun q _ h => hFc q h) hFc (fun u t H1 locs1 ht hvm hw hB hz1 hk1 hS1 => ?_)
  have hB : va_P D classes (w1 u) t.heap ∧ va_D (va_A cx H.size) (w1 u) := hB
  rw [ht] at hB
  exact kk u H1 locs1 hw (zjQ hP hD hC ((hkey u).trans hks.symm) hk1 hB.1) hS1
theorem zz_tqP {post : Option Nat → S → Prop} (hM : Met l y wsY rm (va_Pc As (zPre D cs (cx ++ PL) H.size)) (va_Qq post (fun (u : S) (t : State) => va_P D classes (w1 u ++ PL) t.heap ∧ va_D (va_A (cx ++ PL) H.size) (w1 u ++ PL)) (va_A (cx ++ PL) H.size)) mc ms (va_A (cx ++ PL) H.size))
    (S0 : CallFix p m c cc nL s args zW own) (cw : va_CN R s args own index y host bytes maxL ret wsY rm mc ms n ∧ (Cond.static y).before args s = true ∧ True)
    (hP : va_P D classes (X ++ PL) H) (hD : va_D A (X ++ PL)) (hS : va_S A s.heap H locs) (hK : va_K D classes (zT cs) s) (hA : ∀ q : Nat, s.heap.size ≤ q → A q) (isC : List Nat) (hC0 : isC.map (zgt X) = cx.map some) (hnC : va_nd isC = true) (ks : List Nat) (hks : cx.map Prod.fst = ks) (hkey : ∀ u : S, (w1 u).map Prod.fst = ks)
    (hlen : As.length = n) (hsize : ls.size = nL) (hW : (rest.map fun v => v.category).sum ≤ 8) (hdg : decode cc pc = .ok (.invokestatic index, 3)) (hf : cells + mc ≤ R.cells ∧ slots + ms ≤ R.slots)
    (kk : ∀ (r : Option Nat) (u : S) (H1 : Heap) (locs1 : List Loc), post r u → va_P D classes (zset isC X (w1 u) ++ PL) H1 → va_S A s.heap H1 locs1 → W p l e R s m args below meth c H1 locs1 (cells + mc) (slots + ms) Q (F0 m (pc + 3) ls (va_rf r :: rest))) :
    W p l e R s m args below meth c H locs cells slots Q (F0 m pc ls (As.reverse ++ rest)) := by
  have hC := zmp hC0
  have hPc : va_P D classes (cx ++ PL) H := hP.part isC hC
  have hDc : va_D A (cx ++ PL) := hD.part isC hnC hC
  have hFc := va_freeP hD hS hA isC hC
  refine va_callq (va_runSN (As := As) (rest := rest) S0 hM cw ⟨zPre_blind, fun U hU hW => ⟨rfl, ⟨by rw [hU], by rw [hU]; exact hPc, va_K.moved hW.alike hK, hDc.weaken (fun _ _ _ _ => trivial)⟩⟩⟩ rfl hlen hsize rfl (lv_room hW) hdg hf) hS (fun q _ h => hFc q h) hFc (fun r u t H1 locs1 ht hvm hw hB hz1 hk1 hS1 => ?_)
  have hB : va_P D classes (w1 u ++ PL) t.heap ∧ va_D (va_A (cx ++ PL) H.size) (w1 u ++ PL) := hB
  rw [ht] at hB
  exact kk r u H1 locs1 hw (zjP hP hD hC ((hkey u).trans hks.symm) hk1 hB.1) hS1
theorem zz_tqQ {post : Option Nat → S → Prop} (hM : Met l y wsY rm (va_Pc As (zPre D cs cx H.size)) (va_Qq post (fun (u : S) (t : State) => va_P D classes (w1 u) t.heap ∧ va_D (va_A cx H.size) (w1 u)) (va_A cx H.size)) mc ms (va_A cx H.size))
    (S0 : CallFix p m c cc nL s args zW own) (cw : va_CN R s args own index y host bytes maxL ret wsY rm mc ms n ∧ (Cond.static y).before args s = true ∧ True)
    (hP : va_P D classes (X ++ PL) H) (hD : va_D A (X ++ PL)) (hS : va_S A s.heap H locs) (hK : va_K D classes (zT cs) s) (hA : ∀ q : Nat, s.heap.size ≤ q → A q) (isC : List Nat) (hC0 : isC.map (zgt X) = cx.map some) (hnC : va_nd isC = true) (ks : List Nat) (hks : cx.map Prod.fst = ks) (hkey : ∀ u : S, (w1 u).map Prod.fst = ks)
    (hlen : As.length = n) (hsize : ls.size = nL) (hW : (rest.map fun v => v.category).sum ≤ 8) (hdg : decode cc pc = .ok (.invokestatic index, 3)) (hf : cells + mc ≤ R.cells ∧ slots + ms ≤ R.slots)
    (kk : ∀ (r : Option Nat) (u : S) (H1 : Heap) (locs1 : List Loc), post r u → va_P D classes (zset isC X (w1 u) ++ PL) H1 → va_S A s.heap H1 locs1 → W p l e R s m args below meth c H1 locs1 (cells + mc) (slots + ms) Q (F0 m (pc + 3) ls (va_rf r :: rest))) :
    W p l e R s m args below meth c H locs cells slots Q (F0 m pc ls (As.reverse ++ rest)) := by
  have hC := zmp hC0
  have hPc : va_P D classes cx H := (zP_l hP).sub isC (zk_fm hC)
  have hDc : va_D A cx := (zD_l hD).sub isC hnC hC
  have hFc := va_free (zD_l hD) hS hA isC hC
  refine va_callq (va_runSN (As := As) (rest := rest) S0 hM cw ⟨zPre_blind, fun U hU hW => ⟨rfl, ⟨by rw [hU], by rw [hU]; exact hPc, va_K.moved hW.alike hK, hDc.weaken (fun _ _ _ _ => trivial)⟩⟩⟩ rfl hlen hsize rfl (lv_room hW) hdg hf) hS (fun q _ h => hFc q h) hFc (fun r u t H1 locs1 ht hvm hw hB hz1 hk1 hS1 => ?_)
  have hB : va_P D classes (w1 u) t.heap ∧ va_D (va_A cx H.size) (w1 u) := hB
  rw [ht] at hB
  exact kk r u H1 locs1 hw (zjQ hP hD hC ((hkey u).trans hks.symm) hk1 hB.1) hS1
theorem zz_tqOP {post : Option Nat → S → Prop} (hO : zO s) (hM : Met l y wsY rm (va_Pc As (zPreO D cs (cx ++ PL) H.size)) (va_Qq post (fun (u : S) (t : State) => va_P D classes (w1 u ++ PL) t.heap ∧ va_D (va_A (cx ++ PL) H.size) (w1 u ++ PL)) (va_A (cx ++ PL) H.size)) mc ms (va_A (cx ++ PL) H.size))
    (S0 : CallFix p m c cc nL s args zW own) (cw : va_CN R s args own index y host bytes maxL ret wsY rm mc ms n ∧ (Cond.static y).before args s = true ∧ True)
    (hP : va_P D classes (X ++ PL) H) (hD : va_D A (X ++ PL)) (hS : va_S A s.heap H locs) (hK : va_K D classes (zT cs) s) (hA : ∀ q : Nat, s.heap.size ≤ q → A q) (isC : List Nat) (hC0 : isC.map (zgt X) = cx.map some) (hnC : va_nd isC = true) (ks : List Nat) (hks : cx.map Prod.fst = ks) (hkey : ∀ u : S, (w1 u).map Prod.fst = ks)
    (hlen : As.length = n) (hsize : ls.size = nL) (hW : (rest.map fun v => v.category).sum ≤ 8) (hdg : decode cc pc = .ok (.invokestatic index, 3)) (hf : cells + mc ≤ R.cells ∧ slots + ms ≤ R.slots)
    (kk : ∀ (r : Option Nat) (u : S) (H1 : Heap) (locs1 : List Loc), post r u → va_P D classes (zset isC X (w1 u) ++ PL) H1 → va_S A s.heap H1 locs1 → W p l e R s m args below meth c H1 locs1 (cells + mc) (slots + ms) Q (F0 m (pc + 3) ls (va_rf r :: rest))) :
    W p l e R s m args below meth c H locs cells slots Q (F0 m pc ls (As.reverse ++ rest)) := by
  have hC := zmp hC0
  have hPc : va_P D classes (cx ++ PL) H := hP.part isC hC
  have hDc : va_D A (cx ++ PL) := hD.part isC hnC hC
  have hFc := va_freeP hD hS hA isC hC
  refine va_callq (va_runSN (As := As) (rest := rest) S0 hM cw ⟨zPreO_blind, fun U hU hW => ⟨rfl, ⟨by rw [hU], by rw [hU]; exact hPc, va_K.moved hW.alike hK, hDc.weaken (fun _ _ _ _ => trivial)⟩, zO.warm hW hO⟩⟩ rfl hlen hsize rfl (lv_room hW) hdg hf) hS (fun q _ h => hFc q h) hFc (fun r u t H1 locs1 ht hvm hw hB hz1 hk1 hS1 => ?_)
  have hB : va_P D classes (w1 u ++ PL) t.heap ∧ va_D (va_A (cx ++ PL) H.size) (w1 u ++ PL) := hB
  rw [ht] at hB
  exact kk r u H1 locs1 hw (zjP hP hD hC ((hkey u).trans hks.symm) hk1 hB.1) hS1
theorem zz_tqOQ {post : Option Nat → S → Prop} (hO : zO s) (hM : Met l y wsY rm (va_Pc As (zPreO D cs cx H.size)) (va_Qq post (fun (u : S) (t : State) => va_P D classes (w1 u) t.heap ∧ va_D (va_A cx H.size) (w1 u)) (va_A cx H.size)) mc ms (va_A cx H.size))
    (S0 : CallFix p m c cc nL s args zW own) (cw : va_CN R s args own index y host bytes maxL ret wsY rm mc ms n ∧ (Cond.static y).before args s = true ∧ True)
    (hP : va_P D classes (X ++ PL) H) (hD : va_D A (X ++ PL)) (hS : va_S A s.heap H locs) (hK : va_K D classes (zT cs) s) (hA : ∀ q : Nat, s.heap.size ≤ q → A q) (isC : List Nat) (hC0 : isC.map (zgt X) = cx.map some) (hnC : va_nd isC = true) (ks : List Nat) (hks : cx.map Prod.fst = ks) (hkey : ∀ u : S, (w1 u).map Prod.fst = ks)
    (hlen : As.length = n) (hsize : ls.size = nL) (hW : (rest.map fun v => v.category).sum ≤ 8) (hdg : decode cc pc = .ok (.invokestatic index, 3)) (hf : cells + mc ≤ R.cells ∧ slots + ms ≤ R.slots)
    (kk : ∀ (r : Option Nat) (u : S) (H1 : Heap) (locs1 : List Loc), post r u → va_P D classes (zset isC X (w1 u) ++ PL) H1 → va_S A s.heap H1 locs1 → W p l e R s m args below meth c H1 locs1 (cells + mc) (slots + ms) Q (F0 m (pc + 3) ls (va_rf r :: rest))) :
    W p l e R s m args below meth c H locs cells slots Q (F0 m pc ls (As.reverse ++ rest)) := by
  have hC := zmp hC0
  have hPc : va_P D classes cx H := (zP_l hP).sub isC (zk_fm hC)
  have hDc : va_D A cx := (zD_l hD).sub isC hnC hC
  have hFc := va_free (zD_l hD) hS hA isC hC
  refine va_callq (va_runSN (As := As) (rest := rest) S0 hM cw ⟨zPreO_blind, fun U hU hW => ⟨rfl, ⟨by rw [hU], by rw [hU]; exact hPc, va_K.moved hW.alike hK, hDc.weaken (fun _ _ _ _ => trivial)⟩, zO.warm hW hO⟩⟩ rfl hlen hsize rfl (lv_room hW) hdg hf) hS (fun q _ h => hFc q h) hFc (fun r u t H1 locs1 ht hvm hw hB hz1 hk1 hS1 => ?_)
  have hB : va_P D classes (w1 u) t.heap ∧ va_D (va_A cx H.size) (w1 u) := hB
  rw [ht] at hB
  exact kk r u H1 locs1 hw (zjQ hP hD hC ((hkey u).trans hks.symm) hk1 hB.1) hS1
end ZZP
theorem zs_lt2 {i c : Int32} (h : ¬ (i < 0 ∨ c ≤ i)) : i.toNatClampNeg < c.toInt.toNat := by
  have h1 : ¬ i.toInt < (0 : Int32).toInt := fun z => h (Or.inl (Int32.lt_iff_toInt_lt.mpr z))
  have h2 : ¬ c.toInt ≤ i.toInt := fun z => h (Or.inr (Int32.le_iff_toInt_le.mpr z))
  have e : (0 : Int32).toInt = 0 := by decide
  show i.toInt.toNat < c.toInt.toNat
  omega
theorem zs_lt3 {i : Int32} (h : ¬ (i < 0 ∨ (32 : Int32) ≤ i)) : i.toNatClampNeg < 32 := by
  have h2 := zs_lt2 h
  have e : (32 : Int32).toInt.toNat = 32 := by decide
  rw [e] at h2
  exact h2
def PSu (cs : Nat → ClassId) (PL : va_W) (n : Int32) (suits : Nat → Option Nat) (S_a S_b : Nat → Nat) (S_who : Nat → Int32) (S_against : Nat → Int32) (S_kind : Nat → Int32) (S_won : Nat → Int32) (S_day : Nat → Int32) (S_land : Nat → Int32) (S_undoneFrom : Nat → Int32) (S_asked : Nat → Nat → Int32) (S_askedCount : Nat → Int32) (S_askedBits : Nat → Int32) (S_first : Nat → Int32) (S_foundSo : Nat → Int32) (S_foundNot : Nat → Int32) (S_fought : Nat → Int32) (S_needed : Nat → Int32) : Prop := ∀ i, i < n.toInt.toNat → suits i = some (S_a i) ∧ (∃ j : Nat, PL[j]? = some (S_a i, .inr (7, [.int (S_who i), .int (S_against i), .int (S_kind i), .int (S_won i), .int (S_day i), .int (S_land i), .int (S_undoneFrom i), .ref (S_b i), .int (S_askedCount i), .int (S_askedBits i), .int (S_first i), .int (S_foundSo i), .int (S_foundNot i), .int (S_fought i), .int (S_needed i)]))) ∧ ∃ j : Nat, PL[j]? = some (S_b i, .inl (cs 0, 32, .inl (S_asked i)))
def PLa (cs : Nat → ClassId) (PL : va_W) (laws : Nat → Option Nat) (L_a L_b : Nat → Nat) (L_n : Nat → Nat) (L_code : Nat → Nat → Int32) : Prop := ∀ i, i < 32 → laws i = some (L_a i) ∧ (∃ j : Nat, PL[j]? = some (L_a i, .inr (4, [.ref (L_b i)]))) ∧ ∃ j : Nat, PL[j]? = some (L_b i, .inl (cs 0, L_n i, .inl (L_code i)))
theorem zs_app {Z PL : va_W} {q : Nat × va_E} (h : ∃ j : Nat, PL[j]? = some q) : ∃ j : Nat, (Z ++ PL)[j]? = some q := by
  obtain ⟨j, h⟩ := h
  exact ⟨Z.length + j, zPm h rfl⟩
theorem PLa_app {cs : Nat → ClassId} {Z PL : va_W} {laws : Nat → Option Nat} {L_a L_b L_n : Nat → Nat} {L_code : Nat → Nat → Int32} (h : PLa cs PL laws L_a L_b L_n L_code) : PLa cs (Z ++ PL) laws L_a L_b L_n L_code := fun i hi => ⟨(h i hi).1, zs_app (h i hi).2.1, zs_app (h i hi).2.2⟩
theorem PLa_app2 {cs : Nat → ClassId} {Z PL : va_W} {laws : Nat → Option Nat} {L_a L_b L_n : Nat → Nat} {L_code : Nat → Nat → Int32} (h : PLa cs PL laws L_a L_b L_n L_code) : PLa cs (Z ++ PL) laws L_a L_b L_n L_code := PLa_app h
/-- the pool of suits: an object and a row of claims asked each -/
def zSG (S_a S_b : Nat → Nat) (o a : Nat → va_E) : Nat → va_W
  | 0 => []
  | n + 1 => zSG S_a S_b o a n ++ [(S_a n, o n), (S_b n, a n)]
theorem zSG_len {S_a S_b : Nat → Nat} {o a : Nat → va_E} : ∀ n, (zSG S_a S_b o a n).length = 2 * n
  | 0 => rfl
  | n + 1 => by
    show (zSG S_a S_b o a n ++ [_, _]).length = _
    rw [List.length_append, zSG_len n]
    rfl
theorem zSG_at {S_a S_b : Nat → Nat} {o a : Nat → va_E} : ∀ n i, i < n → (zSG S_a S_b o a n)[2 * i]? = some (S_a i, o i) ∧ (zSG S_a S_b o a n)[2 * i + 1]? = some (S_b i, a i)
  | 0, i, h => absurd h (Nat.not_lt_zero i)
  | n + 1, i, h => by
    show (zSG S_a S_b o a n ++ [_, _])[2 * i]? = _ ∧ (zSG S_a S_b o a n ++ [_, _])[2 * i + 1]? = _
    by_cases c : i < n
    · rw [List.getElem?_append_left (by rw [zSG_len]; omega), List.getElem?_append_left (by rw [zSG_len]; omega)]
      exact zSG_at n i c
    · have e : i = n := by omega
      subst e
      rw [List.getElem?_append_right (by rw [zSG_len]; omega), List.getElem?_append_right (by rw [zSG_len]; omega), zSG_len]
      rw [Nat.sub_self, Nat.add_sub_cancel_left]
      exact ⟨rfl, rfl⟩
theorem zSG_congr {S_a S_b : Nat → Nat} {o a o' a' : Nat → va_E} : ∀ n, (∀ i, i < n → o i = o' i ∧ a i = a' i) → zSG S_a S_b o a n = zSG S_a S_b o' a' n
  | 0, _ => rfl
  | n + 1, h => by
    show zSG S_a S_b o a n ++ [_, _] = zSG S_a S_b o' a' n ++ [_, _]
    rw [zSG_congr n (fun i hi => h i (by omega)), (h n (by omega)).1, (h n (by omega)).2]
theorem zSG_set {S_a S_b : Nat → Nat} {o o' a : Nat → va_E} : ∀ n i, i < n → (∀ k, ¬ k = i → o' k = o k) → (zSG S_a S_b o a n).set (2 * i) (S_a i, o' i) = zSG S_a S_b o' a n
  | 0, i, h, _ => absurd h (Nat.not_lt_zero i)
  | n + 1, i, h, hk => by
    show (zSG S_a S_b o a n ++ [_, _]).set (2 * i) _ = zSG S_a S_b o' a n ++ [_, _]
    by_cases c : i < n
    · rw [List.set_append_left _ _ (by rw [zSG_len]; omega), zSG_set n i c hk, hk n (by omega)]
    · have e : i = n := by omega
      subst e
      rw [List.set_append_right _ _ (by rw [zSG_len]; omega), zSG_len, Nat.sub_self, zSG_congr i (o := o) (o' := o') (fun k q => ⟨(hk k (by omega)).symm, rfl⟩)]
      rfl
def zSu (cs : Nat → ClassId) (S_a S_b : Nat → Nat) (n : Nat) (S_who : Nat → Int32) (S_against : Nat → Int32) (S_kind : Nat → Int32) (S_won : Nat → Int32) (S_day : Nat → Int32) (S_land : Nat → Int32) (S_undoneFrom : Nat → Int32) (S_asked : Nat → Nat → Int32) (S_askedCount : Nat → Int32) (S_askedBits : Nat → Int32) (S_first : Nat → Int32) (S_foundSo : Nat → Int32) (S_foundNot : Nat → Int32) (S_fought : Nat → Int32) (S_needed : Nat → Int32) : va_W := zSG S_a S_b (fun i => .inr (7, [.int (S_who i), .int (S_against i), .int (S_kind i), .int (S_won i), .int (S_day i), .int (S_land i), .int (S_undoneFrom i), .ref (S_b i), .int (S_askedCount i), .int (S_askedBits i), .int (S_first i), .int (S_foundSo i), .int (S_foundNot i), .int (S_fought i), .int (S_needed i)])) (fun i => .inl (cs 0, 32, .inl (S_asked i))) n
theorem zSu_ok {cs : Nat → ClassId} {LP : va_W} {n : Int32} {suits : Nat → Option Nat} {S_a S_b : Nat → Nat} {S_who : Nat → Int32} {S_against : Nat → Int32} {S_kind : Nat → Int32} {S_won : Nat → Int32} {S_day : Nat → Int32} {S_land : Nat → Int32} {S_undoneFrom : Nat → Int32} {S_asked : Nat → Nat → Int32} {S_askedCount : Nat → Int32} {S_askedBits : Nat → Int32} {S_first : Nat → Int32} {S_foundSo : Nat → Int32} {S_foundNot : Nat → Int32} {S_fought : Nat → Int32} {S_needed : Nat → Int32} (h : ∀ i, i < n.toInt.toNat → suits i = some (S_a i)) : PSu cs (zSu cs S_a S_b n.toInt.toNat S_who S_against S_kind S_won S_day S_land S_undoneFrom S_asked S_askedCount S_askedBits S_first S_foundSo S_foundNot S_fought S_needed ++ LP) n suits S_a S_b S_who S_against S_kind S_won S_day S_land S_undoneFrom S_asked S_askedCount S_askedBits S_first S_foundSo S_foundNot S_fought S_needed := fun i hi => by
  have hl : 2 * i + 1 < (zSu cs S_a S_b n.toInt.toNat S_who S_against S_kind S_won S_day S_land S_undoneFrom S_asked S_askedCount S_askedBits S_first S_foundSo S_foundNot S_fought S_needed).length := by unfold zSu; rw [zSG_len]; omega
  have h2 := zSG_at (S_a := S_a) (S_b := S_b) (o := fun i => .inr (7, [.int (S_who i), .int (S_against i), .int (S_kind i), .int (S_won i), .int (S_day i), .int (S_land i), .int (S_undoneFrom i), .ref (S_b i), .int (S_askedCount i), .int (S_askedBits i), .int (S_first i), .int (S_foundSo i), .int (S_foundNot i), .int (S_fought i), .int (S_needed i)])) (a := fun i => .inl (cs 0, 32, .inl (S_asked i))) n.toInt.toNat i hi
  exact ⟨h i hi, ⟨2 * i, by rw [List.getElem?_append_left (by omega)]; exact h2.1⟩, ⟨2 * i + 1, by rw [List.getElem?_append_left hl]; exact h2.2⟩⟩
theorem zSu_at {cs : Nat → ClassId} {X LP : va_W} {n nx : Nat} {S_a S_b : Nat → Nat} {S_who : Nat → Int32} {S_against : Nat → Int32} {S_kind : Nat → Int32} {S_won : Nat → Int32} {S_day : Nat → Int32} {S_land : Nat → Int32} {S_undoneFrom : Nat → Int32} {S_asked : Nat → Nat → Int32} {S_askedCount : Nat → Int32} {S_askedBits : Nat → Int32} {S_first : Nat → Int32} {S_foundSo : Nat → Int32} {S_foundNot : Nat → Int32} {S_fought : Nat → Int32} {S_needed : Nat → Int32} {i : Nat} (hX : X.length = nx) (hi : i < n) : (X ++ (zSu cs S_a S_b n S_who S_against S_kind S_won S_day S_land S_undoneFrom S_asked S_askedCount S_askedBits S_first S_foundSo S_foundNot S_fought S_needed ++ LP))[nx + 2 * i]? = some (S_a i, .inr (7, [.int (S_who i), .int (S_against i), .int (S_kind i), .int (S_won i), .int (S_day i), .int (S_land i), .int (S_undoneFrom i), .ref (S_b i), .int (S_askedCount i), .int (S_askedBits i), .int (S_first i), .int (S_foundSo i), .int (S_foundNot i), .int (S_fought i), .int (S_needed i)])) := by
  have hl : 2 * i < (zSu cs S_a S_b n S_who S_against S_kind S_won S_day S_land S_undoneFrom S_asked S_askedCount S_askedBits S_first S_foundSo S_foundNot S_fought S_needed).length := by unfold zSu; rw [zSG_len]; omega
  refine zPm ?_ hX
  rw [List.getElem?_append_left hl]
  exact (zSG_at (S_a := S_a) (S_b := S_b) (o := fun i => .inr (7, [.int (S_who i), .int (S_against i), .int (S_kind i), .int (S_won i), .int (S_day i), .int (S_land i), .int (S_undoneFrom i), .ref (S_b i), .int (S_askedCount i), .int (S_askedBits i), .int (S_first i), .int (S_foundSo i), .int (S_foundNot i), .int (S_fought i), .int (S_needed i)])) (a := fun i => .inl (cs 0, 32, .inl (S_asked i))) n i hi).1
theorem zSu_won {cs : Nat → ClassId} {X LP : va_W} {n nx : Nat} {S_a S_b : Nat → Nat} {S_who : Nat → Int32} {S_against : Nat → Int32} {S_kind : Nat → Int32} {S_won : Nat → Int32} {S_day : Nat → Int32} {S_land : Nat → Int32} {S_undoneFrom : Nat → Int32} {S_asked : Nat → Nat → Int32} {S_askedCount : Nat → Int32} {S_askedBits : Nat → Int32} {S_first : Nat → Int32} {S_foundSo : Nat → Int32} {S_foundNot : Nat → Int32} {S_fought : Nat → Int32} {S_needed : Nat → Int32} {i : Nat} {v : Int32} (hX : X.length = nx) (hi : i < n) : (X ++ (zSu cs S_a S_b n S_who S_against S_kind S_won S_day S_land S_undoneFrom S_asked S_askedCount S_askedBits S_first S_foundSo S_foundNot S_fought S_needed ++ LP)).set (nx + 2 * i) (S_a i, .inr (7, [.int (S_who i), .int (S_against i), .int (S_kind i), .int (S_won i), .int (S_day i), .int (S_land i), .int (S_undoneFrom i), .ref (S_b i), .int (S_askedCount i), .int (S_askedBits i), .int (S_first i), .int (S_foundSo i), .int (S_foundNot i), .int (S_fought i), .int (S_needed i)].set 3 (.int v))) = X ++ (zSu cs S_a S_b n S_who S_against S_kind (upd S_won i v) S_day S_land S_undoneFrom S_asked S_askedCount S_askedBits S_first S_foundSo S_foundNot S_fought S_needed ++ LP) := by
  have hl : 2 * i < (zSu cs S_a S_b n S_who S_against S_kind S_won S_day S_land S_undoneFrom S_asked S_askedCount S_askedBits S_first S_foundSo S_foundNot S_fought S_needed).length := by unfold zSu; rw [zSG_len]; omega
  rw [List.set_append_right _ _ (by omega), ← hX, Nat.add_sub_cancel_left, List.set_append_left _ _ hl]
  congr 2
  have e : ∀ z w : Nat, (upd S_won i v) i = v := fun _ _ => by unfold upd; rw [if_pos rfl]
  have key := zSG_set (S_a := S_a) (S_b := S_b) (o := fun i => .inr (7, [.int (S_who i), .int (S_against i), .int (S_kind i), .int (S_won i), .int (S_day i), .int (S_land i), .int (S_undoneFrom i), .ref (S_b i), .int (S_askedCount i), .int (S_askedBits i), .int (S_first i), .int (S_foundSo i), .int (S_foundNot i), .int (S_fought i), .int (S_needed i)])) (o' := fun k => (fun (S_won : Nat → Int32) (i : Nat) => (.inr (7, [.int (S_who i), .int (S_against i), .int (S_kind i), .int (S_won i), .int (S_day i), .int (S_land i), .int (S_undoneFrom i), .ref (S_b i), .int (S_askedCount i), .int (S_askedBits i), .int (S_first i), .int (S_foundSo i), .int (S_foundNot i), .int (S_fought i), .int (S_needed i)]) : va_E)) (upd S_won i v) k) (a := fun i => .inl (cs 0, 32, .inl (S_asked i))) n i hi (fun k hk => by
    show (.inr (7, [.int (S_who k), .int (S_against k), .int (S_kind k), .int (upd S_won i v k), .int (S_day k), .int (S_land k), .int (S_undoneFrom k), .ref (S_b k), .int (S_askedCount k), .int (S_askedBits k), .int (S_first k), .int (S_foundSo k), .int (S_foundNot k), .int (S_fought k), .int (S_needed k)]) : va_E) = _
    unfold upd
    rw [if_neg hk])
  unfold zSu
  refine Eq.trans ?_ key
  show _ = (zSG S_a S_b _ _ n).set (2 * i) (S_a i, .inr (7, [.int (S_who i), .int (S_against i), .int (S_kind i), .int (upd S_won i v i), .int (S_day i), .int (S_land i), .int (S_undoneFrom i), .ref (S_b i), .int (S_askedCount i), .int (S_askedBits i), .int (S_first i), .int (S_foundSo i), .int (S_foundNot i), .int (S_fought i), .int (S_needed i)]))
  rw [e 0 0]
  rfl
theorem zSu_undoneFrom {cs : Nat → ClassId} {X LP : va_W} {n nx : Nat} {S_a S_b : Nat → Nat} {S_who : Nat → Int32} {S_against : Nat → Int32} {S_kind : Nat → Int32} {S_won : Nat → Int32} {S_day : Nat → Int32} {S_land : Nat → Int32} {S_undoneFrom : Nat → Int32} {S_asked : Nat → Nat → Int32} {S_askedCount : Nat → Int32} {S_askedBits : Nat → Int32} {S_first : Nat → Int32} {S_foundSo : Nat → Int32} {S_foundNot : Nat → Int32} {S_fought : Nat → Int32} {S_needed : Nat → Int32} {i : Nat} {v : Int32} (hX : X.length = nx) (hi : i < n) : (X ++ (zSu cs S_a S_b n S_who S_against S_kind S_won S_day S_land S_undoneFrom S_asked S_askedCount S_askedBits S_first S_foundSo S_foundNot S_fought S_needed ++ LP)).set (nx + 2 * i) (S_a i, .inr (7, [.int (S_who i), .int (S_against i), .int (S_kind i), .int (S_won i), .int (S_day i), .int (S_land i), .int (S_undoneFrom i), .ref (S_b i), .int (S_askedCount i), .int (S_askedBits i), .int (S_first i), .int (S_foundSo i), .int (S_foundNot i), .int (S_fought i), .int (S_needed i)].set 6 (.int v))) = X ++ (zSu cs S_a S_b n S_who S_against S_kind S_won S_day S_land (upd S_undoneFrom i v) S_asked S_askedCount S_askedBits S_first S_foundSo S_foundNot S_fought S_needed ++ LP) := by
  have hl : 2 * i < (zSu cs S_a S_b n S_who S_against S_kind S_won S_day S_land S_undoneFrom S_asked S_askedCount S_askedBits S_first S_foundSo S_foundNot S_fought S_needed).length := by unfold zSu; rw [zSG_len]; omega
  rw [List.set_append_right _ _ (by omega), ← hX, Nat.add_sub_cancel_left, List.set_append_left _ _ hl]
  congr 2
  have e : ∀ z w : Nat, (upd S_undoneFrom i v) i = v := fun _ _ => by unfold upd; rw [if_pos rfl]
  have key := zSG_set (S_a := S_a) (S_b := S_b) (o := fun i => .inr (7, [.int (S_who i), .int (S_against i), .int (S_kind i), .int (S_won i), .int (S_day i), .int (S_land i), .int (S_undoneFrom i), .ref (S_b i), .int (S_askedCount i), .int (S_askedBits i), .int (S_first i), .int (S_foundSo i), .int (S_foundNot i), .int (S_fought i), .int (S_needed i)])) (o' := fun k => (fun (S_undoneFrom : Nat → Int32) (i : Nat) => (.inr (7, [.int (S_who i), .int (S_against i), .int (S_kind i), .int (S_won i), .int (S_day i), .int (S_land i), .int (S_undoneFrom i), .ref (S_b i), .int (S_askedCount i), .int (S_askedBits i), .int (S_first i), .int (S_foundSo i), .int (S_foundNot i), .int (S_fought i), .int (S_needed i)]) : va_E)) (upd S_undoneFrom i v) k) (a := fun i => .inl (cs 0, 32, .inl (S_asked i))) n i hi (fun k hk => by
    show (.inr (7, [.int (S_who k), .int (S_against k), .int (S_kind k), .int (S_won k), .int (S_day k), .int (S_land k), .int (upd S_undoneFrom i v k), .ref (S_b k), .int (S_askedCount k), .int (S_askedBits k), .int (S_first k), .int (S_foundSo k), .int (S_foundNot k), .int (S_fought k), .int (S_needed k)]) : va_E) = _
    unfold upd
    rw [if_neg hk])
  unfold zSu
  refine Eq.trans ?_ key
  show _ = (zSG S_a S_b _ _ n).set (2 * i) (S_a i, .inr (7, [.int (S_who i), .int (S_against i), .int (S_kind i), .int (S_won i), .int (S_day i), .int (S_land i), .int (upd S_undoneFrom i v i), .ref (S_b i), .int (S_askedCount i), .int (S_askedBits i), .int (S_first i), .int (S_foundSo i), .int (S_foundNot i), .int (S_fought i), .int (S_needed i)]))
  rw [e 0 0]
  rfl

