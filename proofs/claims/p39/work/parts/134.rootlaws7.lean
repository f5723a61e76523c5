theorem kw_474 : Cond.methodLink RX11 82 yX11_usualLaw ∈ zW := zwC (i := 160) zc_2 rfl rfl
theorem kw_475 : Cond.static yX11_usualLaw ∈ zW := zwC (i := 161) zc_2 rfl rfl
theorem kw_476 : Cond.code yX11_usualLaw cX11_usualLaw 1 (some (.object "java/lang/String")) ∈ zW := zwC (i := 162) zc_2 rfl rfl
theorem kw_481 : Cond.methodLink RX11 86 yX9_write ∈ zW := zwC (i := 167) zc_2 rfl rfl
theorem kw_482 : Cond.instanceMethod yX9_write ∈ zW := zwC (i := 168) zc_2 rfl rfl
theorem kw_483 : Cond.selects RX9 yX9_write yX9_write ∈ zW := zwC (i := 169) zc_2 rfl rfl
theorem kw_484 : Cond.code yX9_write cX9_write 3 none ∈ zW := zwC (i := 170) zc_2 rfl rfl
theorem zh_cX11_usualLaw_0 : zck [26, 170, 0, 0, 0, 0, 0, 39, 0, 0, 0, 0, 0, 0, 0, 2, 0, 0, 0, 27, 0, 0] (zdu 0 cX11_usualLaw.data.toList) = true := by decide +kernel
theorem dX11_usualLaw_0 : decode cX11_usualLaw 0 = .ok (.iload_n 0, 1) := zo_26 zh_cX11_usualLaw_0 0 rfl
theorem dX11_usualLaw_1 : decode cX11_usualLaw 1 = .ok (.tableswitch 39 0 2 #[27, 31, 35], 27) := by decide +kernel
theorem zh_cX11_usualLaw_1 : zck [0, 0, 0, 31, 0, 0, 0, 35, 19, 1, 137, 176, 19, 1, 139, 176, 19, 1, 141, 176, 19, 1] (zdu 20 cX11_usualLaw.data.toList) = true := by decide +kernel
theorem dX11_usualLaw_28 : decode cX11_usualLaw 28 = .ok (.ldc_w 393, 3) := zo_19 zh_cX11_usualLaw_1 8 rfl
theorem dX11_usualLaw_31 : decode cX11_usualLaw 31 = .ok (.areturn, 1) := zo_176 zh_cX11_usualLaw_1 11 rfl
theorem dX11_usualLaw_32 : decode cX11_usualLaw 32 = .ok (.ldc_w 395, 3) := zo_19 zh_cX11_usualLaw_1 12 rfl
theorem dX11_usualLaw_35 : decode cX11_usualLaw 35 = .ok (.areturn, 1) := zo_176 zh_cX11_usualLaw_1 15 rfl
theorem dX11_usualLaw_36 : decode cX11_usualLaw 36 = .ok (.ldc_w 397, 3) := zo_19 zh_cX11_usualLaw_1 16 rfl
theorem dX11_usualLaw_39 : decode cX11_usualLaw 39 = .ok (.areturn, 1) := zo_176 zh_cX11_usualLaw_1 19 rfl
theorem zh_cX11_usualLaw_2 : zck [19, 1, 143, 176] (zdu 40 cX11_usualLaw.data.toList) = true := by decide +kernel
theorem dX11_usualLaw_40 : decode cX11_usualLaw 40 = .ok (.ldc_w 399, 3) := zo_19 zh_cX11_usualLaw_2 0 rfl
theorem dX11_usualLaw_43 : decode cX11_usualLaw 43 = .ok (.areturn, 1) := zo_176 zh_cX11_usualLaw_2 3 rfl
section ZKR
variable {p : Program} {l : Launch} {e : Env} {R : Room} {s : State} {m : MethodId} {args : Array Value} {below : List Frame} {meth : Method} {c : Code} {H : Heap} {locs : List Loc} {cells slots : Nat} {Q : State → Prop} {ls : Array Slot} {pc : Nat}
variable {A : Nat → Prop} {D : va_G} {cs : Nat → ClassId} {ws wc : va_W} {S : Type} {w2 : S → Nat → va_W} {y : MethodName} {wsY : List Cond} {rm : Room} {C own host : String} {index maxL mc ms n nL : Nat} {bytes cc : ByteArray} {ret : Option FieldType} {b : Nat} {As rest : List Value} {k : (Nat → Nat) × (Nat → Nat)}
theorem zk_srE {post : S → Prop} {B0 : S → Nat → Prop} (hE : zE k A s) (hO : zO s) (hM : Met l y wsY rm (va_Pc As (zPreE k D cs wc H.size)) (va_Qr post (fun (u : S) (a : Nat) (t : State) => B0 u a ∧ va_P D classes (w2 u a) t.heap ∧ va_D (va_A wc H.size) (w2 u a)) (va_A wc H.size)) mc ms (va_A wc H.size))
    (S0 : CallFix p m c cc nL s args zW own) (cw : CallB R s args own index y bytes maxL ret wsY rm mc ms n ∧ (Cond.static y).before args s = true)
    (hP : va_P D classes ws H) (hD : va_D A ws) (hS : va_S A s.heap H locs) (hK : va_K D classes (zT cs) s) (hA : ∀ q : Nat, s.heap.size ≤ q → A q) (isC isR : List Nat) (hC : isC.map (fun i => ws[i]?) = wc.map some) (hnC : va_nd isC = true) (hR : isR.map (fun i => ws[i]?) = (isR.filterMap (fun i => ws[i]?)).map some) (hn : va_nd isR = true) (hdis : ∀ i ∈ isR, i ∉ isC)
    (hlen : As.length = n) (hsize : ls.size = nL) (hW : (rest.map fun v => v.category).sum ≤ 8) (hdg : decode cc pc = .ok (.invokestatic index, 3)) (hf : cells + mc ≤ R.cells ∧ slots + ms ≤ R.slots)
    (kk : ∀ (u : S) (a : Nat) (H1 : Heap) (locs1 : List Loc), post u → B0 u a → va_P D classes (isR.filterMap (fun i => ws[i]?) ++ w2 u a) H1 → va_D A (isR.filterMap (fun i => ws[i]?) ++ w2 u a) → va_S A s.heap H1 locs1 → W p l e R s m args below meth c H1 locs1 (cells + mc) (slots + ms) Q (F0 m (pc + 3) ls (.ref a :: rest))) :
    W p l e R s m args below meth c H locs cells slots Q (F0 m pc ls (As.reverse ++ rest)) := by
  have hPc : va_P D classes wc H := hP.sub isC (zk_fm hC)
  have hDc : va_D A wc := hD.sub isC hnC hC
  have hFc := va_free hD hS hA isC hC
  refine va_callr (va_runS (As := As) (rest := rest) S0 hM cw ⟨zPreE_blind, fun U hU hW => ⟨rfl, ⟨⟨by rw [hU], by rw [hU]; exact hPc, va_K.moved hW.alike hK, hDc.weaken (fun _ _ _ _ => trivial)⟩, zO.warm hW hO⟩, hE.go hW hU hS hFc⟩⟩ rfl hlen hsize rfl (lv_room hW) hdg hf) hS (fun q _ h => hFc q h) hFc (fun u a t H1 locs1 ht hvm hw hB hz1 hk1 hS1 => ?_)
  have hB : B0 u a ∧ va_P D classes (w2 u a) t.heap ∧ va_D (va_A wc H.size) (w2 u a) := hB
  rw [ht] at hB
  obtain ⟨hP2, hD2⟩ := va_join hP hD isC isR hC hR hn hdis hk1 hFc hB.2.1 hB.2.2
  exact kk u a H1 locs1 hw hB.1 hP2 hD2 hS1
theorem zk_ldcwS (hx : p.tables.exec = Jvm.exec) (hb : c.code = cc) {tx : String} {q : Nat} (hown : s.vm.findClass own = some m.cls) (hZ : vk_R own index tx q s) (hdg : decode cc pc = .ok (.ldc_w index, 3))
    (kk : W p l e R s m args below meth c H locs cells slots Q (F0 m (pc + 3) ls (.ref q :: rest))) : W p l e R s m args below meth c H locs cells slots Q (F0 m pc ls rest) := by
  intro T hT X
  obtain ⟨t, a1, b1⟩ := kk T hT X
  refine ⟨t, ?_, b1⟩
  obtain ⟨k1, cf, i, a', hk, hcf, hcp, -, hr, hev'⟩ := Cond.stringRef_spec hown hZ.1
  cases hZ.2.symm.trans hev'
  obtain ⟨k', hk', he⟩ := X.warmed.alike.2.2 _ _ hk
  have hr' : k'.resolved[index]? = some (some (.string q)) := by
    rcases X.warmed.entry hk hk' index with h | ⟨h, -⟩
    · rw [h]; exact hr
    · rw [hr] at h; cases h
  have hdg' : decode c.code pc = .ok (.ldc_w index, 3) := by rw [hb]; exact hdg
  jvm_step X.here [hx, hdg', ldc_w.wp_string (e := e) (s := T) (f := F0 m pc ls rest) X.here.top hk' (by rw [he]; exact hcf) hcp hr']
  exact a1
end ZKR
theorem zu_n {α : Type} {g f : Nat → α} {k n : Nat} {v : α} (h : g = va_up f k v) (e : k = n) : g = va_up f n v := by rw [← e]; exact h
theorem zu_at {α : Type} {g f : Nat → α} {n : Nat} {v : α} (h : g = va_up f n v) : g n = v := by rw [h]; exact if_pos rfl
theorem zu_ne {α : Type} {g f : Nat → α} {n i : Nat} {v : α} (h : g = va_up f n v) (e : i ≠ n) : g i = f i := by rw [h]; exact if_neg e
theorem zk_getD {α : Type} {x : Option α} {d : α} (h : x.isSome = true) : x = some (x.getD d) := by
  cases x with
  | none => cases h
  | some y => rfl
theorem gg_write : GoodIn zW (wsV RX11 86 RX9 yX9_write z_X9_write) := zGV kw_481 kw_482 kw_483 kw_78 kw_484
theorem gg_usual : GoodIn zW (va_wsS RX11 82 yX11_usualLaw (.code yX11_usualLaw cX11_usualLaw 1 (some (.object "java/lang/String")) :: zW)) := zGS kw_474 kw_475 kw_75 kw_476
theorem gg_read : GoodIn zW (wsV RX11 90 RX5 yX5_read z_X5_read) := zGV kw_537 kw_538 kw_539 kw_80 kw_540
set_option maxHeartbeats 4000000 in
set_option maxRecDepth 100000 in
theorem c_usualLaw_0 (l : Launch) (D : va_G) (cs : Nat → ClassId) (k : (Nat → Nat) × (Nat → Nat)) (sz : Nat) : Met l yX11_usualLaw (.code yX11_usualLaw cX11_usualLaw 1 (some (.object "java/lang/String")) :: zW) ({ frames := 0, cells := 0, slots := 0, locals := 0 } : Room) (va_Pc [.int (0 : Int32)] (zPreE k D cs [] sz)) (va_Qr (fun (_ : Unit) => True) (fun (_ : Unit) (a : Nat) (t : State) => a = k.1 0 ∧ va_P D classes [] t.heap ∧ va_D (va_A [] sz) []) (va_A [] sz)) 0 0 (va_A [] sz) := by
  refine Met.ofW (cc := cX11_usualLaw) (maxL := 1) (ret := (some (.object "java/lang/String"))) (by decide) rfl ?_
  intro p e s m args below meth c s₁ B hml hv
  obtain ⟨rfl, ⟨⟨hsz, hP, hK, hD0⟩, hO⟩, hE⟩ := hv
  subst hsz
  have hx := B.exec
  have hb := B.bytes
  have hr := B.returns
  have hlocks := B.notSynchronized
  have hown : s.vm.findClass RX11 = some m.cls := findClass_of_methodNamed B.named
  have hl := lv_entry ([.int (0 : Int32)]) (n := 1) (Nat.le_of_ble_eq_true rfl)
  rw [lg_entry_eq]
  generalize (lg_sl ([.int (0 : Int32)]) ++ List.replicate (1 - (lg_sl ([.int (0 : Int32)])).length) Slot.unset).toArray = ls at hl ⊢
  refine lv_iload_n hx hb dX11_usualLaw_0 rfl (lv_at hl 0 rfl) ?_
  refine lv_tableIn (tgt := 28) hx hb dX11_usualLaw_1 (by decide) (by decide) (by rfl) (by decide) ?_
  refine zk_ldcwS hx hb hown (hE.2.1 0 (RX11, 393, "a&k=1|a&k=6|a&k=3") rfl) dX11_usualLaw_28 ?_
  exact W.aret (v := .ref (k.1 0)) hx hb hr (Or.inl ⟨_, rfl⟩) (Or.inr ⟨_, rfl⟩) (fun t ht2 hW => ⟨⟨(), k.1 0, rfl, trivial, rfl, fun k q h => by simp at h, ⟨fun i j p q h => by simp at h, fun k q h => by simp at h⟩⟩, va_S.rf.F ht2⟩) (fun q h => by cases h) dX11_usualLaw_31 hlocks
set_option maxHeartbeats 4000000 in
set_option maxRecDepth 100000 in
theorem c_usualLaw_1 (l : Launch) (D : va_G) (cs : Nat → ClassId) (k : (Nat → Nat) × (Nat → Nat)) (sz : Nat) : Met l yX11_usualLaw (.code yX11_usualLaw cX11_usualLaw 1 (some (.object "java/lang/String")) :: zW) ({ frames := 0, cells := 0, slots := 0, locals := 0 } : Room) (va_Pc [.int (1 : Int32)] (zPreE k D cs [] sz)) (va_Qr (fun (_ : Unit) => True) (fun (_ : Unit) (a : Nat) (t : State) => a = k.1 1 ∧ va_P D classes [] t.heap ∧ va_D (va_A [] sz) []) (va_A [] sz)) 0 0 (va_A [] sz) := by
  refine Met.ofW (cc := cX11_usualLaw) (maxL := 1) (ret := (some (.object "java/lang/String"))) (by decide) rfl ?_
  intro p e s m args below meth c s₁ B hml hv
  obtain ⟨rfl, ⟨⟨hsz, hP, hK, hD0⟩, hO⟩, hE⟩ := hv
  subst hsz
  have hx := B.exec
  have hb := B.bytes
  have hr := B.returns
  have hlocks := B.notSynchronized
  have hown : s.vm.findClass RX11 = some m.cls := findClass_of_methodNamed B.named
  have hl := lv_entry ([.int (1 : Int32)]) (n := 1) (Nat.le_of_ble_eq_true rfl)
  rw [lg_entry_eq]
  generalize (lg_sl ([.int (1 : Int32)]) ++ List.replicate (1 - (lg_sl ([.int (1 : Int32)])).length) Slot.unset).toArray = ls at hl ⊢
  refine lv_iload_n hx hb dX11_usualLaw_0 rfl (lv_at hl 0 rfl) ?_
  refine lv_tableIn (tgt := 32) hx hb dX11_usualLaw_1 (by decide) (by decide) (by rfl) (by decide) ?_
  refine zk_ldcwS hx hb hown (hE.2.1 1 (RX11, 395, "f&n") rfl) dX11_usualLaw_32 ?_
  exact W.aret (v := .ref (k.1 1)) hx hb hr (Or.inl ⟨_, rfl⟩) (Or.inr ⟨_, rfl⟩) (fun t ht2 hW => ⟨⟨(), k.1 1, rfl, trivial, rfl, fun k q h => by simp at h, ⟨fun i j p q h => by simp at h, fun k q h => by simp at h⟩⟩, va_S.rf.F ht2⟩) (fun q h => by cases h) dX11_usualLaw_35 hlocks
set_option maxHeartbeats 4000000 in
set_option maxRecDepth 100000 in
theorem c_usualLaw_2 (l : Launch) (D : va_G) (cs : Nat → ClassId) (k : (Nat → Nat) × (Nat → Nat)) (sz : Nat) : Met l yX11_usualLaw (.code yX11_usualLaw cX11_usualLaw 1 (some (.object "java/lang/String")) :: zW) ({ frames := 0, cells := 0, slots := 0, locals := 0 } : Room) (va_Pc [.int (2 : Int32)] (zPreE k D cs [] sz)) (va_Qr (fun (_ : Unit) => True) (fun (_ : Unit) (a : Nat) (t : State) => a = k.1 2 ∧ va_P D classes [] t.heap ∧ va_D (va_A [] sz) []) (va_A [] sz)) 0 0 (va_A [] sz) := by
  refine Met.ofW (cc := cX11_usualLaw) (maxL := 1) (ret := (some (.object "java/lang/String"))) (by decide) rfl ?_
  intro p e s m args below meth c s₁ B hml hv
  obtain ⟨rfl, ⟨⟨hsz, hP, hK, hD0⟩, hO⟩, hE⟩ := hv
  subst hsz
  have hx := B.exec
  have hb := B.bytes
  have hr := B.returns
  have hlocks := B.notSynchronized
  have hown : s.vm.findClass RX11 = some m.cls := findClass_of_methodNamed B.named
  have hl := lv_entry ([.int (2 : Int32)]) (n := 1) (Nat.le_of_ble_eq_true rfl)
  rw [lg_entry_eq]
  generalize (lg_sl ([.int (2 : Int32)]) ++ List.replicate (1 - (lg_sl ([.int (2 : Int32)])).length) Slot.unset).toArray = ls at hl ⊢
  refine lv_iload_n hx hb dX11_usualLaw_0 rfl (lv_at hl 0 rfl) ?_
  refine lv_tableIn (tgt := 36) hx hb dX11_usualLaw_1 (by decide) (by decide) (by rfl) (by decide) ?_
  refine zk_ldcwS hx hb hown (hE.2.1 2 (RX11, 397, "n<3") rfl) dX11_usualLaw_36 ?_
  exact W.aret (v := .ref (k.1 2)) hx hb hr (Or.inl ⟨_, rfl⟩) (Or.inr ⟨_, rfl⟩) (fun t ht2 hW => ⟨⟨(), k.1 2, rfl, trivial, rfl, fun k q h => by simp at h, ⟨fun i j p q h => by simp at h, fun k q h => by simp at h⟩⟩, va_S.rf.F ht2⟩) (fun q h => by cases h) dX11_usualLaw_39 hlocks
set_option maxHeartbeats 4000000 in
set_option maxRecDepth 100000 in
theorem c_usualLaw_3 (l : Launch) (D : va_G) (cs : Nat → ClassId) (k : (Nat → Nat) × (Nat → Nat)) (sz : Nat) : Met l yX11_usualLaw (.code yX11_usualLaw cX11_usualLaw 1 (some (.object "java/lang/String")) :: zW) ({ frames := 0, cells := 0, slots := 0, locals := 0 } : Room) (va_Pc [.int (3 : Int32)] (zPreE k D cs [] sz)) (va_Qr (fun (_ : Unit) => True) (fun (_ : Unit) (a : Nat) (t : State) => a = k.1 3 ∧ va_P D classes [] t.heap ∧ va_D (va_A [] sz) []) (va_A [] sz)) 0 0 (va_A [] sz) := by
  refine Met.ofW (cc := cX11_usualLaw) (maxL := 1) (ret := (some (.object "java/lang/String"))) (by decide) rfl ?_
  intro p e s m args below meth c s₁ B hml hv
  obtain ⟨rfl, ⟨⟨hsz, hP, hK, hD0⟩, hO⟩, hE⟩ := hv
  subst hsz
  have hx := B.exec
  have hb := B.bytes
  have hr := B.returns
  have hlocks := B.notSynchronized
  have hown : s.vm.findClass RX11 = some m.cls := findClass_of_methodNamed B.named
  have hl := lv_entry ([.int (3 : Int32)]) (n := 1) (Nat.le_of_ble_eq_true rfl)
  rw [lg_entry_eq]
  generalize (lg_sl ([.int (3 : Int32)]) ++ List.replicate (1 - (lg_sl ([.int (3 : Int32)])).length) Slot.unset).toArray = ls at hl ⊢
  refine lv_iload_n hx hb dX11_usualLaw_0 rfl (lv_at hl 0 rfl) ?_
  refine lv_tableOut (tgt := 40) hx hb dX11_usualLaw_1 (Or.inr (by decide)) (by decide) ?_
  refine zk_ldcwS hx hb hown (hE.2.1 3 (RX11, 399, "1") rfl) dX11_usualLaw_40 ?_
  exact W.aret (v := .ref (k.1 3)) hx hb hr (Or.inl ⟨_, rfl⟩) (Or.inr ⟨_, rfl⟩) (fun t ht2 hW => ⟨⟨(), k.1 3, rfl, trivial, rfl, fun k q h => by simp at h, ⟨fun i j p q h => by simp at h, fun k q h => by simp at h⟩⟩, va_S.rf.F ht2⟩) (fun q h => by cases h) dX11_usualLaw_43 hlocks
def zw_0 : Int32 × (Nat → Int32) := (f_X9_write 4000 0 0 (fun _ => 0)).getD (0, fun _ => 0)
def zr_0 : Bool × Int32 × Int32 × Int32 × (Nat → Int32) := (f_X5_read 100000 zw_0.1 zw_0.2 0 0 0 (fun _ => 0)).getD (false, 0, 0, 0, fun _ => 0)
def zw_1 : Int32 × (Nat → Int32) := (f_X9_write 4000 1 zw_0.1 zw_0.2).getD (0, fun _ => 0)
def zr_1 : Bool × Int32 × Int32 × Int32 × (Nat → Int32) := (f_X5_read 100000 zw_1.1 zw_1.2 zr_0.2.1 zr_0.2.2.1 zr_0.2.2.2.1 zr_0.2.2.2.2).getD (false, 0, 0, 0, fun _ => 0)
def zw_2 : Int32 × (Nat → Int32) := (f_X9_write 4000 2 zw_1.1 zw_1.2).getD (0, fun _ => 0)
def zr_2 : Bool × Int32 × Int32 × Int32 × (Nat → Int32) := (f_X5_read 100000 zw_2.1 zw_2.2 zr_1.2.1 zr_1.2.2.1 zr_1.2.2.2.1 zr_1.2.2.2.2).getD (false, 0, 0, 0, fun _ => 0)
def zw_3 : Int32 × (Nat → Int32) := (f_X9_write 4000 3 zw_2.1 zw_2.2).getD (0, fun _ => 0)
def zr_3 : Bool × Int32 × Int32 × Int32 × (Nat → Int32) := (f_X5_read 100000 zw_3.1 zw_3.2 zr_2.2.1 zr_2.2.2.1 zr_2.2.2.2.1 zr_2.2.2.2.2).getD (false, 0, 0, 0, fun _ => 0)
theorem zk_all : (f_X9_write 4000 0 0 (fun _ => 0)).isSome = true ∧ (f_X5_read 100000 zw_0.1 zw_0.2 0 0 0 (fun _ => 0)).isSome = true ∧ zr_0.1 = true ∧ (f_X9_write 4000 1 zw_0.1 zw_0.2).isSome = true ∧ (f_X5_read 100000 zw_1.1 zw_1.2 zr_0.2.1 zr_0.2.2.1 zr_0.2.2.2.1 zr_0.2.2.2.2).isSome = true ∧ zr_1.1 = true ∧ (f_X9_write 4000 2 zw_1.1 zw_1.2).isSome = true ∧ (f_X5_read 100000 zw_2.1 zw_2.2 zr_1.2.1 zr_1.2.2.1 zr_1.2.2.2.1 zr_1.2.2.2.2).isSome = true ∧ zr_2.1 = true ∧ (f_X9_write 4000 3 zw_2.1 zw_2.2).isSome = true ∧ (f_X5_read 100000 zw_3.1 zw_3.2 zr_2.2.1 zr_2.2.2.1 zr_2.2.2.2.1 zr_2.2.2.2.2).isSome = true ∧ zr_3.1 = true := by decide +kernel
theorem zwe_0 : f_X9_write 4000 0 0 (fun _ => 0) = some zw_0 := zk_getD zk_all.1
theorem zre_0 : f_X5_read 100000 zw_0.1 zw_0.2 0 0 0 (fun _ => 0) = some zr_0 := zk_getD zk_all.2.1
theorem zrt_0 : zr_0.1 = true := zk_all.2.2.1
theorem zwe_1 : f_X9_write 4000 1 zw_0.1 zw_0.2 = some zw_1 := zk_getD zk_all.2.2.2.1
theorem zre_1 : f_X5_read 100000 zw_1.1 zw_1.2 zr_0.2.1 zr_0.2.2.1 zr_0.2.2.2.1 zr_0.2.2.2.2 = some zr_1 := zk_getD zk_all.2.2.2.2.1
theorem zrt_1 : zr_1.1 = true := zk_all.2.2.2.2.2.1
theorem zwe_2 : f_X9_write 4000 2 zw_1.1 zw_1.2 = some zw_2 := zk_getD zk_all.2.2.2.2.2.2.1
theorem zre_2 : f_X5_read 100000 zw_2.1 zw_2.2 zr_1.2.1 zr_1.2.2.1 zr_1.2.2.2.1 zr_1.2.2.2.2 = some zr_2 := zk_getD zk_all.2.2.2.2.2.2.2.1
theorem zrt_2 : zr_2.1 = true := zk_all.2.2.2.2.2.2.2.2.1
theorem zwe_3 : f_X9_write 4000 3 zw_2.1 zw_2.2 = some zw_3 := zk_getD zk_all.2.2.2.2.2.2.2.2.2.1
theorem zre_3 : f_X5_read 100000 zw_3.1 zw_3.2 zr_2.2.1 zr_2.2.2.1 zr_2.2.2.2.1 zr_2.2.2.2.2 = some zr_3 := zk_getD zk_all.2.2.2.2.2.2.2.2.2.2.1
theorem zrt_3 : zr_3.1 = true := zk_all.2.2.2.2.2.2.2.2.2.2.2
def zLn0 : Nat → Nat := (fun i => if i < 8 then zr_0.2.1.toNatClampNeg else if i < 16 then zr_1.2.1.toNatClampNeg else if i < 24 then zr_2.2.1.toNatClampNeg else zr_3.2.1.toNatClampNeg)
def zLc0 : Nat → Nat → Int32 := (fun i => if i < 8 then va_cpy zr_0.2.2.2.2 (fun _ => 0) 0 0 zr_0.2.1.toNatClampNeg else if i < 16 then va_cpy zr_1.2.2.2.2 (fun _ => 0) 0 0 zr_1.2.1.toNatClampNeg else if i < 24 then va_cpy zr_2.2.2.2.2 (fun _ => 0) 0 0 zr_2.2.1.toNatClampNeg else va_cpy zr_3.2.2.2.2 (fun _ => 0) 0 0 zr_3.2.1.toNatClampNeg)
theorem zAR0 {lo hi : Int} (h : lo ≤ 0 ∧ 0 ≤ hi) : AR lo hi (fun _ => 0) := by
  intro k
  have e : (0 : Int32).toInt = 0 := by decide
  show lo ≤ (0 : Int32).toInt ∧ (0 : Int32).toInt ≤ hi
  rw [e]
  exact h
theorem zch1 {n : Nat} (h : n < 256) : ((Int32.ofNat n).toUInt32 % 65536).toInt32 = Int32.ofNat n := by
  rw [Int32.toUInt32_ofNat']
  have e : UInt32.ofNat n % 65536 = UInt32.ofNat n := by
    apply UInt32.toNat_inj.mp
    rw [UInt32.toNat_mod, UInt32.toNat_ofNat', show (65536 : UInt32).toNat = 65536 from rfl]
    omega
  rw [e, UInt32.toInt32_ofNat']
theorem zch (x : Int32) (h : 0 ≤ x.toInt ∧ x.toInt ≤ 255) : (x.toUInt32 % 65536).toInt32 = x := by
  have h1 := zch1 (n := x.toInt.toNat) (by omega)
  have e : Int32.ofNat x.toInt.toNat = x := by
    apply Int32.toInt_inj.mp
    rw [Int32.toInt_ofNat_of_lt (by omega)]
    omega
  rw [e] at h1
  exact h1
theorem zwr_c {i0 : Nat} {x r : Int32} {u : Unit} (h : f_J0_charAt_5068e i0 x = some (r, u)) : 0 ≤ r.toInt ∧ r.toInt ≤ 255 := by
  unfold f_J0_charAt_5068e B_J0_charAt_5068e_0 at h
  obtain ⟨r1, u1, h1, h⟩ := zk_o2 h
  obtain ⟨g1, h⟩ := zk_gd h
  obtain ⟨r2, u2, h2, h⟩ := zk_o2 h
  obtain ⟨g2, h⟩ := zk_gd h
  have hr : r2 = r := congrArg Prod.fst (Option.some.inj h)
  subst hr
  unfold f_J1_charAt_3b067 B_J1_charAt_3b067_0 at h2
  obtain ⟨g3, h2⟩ := zk_gd h2
  obtain ⟨g4, h2⟩ := zk_gd h2
  obtain ⟨g5, h2⟩ := zk_gd h2
  have hb := zi_and2 (((zByt.getD i0 []).getD x.toNatClampNeg 0)) (255 : Int32) (by decide)
  have e255 : (255 : Int32).toInt = 255 := by decide
  rw [e255] at hb
  have hr2 := congrArg Prod.fst (Option.some.inj h2)
  dsimp only at hr2
  rw [zch _ hb] at hr2
  rw [← hr2]
  exact hb
theorem zwr_g (i0 : Nat) : ∀ (n : Nat) (x2 ts : Int32) (tb : Nat → Int32) (R : Int32 × (Nat → Int32)), (0 ≤ ts.toInt ∧ ts.toInt ≤ 120) → AR 0 255 tb → G_X9_write n i0 x2 ts tb = some R → (0 ≤ R.1.toInt ∧ R.1.toInt ≤ 120) ∧ AR 0 255 R.2 := by
  intro n
  induction n with
  | zero => intro x2 ts tb R h1 h2 h; cases h
  | succ n ih =>
    intro x2 ts tb R h1 h2 h
    have h : B_X9_write_7 (G_X9_write n) i0 x2 ts tb = some R := h
    unfold B_X9_write_7 at h
    obtain ⟨r1, u1, a1, h⟩ := zk_o2 h
    by_cases c : r1 ≤ x2
    · have h := zk_t c h
      cases h
      exact ⟨h1, h2⟩
    · have h := zk_f c h
      obtain ⟨r2, u2, a2, h⟩ := zk_o2 h
      obtain ⟨u3, u4, a3, h⟩ := zk_o2 h
      obtain ⟨v, ev, h⟩ := zk_lt h
      have hb := zwr_c a2
      obtain ⟨R3, e3, hp⟩ := s_X9_add r2 ts tb h1 h2 hb
      have e4 : R3 = (u3, u4) := Option.some.inj (e3.symm.trans a3)
      subst e4
      exact ih _ _ _ R hp.1 hp.2 h
theorem zwr {n i0 : Nat} {ts : Int32} {tb : Nat → Int32} {R : Int32 × (Nat → Int32)} (h2 : AR 0 255 tb) (h : f_X9_write n i0 ts tb = some R) : (0 ≤ R.1.toInt ∧ R.1.toInt ≤ 120) ∧ AR 0 255 R.2 := zwr_g i0 n 0 0 tb R (by decide) h2 h
theorem zwb_0 : (0 ≤ zw_0.1.toInt ∧ zw_0.1.toInt ≤ 120) ∧ AR 0 255 zw_0.2 := zwr (zAR0 (by decide)) zwe_0
theorem zrb_0 : (0 ≤ zr_0.2.1.toInt ∧ zr_0.2.1.toInt ≤ 121) ∧ (0 ≤ zr_0.2.2.1.toInt ∧ zr_0.2.2.1.toInt ≤ 120) ∧ (-1 ≤ zr_0.2.2.2.1.toInt ∧ zr_0.2.2.2.1.toInt ≤ 120) ∧ AR 0 524287 zr_0.2.2.2.2 := by
  obtain ⟨R, e, h⟩ := s_X5_read zw_0.1 zw_0.2 0 0 0 (fun _ => 0) zwb_0.1 zwb_0.2 (by decide) (by decide) (by decide) (zAR0 (by decide))
  have e2 : R = zr_0 := Option.some.inj (e.symm.trans zre_0)
  subst e2
  exact h
theorem zwb_1 : (0 ≤ zw_1.1.toInt ∧ zw_1.1.toInt ≤ 120) ∧ AR 0 255 zw_1.2 := zwr zwb_0.2 zwe_1
theorem zrb_1 : (0 ≤ zr_1.2.1.toInt ∧ zr_1.2.1.toInt ≤ 121) ∧ (0 ≤ zr_1.2.2.1.toInt ∧ zr_1.2.2.1.toInt ≤ 120) ∧ (-1 ≤ zr_1.2.2.2.1.toInt ∧ zr_1.2.2.2.1.toInt ≤ 120) ∧ AR 0 524287 zr_1.2.2.2.2 := by
  obtain ⟨R, e, h⟩ := s_X5_read zw_1.1 zw_1.2 zr_0.2.1 zr_0.2.2.1 zr_0.2.2.2.1 zr_0.2.2.2.2 zwb_1.1 zwb_1.2 zrb_0.1 zrb_0.2.1 zrb_0.2.2.1 zrb_0.2.2.2
  have e2 : R = zr_1 := Option.some.inj (e.symm.trans zre_1)
  subst e2
  exact h
theorem zwb_2 : (0 ≤ zw_2.1.toInt ∧ zw_2.1.toInt ≤ 120) ∧ AR 0 255 zw_2.2 := zwr zwb_1.2 zwe_2
theorem zrb_2 : (0 ≤ zr_2.2.1.toInt ∧ zr_2.2.1.toInt ≤ 121) ∧ (0 ≤ zr_2.2.2.1.toInt ∧ zr_2.2.2.1.toInt ≤ 120) ∧ (-1 ≤ zr_2.2.2.2.1.toInt ∧ zr_2.2.2.2.1.toInt ≤ 120) ∧ AR 0 524287 zr_2.2.2.2.2 := by
  obtain ⟨R, e, h⟩ := s_X5_read zw_2.1 zw_2.2 zr_1.2.1 zr_1.2.2.1 zr_1.2.2.2.1 zr_1.2.2.2.2 zwb_2.1 zwb_2.2 zrb_1.1 zrb_1.2.1 zrb_1.2.2.1 zrb_1.2.2.2
  have e2 : R = zr_2 := Option.some.inj (e.symm.trans zre_2)
  subst e2
  exact h
theorem zwb_3 : (0 ≤ zw_3.1.toInt ∧ zw_3.1.toInt ≤ 120) ∧ AR 0 255 zw_3.2 := zwr zwb_2.2 zwe_3
theorem zrb_3 : (0 ≤ zr_3.2.1.toInt ∧ zr_3.2.1.toInt ≤ 121) ∧ (0 ≤ zr_3.2.2.1.toInt ∧ zr_3.2.2.1.toInt ≤ 120) ∧ (-1 ≤ zr_3.2.2.2.1.toInt ∧ zr_3.2.2.2.1.toInt ≤ 120) ∧ AR 0 524287 zr_3.2.2.2.2 := by
  obtain ⟨R, e, h⟩ := s_X5_read zw_3.1 zw_3.2 zr_2.2.1 zr_2.2.2.1 zr_2.2.2.2.1 zr_2.2.2.2.2 zwb_3.1 zwb_3.2 zrb_2.1 zrb_2.2.1 zrb_2.2.2.1 zrb_2.2.2.2
  have e2 : R = zr_3 := Option.some.inj (e.symm.trans zre_3)
  subst e2
  exact h
theorem zLn0_b : LB zLn0 := by
  intro i
  unfold zLn0
  have h := fun (x : Int32) (hx : 0 ≤ x.toInt ∧ x.toInt ≤ 121) => (show x.toNatClampNeg ≤ 121 from by have e : x.toNatClampNeg = x.toInt.toNat := rfl; omega)
  by_cases c0 : i < 8
  · rw [if_pos c0]; exact h _ zrb_0.1
  rw [if_neg c0]
  by_cases c1 : i < 16
  · rw [if_pos c1]; exact h _ zrb_1.1
  rw [if_neg c1]
  by_cases c2 : i < 24
  · rw [if_pos c2]; exact h _ zrb_2.1
  rw [if_neg c2]
  exact h _ zrb_3.1
theorem zLc0_b : A2 0 524287 zLc0 := by
  intro i
  unfold zLc0
  by_cases c0 : i < 8
  · rw [if_pos c0]; exact zAR_cpy zrb_0.2.2.2 (by decide)
  rw [if_neg c0]
  by_cases c1 : i < 16
  · rw [if_pos c1]; exact zAR_cpy zrb_1.2.2.2 (by decide)
  rw [if_neg c1]
  by_cases c2 : i < 24
  · rw [if_pos c2]; exact zAR_cpy zrb_2.2.2.2 (by decide)
  rw [if_neg c2]
  exact zAR_cpy zrb_3.2.2.2 (by decide)
def ziF (a0 a1 a2 : Int32) : Nat → Int32 := fun n => ([0, 0, 0, 0, 0, 0, 0, 0, 0, 0, a0, a1, a2, 0, 0, 0, 0, 0, 0, 0, 0, 0, (-1 : Int32), 0, 0, 0, 0, 0, 0, 0, 0, 0, 0, 0, 0, 0, (-1 : Int32), 0, 0, (-1 : Int32), 0, 0, (-1 : Int32), 0, 0, (-1 : Int32), 0, 0, (-1 : Int32), 0, 0, (-1 : Int32), 0, 0, 0, 0, 0, 0, 0, 0, (-1), 0, 0, 0, 0, 0, 0, 0] : List Int32).getD n 0
def zi0 : Nat → Int32 := ziF zr_3.2.1 zr_3.2.2.1 zr_3.2.2.2.1
theorem ziF_10 (a0 a1 a2 : Int32) : ziF a0 a1 a2 10 = a0 := rfl
theorem zif_10 : zi0 10 = zr_3.2.1 := ziF_10 _ _ _
theorem ziF_11 (a0 a1 a2 : Int32) : ziF a0 a1 a2 11 = a1 := rfl
theorem zif_11 : zi0 11 = zr_3.2.2.1 := ziF_11 _ _ _
theorem ziF_12 (a0 a1 a2 : Int32) : ziF a0 a1 a2 12 = a2 := rfl
theorem zif_12 : zi0 12 = zr_3.2.2.2.1 := ziF_12 _ _ _
def za0 : Nat → Nat → Int32 := fun n => ([(fun _ => 0), (fun _ => 0), (fun _ => 0), (fun _ => 0), (fun _ => 0), (fun _ => 0), (fun _ => 0), (fun _ => 0), (fun _ => 0), (fun _ => 0), (fun _ => 0), (fun _ => 0), (fun _ => 0), (fun _ => 0), (fun _ => 0), zw_3.2, zr_3.2.2.2.2, (fun _ => 0), (fun _ => 0), (fun _ => 0), (fun _ => 0), (fun _ => 0), (fun _ => 0), (fun _ => 0), (fun _ => 0), (fun _ => 0), (fun _ => 0), (fun _ => 0), (fun _ => 0), (fun _ => 0), (fun _ => 0), (fun _ => 0), (fun _ => 0), (fun _ => 0), (fun _ => 0), (fun _ => 0), (fun _ => 0), (fun _ => 0), (fun _ => 0), (fun _ => 0), (fun _ => 0), (fun _ => 0), (fun _ => 0)] : List (Nat → Int32)).getD n (fun _ => 0)
def zl0 : Nat → Nat → Int64 := fun _ _ => 0
theorem zx0_0 : 0 ≤ (zi0 0).toInt ∧ (zi0 0).toInt ≤ 40 := by decide +kernel
theorem zx0_1 : 0 ≤ (zi0 1).toInt ∧ (zi0 1).toInt ≤ 32 := by decide +kernel
theorem zx0_2 : 0 ≤ (zi0 2).toInt ∧ (zi0 2).toInt ≤ 40 := by decide +kernel
theorem zx0_3 : 0 ≤ (zi0 6).toInt ∧ (zi0 6).toInt ≤ 120 := by decide +kernel
theorem zx0_4 : 0 ≤ (zi0 4).toInt ∧ (zi0 4).toInt ≤ 7 := by decide +kernel
theorem zx0_5 : 0 ≤ (zi0 13).toInt ∧ (zi0 13).toInt ≤ 5 := by decide +kernel
theorem zx0_6 : 0 ≤ (zi0 30).toInt ∧ (zi0 30).toInt ≤ 40 := by decide +kernel
theorem zx0_7 : 0 ≤ (zi0 31).toInt ∧ (zi0 31).toInt ≤ 40 := by decide +kernel
theorem zx0_8 : 0 ≤ (zi0 7).toInt ∧ (zi0 7).toInt ≤ 120 := by decide +kernel
theorem zx0_9 : -1 ≤ (zi0 9).toInt ∧ (zi0 9).toInt ≤ 120 := by decide +kernel
theorem zx0_10 : 0 ≤ (zi0 8).toInt ∧ (zi0 8).toInt ≤ 120 := by decide +kernel
theorem zx0_11 : 0 ≤ (zi0 38).toInt ∧ (zi0 38).toInt ≤ 60 := by decide +kernel
theorem zx0_12 : 0 ≤ (zi0 41).toInt ∧ (zi0 41).toInt ≤ 60 := by decide +kernel
theorem zx0_13 : 0 ≤ (zi0 44).toInt ∧ (zi0 44).toInt ≤ 60 := by decide +kernel
theorem zx0_14 : 0 ≤ (zi0 47).toInt ∧ (zi0 47).toInt ≤ 60 := by decide +kernel
theorem zx0_15 : 0 ≤ (zi0 50).toInt ∧ (zi0 50).toInt ≤ 60 := by decide +kernel
theorem zx0_16 : 0 ≤ (zi0 53).toInt ∧ (zi0 53).toInt ≤ 60 := by decide +kernel
theorem zx0_17 : 0 ≤ (zi0 16).toInt ∧ (zi0 16).toInt ≤ 19 := by decide +kernel
theorem zx0_18 : 0 ≤ (zi0 17).toInt ∧ (zi0 17).toInt ≤ 19 := by decide +kernel
theorem zx0_19 : 0 ≤ (zi0 21).toInt ∧ (zi0 21).toInt ≤ 7 := by decide +kernel
theorem zx0_20 : 0 ≤ (zi0 18).toInt ∧ (zi0 18).toInt ≤ 6 := by decide +kernel
theorem zx0_21 : 0 ≤ (zi0 23).toInt ∧ (zi0 23).toInt ≤ 32 := by decide +kernel
theorem zx0_22 : 0 ≤ (zi0 33).toInt ∧ (zi0 33).toInt ≤ 6 := by decide +kernel
theorem zx0_23 : 0 ≤ (zi0 11).toInt ∧ (zi0 11).toInt ≤ 120 := by rw [zif_11]; exact zrb_3.2.1
theorem zx0_24 : 0 ≤ (zi0 10).toInt ∧ (zi0 10).toInt ≤ 121 := by rw [zif_10]; exact zrb_3.1
theorem zx0_25 : -1 ≤ (zi0 12).toInt ∧ (zi0 12).toInt ≤ 120 := by rw [zif_12]; exact zrb_3.2.2.1
theorem zx0_26 : 0 ≤ (zi0 32).toInt ∧ (zi0 32).toInt ≤ 2000 := by decide +kernel
theorem zx0_27 : 0 ≤ (zi0 56).toInt ∧ (zi0 56).toInt ≤ 6 := by decide +kernel
theorem zx0_28 : 0 ≤ (zi0 61).toInt ∧ (zi0 61).toInt ≤ 32 := by decide +kernel
theorem zx0_29 : -1 ≤ (zi0 60).toInt ∧ (zi0 60).toInt ≤ -1 := by decide +kernel
abbrev zR (ad : Nat → Nat) (cs : Nat → ClassId) (g pf : Nat → Option Nat) (ts : Int32) (tb : Nat → Int32) (ls0 la0 lf0 : Int32) (lc : Nat → Int32) : va_W := [((ad 0), .inr (11, [.ref (ad 4), .ref (ad 15), .ref (ad 23), .ref (ad 25), .ref (ad 26), .ref (ad 28), .ref (ad 34), .ref (ad 39), .ref (ad 1), .ref (ad 2), .ref (ad 3)])), ((ad 1), .inl (cs 7, 6, .inr (.inr (.inr (.inr pf))))), ((ad 2), .inl (cs 0, 256, .inl (fun _ => 0))), ((ad 3), .inl (cs 0, 8, .inl (fun _ => 0))), ((ad 4), .inr (2, [.ref (ad 5), .ref (ad 6), .ref (ad 7), .ref (ad 8), .ref (ad 9), .ref (ad 10), .ref (ad 11), .ref (ad 12), .ref (ad 13), .ref (ad 14), .int 0, .int 0, .int 0])), ((ad 5), .inl (cs 0, 40, .inl (fun _ => 0))), ((ad 6), .inl (cs 0, 40, .inl (fun _ => 0))), ((ad 7), .inl (cs 0, 40, .inl (fun _ => 0))), ((ad 8), .inl (cs 0, 40, .inl (fun _ => 0))), ((ad 9), .inl (cs 0, 32, .inl (fun _ => 0))), ((ad 10), .inl (cs 0, 32, .inl (fun _ => 0))), ((ad 11), .inl (cs 0, 32, .inl (fun _ => 0))), ((ad 12), .inl (cs 0, 32, .inl (fun _ => 0))), ((ad 13), .inl (cs 5, 40, .inr (.inr (.inr (.inr (fun _ => none)))))), ((ad 14), .inl (cs 6, 32, .inr (.inr (.inr (.inr g))))), ((ad 15), .inr (3, [.ref (ad 4), .ref (ad 16), .ref (ad 17), .ref (ad 18), .ref (ad 19), .ref (ad 20), .ref (ad 21), .ref (ad 22), .int 0, .int 0, .int 0])), ((ad 16), .inl (cs 0, 11, .inl (fun _ => 0))), ((ad 17), .inl (cs 0, 36, .inl (fun _ => 0))), ((ad 18), .inl (cs 1, 7, .inr (.inl (fun _ => 0)))), ((ad 19), .inl (cs 1, 7, .inr (.inl (fun _ => 0)))), ((ad 20), .inl (cs 0, 20, .inl (fun _ => 0))), ((ad 21), .inl (cs 0, 20, .inl (fun _ => 0))), ((ad 22), .inl (cs 0, 20, .inl (fun _ => 0))), ((ad 23), .inr (9, [.ref (ad 24), .int ts])), ((ad 24), .inl (cs 0, 120, .inl tb)), ((ad 25), .inr (8, [.ref (ad 23), .null, .int 0, .int 0, .int 0])), ((ad 26), .inr (5, [.ref (ad 23), .ref (ad 27), .int ls0, .int la0, .int lf0])), ((ad 27), .inl (cs 0, 121, .inl lc)), ((ad 28), .inr (10, [.ref (ad 29), .ref (ad 30), .int 0, .ref (ad 31), .ref (ad 32), .ref (ad 33), .ref (ad 85), .int 0, .int 0])), ((ad 29), .inl (cs 0, 5, .inl (fun _ => 0))), ((ad 30), .inl (cs 0, 5, .inl (fun _ => 0))), ((ad 31), .inl (cs 0, 5, .inl (fun _ => 0))), ((ad 32), .inl (cs 0, 125, .inl (fun _ => 0))), ((ad 33), .inl (cs 0, 5, .inl (fun _ => 0))), ((ad 85), .inr (7, [.int 0, .int 0, .int 0, .int 0, .int 0, .int 0, .int (-1 : Int32), .ref (ad 86), .int 0, .int 0, .int 0, .int 0, .int 0, .int 0, .int 0])), ((ad 86), .inl (cs 0, 32, .inl (fun _ => 0))), ((ad 34), .inr (1, [.ref (ad 4), .ref (ad 35), .ref (ad 36), .ref (ad 37), .ref (ad 38), .int 0, .int 0])), ((ad 35), .inl (cs 0, 40, .inl (fun _ => 0))), ((ad 36), .inl (cs 0, 40, .inl (fun _ => 0))), ((ad 37), .inl (cs 0, 40, .inl (fun _ => 0))), ((ad 38), .inl (cs 0, 40, .inl (fun _ => 0))), ((ad 39), .inr (0, [.ref (ad 40), .int 0, .int 0, .int 0, .int 0])), ((ad 40), .inl (cs 0, 24, .inl (fun _ => 0)))]
