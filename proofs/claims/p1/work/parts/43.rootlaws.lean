theorem kw_474 : Cond.methodLink RX11 82 yX11_usualLaw ∈ zW := zwI (i := 474) (by decide +kernel) (by decide +kernel)
theorem kw_475 : Cond.static yX11_usualLaw ∈ zW := zwI (i := 475) (by decide +kernel) (by decide +kernel)
theorem kw_476 : Cond.code yX11_usualLaw cX11_usualLaw 1 (some (.object "java/lang/String")) ∈ zW := zwI (i := 476) (by decide +kernel) (by decide +kernel)
theorem kw_481 : Cond.methodLink RX11 86 yX9_write ∈ zW := zwI (i := 481) (by decide +kernel) (by decide +kernel)
theorem kw_482 : Cond.instanceMethod yX9_write ∈ zW := zwI (i := 482) (by decide +kernel) (by decide +kernel)
theorem kw_483 : Cond.selects RX9 yX9_write yX9_write ∈ zW := zwI (i := 483) (by decide +kernel) (by decide +kernel)
theorem kw_484 : Cond.code yX9_write cX9_write 3 none ∈ zW := zwI (i := 484) (by decide +kernel) (by decide +kernel)
theorem dX11_usualLaw_0 : decode cX11_usualLaw 0 = .ok (.iload_n 0, 1) := by decide +kernel
theorem dX11_usualLaw_1 : decode cX11_usualLaw 1 = .ok (.tableswitch 39 0 2 #[27, 31, 35], 27) := by decide +kernel
theorem dX11_usualLaw_28 : decode cX11_usualLaw 28 = .ok (.ldc_w 393, 3) := by decide +kernel
theorem dX11_usualLaw_31 : decode cX11_usualLaw 31 = .ok (.areturn, 1) := by decide +kernel
theorem dX11_usualLaw_32 : decode cX11_usualLaw 32 = .ok (.ldc_w 395, 3) := by decide +kernel
theorem dX11_usualLaw_35 : decode cX11_usualLaw 35 = .ok (.areturn, 1) := by decide +kernel
theorem dX11_usualLaw_36 : decode cX11_usualLaw 36 = .ok (.ldc_w 397, 3) := by decide +kernel
theorem dX11_usualLaw_39 : decode cX11_usualLaw 39 = .ok (.areturn, 1) := by decide +kernel
theorem dX11_usualLaw_40 : decode cX11_usualLaw 40 = .ok (.ldc_w 399, 3) := by decide +kernel
theorem dX11_usualLaw_43 : decode cX11_usualLaw 43 = .ok (.areturn, 1) := by decide +kernel
section ZKR
variable {p : Program} {l : Launch} {e : Env} {R : Room} {s : State} {m : MethodId} {args : Array Value} {below : List Frame} {meth : Method} {c : Code} {H : Heap} {locs : List Loc} {cells slots : Nat} {Q : State → Prop} {ls : Array Slot} {pc : Nat}
variable {A : Nat → Prop} {D : va_G} {cs : Nat → ClassId} {ws wc : va_W} {S : Type} {w2 : S → Nat → va_W} {y : MethodName} {wsY : List Cond} {rm : Room} {C own host : String} {index maxL mc ms n nL : Nat} {bytes cc : ByteArray} {ret : Option FieldType} {b : Nat} {As rest : List Value} {k : (Nat → Nat) × (Nat → Nat)}
theorem zk_srE {post : S → Prop} {B0 : S → Nat → Prop} (hE : zE k A s) (hO : zO s) (hM : Met l y wsY rm (va_Pc As (zPreE k D cs wc H.size)) (va_Qr post (fun (u : S) (a : Nat) (t : State) => B0 u a ∧ va_P D classes (w2 u a) t.heap ∧ va_D (va_A wc H.size) (w2 u a)) (va_A wc H.size)) mc ms (va_A wc H.size))
    (S0 : CallFix p m c cc nL s args zW own) (cw : CallB R s args own index y bytes maxL ret wsY rm mc ms n ∧ (Cond.static y).before args s = true)
    (hP : va_P D classes ws H) (hD : va_D A ws) (hS : va_S A s.heap H locs) (hK : va_K D classes (zT cs) s) (hA : ∀ q : Nat, s.heap.size ≤ q → A q) (isC isR : List Nat) (hC : isC.map (fun i => ws[i]?) = wc.map some) (hnC : va_nd isC = true) (hR : isR.map (fun i => ws[i]?) = (isR.filterMap (fun i => ws[i]?)).map some) (hn : va_nd isR = true) (hdis : ∀ i ∈ isR, i ∉ isC)
    (hlen : As.length = n) (hsize : ls.size = nL) (hW : (rest.map fun v => v.category).sum ≤ 8) (hdg : decode cc pc = .ok (.invokestatic index, 3)) (hf : cells + mc ≤ R.cells ∧ slots + ms ≤ R.slots)
    (kk : ∀ (u : S) (a : Nat) (H1 : Heap) (locs1 : List Loc), post u → B0 u a → va_P D classes (isR.filterMap (fun i => ws[i]?) ++ w2 u a) H1 → va_D A (isR.filterMap (fun i => ws[i]?) ++ w2 u a) → va_S A s.heap H1 locs1 → W p l e R s m args below meth c H1 locs1 (cells + mc) (slots + ms) Q (F0 m (pc + 3) ls (.ref a :: rest))) :
    W p l e R s m args below meth c H locs cells slots Q (F0 m pc ls (As.reverse ++ rest)) := by
  have hPc : va_P D classes wc H := hP.sub isC (zk_fm hC)
  have hDc : va_D A wc := hD.sub isC hnC hC
  have hFc := va_free hD hS hA isC hC
  refine va_callr (va_runS (As := As) (rest := rest) S0 hM cw ⟨zPreE_blind, fun U hU hW => ⟨rfl, ⟨⟨by rw [hU], by rw [hU]; exact hPc, va_K.moved hW.alike hK, hDc.weaken (fun _ _ _ _ => trivial)⟩, zO.warm hW hO⟩, hE.go hW hU hS hFc⟩⟩ rfl hlen hsize rfl (lv_room hW) hdg hf) hS (fun q _ h => hFc q h) hFc (fun u a t H1 locs1 ht hvm hw hB hz1 hk1 hS1 => ?_)
  have hB : B0 u a ∧ va_P D classes (w2 u a) t.heap ∧ va_D (va_A wc H.size) (w2 u a) := hB
  rw [ht] at hB
  obtain ⟨hP2, hD2⟩ := va_join hP hD isC isR hC hR hn hdis hk1 hFc hB.2.1 hB.2.2
  exact kk u a H1 locs1 hw hB.1 hP2 hD2 hS1
theorem zk_ldcwS (hx : p.tables.exec = Jvm.exec) (hb : c.code = cc) {tx : String} {q : Nat} (hown : s.vm.findClass own = some m.cls) (hZ : vk_R own index tx q s) (hdg : decode cc pc = .ok (.ldc_w index, 3))
    (kk : W p l e R s m args below meth c H locs cells slots Q (F0 m (pc + 3) ls (.ref q :: rest))) : W p l e R s m args below meth c H locs cells slots Q (F0 m pc ls rest) := by
  intro T hT X
  obtain ⟨t, a1, b1⟩ := kk T hT X
  refine ⟨t, ?_, b1⟩
  obtain ⟨k1, cf, i, a', hk, hcf, hcp, -, hr, hev'⟩ := Cond.stringRef_spec hown hZ.1
  cases hZ.2.symm.trans hev'
  obtain ⟨k', hk', he⟩ := X.warmed.alike.2.2 _ _ hk
  have hr' : k'.resolved[index]? = some (some (.string q)) := by
    rcases X.warmed.entry hk hk' index with h | ⟨h, -⟩
    · rw [h]; exact hr
    · rw [hr] at h; cases h
  have hdg' : decode c.code pc = .ok (.ldc_w index, 3) := by rw [hb]; exact hdg
  jvm_step X.here [hx, hdg', ldc_w.wp_string (e := e) (s := T) (f := F0 m pc ls rest) X.here.top hk' (by rw [he]; exact hcf) hcp hr']
  exact a1
end ZKR
theorem zk_getD {α : Type} {x : Option α} {d : α} (h : x.isSome = true) : x = some (x.getD d) := by
  cases x with
  | none => cases h
  | some y => rfl
theorem gg_write : GoodIn zW (wsV RX11 86 RX9 yX9_write z_X9_write) := zGV kw_481 kw_482 kw_483 kw_78 kw_484
theorem gg_usual : GoodIn zW (va_wsS RX11 82 yX11_usualLaw (.code yX11_usualLaw cX11_usualLaw 1 (some (.object "java/lang/String")) :: zW)) := zGS kw_474 kw_475 kw_75 kw_476
theorem gg_read : GoodIn zW (wsV RX11 90 RX5 yX5_read z_X5_read) := zGV kw_537 kw_538 kw_539 kw_80 kw_540
set_option maxHeartbeats 4000000 in
set_option maxRecDepth 100000 in
theorem c_usualLaw_0 (l : Launch) (D : va_G) (cs : Nat → ClassId) (k : (Nat → Nat) × (Nat → Nat)) (sz : Nat) : Met l yX11_usualLaw (.code yX11_usualLaw cX11_usualLaw 1 (some (.object "java/lang/String")) :: zW) ({ frames := 0, cells := 0, slots := 0, locals := 0 } : Room) (va_Pc [.int (0 : Int32)] (zPreE k D cs [] sz)) (va_Qr (fun (_ : Unit) => True) (fun (_ : Unit) (a : Nat) (t : State) => a = k.1 0 ∧ va_P D classes [] t.heap ∧ va_D (va_A [] sz) []) (va_A [] sz)) 0 0 (va_A [] sz) := by
  refine Met.ofW (cc := cX11_usualLaw) (maxL := 1) (ret := (some (.object "java/lang/String"))) (by decide) rfl ?_
  intro p e s m args below meth c s₁ B hml hv
  obtain ⟨rfl, ⟨⟨hsz, hP, hK, hD0⟩, hO⟩, hE⟩ := hv
  subst hsz
  have hx := B.exec
  have hb := B.bytes
  have hr := B.returns
  have hlocks := B.notSynchronized
  have hown : s.vm.findClass RX11 = some m.cls := findClass_of_methodNamed B.named
  have hl := lv_entry ([.int (0 : Int32)]) (n := 1) (Nat.le_of_ble_eq_true rfl)
  rw [lg_entry_eq]
  generalize (lg_sl ([.int (0 : Int32)]) ++ List.replicate (1 - (lg_sl ([.int (0 : Int32)])).length) Slot.unset).toArray = ls at hl ⊢
  refine lv_iload_n hx hb dX11_usualLaw_0 rfl (lv_at hl 0 rfl) ?_
  refine lv_tableIn (tgt := 28) hx hb dX11_usualLaw_1 (by decide) (by decide) (by rfl) (by decide) ?_
  refine zk_ldcwS hx hb hown (hE.2.1 0 _ rfl) dX11_usualLaw_28 ?_
  exact W.aret (v := .ref (k.1 0)) hx hb hr (Or.inl ⟨_, rfl⟩) (Or.inr ⟨_, rfl⟩) (fun t ht2 hW => ⟨⟨(), k.1 0, rfl, trivial, rfl, fun k q h => by simp at h, ⟨fun i j p q h => by simp at h, fun k q h => by simp at h⟩⟩, va_S.rf.F ht2⟩) (fun q h => by cases h) dX11_usualLaw_31 hlocks
set_option maxHeartbeats 4000000 in
set_option maxRecDepth 100000 in
theorem c_usualLaw_1 (l : Launch) (D : va_G) (cs : Nat → ClassId) (k : (Nat → Nat) × (Nat → Nat)) (sz : Nat) : Met l yX11_usualLaw (.code yX11_usualLaw cX11_usualLaw 1 (some (.object "java/lang/String")) :: zW) ({ frames := 0, cells := 0, slots := 0, locals := 0 } : Room) (va_Pc [.int (1 : Int32)] (zPreE k D cs [] sz)) (va_Qr (fun (_ : Unit) => True) (fun (_ : Unit) (a : Nat) (t : State) => a = k.1 1 ∧ va_P D classes [] t.heap ∧ va_D (va_A [] sz) []) (va_A [] sz)) 0 0 (va_A [] sz) := by
  refine Met.ofW (cc := cX11_usualLaw) (maxL := 1) (ret := (some (.object "java/lang/String"))) (by decide) rfl ?_
  intro p e s m args below meth c s₁ B hml hv
  obtain ⟨rfl, ⟨⟨hsz, hP, hK, hD0⟩, hO⟩, hE⟩ := hv
  subst hsz
  have hx := B.exec
  have hb := B.bytes
  have hr := B.returns
  have hlocks := B.notSynchronized
  have hown : s.vm.findClass RX11 = some m.cls := findClass_of_methodNamed B.named
  have hl := lv_entry ([.int (1 : Int32)]) (n := 1) (Nat.le_of_ble_eq_true rfl)
  rw [lg_entry_eq]
  generalize (lg_sl ([.int (1 : Int32)]) ++ List.replicate (1 - (lg_sl ([.int (1 : Int32)])).length) Slot.unset).toArray = ls at hl ⊢
  refine lv_iload_n hx hb dX11_usualLaw_0 rfl (lv_at hl 0 rfl) ?_
  refine lv_tableIn (tgt := 32) hx hb dX11_usualLaw_1 (by decide) (by decide) (by rfl) (by decide) ?_
  refine zk_ldcwS hx hb hown (hE.2.1 1 _ rfl) dX11_usualLaw_32 ?_
  exact W.aret (v := .ref (k.1 1)) hx hb hr (Or.inl ⟨_, rfl⟩) (Or.inr ⟨_, rfl⟩) (fun t ht2 hW => ⟨⟨(), k.1 1, rfl, trivial, rfl, fun k q h => by simp at h, ⟨fun i j p q h => by simp at h, fun k q h => by simp at h⟩⟩, va_S.rf.F ht2⟩) (fun q h => by cases h) dX11_usualLaw_35 hlocks
set_option maxHeartbeats 4000000 in
set_option maxRecDepth 100000 in
theorem c_usualLaw_2 (l : Launch) (D : va_G) (cs : Nat → ClassId) (k : (Nat → Nat) × (Nat → Nat)) (sz : Nat) : Met l yX11_usualLaw (.code yX11_usualLaw cX11_usualLaw 1 (some (.object "java/lang/String")) :: zW) ({ frames := 0, cells := 0, slots := 0, locals := 0 } : Room) (va_Pc [.int (2 : Int32)] (zPreE k D cs [] sz)) (va_Qr (fun (_ : Unit) => True) (fun (_ : Unit) (a : Nat) (t : State) => a = k.1 2 ∧ va_P D classes [] t.heap ∧ va_D (va_A [] sz) []) (va_A [] sz)) 0 0 (va_A [] sz) := by
  refine Met.ofW (cc := cX11_usualLaw) (maxL := 1) (ret := (some (.object "java/lang/String"))) (by decide) rfl ?_
  intro p e s m args below meth c s₁ B hml hv
  obtain ⟨rfl, ⟨⟨hsz, hP, hK, hD0⟩, hO⟩, hE⟩ := hv
  subst hsz
  have hx := B.exec
  have hb := B.bytes
  have hr := B.returns
  have hlocks := B.notSynchronized
  have hown : s.vm.findClass RX11 = some m.cls := findClass_of_methodNamed B.named
  have hl := lv_entry ([.int (2 : Int32)]) (n := 1) (Nat.le_of_ble_eq_true rfl)
  rw [lg_entry_eq]
  generalize (lg_sl ([.int (2 : Int32)]) ++ List.replicate (1 - (lg_sl ([.int (2 : Int32)])).length) Slot.unset).toArray = ls at hl ⊢
  refine lv_iload_n hx hb dX11_usualLaw_0 rfl (lv_at hl 0 rfl) ?_
  refine lv_tableIn (tgt := 36) hx hb dX11_usualLaw_1 (by decide) (by decide) (by rfl) (by decide) ?_
  refine zk_ldcwS hx hb hown (hE.2.1 2 _ rfl) dX11_usualLaw_36 ?_
  exact W.aret (v := .ref (k.1 2)) hx hb hr (Or.inl ⟨_, rfl⟩) (Or.inr ⟨_, rfl⟩) (fun t ht2 hW => ⟨⟨(), k.1 2, rfl, trivial, rfl, fun k q h => by simp at h, ⟨fun i j p q h => by simp at h, fun k q h => by simp at h⟩⟩, va_S.rf.F ht2⟩) (fun q h => by cases h) dX11_usualLaw_39 hlocks
set_option maxHeartbeats 4000000 in
set_option maxRecDepth 100000 in
theorem c_usualLaw_3 (l : Launch) (D : va_G) (cs : Nat → ClassId) (k : (Nat → Nat) × (Nat → Nat)) (sz : Nat) : Met l yX11_usualLaw (.code yX11_usualLaw cX11_usualLaw 1 (some (.object "java/lang/String")) :: zW) ({ frames := 0, cells := 0, slots := 0, locals := 0 } : Room) (va_Pc [.int (3 : Int32)] (zPreE k D cs [] sz)) (va_Qr (fun (_ : Unit) => True) (fun (_ : Unit) (a : Nat) (t : State) => a = k.1 3 ∧ va_P D classes [] t.heap ∧ va_D (va_A [] sz) []) (va_A [] sz)) 0 0 (va_A [] sz) := by
  refine Met.ofW (cc := cX11_usualLaw) (maxL := 1) (ret := (some (.object "java/lang/String"))) (by decide) rfl ?_
  intro p e s m args below meth c s₁ B hml hv
  obtain ⟨rfl, ⟨⟨hsz, hP, hK, hD0⟩, hO⟩, hE⟩ := hv
  subst hsz
  have hx := B.exec
  have hb := B.bytes
  have hr := B.returns
  have hlocks := B.notSynchronized
  have hown : s.vm.findClass RX11 = some m.cls := findClass_of_methodNamed B.named
  have hl := lv_entry ([.int (3 : Int32)]) (n := 1) (Nat.le_of_ble_eq_true rfl)
  rw [lg_entry_eq]
  generalize (lg_sl ([.int (3 : Int32)]) ++ List.replicate (1 - (lg_sl ([.int (3 : Int32)])).length) Slot.unset).toArray = ls at hl ⊢
  refine lv_iload_n hx hb dX11_usualLaw_0 rfl (lv_at hl 0 rfl) ?_
  refine lv_tableOut (tgt := 40) hx hb dX11_usualLaw_1 (Or.inr (by decide)) (by decide) ?_
  refine zk_ldcwS hx hb hown (hE.2.1 3 _ rfl) dX11_usualLaw_40 ?_
  exact W.aret (v := .ref (k.1 3)) hx hb hr (Or.inl ⟨_, rfl⟩) (Or.inr ⟨_, rfl⟩) (fun t ht2 hW => ⟨⟨(), k.1 3, rfl, trivial, rfl, fun k q h => by simp at h, ⟨fun i j p q h => by simp at h, fun k q h => by simp at h⟩⟩, va_S.rf.F ht2⟩) (fun q h => by cases h) dX11_usualLaw_43 hlocks
def zw_0 : Int32 × (Nat → Int32) := (f_X9_write 4000 0 0 (fun _ => 0)).getD (0, fun _ => 0)
theorem zwe_0 : f_X9_write 4000 0 0 (fun _ => 0) = some zw_0 := zk_getD (by decide +kernel)
def zr_0 : Bool × Int32 × Int32 × Int32 × (Nat → Int32) := (f_X5_read 4000 zw_0.1 zw_0.2 0 0 0 (fun _ => 0)).getD (false, 0, 0, 0, fun _ => 0)
theorem zre_0 : f_X5_read 4000 zw_0.1 zw_0.2 0 0 0 (fun _ => 0) = some zr_0 := zk_getD (by decide +kernel)
theorem zrt_0 : zr_0.1 = true := by decide +kernel
def zw_1 : Int32 × (Nat → Int32) := (f_X9_write 4000 1 zw_0.1 zw_0.2).getD (0, fun _ => 0)
theorem zwe_1 : f_X9_write 4000 1 zw_0.1 zw_0.2 = some zw_1 := zk_getD (by decide +kernel)
def zr_1 : Bool × Int32 × Int32 × Int32 × (Nat → Int32) := (f_X5_read 4000 zw_1.1 zw_1.2 zr_0.2.1 zr_0.2.2.1 zr_0.2.2.2.1 zr_0.2.2.2.2).getD (false, 0, 0, 0, fun _ => 0)
theorem zre_1 : f_X5_read 4000 zw_1.1 zw_1.2 zr_0.2.1 zr_0.2.2.1 zr_0.2.2.2.1 zr_0.2.2.2.2 = some zr_1 := zk_getD (by decide +kernel)
theorem zrt_1 : zr_1.1 = true := by decide +kernel
def zw_2 : Int32 × (Nat → Int32) := (f_X9_write 4000 2 zw_1.1 zw_1.2).getD (0, fun _ => 0)
theorem zwe_2 : f_X9_write 4000 2 zw_1.1 zw_1.2 = some zw_2 := zk_getD (by decide +kernel)
def zr_2 : Bool × Int32 × Int32 × Int32 × (Nat → Int32) := (f_X5_read 4000 zw_2.1 zw_2.2 zr_1.2.1 zr_1.2.2.1 zr_1.2.2.2.1 zr_1.2.2.2.2).getD (false, 0, 0, 0, fun _ => 0)
theorem zre_2 : f_X5_read 4000 zw_2.1 zw_2.2 zr_1.2.1 zr_1.2.2.1 zr_1.2.2.2.1 zr_1.2.2.2.2 = some zr_2 := zk_getD (by decide +kernel)
theorem zrt_2 : zr_2.1 = true := by decide +kernel
def zw_3 : Int32 × (Nat → Int32) := (f_X9_write 4000 3 zw_2.1 zw_2.2).getD (0, fun _ => 0)
theorem zwe_3 : f_X9_write 4000 3 zw_2.1 zw_2.2 = some zw_3 := zk_getD (by decide +kernel)
def zr_3 : Bool × Int32 × Int32 × Int32 × (Nat → Int32) := (f_X5_read 4000 zw_3.1 zw_3.2 zr_2.2.1 zr_2.2.2.1 zr_2.2.2.2.1 zr_2.2.2.2.2).getD (false, 0, 0, 0, fun _ => 0)
theorem zre_3 : f_X5_read 4000 zw_3.1 zw_3.2 zr_2.2.1 zr_2.2.2.1 zr_2.2.2.2.1 zr_2.2.2.2.2 = some zr_3 := zk_getD (by decide +kernel)
theorem zrt_3 : zr_3.1 = true := by decide +kernel
theorem zrs_3 : zr_3.2.1.toNatClampNeg = 2 := by decide +kernel
theorem zrc_3 : va_cpy zr_3.2.2.2.2 (fun _ => 0) 0 0 2 0 = 32 ∧ va_cpy zr_3.2.2.2.2 (fun _ => 0) 0 0 2 1 = 2 := by decide +kernel
theorem zk_sz {D : va_G} {W0 : Nat → va_W} {n m : Nat} (e : n = m) {H : Heap} (h : va_P D classes (W0 n) H) : va_P D classes (W0 m) H := e ▸ h
theorem zk_szD {A : Nat → Prop} {W0 : Nat → va_W} {n m : Nat} (e : n = m) (h : va_D A (W0 n)) : va_D A (W0 m) := e ▸ h
abbrev zR (ad : Nat → Nat) (cs : Nat → ClassId) (wb : Nat) (g pf : Nat → Option Nat) (ts : Int32) (tb : Nat → Int32) (ls0 la0 lf0 : Int32) (lc : Nat → Int32) : va_W := [((ad 0), .inr (11, [.ref (ad 4), .ref (ad 15), .ref (ad 23), .ref (ad 25), .ref (ad 26), .ref (ad 28), .ref (ad 34), .ref (ad 39), .ref (ad 1), .ref (ad 2), .ref (ad 3)])), ((ad 1), .inl (cs 7, 6, .inr (.inr (.inr (.inr pf))))), ((ad 2), .inl (cs 0, 256, .inl (fun _ => 0))), ((ad 3), .inl (cs 0, 8, .inl (fun _ => 0))), ((ad 4), .inr (2, [.ref (ad 5), .ref (ad 6), .ref (ad 7), .ref (ad 8), .ref (ad 9), .ref (ad 10), .ref (ad 11), .ref (ad 12), .ref (ad 13), .ref (ad 14), .int 0, .int 0, .int 0])), ((ad 5), .inl (cs 0, 40, .inl (fun _ => 0))), ((ad 6), .inl (cs 0, 40, .inl (fun _ => 0))), ((ad 7), .inl (cs 0, 40, .inl (fun _ => 0))), ((ad 8), .inl (cs 0, 40, .inl (fun _ => 0))), ((ad 9), .inl (cs 0, 32, .inl (fun _ => 0))), ((ad 10), .inl (cs 0, 32, .inl (fun _ => 0))), ((ad 11), .inl (cs 0, 32, .inl (fun _ => 0))), ((ad 12), .inl (cs 0, 32, .inl (fun _ => 0))), ((ad 13), .inl (cs 5, 40, .inr (.inr (.inr (.inr (fun _ => none)))))), ((ad 14), .inl (cs 6, 32, .inr (.inr (.inr (.inr g))))), ((ad 15), .inr (3, [.ref (ad 4), .ref (ad 16), .ref (ad 17), .ref (ad 18), .ref (ad 19), .ref (ad 20), .ref (ad 21), .ref (ad 22), .int 0, .int 0, .int 0])), ((ad 16), .inl (cs 0, 11, .inl (fun _ => 0))), ((ad 17), .inl (cs 0, 36, .inl (fun _ => 0))), ((ad 18), .inl (cs 1, 7, .inr (.inl (fun _ => 0)))), ((ad 19), .inl (cs 1, 7, .inr (.inl (fun _ => 0)))), ((ad 20), .inl (cs 0, 20, .inl (fun _ => 0))), ((ad 21), .inl (cs 0, 20, .inl (fun _ => 0))), ((ad 22), .inl (cs 0, 20, .inl (fun _ => 0))), ((ad 23), .inr (9, [.ref (ad 24), .int ts])), ((ad 24), .inl (cs 0, 120, .inl tb)), ((ad 25), .inr (8, [.ref (ad 23), .null, .int 0, .int 0, .int 0])), ((ad 26), .inr (5, [.ref (ad 23), .ref (ad 27), .int ls0, .int la0, .int lf0])), ((ad 27), .inl (cs 0, 121, .inl lc)), ((ad 28), .inr (10, [.ref (ad 29), .ref (ad 30), .int 0, .ref (ad 31), .ref (ad 32), .ref (ad 33), .ref wb, .int 0, .int 0])), ((ad 29), .inl (cs 0, 5, .inl (fun _ => 0))), ((ad 30), .inl (cs 0, 5, .inl (fun _ => 0))), ((ad 31), .inl (cs 0, 5, .inl (fun _ => 0))), ((ad 32), .inl (cs 0, 125, .inl (fun _ => 0))), ((ad 33), .inl (cs 0, 5, .inl (fun _ => 0))), ((ad 34), .inr (1, [.ref (ad 4), .ref (ad 35), .ref (ad 36), .ref (ad 37), .ref (ad 38), .int 0, .int 0])), ((ad 35), .inl (cs 0, 40, .inl (fun _ => 0))), ((ad 36), .inl (cs 0, 40, .inl (fun _ => 0))), ((ad 37), .inl (cs 0, 40, .inl (fun _ => 0))), ((ad 38), .inl (cs 0, 40, .inl (fun _ => 0))), ((ad 39), .inr (0, [.ref (ad 40), .int 0, .int 0, .int 0, .int 0])), ((ad 40), .inl (cs 0, 24, .inl (fun _ => 0)))]
abbrev zF (ad : Nat → Nat) (cs : Nat → ClassId) (ae : Nat → Nat) (wb : Nat) (g pf : Nat → Option Nat) : va_W := zR ad cs wb g pf 0 zw_3.2 zr_3.2.1 zr_3.2.2.1 zr_3.2.2.2.1 zr_3.2.2.2.2 ++ [(ae 0, .inr (4, [.ref (ae 1)])), (ae 1, .inl (cs 0, 2, .inl (va_cpy zr_3.2.2.2.2 (fun _ => 0) 0 0 2))), (ae 2, .inr (6, [.int (-1), .int 0, .int 0, .ref (ae 3)])), (ae 3, .inl (cs 1, 60, .inr (.inl (fun _ => 0)))), (ae 4, .inr (6, [.int (-1), .int 0, .int 0, .ref (ae 5)])), (ae 5, .inl (cs 1, 60, .inr (.inl (fun _ => 0)))), (ae 6, .inr (6, [.int (-1), .int 0, .int 0, .ref (ae 7)])), (ae 7, .inl (cs 1, 60, .inr (.inl (fun _ => 0)))), (ae 8, .inr (6, [.int (-1), .int 0, .int 0, .ref (ae 9)])), (ae 9, .inl (cs 1, 60, .inr (.inl (fun _ => 0)))), (ae 10, .inr (6, [.int (-1), .int 0, .int 0, .ref (ae 11)])), (ae 11, .inl (cs 1, 60, .inr (.inl (fun _ => 0)))), (ae 12, .inr (6, [.int (-1), .int 0, .int 0, .ref (ae 13)])), (ae 13, .inl (cs 1, 60, .inr (.inl (fun _ => 0))))]
