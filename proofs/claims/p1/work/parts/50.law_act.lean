theorem dL_law_1178 : decode cL_law 1178 = .ok (.aload_n 1, 1) := by decide +kernel
theorem dL_law_1179 : decode cL_law 1179 = .ok (.aload_n 0, 1) := by decide +kernel
theorem dL_law_1180 : decode cL_law 1180 = .ok (.iload_n 3, 1) := by decide +kernel
theorem dL_law_1181 : decode cL_law 1181 = .ok (.iconst 1, 1) := by decide +kernel
theorem dL_law_1182 : decode cL_law 1182 = .ok (.iadd, 1) := by decide +kernel
theorem dL_law_1183 : decode cL_law 1183 = .ok (.iaload, 1) := by decide +kernel
theorem dL_law_1184 : decode cL_law 1184 = .ok (.aload_n 0, 1) := by decide +kernel
theorem dL_law_1185 : decode cL_law 1185 = .ok (.iload_n 3, 1) := by decide +kernel
theorem dL_law_1186 : decode cL_law 1186 = .ok (.iconst 2, 1) := by decide +kernel
theorem dL_law_1187 : decode cL_law 1187 = .ok (.iadd, 1) := by decide +kernel
theorem dL_law_1188 : decode cL_law 1188 = .ok (.iaload, 1) := by decide +kernel
theorem dL_law_1189 : decode cL_law 1189 = .ok (.aload_n 0, 1) := by decide +kernel
theorem dL_law_1190 : decode cL_law 1190 = .ok (.iload_n 3, 1) := by decide +kernel
theorem dL_law_1191 : decode cL_law 1191 = .ok (.iconst 3, 1) := by decide +kernel
theorem dL_law_1192 : decode cL_law 1192 = .ok (.iadd, 1) := by decide +kernel
theorem dL_law_1193 : decode cL_law 1193 = .ok (.iaload, 1) := by decide +kernel
theorem dL_law_1194 : decode cL_law 1194 = .ok (.invokevirtual 135, 3) := by decide +kernel
theorem dL_law_1197 : decode cL_law 1197 = .ok (.aload_n 2, 1) := by decide +kernel
theorem dL_law_1198 : decode cL_law 1198 = .ok (.aload_n 0, 1) := by decide +kernel
theorem dL_law_1199 : decode cL_law 1199 = .ok (.iload_n 3, 1) := by decide +kernel
theorem dL_law_1200 : decode cL_law 1200 = .ok (.iconst 1, 1) := by decide +kernel
theorem dL_law_1201 : decode cL_law 1201 = .ok (.iadd, 1) := by decide +kernel
theorem dL_law_1202 : decode cL_law 1202 = .ok (.iaload, 1) := by decide +kernel
theorem dL_law_1203 : decode cL_law 1203 = .ok (.aload_n 0, 1) := by decide +kernel
theorem dL_law_1204 : decode cL_law 1204 = .ok (.iload_n 3, 1) := by decide +kernel
theorem dL_law_1205 : decode cL_law 1205 = .ok (.iconst 2, 1) := by decide +kernel
theorem dL_law_1206 : decode cL_law 1206 = .ok (.iadd, 1) := by decide +kernel
theorem dL_law_1207 : decode cL_law 1207 = .ok (.iaload, 1) := by decide +kernel
theorem dL_law_1208 : decode cL_law 1208 = .ok (.aload_n 0, 1) := by decide +kernel
theorem dL_law_1209 : decode cL_law 1209 = .ok (.iload_n 3, 1) := by decide +kernel
theorem dL_law_1210 : decode cL_law 1210 = .ok (.iconst 3, 1) := by decide +kernel
theorem dL_law_1211 : decode cL_law 1211 = .ok (.iadd, 1) := by decide +kernel
theorem dL_law_1212 : decode cL_law 1212 = .ok (.iaload, 1) := by decide +kernel
theorem dL_law_1213 : decode cL_law 1213 = .ok (.invokevirtual 138, 3) := by decide +kernel
theorem dL_law_1216 : decode cL_law 1216 = .ok (.if_icmp .eq 330, 3) := by decide +kernel
set_option maxHeartbeats 8000000 in
set_option maxRecDepth 100000 in
theorem law_case_29 {p : Program} {l : Launch} {e : Env} {s : State} {m : MethodId} {below : List Frame} {meth : Method} {c : Code} {b : Nat} {xs : Nat → Int32} {D : va_G} {cs : Nat → ClassId} {k : (Nat → Nat) × (Nat → Nat)} {ad ae am : Nat → Nat} {wb : Nat} {g pf : Nat → Option Nat} (C0 : lw_At p s m meth c b 6 xs) (hK : va_K D classes (zT cs) s) (hO : zO s) (hE : zE k (fun q : Nat => s.heap.size ≤ q) s) (GF : ∀ t, t < 8 → g (24 + t) = some (ae 0)) (PF : ∀ j, j < 6 → pf j = some (ae (2 + 2 * j))) (H : Heap) (locs : List Loc) (ls : Array Slot) (hP : va_P D classes (zF ad cs ae wb g pf ++ zM am cs) H) (hD : va_D (fun q : Nat => s.heap.size ≤ q) (zF ad cs ae wb g pf ++ zM am cs)) (hS : va_S (fun q : Nat => s.heap.size ≤ q) s.heap H locs) (hl : lv_has ls 4 [(0, .ref b), (1, .ref (ad 0)), (2, .ref (am 41)), (3, .int (0 : Int32))]) : W p l e room_1 s m #[Value.ref b] below meth c H locs 2000 200000 (lw_Z below #[Value.ref b] s) (F0 m 1178 ls []) := by
  obtain ⟨hx, hb, hr, hml, hown, hts, hX, hbl, hlocks, hgv⟩ := id C0
  have hA : ∀ q : Nat, s.heap.size ≤ q → (fun q : Nat => s.heap.size ≤ q) q := fun _ h => h
  have hbA : ¬ (fun q : Nat => s.heap.size ≤ q) b := Nat.not_le.mpr hbl
  have ht : ∀ w ∈ zW, w.before #[Value.ref b] s = true := fun w hw => hts w (List.mem_filter.mp hw).1
  obtain ⟨R1, R2, h1, h2, eq⟩ := pe_act (g := g) (pf := pf) (ae := ae) (wb := wb) GF PF (xs ((0 : Int32) + (1 : Int32)).toNatClampNeg) (xs ((0 : Int32) + (2 : Int32)).toNatClampNeg) (xs ((0 : Int32) + (3 : Int32)).toNatClampNeg) 
  refine lv_aload_n hx hb dL_law_1178 rfl (lv_at hl 1 rfl) ?_
  refine lv_aload_n hx hb dL_law_1179 rfl (lv_at hl 0 rfl) ?_
  refine lv_iload_n hx hb dL_law_1180 rfl (lv_at hl 3 rfl) ?_
  refine lv_iconst (v := (1 : Int32)) hx hb dL_law_1181 (by decide) ?_
  refine lv_iadd hx hb dL_law_1182 ?_
  refine va_sld hx hb hX hbl hbA hS (by unfold vp_in; decide) dL_law_1183 ?_
  refine lv_aload_n hx hb dL_law_1184 rfl (lv_at hl 0 rfl) ?_
  refine lv_iload_n hx hb dL_law_1185 rfl (lv_at hl 3 rfl) ?_
  refine lv_iconst (v := (2 : Int32)) hx hb dL_law_1186 (by decide) ?_
  refine lv_iadd hx hb dL_law_1187 ?_
  refine va_sld hx hb hX hbl hbA hS (by unfold vp_in; decide) dL_law_1188 ?_
  refine lv_aload_n hx hb dL_law_1189 rfl (lv_at hl 0 rfl) ?_
  refine lv_iload_n hx hb dL_law_1190 rfl (lv_at hl 3 rfl) ?_
  refine lv_iconst (v := (3 : Int32)) hx hb dL_law_1191 (by decide) ?_
  refine lv_iadd hx hb dL_law_1192 ?_
  refine va_sld hx hb hX hbl hbA hS (by unfold vp_in; decide) dL_law_1193 ?_
  refine zk_vi (post := (fun r u => (r, u) = R1)) (w1 := fun u => (wl_X11_act ad cs 0 0 0 u 0 0 0)) (As := [.int (xs ((0 : Int32) + (1 : Int32)).toNatClampNeg), .int (xs ((0 : Int32) + (2 : Int32)).toNatClampNeg), .int (xs ((0 : Int32) + (3 : Int32)).toNatClampNeg)]) (rest := []) (c_X11_act l D cs ad   H.size (xs ((0 : Int32) + (1 : Int32)).toNatClampNeg) (xs ((0 : Int32) + (2 : Int32)).toNatClampNeg) (xs ((0 : Int32) + (3 : Int32)).toNatClampNeg) 0 0 0 0 0 0 0 R1 h1) ⟨hx, hb, hml, hown, ht⟩ (cwV 3 ht gl_135 rfl rfl rfl (by decide +kernel) ⟨Nat.le_of_ble_eq_true rfl, Nat.le_of_ble_eq_true rfl⟩) (va_recv hK hP (ci := 11) (q0 := 0) rfl rfl) hP hD hS hK hA [0, 4, 39] [55, 56, 57, 58, 59, 60, 61, 62, 63, 64, 65, 66, 67, 68, 69, 70, 71, 72, 73, 74, 75, 76, 77, 78, 79, 80, 81, 82, 83, 84, 85, 86, 87, 88, 89, 90, 91, 92, 93, 94, 95, 96, 97, 98] rfl rfl law_hR law_nd (law_dis rfl) rfl hl.1 (Nat.le_of_ble_eq_true rfl) dL_law_1194 ⟨Nat.le_of_ble_eq_true rfl, Nat.le_of_ble_eq_true rfl⟩ (fun r1 u1 H locs hq1 hP hD hS => ?_)
  have e1 : r1 = R1.1 := congrArg Prod.fst hq1
  rw [law_fm] at hP hD
  refine lv_aload_n hx hb dL_law_1197 rfl (lv_at hl 2 rfl) ?_
  refine lv_aload_n hx hb dL_law_1198 rfl (lv_at hl 0 rfl) ?_
  refine lv_iload_n hx hb dL_law_1199 rfl (lv_at hl 3 rfl) ?_
  refine lv_iconst (v := (1 : Int32)) hx hb dL_law_1200 (by decide) ?_
  refine lv_iadd hx hb dL_law_1201 ?_
  refine va_sld hx hb hX hbl hbA hS (by unfold vp_in; decide) dL_law_1202 ?_
  refine lv_aload_n hx hb dL_law_1203 rfl (lv_at hl 0 rfl) ?_
  refine lv_iload_n hx hb dL_law_1204 rfl (lv_at hl 3 rfl) ?_
  refine lv_iconst (v := (2 : Int32)) hx hb dL_law_1205 (by decide) ?_
  refine lv_iadd hx hb dL_law_1206 ?_
  refine va_sld hx hb hX hbl hbA hS (by unfold vp_in; decide) dL_law_1207 ?_
  refine lv_aload_n hx hb dL_law_1208 rfl (lv_at hl 0 rfl) ?_
  refine lv_iload_n hx hb dL_law_1209 rfl (lv_at hl 3 rfl) ?_
  refine lv_iconst (v := (3 : Int32)) hx hb dL_law_1210 (by decide) ?_
  refine lv_iadd hx hb dL_law_1211 ?_
  refine va_sld hx hb hX hbl hbA hS (by unfold vp_in; decide) dL_law_1212 ?_
  refine zk_vi (post := (fun r u => (r, u) = R2)) (w1 := fun u => (wl_X12_act am cs 0 0 0 0 0 0 0 0 0 0 0 0 0 0 0 0 u.1 ((fun _ => 0)) ((fun _ => 0)) ((fun _ => 0)) u.2)) (As := [.int (xs ((0 : Int32) + (1 : Int32)).toNatClampNeg), .int (xs ((0 : Int32) + (2 : Int32)).toNatClampNeg), .int (xs ((0 : Int32) + (3 : Int32)).toNatClampNeg)]) (rest := [.int r1]) (c_X12_act l D cs am   H.size (xs ((0 : Int32) + (1 : Int32)).toNatClampNeg) (xs ((0 : Int32) + (2 : Int32)).toNatClampNeg) (xs ((0 : Int32) + (3 : Int32)).toNatClampNeg) 0 0 0 0 0 0 0 0 0 0 0 0 0 0 0 0 0 ((fun _ => 0)) ((fun _ => 0)) ((fun _ => 0)) ((fun _ => 0)) R2 h2) ⟨hx, hb, hml, hown, ht⟩ (cwV 3 ht gl_138 rfl rfl rfl (by decide +kernel) ⟨Nat.le_of_ble_eq_true rfl, Nat.le_of_ble_eq_true rfl⟩) (va_recv hK hP (ci := 12) (q0 := 0) rfl rfl) hP hD hS hK hA [0, 12, 16, 17, 39] [] rfl rfl rfl rfl (by decide) rfl hl.1 (Nat.le_of_ble_eq_true rfl) dL_law_1213 ⟨Nat.le_of_ble_eq_true rfl, Nat.le_of_ble_eq_true rfl⟩ (fun r2 u2 H locs hq2 hP hD hS => ?_)
  have e2 : r2 = R2.1 := congrArg Prod.fst hq2
  have EQ : r1 = r2 := by rw [e1, e2]; exact eq
  refine lv_icmp_eq (tgt := 1546) hx hb dL_law_1216 (by decide) (fun cc => ?_) (fun cc => absurd EQ cc)
  exact law_next C0 (by decide) (by decide) H locs ls hS (lv_sub hl [0, 3] rfl)
theorem dL_law_1221 : decode cL_law 1221 = .ok (.aload_n 1, 1) := by decide +kernel
theorem dL_law_1222 : decode cL_law 1222 = .ok (.aload_n 0, 1) := by decide +kernel
theorem dL_law_1223 : decode cL_law 1223 = .ok (.iload_n 3, 1) := by decide +kernel
theorem dL_law_1224 : decode cL_law 1224 = .ok (.iconst 1, 1) := by decide +kernel
theorem dL_law_1225 : decode cL_law 1225 = .ok (.iadd, 1) := by decide +kernel
theorem dL_law_1226 : decode cL_law 1226 = .ok (.iaload, 1) := by decide +kernel
theorem dL_law_1227 : decode cL_law 1227 = .ok (.invokevirtual 139, 3) := by decide +kernel
theorem dL_law_1230 : decode cL_law 1230 = .ok (.aload_n 2, 1) := by decide +kernel
theorem dL_law_1231 : decode cL_law 1231 = .ok (.aload_n 0, 1) := by decide +kernel
theorem dL_law_1232 : decode cL_law 1232 = .ok (.iload_n 3, 1) := by decide +kernel
theorem dL_law_1233 : decode cL_law 1233 = .ok (.iconst 1, 1) := by decide +kernel
theorem dL_law_1234 : decode cL_law 1234 = .ok (.iadd, 1) := by decide +kernel
theorem dL_law_1235 : decode cL_law 1235 = .ok (.iaload, 1) := by decide +kernel
theorem dL_law_1236 : decode cL_law 1236 = .ok (.invokevirtual 142, 3) := by decide +kernel
theorem dL_law_1239 : decode cL_law 1239 = .ok (.if_icmp .eq 307, 3) := by decide +kernel
set_option maxHeartbeats 8000000 in
set_option maxRecDepth 100000 in
theorem law_case_30 {p : Program} {l : Launch} {e : Env} {s : State} {m : MethodId} {below : List Frame} {meth : Method} {c : Code} {b : Nat} {xs : Nat → Int32} {D : va_G} {cs : Nat → ClassId} {k : (Nat → Nat) × (Nat → Nat)} {ad ae am : Nat → Nat} {wb : Nat} {g pf : Nat → Option Nat} (C0 : lw_At p s m meth c b 6 xs) (hK : va_K D classes (zT cs) s) (hO : zO s) (hE : zE k (fun q : Nat => s.heap.size ≤ q) s) (GF : ∀ t, t < 8 → g (24 + t) = some (ae 0)) (PF : ∀ j, j < 6 → pf j = some (ae (2 + 2 * j))) (H : Heap) (locs : List Loc) (ls : Array Slot) (hP : va_P D classes (zF ad cs ae wb g pf ++ zM am cs) H) (hD : va_D (fun q : Nat => s.heap.size ≤ q) (zF ad cs ae wb g pf ++ zM am cs)) (hS : va_S (fun q : Nat => s.heap.size ≤ q) s.heap H locs) (hl : lv_has ls 4 [(0, .ref b), (1, .ref (ad 0)), (2, .ref (am 41)), (3, .int (0 : Int32))]) : W p l e room_1 s m #[Value.ref b] below meth c H locs 2000 200000 (lw_Z below #[Value.ref b] s) (F0 m 1221 ls []) := by
  obtain ⟨hx, hb, hr, hml, hown, hts, hX, hbl, hlocks, hgv⟩ := id C0
  have hA : ∀ q : Nat, s.heap.size ≤ q → (fun q : Nat => s.heap.size ≤ q) q := fun _ h => h
  have hbA : ¬ (fun q : Nat => s.heap.size ≤ q) b := Nat.not_le.mpr hbl
  have ht : ∀ w ∈ zW, w.before #[Value.ref b] s = true := fun w hw => hts w (List.mem_filter.mp hw).1
  obtain ⟨R1, R2, h1, h2, eq⟩ := pe_trace (g := g) (pf := pf) (ae := ae) (wb := wb) GF PF (xs ((0 : Int32) + (1 : Int32)).toNatClampNeg) 
  refine lv_aload_n hx hb dL_law_1221 rfl (lv_at hl 1 rfl) ?_
  refine lv_aload_n hx hb dL_law_1222 rfl (lv_at hl 0 rfl) ?_
  refine lv_iload_n hx hb dL_law_1223 rfl (lv_at hl 3 rfl) ?_
  refine lv_iconst (v := (1 : Int32)) hx hb dL_law_1224 (by decide) ?_
  refine lv_iadd hx hb dL_law_1225 ?_
  refine va_sld hx hb hX hbl hbA hS (by unfold vp_in; decide) dL_law_1226 ?_
  refine zk_vi (post := (fun r u => (r, u) = R1)) (w1 := fun u => (wl_X11_trace ad cs 0 0 0 0 (fun _ => 0))) (As := [.int (xs ((0 : Int32) + (1 : Int32)).toNatClampNeg)]) (rest := []) (c_X11_trace l D cs ad   H.size (xs ((0 : Int32) + (1 : Int32)).toNatClampNeg) 0 0 0 0 (fun _ => 0) R1 h1) ⟨hx, hb, hml, hown, ht⟩ (cwV 1 ht gl_139 rfl rfl rfl (by decide +kernel) ⟨Nat.le_of_ble_eq_true rfl, Nat.le_of_ble_eq_true rfl⟩) (va_recv hK hP (ci := 11) (q0 := 0) rfl rfl) hP hD hS hK hA [0, 39, 40] [55, 56, 57, 58, 59, 60, 61, 62, 63, 64, 65, 66, 67, 68, 69, 70, 71, 72, 73, 74, 75, 76, 77, 78, 79, 80, 81, 82, 83, 84, 85, 86, 87, 88, 89, 90, 91, 92, 93, 94, 95, 96, 97, 98] rfl rfl law_hR law_nd (law_dis rfl) rfl hl.1 (Nat.le_of_ble_eq_true rfl) dL_law_1227 ⟨Nat.le_of_ble_eq_true rfl, Nat.le_of_ble_eq_true rfl⟩ (fun r1 u1 H locs hq1 hP hD hS => ?_)
  have e1 : r1 = R1.1 := congrArg Prod.fst hq1
  rw [law_fm] at hP hD
  refine lv_aload_n hx hb dL_law_1230 rfl (lv_at hl 2 rfl) ?_
  refine lv_aload_n hx hb dL_law_1231 rfl (lv_at hl 0 rfl) ?_
  refine lv_iload_n hx hb dL_law_1232 rfl (lv_at hl 3 rfl) ?_
  refine lv_iconst (v := (1 : Int32)) hx hb dL_law_1233 (by decide) ?_
  refine lv_iadd hx hb dL_law_1234 ?_
  refine va_sld hx hb hX hbl hbA hS (by unfold vp_in; decide) dL_law_1235 ?_
  refine zk_vi (post := (fun r u => (r, u) = R2)) (w1 := fun u => (wl_X12_trace am cs 0 0 0 0 0 0 0 0 0 0 0 0 0 0 0 0 0 ((fun _ => 0)))) (As := [.int (xs ((0 : Int32) + (1 : Int32)).toNatClampNeg)]) (rest := [.int r1]) (c_X12_trace l D cs am   H.size (xs ((0 : Int32) + (1 : Int32)).toNatClampNeg) 0 0 0 0 0 0 0 0 0 0 0 0 0 0 0 0 0 ((fun _ => 0)) R2 h2) ⟨hx, hb, hml, hown, ht⟩ (cwV 1 ht gl_142 rfl rfl rfl (by decide +kernel) ⟨Nat.le_of_ble_eq_true rfl, Nat.le_of_ble_eq_true rfl⟩) (va_recv hK hP (ci := 12) (q0 := 0) rfl rfl) hP hD hS hK hA [0, 39] [] rfl rfl rfl rfl (by decide) rfl hl.1 (Nat.le_of_ble_eq_true rfl) dL_law_1236 ⟨Nat.le_of_ble_eq_true rfl, Nat.le_of_ble_eq_true rfl⟩ (fun r2 u2 H locs hq2 hP hD hS => ?_)
  have e2 : r2 = R2.1 := congrArg Prod.fst hq2
  have EQ : r1 = r2 := by rw [e1, e2]; exact eq
  refine lv_icmp_eq (tgt := 1546) hx hb dL_law_1239 (by decide) (fun cc => ?_) (fun cc => absurd EQ cc)
  exact law_next C0 (by decide) (by decide) H locs ls hS (lv_sub hl [0, 3] rfl)
theorem dL_law_1244 : decode cL_law 1244 = .ok (.aload_n 1, 1) := by decide +kernel
theorem dL_law_1245 : decode cL_law 1245 = .ok (.aload_n 0, 1) := by decide +kernel
theorem dL_law_1246 : decode cL_law 1246 = .ok (.iload_n 3, 1) := by decide +kernel
theorem dL_law_1247 : decode cL_law 1247 = .ok (.iconst 1, 1) := by decide +kernel
theorem dL_law_1248 : decode cL_law 1248 = .ok (.iadd, 1) := by decide +kernel
theorem dL_law_1249 : decode cL_law 1249 = .ok (.iaload, 1) := by decide +kernel
theorem dL_law_1250 : decode cL_law 1250 = .ok (.aload_n 0, 1) := by decide +kernel
theorem dL_law_1251 : decode cL_law 1251 = .ok (.iload_n 3, 1) := by decide +kernel
theorem dL_law_1252 : decode cL_law 1252 = .ok (.iconst 2, 1) := by decide +kernel
theorem dL_law_1253 : decode cL_law 1253 = .ok (.iadd, 1) := by decide +kernel
theorem dL_law_1254 : decode cL_law 1254 = .ok (.iaload, 1) := by decide +kernel
theorem dL_law_1255 : decode cL_law 1255 = .ok (.invokevirtual 143, 3) := by decide +kernel
theorem dL_law_1258 : decode cL_law 1258 = .ok (.aload_n 2, 1) := by decide +kernel
theorem dL_law_1259 : decode cL_law 1259 = .ok (.aload_n 0, 1) := by decide +kernel
theorem dL_law_1260 : decode cL_law 1260 = .ok (.iload_n 3, 1) := by decide +kernel
theorem dL_law_1261 : decode cL_law 1261 = .ok (.iconst 1, 1) := by decide +kernel
theorem dL_law_1262 : decode cL_law 1262 = .ok (.iadd, 1) := by decide +kernel
theorem dL_law_1263 : decode cL_law 1263 = .ok (.iaload, 1) := by decide +kernel
theorem dL_law_1264 : decode cL_law 1264 = .ok (.aload_n 0, 1) := by decide +kernel
theorem dL_law_1265 : decode cL_law 1265 = .ok (.iload_n 3, 1) := by decide +kernel
theorem dL_law_1266 : decode cL_law 1266 = .ok (.iconst 2, 1) := by decide +kernel
theorem dL_law_1267 : decode cL_law 1267 = .ok (.iadd, 1) := by decide +kernel
theorem dL_law_1268 : decode cL_law 1268 = .ok (.iaload, 1) := by decide +kernel
theorem dL_law_1269 : decode cL_law 1269 = .ok (.invokevirtual 146, 3) := by decide +kernel
theorem dL_law_1272 : decode cL_law 1272 = .ok (.if_icmp .eq 274, 3) := by decide +kernel
set_option maxHeartbeats 8000000 in
set_option maxRecDepth 100000 in
theorem law_case_31 {p : Program} {l : Launch} {e : Env} {s : State} {m : MethodId} {below : List Frame} {meth : Method} {c : Code} {b : Nat} {xs : Nat → Int32} {D : va_G} {cs : Nat → ClassId} {k : (Nat → Nat) × (Nat → Nat)} {ad ae am : Nat → Nat} {wb : Nat} {g pf : Nat → Option Nat} (C0 : lw_At p s m meth c b 6 xs) (hK : va_K D classes (zT cs) s) (hO : zO s) (hE : zE k (fun q : Nat => s.heap.size ≤ q) s) (GF : ∀ t, t < 8 → g (24 + t) = some (ae 0)) (PF : ∀ j, j < 6 → pf j = some (ae (2 + 2 * j))) (H : Heap) (locs : List Loc) (ls : Array Slot) (hP : va_P D classes (zF ad cs ae wb g pf ++ zM am cs) H) (hD : va_D (fun q : Nat => s.heap.size ≤ q) (zF ad cs ae wb g pf ++ zM am cs)) (hS : va_S (fun q : Nat => s.heap.size ≤ q) s.heap H locs) (hl : lv_has ls 4 [(0, .ref b), (1, .ref (ad 0)), (2, .ref (am 41)), (3, .int (0 : Int32))]) : W p l e room_1 s m #[Value.ref b] below meth c H locs 2000 200000 (lw_Z below #[Value.ref b] s) (F0 m 1244 ls []) := by
  obtain ⟨hx, hb, hr, hml, hown, hts, hX, hbl, hlocks, hgv⟩ := id C0
  have hA : ∀ q : Nat, s.heap.size ≤ q → (fun q : Nat => s.heap.size ≤ q) q := fun _ h => h
  have hbA : ¬ (fun q : Nat => s.heap.size ≤ q) b := Nat.not_le.mpr hbl
  have ht : ∀ w ∈ zW, w.before #[Value.ref b] s = true := fun w hw => hts w (List.mem_filter.mp hw).1
  obtain ⟨j0, hj0, hp0⟩ := zk_pl (xs ((0 : Int32) + (1 : Int32)).toNatClampNeg)
  rcases (show j0 = 0 ∨ j0 = 1 ∨ j0 = 2 ∨ j0 = 3 ∨ j0 = 4 ∨ j0 = 5 by omega) with rfl | rfl | rfl | rfl | rfl | rfl
  · obtain ⟨R1, R2, h1, h2, eq⟩ := pe_keep (g := g) (pf := pf) (ae := ae) (wb := wb) GF PF 0 (by omega) (xs ((0 : Int32) + (1 : Int32)).toNatClampNeg) (xs ((0 : Int32) + (2 : Int32)).toNatClampNeg) hp0
    refine lv_aload_n hx hb dL_law_1244 rfl (lv_at hl 1 rfl) ?_
    refine lv_aload_n hx hb dL_law_1245 rfl (lv_at hl 0 rfl) ?_
    refine lv_iload_n hx hb dL_law_1246 rfl (lv_at hl 3 rfl) ?_
    refine lv_iconst (v := (1 : Int32)) hx hb dL_law_1247 (by decide) ?_
    refine lv_iadd hx hb dL_law_1248 ?_
    refine va_sld hx hb hX hbl hbA hS (by unfold vp_in; decide) dL_law_1249 ?_
    refine lv_aload_n hx hb dL_law_1250 rfl (lv_at hl 0 rfl) ?_
    refine lv_iload_n hx hb dL_law_1251 rfl (lv_at hl 3 rfl) ?_
    refine lv_iconst (v := (2 : Int32)) hx hb dL_law_1252 (by decide) ?_
    refine lv_iadd hx hb dL_law_1253 ?_
    refine va_sld hx hb hX hbl hbA hS (by unfold vp_in; decide) dL_law_1254 ?_
    refine zk_vi (post := (fun r u => (r, u) = R1)) (w1 := fun u => (wl_X11_keep ad cs (ae 2) (ae 3) pf 0 0 0 u.1 u.2 0)) (As := [.int (xs ((0 : Int32) + (1 : Int32)).toNatClampNeg), .int (xs ((0 : Int32) + (2 : Int32)).toNatClampNeg)]) (rest := []) (c_X11_keep l D cs ad (ae 2) (ae 3)  H.size (xs ((0 : Int32) + (1 : Int32)).toNatClampNeg) (xs ((0 : Int32) + (2 : Int32)).toNatClampNeg) pf 0 0 0 (-1) 0 0 R1 h1) ⟨hx, hb, hml, hown, ht⟩ (cwV 2 ht gl_143 rfl rfl rfl (by decide +kernel) ⟨Nat.le_of_ble_eq_true rfl, Nat.le_of_ble_eq_true rfl⟩) (va_recv hK hP (ci := 11) (q0 := 0) rfl rfl) hP hD hS hK hA [0, 1, 4, 43] [55, 56, 57, 58, 59, 60, 61, 62, 63, 64, 65, 66, 67, 68, 69, 70, 71, 72, 73, 74, 75, 76, 77, 78, 79, 80, 81, 82, 83, 84, 85, 86, 87, 88, 89, 90, 91, 92, 93, 94, 95, 96, 97, 98] rfl rfl law_hR law_nd (law_dis rfl) rfl hl.1 (Nat.le_of_ble_eq_true rfl) dL_law_1255 ⟨Nat.le_of_ble_eq_true rfl, Nat.le_of_ble_eq_true rfl⟩ (fun r1 u1 H locs hq1 hP hD hS => ?_)
    have e1 : r1 = R1.1 := congrArg Prod.fst hq1
    rw [law_fm] at hP hD
    refine lv_aload_n hx hb dL_law_1258 rfl (lv_at hl 2 rfl) ?_
    refine lv_aload_n hx hb dL_law_1259 rfl (lv_at hl 0 rfl) ?_
    refine lv_iload_n hx hb dL_law_1260 rfl (lv_at hl 3 rfl) ?_
    refine lv_iconst (v := (1 : Int32)) hx hb dL_law_1261 (by decide) ?_
    refine lv_iadd hx hb dL_law_1262 ?_
    refine va_sld hx hb hX hbl hbA hS (by unfold vp_in; decide) dL_law_1263 ?_
    refine lv_aload_n hx hb dL_law_1264 rfl (lv_at hl 0 rfl) ?_
    refine lv_iload_n hx hb dL_law_1265 rfl (lv_at hl 3 rfl) ?_
    refine lv_iconst (v := (2 : Int32)) hx hb dL_law_1266 (by decide) ?_
    refine lv_iadd hx hb dL_law_1267 ?_
    refine va_sld hx hb hX hbl hbA hS (by unfold vp_in; decide) dL_law_1268 ?_
    refine zk_vi (post := (fun r u => (r, u) = R2)) (w1 := fun u => (wl_X12_keep am cs 0 0 0 0 0 0 0 0 0 0 0 0 0 0 0 0 0 u)) (As := [.int (xs ((0 : Int32) + (1 : Int32)).toNatClampNeg), .int (xs ((0 : Int32) + (2 : Int32)).toNatClampNeg)]) (rest := [.int r1]) (c_X12_keep l D cs am   H.size (xs ((0 : Int32) + (1 : Int32)).toNatClampNeg) (xs ((0 : Int32) + (2 : Int32)).toNatClampNeg) 0 0 0 0 0 0 0 0 0 0 0 0 0 0 0 0 0 ((upd (upd (upd (upd (upd (upd (fun _ => 0) ((0 : Int32)).toNatClampNeg (-1 : Int32)) ((1 : Int32)).toNatClampNeg (-1 : Int32)) ((2 : Int32)).toNatClampNeg (-1 : Int32)) ((3 : Int32)).toNatClampNeg (-1 : Int32)) ((4 : Int32)).toNatClampNeg (-1 : Int32)) ((5 : Int32)).toNatClampNeg (-1 : Int32))) R2 h2) ⟨hx, hb, hml, hown, ht⟩ (cwV 2 ht gl_146 rfl rfl rfl (by decide +kernel) ⟨Nat.le_of_ble_eq_true rfl, Nat.le_of_ble_eq_true rfl⟩) (va_recv hK hP (ci := 12) (q0 := 0) rfl rfl) hP hD hS hK hA [0, 40] [] rfl rfl rfl rfl (by decide) rfl hl.1 (Nat.le_of_ble_eq_true rfl) dL_law_1269 ⟨Nat.le_of_ble_eq_true rfl, Nat.le_of_ble_eq_true rfl⟩ (fun r2 u2 H locs hq2 hP hD hS => ?_)
    have e2 : r2 = R2.1 := congrArg Prod.fst hq2
    have EQ : r1 = r2 := by rw [e1, e2]; exact eq
    refine lv_icmp_eq (tgt := 1546) hx hb dL_law_1272 (by decide) (fun cc => ?_) (fun cc => absurd EQ cc)
    exact law_next C0 (by decide) (by decide) H locs ls hS (lv_sub hl [0, 3] rfl)
  · obtain ⟨R1, R2, h1, h2, eq⟩ := pe_keep (g := g) (pf := pf) (ae := ae) (wb := wb) GF PF 1 (by omega) (xs ((0 : Int32) + (1 : Int32)).toNatClampNeg) (xs ((0 : Int32) + (2 : Int32)).toNatClampNeg) hp0
    refine lv_aload_n hx hb dL_law_1244 rfl (lv_at hl 1 rfl) ?_
    refine lv_aload_n hx hb dL_law_1245 rfl (lv_at hl 0 rfl) ?_
    refine lv_iload_n hx hb dL_law_1246 rfl (lv_at hl 3 rfl) ?_
    refine lv_iconst (v := (1 : Int32)) hx hb dL_law_1247 (by decide) ?_
    refine lv_iadd hx hb dL_law_1248 ?_
    refine va_sld hx hb hX hbl hbA hS (by unfold vp_in; decide) dL_law_1249 ?_
    refine lv_aload_n hx hb dL_law_1250 rfl (lv_at hl 0 rfl) ?_
    refine lv_iload_n hx hb dL_law_1251 rfl (lv_at hl 3 rfl) ?_
    refine lv_iconst (v := (2 : Int32)) hx hb dL_law_1252 (by decide) ?_
    refine lv_iadd hx hb dL_law_1253 ?_
    refine va_sld hx hb hX hbl hbA hS (by unfold vp_in; decide) dL_law_1254 ?_
    refine zk_vi (post := (fun r u => (r, u) = R1)) (w1 := fun u => (wl_X11_keep ad cs (ae 4) (ae 5) pf 0 0 0 u.1 u.2 0)) (As := [.int (xs ((0 : Int32) + (1 : Int32)).toNatClampNeg), .int (xs ((0 : Int32) + (2 : Int32)).toNatClampNeg)]) (rest := []) (c_X11_keep l D cs ad (ae 4) (ae 5)  H.size (xs ((0 : Int32) + (1 : Int32)).toNatClampNeg) (xs ((0 : Int32) + (2 : Int32)).toNatClampNeg) pf 0 0 0 (-1) 0 0 R1 h1) ⟨hx, hb, hml, hown, ht⟩ (cwV 2 ht gl_143 rfl rfl rfl (by decide +kernel) ⟨Nat.le_of_ble_eq_true rfl, Nat.le_of_ble_eq_true rfl⟩) (va_recv hK hP (ci := 11) (q0 := 0) rfl rfl) hP hD hS hK hA [0, 1, 4, 45] [55, 56, 57, 58, 59, 60, 61, 62, 63, 64, 65, 66, 67, 68, 69, 70, 71, 72, 73, 74, 75, 76, 77, 78, 79, 80, 81, 82, 83, 84, 85, 86, 87, 88, 89, 90, 91, 92, 93, 94, 95, 96, 97, 98] rfl rfl law_hR law_nd (law_dis rfl) rfl hl.1 (Nat.le_of_ble_eq_true rfl) dL_law_1255 ⟨Nat.le_of_ble_eq_true rfl, Nat.le_of_ble_eq_true rfl⟩ (fun r1 u1 H locs hq1 hP hD hS => ?_)
    have e1 : r1 = R1.1 := congrArg Prod.fst hq1
    rw [law_fm] at hP hD
    refine lv_aload_n hx hb dL_law_1258 rfl (lv_at hl 2 rfl) ?_
    refine lv_aload_n hx hb dL_law_1259 rfl (lv_at hl 0 rfl) ?_
    refine lv_iload_n hx hb dL_law_1260 rfl (lv_at hl 3 rfl) ?_
    refine lv_iconst (v := (1 : Int32)) hx hb dL_law_1261 (by decide) ?_
    refine lv_iadd hx hb dL_law_1262 ?_
    refine va_sld hx hb hX hbl hbA hS (by unfold vp_in; decide) dL_law_1263 ?_
    refine lv_aload_n hx hb dL_law_1264 rfl (lv_at hl 0 rfl) ?_
    refine lv_iload_n hx hb dL_law_1265 rfl (lv_at hl 3 rfl) ?_
    refine lv_iconst (v := (2 : Int32)) hx hb dL_law_1266 (by decide) ?_
    refine lv_iadd hx hb dL_law_1267 ?_
    refine va_sld hx hb hX hbl hbA hS (by unfold vp_in; decide) dL_law_1268 ?_
    refine zk_vi (post := (fun r u => (r, u) = R2)) (w1 := fun u => (wl_X12_keep am cs 0 0 0 0 0 0 0 0 0 0 0 0 0 0 0 0 0 u)) (As := [.int (xs ((0 : Int32) + (1 : Int32)).toNatClampNeg), .int (xs ((0 : Int32) + (2 : Int32)).toNatClampNeg)]) (rest := [.int r1]) (c_X12_keep l D cs am   H.size (xs ((0 : Int32) + (1 : Int32)).toNatClampNeg) (xs ((0 : Int32) + (2 : Int32)).toNatClampNeg) 0 0 0 0 0 0 0 0 0 0 0 0 0 0 0 0 0 ((upd (upd (upd (upd (upd (upd (fun _ => 0) ((0 : Int32)).toNatClampNeg (-1 : Int32)) ((1 : Int32)).toNatClampNeg (-1 : Int32)) ((2 : Int32)).toNatClampNeg (-1 : Int32)) ((3 : Int32)).toNatClampNeg (-1 : Int32)) ((4 : Int32)).toNatClampNeg (-1 : Int32)) ((5 : Int32)).toNatClampNeg (-1 : Int32))) R2 h2) ⟨hx, hb, hml, hown, ht⟩ (cwV 2 ht gl_146 rfl rfl rfl (by decide +kernel) ⟨Nat.le_of_ble_eq_true rfl, Nat.le_of_ble_eq_true rfl⟩) (va_recv hK hP (ci := 12) (q0 := 0) rfl rfl) hP hD hS hK hA [0, 40] [] rfl rfl rfl rfl (by decide) rfl hl.1 (Nat.le_of_ble_eq_true rfl) dL_law_1269 ⟨Nat.le_of_ble_eq_true rfl, Nat.le_of_ble_eq_true rfl⟩ (fun r2 u2 H locs hq2 hP hD hS => ?_)
    have e2 : r2 = R2.1 := congrArg Prod.fst hq2
    have EQ : r1 = r2 := by rw [e1, e2]; exact eq
    refine lv_icmp_eq (tgt := 1546) hx hb dL_law_1272 (by decide) (fun cc => ?_) (fun cc => absurd EQ cc)
    exact law_next C0 (by decide) (by decide) H locs ls hS (lv_sub hl [0, 3] rfl)
  · obtain ⟨R1, R2, h1, h2, eq⟩ := pe_keep (g := g) (pf := pf) (ae := ae) (wb := wb) GF PF 2 (by omega) (xs ((0 : Int32) + (1 : Int32)).toNatClampNeg) (xs ((0 : Int32) + (2 : Int32)).toNatClampNeg) hp0
    refine lv_aload_n hx hb dL_law_1244 rfl (lv_at hl 1 rfl) ?_
    refine lv_aload_n hx hb dL_law_1245 rfl (lv_at hl 0 rfl) ?_
    refine lv_iload_n hx hb dL_law_1246 rfl (lv_at hl 3 rfl) ?_
    refine lv_iconst (v := (1 : Int32)) hx hb dL_law_1247 (by decide) ?_
    refine lv_iadd hx hb dL_law_1248 ?_
    refine va_sld hx hb hX hbl hbA hS (by unfold vp_in; decide) dL_law_1249 ?_
    refine lv_aload_n hx hb dL_law_1250 rfl (lv_at hl 0 rfl) ?_
    refine lv_iload_n hx hb dL_law_1251 rfl (lv_at hl 3 rfl) ?_
    refine lv_iconst (v := (2 : Int32)) hx hb dL_law_1252 (by decide) ?_
    refine lv_iadd hx hb dL_law_1253 ?_
    refine va_sld hx hb hX hbl hbA hS (by unfold vp_in; decide) dL_law_1254 ?_
    refine zk_vi (post := (fun r u => (r, u) = R1)) (w1 := fun u => (wl_X11_keep ad cs (ae 6) (ae 7) pf 0 0 0 u.1 u.2 0)) (As := [.int (xs ((0 : Int32) + (1 : Int32)).toNatClampNeg), .int (xs ((0 : Int32) + (2 : Int32)).toNatClampNeg)]) (rest := []) (c_X11_keep l D cs ad (ae 6) (ae 7)  H.size (xs ((0 : Int32) + (1 : Int32)).toNatClampNeg) (xs ((0 : Int32) + (2 : Int32)).toNatClampNeg) pf 0 0 0 (-1) 0 0 R1 h1) ⟨hx, hb, hml, hown, ht⟩ (cwV 2 ht gl_143 rfl rfl rfl (by decide +kernel) ⟨Nat.le_of_ble_eq_true rfl, Nat.le_of_ble_eq_true rfl⟩) (va_recv hK hP (ci := 11) (q0 := 0) rfl rfl) hP hD hS hK hA [0, 1, 4, 47] [55, 56, 57, 58, 59, 60, 61, 62, 63, 64, 65, 66, 67, 68, 69, 70, 71, 72, 73, 74, 75, 76, 77, 78, 79, 80, 81, 82, 83, 84, 85, 86, 87, 88, 89, 90, 91, 92, 93, 94, 95, 96, 97, 98] rfl rfl law_hR law_nd (law_dis rfl) rfl hl.1 (Nat.le_of_ble_eq_true rfl) dL_law_1255 ⟨Nat.le_of_ble_eq_true rfl, Nat.le_of_ble_eq_true rfl⟩ (fun r1 u1 H locs hq1 hP hD hS => ?_)
    have e1 : r1 = R1.1 := congrArg Prod.fst hq1
    rw [law_fm] at hP hD
    refine lv_aload_n hx hb dL_law_1258 rfl (lv_at hl 2 rfl) ?_
    refine lv_aload_n hx hb dL_law_1259 rfl (lv_at hl 0 rfl) ?_
    refine lv_iload_n hx hb dL_law_1260 rfl (lv_at hl 3 rfl) ?_
    refine lv_iconst (v := (1 : Int32)) hx hb dL_law_1261 (by decide) ?_
    refine lv_iadd hx hb dL_law_1262 ?_
    refine va_sld hx hb hX hbl hbA hS (by unfold vp_in; decide) dL_law_1263 ?_
    refine lv_aload_n hx hb dL_law_1264 rfl (lv_at hl 0 rfl) ?_
    refine lv_iload_n hx hb dL_law_1265 rfl (lv_at hl 3 rfl) ?_
    refine lv_iconst (v := (2 : Int32)) hx hb dL_law_1266 (by decide) ?_
    refine lv_iadd hx hb dL_law_1267 ?_
    refine va_sld hx hb hX hbl hbA hS (by unfold vp_in; decide) dL_law_1268 ?_
    refine zk_vi (post := (fun r u => (r, u) = R2)) (w1 := fun u => (wl_X12_keep am cs 0 0 0 0 0 0 0 0 0 0 0 0 0 0 0 0 0 u)) (As := [.int (xs ((0 : Int32) + (1 : Int32)).toNatClampNeg), .int (xs ((0 : Int32) + (2 : Int32)).toNatClampNeg)]) (rest := [.int r1]) (c_X12_keep l D cs am   H.size (xs ((0 : Int32) + (1 : Int32)).toNatClampNeg) (xs ((0 : Int32) + (2 : Int32)).toNatClampNeg) 0 0 0 0 0 0 0 0 0 0 0 0 0 0 0 0 0 ((upd (upd (upd (upd (upd (upd (fun _ => 0) ((0 : Int32)).toNatClampNeg (-1 : Int32)) ((1 : Int32)).toNatClampNeg (-1 : Int32)) ((2 : Int32)).toNatClampNeg (-1 : Int32)) ((3 : Int32)).toNatClampNeg (-1 : Int32)) ((4 : Int32)).toNatClampNeg (-1 : Int32)) ((5 : Int32)).toNatClampNeg (-1 : Int32))) R2 h2) ⟨hx, hb, hml, hown, ht⟩ (cwV 2 ht gl_146 rfl rfl rfl (by decide +kernel) ⟨Nat.le_of_ble_eq_true rfl, Nat.le_of_ble_eq_true rfl⟩) (va_recv hK hP (ci := 12) (q0 := 0) rfl rfl) hP hD hS hK hA [0, 40] [] rfl rfl rfl rfl (by decide) rfl hl.1 (Nat.le_of_ble_eq_true rfl) dL_law_1269 ⟨Nat.le_of_ble_eq_true rfl, Nat.le_of_ble_eq_true rfl⟩ (fun r2 u2 H locs hq2 hP hD hS => ?_)
    have e2 : r2 = R2.1 := congrArg Prod.fst hq2
    have EQ : r1 = r2 := by rw [e1, e2]; exact eq
    refine lv_icmp_eq (tgt := 1546) hx hb dL_law_1272 (by decide) (fun cc => ?_) (fun cc => absurd EQ cc)
    exact law_next C0 (by decide) (by decide) H locs ls hS (lv_sub hl [0, 3] rfl)
  · obtain ⟨R1, R2, h1, h2, eq⟩ := pe_keep (g := g) (pf := pf) (ae := ae) (wb := wb) GF PF 3 (by omega) (xs ((0 : Int32) + (1 : Int32)).toNatClampNeg) (xs ((0 : Int32) + (2 : Int32)).toNatClampNeg) hp0
    refine lv_aload_n hx hb dL_law_1244 rfl (lv_at hl 1 rfl) ?_
    refine lv_aload_n hx hb dL_law_1245 rfl (lv_at hl 0 rfl) ?_
    refine lv_iload_n hx hb dL_law_1246 rfl (lv_at hl 3 rfl) ?_
    refine lv_iconst (v := (1 : Int32)) hx hb dL_law_1247 (by decide) ?_
    refine lv_iadd hx hb dL_law_1248 ?_
    refine va_sld hx hb hX hbl hbA hS (by unfold vp_in; decide) dL_law_1249 ?_
    refine lv_aload_n hx hb dL_law_1250 rfl (lv_at hl 0 rfl) ?_
    refine lv_iload_n hx hb dL_law_1251 rfl (lv_at hl 3 rfl) ?_
    refine lv_iconst (v := (2 : Int32)) hx hb dL_law_1252 (by decide) ?_
    refine lv_iadd hx hb dL_law_1253 ?_
    refine va_sld hx hb hX hbl hbA hS (by unfold vp_in; decide) dL_law_1254 ?_
    refine zk_vi (post := (fun r u => (r, u) = R1)) (w1 := fun u => (wl_X11_keep ad cs (ae 8) (ae 9) pf 0 0 0 u.1 u.2 0)) (As := [.int (xs ((0 : Int32) + (1 : Int32)).toNatClampNeg), .int (xs ((0 : Int32) + (2 : Int32)).toNatClampNeg)]) (rest := []) (c_X11_keep l D cs ad (ae 8) (ae 9)  H.size (xs ((0 : Int32) + (1 : Int32)).toNatClampNeg) (xs ((0 : Int32) + (2 : Int32)).toNatClampNeg) pf 0 0 0 (-1) 0 0 R1 h1) ⟨hx, hb, hml, hown, ht⟩ (cwV 2 ht gl_143 rfl rfl rfl (by decide +kernel) ⟨Nat.le_of_ble_eq_true rfl, Nat.le_of_ble_eq_true rfl⟩) (va_recv hK hP (ci := 11) (q0 := 0) rfl rfl) hP hD hS hK hA [0, 1, 4, 49] [55, 56, 57, 58, 59, 60, 61, 62, 63, 64, 65, 66, 67, 68, 69, 70, 71, 72, 73, 74, 75, 76, 77, 78, 79, 80, 81, 82, 83, 84, 85, 86, 87, 88, 89, 90, 91, 92, 93, 94, 95, 96, 97, 98] rfl rfl law_hR law_nd (law_dis rfl) rfl hl.1 (Nat.le_of_ble_eq_true rfl) dL_law_1255 ⟨Nat.le_of_ble_eq_true rfl, Nat.le_of_ble_eq_true rfl⟩ (fun r1 u1 H locs hq1 hP hD hS => ?_)
    have e1 : r1 = R1.1 := congrArg Prod.fst hq1
    rw [law_fm] at hP hD
    refine lv_aload_n hx hb dL_law_1258 rfl (lv_at hl 2 rfl) ?_
    refine lv_aload_n hx hb dL_law_1259 rfl (lv_at hl 0 rfl) ?_
    refine lv_iload_n hx hb dL_law_1260 rfl (lv_at hl 3 rfl) ?_
    refine lv_iconst (v := (1 : Int32)) hx hb dL_law_1261 (by decide) ?_
    refine lv_iadd hx hb dL_law_1262 ?_
    refine va_sld hx hb hX hbl hbA hS (by unfold vp_in; decide) dL_law_1263 ?_
    refine lv_aload_n hx hb dL_law_1264 rfl (lv_at hl 0 rfl) ?_
    refine lv_iload_n hx hb dL_law_1265 rfl (lv_at hl 3 rfl) ?_
    refine lv_iconst (v := (2 : Int32)) hx hb dL_law_1266 (by decide) ?_
    refine lv_iadd hx hb dL_law_1267 ?_
    refine va_sld hx hb hX hbl hbA hS (by unfold vp_in; decide) dL_law_1268 ?_
    refine zk_vi (post := (fun r u => (r, u) = R2)) (w1 := fun u => (wl_X12_keep am cs 0 0 0 0 0 0 0 0 0 0 0 0 0 0 0 0 0 u)) (As := [.int (xs ((0 : Int32) + (1 : Int32)).toNatClampNeg), .int (xs ((0 : Int32) + (2 : Int32)).toNatClampNeg)]) (rest := [.int r1]) (c_X12_keep l D cs am   H.size (xs ((0 : Int32) + (1 : Int32)).toNatClampNeg) (xs ((0 : Int32) + (2 : Int32)).toNatClampNeg) 0 0 0 0 0 0 0 0 0 0 0 0 0 0 0 0 0 ((upd (upd (upd (upd (upd (upd (fun _ => 0) ((0 : Int32)).toNatClampNeg (-1 : Int32)) ((1 : Int32)).toNatClampNeg (-1 : Int32)) ((2 : Int32)).toNatClampNeg (-1 : Int32)) ((3 : Int32)).toNatClampNeg (-1 : Int32)) ((4 : Int32)).toNatClampNeg (-1 : Int32)) ((5 : Int32)).toNatClampNeg (-1 : Int32))) R2 h2) ⟨hx, hb, hml, hown, ht⟩ (cwV 2 ht gl_146 rfl rfl rfl (by decide +kernel) ⟨Nat.le_of_ble_eq_true rfl, Nat.le_of_ble_eq_true rfl⟩) (va_recv hK hP (ci := 12) (q0 := 0) rfl rfl) hP hD hS hK hA [0, 40] [] rfl rfl rfl rfl (by decide) rfl hl.1 (Nat.le_of_ble_eq_true rfl) dL_law_1269 ⟨Nat.le_of_ble_eq_true rfl, Nat.le_of_ble_eq_true rfl⟩ (fun r2 u2 H locs hq2 hP hD hS => ?_)
    have e2 : r2 = R2.1 := congrArg Prod.fst hq2
    have EQ : r1 = r2 := by rw [e1, e2]; exact eq
    refine lv_icmp_eq (tgt := 1546) hx hb dL_law_1272 (by decide) (fun cc => ?_) (fun cc => absurd EQ cc)
    exact law_next C0 (by decide) (by decide) H locs ls hS (lv_sub hl [0, 3] rfl)
  · obtain ⟨R1, R2, h1, h2, eq⟩ := pe_keep (g := g) (pf := pf) (ae := ae) (wb := wb) GF PF 4 (by omega) (xs ((0 : Int32) + (1 : Int32)).toNatClampNeg) (xs ((0 : Int32) + (2 : Int32)).toNatClampNeg) hp0
    refine lv_aload_n hx hb dL_law_1244 rfl (lv_at hl 1 rfl) ?_
    refine lv_aload_n hx hb dL_law_1245 rfl (lv_at hl 0 rfl) ?_
    refine lv_iload_n hx hb dL_law_1246 rfl (lv_at hl 3 rfl) ?_
    refine lv_iconst (v := (1 : Int32)) hx hb dL_law_1247 (by decide) ?_
    refine lv_iadd hx hb dL_law_1248 ?_
    refine va_sld hx hb hX hbl hbA hS (by unfold vp_in; decide) dL_law_1249 ?_
    refine lv_aload_n hx hb dL_law_1250 rfl (lv_at hl 0 rfl) ?_
    refine lv_iload_n hx hb dL_law_1251 rfl (lv_at hl 3 rfl) ?_
    refine lv_iconst (v := (2 : Int32)) hx hb dL_law_1252 (by decide) ?_
    refine lv_iadd hx hb dL_law_1253 ?_
    refine va_sld hx hb hX hbl hbA hS (by unfold vp_in; decide) dL_law_1254 ?_
    refine zk_vi (post := (fun r u => (r, u) = R1)) (w1 := fun u => (wl_X11_keep ad cs (ae 10) (ae 11) pf 0 0 0 u.1 u.2 0)) (As := [.int (xs ((0 : Int32) + (1 : Int32)).toNatClampNeg), .int (xs ((0 : Int32) + (2 : Int32)).toNatClampNeg)]) (rest := []) (c_X11_keep l D cs ad (ae 10) (ae 11)  H.size (xs ((0 : Int32) + (1 : Int32)).toNatClampNeg) (xs ((0 : Int32) + (2 : Int32)).toNatClampNeg) pf 0 0 0 (-1) 0 0 R1 h1) ⟨hx, hb, hml, hown, ht⟩ (cwV 2 ht gl_143 rfl rfl rfl (by decide +kernel) ⟨Nat.le_of_ble_eq_true rfl, Nat.le_of_ble_eq_true rfl⟩) (va_recv hK hP (ci := 11) (q0 := 0) rfl rfl) hP hD hS hK hA [0, 1, 4, 51] [55, 56, 57, 58, 59, 60, 61, 62, 63, 64, 65, 66, 67, 68, 69, 70, 71, 72, 73, 74, 75, 76, 77, 78, 79, 80, 81, 82, 83, 84, 85, 86, 87, 88, 89, 90, 91, 92, 93, 94, 95, 96, 97, 98] rfl rfl law_hR law_nd (law_dis rfl) rfl hl.1 (Nat.le_of_ble_eq_true rfl) dL_law_1255 ⟨Nat.le_of_ble_eq_true rfl, Nat.le_of_ble_eq_true rfl⟩ (fun r1 u1 H locs hq1 hP hD hS => ?_)
    have e1 : r1 = R1.1 := congrArg Prod.fst hq1
    rw [law_fm] at hP hD
    refine lv_aload_n hx hb dL_law_1258 rfl (lv_at hl 2 rfl) ?_
    refine lv_aload_n hx hb dL_law_1259 rfl (lv_at hl 0 rfl) ?_
    refine lv_iload_n hx hb dL_law_1260 rfl (lv_at hl 3 rfl) ?_
    refine lv_iconst (v := (1 : Int32)) hx hb dL_law_1261 (by decide) ?_
    refine lv_iadd hx hb dL_law_1262 ?_
    refine va_sld hx hb hX hbl hbA hS (by unfold vp_in; decide) dL_law_1263 ?_
    refine lv_aload_n hx hb dL_law_1264 rfl (lv_at hl 0 rfl) ?_
    refine lv_iload_n hx hb dL_law_1265 rfl (lv_at hl 3 rfl) ?_
    refine lv_iconst (v := (2 : Int32)) hx hb dL_law_1266 (by decide) ?_
    refine lv_iadd hx hb dL_law_1267 ?_
    refine va_sld hx hb hX hbl hbA hS (by unfold vp_in; decide) dL_law_1268 ?_
    refine zk_vi (post := (fun r u => (r, u) = R2)) (w1 := fun u => (wl_X12_keep am cs 0 0 0 0 0 0 0 0 0 0 0 0 0 0 0 0 0 u)) (As := [.int (xs ((0 : Int32) + (1 : Int32)).toNatClampNeg), .int (xs ((0 : Int32) + (2 : Int32)).toNatClampNeg)]) (rest := [.int r1]) (c_X12_keep l D cs am   H.size (xs ((0 : Int32) + (1 : Int32)).toNatClampNeg) (xs ((0 : Int32) + (2 : Int32)).toNatClampNeg) 0 0 0 0 0 0 0 0 0 0 0 0 0 0 0 0 0 ((upd (upd (upd (upd (upd (upd (fun _ => 0) ((0 : Int32)).toNatClampNeg (-1 : Int32)) ((1 : Int32)).toNatClampNeg (-1 : Int32)) ((2 : Int32)).toNatClampNeg (-1 : Int32)) ((3 : Int32)).toNatClampNeg (-1 : Int32)) ((4 : Int32)).toNatClampNeg (-1 : Int32)) ((5 : Int32)).toNatClampNeg (-1 : Int32))) R2 h2) ⟨hx, hb, hml, hown, ht⟩ (cwV 2 ht gl_146 rfl rfl rfl (by decide +kernel) ⟨Nat.le_of_ble_eq_true rfl, Nat.le_of_ble_eq_true rfl⟩) (va_recv hK hP (ci := 12) (q0 := 0) rfl rfl) hP hD hS hK hA [0, 40] [] rfl rfl rfl rfl (by decide) rfl hl.1 (Nat.le_of_ble_eq_true rfl) dL_law_1269 ⟨Nat.le_of_ble_eq_true rfl, Nat.le_of_ble_eq_true rfl⟩ (fun r2 u2 H locs hq2 hP hD hS => ?_)
    have e2 : r2 = R2.1 := congrArg Prod.fst hq2
    have EQ : r1 = r2 := by rw [e1, e2]; exact eq
    refine lv_icmp_eq (tgt := 1546) hx hb dL_law_1272 (by decide) (fun cc => ?_) (fun cc => absurd EQ cc)
    exact law_next C0 (by decide) (by decide) H locs ls hS (lv_sub hl [0, 3] rfl)
  · obtain ⟨R1, R2, h1, h2, eq⟩ := pe_keep (g := g) (pf := pf) (ae := ae) (wb := wb) GF PF 5 (by omega) (xs ((0 : Int32) + (1 : Int32)).toNatClampNeg) (xs ((0 : Int32) + (2 : Int32)).toNatClampNeg) hp0
    refine lv_aload_n hx hb dL_law_1244 rfl (lv_at hl 1 rfl) ?_
    refine lv_aload_n hx hb dL_law_1245 rfl (lv_at hl 0 rfl) ?_
    refine lv_iload_n hx hb dL_law_1246 rfl (lv_at hl 3 rfl) ?_
    refine lv_iconst (v := (1 : Int32)) hx hb dL_law_1247 (by decide) ?_
    refine lv_iadd hx hb dL_law_1248 ?_
    refine va_sld hx hb hX hbl hbA hS (by unfold vp_in; decide) dL_law_1249 ?_
    refine lv_aload_n hx hb dL_law_1250 rfl (lv_at hl 0 rfl) ?_
    refine lv_iload_n hx hb dL_law_1251 rfl (lv_at hl 3 rfl) ?_
    refine lv_iconst (v := (2 : Int32)) hx hb dL_law_1252 (by decide) ?_
    refine lv_iadd hx hb dL_law_1253 ?_
    refine va_sld hx hb hX hbl hbA hS (by unfold vp_in; decide) dL_law_1254 ?_
    refine zk_vi (post := (fun r u => (r, u) = R1)) (w1 := fun u => (wl_X11_keep ad cs (ae 12) (ae 13) pf 0 0 0 u.1 u.2 0)) (As := [.int (xs ((0 : Int32) + (1 : Int32)).toNatClampNeg), .int (xs ((0 : Int32) + (2 : Int32)).toNatClampNeg)]) (rest := []) (c_X11_keep l D cs ad (ae 12) (ae 13)  H.size (xs ((0 : Int32) + (1 : Int32)).toNatClampNeg) (xs ((0 : Int32) + (2 : Int32)).toNatClampNeg) pf 0 0 0 (-1) 0 0 R1 h1) ⟨hx, hb, hml, hown, ht⟩ (cwV 2 ht gl_143 rfl rfl rfl (by decide +kernel) ⟨Nat.le_of_ble_eq_true rfl, Nat.le_of_ble_eq_true rfl⟩) (va_recv hK hP (ci := 11) (q0 := 0) rfl rfl) hP hD hS hK hA [0, 1, 4, 53] [55, 56, 57, 58, 59, 60, 61, 62, 63, 64, 65, 66, 67, 68, 69, 70, 71, 72, 73, 74, 75, 76, 77, 78, 79, 80, 81, 82, 83, 84, 85, 86, 87, 88, 89, 90, 91, 92, 93, 94, 95, 96, 97, 98] rfl rfl law_hR law_nd (law_dis rfl) rfl hl.1 (Nat.le_of_ble_eq_true rfl) dL_law_1255 ⟨Nat.le_of_ble_eq_true rfl, Nat.le_of_ble_eq_true rfl⟩ (fun r1 u1 H locs hq1 hP hD hS => ?_)
    have e1 : r1 = R1.1 := congrArg Prod.fst hq1
    rw [law_fm] at hP hD
    refine lv_aload_n hx hb dL_law_1258 rfl (lv_at hl 2 rfl) ?_
    refine lv_aload_n hx hb dL_law_1259 rfl (lv_at hl 0 rfl) ?_
    refine lv_iload_n hx hb dL_law_1260 rfl (lv_at hl 3 rfl) ?_
    refine lv_iconst (v := (1 : Int32)) hx hb dL_law_1261 (by decide) ?_
    refine lv_iadd hx hb dL_law_1262 ?_
    refine va_sld hx hb hX hbl hbA hS (by unfold vp_in; decide) dL_law_1263 ?_
    refine lv_aload_n hx hb dL_law_1264 rfl (lv_at hl 0 rfl) ?_
    refine lv_iload_n hx hb dL_law_1265 rfl (lv_at hl 3 rfl) ?_
    refine lv_iconst (v := (2 : Int32)) hx hb dL_law_1266 (by decide) ?_
    refine lv_iadd hx hb dL_law_1267 ?_
    refine va_sld hx hb hX hbl hbA hS (by unfold vp_in; decide) dL_law_1268 ?_
    refine zk_vi (post := (fun r u => (r, u) = R2)) (w1 := fun u => (wl_X12_keep am cs 0 0 0 0 0 0 0 0 0 0 0 0 0 0 0 0 0 u)) (As := [.int (xs ((0 : Int32) + (1 : Int32)).toNatClampNeg), .int (xs ((0 : Int32) + (2 : Int32)).toNatClampNeg)]) (rest := [.int r1]) (c_X12_keep l D cs am   H.size (xs ((0 : Int32) + (1 : Int32)).toNatClampNeg) (xs ((0 : Int32) + (2 : Int32)).toNatClampNeg) 0 0 0 0 0 0 0 0 0 0 0 0 0 0 0 0 0 ((upd (upd (upd (upd (upd (upd (fun _ => 0) ((0 : Int32)).toNatClampNeg (-1 : Int32)) ((1 : Int32)).toNatClampNeg (-1 : Int32)) ((2 : Int32)).toNatClampNeg (-1 : Int32)) ((3 : Int32)).toNatClampNeg (-1 : Int32)) ((4 : Int32)).toNatClampNeg (-1 : Int32)) ((5 : Int32)).toNatClampNeg (-1 : Int32))) R2 h2) ⟨hx, hb, hml, hown, ht⟩ (cwV 2 ht gl_146 rfl rfl rfl (by decide +kernel) ⟨Nat.le_of_ble_eq_true rfl, Nat.le_of_ble_eq_true rfl⟩) (va_recv hK hP (ci := 12) (q0 := 0) rfl rfl) hP hD hS hK hA [0, 40] [] rfl rfl rfl rfl (by decide) rfl hl.1 (Nat.le_of_ble_eq_true rfl) dL_law_1269 ⟨Nat.le_of_ble_eq_true rfl, Nat.le_of_ble_eq_true rfl⟩ (fun r2 u2 H locs hq2 hP hD hS => ?_)
    have e2 : r2 = R2.1 := congrArg Prod.fst hq2
    have EQ : r1 = r2 := by rw [e1, e2]; exact eq
    refine lv_icmp_eq (tgt := 1546) hx hb dL_law_1272 (by decide) (fun cc => ?_) (fun cc => absurd EQ cc)
    exact law_next C0 (by decide) (by decide) H locs ls hS (lv_sub hl [0, 3] rfl)
theorem dL_law_1277 : decode cL_law 1277 = .ok (.aload_n 1, 1) := by decide +kernel
theorem dL_law_1278 : decode cL_law 1278 = .ok (.aload_n 0, 1) := by decide +kernel
theorem dL_law_1279 : decode cL_law 1279 = .ok (.iload_n 3, 1) := by decide +kernel
theorem dL_law_1280 : decode cL_law 1280 = .ok (.iconst 1, 1) := by decide +kernel
theorem dL_law_1281 : decode cL_law 1281 = .ok (.iadd, 1) := by decide +kernel
theorem dL_law_1282 : decode cL_law 1282 = .ok (.iaload, 1) := by decide +kernel
theorem dL_law_1283 : decode cL_law 1283 = .ok (.aload_n 0, 1) := by decide +kernel
theorem dL_law_1284 : decode cL_law 1284 = .ok (.iload_n 3, 1) := by decide +kernel
theorem dL_law_1285 : decode cL_law 1285 = .ok (.iconst 2, 1) := by decide +kernel
theorem dL_law_1286 : decode cL_law 1286 = .ok (.iadd, 1) := by decide +kernel
theorem dL_law_1287 : decode cL_law 1287 = .ok (.iaload, 1) := by decide +kernel
theorem dL_law_1288 : decode cL_law 1288 = .ok (.aload_n 0, 1) := by decide +kernel
theorem dL_law_1289 : decode cL_law 1289 = .ok (.iload_n 3, 1) := by decide +kernel
theorem dL_law_1290 : decode cL_law 1290 = .ok (.iconst 3, 1) := by decide +kernel
theorem dL_law_1291 : decode cL_law 1291 = .ok (.iadd, 1) := by decide +kernel
theorem dL_law_1292 : decode cL_law 1292 = .ok (.iaload, 1) := by decide +kernel
theorem dL_law_1293 : decode cL_law 1293 = .ok (.invokevirtual 147, 3) := by decide +kernel
theorem dL_law_1296 : decode cL_law 1296 = .ok (.aload_n 2, 1) := by decide +kernel
theorem dL_law_1297 : decode cL_law 1297 = .ok (.aload_n 0, 1) := by decide +kernel
theorem dL_law_1298 : decode cL_law 1298 = .ok (.iload_n 3, 1) := by decide +kernel
theorem dL_law_1299 : decode cL_law 1299 = .ok (.iconst 1, 1) := by decide +kernel
theorem dL_law_1300 : decode cL_law 1300 = .ok (.iadd, 1) := by decide +kernel
theorem dL_law_1301 : decode cL_law 1301 = .ok (.iaload, 1) := by decide +kernel
theorem dL_law_1302 : decode cL_law 1302 = .ok (.aload_n 0, 1) := by decide +kernel
theorem dL_law_1303 : decode cL_law 1303 = .ok (.iload_n 3, 1) := by decide +kernel
theorem dL_law_1304 : decode cL_law 1304 = .ok (.iconst 2, 1) := by decide +kernel
theorem dL_law_1305 : decode cL_law 1305 = .ok (.iadd, 1) := by decide +kernel
theorem dL_law_1306 : decode cL_law 1306 = .ok (.iaload, 1) := by decide +kernel
theorem dL_law_1307 : decode cL_law 1307 = .ok (.aload_n 0, 1) := by decide +kernel
theorem dL_law_1308 : decode cL_law 1308 = .ok (.iload_n 3, 1) := by decide +kernel
theorem dL_law_1309 : decode cL_law 1309 = .ok (.iconst 3, 1) := by decide +kernel
theorem dL_law_1310 : decode cL_law 1310 = .ok (.iadd, 1) := by decide +kernel
theorem dL_law_1311 : decode cL_law 1311 = .ok (.iaload, 1) := by decide +kernel
theorem dL_law_1312 : decode cL_law 1312 = .ok (.invokevirtual 150, 3) := by decide +kernel
theorem dL_law_1315 : decode cL_law 1315 = .ok (.if_icmp .eq 231, 3) := by decide +kernel
set_option maxHeartbeats 8000000 in
set_option maxRecDepth 100000 in
theorem law_case_32 {p : Program} {l : Launch} {e : Env} {s : State} {m : MethodId} {below : List Frame} {meth : Method} {c : Code} {b : Nat} {xs : Nat → Int32} {D : va_G} {cs : Nat → ClassId} {k : (Nat → Nat) × (Nat → Nat)} {ad ae am : Nat → Nat} {wb : Nat} {g pf : Nat → Option Nat} (C0 : lw_At p s m meth c b 6 xs) (hK : va_K D classes (zT cs) s) (hO : zO s) (hE : zE k (fun q : Nat => s.heap.size ≤ q) s) (GF : ∀ t, t < 8 → g (24 + t) = some (ae 0)) (PF : ∀ j, j < 6 → pf j = some (ae (2 + 2 * j))) (H : Heap) (locs : List Loc) (ls : Array Slot) (hP : va_P D classes (zF ad cs ae wb g pf ++ zM am cs) H) (hD : va_D (fun q : Nat => s.heap.size ≤ q) (zF ad cs ae wb g pf ++ zM am cs)) (hS : va_S (fun q : Nat => s.heap.size ≤ q) s.heap H locs) (hl : lv_has ls 4 [(0, .ref b), (1, .ref (ad 0)), (2, .ref (am 41)), (3, .int (0 : Int32))]) : W p l e room_1 s m #[Value.ref b] below meth c H locs 2000 200000 (lw_Z below #[Value.ref b] s) (F0 m 1277 ls []) := by
  obtain ⟨hx, hb, hr, hml, hown, hts, hX, hbl, hlocks, hgv⟩ := id C0
  have hA : ∀ q : Nat, s.heap.size ≤ q → (fun q : Nat => s.heap.size ≤ q) q := fun _ h => h
  have hbA : ¬ (fun q : Nat => s.heap.size ≤ q) b := Nat.not_le.mpr hbl
  have ht : ∀ w ∈ zW, w.before #[Value.ref b] s = true := fun w hw => hts w (List.mem_filter.mp hw).1
  obtain ⟨j0, hj0, hp0⟩ := zk_pl (xs ((0 : Int32) + (1 : Int32)).toNatClampNeg)
  rcases (show j0 = 0 ∨ j0 = 1 ∨ j0 = 2 ∨ j0 = 3 ∨ j0 = 4 ∨ j0 = 5 by omega) with rfl | rfl | rfl | rfl | rfl | rfl
  · obtain ⟨R1, R2, h1, h2, eq⟩ := pe_row (g := g) (pf := pf) (ae := ae) (wb := wb) GF PF 0 (by omega) (xs ((0 : Int32) + (1 : Int32)).toNatClampNeg) (xs ((0 : Int32) + (2 : Int32)).toNatClampNeg) (xs ((0 : Int32) + (3 : Int32)).toNatClampNeg) hp0
    refine lv_aload_n hx hb dL_law_1277 rfl (lv_at hl 1 rfl) ?_
    refine lv_aload_n hx hb dL_law_1278 rfl (lv_at hl 0 rfl) ?_
    refine lv_iload_n hx hb dL_law_1279 rfl (lv_at hl 3 rfl) ?_
    refine lv_iconst (v := (1 : Int32)) hx hb dL_law_1280 (by decide) ?_
    refine lv_iadd hx hb dL_law_1281 ?_
    refine va_sld hx hb hX hbl hbA hS (by unfold vp_in; decide) dL_law_1282 ?_
    refine lv_aload_n hx hb dL_law_1283 rfl (lv_at hl 0 rfl) ?_
    refine lv_iload_n hx hb dL_law_1284 rfl (lv_at hl 3 rfl) ?_
    refine lv_iconst (v := (2 : Int32)) hx hb dL_law_1285 (by decide) ?_
    refine lv_iadd hx hb dL_law_1286 ?_
    refine va_sld hx hb hX hbl hbA hS (by unfold vp_in; decide) dL_law_1287 ?_
    refine lv_aload_n hx hb dL_law_1288 rfl (lv_at hl 0 rfl) ?_
    refine lv_iload_n hx hb dL_law_1289 rfl (lv_at hl 3 rfl) ?_
    refine lv_iconst (v := (3 : Int32)) hx hb dL_law_1290 (by decide) ?_
    refine lv_iadd hx hb dL_law_1291 ?_
    refine va_sld hx hb hX hbl hbA hS (by unfold vp_in; decide) dL_law_1292 ?_
    refine zk_vi (post := (fun r u => (r, u) = R1)) (w1 := fun u => (wl_X11_row ad cs (ae 2) (ae 3) pf u.1 0 u.2.1 u.2.2)) (As := [.int (xs ((0 : Int32) + (1 : Int32)).toNatClampNeg), .int (xs ((0 : Int32) + (2 : Int32)).toNatClampNeg), .int (xs ((0 : Int32) + (3 : Int32)).toNatClampNeg)]) (rest := []) (c_X11_row l D cs ad (ae 2) (ae 3)  H.size (xs ((0 : Int32) + (1 : Int32)).toNatClampNeg) (xs ((0 : Int32) + (2 : Int32)).toNatClampNeg) (xs ((0 : Int32) + (3 : Int32)).toNatClampNeg) pf (-1) 0 0 (fun _ => 0) R1 h1) ⟨hx, hb, hml, hown, ht⟩ (cwV 3 ht gl_147 rfl rfl rfl (by decide +kernel) ⟨Nat.le_of_ble_eq_true rfl, Nat.le_of_ble_eq_true rfl⟩) (va_recv hK hP (ci := 11) (q0 := 0) rfl rfl) hP hD hS hK hA [0, 1, 43, 44] [55, 56, 57, 58, 59, 60, 61, 62, 63, 64, 65, 66, 67, 68, 69, 70, 71, 72, 73, 74, 75, 76, 77, 78, 79, 80, 81, 82, 83, 84, 85, 86, 87, 88, 89, 90, 91, 92, 93, 94, 95, 96, 97, 98] rfl rfl law_hR law_nd (law_dis rfl) rfl hl.1 (Nat.le_of_ble_eq_true rfl) dL_law_1293 ⟨Nat.le_of_ble_eq_true rfl, Nat.le_of_ble_eq_true rfl⟩ (fun r1 u1 H locs hq1 hP hD hS => ?_)
    have e1 : r1 = R1.1 := congrArg Prod.fst hq1
    rw [law_fm] at hP hD
    refine lv_aload_n hx hb dL_law_1296 rfl (lv_at hl 2 rfl) ?_
    refine lv_aload_n hx hb dL_law_1297 rfl (lv_at hl 0 rfl) ?_
    refine lv_iload_n hx hb dL_law_1298 rfl (lv_at hl 3 rfl) ?_
    refine lv_iconst (v := (1 : Int32)) hx hb dL_law_1299 (by decide) ?_
    refine lv_iadd hx hb dL_law_1300 ?_
    refine va_sld hx hb hX hbl hbA hS (by unfold vp_in; decide) dL_law_1301 ?_
    refine lv_aload_n hx hb dL_law_1302 rfl (lv_at hl 0 rfl) ?_
    refine lv_iload_n hx hb dL_law_1303 rfl (lv_at hl 3 rfl) ?_
    refine lv_iconst (v := (2 : Int32)) hx hb dL_law_1304 (by decide) ?_
    refine lv_iadd hx hb dL_law_1305 ?_
    refine va_sld hx hb hX hbl hbA hS (by unfold vp_in; decide) dL_law_1306 ?_
    refine lv_aload_n hx hb dL_law_1307 rfl (lv_at hl 0 rfl) ?_
    refine lv_iload_n hx hb dL_law_1308 rfl (lv_at hl 3 rfl) ?_
    refine lv_iconst (v := (3 : Int32)) hx hb dL_law_1309 (by decide) ?_
    refine lv_iadd hx hb dL_law_1310 ?_
    refine va_sld hx hb hX hbl hbA hS (by unfold vp_in; decide) dL_law_1311 ?_
    refine zk_vi (post := (fun r u => (r, u) = R2)) (w1 := fun u => (wl_X12_row am cs 0 0 0 0 0 0 0 0 0 0 0 0 0 0 0 0 0 u.1 u.2.1 u.2.2)) (As := [.int (xs ((0 : Int32) + (1 : Int32)).toNatClampNeg), .int (xs ((0 : Int32) + (2 : Int32)).toNatClampNeg), .int (xs ((0 : Int32) + (3 : Int32)).toNatClampNeg)]) (rest := [.int r1]) (c_X12_row l D cs am   H.size 4000 (xs ((0 : Int32) + (1 : Int32)).toNatClampNeg) (xs ((0 : Int32) + (2 : Int32)).toNatClampNeg) (xs ((0 : Int32) + (3 : Int32)).toNatClampNeg) 0 0 0 0 0 0 0 0 0 0 0 0 0 0 0 0 0 ((upd (upd (upd (upd (upd (upd (fun _ => 0) ((0 : Int32)).toNatClampNeg (-1 : Int32)) ((1 : Int32)).toNatClampNeg (-1 : Int32)) ((2 : Int32)).toNatClampNeg (-1 : Int32)) ((3 : Int32)).toNatClampNeg (-1 : Int32)) ((4 : Int32)).toNatClampNeg (-1 : Int32)) ((5 : Int32)).toNatClampNeg (-1 : Int32))) ((fun _ => 0)) ((fun _ => 0)) R2 h2) ⟨hx, hb, hml, hown, ht⟩ (cwV 3 ht gl_150 rfl rfl rfl (by decide +kernel) ⟨Nat.le_of_ble_eq_true rfl, Nat.le_of_ble_eq_true rfl⟩) (va_recv hK hP (ci := 12) (q0 := 0) rfl rfl) hP hD hS hK hA [0, 40, 41, 42] [] rfl rfl rfl rfl (by decide) rfl hl.1 (Nat.le_of_ble_eq_true rfl) dL_law_1312 ⟨Nat.le_of_ble_eq_true rfl, Nat.le_of_ble_eq_true rfl⟩ (fun r2 u2 H locs hq2 hP hD hS => ?_)
    have e2 : r2 = R2.1 := congrArg Prod.fst hq2
    have EQ : r1 = r2 := by rw [e1, e2]; exact eq
    refine lv_icmp_eq (tgt := 1546) hx hb dL_law_1315 (by decide) (fun cc => ?_) (fun cc => absurd EQ cc)
    exact law_next C0 (by decide) (by decide) H locs ls hS (lv_sub hl [0, 3] rfl)
  · obtain ⟨R1, R2, h1, h2, eq⟩ := pe_row (g := g) (pf := pf) (ae := ae) (wb := wb) GF PF 1 (by omega) (xs ((0 : Int32) + (1 : Int32)).toNatClampNeg) (xs ((0 : Int32) + (2 : Int32)).toNatClampNeg) (xs ((0 : Int32) + (3 : Int32)).toNatClampNeg) hp0
    refine lv_aload_n hx hb dL_law_1277 rfl (lv_at hl 1 rfl) ?_
    refine lv_aload_n hx hb dL_law_1278 rfl (lv_at hl 0 rfl) ?_
    refine lv_iload_n hx hb dL_law_1279 rfl (lv_at hl 3 rfl) ?_
    refine lv_iconst (v := (1 : Int32)) hx hb dL_law_1280 (by decide) ?_
    refine lv_iadd hx hb dL_law_1281 ?_
    refine va_sld hx hb hX hbl hbA hS (by unfold vp_in; decide) dL_law_1282 ?_
    refine lv_aload_n hx hb dL_law_1283 rfl (lv_at hl 0 rfl) ?_
    refine lv_iload_n hx hb dL_law_1284 rfl (lv_at hl 3 rfl) ?_
    refine lv_iconst (v := (2 : Int32)) hx hb dL_law_1285 (by decide) ?_
    refine lv_iadd hx hb dL_law_1286 ?_
    refine va_sld hx hb hX hbl hbA hS (by unfold vp_in; decide) dL_law_1287 ?_
    refine lv_aload_n hx hb dL_law_1288 rfl (lv_at hl 0 rfl) ?_
    refine lv_iload_n hx hb dL_law_1289 rfl (lv_at hl 3 rfl) ?_
    refine lv_iconst (v := (3 : Int32)) hx hb dL_law_1290 (by decide) ?_
    refine lv_iadd hx hb dL_law_1291 ?_
    refine va_sld hx hb hX hbl hbA hS (by unfold vp_in; decide) dL_law_1292 ?_
    refine zk_vi (post := (fun r u => (r, u) = R1)) (w1 := fun u => (wl_X11_row ad cs (ae 4) (ae 5) pf u.1 0 u.2.1 u.2.2)) (As := [.int (xs ((0 : Int32) + (1 : Int32)).toNatClampNeg), .int (xs ((0 : Int32) + (2 : Int32)).toNatClampNeg), .int (xs ((0 : Int32) + (3 : Int32)).toNatClampNeg)]) (rest := []) (c_X11_row l D cs ad (ae 4) (ae 5)  H.size (xs ((0 : Int32) + (1 : Int32)).toNatClampNeg) (xs ((0 : Int32) + (2 : Int32)).toNatClampNeg) (xs ((0 : Int32) + (3 : Int32)).toNatClampNeg) pf (-1) 0 0 (fun _ => 0) R1 h1) ⟨hx, hb, hml, hown, ht⟩ (cwV 3 ht gl_147 rfl rfl rfl (by decide +kernel) ⟨Nat.le_of_ble_eq_true rfl, Nat.le_of_ble_eq_true rfl⟩) (va_recv hK hP (ci := 11) (q0 := 0) rfl rfl) hP hD hS hK hA [0, 1, 45, 46] [55, 56, 57, 58, 59, 60, 61, 62, 63, 64, 65, 66, 67, 68, 69, 70, 71, 72, 73, 74, 75, 76, 77, 78, 79, 80, 81, 82, 83, 84, 85, 86, 87, 88, 89, 90, 91, 92, 93, 94, 95, 96, 97, 98] rfl rfl law_hR law_nd (law_dis rfl) rfl hl.1 (Nat.le_of_ble_eq_true rfl) dL_law_1293 ⟨Nat.le_of_ble_eq_true rfl, Nat.le_of_ble_eq_true rfl⟩ (fun r1 u1 H locs hq1 hP hD hS => ?_)
    have e1 : r1 = R1.1 := congrArg Prod.fst hq1
    rw [law_fm] at hP hD
    refine lv_aload_n hx hb dL_law_1296 rfl (lv_at hl 2 rfl) ?_
    refine lv_aload_n hx hb dL_law_1297 rfl (lv_at hl 0 rfl) ?_
    refine lv_iload_n hx hb dL_law_1298 rfl (lv_at hl 3 rfl) ?_
    refine lv_iconst (v := (1 : Int32)) hx hb dL_law_1299 (by decide) ?_
    refine lv_iadd hx hb dL_law_1300 ?_
    refine va_sld hx hb hX hbl hbA hS (by unfold vp_in; decide) dL_law_1301 ?_
    refine lv_aload_n hx hb dL_law_1302 rfl (lv_at hl 0 rfl) ?_
    refine lv_iload_n hx hb dL_law_1303 rfl (lv_at hl 3 rfl) ?_
    refine lv_iconst (v := (2 : Int32)) hx hb dL_law_1304 (by decide) ?_
    refine lv_iadd hx hb dL_law_1305 ?_
    refine va_sld hx hb hX hbl hbA hS (by unfold vp_in; decide) dL_law_1306 ?_
    refine lv_aload_n hx hb dL_law_1307 rfl (lv_at hl 0 rfl) ?_
    refine lv_iload_n hx hb dL_law_1308 rfl (lv_at hl 3 rfl) ?_
    refine lv_iconst (v := (3 : Int32)) hx hb dL_law_1309 (by decide) ?_
    refine lv_iadd hx hb dL_law_1310 ?_
    refine va_sld hx hb hX hbl hbA hS (by unfold vp_in; decide) dL_law_1311 ?_
    refine zk_vi (post := (fun r u => (r, u) = R2)) (w1 := fun u => (wl_X12_row am cs 0 0 0 0 0 0 0 0 0 0 0 0 0 0 0 0 0 u.1 u.2.1 u.2.2)) (As := [.int (xs ((0 : Int32) + (1 : Int32)).toNatClampNeg), .int (xs ((0 : Int32) + (2 : Int32)).toNatClampNeg), .int (xs ((0 : Int32) + (3 : Int32)).toNatClampNeg)]) (rest := [.int r1]) (c_X12_row l D cs am   H.size 4000 (xs ((0 : Int32) + (1 : Int32)).toNatClampNeg) (xs ((0 : Int32) + (2 : Int32)).toNatClampNeg) (xs ((0 : Int32) + (3 : Int32)).toNatClampNeg) 0 0 0 0 0 0 0 0 0 0 0 0 0 0 0 0 0 ((upd (upd (upd (upd (upd (upd (fun _ => 0) ((0 : Int32)).toNatClampNeg (-1 : Int32)) ((1 : Int32)).toNatClampNeg (-1 : Int32)) ((2 : Int32)).toNatClampNeg (-1 : Int32)) ((3 : Int32)).toNatClampNeg (-1 : Int32)) ((4 : Int32)).toNatClampNeg (-1 : Int32)) ((5 : Int32)).toNatClampNeg (-1 : Int32))) ((fun _ => 0)) ((fun _ => 0)) R2 h2) ⟨hx, hb, hml, hown, ht⟩ (cwV 3 ht gl_150 rfl rfl rfl (by decide +kernel) ⟨Nat.le_of_ble_eq_true rfl, Nat.le_of_ble_eq_true rfl⟩) (va_recv hK hP (ci := 12) (q0 := 0) rfl rfl) hP hD hS hK hA [0, 40, 41, 42] [] rfl rfl rfl rfl (by decide) rfl hl.1 (Nat.le_of_ble_eq_true rfl) dL_law_1312 ⟨Nat.le_of_ble_eq_true rfl, Nat.le_of_ble_eq_true rfl⟩ (fun r2 u2 H locs hq2 hP hD hS => ?_)
    have e2 : r2 = R2.1 := congrArg Prod.fst hq2
    have EQ : r1 = r2 := by rw [e1, e2]; exact eq
    refine lv_icmp_eq (tgt := 1546) hx hb dL_law_1315 (by decide) (fun cc => ?_) (fun cc => absurd EQ cc)
    exact law_next C0 (by decide) (by decide) H locs ls hS (lv_sub hl [0, 3] rfl)
  · obtain ⟨R1, R2, h1, h2, eq⟩ := pe_row (g := g) (pf := pf) (ae := ae) (wb := wb) GF PF 2 (by omega) (xs ((0 : Int32) + (1 : Int32)).toNatClampNeg) (xs ((0 : Int32) + (2 : Int32)).toNatClampNeg) (xs ((0 : Int32) + (3 : Int32)).toNatClampNeg) hp0
    refine lv_aload_n hx hb dL_law_1277 rfl (lv_at hl 1 rfl) ?_
    refine lv_aload_n hx hb dL_law_1278 rfl (lv_at hl 0 rfl) ?_
    refine lv_iload_n hx hb dL_law_1279 rfl (lv_at hl 3 rfl) ?_
    refine lv_iconst (v := (1 : Int32)) hx hb dL_law_1280 (by decide) ?_
    refine lv_iadd hx hb dL_law_1281 ?_
    refine va_sld hx hb hX hbl hbA hS (by unfold vp_in; decide) dL_law_1282 ?_
    refine lv_aload_n hx hb dL_law_1283 rfl (lv_at hl 0 rfl) ?_
    refine lv_iload_n hx hb dL_law_1284 rfl (lv_at hl 3 rfl) ?_
    refine lv_iconst (v := (2 : Int32)) hx hb dL_law_1285 (by decide) ?_
    refine lv_iadd hx hb dL_law_1286 ?_
    refine va_sld hx hb hX hbl hbA hS (by unfold vp_in; decide) dL_law_1287 ?_
    refine lv_aload_n hx hb dL_law_1288 rfl (lv_at hl 0 rfl) ?_
    refine lv_iload_n hx hb dL_law_1289 rfl (lv_at hl 3 rfl) ?_
    refine lv_iconst (v := (3 : Int32)) hx hb dL_law_1290 (by decide) ?_
    refine lv_iadd hx hb dL_law_1291 ?_
    refine va_sld hx hb hX hbl hbA hS (by unfold vp_in; decide) dL_law_1292 ?_
    refine zk_vi (post := (fun r u => (r, u) = R1)) (w1 := fun u => (wl_X11_row ad cs (ae 6) (ae 7) pf u.1 0 u.2.1 u.2.2)) (As := [.int (xs ((0 : Int32) + (1 : Int32)).toNatClampNeg), .int (xs ((0 : Int32) + (2 : Int32)).toNatClampNeg), .int (xs ((0 : Int32) + (3 : Int32)).toNatClampNeg)]) (rest := []) (c_X11_row l D cs ad (ae 6) (ae 7)  H.size (xs ((0 : Int32) + (1 : Int32)).toNatClampNeg) (xs ((0 : Int32) + (2 : Int32)).toNatClampNeg) (xs ((0 : Int32) + (3 : Int32)).toNatClampNeg) pf (-1) 0 0 (fun _ => 0) R1 h1) ⟨hx, hb, hml, hown, ht⟩ (cwV 3 ht gl_147 rfl rfl rfl (by decide +kernel) ⟨Nat.le_of_ble_eq_true rfl, Nat.le_of_ble_eq_true rfl⟩) (va_recv hK hP (ci := 11) (q0 := 0) rfl rfl) hP hD hS hK hA [0, 1, 47, 48] [55, 56, 57, 58, 59, 60, 61, 62, 63, 64, 65, 66, 67, 68, 69, 70, 71, 72, 73, 74, 75, 76, 77, 78, 79, 80, 81, 82, 83, 84, 85, 86, 87, 88, 89, 90, 91, 92, 93, 94, 95, 96, 97, 98] rfl rfl law_hR law_nd (law_dis rfl) rfl hl.1 (Nat.le_of_ble_eq_true rfl) dL_law_1293 ⟨Nat.le_of_ble_eq_true rfl, Nat.le_of_ble_eq_true rfl⟩ (fun r1 u1 H locs hq1 hP hD hS => ?_)
    have e1 : r1 = R1.1 := congrArg Prod.fst hq1
    rw [law_fm] at hP hD
    refine lv_aload_n hx hb dL_law_1296 rfl (lv_at hl 2 rfl) ?_
    refine lv_aload_n hx hb dL_law_1297 rfl (lv_at hl 0 rfl) ?_
    refine lv_iload_n hx hb dL_law_1298 rfl (lv_at hl 3 rfl) ?_
    refine lv_iconst (v := (1 : Int32)) hx hb dL_law_1299 (by decide) ?_
    refine lv_iadd hx hb dL_law_1300 ?_
    refine va_sld hx hb hX hbl hbA hS (by unfold vp_in; decide) dL_law_1301 ?_
    refine lv_aload_n hx hb dL_law_1302 rfl (lv_at hl 0 rfl) ?_
    refine lv_iload_n hx hb dL_law_1303 rfl (lv_at hl 3 rfl) ?_
    refine lv_iconst (v := (2 : Int32)) hx hb dL_law_1304 (by decide) ?_
    refine lv_iadd hx hb dL_law_1305 ?_
    refine va_sld hx hb hX hbl hbA hS (by unfold vp_in; decide) dL_law_1306 ?_
    refine lv_aload_n hx hb dL_law_1307 rfl (lv_at hl 0 rfl) ?_
    refine lv_iload_n hx hb dL_law_1308 rfl (lv_at hl 3 rfl) ?_
    refine lv_iconst (v := (3 : Int32)) hx hb dL_law_1309 (by decide) ?_
    refine lv_iadd hx hb dL_law_1310 ?_
    refine va_sld hx hb hX hbl hbA hS (by unfold vp_in; decide) dL_law_1311 ?_
    refine zk_vi (post := (fun r u => (r, u) = R2)) (w1 := fun u => (wl_X12_row am cs 0 0 0 0 0 0 0 0 0 0 0 0 0 0 0 0 0 u.1 u.2.1 u.2.2)) (As := [.int (xs ((0 : Int32) + (1 : Int32)).toNatClampNeg), .int (xs ((0 : Int32) + (2 : Int32)).toNatClampNeg), .int (xs ((0 : Int32) + (3 : Int32)).toNatClampNeg)]) (rest := [.int r1]) (c_X12_row l D cs am   H.size 4000 (xs ((0 : Int32) + (1 : Int32)).toNatClampNeg) (xs ((0 : Int32) + (2 : Int32)).toNatClampNeg) (xs ((0 : Int32) + (3 : Int32)).toNatClampNeg) 0 0 0 0 0 0 0 0 0 0 0 0 0 0 0 0 0 ((upd (upd (upd (upd (upd (upd (fun _ => 0) ((0 : Int32)).toNatClampNeg (-1 : Int32)) ((1 : Int32)).toNatClampNeg (-1 : Int32)) ((2 : Int32)).toNatClampNeg (-1 : Int32)) ((3 : Int32)).toNatClampNeg (-1 : Int32)) ((4 : Int32)).toNatClampNeg (-1 : Int32)) ((5 : Int32)).toNatClampNeg (-1 : Int32))) ((fun _ => 0)) ((fun _ => 0)) R2 h2) ⟨hx, hb, hml, hown, ht⟩ (cwV 3 ht gl_150 rfl rfl rfl (by decide +kernel) ⟨Nat.le_of_ble_eq_true rfl, Nat.le_of_ble_eq_true rfl⟩) (va_recv hK hP (ci := 12) (q0 := 0) rfl rfl) hP hD hS hK hA [0, 40, 41, 42] [] rfl rfl rfl rfl (by decide) rfl hl.1 (Nat.le_of_ble_eq_true rfl) dL_law_1312 ⟨Nat.le_of_ble_eq_true rfl, Nat.le_of_ble_eq_true rfl⟩ (fun r2 u2 H locs hq2 hP hD hS => ?_)
    have e2 : r2 = R2.1 := congrArg Prod.fst hq2
    have EQ : r1 = r2 := by rw [e1, e2]; exact eq
    refine lv_icmp_eq (tgt := 1546) hx hb dL_law_1315 (by decide) (fun cc => ?_) (fun cc => absurd EQ cc)
    exact law_next C0 (by decide) (by decide) H locs ls hS (lv_sub hl [0, 3] rfl)
  · obtain ⟨R1, R2, h1, h2, eq⟩ := pe_row (g := g) (pf := pf) (ae := ae) (wb := wb) GF PF 3 (by omega) (xs ((0 : Int32) + (1 : Int32)).toNatClampNeg) (xs ((0 : Int32) + (2 : Int32)).toNatClampNeg) (xs ((0 : Int32) + (3 : Int32)).toNatClampNeg) hp0
    refine lv_aload_n hx hb dL_law_1277 rfl (lv_at hl 1 rfl) ?_
    refine lv_aload_n hx hb dL_law_1278 rfl (lv_at hl 0 rfl) ?_
    refine lv_iload_n hx hb dL_law_1279 rfl (lv_at hl 3 rfl) ?_
    refine lv_iconst (v := (1 : Int32)) hx hb dL_law_1280 (by decide) ?_
    refine lv_iadd hx hb dL_law_1281 ?_
    refine va_sld hx hb hX hbl hbA hS (by unfold vp_in; decide) dL_law_1282 ?_
    refine lv_aload_n hx hb dL_law_1283 rfl (lv_at hl 0 rfl) ?_
    refine lv_iload_n hx hb dL_law_1284 rfl (lv_at hl 3 rfl) ?_
    refine lv_iconst (v := (2 : Int32)) hx hb dL_law_1285 (by decide) ?_
    refine lv_iadd hx hb dL_law_1286 ?_
    refine va_sld hx hb hX hbl hbA hS (by unfold vp_in; decide) dL_law_1287 ?_
    refine lv_aload_n hx hb dL_law_1288 rfl (lv_at hl 0 rfl) ?_
    refine lv_iload_n hx hb dL_law_1289 rfl (lv_at hl 3 rfl) ?_
    refine lv_iconst (v := (3 : Int32)) hx hb dL_law_1290 (by decide) ?_
    refine lv_iadd hx hb dL_law_1291 ?_
    refine va_sld hx hb hX hbl hbA hS (by unfold vp_in; decide) dL_law_1292 ?_
    refine zk_vi (post := (fun r u => (r, u) = R1)) (w1 := fun u => (wl_X11_row ad cs (ae 8) (ae 9) pf u.1 0 u.2.1 u.2.2)) (As := [.int (xs ((0 : Int32) + (1 : Int32)).toNatClampNeg), .int (xs ((0 : Int32) + (2 : Int32)).toNatClampNeg), .int (xs ((0 : Int32) + (3 : Int32)).toNatClampNeg)]) (rest := []) (c_X11_row l D cs ad (ae 8) (ae 9)  H.size (xs ((0 : Int32) + (1 : Int32)).toNatClampNeg) (xs ((0 : Int32) + (2 : Int32)).toNatClampNeg) (xs ((0 : Int32) + (3 : Int32)).toNatClampNeg) pf (-1) 0 0 (fun _ => 0) R1 h1) ⟨hx, hb, hml, hown, ht⟩ (cwV 3 ht gl_147 rfl rfl rfl (by decide +kernel) ⟨Nat.le_of_ble_eq_true rfl, Nat.le_of_ble_eq_true rfl⟩) (va_recv hK hP (ci := 11) (q0 := 0) rfl rfl) hP hD hS hK hA [0, 1, 49, 50] [55, 56, 57, 58, 59, 60, 61, 62, 63, 64, 65, 66, 67, 68, 69, 70, 71, 72, 73, 74, 75, 76, 77, 78, 79, 80, 81, 82, 83, 84, 85, 86, 87, 88, 89, 90, 91, 92, 93, 94, 95, 96, 97, 98] rfl rfl law_hR law_nd (law_dis rfl) rfl hl.1 (Nat.le_of_ble_eq_true rfl) dL_law_1293 ⟨Nat.le_of_ble_eq_true rfl, Nat.le_of_ble_eq_true rfl⟩ (fun r1 u1 H locs hq1 hP hD hS => ?_)
    have e1 : r1 = R1.1 := congrArg Prod.fst hq1
    rw [law_fm] at hP hD
    refine lv_aload_n hx hb dL_law_1296 rfl (lv_at hl 2 rfl) ?_
    refine lv_aload_n hx hb dL_law_1297 rfl (lv_at hl 0 rfl) ?_
    refine lv_iload_n hx hb dL_law_1298 rfl (lv_at hl 3 rfl) ?_
    refine lv_iconst (v := (1 : Int32)) hx hb dL_law_1299 (by decide) ?_
    refine lv_iadd hx hb dL_law_1300 ?_
    refine va_sld hx hb hX hbl hbA hS (by unfold vp_in; decide) dL_law_1301 ?_
    refine lv_aload_n hx hb dL_law_1302 rfl (lv_at hl 0 rfl) ?_
    refine lv_iload_n hx hb dL_law_1303 rfl (lv_at hl 3 rfl) ?_
    refine lv_iconst (v := (2 : Int32)) hx hb dL_law_1304 (by decide) ?_
    refine lv_iadd hx hb dL_law_1305 ?_
    refine va_sld hx hb hX hbl hbA hS (by unfold vp_in; decide) dL_law_1306 ?_
    refine lv_aload_n hx hb dL_law_1307 rfl (lv_at hl 0 rfl) ?_
    refine lv_iload_n hx hb dL_law_1308 rfl (lv_at hl 3 rfl) ?_
    refine lv_iconst (v := (3 : Int32)) hx hb dL_law_1309 (by decide) ?_
    refine lv_iadd hx hb dL_law_1310 ?_
    refine va_sld hx hb hX hbl hbA hS (by unfold vp_in; decide) dL_law_1311 ?_
    refine zk_vi (post := (fun r u => (r, u) = R2)) (w1 := fun u => (wl_X12_row am cs 0 0 0 0 0 0 0 0 0 0 0 0 0 0 0 0 0 u.1 u.2.1 u.2.2)) (As := [.int (xs ((0 : Int32) + (1 : Int32)).toNatClampNeg), .int (xs ((0 : Int32) + (2 : Int32)).toNatClampNeg), .int (xs ((0 : Int32) + (3 : Int32)).toNatClampNeg)]) (rest := [.int r1]) (c_X12_row l D cs am   H.size 4000 (xs ((0 : Int32) + (1 : Int32)).toNatClampNeg) (xs ((0 : Int32) + (2 : Int32)).toNatClampNeg) (xs ((0 : Int32) + (3 : Int32)).toNatClampNeg) 0 0 0 0 0 0 0 0 0 0 0 0 0 0 0 0 0 ((upd (upd (upd (upd (upd (upd (fun _ => 0) ((0 : Int32)).toNatClampNeg (-1 : Int32)) ((1 : Int32)).toNatClampNeg (-1 : Int32)) ((2 : Int32)).toNatClampNeg (-1 : Int32)) ((3 : Int32)).toNatClampNeg (-1 : Int32)) ((4 : Int32)).toNatClampNeg (-1 : Int32)) ((5 : Int32)).toNatClampNeg (-1 : Int32))) ((fun _ => 0)) ((fun _ => 0)) R2 h2) ⟨hx, hb, hml, hown, ht⟩ (cwV 3 ht gl_150 rfl rfl rfl (by decide +kernel) ⟨Nat.le_of_ble_eq_true rfl, Nat.le_of_ble_eq_true rfl⟩) (va_recv hK hP (ci := 12) (q0 := 0) rfl rfl) hP hD hS hK hA [0, 40, 41, 42] [] rfl rfl rfl rfl (by decide) rfl hl.1 (Nat.le_of_ble_eq_true rfl) dL_law_1312 ⟨Nat.le_of_ble_eq_true rfl, Nat.le_of_ble_eq_true rfl⟩ (fun r2 u2 H locs hq2 hP hD hS => ?_)
    have e2 : r2 = R2.1 := congrArg Prod.fst hq2
    have EQ : r1 = r2 := by rw [e1, e2]; exact eq
    refine lv_icmp_eq (tgt := 1546) hx hb dL_law_1315 (by decide) (fun cc => ?_) (fun cc => absurd EQ cc)
    exact law_next C0 (by decide) (by decide) H locs ls hS (lv_sub hl [0, 3] rfl)
  · obtain ⟨R1, R2, h1, h2, eq⟩ := pe_row (g := g) (pf := pf) (ae := ae) (wb := wb) GF PF 4 (by omega) (xs ((0 : Int32) + (1 : Int32)).toNatClampNeg) (xs ((0 : Int32) + (2 : Int32)).toNatClampNeg) (xs ((0 : Int32) + (3 : Int32)).toNatClampNeg) hp0
    refine lv_aload_n hx hb dL_law_1277 rfl (lv_at hl 1 rfl) ?_
    refine lv_aload_n hx hb dL_law_1278 rfl (lv_at hl 0 rfl) ?_
    refine lv_iload_n hx hb dL_law_1279 rfl (lv_at hl 3 rfl) ?_
    refine lv_iconst (v := (1 : Int32)) hx hb dL_law_1280 (by decide) ?_
    refine lv_iadd hx hb dL_law_1281 ?_
    refine va_sld hx hb hX hbl hbA hS (by unfold vp_in; decide) dL_law_1282 ?_
    refine lv_aload_n hx hb dL_law_1283 rfl (lv_at hl 0 rfl) ?_
    refine lv_iload_n hx hb dL_law_1284 rfl (lv_at hl 3 rfl) ?_
    refine lv_iconst (v := (2 : Int32)) hx hb dL_law_1285 (by decide) ?_
    refine lv_iadd hx hb dL_law_1286 ?_
    refine va_sld hx hb hX hbl hbA hS (by unfold vp_in; decide) dL_law_1287 ?_
    refine lv_aload_n hx hb dL_law_1288 rfl (lv_at hl 0 rfl) ?_
    refine lv_iload_n hx hb dL_law_1289 rfl (lv_at hl 3 rfl) ?_
    refine lv_iconst (v := (3 : Int32)) hx hb dL_law_1290 (by decide) ?_
    refine lv_iadd hx hb dL_law_1291 ?_
    refine va_sld hx hb hX hbl hbA hS (by unfold vp_in; decide) dL_law_1292 ?_
    refine zk_vi (post := (fun r u => (r, u) = R1)) (w1 := fun u => (wl_X11_row ad cs (ae 10) (ae 11) pf u.1 0 u.2.1 u.2.2)) (As := [.int (xs ((0 : Int32) + (1 : Int32)).toNatClampNeg), .int (xs ((0 : Int32) + (2 : Int32)).toNatClampNeg), .int (xs ((0 : Int32) + (3 : Int32)).toNatClampNeg)]) (rest := []) (c_X11_row l D cs ad (ae 10) (ae 11)  H.size (xs ((0 : Int32) + (1 : Int32)).toNatClampNeg) (xs ((0 : Int32) + (2 : Int32)).toNatClampNeg) (xs ((0 : Int32) + (3 : Int32)).toNatClampNeg) pf (-1) 0 0 (fun _ => 0) R1 h1) ⟨hx, hb, hml, hown, ht⟩ (cwV 3 ht gl_147 rfl rfl rfl (by decide +kernel) ⟨Nat.le_of_ble_eq_true rfl, Nat.le_of_ble_eq_true rfl⟩) (va_recv hK hP (ci := 11) (q0 := 0) rfl rfl) hP hD hS hK hA [0, 1, 51, 52] [55, 56, 57, 58, 59, 60, 61, 62, 63, 64, 65, 66, 67, 68, 69, 70, 71, 72, 73, 74, 75, 76, 77, 78, 79, 80, 81, 82, 83, 84, 85, 86, 87, 88, 89, 90, 91, 92, 93, 94, 95, 96, 97, 98] rfl rfl law_hR law_nd (law_dis rfl) rfl hl.1 (Nat.le_of_ble_eq_true rfl) dL_law_1293 ⟨Nat.le_of_ble_eq_true rfl, Nat.le_of_ble_eq_true rfl⟩ (fun r1 u1 H locs hq1 hP hD hS => ?_)
    have e1 : r1 = R1.1 := congrArg Prod.fst hq1
    rw [law_fm] at hP hD
    refine lv_aload_n hx hb dL_law_1296 rfl (lv_at hl 2 rfl) ?_
    refine lv_aload_n hx hb dL_law_1297 rfl (lv_at hl 0 rfl) ?_
    refine lv_iload_n hx hb dL_law_1298 rfl (lv_at hl 3 rfl) ?_
    refine lv_iconst (v := (1 : Int32)) hx hb dL_law_1299 (by decide) ?_
    refine lv_iadd hx hb dL_law_1300 ?_
    refine va_sld hx hb hX hbl hbA hS (by unfold vp_in; decide) dL_law_1301 ?_
    refine lv_aload_n hx hb dL_law_1302 rfl (lv_at hl 0 rfl) ?_
    refine lv_iload_n hx hb dL_law_1303 rfl (lv_at hl 3 rfl) ?_
    refine lv_iconst (v := (2 : Int32)) hx hb dL_law_1304 (by decide) ?_
    refine lv_iadd hx hb dL_law_1305 ?_
    refine va_sld hx hb hX hbl hbA hS (by unfold vp_in; decide) dL_law_1306 ?_
    refine lv_aload_n hx hb dL_law_1307 rfl (lv_at hl 0 rfl) ?_
    refine lv_iload_n hx hb dL_law_1308 rfl (lv_at hl 3 rfl) ?_
    refine lv_iconst (v := (3 : Int32)) hx hb dL_law_1309 (by decide) ?_
    refine lv_iadd hx hb dL_law_1310 ?_
    refine va_sld hx hb hX hbl hbA hS (by unfold vp_in; decide) dL_law_1311 ?_
    refine zk_vi (post := (fun r u => (r, u) = R2)) (w1 := fun u => (wl_X12_row am cs 0 0 0 0 0 0 0 0 0 0 0 0 0 0 0 0 0 u.1 u.2.1 u.2.2)) (As := [.int (xs ((0 : Int32) + (1 : Int32)).toNatClampNeg), .int (xs ((0 : Int32) + (2 : Int32)).toNatClampNeg), .int (xs ((0 : Int32) + (3 : Int32)).toNatClampNeg)]) (rest := [.int r1]) (c_X12_row l D cs am   H.size 4000 (xs ((0 : Int32) + (1 : Int32)).toNatClampNeg) (xs ((0 : Int32) + (2 : Int32)).toNatClampNeg) (xs ((0 : Int32) + (3 : Int32)).toNatClampNeg) 0 0 0 0 0 0 0 0 0 0 0 0 0 0 0 0 0 ((upd (upd (upd (upd (upd (upd (fun _ => 0) ((0 : Int32)).toNatClampNeg (-1 : Int32)) ((1 : Int32)).toNatClampNeg (-1 : Int32)) ((2 : Int32)).toNatClampNeg (-1 : Int32)) ((3 : Int32)).toNatClampNeg (-1 : Int32)) ((4 : Int32)).toNatClampNeg (-1 : Int32)) ((5 : Int32)).toNatClampNeg (-1 : Int32))) ((fun _ => 0)) ((fun _ => 0)) R2 h2) ⟨hx, hb, hml, hown, ht⟩ (cwV 3 ht gl_150 rfl rfl rfl (by decide +kernel) ⟨Nat.le_of_ble_eq_true rfl, Nat.le_of_ble_eq_true rfl⟩) (va_recv hK hP (ci := 12) (q0 := 0) rfl rfl) hP hD hS hK hA [0, 40, 41, 42] [] rfl rfl rfl rfl (by decide) rfl hl.1 (Nat.le_of_ble_eq_true rfl) dL_law_1312 ⟨Nat.le_of_ble_eq_true rfl, Nat.le_of_ble_eq_true rfl⟩ (fun r2 u2 H locs hq2 hP hD hS => ?_)
    have e2 : r2 = R2.1 := congrArg Prod.fst hq2
    have EQ : r1 = r2 := by rw [e1, e2]; exact eq
    refine lv_icmp_eq (tgt := 1546) hx hb dL_law_1315 (by decide) (fun cc => ?_) (fun cc => absurd EQ cc)
    exact law_next C0 (by decide) (by decide) H locs ls hS (lv_sub hl [0, 3] rfl)
  · obtain ⟨R1, R2, h1, h2, eq⟩ := pe_row (g := g) (pf := pf) (ae := ae) (wb := wb) GF PF 5 (by omega) (xs ((0 : Int32) + (1 : Int32)).toNatClampNeg) (xs ((0 : Int32) + (2 : Int32)).toNatClampNeg) (xs ((0 : Int32) + (3 : Int32)).toNatClampNeg) hp0
    refine lv_aload_n hx hb dL_law_1277 rfl (lv_at hl 1 rfl) ?_
    refine lv_aload_n hx hb dL_law_1278 rfl (lv_at hl 0 rfl) ?_
    refine lv_iload_n hx hb dL_law_1279 rfl (lv_at hl 3 rfl) ?_
    refine lv_iconst (v := (1 : Int32)) hx hb dL_law_1280 (by decide) ?_
    refine lv_iadd hx hb dL_law_1281 ?_
    refine va_sld hx hb hX hbl hbA hS (by unfold vp_in; decide) dL_law_1282 ?_
    refine lv_aload_n hx hb dL_law_1283 rfl (lv_at hl 0 rfl) ?_
    refine lv_iload_n hx hb dL_law_1284 rfl (lv_at hl 3 rfl) ?_
    refine lv_iconst (v := (2 : Int32)) hx hb dL_law_1285 (by decide) ?_
    refine lv_iadd hx hb dL_law_1286 ?_
    refine va_sld hx hb hX hbl hbA hS (by unfold vp_in; decide) dL_law_1287 ?_
    refine lv_aload_n hx hb dL_law_1288 rfl (lv_at hl 0 rfl) ?_
    refine lv_iload_n hx hb dL_law_1289 rfl (lv_at hl 3 rfl) ?_
    refine lv_iconst (v := (3 : Int32)) hx hb dL_law_1290 (by decide) ?_
    refine lv_iadd hx hb dL_law_1291 ?_
    refine va_sld hx hb hX hbl hbA hS (by unfold vp_in; decide) dL_law_1292 ?_
    refine zk_vi (post := (fun r u => (r, u) = R1)) (w1 := fun u => (wl_X11_row ad cs (ae 12) (ae 13) pf u.1 0 u.2.1 u.2.2)) (As := [.int (xs ((0 : Int32) + (1 : Int32)).toNatClampNeg), .int (xs ((0 : Int32) + (2 : Int32)).toNatClampNeg), .int (xs ((0 : Int32) + (3 : Int32)).toNatClampNeg)]) (rest := []) (c_X11_row l D cs ad (ae 12) (ae 13)  H.size (xs ((0 : Int32) + (1 : Int32)).toNatClampNeg) (xs ((0 : Int32) + (2 : Int32)).toNatClampNeg) (xs ((0 : Int32) + (3 : Int32)).toNatClampNeg) pf (-1) 0 0 (fun _ => 0) R1 h1) ⟨hx, hb, hml, hown, ht⟩ (cwV 3 ht gl_147 rfl rfl rfl (by decide +kernel) ⟨Nat.le_of_ble_eq_true rfl, Nat.le_of_ble_eq_true rfl⟩) (va_recv hK hP (ci := 11) (q0 := 0) rfl rfl) hP hD hS hK hA [0, 1, 53, 54] [55, 56, 57, 58, 59, 60, 61, 62, 63, 64, 65, 66, 67, 68, 69, 70, 71, 72, 73, 74, 75, 76, 77, 78, 79, 80, 81, 82, 83, 84, 85, 86, 87, 88, 89, 90, 91, 92, 93, 94, 95, 96, 97, 98] rfl rfl law_hR law_nd (law_dis rfl) rfl hl.1 (Nat.le_of_ble_eq_true rfl) dL_law_1293 ⟨Nat.le_of_ble_eq_true rfl, Nat.le_of_ble_eq_true rfl⟩ (fun r1 u1 H locs hq1 hP hD hS => ?_)
    have e1 : r1 = R1.1 := congrArg Prod.fst hq1
    rw [law_fm] at hP hD
    refine lv_aload_n hx hb dL_law_1296 rfl (lv_at hl 2 rfl) ?_
    refine lv_aload_n hx hb dL_law_1297 rfl (lv_at hl 0 rfl) ?_
    refine lv_iload_n hx hb dL_law_1298 rfl (lv_at hl 3 rfl) ?_
    refine lv_iconst (v := (1 : Int32)) hx hb dL_law_1299 (by decide) ?_
    refine lv_iadd hx hb dL_law_1300 ?_
    refine va_sld hx hb hX hbl hbA hS (by unfold vp_in; decide) dL_law_1301 ?_
    refine lv_aload_n hx hb dL_law_1302 rfl (lv_at hl 0 rfl) ?_
    refine lv_iload_n hx hb dL_law_1303 rfl (lv_at hl 3 rfl) ?_
    refine lv_iconst (v := (2 : Int32)) hx hb dL_law_1304 (by decide) ?_
    refine lv_iadd hx hb dL_law_1305 ?_
    refine va_sld hx hb hX hbl hbA hS (by unfold vp_in; decide) dL_law_1306 ?_
    refine lv_aload_n hx hb dL_law_1307 rfl (lv_at hl 0 rfl) ?_
    refine lv_iload_n hx hb dL_law_1308 rfl (lv_at hl 3 rfl) ?_
    refine lv_iconst (v := (3 : Int32)) hx hb dL_law_1309 (by decide) ?_
    refine lv_iadd hx hb dL_law_1310 ?_
    refine va_sld hx hb hX hbl hbA hS (by unfold vp_in; decide) dL_law_1311 ?_
    refine zk_vi (post := (fun r u => (r, u) = R2)) (w1 := fun u => (wl_X12_row am cs 0 0 0 0 0 0 0 0 0 0 0 0 0 0 0 0 0 u.1 u.2.1 u.2.2)) (As := [.int (xs ((0 : Int32) + (1 : Int32)).toNatClampNeg), .int (xs ((0 : Int32) + (2 : Int32)).toNatClampNeg), .int (xs ((0 : Int32) + (3 : Int32)).toNatClampNeg)]) (rest := [.int r1]) (c_X12_row l D cs am   H.size 4000 (xs ((0 : Int32) + (1 : Int32)).toNatClampNeg) (xs ((0 : Int32) + (2 : Int32)).toNatClampNeg) (xs ((0 : Int32) + (3 : Int32)).toNatClampNeg) 0 0 0 0 0 0 0 0 0 0 0 0 0 0 0 0 0 ((upd (upd (upd (upd (upd (upd (fun _ => 0) ((0 : Int32)).toNatClampNeg (-1 : Int32)) ((1 : Int32)).toNatClampNeg (-1 : Int32)) ((2 : Int32)).toNatClampNeg (-1 : Int32)) ((3 : Int32)).toNatClampNeg (-1 : Int32)) ((4 : Int32)).toNatClampNeg (-1 : Int32)) ((5 : Int32)).toNatClampNeg (-1 : Int32))) ((fun _ => 0)) ((fun _ => 0)) R2 h2) ⟨hx, hb, hml, hown, ht⟩ (cwV 3 ht gl_150 rfl rfl rfl (by decide +kernel) ⟨Nat.le_of_ble_eq_true rfl, Nat.le_of_ble_eq_true rfl⟩) (va_recv hK hP (ci := 12) (q0 := 0) rfl rfl) hP hD hS hK hA [0, 40, 41, 42] [] rfl rfl rfl rfl (by decide) rfl hl.1 (Nat.le_of_ble_eq_true rfl) dL_law_1312 ⟨Nat.le_of_ble_eq_true rfl, Nat.le_of_ble_eq_true rfl⟩ (fun r2 u2 H locs hq2 hP hD hS => ?_)
    have e2 : r2 = R2.1 := congrArg Prod.fst hq2
    have EQ : r1 = r2 := by rw [e1, e2]; exact eq
    refine lv_icmp_eq (tgt := 1546) hx hb dL_law_1315 (by decide) (fun cc => ?_) (fun cc => absurd EQ cc)
    exact law_next C0 (by decide) (by decide) H locs ls hS (lv_sub hl [0, 3] rfl)
theorem kw_1902 : Cond.constantLong R_law 151 (4294967295 : Int64) ∈ zW := zwI (i := 1902) (by decide +kernel) (by decide +kernel)
theorem dL_law_1320 : decode cL_law 1320 = .ok (.aload_n 1, 1) := by decide +kernel
theorem dL_law_1321 : decode cL_law 1321 = .ok (.aload_n 0, 1) := by decide +kernel
theorem dL_law_1322 : decode cL_law 1322 = .ok (.iload_n 3, 1) := by decide +kernel
theorem dL_law_1323 : decode cL_law 1323 = .ok (.iconst 1, 1) := by decide +kernel
theorem dL_law_1324 : decode cL_law 1324 = .ok (.iadd, 1) := by decide +kernel
theorem dL_law_1325 : decode cL_law 1325 = .ok (.iaload, 1) := by decide +kernel
theorem dL_law_1326 : decode cL_law 1326 = .ok (.aload_n 0, 1) := by decide +kernel
theorem dL_law_1327 : decode cL_law 1327 = .ok (.iload_n 3, 1) := by decide +kernel
theorem dL_law_1328 : decode cL_law 1328 = .ok (.iconst 2, 1) := by decide +kernel
theorem dL_law_1329 : decode cL_law 1329 = .ok (.iadd, 1) := by decide +kernel
theorem dL_law_1330 : decode cL_law 1330 = .ok (.iaload, 1) := by decide +kernel
theorem dL_law_1331 : decode cL_law 1331 = .ok (.aload_n 0, 1) := by decide +kernel
theorem dL_law_1332 : decode cL_law 1332 = .ok (.iload_n 3, 1) := by decide +kernel
theorem dL_law_1333 : decode cL_law 1333 = .ok (.iconst 3, 1) := by decide +kernel
theorem dL_law_1334 : decode cL_law 1334 = .ok (.iadd, 1) := by decide +kernel
theorem dL_law_1335 : decode cL_law 1335 = .ok (.iaload, 1) := by decide +kernel
theorem dL_law_1336 : decode cL_law 1336 = .ok (.i2l, 1) := by decide +kernel
theorem dL_law_1337 : decode cL_law 1337 = .ok (.bipush 32, 2) := by decide +kernel
theorem dL_law_1339 : decode cL_law 1339 = .ok (.lshl, 1) := by decide +kernel
theorem dL_law_1340 : decode cL_law 1340 = .ok (.aload_n 0, 1) := by decide +kernel
theorem dL_law_1341 : decode cL_law 1341 = .ok (.iload_n 3, 1) := by decide +kernel
theorem dL_law_1342 : decode cL_law 1342 = .ok (.iconst 4, 1) := by decide +kernel
theorem dL_law_1343 : decode cL_law 1343 = .ok (.iadd, 1) := by decide +kernel
theorem dL_law_1344 : decode cL_law 1344 = .ok (.iaload, 1) := by decide +kernel
theorem dL_law_1345 : decode cL_law 1345 = .ok (.i2l, 1) := by decide +kernel
theorem dL_law_1346 : decode cL_law 1346 = .ok (.ldc2_w 151, 3) := by decide +kernel
theorem dL_law_1349 : decode cL_law 1349 = .ok (.land, 1) := by decide +kernel
theorem dL_law_1350 : decode cL_law 1350 = .ok (.lor, 1) := by decide +kernel
theorem dL_law_1351 : decode cL_law 1351 = .ok (.invokevirtual 153, 3) := by decide +kernel
theorem dL_law_1354 : decode cL_law 1354 = .ok (.aload_n 2, 1) := by decide +kernel
theorem dL_law_1355 : decode cL_law 1355 = .ok (.aload_n 0, 1) := by decide +kernel
theorem dL_law_1356 : decode cL_law 1356 = .ok (.iload_n 3, 1) := by decide +kernel
theorem dL_law_1357 : decode cL_law 1357 = .ok (.iconst 1, 1) := by decide +kernel
theorem dL_law_1358 : decode cL_law 1358 = .ok (.iadd, 1) := by decide +kernel
theorem dL_law_1359 : decode cL_law 1359 = .ok (.iaload, 1) := by decide +kernel
theorem dL_law_1360 : decode cL_law 1360 = .ok (.aload_n 0, 1) := by decide +kernel
theorem dL_law_1361 : decode cL_law 1361 = .ok (.iload_n 3, 1) := by decide +kernel
theorem dL_law_1362 : decode cL_law 1362 = .ok (.iconst 2, 1) := by decide +kernel
theorem dL_law_1363 : decode cL_law 1363 = .ok (.iadd, 1) := by decide +kernel
theorem dL_law_1364 : decode cL_law 1364 = .ok (.iaload, 1) := by decide +kernel
theorem dL_law_1365 : decode cL_law 1365 = .ok (.aload_n 0, 1) := by decide +kernel
theorem dL_law_1366 : decode cL_law 1366 = .ok (.iload_n 3, 1) := by decide +kernel
theorem dL_law_1367 : decode cL_law 1367 = .ok (.iconst 3, 1) := by decide +kernel
theorem dL_law_1368 : decode cL_law 1368 = .ok (.iadd, 1) := by decide +kernel
theorem dL_law_1369 : decode cL_law 1369 = .ok (.iaload, 1) := by decide +kernel
theorem dL_law_1370 : decode cL_law 1370 = .ok (.i2l, 1) := by decide +kernel
theorem dL_law_1371 : decode cL_law 1371 = .ok (.bipush 32, 2) := by decide +kernel
theorem dL_law_1373 : decode cL_law 1373 = .ok (.lshl, 1) := by decide +kernel
theorem dL_law_1374 : decode cL_law 1374 = .ok (.aload_n 0, 1) := by decide +kernel
theorem dL_law_1375 : decode cL_law 1375 = .ok (.iload_n 3, 1) := by decide +kernel
theorem dL_law_1376 : decode cL_law 1376 = .ok (.iconst 4, 1) := by decide +kernel
theorem dL_law_1377 : decode cL_law 1377 = .ok (.iadd, 1) := by decide +kernel
theorem dL_law_1378 : decode cL_law 1378 = .ok (.iaload, 1) := by decide +kernel
theorem dL_law_1379 : decode cL_law 1379 = .ok (.i2l, 1) := by decide +kernel
theorem dL_law_1380 : decode cL_law 1380 = .ok (.ldc2_w 151, 3) := by decide +kernel
theorem dL_law_1383 : decode cL_law 1383 = .ok (.land, 1) := by decide +kernel
theorem dL_law_1384 : decode cL_law 1384 = .ok (.lor, 1) := by decide +kernel
theorem dL_law_1385 : decode cL_law 1385 = .ok (.invokevirtual 157, 3) := by decide +kernel
theorem dL_law_1388 : decode cL_law 1388 = .ok (.if_icmp .eq 158, 3) := by decide +kernel
set_option maxHeartbeats 8000000 in
set_option maxRecDepth 100000 in
theorem law_case_33 {p : Program} {l : Launch} {e : Env} {s : State} {m : MethodId} {below : List Frame} {meth : Method} {c : Code} {b : Nat} {xs : Nat → Int32} {D : va_G} {cs : Nat → ClassId} {k : (Nat → Nat) × (Nat → Nat)} {ad ae am : Nat → Nat} {wb : Nat} {g pf : Nat → Option Nat} (C0 : lw_At p s m meth c b 6 xs) (hK : va_K D classes (zT cs) s) (hO : zO s) (hE : zE k (fun q : Nat => s.heap.size ≤ q) s) (GF : ∀ t, t < 8 → g (24 + t) = some (ae 0)) (PF : ∀ j, j < 6 → pf j = some (ae (2 + 2 * j))) (H : Heap) (locs : List Loc) (ls : Array Slot) (hP : va_P D classes (zF ad cs ae wb g pf ++ zM am cs) H) (hD : va_D (fun q : Nat => s.heap.size ≤ q) (zF ad cs ae wb g pf ++ zM am cs)) (hS : va_S (fun q : Nat => s.heap.size ≤ q) s.heap H locs) (hl : lv_has ls 4 [(0, .ref b), (1, .ref (ad 0)), (2, .ref (am 41)), (3, .int (0 : Int32))]) : W p l e room_1 s m #[Value.ref b] below meth c H locs 2000 200000 (lw_Z below #[Value.ref b] s) (F0 m 1320 ls []) := by
  obtain ⟨hx, hb, hr, hml, hown, hts, hX, hbl, hlocks, hgv⟩ := id C0
  have hA : ∀ q : Nat, s.heap.size ≤ q → (fun q : Nat => s.heap.size ≤ q) q := fun _ h => h
  have hbA : ¬ (fun q : Nat => s.heap.size ≤ q) b := Nat.not_le.mpr hbl
  have ht : ∀ w ∈ zW, w.before #[Value.ref b] s = true := fun w hw => hts w (List.mem_filter.mp hw).1
  obtain ⟨j0, hj0, hp0⟩ := zk_pl (xs ((0 : Int32) + (1 : Int32)).toNatClampNeg)
  rcases (show j0 = 0 ∨ j0 = 1 ∨ j0 = 2 ∨ j0 = 3 ∨ j0 = 4 ∨ j0 = 5 by omega) with rfl | rfl | rfl | rfl | rfl | rfl
  · obtain ⟨R1, R2, h1, h2, eq⟩ := pe_put (g := g) (pf := pf) (ae := ae) (wb := wb) GF PF 0 (by omega) (xs ((0 : Int32) + (1 : Int32)).toNatClampNeg) (xs ((0 : Int32) + (2 : Int32)).toNatClampNeg) ((((xs ((0 : Int32) + (3 : Int32)).toNatClampNeg).toInt64) <<< ((32 : Int32).toInt64 &&& 63)) ||| (((xs ((0 : Int32) + (4 : Int32)).toNatClampNeg).toInt64) &&& (4294967295 : Int64))) hp0
    refine lv_aload_n hx hb dL_law_1320 rfl (lv_at hl 1 rfl) ?_
    refine lv_aload_n hx hb dL_law_1321 rfl (lv_at hl 0 rfl) ?_
    refine lv_iload_n hx hb dL_law_1322 rfl (lv_at hl 3 rfl) ?_
    refine lv_iconst (v := (1 : Int32)) hx hb dL_law_1323 (by decide) ?_
    refine lv_iadd hx hb dL_law_1324 ?_
    refine va_sld hx hb hX hbl hbA hS (by unfold vp_in; decide) dL_law_1325 ?_
    refine lv_aload_n hx hb dL_law_1326 rfl (lv_at hl 0 rfl) ?_
    refine lv_iload_n hx hb dL_law_1327 rfl (lv_at hl 3 rfl) ?_
    refine lv_iconst (v := (2 : Int32)) hx hb dL_law_1328 (by decide) ?_
    refine lv_iadd hx hb dL_law_1329 ?_
    refine va_sld hx hb hX hbl hbA hS (by unfold vp_in; decide) dL_law_1330 ?_
    refine lv_aload_n hx hb dL_law_1331 rfl (lv_at hl 0 rfl) ?_
    refine lv_iload_n hx hb dL_law_1332 rfl (lv_at hl 3 rfl) ?_
    refine lv_iconst (v := (3 : Int32)) hx hb dL_law_1333 (by decide) ?_
    refine lv_iadd hx hb dL_law_1334 ?_
    refine va_sld hx hb hX hbl hbA hS (by unfold vp_in; decide) dL_law_1335 ?_
    refine lv_i2l (v := (xs ((0 : Int32) + (3 : Int32)).toNatClampNeg).toInt64) hx hb dL_law_1336 rfl ?_
    refine lv_bipush (v := (32 : Int32)) hx hb dL_law_1337 (by decide) ?_
    refine lv_lshl (v := ((xs ((0 : Int32) + (3 : Int32)).toNatClampNeg).toInt64) <<< ((32 : Int32).toInt64 &&& 63)) hx hb dL_law_1339 rfl ?_
    refine lv_aload_n hx hb dL_law_1340 rfl (lv_at hl 0 rfl) ?_
    refine lv_iload_n hx hb dL_law_1341 rfl (lv_at hl 3 rfl) ?_
    refine lv_iconst (v := (4 : Int32)) hx hb dL_law_1342 (by decide) ?_
    refine lv_iadd hx hb dL_law_1343 ?_
    refine va_sld hx hb hX hbl hbA hS (by unfold vp_in; decide) dL_law_1344 ?_
    refine lv_i2l (v := (xs ((0 : Int32) + (4 : Int32)).toNatClampNeg).toInt64) hx hb dL_law_1345 rfl ?_
    refine lv_ldc2 (v := (4294967295 : Int64)) hx hb hown (ht _ kw_1902) dL_law_1346 ?_
    refine lv_land hx hb dL_law_1349 ?_
    refine lv_lor hx hb dL_law_1350 ?_
    refine zk_vi (post := (fun r u => (r, u) = R1)) (w1 := fun u => (wl_X11_put ad cs (ae 2) (ae 3) pf (-1) 0 0 u)) (As := [.int (xs ((0 : Int32) + (1 : Int32)).toNatClampNeg), .int (xs ((0 : Int32) + (2 : Int32)).toNatClampNeg), .long ((((xs ((0 : Int32) + (3 : Int32)).toNatClampNeg).toInt64) <<< ((32 : Int32).toInt64 &&& 63)) ||| (((xs ((0 : Int32) + (4 : Int32)).toNatClampNeg).toInt64) &&& (4294967295 : Int64)))]) (rest := []) (c_X11_put l D cs ad (ae 2) (ae 3)  H.size (xs ((0 : Int32) + (1 : Int32)).toNatClampNeg) (xs ((0 : Int32) + (2 : Int32)).toNatClampNeg) ((((xs ((0 : Int32) + (3 : Int32)).toNatClampNeg).toInt64) <<< ((32 : Int32).toInt64 &&& 63)) ||| (((xs ((0 : Int32) + (4 : Int32)).toNatClampNeg).toInt64) &&& (4294967295 : Int64))) pf (-1) 0 0 (fun _ => 0) R1 h1) ⟨hx, hb, hml, hown, ht⟩ (cwV 3 ht gl_153 rfl rfl rfl (by decide +kernel) ⟨Nat.le_of_ble_eq_true rfl, Nat.le_of_ble_eq_true rfl⟩) (va_recv hK hP (ci := 11) (q0 := 0) rfl rfl) hP hD hS hK hA [0, 1, 43, 44] [55, 56, 57, 58, 59, 60, 61, 62, 63, 64, 65, 66, 67, 68, 69, 70, 71, 72, 73, 74, 75, 76, 77, 78, 79, 80, 81, 82, 83, 84, 85, 86, 87, 88, 89, 90, 91, 92, 93, 94, 95, 96, 97, 98] rfl rfl law_hR law_nd (law_dis rfl) rfl hl.1 (Nat.le_of_ble_eq_true rfl) dL_law_1351 ⟨Nat.le_of_ble_eq_true rfl, Nat.le_of_ble_eq_true rfl⟩ (fun r1 u1 H locs hq1 hP hD hS => ?_)
    have e1 : r1 = R1.1 := congrArg Prod.fst hq1
    rw [law_fm] at hP hD
    refine lv_aload_n hx hb dL_law_1354 rfl (lv_at hl 2 rfl) ?_
    refine lv_aload_n hx hb dL_law_1355 rfl (lv_at hl 0 rfl) ?_
    refine lv_iload_n hx hb dL_law_1356 rfl (lv_at hl 3 rfl) ?_
    refine lv_iconst (v := (1 : Int32)) hx hb dL_law_1357 (by decide) ?_
    refine lv_iadd hx hb dL_law_1358 ?_
    refine va_sld hx hb hX hbl hbA hS (by unfold vp_in; decide) dL_law_1359 ?_
    refine lv_aload_n hx hb dL_law_1360 rfl (lv_at hl 0 rfl) ?_
    refine lv_iload_n hx hb dL_law_1361 rfl (lv_at hl 3 rfl) ?_
    refine lv_iconst (v := (2 : Int32)) hx hb dL_law_1362 (by decide) ?_
    refine lv_iadd hx hb dL_law_1363 ?_
    refine va_sld hx hb hX hbl hbA hS (by unfold vp_in; decide) dL_law_1364 ?_
    refine lv_aload_n hx hb dL_law_1365 rfl (lv_at hl 0 rfl) ?_
    refine lv_iload_n hx hb dL_law_1366 rfl (lv_at hl 3 rfl) ?_
    refine lv_iconst (v := (3 : Int32)) hx hb dL_law_1367 (by decide) ?_
    refine lv_iadd hx hb dL_law_1368 ?_
    refine va_sld hx hb hX hbl hbA hS (by unfold vp_in; decide) dL_law_1369 ?_
    refine lv_i2l (v := (xs ((0 : Int32) + (3 : Int32)).toNatClampNeg).toInt64) hx hb dL_law_1370 rfl ?_
    refine lv_bipush (v := (32 : Int32)) hx hb dL_law_1371 (by decide) ?_
    refine lv_lshl (v := ((xs ((0 : Int32) + (3 : Int32)).toNatClampNeg).toInt64) <<< ((32 : Int32).toInt64 &&& 63)) hx hb dL_law_1373 rfl ?_
    refine lv_aload_n hx hb dL_law_1374 rfl (lv_at hl 0 rfl) ?_
    refine lv_iload_n hx hb dL_law_1375 rfl (lv_at hl 3 rfl) ?_
    refine lv_iconst (v := (4 : Int32)) hx hb dL_law_1376 (by decide) ?_
    refine lv_iadd hx hb dL_law_1377 ?_
    refine va_sld hx hb hX hbl hbA hS (by unfold vp_in; decide) dL_law_1378 ?_
    refine lv_i2l (v := (xs ((0 : Int32) + (4 : Int32)).toNatClampNeg).toInt64) hx hb dL_law_1379 rfl ?_
    refine lv_ldc2 (v := (4294967295 : Int64)) hx hb hown (ht _ kw_1902) dL_law_1380 ?_
    refine lv_land hx hb dL_law_1383 ?_
    refine lv_lor hx hb dL_law_1384 ?_
    refine zk_vi (post := (fun r u => (r, u) = R2)) (w1 := fun u => (wl_X12_put am cs 0 0 0 0 0 0 0 0 0 0 0 0 0 0 0 0 0 ((upd (upd (upd (upd (upd (upd (fun _ => 0) ((0 : Int32)).toNatClampNeg (-1 : Int32)) ((1 : Int32)).toNatClampNeg (-1 : Int32)) ((2 : Int32)).toNatClampNeg (-1 : Int32)) ((3 : Int32)).toNatClampNeg (-1 : Int32)) ((4 : Int32)).toNatClampNeg (-1 : Int32)) ((5 : Int32)).toNatClampNeg (-1 : Int32))) ((fun _ => 0)) u)) (As := [.int (xs ((0 : Int32) + (1 : Int32)).toNatClampNeg), .int (xs ((0 : Int32) + (2 : Int32)).toNatClampNeg), .long ((((xs ((0 : Int32) + (3 : Int32)).toNatClampNeg).toInt64) <<< ((32 : Int32).toInt64 &&& 63)) ||| (((xs ((0 : Int32) + (4 : Int32)).toNatClampNeg).toInt64) &&& (4294967295 : Int64)))]) (rest := [.int r1]) (c_X12_put l D cs am   H.size (xs ((0 : Int32) + (1 : Int32)).toNatClampNeg) (xs ((0 : Int32) + (2 : Int32)).toNatClampNeg) ((((xs ((0 : Int32) + (3 : Int32)).toNatClampNeg).toInt64) <<< ((32 : Int32).toInt64 &&& 63)) ||| (((xs ((0 : Int32) + (4 : Int32)).toNatClampNeg).toInt64) &&& (4294967295 : Int64))) 0 0 0 0 0 0 0 0 0 0 0 0 0 0 0 0 0 ((upd (upd (upd (upd (upd (upd (fun _ => 0) ((0 : Int32)).toNatClampNeg (-1 : Int32)) ((1 : Int32)).toNatClampNeg (-1 : Int32)) ((2 : Int32)).toNatClampNeg (-1 : Int32)) ((3 : Int32)).toNatClampNeg (-1 : Int32)) ((4 : Int32)).toNatClampNeg (-1 : Int32)) ((5 : Int32)).toNatClampNeg (-1 : Int32))) ((fun _ => 0)) ((fun _ => 0)) R2 h2) ⟨hx, hb, hml, hown, ht⟩ (cwV 3 ht gl_157 rfl rfl rfl (by decide +kernel) ⟨Nat.le_of_ble_eq_true rfl, Nat.le_of_ble_eq_true rfl⟩) (va_recv hK hP (ci := 12) (q0 := 0) rfl rfl) hP hD hS hK hA [0, 40, 41, 42] [] rfl rfl rfl rfl (by decide) rfl hl.1 (Nat.le_of_ble_eq_true rfl) dL_law_1385 ⟨Nat.le_of_ble_eq_true rfl, Nat.le_of_ble_eq_true rfl⟩ (fun r2 u2 H locs hq2 hP hD hS => ?_)
    have e2 : r2 = R2.1 := congrArg Prod.fst hq2
    have EQ : r1 = r2 := by rw [e1, e2]; exact eq
    refine lv_icmp_eq (tgt := 1546) hx hb dL_law_1388 (by decide) (fun cc => ?_) (fun cc => absurd EQ cc)
    exact law_next C0 (by decide) (by decide) H locs ls hS (lv_sub hl [0, 3] rfl)
  · obtain ⟨R1, R2, h1, h2, eq⟩ := pe_put (g := g) (pf := pf) (ae := ae) (wb := wb) GF PF 1 (by omega) (xs ((0 : Int32) + (1 : Int32)).toNatClampNeg) (xs ((0 : Int32) + (2 : Int32)).toNatClampNeg) ((((xs ((0 : Int32) + (3 : Int32)).toNatClampNeg).toInt64) <<< ((32 : Int32).toInt64 &&& 63)) ||| (((xs ((0 : Int32) + (4 : Int32)).toNatClampNeg).toInt64) &&& (4294967295 : Int64))) hp0
    refine lv_aload_n hx hb dL_law_1320 rfl (lv_at hl 1 rfl) ?_
    refine lv_aload_n hx hb dL_law_1321 rfl (lv_at hl 0 rfl) ?_
    refine lv_iload_n hx hb dL_law_1322 rfl (lv_at hl 3 rfl) ?_
    refine lv_iconst (v := (1 : Int32)) hx hb dL_law_1323 (by decide) ?_
    refine lv_iadd hx hb dL_law_1324 ?_
    refine va_sld hx hb hX hbl hbA hS (by unfold vp_in; decide) dL_law_1325 ?_
    refine lv_aload_n hx hb dL_law_1326 rfl (lv_at hl 0 rfl) ?_
    refine lv_iload_n hx hb dL_law_1327 rfl (lv_at hl 3 rfl) ?_
    refine lv_iconst (v := (2 : Int32)) hx hb dL_law_1328 (by decide) ?_
    refine lv_iadd hx hb dL_law_1329 ?_
    refine va_sld hx hb hX hbl hbA hS (by unfold vp_in; decide) dL_law_1330 ?_
    refine lv_aload_n hx hb dL_law_1331 rfl (lv_at hl 0 rfl) ?_
    refine lv_iload_n hx hb dL_law_1332 rfl (lv_at hl 3 rfl) ?_
    refine lv_iconst (v := (3 : Int32)) hx hb dL_law_1333 (by decide) ?_
    refine lv_iadd hx hb dL_law_1334 ?_
    refine va_sld hx hb hX hbl hbA hS (by unfold vp_in; decide) dL_law_1335 ?_
    refine lv_i2l (v := (xs ((0 : Int32) + (3 : Int32)).toNatClampNeg).toInt64) hx hb dL_law_1336 rfl ?_
    refine lv_bipush (v := (32 : Int32)) hx hb dL_law_1337 (by decide) ?_
    refine lv_lshl (v := ((xs ((0 : Int32) + (3 : Int32)).toNatClampNeg).toInt64) <<< ((32 : Int32).toInt64 &&& 63)) hx hb dL_law_1339 rfl ?_
    refine lv_aload_n hx hb dL_law_1340 rfl (lv_at hl 0 rfl) ?_
    refine lv_iload_n hx hb dL_law_1341 rfl (lv_at hl 3 rfl) ?_
    refine lv_iconst (v := (4 : Int32)) hx hb dL_law_1342 (by decide) ?_
    refine lv_iadd hx hb dL_law_1343 ?_
    refine va_sld hx hb hX hbl hbA hS (by unfold vp_in; decide) dL_law_1344 ?_
    refine lv_i2l (v := (xs ((0 : Int32) + (4 : Int32)).toNatClampNeg).toInt64) hx hb dL_law_1345 rfl ?_
    refine lv_ldc2 (v := (4294967295 : Int64)) hx hb hown (ht _ kw_1902) dL_law_1346 ?_
    refine lv_land hx hb dL_law_1349 ?_
    refine lv_lor hx hb dL_law_1350 ?_
    refine zk_vi (post := (fun r u => (r, u) = R1)) (w1 := fun u => (wl_X11_put ad cs (ae 4) (ae 5) pf (-1) 0 0 u)) (As := [.int (xs ((0 : Int32) + (1 : Int32)).toNatClampNeg), .int (xs ((0 : Int32) + (2 : Int32)).toNatClampNeg), .long ((((xs ((0 : Int32) + (3 : Int32)).toNatClampNeg).toInt64) <<< ((32 : Int32).toInt64 &&& 63)) ||| (((xs ((0 : Int32) + (4 : Int32)).toNatClampNeg).toInt64) &&& (4294967295 : Int64)))]) (rest := []) (c_X11_put l D cs ad (ae 4) (ae 5)  H.size (xs ((0 : Int32) + (1 : Int32)).toNatClampNeg) (xs ((0 : Int32) + (2 : Int32)).toNatClampNeg) ((((xs ((0 : Int32) + (3 : Int32)).toNatClampNeg).toInt64) <<< ((32 : Int32).toInt64 &&& 63)) ||| (((xs ((0 : Int32) + (4 : Int32)).toNatClampNeg).toInt64) &&& (4294967295 : Int64))) pf (-1) 0 0 (fun _ => 0) R1 h1) ⟨hx, hb, hml, hown, ht⟩ (cwV 3 ht gl_153 rfl rfl rfl (by decide +kernel) ⟨Nat.le_of_ble_eq_true rfl, Nat.le_of_ble_eq_true rfl⟩) (va_recv hK hP (ci := 11) (q0 := 0) rfl rfl) hP hD hS hK hA [0, 1, 45, 46] [55, 56, 57, 58, 59, 60, 61, 62, 63, 64, 65, 66, 67, 68, 69, 70, 71, 72, 73, 74, 75, 76, 77, 78, 79, 80, 81, 82, 83, 84, 85, 86, 87, 88, 89, 90, 91, 92, 93, 94, 95, 96, 97, 98] rfl rfl law_hR law_nd (law_dis rfl) rfl hl.1 (Nat.le_of_ble_eq_true rfl) dL_law_1351 ⟨Nat.le_of_ble_eq_true rfl, Nat.le_of_ble_eq_true rfl⟩ (fun r1 u1 H locs hq1 hP hD hS => ?_)
    have e1 : r1 = R1.1 := congrArg Prod.fst hq1
    rw [law_fm] at hP hD
    refine lv_aload_n hx hb dL_law_1354 rfl (lv_at hl 2 rfl) ?_
    refine lv_aload_n hx hb dL_law_1355 rfl (lv_at hl 0 rfl) ?_
    refine lv_iload_n hx hb dL_law_1356 rfl (lv_at hl 3 rfl) ?_
    refine lv_iconst (v := (1 : Int32)) hx hb dL_law_1357 (by decide) ?_
    refine lv_iadd hx hb dL_law_1358 ?_
    refine va_sld hx hb hX hbl hbA hS (by unfold vp_in; decide) dL_law_1359 ?_
    refine lv_aload_n hx hb dL_law_1360 rfl (lv_at hl 0 rfl) ?_
    refine lv_iload_n hx hb dL_law_1361 rfl (lv_at hl 3 rfl) ?_
    refine lv_iconst (v := (2 : Int32)) hx hb dL_law_1362 (by decide) ?_
    refine lv_iadd hx hb dL_law_1363 ?_
    refine va_sld hx hb hX hbl hbA hS (by unfold vp_in; decide) dL_law_1364 ?_
    refine lv_aload_n hx hb dL_law_1365 rfl (lv_at hl 0 rfl) ?_
    refine lv_iload_n hx hb dL_law_1366 rfl (lv_at hl 3 rfl) ?_
    refine lv_iconst (v := (3 : Int32)) hx hb dL_law_1367 (by decide) ?_
    refine lv_iadd hx hb dL_law_1368 ?_
    refine va_sld hx hb hX hbl hbA hS (by unfold vp_in; decide) dL_law_1369 ?_
    refine lv_i2l (v := (xs ((0 : Int32) + (3 : Int32)).toNatClampNeg).toInt64) hx hb dL_law_1370 rfl ?_
    refine lv_bipush (v := (32 : Int32)) hx hb dL_law_1371 (by decide) ?_
    refine lv_lshl (v := ((xs ((0 : Int32) + (3 : Int32)).toNatClampNeg).toInt64) <<< ((32 : Int32).toInt64 &&& 63)) hx hb dL_law_1373 rfl ?_
    refine lv_aload_n hx hb dL_law_1374 rfl (lv_at hl 0 rfl) ?_
    refine lv_iload_n hx hb dL_law_1375 rfl (lv_at hl 3 rfl) ?_
    refine lv_iconst (v := (4 : Int32)) hx hb dL_law_1376 (by decide) ?_
    refine lv_iadd hx hb dL_law_1377 ?_
    refine va_sld hx hb hX hbl hbA hS (by unfold vp_in; decide) dL_law_1378 ?_
    refine lv_i2l (v := (xs ((0 : Int32) + (4 : Int32)).toNatClampNeg).toInt64) hx hb dL_law_1379 rfl ?_
    refine lv_ldc2 (v := (4294967295 : Int64)) hx hb hown (ht _ kw_1902) dL_law_1380 ?_
    refine lv_land hx hb dL_law_1383 ?_
    refine lv_lor hx hb dL_law_1384 ?_
    refine zk_vi (post := (fun r u => (r, u) = R2)) (w1 := fun u => (wl_X12_put am cs 0 0 0 0 0 0 0 0 0 0 0 0 0 0 0 0 0 ((upd (upd (upd (upd (upd (upd (fun _ => 0) ((0 : Int32)).toNatClampNeg (-1 : Int32)) ((1 : Int32)).toNatClampNeg (-1 : Int32)) ((2 : Int32)).toNatClampNeg (-1 : Int32)) ((3 : Int32)).toNatClampNeg (-1 : Int32)) ((4 : Int32)).toNatClampNeg (-1 : Int32)) ((5 : Int32)).toNatClampNeg (-1 : Int32))) ((fun _ => 0)) u)) (As := [.int (xs ((0 : Int32) + (1 : Int32)).toNatClampNeg), .int (xs ((0 : Int32) + (2 : Int32)).toNatClampNeg), .long ((((xs ((0 : Int32) + (3 : Int32)).toNatClampNeg).toInt64) <<< ((32 : Int32).toInt64 &&& 63)) ||| (((xs ((0 : Int32) + (4 : Int32)).toNatClampNeg).toInt64) &&& (4294967295 : Int64)))]) (rest := [.int r1]) (c_X12_put l D cs am   H.size (xs ((0 : Int32) + (1 : Int32)).toNatClampNeg) (xs ((0 : Int32) + (2 : Int32)).toNatClampNeg) ((((xs ((0 : Int32) + (3 : Int32)).toNatClampNeg).toInt64) <<< ((32 : Int32).toInt64 &&& 63)) ||| (((xs ((0 : Int32) + (4 : Int32)).toNatClampNeg).toInt64) &&& (4294967295 : Int64))) 0 0 0 0 0 0 0 0 0 0 0 0 0 0 0 0 0 ((upd (upd (upd (upd (upd (upd (fun _ => 0) ((0 : Int32)).toNatClampNeg (-1 : Int32)) ((1 : Int32)).toNatClampNeg (-1 : Int32)) ((2 : Int32)).toNatClampNeg (-1 : Int32)) ((3 : Int32)).toNatClampNeg (-1 : Int32)) ((4 : Int32)).toNatClampNeg (-1 : Int32)) ((5 : Int32)).toNatClampNeg (-1 : Int32))) ((fun _ => 0)) ((fun _ => 0)) R2 h2) ⟨hx, hb, hml, hown, ht⟩ (cwV 3 ht gl_157 rfl rfl rfl (by decide +kernel) ⟨Nat.le_of_ble_eq_true rfl, Nat.le_of_ble_eq_true rfl⟩) (va_recv hK hP (ci := 12) (q0 := 0) rfl rfl) hP hD hS hK hA [0, 40, 41, 42] [] rfl rfl rfl rfl (by decide) rfl hl.1 (Nat.le_of_ble_eq_true rfl) dL_law_1385 ⟨Nat.le_of_ble_eq_true rfl, Nat.le_of_ble_eq_true rfl⟩ (fun r2 u2 H locs hq2 hP hD hS => ?_)
    have e2 : r2 = R2.1 := congrArg Prod.fst hq2
    have EQ : r1 = r2 := by rw [e1, e2]; exact eq
    refine lv_icmp_eq (tgt := 1546) hx hb dL_law_1388 (by decide) (fun cc => ?_) (fun cc => absurd EQ cc)
    exact law_next C0 (by decide) (by decide) H locs ls hS (lv_sub hl [0, 3] rfl)
  · obtain ⟨R1, R2, h1, h2, eq⟩ := pe_put (g := g) (pf := pf) (ae := ae) (wb := wb) GF PF 2 (by omega) (xs ((0 : Int32) + (1 : Int32)).toNatClampNeg) (xs ((0 : Int32) + (2 : Int32)).toNatClampNeg) ((((xs ((0 : Int32) + (3 : Int32)).toNatClampNeg).toInt64) <<< ((32 : Int32).toInt64 &&& 63)) ||| (((xs ((0 : Int32) + (4 : Int32)).toNatClampNeg).toInt64) &&& (4294967295 : Int64))) hp0
    refine lv_aload_n hx hb dL_law_1320 rfl (lv_at hl 1 rfl) ?_
    refine lv_aload_n hx hb dL_law_1321 rfl (lv_at hl 0 rfl) ?_
    refine lv_iload_n hx hb dL_law_1322 rfl (lv_at hl 3 rfl) ?_
    refine lv_iconst (v := (1 : Int32)) hx hb dL_law_1323 (by decide) ?_
    refine lv_iadd hx hb dL_law_1324 ?_
    refine va_sld hx hb hX hbl hbA hS (by unfold vp_in; decide) dL_law_1325 ?_
    refine lv_aload_n hx hb dL_law_1326 rfl (lv_at hl 0 rfl) ?_
    refine lv_iload_n hx hb dL_law_1327 rfl (lv_at hl 3 rfl) ?_
    refine lv_iconst (v := (2 : Int32)) hx hb dL_law_1328 (by decide) ?_
    refine lv_iadd hx hb dL_law_1329 ?_
    refine va_sld hx hb hX hbl hbA hS (by unfold vp_in; decide) dL_law_1330 ?_
    refine lv_aload_n hx hb dL_law_1331 rfl (lv_at hl 0 rfl) ?_
    refine lv_iload_n hx hb dL_law_1332 rfl (lv_at hl 3 rfl) ?_
    refine lv_iconst (v := (3 : Int32)) hx hb dL_law_1333 (by decide) ?_
    refine lv_iadd hx hb dL_law_1334 ?_
    refine va_sld hx hb hX hbl hbA hS (by unfold vp_in; decide) dL_law_1335 ?_
    refine lv_i2l (v := (xs ((0 : Int32) + (3 : Int32)).toNatClampNeg).toInt64) hx hb dL_law_1336 rfl ?_
    refine lv_bipush (v := (32 : Int32)) hx hb dL_law_1337 (by decide) ?_
    refine lv_lshl (v := ((xs ((0 : Int32) + (3 : Int32)).toNatClampNeg).toInt64) <<< ((32 : Int32).toInt64 &&& 63)) hx hb dL_law_1339 rfl ?_
    refine lv_aload_n hx hb dL_law_1340 rfl (lv_at hl 0 rfl) ?_
    refine lv_iload_n hx hb dL_law_1341 rfl (lv_at hl 3 rfl) ?_
    refine lv_iconst (v := (4 : Int32)) hx hb dL_law_1342 (by decide) ?_
    refine lv_iadd hx hb dL_law_1343 ?_
    refine va_sld hx hb hX hbl hbA hS (by unfold vp_in; decide) dL_law_1344 ?_
    refine lv_i2l (v := (xs ((0 : Int32) + (4 : Int32)).toNatClampNeg).toInt64) hx hb dL_law_1345 rfl ?_
    refine lv_ldc2 (v := (4294967295 : Int64)) hx hb hown (ht _ kw_1902) dL_law_1346 ?_
    refine lv_land hx hb dL_law_1349 ?_
    refine lv_lor hx hb dL_law_1350 ?_
    refine zk_vi (post := (fun r u => (r, u) = R1)) (w1 := fun u => (wl_X11_put ad cs (ae 6) (ae 7) pf (-1) 0 0 u)) (As := [.int (xs ((0 : Int32) + (1 : Int32)).toNatClampNeg), .int (xs ((0 : Int32) + (2 : Int32)).toNatClampNeg), .long ((((xs ((0 : Int32) + (3 : Int32)).toNatClampNeg).toInt64) <<< ((32 : Int32).toInt64 &&& 63)) ||| (((xs ((0 : Int32) + (4 : Int32)).toNatClampNeg).toInt64) &&& (4294967295 : Int64)))]) (rest := []) (c_X11_put l D cs ad (ae 6) (ae 7)  H.size (xs ((0 : Int32) + (1 : Int32)).toNatClampNeg) (xs ((0 : Int32) + (2 : Int32)).toNatClampNeg) ((((xs ((0 : Int32) + (3 : Int32)).toNatClampNeg).toInt64) <<< ((32 : Int32).toInt64 &&& 63)) ||| (((xs ((0 : Int32) + (4 : Int32)).toNatClampNeg).toInt64) &&& (4294967295 : Int64))) pf (-1) 0 0 (fun _ => 0) R1 h1) ⟨hx, hb, hml, hown, ht⟩ (cwV 3 ht gl_153 rfl rfl rfl (by decide +kernel) ⟨Nat.le_of_ble_eq_true rfl, Nat.le_of_ble_eq_true rfl⟩) (va_recv hK hP (ci := 11) (q0 := 0) rfl rfl) hP hD hS hK hA [0, 1, 47, 48] [55, 56, 57, 58, 59, 60, 61, 62, 63, 64, 65, 66, 67, 68, 69, 70, 71, 72, 73, 74, 75, 76, 77, 78, 79, 80, 81, 82, 83, 84, 85, 86, 87, 88, 89, 90, 91, 92, 93, 94, 95, 96, 97, 98] rfl rfl law_hR law_nd (law_dis rfl) rfl hl.1 (Nat.le_of_ble_eq_true rfl) dL_law_1351 ⟨Nat.le_of_ble_eq_true rfl, Nat.le_of_ble_eq_true rfl⟩ (fun r1 u1 H locs hq1 hP hD hS => ?_)
    have e1 : r1 = R1.1 := congrArg Prod.fst hq1
    rw [law_fm] at hP hD
    refine lv_aload_n hx hb dL_law_1354 rfl (lv_at hl 2 rfl) ?_
    refine lv_aload_n hx hb dL_law_1355 rfl (lv_at hl 0 rfl) ?_
    refine lv_iload_n hx hb dL_law_1356 rfl (lv_at hl 3 rfl) ?_
    refine lv_iconst (v := (1 : Int32)) hx hb dL_law_1357 (by decide) ?_
    refine lv_iadd hx hb dL_law_1358 ?_
    refine va_sld hx hb hX hbl hbA hS (by unfold vp_in; decide) dL_law_1359 ?_
    refine lv_aload_n hx hb dL_law_1360 rfl (lv_at hl 0 rfl) ?_
    refine lv_iload_n hx hb dL_law_1361 rfl (lv_at hl 3 rfl) ?_
    refine lv_iconst (v := (2 : Int32)) hx hb dL_law_1362 (by decide) ?_
    refine lv_iadd hx hb dL_law_1363 ?_
    refine va_sld hx hb hX hbl hbA hS (by unfold vp_in; decide) dL_law_1364 ?_
    refine lv_aload_n hx hb dL_law_1365 rfl (lv_at hl 0 rfl) ?_
    refine lv_iload_n hx hb dL_law_1366 rfl (lv_at hl 3 rfl) ?_
    refine lv_iconst (v := (3 : Int32)) hx hb dL_law_1367 (by decide) ?_
    refine lv_iadd hx hb dL_law_1368 ?_
    refine va_sld hx hb hX hbl hbA hS (by unfold vp_in; decide) dL_law_1369 ?_
    refine lv_i2l (v := (xs ((0 : Int32) + (3 : Int32)).toNatClampNeg).toInt64) hx hb dL_law_1370 rfl ?_
    refine lv_bipush (v := (32 : Int32)) hx hb dL_law_1371 (by decide) ?_
    refine lv_lshl (v := ((xs ((0 : Int32) + (3 : Int32)).toNatClampNeg).toInt64) <<< ((32 : Int32).toInt64 &&& 63)) hx hb dL_law_1373 rfl ?_
    refine lv_aload_n hx hb dL_law_1374 rfl (lv_at hl 0 rfl) ?_
    refine lv_iload_n hx hb dL_law_1375 rfl (lv_at hl 3 rfl) ?_
    refine lv_iconst (v := (4 : Int32)) hx hb dL_law_1376 (by decide) ?_
    refine lv_iadd hx hb dL_law_1377 ?_
    refine va_sld hx hb hX hbl hbA hS (by unfold vp_in; decide) dL_law_1378 ?_
    refine lv_i2l (v := (xs ((0 : Int32) + (4 : Int32)).toNatClampNeg).toInt64) hx hb dL_law_1379 rfl ?_
    refine lv_ldc2 (v := (4294967295 : Int64)) hx hb hown (ht _ kw_1902) dL_law_1380 ?_
    refine lv_land hx hb dL_law_1383 ?_
    refine lv_lor hx hb dL_law_1384 ?_
    refine zk_vi (post := (fun r u => (r, u) = R2)) (w1 := fun u => (wl_X12_put am cs 0 0 0 0 0 0 0 0 0 0 0 0 0 0 0 0 0 ((upd (upd (upd (upd (upd (upd (fun _ => 0) ((0 : Int32)).toNatClampNeg (-1 : Int32)) ((1 : Int32)).toNatClampNeg (-1 : Int32)) ((2 : Int32)).toNatClampNeg (-1 : Int32)) ((3 : Int32)).toNatClampNeg (-1 : Int32)) ((4 : Int32)).toNatClampNeg (-1 : Int32)) ((5 : Int32)).toNatClampNeg (-1 : Int32))) ((fun _ => 0)) u)) (As := [.int (xs ((0 : Int32) + (1 : Int32)).toNatClampNeg), .int (xs ((0 : Int32) + (2 : Int32)).toNatClampNeg), .long ((((xs ((0 : Int32) + (3 : Int32)).toNatClampNeg).toInt64) <<< ((32 : Int32).toInt64 &&& 63)) ||| (((xs ((0 : Int32) + (4 : Int32)).toNatClampNeg).toInt64) &&& (4294967295 : Int64)))]) (rest := [.int r1]) (c_X12_put l D cs am   H.size (xs ((0 : Int32) + (1 : Int32)).toNatClampNeg) (xs ((0 : Int32) + (2 : Int32)).toNatClampNeg) ((((xs ((0 : Int32) + (3 : Int32)).toNatClampNeg).toInt64) <<< ((32 : Int32).toInt64 &&& 63)) ||| (((xs ((0 : Int32) + (4 : Int32)).toNatClampNeg).toInt64) &&& (4294967295 : Int64))) 0 0 0 0 0 0 0 0 0 0 0 0 0 0 0 0 0 ((upd (upd (upd (upd (upd (upd (fun _ => 0) ((0 : Int32)).toNatClampNeg (-1 : Int32)) ((1 : Int32)).toNatClampNeg (-1 : Int32)) ((2 : Int32)).toNatClampNeg (-1 : Int32)) ((3 : Int32)).toNatClampNeg (-1 : Int32)) ((4 : Int32)).toNatClampNeg (-1 : Int32)) ((5 : Int32)).toNatClampNeg (-1 : Int32))) ((fun _ => 0)) ((fun _ => 0)) R2 h2) ⟨hx, hb, hml, hown, ht⟩ (cwV 3 ht gl_157 rfl rfl rfl (by decide +kernel) ⟨Nat.le_of_ble_eq_true rfl, Nat.le_of_ble_eq_true rfl⟩) (va_recv hK hP (ci := 12) (q0 := 0) rfl rfl) hP hD hS hK hA [0, 40, 41, 42] [] rfl rfl rfl rfl (by decide) rfl hl.1 (Nat.le_of_ble_eq_true rfl) dL_law_1385 ⟨Nat.le_of_ble_eq_true rfl, Nat.le_of_ble_eq_true rfl⟩ (fun r2 u2 H locs hq2 hP hD hS => ?_)
    have e2 : r2 = R2.1 := congrArg Prod.fst hq2
    have EQ : r1 = r2 := by rw [e1, e2]; exact eq
    refine lv_icmp_eq (tgt := 1546) hx hb dL_law_1388 (by decide) (fun cc => ?_) (fun cc => absurd EQ cc)
    exact law_next C0 (by decide) (by decide) H locs ls hS (lv_sub hl [0, 3] rfl)
  · obtain ⟨R1, R2, h1, h2, eq⟩ := pe_put (g := g) (pf := pf) (ae := ae) (wb := wb) GF PF 3 (by omega) (xs ((0 : Int32) + (1 : Int32)).toNatClampNeg) (xs ((0 : Int32) + (2 : Int32)).toNatClampNeg) ((((xs ((0 : Int32) + (3 : Int32)).toNatClampNeg).toInt64) <<< ((32 : Int32).toInt64 &&& 63)) ||| (((xs ((0 : Int32) + (4 : Int32)).toNatClampNeg).toInt64) &&& (4294967295 : Int64))) hp0
    refine lv_aload_n hx hb dL_law_1320 rfl (lv_at hl 1 rfl) ?_
    refine lv_aload_n hx hb dL_law_1321 rfl (lv_at hl 0 rfl) ?_
    refine lv_iload_n hx hb dL_law_1322 rfl (lv_at hl 3 rfl) ?_
    refine lv_iconst (v := (1 : Int32)) hx hb dL_law_1323 (by decide) ?_
    refine lv_iadd hx hb dL_law_1324 ?_
    refine va_sld hx hb hX hbl hbA hS (by unfold vp_in; decide) dL_law_1325 ?_
    refine lv_aload_n hx hb dL_law_1326 rfl (lv_at hl 0 rfl) ?_
    refine lv_iload_n hx hb dL_law_1327 rfl (lv_at hl 3 rfl) ?_
    refine lv_iconst (v := (2 : Int32)) hx hb dL_law_1328 (by decide) ?_
    refine lv_iadd hx hb dL_law_1329 ?_
    refine va_sld hx hb hX hbl hbA hS (by unfold vp_in; decide) dL_law_1330 ?_
    refine lv_aload_n hx hb dL_law_1331 rfl (lv_at hl 0 rfl) ?_
    refine lv_iload_n hx hb dL_law_1332 rfl (lv_at hl 3 rfl) ?_
    refine lv_iconst (v := (3 : Int32)) hx hb dL_law_1333 (by decide) ?_
    refine lv_iadd hx hb dL_law_1334 ?_
    refine va_sld hx hb hX hbl hbA hS (by unfold vp_in; decide) dL_law_1335 ?_
    refine lv_i2l (v := (xs ((0 : Int32) + (3 : Int32)).toNatClampNeg).toInt64) hx hb dL_law_1336 rfl ?_
    refine lv_bipush (v := (32 : Int32)) hx hb dL_law_1337 (by decide) ?_
    refine lv_lshl (v := ((xs ((0 : Int32) + (3 : Int32)).toNatClampNeg).toInt64) <<< ((32 : Int32).toInt64 &&& 63)) hx hb dL_law_1339 rfl ?_
    refine lv_aload_n hx hb dL_law_1340 rfl (lv_at hl 0 rfl) ?_
    refine lv_iload_n hx hb dL_law_1341 rfl (lv_at hl 3 rfl) ?_
    refine lv_iconst (v := (4 : Int32)) hx hb dL_law_1342 (by decide) ?_
    refine lv_iadd hx hb dL_law_1343 ?_
    refine va_sld hx hb hX hbl hbA hS (by unfold vp_in; decide) dL_law_1344 ?_
    refine lv_i2l (v := (xs ((0 : Int32) + (4 : Int32)).toNatClampNeg).toInt64) hx hb dL_law_1345 rfl ?_
    refine lv_ldc2 (v := (4294967295 : Int64)) hx hb hown (ht _ kw_1902) dL_law_1346 ?_
    refine lv_land hx hb dL_law_1349 ?_
    refine lv_lor hx hb dL_law_1350 ?_
    refine zk_vi (post := (fun r u => (r, u) = R1)) (w1 := fun u => (wl_X11_put ad cs (ae 8) (ae 9) pf (-1) 0 0 u)) (As := [.int (xs ((0 : Int32) + (1 : Int32)).toNatClampNeg), .int (xs ((0 : Int32) + (2 : Int32)).toNatClampNeg), .long ((((xs ((0 : Int32) + (3 : Int32)).toNatClampNeg).toInt64) <<< ((32 : Int32).toInt64 &&& 63)) ||| (((xs ((0 : Int32) + (4 : Int32)).toNatClampNeg).toInt64) &&& (4294967295 : Int64)))]) (rest := []) (c_X11_put l D cs ad (ae 8) (ae 9)  H.size (xs ((0 : Int32) + (1 : Int32)).toNatClampNeg) (xs ((0 : Int32) + (2 : Int32)).toNatClampNeg) ((((xs ((0 : Int32) + (3 : Int32)).toNatClampNeg).toInt64) <<< ((32 : Int32).toInt64 &&& 63)) ||| (((xs ((0 : Int32) + (4 : Int32)).toNatClampNeg).toInt64) &&& (4294967295 : Int64))) pf (-1) 0 0 (fun _ => 0) R1 h1) ⟨hx, hb, hml, hown, ht⟩ (cwV 3 ht gl_153 rfl rfl rfl (by decide +kernel) ⟨Nat.le_of_ble_eq_true rfl, Nat.le_of_ble_eq_true rfl⟩) (va_recv hK hP (ci := 11) (q0 := 0) rfl rfl) hP hD hS hK hA [0, 1, 49, 50] [55, 56, 57, 58, 59, 60, 61, 62, 63, 64, 65, 66, 67, 68, 69, 70, 71, 72, 73, 74, 75, 76, 77, 78, 79, 80, 81, 82, 83, 84, 85, 86, 87, 88, 89, 90, 91, 92, 93, 94, 95, 96, 97, 98] rfl rfl law_hR law_nd (law_dis rfl) rfl hl.1 (Nat.le_of_ble_eq_true rfl) dL_law_1351 ⟨Nat.le_of_ble_eq_true rfl, Nat.le_of_ble_eq_true rfl⟩ (fun r1 u1 H locs hq1 hP hD hS => ?_)
    have e1 : r1 = R1.1 := congrArg Prod.fst hq1
    rw [law_fm] at hP hD
    refine lv_aload_n hx hb dL_law_1354 rfl (lv_at hl 2 rfl) ?_
    refine lv_aload_n hx hb dL_law_1355 rfl (lv_at hl 0 rfl) ?_
    refine lv_iload_n hx hb dL_law_1356 rfl (lv_at hl 3 rfl) ?_
    refine lv_iconst (v := (1 : Int32)) hx hb dL_law_1357 (by decide) ?_
    refine lv_iadd hx hb dL_law_1358 ?_
    refine va_sld hx hb hX hbl hbA hS (by unfold vp_in; decide) dL_law_1359 ?_
    refine lv_aload_n hx hb dL_law_1360 rfl (lv_at hl 0 rfl) ?_
    refine lv_iload_n hx hb dL_law_1361 rfl (lv_at hl 3 rfl) ?_
    refine lv_iconst (v := (2 : Int32)) hx hb dL_law_1362 (by decide) ?_
    refine lv_iadd hx hb dL_law_1363 ?_
    refine va_sld hx hb hX hbl hbA hS (by unfold vp_in; decide) dL_law_1364 ?_
    refine lv_aload_n hx hb dL_law_1365 rfl (lv_at hl 0 rfl) ?_
    refine lv_iload_n hx hb dL_law_1366 rfl (lv_at hl 3 rfl) ?_
    refine lv_iconst (v := (3 : Int32)) hx hb dL_law_1367 (by decide) ?_
    refine lv_iadd hx hb dL_law_1368 ?_
    refine va_sld hx hb hX hbl hbA hS (by unfold vp_in; decide) dL_law_1369 ?_
    refine lv_i2l (v := (xs ((0 : Int32) + (3 : Int32)).toNatClampNeg).toInt64) hx hb dL_law_1370 rfl ?_
    refine lv_bipush (v := (32 : Int32)) hx hb dL_law_1371 (by decide) ?_
    refine lv_lshl (v := ((xs ((0 : Int32) + (3 : Int32)).toNatClampNeg).toInt64) <<< ((32 : Int32).toInt64 &&& 63)) hx hb dL_law_1373 rfl ?_
    refine lv_aload_n hx hb dL_law_1374 rfl (lv_at hl 0 rfl) ?_
    refine lv_iload_n hx hb dL_law_1375 rfl (lv_at hl 3 rfl) ?_
    refine lv_iconst (v := (4 : Int32)) hx hb dL_law_1376 (by decide) ?_
    refine lv_iadd hx hb dL_law_1377 ?_
    refine va_sld hx hb hX hbl hbA hS (by unfold vp_in; decide) dL_law_1378 ?_
    refine lv_i2l (v := (xs ((0 : Int32) + (4 : Int32)).toNatClampNeg).toInt64) hx hb dL_law_1379 rfl ?_
    refine lv_ldc2 (v := (4294967295 : Int64)) hx hb hown (ht _ kw_1902) dL_law_1380 ?_
    refine lv_land hx hb dL_law_1383 ?_
    refine lv_lor hx hb dL_law_1384 ?_
    refine zk_vi (post := (fun r u => (r, u) = R2)) (w1 := fun u => (wl_X12_put am cs 0 0 0 0 0 0 0 0 0 0 0 0 0 0 0 0 0 ((upd (upd (upd (upd (upd (upd (fun _ => 0) ((0 : Int32)).toNatClampNeg (-1 : Int32)) ((1 : Int32)).toNatClampNeg (-1 : Int32)) ((2 : Int32)).toNatClampNeg (-1 : Int32)) ((3 : Int32)).toNatClampNeg (-1 : Int32)) ((4 : Int32)).toNatClampNeg (-1 : Int32)) ((5 : Int32)).toNatClampNeg (-1 : Int32))) ((fun _ => 0)) u)) (As := [.int (xs ((0 : Int32) + (1 : Int32)).toNatClampNeg), .int (xs ((0 : Int32) + (2 : Int32)).toNatClampNeg), .long ((((xs ((0 : Int32) + (3 : Int32)).toNatClampNeg).toInt64) <<< ((32 : Int32).toInt64 &&& 63)) ||| (((xs ((0 : Int32) + (4 : Int32)).toNatClampNeg).toInt64) &&& (4294967295 : Int64)))]) (rest := [.int r1]) (c_X12_put l D cs am   H.size (xs ((0 : Int32) + (1 : Int32)).toNatClampNeg) (xs ((0 : Int32) + (2 : Int32)).toNatClampNeg) ((((xs ((0 : Int32) + (3 : Int32)).toNatClampNeg).toInt64) <<< ((32 : Int32).toInt64 &&& 63)) ||| (((xs ((0 : Int32) + (4 : Int32)).toNatClampNeg).toInt64) &&& (4294967295 : Int64))) 0 0 0 0 0 0 0 0 0 0 0 0 0 0 0 0 0 ((upd (upd (upd (upd (upd (upd (fun _ => 0) ((0 : Int32)).toNatClampNeg (-1 : Int32)) ((1 : Int32)).toNatClampNeg (-1 : Int32)) ((2 : Int32)).toNatClampNeg (-1 : Int32)) ((3 : Int32)).toNatClampNeg (-1 : Int32)) ((4 : Int32)).toNatClampNeg (-1 : Int32)) ((5 : Int32)).toNatClampNeg (-1 : Int32))) ((fun _ => 0)) ((fun _ => 0)) R2 h2) ⟨hx, hb, hml, hown, ht⟩ (cwV 3 ht gl_157 rfl rfl rfl (by decide +kernel) ⟨Nat.le_of_ble_eq_true rfl, Nat.le_of_ble_eq_true rfl⟩) (va_recv hK hP (ci := 12) (q0 := 0) rfl rfl) hP hD hS hK hA [0, 40, 41, 42] [] rfl rfl rfl rfl (by decide) rfl hl.1 (Nat.le_of_ble_eq_true rfl) dL_law_1385 ⟨Nat.le_of_ble_eq_true rfl, Nat.le_of_ble_eq_true rfl⟩ (fun r2 u2 H locs hq2 hP hD hS => ?_)
    have e2 : r2 = R2.1 := congrArg Prod.fst hq2
    have EQ : r1 = r2 := by rw [e1, e2]; exact eq
    refine lv_icmp_eq (tgt := 1546) hx hb dL_law_1388 (by decide) (fun cc => ?_) (fun cc => absurd EQ cc)
    exact law_next C0 (by decide) (by decide) H locs ls hS (lv_sub hl [0, 3] rfl)
  · obtain ⟨R1, R2, h1, h2, eq⟩ := pe_put (g := g) (pf := pf) (ae := ae) (wb := wb) GF PF 4 (by omega) (xs ((0 : Int32) + (1 : Int32)).toNatClampNeg) (xs ((0 : Int32) + (2 : Int32)).toNatClampNeg) ((((xs ((0 : Int32) + (3 : Int32)).toNatClampNeg).toInt64) <<< ((32 : Int32).toInt64 &&& 63)) ||| (((xs ((0 : Int32) + (4 : Int32)).toNatClampNeg).toInt64) &&& (4294967295 : Int64))) hp0
    refine lv_aload_n hx hb dL_law_1320 rfl (lv_at hl 1 rfl) ?_
    refine lv_aload_n hx hb dL_law_1321 rfl (lv_at hl 0 rfl) ?_
    refine lv_iload_n hx hb dL_law_1322 rfl (lv_at hl 3 rfl) ?_
    refine lv_iconst (v := (1 : Int32)) hx hb dL_law_1323 (by decide) ?_
    refine lv_iadd hx hb dL_law_1324 ?_
    refine va_sld hx hb hX hbl hbA hS (by unfold vp_in; decide) dL_law_1325 ?_
    refine lv_aload_n hx hb dL_law_1326 rfl (lv_at hl 0 rfl) ?_
    refine lv_iload_n hx hb dL_law_1327 rfl (lv_at hl 3 rfl) ?_
    refine lv_iconst (v := (2 : Int32)) hx hb dL_law_1328 (by decide) ?_
    refine lv_iadd hx hb dL_law_1329 ?_
    refine va_sld hx hb hX hbl hbA hS (by unfold vp_in; decide) dL_law_1330 ?_
    refine lv_aload_n hx hb dL_law_1331 rfl (lv_at hl 0 rfl) ?_
    refine lv_iload_n hx hb dL_law_1332 rfl (lv_at hl 3 rfl) ?_
    refine lv_iconst (v := (3 : Int32)) hx hb dL_law_1333 (by decide) ?_
    refine lv_iadd hx hb dL_law_1334 ?_
    refine va_sld hx hb hX hbl hbA hS (by unfold vp_in; decide) dL_law_1335 ?_
    refine lv_i2l (v := (xs ((0 : Int32) + (3 : Int32)).toNatClampNeg).toInt64) hx hb dL_law_1336 rfl ?_
    refine lv_bipush (v := (32 : Int32)) hx hb dL_law_1337 (by decide) ?_
    refine lv_lshl (v := ((xs ((0 : Int32) + (3 : Int32)).toNatClampNeg).toInt64) <<< ((32 : Int32).toInt64 &&& 63)) hx hb dL_law_1339 rfl ?_
    refine lv_aload_n hx hb dL_law_1340 rfl (lv_at hl 0 rfl) ?_
    refine lv_iload_n hx hb dL_law_1341 rfl (lv_at hl 3 rfl) ?_
    refine lv_iconst (v := (4 : Int32)) hx hb dL_law_1342 (by decide) ?_
    refine lv_iadd hx hb dL_law_1343 ?_
    refine va_sld hx hb hX hbl hbA hS (by unfold vp_in; decide) dL_law_1344 ?_
    refine lv_i2l (v := (xs ((0 : Int32) + (4 : Int32)).toNatClampNeg).toInt64) hx hb dL_law_1345 rfl ?_
    refine lv_ldc2 (v := (4294967295 : Int64)) hx hb hown (ht _ kw_1902) dL_law_1346 ?_
    refine lv_land hx hb dL_law_1349 ?_
    refine lv_lor hx hb dL_law_1350 ?_
    refine zk_vi (post := (fun r u => (r, u) = R1)) (w1 := fun u => (wl_X11_put ad cs (ae 10) (ae 11) pf (-1) 0 0 u)) (As := [.int (xs ((0 : Int32) + (1 : Int32)).toNatClampNeg), .int (xs ((0 : Int32) + (2 : Int32)).toNatClampNeg), .long ((((xs ((0 : Int32) + (3 : Int32)).toNatClampNeg).toInt64) <<< ((32 : Int32).toInt64 &&& 63)) ||| (((xs ((0 : Int32) + (4 : Int32)).toNatClampNeg).toInt64) &&& (4294967295 : Int64)))]) (rest := []) (c_X11_put l D cs ad (ae 10) (ae 11)  H.size (xs ((0 : Int32) + (1 : Int32)).toNatClampNeg) (xs ((0 : Int32) + (2 : Int32)).toNatClampNeg) ((((xs ((0 : Int32) + (3 : Int32)).toNatClampNeg).toInt64) <<< ((32 : Int32).toInt64 &&& 63)) ||| (((xs ((0 : Int32) + (4 : Int32)).toNatClampNeg).toInt64) &&& (4294967295 : Int64))) pf (-1) 0 0 (fun _ => 0) R1 h1) ⟨hx, hb, hml, hown, ht⟩ (cwV 3 ht gl_153 rfl rfl rfl (by decide +kernel) ⟨Nat.le_of_ble_eq_true rfl, Nat.le_of_ble_eq_true rfl⟩) (va_recv hK hP (ci := 11) (q0 := 0) rfl rfl) hP hD hS hK hA [0, 1, 51, 52] [55, 56, 57, 58, 59, 60, 61, 62, 63, 64, 65, 66, 67, 68, 69, 70, 71, 72, 73, 74, 75, 76, 77, 78, 79, 80, 81, 82, 83, 84, 85, 86, 87, 88, 89, 90, 91, 92, 93, 94, 95, 96, 97, 98] rfl rfl law_hR law_nd (law_dis rfl) rfl hl.1 (Nat.le_of_ble_eq_true rfl) dL_law_1351 ⟨Nat.le_of_ble_eq_true rfl, Nat.le_of_ble_eq_true rfl⟩ (fun r1 u1 H locs hq1 hP hD hS => ?_)
    have e1 : r1 = R1.1 := congrArg Prod.fst hq1
    rw [law_fm] at hP hD
    refine lv_aload_n hx hb dL_law_1354 rfl (lv_at hl 2 rfl) ?_
    refine lv_aload_n hx hb dL_law_1355 rfl (lv_at hl 0 rfl) ?_
    refine lv_iload_n hx hb dL_law_1356 rfl (lv_at hl 3 rfl) ?_
    refine lv_iconst (v := (1 : Int32)) hx hb dL_law_1357 (by decide) ?_
    refine lv_iadd hx hb dL_law_1358 ?_
    refine va_sld hx hb hX hbl hbA hS (by unfold vp_in; decide) dL_law_1359 ?_
    refine lv_aload_n hx hb dL_law_1360 rfl (lv_at hl 0 rfl) ?_
    refine lv_iload_n hx hb dL_law_1361 rfl (lv_at hl 3 rfl) ?_
    refine lv_iconst (v := (2 : Int32)) hx hb dL_law_1362 (by decide) ?_
    refine lv_iadd hx hb dL_law_1363 ?_
    refine va_sld hx hb hX hbl hbA hS (by unfold vp_in; decide) dL_law_1364 ?_
    refine lv_aload_n hx hb dL_law_1365 rfl (lv_at hl 0 rfl) ?_
    refine lv_iload_n hx hb dL_law_1366 rfl (lv_at hl 3 rfl) ?_
    refine lv_iconst (v := (3 : Int32)) hx hb dL_law_1367 (by decide) ?_
    refine lv_iadd hx hb dL_law_1368 ?_
    refine va_sld hx hb hX hbl hbA hS (by unfold vp_in; decide) dL_law_1369 ?_
    refine lv_i2l (v := (xs ((0 : Int32) + (3 : Int32)).toNatClampNeg).toInt64) hx hb dL_law_1370 rfl ?_
    refine lv_bipush (v := (32 : Int32)) hx hb dL_law_1371 (by decide) ?_
    refine lv_lshl (v := ((xs ((0 : Int32) + (3 : Int32)).toNatClampNeg).toInt64) <<< ((32 : Int32).toInt64 &&& 63)) hx hb dL_law_1373 rfl ?_
    refine lv_aload_n hx hb dL_law_1374 rfl (lv_at hl 0 rfl) ?_
    refine lv_iload_n hx hb dL_law_1375 rfl (lv_at hl 3 rfl) ?_
    refine lv_iconst (v := (4 : Int32)) hx hb dL_law_1376 (by decide) ?_
    refine lv_iadd hx hb dL_law_1377 ?_
    refine va_sld hx hb hX hbl hbA hS (by unfold vp_in; decide) dL_law_1378 ?_
    refine lv_i2l (v := (xs ((0 : Int32) + (4 : Int32)).toNatClampNeg).toInt64) hx hb dL_law_1379 rfl ?_
    refine lv_ldc2 (v := (4294967295 : Int64)) hx hb hown (ht _ kw_1902) dL_law_1380 ?_
    refine lv_land hx hb dL_law_1383 ?_
    refine lv_lor hx hb dL_law_1384 ?_
    refine zk_vi (post := (fun r u => (r, u) = R2)) (w1 := fun u => (wl_X12_put am cs 0 0 0 0 0 0 0 0 0 0 0 0 0 0 0 0 0 ((upd (upd (upd (upd (upd (upd (fun _ => 0) ((0 : Int32)).toNatClampNeg (-1 : Int32)) ((1 : Int32)).toNatClampNeg (-1 : Int32)) ((2 : Int32)).toNatClampNeg (-1 : Int32)) ((3 : Int32)).toNatClampNeg (-1 : Int32)) ((4 : Int32)).toNatClampNeg (-1 : Int32)) ((5 : Int32)).toNatClampNeg (-1 : Int32))) ((fun _ => 0)) u)) (As := [.int (xs ((0 : Int32) + (1 : Int32)).toNatClampNeg), .int (xs ((0 : Int32) + (2 : Int32)).toNatClampNeg), .long ((((xs ((0 : Int32) + (3 : Int32)).toNatClampNeg).toInt64) <<< ((32 : Int32).toInt64 &&& 63)) ||| (((xs ((0 : Int32) + (4 : Int32)).toNatClampNeg).toInt64) &&& (4294967295 : Int64)))]) (rest := [.int r1]) (c_X12_put l D cs am   H.size (xs ((0 : Int32) + (1 : Int32)).toNatClampNeg) (xs ((0 : Int32) + (2 : Int32)).toNatClampNeg) ((((xs ((0 : Int32) + (3 : Int32)).toNatClampNeg).toInt64) <<< ((32 : Int32).toInt64 &&& 63)) ||| (((xs ((0 : Int32) + (4 : Int32)).toNatClampNeg).toInt64) &&& (4294967295 : Int64))) 0 0 0 0 0 0 0 0 0 0 0 0 0 0 0 0 0 ((upd (upd (upd (upd (upd (upd (fun _ => 0) ((0 : Int32)).toNatClampNeg (-1 : Int32)) ((1 : Int32)).toNatClampNeg (-1 : Int32)) ((2 : Int32)).toNatClampNeg (-1 : Int32)) ((3 : Int32)).toNatClampNeg (-1 : Int32)) ((4 : Int32)).toNatClampNeg (-1 : Int32)) ((5 : Int32)).toNatClampNeg (-1 : Int32))) ((fun _ => 0)) ((fun _ => 0)) R2 h2) ⟨hx, hb, hml, hown, ht⟩ (cwV 3 ht gl_157 rfl rfl rfl (by decide +kernel) ⟨Nat.le_of_ble_eq_true rfl, Nat.le_of_ble_eq_true rfl⟩) (va_recv hK hP (ci := 12) (q0 := 0) rfl rfl) hP hD hS hK hA [0, 40, 41, 42] [] rfl rfl rfl rfl (by decide) rfl hl.1 (Nat.le_of_ble_eq_true rfl) dL_law_1385 ⟨Nat.le_of_ble_eq_true rfl, Nat.le_of_ble_eq_true rfl⟩ (fun r2 u2 H locs hq2 hP hD hS => ?_)
    have e2 : r2 = R2.1 := congrArg Prod.fst hq2
    have EQ : r1 = r2 := by rw [e1, e2]; exact eq
    refine lv_icmp_eq (tgt := 1546) hx hb dL_law_1388 (by decide) (fun cc => ?_) (fun cc => absurd EQ cc)
    exact law_next C0 (by decide) (by decide) H locs ls hS (lv_sub hl [0, 3] rfl)
  · obtain ⟨R1, R2, h1, h2, eq⟩ := pe_put (g := g) (pf := pf) (ae := ae) (wb := wb) GF PF 5 (by omega) (xs ((0 : Int32) + (1 : Int32)).toNatClampNeg) (xs ((0 : Int32) + (2 : Int32)).toNatClampNeg) ((((xs ((0 : Int32) + (3 : Int32)).toNatClampNeg).toInt64) <<< ((32 : Int32).toInt64 &&& 63)) ||| (((xs ((0 : Int32) + (4 : Int32)).toNatClampNeg).toInt64) &&& (4294967295 : Int64))) hp0
    refine lv_aload_n hx hb dL_law_1320 rfl (lv_at hl 1 rfl) ?_
    refine lv_aload_n hx hb dL_law_1321 rfl (lv_at hl 0 rfl) ?_
    refine lv_iload_n hx hb dL_law_1322 rfl (lv_at hl 3 rfl) ?_
    refine lv_iconst (v := (1 : Int32)) hx hb dL_law_1323 (by decide) ?_
    refine lv_iadd hx hb dL_law_1324 ?_
    refine va_sld hx hb hX hbl hbA hS (by unfold vp_in; decide) dL_law_1325 ?_
    refine lv_aload_n hx hb dL_law_1326 rfl (lv_at hl 0 rfl) ?_
    refine lv_iload_n hx hb dL_law_1327 rfl (lv_at hl 3 rfl) ?_
    refine lv_iconst (v := (2 : Int32)) hx hb dL_law_1328 (by decide) ?_
    refine lv_iadd hx hb dL_law_1329 ?_
    refine va_sld hx hb hX hbl hbA hS (by unfold vp_in; decide) dL_law_1330 ?_
    refine lv_aload_n hx hb dL_law_1331 rfl (lv_at hl 0 rfl) ?_
    refine lv_iload_n hx hb dL_law_1332 rfl (lv_at hl 3 rfl) ?_
    refine lv_iconst (v := (3 : Int32)) hx hb dL_law_1333 (by decide) ?_
    refine lv_iadd hx hb dL_law_1334 ?_
    refine va_sld hx hb hX hbl hbA hS (by unfold vp_in; decide) dL_law_1335 ?_
    refine lv_i2l (v := (xs ((0 : Int32) + (3 : Int32)).toNatClampNeg).toInt64) hx hb dL_law_1336 rfl ?_
    refine lv_bipush (v := (32 : Int32)) hx hb dL_law_1337 (by decide) ?_
    refine lv_lshl (v := ((xs ((0 : Int32) + (3 : Int32)).toNatClampNeg).toInt64) <<< ((32 : Int32).toInt64 &&& 63)) hx hb dL_law_1339 rfl ?_
    refine lv_aload_n hx hb dL_law_1340 rfl (lv_at hl 0 rfl) ?_
    refine lv_iload_n hx hb dL_law_1341 rfl (lv_at hl 3 rfl) ?_
    refine lv_iconst (v := (4 : Int32)) hx hb dL_law_1342 (by decide) ?_
    refine lv_iadd hx hb dL_law_1343 ?_
    refine va_sld hx hb hX hbl hbA hS (by unfold vp_in; decide) dL_law_1344 ?_
    refine lv_i2l (v := (xs ((0 : Int32) + (4 : Int32)).toNatClampNeg).toInt64) hx hb dL_law_1345 rfl ?_
    refine lv_ldc2 (v := (4294967295 : Int64)) hx hb hown (ht _ kw_1902) dL_law_1346 ?_
    refine lv_land hx hb dL_law_1349 ?_
    refine lv_lor hx hb dL_law_1350 ?_
    refine zk_vi (post := (fun r u => (r, u) = R1)) (w1 := fun u => (wl_X11_put ad cs (ae 12) (ae 13) pf (-1) 0 0 u)) (As := [.int (xs ((0 : Int32) + (1 : Int32)).toNatClampNeg), .int (xs ((0 : Int32) + (2 : Int32)).toNatClampNeg), .long ((((xs ((0 : Int32) + (3 : Int32)).toNatClampNeg).toInt64) <<< ((32 : Int32).toInt64 &&& 63)) ||| (((xs ((0 : Int32) + (4 : Int32)).toNatClampNeg).toInt64) &&& (4294967295 : Int64)))]) (rest := []) (c_X11_put l D cs ad (ae 12) (ae 13)  H.size (xs ((0 : Int32) + (1 : Int32)).toNatClampNeg) (xs ((0 : Int32) + (2 : Int32)).toNatClampNeg) ((((xs ((0 : Int32) + (3 : Int32)).toNatClampNeg).toInt64) <<< ((32 : Int32).toInt64 &&& 63)) ||| (((xs ((0 : Int32) + (4 : Int32)).toNatClampNeg).toInt64) &&& (4294967295 : Int64))) pf (-1) 0 0 (fun _ => 0) R1 h1) ⟨hx, hb, hml, hown, ht⟩ (cwV 3 ht gl_153 rfl rfl rfl (by decide +kernel) ⟨Nat.le_of_ble_eq_true rfl, Nat.le_of_ble_eq_true rfl⟩) (va_recv hK hP (ci := 11) (q0 := 0) rfl rfl) hP hD hS hK hA [0, 1, 53, 54] [55, 56, 57, 58, 59, 60, 61, 62, 63, 64, 65, 66, 67, 68, 69, 70, 71, 72, 73, 74, 75, 76, 77, 78, 79, 80, 81, 82, 83, 84, 85, 86, 87, 88, 89, 90, 91, 92, 93, 94, 95, 96, 97, 98] rfl rfl law_hR law_nd (law_dis rfl) rfl hl.1 (Nat.le_of_ble_eq_true rfl) dL_law_1351 ⟨Nat.le_of_ble_eq_true rfl, Nat.le_of_ble_eq_true rfl⟩ (fun r1 u1 H locs hq1 hP hD hS => ?_)
    have e1 : r1 = R1.1 := congrArg Prod.fst hq1
    rw [law_fm] at hP hD
    refine lv_aload_n hx hb dL_law_1354 rfl (lv_at hl 2 rfl) ?_
    refine lv_aload_n hx hb dL_law_1355 rfl (lv_at hl 0 rfl) ?_
    refine lv_iload_n hx hb dL_law_1356 rfl (lv_at hl 3 rfl) ?_
    refine lv_iconst (v := (1 : Int32)) hx hb dL_law_1357 (by decide) ?_
    refine lv_iadd hx hb dL_law_1358 ?_
    refine va_sld hx hb hX hbl hbA hS (by unfold vp_in; decide) dL_law_1359 ?_
    refine lv_aload_n hx hb dL_law_1360 rfl (lv_at hl 0 rfl) ?_
    refine lv_iload_n hx hb dL_law_1361 rfl (lv_at hl 3 rfl) ?_
    refine lv_iconst (v := (2 : Int32)) hx hb dL_law_1362 (by decide) ?_
    refine lv_iadd hx hb dL_law_1363 ?_
    refine va_sld hx hb hX hbl hbA hS (by unfold vp_in; decide) dL_law_1364 ?_
    refine lv_aload_n hx hb dL_law_1365 rfl (lv_at hl 0 rfl) ?_
    refine lv_iload_n hx hb dL_law_1366 rfl (lv_at hl 3 rfl) ?_
    refine lv_iconst (v := (3 : Int32)) hx hb dL_law_1367 (by decide) ?_
    refine lv_iadd hx hb dL_law_1368 ?_
    refine va_sld hx hb hX hbl hbA hS (by unfold vp_in; decide) dL_law_1369 ?_
    refine lv_i2l (v := (xs ((0 : Int32) + (3 : Int32)).toNatClampNeg).toInt64) hx hb dL_law_1370 rfl ?_
    refine lv_bipush (v := (32 : Int32)) hx hb dL_law_1371 (by decide) ?_
    refine lv_lshl (v := ((xs ((0 : Int32) + (3 : Int32)).toNatClampNeg).toInt64) <<< ((32 : Int32).toInt64 &&& 63)) hx hb dL_law_1373 rfl ?_
    refine lv_aload_n hx hb dL_law_1374 rfl (lv_at hl 0 rfl) ?_
    refine lv_iload_n hx hb dL_law_1375 rfl (lv_at hl 3 rfl) ?_
    refine lv_iconst (v := (4 : Int32)) hx hb dL_law_1376 (by decide) ?_
    refine lv_iadd hx hb dL_law_1377 ?_
    refine va_sld hx hb hX hbl hbA hS (by unfold vp_in; decide) dL_law_1378 ?_
    refine lv_i2l (v := (xs ((0 : Int32) + (4 : Int32)).toNatClampNeg).toInt64) hx hb dL_law_1379 rfl ?_
    refine lv_ldc2 (v := (4294967295 : Int64)) hx hb hown (ht _ kw_1902) dL_law_1380 ?_
    refine lv_land hx hb dL_law_1383 ?_
    refine lv_lor hx hb dL_law_1384 ?_
    refine zk_vi (post := (fun r u => (r, u) = R2)) (w1 := fun u => (wl_X12_put am cs 0 0 0 0 0 0 0 0 0 0 0 0 0 0 0 0 0 ((upd (upd (upd (upd (upd (upd (fun _ => 0) ((0 : Int32)).toNatClampNeg (-1 : Int32)) ((1 : Int32)).toNatClampNeg (-1 : Int32)) ((2 : Int32)).toNatClampNeg (-1 : Int32)) ((3 : Int32)).toNatClampNeg (-1 : Int32)) ((4 : Int32)).toNatClampNeg (-1 : Int32)) ((5 : Int32)).toNatClampNeg (-1 : Int32))) ((fun _ => 0)) u)) (As := [.int (xs ((0 : Int32) + (1 : Int32)).toNatClampNeg), .int (xs ((0 : Int32) + (2 : Int32)).toNatClampNeg), .long ((((xs ((0 : Int32) + (3 : Int32)).toNatClampNeg).toInt64) <<< ((32 : Int32).toInt64 &&& 63)) ||| (((xs ((0 : Int32) + (4 : Int32)).toNatClampNeg).toInt64) &&& (4294967295 : Int64)))]) (rest := [.int r1]) (c_X12_put l D cs am   H.size (xs ((0 : Int32) + (1 : Int32)).toNatClampNeg) (xs ((0 : Int32) + (2 : Int32)).toNatClampNeg) ((((xs ((0 : Int32) + (3 : Int32)).toNatClampNeg).toInt64) <<< ((32 : Int32).toInt64 &&& 63)) ||| (((xs ((0 : Int32) + (4 : Int32)).toNatClampNeg).toInt64) &&& (4294967295 : Int64))) 0 0 0 0 0 0 0 0 0 0 0 0 0 0 0 0 0 ((upd (upd (upd (upd (upd (upd (fun _ => 0) ((0 : Int32)).toNatClampNeg (-1 : Int32)) ((1 : Int32)).toNatClampNeg (-1 : Int32)) ((2 : Int32)).toNatClampNeg (-1 : Int32)) ((3 : Int32)).toNatClampNeg (-1 : Int32)) ((4 : Int32)).toNatClampNeg (-1 : Int32)) ((5 : Int32)).toNatClampNeg (-1 : Int32))) ((fun _ => 0)) ((fun _ => 0)) R2 h2) ⟨hx, hb, hml, hown, ht⟩ (cwV 3 ht gl_157 rfl rfl rfl (by decide +kernel) ⟨Nat.le_of_ble_eq_true rfl, Nat.le_of_ble_eq_true rfl⟩) (va_recv hK hP (ci := 12) (q0 := 0) rfl rfl) hP hD hS hK hA [0, 40, 41, 42] [] rfl rfl rfl rfl (by decide) rfl hl.1 (Nat.le_of_ble_eq_true rfl) dL_law_1385 ⟨Nat.le_of_ble_eq_true rfl, Nat.le_of_ble_eq_true rfl⟩ (fun r2 u2 H locs hq2 hP hD hS => ?_)
    have e2 : r2 = R2.1 := congrArg Prod.fst hq2
    have EQ : r1 = r2 := by rw [e1, e2]; exact eq
    refine lv_icmp_eq (tgt := 1546) hx hb dL_law_1388 (by decide) (fun cc => ?_) (fun cc => absurd EQ cc)
    exact law_next C0 (by decide) (by decide) H locs ls hS (lv_sub hl [0, 3] rfl)
theorem dL_law_1393 : decode cL_law 1393 = .ok (.aload_n 1, 1) := by decide +kernel
theorem dL_law_1394 : decode cL_law 1394 = .ok (.aload_n 0, 1) := by decide +kernel
theorem dL_law_1395 : decode cL_law 1395 = .ok (.iload_n 3, 1) := by decide +kernel
theorem dL_law_1396 : decode cL_law 1396 = .ok (.iconst 1, 1) := by decide +kernel
theorem dL_law_1397 : decode cL_law 1397 = .ok (.iadd, 1) := by decide +kernel
theorem dL_law_1398 : decode cL_law 1398 = .ok (.iaload, 1) := by decide +kernel
theorem dL_law_1399 : decode cL_law 1399 = .ok (.aload_n 0, 1) := by decide +kernel
theorem dL_law_1400 : decode cL_law 1400 = .ok (.iload_n 3, 1) := by decide +kernel
theorem dL_law_1401 : decode cL_law 1401 = .ok (.iconst 2, 1) := by decide +kernel
theorem dL_law_1402 : decode cL_law 1402 = .ok (.iadd, 1) := by decide +kernel
theorem dL_law_1403 : decode cL_law 1403 = .ok (.iaload, 1) := by decide +kernel
theorem dL_law_1404 : decode cL_law 1404 = .ok (.invokevirtual 158, 3) := by decide +kernel
theorem dL_law_1407 : decode cL_law 1407 = .ok (.aload_n 2, 1) := by decide +kernel
theorem dL_law_1408 : decode cL_law 1408 = .ok (.aload_n 0, 1) := by decide +kernel
theorem dL_law_1409 : decode cL_law 1409 = .ok (.iload_n 3, 1) := by decide +kernel
theorem dL_law_1410 : decode cL_law 1410 = .ok (.iconst 1, 1) := by decide +kernel
theorem dL_law_1411 : decode cL_law 1411 = .ok (.iadd, 1) := by decide +kernel
theorem dL_law_1412 : decode cL_law 1412 = .ok (.iaload, 1) := by decide +kernel
theorem dL_law_1413 : decode cL_law 1413 = .ok (.aload_n 0, 1) := by decide +kernel
theorem dL_law_1414 : decode cL_law 1414 = .ok (.iload_n 3, 1) := by decide +kernel
theorem dL_law_1415 : decode cL_law 1415 = .ok (.iconst 2, 1) := by decide +kernel
theorem dL_law_1416 : decode cL_law 1416 = .ok (.iadd, 1) := by decide +kernel
theorem dL_law_1417 : decode cL_law 1417 = .ok (.iaload, 1) := by decide +kernel
theorem dL_law_1418 : decode cL_law 1418 = .ok (.invokevirtual 161, 3) := by decide +kernel
theorem dL_law_1421 : decode cL_law 1421 = .ok (.lcmp, 1) := by decide +kernel
theorem dL_law_1422 : decode cL_law 1422 = .ok (.ifCond .eq 124, 3) := by decide +kernel
set_option maxHeartbeats 8000000 in
set_option maxRecDepth 100000 in
theorem law_case_34 {p : Program} {l : Launch} {e : Env} {s : State} {m : MethodId} {below : List Frame} {meth : Method} {c : Code} {b : Nat} {xs : Nat → Int32} {D : va_G} {cs : Nat → ClassId} {k : (Nat → Nat) × (Nat → Nat)} {ad ae am : Nat → Nat} {wb : Nat} {g pf : Nat → Option Nat} (C0 : lw_At p s m meth c b 6 xs) (hK : va_K D classes (zT cs) s) (hO : zO s) (hE : zE k (fun q : Nat => s.heap.size ≤ q) s) (GF : ∀ t, t < 8 → g (24 + t) = some (ae 0)) (PF : ∀ j, j < 6 → pf j = some (ae (2 + 2 * j))) (H : Heap) (locs : List Loc) (ls : Array Slot) (hP : va_P D classes (zF ad cs ae wb g pf ++ zM am cs) H) (hD : va_D (fun q : Nat => s.heap.size ≤ q) (zF ad cs ae wb g pf ++ zM am cs)) (hS : va_S (fun q : Nat => s.heap.size ≤ q) s.heap H locs) (hl : lv_has ls 4 [(0, .ref b), (1, .ref (ad 0)), (2, .ref (am 41)), (3, .int (0 : Int32))]) : W p l e room_1 s m #[Value.ref b] below meth c H locs 2000 200000 (lw_Z below #[Value.ref b] s) (F0 m 1393 ls []) := by
  obtain ⟨hx, hb, hr, hml, hown, hts, hX, hbl, hlocks, hgv⟩ := id C0
  have hA : ∀ q : Nat, s.heap.size ≤ q → (fun q : Nat => s.heap.size ≤ q) q := fun _ h => h
  have hbA : ¬ (fun q : Nat => s.heap.size ≤ q) b := Nat.not_le.mpr hbl
  have ht : ∀ w ∈ zW, w.before #[Value.ref b] s = true := fun w hw => hts w (List.mem_filter.mp hw).1
  obtain ⟨j0, hj0, hp0⟩ := zk_pl (xs ((0 : Int32) + (1 : Int32)).toNatClampNeg)
  rcases (show j0 = 0 ∨ j0 = 1 ∨ j0 = 2 ∨ j0 = 3 ∨ j0 = 4 ∨ j0 = 5 by omega) with rfl | rfl | rfl | rfl | rfl | rfl
  · obtain ⟨R1, R2, h1, h2, eq⟩ := pe_element (g := g) (pf := pf) (ae := ae) (wb := wb) GF PF 0 (by omega) (xs ((0 : Int32) + (1 : Int32)).toNatClampNeg) (xs ((0 : Int32) + (2 : Int32)).toNatClampNeg) hp0
    refine lv_aload_n hx hb dL_law_1393 rfl (lv_at hl 1 rfl) ?_
    refine lv_aload_n hx hb dL_law_1394 rfl (lv_at hl 0 rfl) ?_
    refine lv_iload_n hx hb dL_law_1395 rfl (lv_at hl 3 rfl) ?_
    refine lv_iconst (v := (1 : Int32)) hx hb dL_law_1396 (by decide) ?_
    refine lv_iadd hx hb dL_law_1397 ?_
    refine va_sld hx hb hX hbl hbA hS (by unfold vp_in; decide) dL_law_1398 ?_
    refine lv_aload_n hx hb dL_law_1399 rfl (lv_at hl 0 rfl) ?_
    refine lv_iload_n hx hb dL_law_1400 rfl (lv_at hl 3 rfl) ?_
    refine lv_iconst (v := (2 : Int32)) hx hb dL_law_1401 (by decide) ?_
    refine lv_iadd hx hb dL_law_1402 ?_
    refine va_sld hx hb hX hbl hbA hS (by unfold vp_in; decide) dL_law_1403 ?_
    refine zk_vl (post := (fun r u => (r, u) = R1)) (w1 := fun u => (wl_X11_element ad cs (ae 2) (ae 3) pf (-1) 0 0 (fun _ => 0))) (As := [.int (xs ((0 : Int32) + (1 : Int32)).toNatClampNeg), .int (xs ((0 : Int32) + (2 : Int32)).toNatClampNeg)]) (rest := []) (c_X11_element l D cs ad (ae 2) (ae 3)  H.size (xs ((0 : Int32) + (1 : Int32)).toNatClampNeg) (xs ((0 : Int32) + (2 : Int32)).toNatClampNeg) pf (-1) 0 0 (fun _ => 0) R1 h1) ⟨hx, hb, hml, hown, ht⟩ (cwV 2 ht gl_158 rfl rfl rfl (by decide +kernel) ⟨Nat.le_of_ble_eq_true rfl, Nat.le_of_ble_eq_true rfl⟩) (va_recv hK hP (ci := 11) (q0 := 0) rfl rfl) hP hD hS hK hA [0, 1, 43, 44] [55, 56, 57, 58, 59, 60, 61, 62, 63, 64, 65, 66, 67, 68, 69, 70, 71, 72, 73, 74, 75, 76, 77, 78, 79, 80, 81, 82, 83, 84, 85, 86, 87, 88, 89, 90, 91, 92, 93, 94, 95, 96, 97, 98] rfl rfl law_hR law_nd (law_dis rfl) rfl hl.1 (Nat.le_of_ble_eq_true rfl) dL_law_1404 ⟨Nat.le_of_ble_eq_true rfl, Nat.le_of_ble_eq_true rfl⟩ (fun r1 u1 H locs hq1 hP hD hS => ?_)
    have e1 : r1 = R1.1 := congrArg Prod.fst hq1
    rw [law_fm] at hP hD
    refine lv_aload_n hx hb dL_law_1407 rfl (lv_at hl 2 rfl) ?_
    refine lv_aload_n hx hb dL_law_1408 rfl (lv_at hl 0 rfl) ?_
    refine lv_iload_n hx hb dL_law_1409 rfl (lv_at hl 3 rfl) ?_
    refine lv_iconst (v := (1 : Int32)) hx hb dL_law_1410 (by decide) ?_
    refine lv_iadd hx hb dL_law_1411 ?_
    refine va_sld hx hb hX hbl hbA hS (by unfold vp_in; decide) dL_law_1412 ?_
    refine lv_aload_n hx hb dL_law_1413 rfl (lv_at hl 0 rfl) ?_
    refine lv_iload_n hx hb dL_law_1414 rfl (lv_at hl 3 rfl) ?_
    refine lv_iconst (v := (2 : Int32)) hx hb dL_law_1415 (by decide) ?_
    refine lv_iadd hx hb dL_law_1416 ?_
    refine va_sld hx hb hX hbl hbA hS (by unfold vp_in; decide) dL_law_1417 ?_
    refine zk_vl (post := (fun r u => (r, u) = R2)) (w1 := fun u => (wl_X12_element am cs 0 0 0 0 0 0 0 0 0 0 0 0 0 0 0 0 0 ((upd (upd (upd (upd (upd (upd (fun _ => 0) ((0 : Int32)).toNatClampNeg (-1 : Int32)) ((1 : Int32)).toNatClampNeg (-1 : Int32)) ((2 : Int32)).toNatClampNeg (-1 : Int32)) ((3 : Int32)).toNatClampNeg (-1 : Int32)) ((4 : Int32)).toNatClampNeg (-1 : Int32)) ((5 : Int32)).toNatClampNeg (-1 : Int32))) ((fun _ => 0)) ((fun _ => 0)))) (As := [.int (xs ((0 : Int32) + (1 : Int32)).toNatClampNeg), .int (xs ((0 : Int32) + (2 : Int32)).toNatClampNeg)]) (rest := [.long r1]) (c_X12_element l D cs am   H.size (xs ((0 : Int32) + (1 : Int32)).toNatClampNeg) (xs ((0 : Int32) + (2 : Int32)).toNatClampNeg) 0 0 0 0 0 0 0 0 0 0 0 0 0 0 0 0 0 ((upd (upd (upd (upd (upd (upd (fun _ => 0) ((0 : Int32)).toNatClampNeg (-1 : Int32)) ((1 : Int32)).toNatClampNeg (-1 : Int32)) ((2 : Int32)).toNatClampNeg (-1 : Int32)) ((3 : Int32)).toNatClampNeg (-1 : Int32)) ((4 : Int32)).toNatClampNeg (-1 : Int32)) ((5 : Int32)).toNatClampNeg (-1 : Int32))) ((fun _ => 0)) ((fun _ => 0)) R2 h2) ⟨hx, hb, hml, hown, ht⟩ (cwV 2 ht gl_161 rfl rfl rfl (by decide +kernel) ⟨Nat.le_of_ble_eq_true rfl, Nat.le_of_ble_eq_true rfl⟩) (va_recv hK hP (ci := 12) (q0 := 0) rfl rfl) hP hD hS hK hA [0, 40, 41, 42] [] rfl rfl rfl rfl (by decide) rfl hl.1 (Nat.le_of_ble_eq_true rfl) dL_law_1418 ⟨Nat.le_of_ble_eq_true rfl, Nat.le_of_ble_eq_true rfl⟩ (fun r2 u2 H locs hq2 hP hD hS => ?_)
    have e2 : r2 = R2.1 := congrArg Prod.fst hq2
    have EQ : r1 = r2 := by rw [e1, e2]; exact eq
    refine W.lcmp hx hb dL_law_1421 ?_
    refine lv_if_eq (tgt := 1546) hx hb dL_law_1422 (by decide) (fun cc => ?_) (fun cc => absurd (by rw [EQ]; exact zk_lc _) cc)
    exact law_next C0 (by decide) (by decide) H locs ls hS (lv_sub hl [0, 3] rfl)
  · obtain ⟨R1, R2, h1, h2, eq⟩ := pe_element (g := g) (pf := pf) (ae := ae) (wb := wb) GF PF 1 (by omega) (xs ((0 : Int32) + (1 : Int32)).toNatClampNeg) (xs ((0 : Int32) + (2 : Int32)).toNatClampNeg) hp0
    refine lv_aload_n hx hb dL_law_1393 rfl (lv_at hl 1 rfl) ?_
    refine lv_aload_n hx hb dL_law_1394 rfl (lv_at hl 0 rfl) ?_
    refine lv_iload_n hx hb dL_law_1395 rfl (lv_at hl 3 rfl) ?_
    refine lv_iconst (v := (1 : Int32)) hx hb dL_law_1396 (by decide) ?_
    refine lv_iadd hx hb dL_law_1397 ?_
    refine va_sld hx hb hX hbl hbA hS (by unfold vp_in; decide) dL_law_1398 ?_
    refine lv_aload_n hx hb dL_law_1399 rfl (lv_at hl 0 rfl) ?_
    refine lv_iload_n hx hb dL_law_1400 rfl (lv_at hl 3 rfl) ?_
    refine lv_iconst (v := (2 : Int32)) hx hb dL_law_1401 (by decide) ?_
    refine lv_iadd hx hb dL_law_1402 ?_
    refine va_sld hx hb hX hbl hbA hS (by unfold vp_in; decide) dL_law_1403 ?_
    refine zk_vl (post := (fun r u => (r, u) = R1)) (w1 := fun u => (wl_X11_element ad cs (ae 4) (ae 5) pf (-1) 0 0 (fun _ => 0))) (As := [.int (xs ((0 : Int32) + (1 : Int32)).toNatClampNeg), .int (xs ((0 : Int32) + (2 : Int32)).toNatClampNeg)]) (rest := []) (c_X11_element l D cs ad (ae 4) (ae 5)  H.size (xs ((0 : Int32) + (1 : Int32)).toNatClampNeg) (xs ((0 : Int32) + (2 : Int32)).toNatClampNeg) pf (-1) 0 0 (fun _ => 0) R1 h1) ⟨hx, hb, hml, hown, ht⟩ (cwV 2 ht gl_158 rfl rfl rfl (by decide +kernel) ⟨Nat.le_of_ble_eq_true rfl, Nat.le_of_ble_eq_true rfl⟩) (va_recv hK hP (ci := 11) (q0 := 0) rfl rfl) hP hD hS hK hA [0, 1, 45, 46] [55, 56, 57, 58, 59, 60, 61, 62, 63, 64, 65, 66, 67, 68, 69, 70, 71, 72, 73, 74, 75, 76, 77, 78, 79, 80, 81, 82, 83, 84, 85, 86, 87, 88, 89, 90, 91, 92, 93, 94, 95, 96, 97, 98] rfl rfl law_hR law_nd (law_dis rfl) rfl hl.1 (Nat.le_of_ble_eq_true rfl) dL_law_1404 ⟨Nat.le_of_ble_eq_true rfl, Nat.le_of_ble_eq_true rfl⟩ (fun r1 u1 H locs hq1 hP hD hS => ?_)
    have e1 : r1 = R1.1 := congrArg Prod.fst hq1
    rw [law_fm] at hP hD
    refine lv_aload_n hx hb dL_law_1407 rfl (lv_at hl 2 rfl) ?_
    refine lv_aload_n hx hb dL_law_1408 rfl (lv_at hl 0 rfl) ?_
    refine lv_iload_n hx hb dL_law_1409 rfl (lv_at hl 3 rfl) ?_
    refine lv_iconst (v := (1 : Int32)) hx hb dL_law_1410 (by decide) ?_
    refine lv_iadd hx hb dL_law_1411 ?_
    refine va_sld hx hb hX hbl hbA hS (by unfold vp_in; decide) dL_law_1412 ?_
    refine lv_aload_n hx hb dL_law_1413 rfl (lv_at hl 0 rfl) ?_
    refine lv_iload_n hx hb dL_law_1414 rfl (lv_at hl 3 rfl) ?_
    refine lv_iconst (v := (2 : Int32)) hx hb dL_law_1415 (by decide) ?_
    refine lv_iadd hx hb dL_law_1416 ?_
    refine va_sld hx hb hX hbl hbA hS (by unfold vp_in; decide) dL_law_1417 ?_
    refine zk_vl (post := (fun r u => (r, u) = R2)) (w1 := fun u => (wl_X12_element am cs 0 0 0 0 0 0 0 0 0 0 0 0 0 0 0 0 0 ((upd (upd (upd (upd (upd (upd (fun _ => 0) ((0 : Int32)).toNatClampNeg (-1 : Int32)) ((1 : Int32)).toNatClampNeg (-1 : Int32)) ((2 : Int32)).toNatClampNeg (-1 : Int32)) ((3 : Int32)).toNatClampNeg (-1 : Int32)) ((4 : Int32)).toNatClampNeg (-1 : Int32)) ((5 : Int32)).toNatClampNeg (-1 : Int32))) ((fun _ => 0)) ((fun _ => 0)))) (As := [.int (xs ((0 : Int32) + (1 : Int32)).toNatClampNeg), .int (xs ((0 : Int32) + (2 : Int32)).toNatClampNeg)]) (rest := [.long r1]) (c_X12_element l D cs am   H.size (xs ((0 : Int32) + (1 : Int32)).toNatClampNeg) (xs ((0 : Int32) + (2 : Int32)).toNatClampNeg) 0 0 0 0 0 0 0 0 0 0 0 0 0 0 0 0 0 ((upd (upd (upd (upd (upd (upd (fun _ => 0) ((0 : Int32)).toNatClampNeg (-1 : Int32)) ((1 : Int32)).toNatClampNeg (-1 : Int32)) ((2 : Int32)).toNatClampNeg (-1 : Int32)) ((3 : Int32)).toNatClampNeg (-1 : Int32)) ((4 : Int32)).toNatClampNeg (-1 : Int32)) ((5 : Int32)).toNatClampNeg (-1 : Int32))) ((fun _ => 0)) ((fun _ => 0)) R2 h2) ⟨hx, hb, hml, hown, ht⟩ (cwV 2 ht gl_161 rfl rfl rfl (by decide +kernel) ⟨Nat.le_of_ble_eq_true rfl, Nat.le_of_ble_eq_true rfl⟩) (va_recv hK hP (ci := 12) (q0 := 0) rfl rfl) hP hD hS hK hA [0, 40, 41, 42] [] rfl rfl rfl rfl (by decide) rfl hl.1 (Nat.le_of_ble_eq_true rfl) dL_law_1418 ⟨Nat.le_of_ble_eq_true rfl, Nat.le_of_ble_eq_true rfl⟩ (fun r2 u2 H locs hq2 hP hD hS => ?_)
    have e2 : r2 = R2.1 := congrArg Prod.fst hq2
    have EQ : r1 = r2 := by rw [e1, e2]; exact eq
    refine W.lcmp hx hb dL_law_1421 ?_
    refine lv_if_eq (tgt := 1546) hx hb dL_law_1422 (by decide) (fun cc => ?_) (fun cc => absurd (by rw [EQ]; exact zk_lc _) cc)
    exact law_next C0 (by decide) (by decide) H locs ls hS (lv_sub hl [0, 3] rfl)
  · obtain ⟨R1, R2, h1, h2, eq⟩ := pe_element (g := g) (pf := pf) (ae := ae) (wb := wb) GF PF 2 (by omega) (xs ((0 : Int32) + (1 : Int32)).toNatClampNeg) (xs ((0 : Int32) + (2 : Int32)).toNatClampNeg) hp0
    refine lv_aload_n hx hb dL_law_1393 rfl (lv_at hl 1 rfl) ?_
    refine lv_aload_n hx hb dL_law_1394 rfl (lv_at hl 0 rfl) ?_
    refine lv_iload_n hx hb dL_law_1395 rfl (lv_at hl 3 rfl) ?_
    refine lv_iconst (v := (1 : Int32)) hx hb dL_law_1396 (by decide) ?_
    refine lv_iadd hx hb dL_law_1397 ?_
    refine va_sld hx hb hX hbl hbA hS (by unfold vp_in; decide) dL_law_1398 ?_
    refine lv_aload_n hx hb dL_law_1399 rfl (lv_at hl 0 rfl) ?_
    refine lv_iload_n hx hb dL_law_1400 rfl (lv_at hl 3 rfl) ?_
    refine lv_iconst (v := (2 : Int32)) hx hb dL_law_1401 (by decide) ?_
    refine lv_iadd hx hb dL_law_1402 ?_
    refine va_sld hx hb hX hbl hbA hS (by unfold vp_in; decide) dL_law_1403 ?_
    refine zk_vl (post := (fun r u => (r, u) = R1)) (w1 := fun u => (wl_X11_element ad cs (ae 6) (ae 7) pf (-1) 0 0 (fun _ => 0))) (As := [.int (xs ((0 : Int32) + (1 : Int32)).toNatClampNeg), .int (xs ((0 : Int32) + (2 : Int32)).toNatClampNeg)]) (rest := []) (c_X11_element l D cs ad (ae 6) (ae 7)  H.size (xs ((0 : Int32) + (1 : Int32)).toNatClampNeg) (xs ((0 : Int32) + (2 : Int32)).toNatClampNeg) pf (-1) 0 0 (fun _ => 0) R1 h1) ⟨hx, hb, hml, hown, ht⟩ (cwV 2 ht gl_158 rfl rfl rfl (by decide +kernel) ⟨Nat.le_of_ble_eq_true rfl, Nat.le_of_ble_eq_true rfl⟩) (va_recv hK hP (ci := 11) (q0 := 0) rfl rfl) hP hD hS hK hA [0, 1, 47, 48] [55, 56, 57, 58, 59, 60, 61, 62, 63, 64, 65, 66, 67, 68, 69, 70, 71, 72, 73, 74, 75, 76, 77, 78, 79, 80, 81, 82, 83, 84, 85, 86, 87, 88, 89, 90, 91, 92, 93, 94, 95, 96, 97, 98] rfl rfl law_hR law_nd (law_dis rfl) rfl hl.1 (Nat.le_of_ble_eq_true rfl) dL_law_1404 ⟨Nat.le_of_ble_eq_true rfl, Nat.le_of_ble_eq_true rfl⟩ (fun r1 u1 H locs hq1 hP hD hS => ?_)
    have e1 : r1 = R1.1 := congrArg Prod.fst hq1
    rw [law_fm] at hP hD
    refine lv_aload_n hx hb dL_law_1407 rfl (lv_at hl 2 rfl) ?_
    refine lv_aload_n hx hb dL_law_1408 rfl (lv_at hl 0 rfl) ?_
    refine lv_iload_n hx hb dL_law_1409 rfl (lv_at hl 3 rfl) ?_
    refine lv_iconst (v := (1 : Int32)) hx hb dL_law_1410 (by decide) ?_
    refine lv_iadd hx hb dL_law_1411 ?_
    refine va_sld hx hb hX hbl hbA hS (by unfold vp_in; decide) dL_law_1412 ?_
    refine lv_aload_n hx hb dL_law_1413 rfl (lv_at hl 0 rfl) ?_
    refine lv_iload_n hx hb dL_law_1414 rfl (lv_at hl 3 rfl) ?_
    refine lv_iconst (v := (2 : Int32)) hx hb dL_law_1415 (by decide) ?_
    refine lv_iadd hx hb dL_law_1416 ?_
    refine va_sld hx hb hX hbl hbA hS (by unfold vp_in; decide) dL_law_1417 ?_
    refine zk_vl (post := (fun r u => (r, u) = R2)) (w1 := fun u => (wl_X12_element am cs 0 0 0 0 0 0 0 0 0 0 0 0 0 0 0 0 0 ((upd (upd (upd (upd (upd (upd (fun _ => 0) ((0 : Int32)).toNatClampNeg (-1 : Int32)) ((1 : Int32)).toNatClampNeg (-1 : Int32)) ((2 : Int32)).toNatClampNeg (-1 : Int32)) ((3 : Int32)).toNatClampNeg (-1 : Int32)) ((4 : Int32)).toNatClampNeg (-1 : Int32)) ((5 : Int32)).toNatClampNeg (-1 : Int32))) ((fun _ => 0)) ((fun _ => 0)))) (As := [.int (xs ((0 : Int32) + (1 : Int32)).toNatClampNeg), .int (xs ((0 : Int32) + (2 : Int32)).toNatClampNeg)]) (rest := [.long r1]) (c_X12_element l D cs am   H.size (xs ((0 : Int32) + (1 : Int32)).toNatClampNeg) (xs ((0 : Int32) + (2 : Int32)).toNatClampNeg) 0 0 0 0 0 0 0 0 0 0 0 0 0 0 0 0 0 ((upd (upd (upd (upd (upd (upd (fun _ => 0) ((0 : Int32)).toNatClampNeg (-1 : Int32)) ((1 : Int32)).toNatClampNeg (-1 : Int32)) ((2 : Int32)).toNatClampNeg (-1 : Int32)) ((3 : Int32)).toNatClampNeg (-1 : Int32)) ((4 : Int32)).toNatClampNeg (-1 : Int32)) ((5 : Int32)).toNatClampNeg (-1 : Int32))) ((fun _ => 0)) ((fun _ => 0)) R2 h2) ⟨hx, hb, hml, hown, ht⟩ (cwV 2 ht gl_161 rfl rfl rfl (by decide +kernel) ⟨Nat.le_of_ble_eq_true rfl, Nat.le_of_ble_eq_true rfl⟩) (va_recv hK hP (ci := 12) (q0 := 0) rfl rfl) hP hD hS hK hA [0, 40, 41, 42] [] rfl rfl rfl rfl (by decide) rfl hl.1 (Nat.le_of_ble_eq_true rfl) dL_law_1418 ⟨Nat.le_of_ble_eq_true rfl, Nat.le_of_ble_eq_true rfl⟩ (fun r2 u2 H locs hq2 hP hD hS => ?_)
    have e2 : r2 = R2.1 := congrArg Prod.fst hq2
    have EQ : r1 = r2 := by rw [e1, e2]; exact eq
    refine W.lcmp hx hb dL_law_1421 ?_
    refine lv_if_eq (tgt := 1546) hx hb dL_law_1422 (by decide) (fun cc => ?_) (fun cc => absurd (by rw [EQ]; exact zk_lc _) cc)
    exact law_next C0 (by decide) (by decide) H locs ls hS (lv_sub hl [0, 3] rfl)
  · obtain ⟨R1, R2, h1, h2, eq⟩ := pe_element (g := g) (pf := pf) (ae := ae) (wb := wb) GF PF 3 (by omega) (xs ((0 : Int32) + (1 : Int32)).toNatClampNeg) (xs ((0 : Int32) + (2 : Int32)).toNatClampNeg) hp0
    refine lv_aload_n hx hb dL_law_1393 rfl (lv_at hl 1 rfl) ?_
    refine lv_aload_n hx hb dL_law_1394 rfl (lv_at hl 0 rfl) ?_
    refine lv_iload_n hx hb dL_law_1395 rfl (lv_at hl 3 rfl) ?_
    refine lv_iconst (v := (1 : Int32)) hx hb dL_law_1396 (by decide) ?_
    refine lv_iadd hx hb dL_law_1397 ?_
    refine va_sld hx hb hX hbl hbA hS (by unfold vp_in; decide) dL_law_1398 ?_
    refine lv_aload_n hx hb dL_law_1399 rfl (lv_at hl 0 rfl) ?_
    refine lv_iload_n hx hb dL_law_1400 rfl (lv_at hl 3 rfl) ?_
    refine lv_iconst (v := (2 : Int32)) hx hb dL_law_1401 (by decide) ?_
    refine lv_iadd hx hb dL_law_1402 ?_
    refine va_sld hx hb hX hbl hbA hS (by unfold vp_in; decide) dL_law_1403 ?_
    refine zk_vl (post := (fun r u => (r, u) = R1)) (w1 := fun u => (wl_X11_element ad cs (ae 8) (ae 9) pf (-1) 0 0 (fun _ => 0))) (As := [.int (xs ((0 : Int32) + (1 : Int32)).toNatClampNeg), .int (xs ((0 : Int32) + (2 : Int32)).toNatClampNeg)]) (rest := []) (c_X11_element l D cs ad (ae 8) (ae 9)  H.size (xs ((0 : Int32) + (1 : Int32)).toNatClampNeg) (xs ((0 : Int32) + (2 : Int32)).toNatClampNeg) pf (-1) 0 0 (fun _ => 0) R1 h1) ⟨hx, hb, hml, hown, ht⟩ (cwV 2 ht gl_158 rfl rfl rfl (by decide +kernel) ⟨Nat.le_of_ble_eq_true rfl, Nat.le_of_ble_eq_true rfl⟩) (va_recv hK hP (ci := 11) (q0 := 0) rfl rfl) hP hD hS hK hA [0, 1, 49, 50] [55, 56, 57, 58, 59, 60, 61, 62, 63, 64, 65, 66, 67, 68, 69, 70, 71, 72, 73, 74, 75, 76, 77, 78, 79, 80, 81, 82, 83, 84, 85, 86, 87, 88, 89, 90, 91, 92, 93, 94, 95, 96, 97, 98] rfl rfl law_hR law_nd (law_dis rfl) rfl hl.1 (Nat.le_of_ble_eq_true rfl) dL_law_1404 ⟨Nat.le_of_ble_eq_true rfl, Nat.le_of_ble_eq_true rfl⟩ (fun r1 u1 H locs hq1 hP hD hS => ?_)
    have e1 : r1 = R1.1 := congrArg Prod.fst hq1
    rw [law_fm] at hP hD
    refine lv_aload_n hx hb dL_law_1407 rfl (lv_at hl 2 rfl) ?_
    refine lv_aload_n hx hb dL_law_1408 rfl (lv_at hl 0 rfl) ?_
    refine lv_iload_n hx hb dL_law_1409 rfl (lv_at hl 3 rfl) ?_
    refine lv_iconst (v := (1 : Int32)) hx hb dL_law_1410 (by decide) ?_
    refine lv_iadd hx hb dL_law_1411 ?_
    refine va_sld hx hb hX hbl hbA hS (by unfold vp_in; decide) dL_law_1412 ?_
    refine lv_aload_n hx hb dL_law_1413 rfl (lv_at hl 0 rfl) ?_
    refine lv_iload_n hx hb dL_law_1414 rfl (lv_at hl 3 rfl) ?_
    refine lv_iconst (v := (2 : Int32)) hx hb dL_law_1415 (by decide) ?_
    refine lv_iadd hx hb dL_law_1416 ?_
    refine va_sld hx hb hX hbl hbA hS (by unfold vp_in; decide) dL_law_1417 ?_
    refine zk_vl (post := (fun r u => (r, u) = R2)) (w1 := fun u => (wl_X12_element am cs 0 0 0 0 0 0 0 0 0 0 0 0 0 0 0 0 0 ((upd (upd (upd (upd (upd (upd (fun _ => 0) ((0 : Int32)).toNatClampNeg (-1 : Int32)) ((1 : Int32)).toNatClampNeg (-1 : Int32)) ((2 : Int32)).toNatClampNeg (-1 : Int32)) ((3 : Int32)).toNatClampNeg (-1 : Int32)) ((4 : Int32)).toNatClampNeg (-1 : Int32)) ((5 : Int32)).toNatClampNeg (-1 : Int32))) ((fun _ => 0)) ((fun _ => 0)))) (As := [.int (xs ((0 : Int32) + (1 : Int32)).toNatClampNeg), .int (xs ((0 : Int32) + (2 : Int32)).toNatClampNeg)]) (rest := [.long r1]) (c_X12_element l D cs am   H.size (xs ((0 : Int32) + (1 : Int32)).toNatClampNeg) (xs ((0 : Int32) + (2 : Int32)).toNatClampNeg) 0 0 0 0 0 0 0 0 0 0 0 0 0 0 0 0 0 ((upd (upd (upd (upd (upd (upd (fun _ => 0) ((0 : Int32)).toNatClampNeg (-1 : Int32)) ((1 : Int32)).toNatClampNeg (-1 : Int32)) ((2 : Int32)).toNatClampNeg (-1 : Int32)) ((3 : Int32)).toNatClampNeg (-1 : Int32)) ((4 : Int32)).toNatClampNeg (-1 : Int32)) ((5 : Int32)).toNatClampNeg (-1 : Int32))) ((fun _ => 0)) ((fun _ => 0)) R2 h2) ⟨hx, hb, hml, hown, ht⟩ (cwV 2 ht gl_161 rfl rfl rfl (by decide +kernel) ⟨Nat.le_of_ble_eq_true rfl, Nat.le_of_ble_eq_true rfl⟩) (va_recv hK hP (ci := 12) (q0 := 0) rfl rfl) hP hD hS hK hA [0, 40, 41, 42] [] rfl rfl rfl rfl (by decide) rfl hl.1 (Nat.le_of_ble_eq_true rfl) dL_law_1418 ⟨Nat.le_of_ble_eq_true rfl, Nat.le_of_ble_eq_true rfl⟩ (fun r2 u2 H locs hq2 hP hD hS => ?_)
    have e2 : r2 = R2.1 := congrArg Prod.fst hq2
    have EQ : r1 = r2 := by rw [e1, e2]; exact eq
    refine W.lcmp hx hb dL_law_1421 ?_
    refine lv_if_eq (tgt := 1546) hx hb dL_law_1422 (by decide) (fun cc => ?_) (fun cc => absurd (by rw [EQ]; exact zk_lc _) cc)
    exact law_next C0 (by decide) (by decide) H locs ls hS (lv_sub hl [0, 3] rfl)
  · obtain ⟨R1, R2, h1, h2, eq⟩ := pe_element (g := g) (pf := pf) (ae := ae) (wb := wb) GF PF 4 (by omega) (xs ((0 : Int32) + (1 : Int32)).toNatClampNeg) (xs ((0 : Int32) + (2 : Int32)).toNatClampNeg) hp0
    refine lv_aload_n hx hb dL_law_1393 rfl (lv_at hl 1 rfl) ?_
    refine lv_aload_n hx hb dL_law_1394 rfl (lv_at hl 0 rfl) ?_
    refine lv_iload_n hx hb dL_law_1395 rfl (lv_at hl 3 rfl) ?_
    refine lv_iconst (v := (1 : Int32)) hx hb dL_law_1396 (by decide) ?_
    refine lv_iadd hx hb dL_law_1397 ?_
    refine va_sld hx hb hX hbl hbA hS (by unfold vp_in; decide) dL_law_1398 ?_
    refine lv_aload_n hx hb dL_law_1399 rfl (lv_at hl 0 rfl) ?_
    refine lv_iload_n hx hb dL_law_1400 rfl (lv_at hl 3 rfl) ?_
    refine lv_iconst (v := (2 : Int32)) hx hb dL_law_1401 (by decide) ?_
    refine lv_iadd hx hb dL_law_1402 ?_
    refine va_sld hx hb hX hbl hbA hS (by unfold vp_in; decide) dL_law_1403 ?_
    refine zk_vl (post := (fun r u => (r, u) = R1)) (w1 := fun u => (wl_X11_element ad cs (ae 10) (ae 11) pf (-1) 0 0 (fun _ => 0))) (As := [.int (xs ((0 : Int32) + (1 : Int32)).toNatClampNeg), .int (xs ((0 : Int32) + (2 : Int32)).toNatClampNeg)]) (rest := []) (c_X11_element l D cs ad (ae 10) (ae 11)  H.size (xs ((0 : Int32) + (1 : Int32)).toNatClampNeg) (xs ((0 : Int32) + (2 : Int32)).toNatClampNeg) pf (-1) 0 0 (fun _ => 0) R1 h1) ⟨hx, hb, hml, hown, ht⟩ (cwV 2 ht gl_158 rfl rfl rfl (by decide +kernel) ⟨Nat.le_of_ble_eq_true rfl, Nat.le_of_ble_eq_true rfl⟩) (va_recv hK hP (ci := 11) (q0 := 0) rfl rfl) hP hD hS hK hA [0, 1, 51, 52] [55, 56, 57, 58, 59, 60, 61, 62, 63, 64, 65, 66, 67, 68, 69, 70, 71, 72, 73, 74, 75, 76, 77, 78, 79, 80, 81, 82, 83, 84, 85, 86, 87, 88, 89, 90, 91, 92, 93, 94, 95, 96, 97, 98] rfl rfl law_hR law_nd (law_dis rfl) rfl hl.1 (Nat.le_of_ble_eq_true rfl) dL_law_1404 ⟨Nat.le_of_ble_eq_true rfl, Nat.le_of_ble_eq_true rfl⟩ (fun r1 u1 H locs hq1 hP hD hS => ?_)
    have e1 : r1 = R1.1 := congrArg Prod.fst hq1
    rw [law_fm] at hP hD
    refine lv_aload_n hx hb dL_law_1407 rfl (lv_at hl 2 rfl) ?_
    refine lv_aload_n hx hb dL_law_1408 rfl (lv_at hl 0 rfl) ?_
    refine lv_iload_n hx hb dL_law_1409 rfl (lv_at hl 3 rfl) ?_
    refine lv_iconst (v := (1 : Int32)) hx hb dL_law_1410 (by decide) ?_
    refine lv_iadd hx hb dL_law_1411 ?_
    refine va_sld hx hb hX hbl hbA hS (by unfold vp_in; decide) dL_law_1412 ?_
    refine lv_aload_n hx hb dL_law_1413 rfl (lv_at hl 0 rfl) ?_
    refine lv_iload_n hx hb dL_law_1414 rfl (lv_at hl 3 rfl) ?_
    refine lv_iconst (v := (2 : Int32)) hx hb dL_law_1415 (by decide) ?_
    refine lv_iadd hx hb dL_law_1416 ?_
    refine va_sld hx hb hX hbl hbA hS (by unfold vp_in; decide) dL_law_1417 ?_
    refine zk_vl (post := (fun r u => (r, u) = R2)) (w1 := fun u => (wl_X12_element am cs 0 0 0 0 0 0 0 0 0 0 0 0 0 0 0 0 0 ((upd (upd (upd (upd (upd (upd (fun _ => 0) ((0 : Int32)).toNatClampNeg (-1 : Int32)) ((1 : Int32)).toNatClampNeg (-1 : Int32)) ((2 : Int32)).toNatClampNeg (-1 : Int32)) ((3 : Int32)).toNatClampNeg (-1 : Int32)) ((4 : Int32)).toNatClampNeg (-1 : Int32)) ((5 : Int32)).toNatClampNeg (-1 : Int32))) ((fun _ => 0)) ((fun _ => 0)))) (As := [.int (xs ((0 : Int32) + (1 : Int32)).toNatClampNeg), .int (xs ((0 : Int32) + (2 : Int32)).toNatClampNeg)]) (rest := [.long r1]) (c_X12_element l D cs am   H.size (xs ((0 : Int32) + (1 : Int32)).toNatClampNeg) (xs ((0 : Int32) + (2 : Int32)).toNatClampNeg) 0 0 0 0 0 0 0 0 0 0 0 0 0 0 0 0 0 ((upd (upd (upd (upd (upd (upd (fun _ => 0) ((0 : Int32)).toNatClampNeg (-1 : Int32)) ((1 : Int32)).toNatClampNeg (-1 : Int32)) ((2 : Int32)).toNatClampNeg (-1 : Int32)) ((3 : Int32)).toNatClampNeg (-1 : Int32)) ((4 : Int32)).toNatClampNeg (-1 : Int32)) ((5 : Int32)).toNatClampNeg (-1 : Int32))) ((fun _ => 0)) ((fun _ => 0)) R2 h2) ⟨hx, hb, hml, hown, ht⟩ (cwV 2 ht gl_161 rfl rfl rfl (by decide +kernel) ⟨Nat.le_of_ble_eq_true rfl, Nat.le_of_ble_eq_true rfl⟩) (va_recv hK hP (ci := 12) (q0 := 0) rfl rfl) hP hD hS hK hA [0, 40, 41, 42] [] rfl rfl rfl rfl (by decide) rfl hl.1 (Nat.le_of_ble_eq_true rfl) dL_law_1418 ⟨Nat.le_of_ble_eq_true rfl, Nat.le_of_ble_eq_true rfl⟩ (fun r2 u2 H locs hq2 hP hD hS => ?_)
    have e2 : r2 = R2.1 := congrArg Prod.fst hq2
    have EQ : r1 = r2 := by rw [e1, e2]; exact eq
    refine W.lcmp hx hb dL_law_1421 ?_
    refine lv_if_eq (tgt := 1546) hx hb dL_law_1422 (by decide) (fun cc => ?_) (fun cc => absurd (by rw [EQ]; exact zk_lc _) cc)
    exact law_next C0 (by decide) (by decide) H locs ls hS (lv_sub hl [0, 3] rfl)
  · obtain ⟨R1, R2, h1, h2, eq⟩ := pe_element (g := g) (pf := pf) (ae := ae) (wb := wb) GF PF 5 (by omega) (xs ((0 : Int32) + (1 : Int32)).toNatClampNeg) (xs ((0 : Int32) + (2 : Int32)).toNatClampNeg) hp0
    refine lv_aload_n hx hb dL_law_1393 rfl (lv_at hl 1 rfl) ?_
    refine lv_aload_n hx hb dL_law_1394 rfl (lv_at hl 0 rfl) ?_
    refine lv_iload_n hx hb dL_law_1395 rfl (lv_at hl 3 rfl) ?_
    refine lv_iconst (v := (1 : Int32)) hx hb dL_law_1396 (by decide) ?_
    refine lv_iadd hx hb dL_law_1397 ?_
    refine va_sld hx hb hX hbl hbA hS (by unfold vp_in; decide) dL_law_1398 ?_
    refine lv_aload_n hx hb dL_law_1399 rfl (lv_at hl 0 rfl) ?_
    refine lv_iload_n hx hb dL_law_1400 rfl (lv_at hl 3 rfl) ?_
    refine lv_iconst (v := (2 : Int32)) hx hb dL_law_1401 (by decide) ?_
    refine lv_iadd hx hb dL_law_1402 ?_
    refine va_sld hx hb hX hbl hbA hS (by unfold vp_in; decide) dL_law_1403 ?_
    refine zk_vl (post := (fun r u => (r, u) = R1)) (w1 := fun u => (wl_X11_element ad cs (ae 12) (ae 13) pf (-1) 0 0 (fun _ => 0))) (As := [.int (xs ((0 : Int32) + (1 : Int32)).toNatClampNeg), .int (xs ((0 : Int32) + (2 : Int32)).toNatClampNeg)]) (rest := []) (c_X11_element l D cs ad (ae 12) (ae 13)  H.size (xs ((0 : Int32) + (1 : Int32)).toNatClampNeg) (xs ((0 : Int32) + (2 : Int32)).toNatClampNeg) pf (-1) 0 0 (fun _ => 0) R1 h1) ⟨hx, hb, hml, hown, ht⟩ (cwV 2 ht gl_158 rfl rfl rfl (by decide +kernel) ⟨Nat.le_of_ble_eq_true rfl, Nat.le_of_ble_eq_true rfl⟩) (va_recv hK hP (ci := 11) (q0 := 0) rfl rfl) hP hD hS hK hA [0, 1, 53, 54] [55, 56, 57, 58, 59, 60, 61, 62, 63, 64, 65, 66, 67, 68, 69, 70, 71, 72, 73, 74, 75, 76, 77, 78, 79, 80, 81, 82, 83, 84, 85, 86, 87, 88, 89, 90, 91, 92, 93, 94, 95, 96, 97, 98] rfl rfl law_hR law_nd (law_dis rfl) rfl hl.1 (Nat.le_of_ble_eq_true rfl) dL_law_1404 ⟨Nat.le_of_ble_eq_true rfl, Nat.le_of_ble_eq_true rfl⟩ (fun r1 u1 H locs hq1 hP hD hS => ?_)
    have e1 : r1 = R1.1 := congrArg Prod.fst hq1
    rw [law_fm] at hP hD
    refine lv_aload_n hx hb dL_law_1407 rfl (lv_at hl 2 rfl) ?_
    refine lv_aload_n hx hb dL_law_1408 rfl (lv_at hl 0 rfl) ?_
    refine lv_iload_n hx hb dL_law_1409 rfl (lv_at hl 3 rfl) ?_
    refine lv_iconst (v := (1 : Int32)) hx hb dL_law_1410 (by decide) ?_
    refine lv_iadd hx hb dL_law_1411 ?_
    refine va_sld hx hb hX hbl hbA hS (by unfold vp_in; decide) dL_law_1412 ?_
    refine lv_aload_n hx hb dL_law_1413 rfl (lv_at hl 0 rfl) ?_
    refine lv_iload_n hx hb dL_law_1414 rfl (lv_at hl 3 rfl) ?_
    refine lv_iconst (v := (2 : Int32)) hx hb dL_law_1415 (by decide) ?_
    refine lv_iadd hx hb dL_law_1416 ?_
    refine va_sld hx hb hX hbl hbA hS (by unfold vp_in; decide) dL_law_1417 ?_
    refine zk_vl (post := (fun r u => (r, u) = R2)) (w1 := fun u => (wl_X12_element am cs 0 0 0 0 0 0 0 0 0 0 0 0 0 0 0 0 0 ((upd (upd (upd (upd (upd (upd (fun _ => 0) ((0 : Int32)).toNatClampNeg (-1 : Int32)) ((1 : Int32)).toNatClampNeg (-1 : Int32)) ((2 : Int32)).toNatClampNeg (-1 : Int32)) ((3 : Int32)).toNatClampNeg (-1 : Int32)) ((4 : Int32)).toNatClampNeg (-1 : Int32)) ((5 : Int32)).toNatClampNeg (-1 : Int32))) ((fun _ => 0)) ((fun _ => 0)))) (As := [.int (xs ((0 : Int32) + (1 : Int32)).toNatClampNeg), .int (xs ((0 : Int32) + (2 : Int32)).toNatClampNeg)]) (rest := [.long r1]) (c_X12_element l D cs am   H.size (xs ((0 : Int32) + (1 : Int32)).toNatClampNeg) (xs ((0 : Int32) + (2 : Int32)).toNatClampNeg) 0 0 0 0 0 0 0 0 0 0 0 0 0 0 0 0 0 ((upd (upd (upd (upd (upd (upd (fun _ => 0) ((0 : Int32)).toNatClampNeg (-1 : Int32)) ((1 : Int32)).toNatClampNeg (-1 : Int32)) ((2 : Int32)).toNatClampNeg (-1 : Int32)) ((3 : Int32)).toNatClampNeg (-1 : Int32)) ((4 : Int32)).toNatClampNeg (-1 : Int32)) ((5 : Int32)).toNatClampNeg (-1 : Int32))) ((fun _ => 0)) ((fun _ => 0)) R2 h2) ⟨hx, hb, hml, hown, ht⟩ (cwV 2 ht gl_161 rfl rfl rfl (by decide +kernel) ⟨Nat.le_of_ble_eq_true rfl, Nat.le_of_ble_eq_true rfl⟩) (va_recv hK hP (ci := 12) (q0 := 0) rfl rfl) hP hD hS hK hA [0, 40, 41, 42] [] rfl rfl rfl rfl (by decide) rfl hl.1 (Nat.le_of_ble_eq_true rfl) dL_law_1418 ⟨Nat.le_of_ble_eq_true rfl, Nat.le_of_ble_eq_true rfl⟩ (fun r2 u2 H locs hq2 hP hD hS => ?_)
    have e2 : r2 = R2.1 := congrArg Prod.fst hq2
    have EQ : r1 = r2 := by rw [e1, e2]; exact eq
    refine W.lcmp hx hb dL_law_1421 ?_
    refine lv_if_eq (tgt := 1546) hx hb dL_law_1422 (by decide) (fun cc => ?_) (fun cc => absurd (by rw [EQ]; exact zk_lc _) cc)
    exact law_next C0 (by decide) (by decide) H locs ls hS (lv_sub hl [0, 3] rfl)
