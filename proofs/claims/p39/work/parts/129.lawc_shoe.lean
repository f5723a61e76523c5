theorem zh_cL_law_10 : zck [43, 42, 29, 4, 96, 46, 42, 29, 5, 96, 46, 42, 29, 6, 96, 46, 42, 29, 7, 96, 46, 182] (zdu 200 cL_law.data.toList) = true := by decide +kernel
theorem dL_law_200 : decode cL_law 200 = .ok (.aload_n 1, 1) := zo_43 zh_cL_law_10 0 rfl
theorem dL_law_201 : decode cL_law 201 = .ok (.aload_n 0, 1) := zo_42 zh_cL_law_10 1 rfl
theorem dL_law_202 : decode cL_law 202 = .ok (.iload_n 3, 1) := zo_29 zh_cL_law_10 2 rfl
theorem dL_law_203 : decode cL_law 203 = .ok (.iconst 1, 1) := zo_4 zh_cL_law_10 3 rfl
theorem dL_law_204 : decode cL_law 204 = .ok (.iadd, 1) := zo_96 zh_cL_law_10 4 rfl
theorem dL_law_205 : decode cL_law 205 = .ok (.iaload, 1) := zo_46 zh_cL_law_10 5 rfl
theorem dL_law_206 : decode cL_law 206 = .ok (.aload_n 0, 1) := zo_42 zh_cL_law_10 6 rfl
theorem dL_law_207 : decode cL_law 207 = .ok (.iload_n 3, 1) := zo_29 zh_cL_law_10 7 rfl
theorem dL_law_208 : decode cL_law 208 = .ok (.iconst 2, 1) := zo_5 zh_cL_law_10 8 rfl
theorem dL_law_209 : decode cL_law 209 = .ok (.iadd, 1) := zo_96 zh_cL_law_10 9 rfl
theorem dL_law_210 : decode cL_law 210 = .ok (.iaload, 1) := zo_46 zh_cL_law_10 10 rfl
theorem dL_law_211 : decode cL_law 211 = .ok (.aload_n 0, 1) := zo_42 zh_cL_law_10 11 rfl
theorem dL_law_212 : decode cL_law 212 = .ok (.iload_n 3, 1) := zo_29 zh_cL_law_10 12 rfl
theorem dL_law_213 : decode cL_law 213 = .ok (.iconst 3, 1) := zo_6 zh_cL_law_10 13 rfl
theorem dL_law_214 : decode cL_law 214 = .ok (.iadd, 1) := zo_96 zh_cL_law_10 14 rfl
theorem dL_law_215 : decode cL_law 215 = .ok (.iaload, 1) := zo_46 zh_cL_law_10 15 rfl
theorem dL_law_216 : decode cL_law 216 = .ok (.aload_n 0, 1) := zo_42 zh_cL_law_10 16 rfl
theorem dL_law_217 : decode cL_law 217 = .ok (.iload_n 3, 1) := zo_29 zh_cL_law_10 17 rfl
theorem dL_law_218 : decode cL_law 218 = .ok (.iconst 4, 1) := zo_7 zh_cL_law_10 18 rfl
theorem dL_law_219 : decode cL_law 219 = .ok (.iadd, 1) := zo_96 zh_cL_law_10 19 rfl
theorem zh_cL_law_11 : zck [46, 182, 0, 13, 87, 44, 42, 29, 4, 96, 46, 42, 29, 5, 96, 46, 42, 29, 6, 96, 46, 42] (zdu 220 cL_law.data.toList) = true := by decide +kernel
theorem dL_law_220 : decode cL_law 220 = .ok (.iaload, 1) := zo_46 zh_cL_law_11 0 rfl
theorem dL_law_221 : decode cL_law 221 = .ok (.invokevirtual 13, 3) := zo_182 zh_cL_law_11 1 rfl
theorem dL_law_224 : decode cL_law 224 = .ok (.pop, 1) := zo_87 zh_cL_law_11 4 rfl
theorem dL_law_225 : decode cL_law 225 = .ok (.aload_n 2, 1) := zo_44 zh_cL_law_11 5 rfl
theorem dL_law_226 : decode cL_law 226 = .ok (.aload_n 0, 1) := zo_42 zh_cL_law_11 6 rfl
theorem dL_law_227 : decode cL_law 227 = .ok (.iload_n 3, 1) := zo_29 zh_cL_law_11 7 rfl
theorem dL_law_228 : decode cL_law 228 = .ok (.iconst 1, 1) := zo_4 zh_cL_law_11 8 rfl
theorem dL_law_229 : decode cL_law 229 = .ok (.iadd, 1) := zo_96 zh_cL_law_11 9 rfl
theorem dL_law_230 : decode cL_law 230 = .ok (.iaload, 1) := zo_46 zh_cL_law_11 10 rfl
theorem dL_law_231 : decode cL_law 231 = .ok (.aload_n 0, 1) := zo_42 zh_cL_law_11 11 rfl
theorem dL_law_232 : decode cL_law 232 = .ok (.iload_n 3, 1) := zo_29 zh_cL_law_11 12 rfl
theorem dL_law_233 : decode cL_law 233 = .ok (.iconst 2, 1) := zo_5 zh_cL_law_11 13 rfl
theorem dL_law_234 : decode cL_law 234 = .ok (.iadd, 1) := zo_96 zh_cL_law_11 14 rfl
theorem dL_law_235 : decode cL_law 235 = .ok (.iaload, 1) := zo_46 zh_cL_law_11 15 rfl
theorem dL_law_236 : decode cL_law 236 = .ok (.aload_n 0, 1) := zo_42 zh_cL_law_11 16 rfl
theorem dL_law_237 : decode cL_law 237 = .ok (.iload_n 3, 1) := zo_29 zh_cL_law_11 17 rfl
theorem dL_law_238 : decode cL_law 238 = .ok (.iconst 3, 1) := zo_6 zh_cL_law_11 18 rfl
theorem dL_law_239 : decode cL_law 239 = .ok (.iadd, 1) := zo_96 zh_cL_law_11 19 rfl
theorem zh_cL_law_12 : zck [46, 42, 29, 7, 96, 46, 182, 0, 17, 87, 167, 5, 14, 43, 42, 29, 4, 96, 46, 42, 29, 5] (zdu 240 cL_law.data.toList) = true := by decide +kernel
theorem dL_law_240 : decode cL_law 240 = .ok (.iaload, 1) := zo_46 zh_cL_law_12 0 rfl
theorem dL_law_241 : decode cL_law 241 = .ok (.aload_n 0, 1) := zo_42 zh_cL_law_12 1 rfl
theorem dL_law_242 : decode cL_law 242 = .ok (.iload_n 3, 1) := zo_29 zh_cL_law_12 2 rfl
theorem dL_law_243 : decode cL_law 243 = .ok (.iconst 4, 1) := zo_7 zh_cL_law_12 3 rfl
theorem dL_law_244 : decode cL_law 244 = .ok (.iadd, 1) := zo_96 zh_cL_law_12 4 rfl
theorem dL_law_245 : decode cL_law 245 = .ok (.iaload, 1) := zo_46 zh_cL_law_12 5 rfl
theorem dL_law_246 : decode cL_law 246 = .ok (.invokevirtual 17, 3) := zo_182 zh_cL_law_12 6 rfl
theorem dL_law_249 : decode cL_law 249 = .ok (.pop, 1) := zo_87 zh_cL_law_12 9 rfl
theorem dL_law_250 : decode cL_law 250 = .ok (.goto 1294, 3) := zo_p167 zh_cL_law_12 10 1294 rfl rfl
set_option maxHeartbeats 8000000 in
set_option maxRecDepth 100000 in
theorem law_case_0 {p : Program} {l : Launch} {e : Env} {s : State} {m : MethodId} {below : List Frame} {meth : Method} {c : Code} {b L : Nat} {xs : Nat → Int32} {D : va_G} {cs : Nat → ClassId} {k : (Nat → Nat) × (Nat → Nat)} {ad am : Nat → Nat} (C0 : lw_At p s m meth c b L xs) (hK : va_K D classes (zT cs) s) (hO : zO s) (hE : zE k (fun q : Nat => s.heap.size ≤ q) s) (hL : L ≤ 3072) (x3 : Int32) (h3 : 0 ≤ x3.toInt ∧ x3.toInt + 6 ≤ (L : Int)) (z : ZT) (w : MT) (hI : IX ad cs z) (hJ : IM w) (hr : RL z w) (cells slots : Nat) (hc : cells + 2 ≤ 600000) (hs : slots + 122 ≤ 7302250) (H : Heap) (locs : List Loc) (ls : Array Slot) (hP : va_P D classes (WM am cs w ++ WX ad cs z) H) (hD : va_D (fun q : Nat => s.heap.size ≤ q) (WM am cs w ++ WX ad cs z)) (hS : va_S (fun q : Nat => s.heap.size ≤ q) s.heap H locs) (hl : lv_has ls 4 [(0, .ref b), (1, .ref (ad 0)), (2, .ref (am 41)), (3, .int x3)]) (kk : ∀ (z2 : ZT) (w2 : MT) (H : Heap) (locs : List Loc) (ls : Array Slot) (cells2 slots2 : Nat), IX ad cs z2 → IM w2 → RL z2 w2 → cells2 ≤ cells + 2 → slots2 ≤ slots + 122 → va_P D classes (WM am cs w2 ++ WX ad cs z2) H → va_D (fun q : Nat => s.heap.size ≤ q) (WM am cs w2 ++ WX ad cs z2) → va_S (fun q : Nat => s.heap.size ≤ q) s.heap H locs → lv_has ls 4 [(0, .ref b), (1, .ref (ad 0)), (2, .ref (am 41)), (3, .int x3)] → W p l e room_1 s m #[Value.ref b] below meth c H locs cells2 slots2 (lw_Z below #[Value.ref b] s) (F0 m 1544 ls [])) : W p l e room_1 s m #[Value.ref b] below meth c H locs cells slots (lw_Z below #[Value.ref b] s) (F0 m 200 ls []) := by
  obtain ⟨hx, hb, hret, hml, hown, hts, hX, hbl, hlocks, hgv⟩ := id C0
  have hA : ∀ q : Nat, s.heap.size ≤ q → (fun q : Nat => s.heap.size ≤ q) q := fun _ h => h
  have hbA : ¬ (fun q : Nat => s.heap.size ≤ q) b := Nat.not_le.mpr hbl
  have ht : ∀ w ∈ zW, w.before #[Value.ref b] s = true := fun w hw => hts w (List.mem_filter.mp hw).1
  refine lv_aload_n hx hb dL_law_200 rfl (lv_at hl 1 rfl) ?_
  refine lv_aload_n hx hb dL_law_201 rfl (lv_at hl 0 rfl) ?_
  refine lv_iload_n hx hb dL_law_202 rfl (lv_at hl 3 rfl) ?_
  refine lv_iconst (v := (1 : Int32)) hx hb dL_law_203 (by decide) ?_
  refine lv_iadd hx hb dL_law_204 ?_
  refine va_sld hx hb hX hbl hbA hS (zl_in h3 hL (by decide)) dL_law_205 ?_
  refine lv_aload_n hx hb dL_law_206 rfl (lv_at hl 0 rfl) ?_
  refine lv_iload_n hx hb dL_law_207 rfl (lv_at hl 3 rfl) ?_
  refine lv_iconst (v := (2 : Int32)) hx hb dL_law_208 (by decide) ?_
  refine lv_iadd hx hb dL_law_209 ?_
  refine va_sld hx hb hX hbl hbA hS (zl_in h3 hL (by decide)) dL_law_210 ?_
  refine lv_aload_n hx hb dL_law_211 rfl (lv_at hl 0 rfl) ?_
  refine lv_iload_n hx hb dL_law_212 rfl (lv_at hl 3 rfl) ?_
  refine lv_iconst (v := (3 : Int32)) hx hb dL_law_213 (by decide) ?_
  refine lv_iadd hx hb dL_law_214 ?_
  refine va_sld hx hb hX hbl hbA hS (zl_in h3 hL (by decide)) dL_law_215 ?_
  refine lv_aload_n hx hb dL_law_216 rfl (lv_at hl 0 rfl) ?_
  refine lv_iload_n hx hb dL_law_217 rfl (lv_at hl 3 rfl) ?_
  refine lv_iconst (v := (4 : Int32)) hx hb dL_law_218 (by decide) ?_
  refine lv_iadd hx hb dL_law_219 ?_
  refine va_sld hx hb hX hbl hbA hS (zl_in h3 hL (by decide)) dL_law_220 ?_
  obtain ⟨R1, hf1, hI2, hM1⟩ := K_X11_shoe l D cs k H.size ad z hI (xs (x3 + (1 : Int32)).toNatClampNeg) (xs (x3 + (2 : Int32)).toNatClampNeg) (xs (x3 + (3 : Int32)).toNatClampNeg) (xs (x3 + (4 : Int32)).toNatClampNeg)
  refine zk_LXi (As := [.int (xs (x3 + (1 : Int32)).toNatClampNeg), .int (xs (x3 + (2 : Int32)).toNatClampNeg), .int (xs (x3 + (3 : Int32)).toNatClampNeg), .int (xs (x3 + (4 : Int32)).toNatClampNeg)]) (rest := []) hE hO hM1 ⟨hx, hb, hml, hown, ht⟩ (cwV 4 ht gl_13 rfl rfl rfl (by decide +kernel) ⟨Nat.le_of_ble_eq_true rfl, Nat.le_of_ble_eq_true rfl⟩) (va_recv hK hP (ci := 11) (q0 := 44) rfl rfl) hP hD hS hK hA rfl hl.1 (Nat.le_of_ble_eq_true rfl) dL_law_221 ⟨by show _ ≤ 600000; omega, by show _ ≤ 7302250; omega⟩ (fun H locs hP hD hS => ?_)
  refine lv_pop hx hb dL_law_224 rfl ?_
  refine lv_aload_n hx hb dL_law_225 rfl (lv_at hl 2 rfl) ?_
  refine lv_aload_n hx hb dL_law_226 rfl (lv_at hl 0 rfl) ?_
  refine lv_iload_n hx hb dL_law_227 rfl (lv_at hl 3 rfl) ?_
  refine lv_iconst (v := (1 : Int32)) hx hb dL_law_228 (by decide) ?_
  refine lv_iadd hx hb dL_law_229 ?_
  refine va_sld hx hb hX hbl hbA hS (zl_in h3 hL (by decide)) dL_law_230 ?_
  refine lv_aload_n hx hb dL_law_231 rfl (lv_at hl 0 rfl) ?_
  refine lv_iload_n hx hb dL_law_232 rfl (lv_at hl 3 rfl) ?_
  refine lv_iconst (v := (2 : Int32)) hx hb dL_law_233 (by decide) ?_
  refine lv_iadd hx hb dL_law_234 ?_
  refine va_sld hx hb hX hbl hbA hS (zl_in h3 hL (by decide)) dL_law_235 ?_
  refine lv_aload_n hx hb dL_law_236 rfl (lv_at hl 0 rfl) ?_
  refine lv_iload_n hx hb dL_law_237 rfl (lv_at hl 3 rfl) ?_
  refine lv_iconst (v := (3 : Int32)) hx hb dL_law_238 (by decide) ?_
  refine lv_iadd hx hb dL_law_239 ?_
  refine va_sld hx hb hX hbl hbA hS (zl_in h3 hL (by decide)) dL_law_240 ?_
  refine lv_aload_n hx hb dL_law_241 rfl (lv_at hl 0 rfl) ?_
  refine lv_iload_n hx hb dL_law_242 rfl (lv_at hl 3 rfl) ?_
  refine lv_iconst (v := (4 : Int32)) hx hb dL_law_243 (by decide) ?_
  refine lv_iadd hx hb dL_law_244 ?_
  refine va_sld hx hb hX hbl hbA hS (zl_in h3 hL (by decide)) dL_law_245 ?_
  obtain ⟨R2, hf2, hJ2, hM2⟩ := K_X12_shoe l D cs k H.size am w hJ (xs (x3 + (1 : Int32)).toNatClampNeg) (xs (x3 + (2 : Int32)).toNatClampNeg) (xs (x3 + (3 : Int32)).toNatClampNeg) (xs (x3 + (4 : Int32)).toNatClampNeg)
  have hf3 := hf2
  rw [← (rl_0 hr :), ← (rl_5 hr :), ← (rl_6 hr :), ← (rl_7 hr :), ← (rl_8 hr :), ← (rl_9 hr :), ← (rl_10 hr :), ← (rl_11 hr :), ← (rl_12 hr :), ← (rl_15 hr :), ← (rl_17 hr :)] at hf3
  obtain ⟨EQ, E1, E2, E3, E4, E5, E6, _⟩ := pw_shoe (ix_0 hI) hf1 hf3
  have EQ2 : RL ((fun n => zc n 0 R1.2.1 (z.1 n)), (fun n => zc n 2 R1.2.2.1 (zc n 3 R1.2.2.2.1 (zc n 4 R1.2.2.2.2.1 (zc n 5 R1.2.2.2.2.2 (z.2.1 n))))), z.2.2.1, z.2.2.2.1, z.2.2.2.2.1, z.2.2.2.2.2.1, z.2.2.2.2.2.2.1, z.2.2.2.2.2.2.2) ((fun n => zc n 1 R2.2.1 (w.1 n)), (fun n => zc n 0 R2.2.2.1 (zc n 1 R2.2.2.2.1 (zc n 2 R2.2.2.2.2.1 (zc n 3 R2.2.2.2.2.2 (w.2.1 n))))), w.2.2) := ⟨(rl_0 hr :), (rl_1 hr :), (rl_2 hr :), (rl_3 hr :), (rl_4 hr :), E1, (rl_6 hr :), (rl_7 hr :), (E3 rfl), (E4 rfl), (E5 rfl), (E6 rfl), (rl_12 hr :), (rl_13 hr :), (rl_14 hr :), (rl_15 hr :), (rl_16 hr :), (rl_17 hr :), (rl_18 hr :), (rl_19 hr :), (rl_20 hr :), (rl_21 hr :), (rl_22 hr :), (rl_23 hr :), (rl_24 hr :), (rl_25 hr :), (rl_26 hr :), (rl_27 hr :), (rl_28 hr :), (rl_29 hr :), (CV_mono (rl_30 hr :) E2 (Int.le_refl _)), (rl_31 hr :), (rl_32 hr :), (rl_33 hr :)⟩
  refine zk_LMi (As := [.int (xs (x3 + (1 : Int32)).toNatClampNeg), .int (xs (x3 + (2 : Int32)).toNatClampNeg), .int (xs (x3 + (3 : Int32)).toNatClampNeg), .int (xs (x3 + (4 : Int32)).toNatClampNeg)]) (rest := []) hE hO hM2 ⟨hx, hb, hml, hown, ht⟩ (cwV 4 ht gl_17 rfl rfl rfl (by decide +kernel) ⟨Nat.le_of_ble_eq_true rfl, Nat.le_of_ble_eq_true rfl⟩) (va_recv hK hP (ci := 12) (q0 := 0) rfl rfl) hP hD hS hK hA rfl hl.1 (Nat.le_of_ble_eq_true rfl) dL_law_246 ⟨by show _ ≤ 600000; omega, by show _ ≤ 7302250; omega⟩ (fun H locs hP hD hS => ?_)
  refine lv_pop hx hb dL_law_249 rfl ?_
  refine lv_goto (tgt := 1544) hx hb dL_law_250 (by decide) ?_
  exact kk _ _ H locs ls _ _ hI2 hJ2 EQ2 (by omega) (by omega) hP hD hS (lv_sub hl [0, 1, 2, 3] rfl)
theorem dL_law_253 : decode cL_law 253 = .ok (.aload_n 1, 1) := zo_43 zh_cL_law_12 13 rfl
theorem dL_law_254 : decode cL_law 254 = .ok (.aload_n 0, 1) := zo_42 zh_cL_law_12 14 rfl
theorem dL_law_255 : decode cL_law 255 = .ok (.iload_n 3, 1) := zo_29 zh_cL_law_12 15 rfl
theorem dL_law_256 : decode cL_law 256 = .ok (.iconst 1, 1) := zo_4 zh_cL_law_12 16 rfl
theorem dL_law_257 : decode cL_law 257 = .ok (.iadd, 1) := zo_96 zh_cL_law_12 17 rfl
theorem dL_law_258 : decode cL_law 258 = .ok (.iaload, 1) := zo_46 zh_cL_law_12 18 rfl
theorem dL_law_259 : decode cL_law 259 = .ok (.aload_n 0, 1) := zo_42 zh_cL_law_12 19 rfl
theorem zh_cL_law_13 : zck [29, 5, 96, 46, 42, 29, 6, 96, 46, 182, 0, 18, 87, 44, 42, 29, 4, 96, 46, 42, 29, 5] (zdu 260 cL_law.data.toList) = true := by decide +kernel
theorem dL_law_260 : decode cL_law 260 = .ok (.iload_n 3, 1) := zo_29 zh_cL_law_13 0 rfl
theorem dL_law_261 : decode cL_law 261 = .ok (.iconst 2, 1) := zo_5 zh_cL_law_13 1 rfl
theorem dL_law_262 : decode cL_law 262 = .ok (.iadd, 1) := zo_96 zh_cL_law_13 2 rfl
theorem dL_law_263 : decode cL_law 263 = .ok (.iaload, 1) := zo_46 zh_cL_law_13 3 rfl
theorem dL_law_264 : decode cL_law 264 = .ok (.aload_n 0, 1) := zo_42 zh_cL_law_13 4 rfl
theorem dL_law_265 : decode cL_law 265 = .ok (.iload_n 3, 1) := zo_29 zh_cL_law_13 5 rfl
theorem dL_law_266 : decode cL_law 266 = .ok (.iconst 3, 1) := zo_6 zh_cL_law_13 6 rfl
theorem dL_law_267 : decode cL_law 267 = .ok (.iadd, 1) := zo_96 zh_cL_law_13 7 rfl
theorem dL_law_268 : decode cL_law 268 = .ok (.iaload, 1) := zo_46 zh_cL_law_13 8 rfl
theorem dL_law_269 : decode cL_law 269 = .ok (.invokevirtual 18, 3) := zo_182 zh_cL_law_13 9 rfl
theorem dL_law_272 : decode cL_law 272 = .ok (.pop, 1) := zo_87 zh_cL_law_13 12 rfl
theorem dL_law_273 : decode cL_law 273 = .ok (.aload_n 2, 1) := zo_44 zh_cL_law_13 13 rfl
theorem dL_law_274 : decode cL_law 274 = .ok (.aload_n 0, 1) := zo_42 zh_cL_law_13 14 rfl
theorem dL_law_275 : decode cL_law 275 = .ok (.iload_n 3, 1) := zo_29 zh_cL_law_13 15 rfl
theorem dL_law_276 : decode cL_law 276 = .ok (.iconst 1, 1) := zo_4 zh_cL_law_13 16 rfl
theorem dL_law_277 : decode cL_law 277 = .ok (.iadd, 1) := zo_96 zh_cL_law_13 17 rfl
theorem dL_law_278 : decode cL_law 278 = .ok (.iaload, 1) := zo_46 zh_cL_law_13 18 rfl
theorem dL_law_279 : decode cL_law 279 = .ok (.aload_n 0, 1) := zo_42 zh_cL_law_13 19 rfl
theorem zh_cL_law_14 : zck [29, 5, 96, 46, 42, 29, 6, 96, 46, 182, 0, 22, 87, 167, 4, 227, 43, 42, 29, 4, 96, 46] (zdu 280 cL_law.data.toList) = true := by decide +kernel
theorem dL_law_280 : decode cL_law 280 = .ok (.iload_n 3, 1) := zo_29 zh_cL_law_14 0 rfl
theorem dL_law_281 : decode cL_law 281 = .ok (.iconst 2, 1) := zo_5 zh_cL_law_14 1 rfl
theorem dL_law_282 : decode cL_law 282 = .ok (.iadd, 1) := zo_96 zh_cL_law_14 2 rfl
theorem dL_law_283 : decode cL_law 283 = .ok (.iaload, 1) := zo_46 zh_cL_law_14 3 rfl
theorem dL_law_284 : decode cL_law 284 = .ok (.aload_n 0, 1) := zo_42 zh_cL_law_14 4 rfl
theorem dL_law_285 : decode cL_law 285 = .ok (.iload_n 3, 1) := zo_29 zh_cL_law_14 5 rfl
theorem dL_law_286 : decode cL_law 286 = .ok (.iconst 3, 1) := zo_6 zh_cL_law_14 6 rfl
theorem dL_law_287 : decode cL_law 287 = .ok (.iadd, 1) := zo_96 zh_cL_law_14 7 rfl
theorem dL_law_288 : decode cL_law 288 = .ok (.iaload, 1) := zo_46 zh_cL_law_14 8 rfl
theorem dL_law_289 : decode cL_law 289 = .ok (.invokevirtual 22, 3) := zo_182 zh_cL_law_14 9 rfl
theorem dL_law_292 : decode cL_law 292 = .ok (.pop, 1) := zo_87 zh_cL_law_14 12 rfl
theorem dL_law_293 : decode cL_law 293 = .ok (.goto 1251, 3) := zo_p167 zh_cL_law_14 13 1251 rfl rfl
set_option maxHeartbeats 8000000 in
set_option maxRecDepth 100000 in
theorem law_case_1 {p : Program} {l : Launch} {e : Env} {s : State} {m : MethodId} {below : List Frame} {meth : Method} {c : Code} {b L : Nat} {xs : Nat → Int32} {D : va_G} {cs : Nat → ClassId} {k : (Nat → Nat) × (Nat → Nat)} {ad am : Nat → Nat} (C0 : lw_At p s m meth c b L xs) (hK : va_K D classes (zT cs) s) (hO : zO s) (hE : zE k (fun q : Nat => s.heap.size ≤ q) s) (hL : L ≤ 3072) (x3 : Int32) (h3 : 0 ≤ x3.toInt ∧ x3.toInt + 6 ≤ (L : Int)) (z : ZT) (w : MT) (hI : IX ad cs z) (hJ : IM w) (hr : RL z w) (cells slots : Nat) (hc : cells + 2 ≤ 600000) (hs : slots + 122 ≤ 7302250) (H : Heap) (locs : List Loc) (ls : Array Slot) (hP : va_P D classes (WM am cs w ++ WX ad cs z) H) (hD : va_D (fun q : Nat => s.heap.size ≤ q) (WM am cs w ++ WX ad cs z)) (hS : va_S (fun q : Nat => s.heap.size ≤ q) s.heap H locs) (hl : lv_has ls 4 [(0, .ref b), (1, .ref (ad 0)), (2, .ref (am 41)), (3, .int x3)]) (kk : ∀ (z2 : ZT) (w2 : MT) (H : Heap) (locs : List Loc) (ls : Array Slot) (cells2 slots2 : Nat), IX ad cs z2 → IM w2 → RL z2 w2 → cells2 ≤ cells + 2 → slots2 ≤ slots + 122 → va_P D classes (WM am cs w2 ++ WX ad cs z2) H → va_D (fun q : Nat => s.heap.size ≤ q) (WM am cs w2 ++ WX ad cs z2) → va_S (fun q : Nat => s.heap.size ≤ q) s.heap H locs → lv_has ls 4 [(0, .ref b), (1, .ref (ad 0)), (2, .ref (am 41)), (3, .int x3)] → W p l e room_1 s m #[Value.ref b] below meth c H locs cells2 slots2 (lw_Z below #[Value.ref b] s) (F0 m 1544 ls [])) : W p l e room_1 s m #[Value.ref b] below meth c H locs cells slots (lw_Z below #[Value.ref b] s) (F0 m 253 ls []) := by
  obtain ⟨hx, hb, hret, hml, hown, hts, hX, hbl, hlocks, hgv⟩ := id C0
  have hA : ∀ q : Nat, s.heap.size ≤ q → (fun q : Nat => s.heap.size ≤ q) q := fun _ h => h
  have hbA : ¬ (fun q : Nat => s.heap.size ≤ q) b := Nat.not_le.mpr hbl
  have ht : ∀ w ∈ zW, w.before #[Value.ref b] s = true := fun w hw => hts w (List.mem_filter.mp hw).1
  obtain ⟨j0, hj0, hp0⟩ := zk_pl (xs (x3 + (1 : Int32)).toNatClampNeg)
  rcases (show j0 = 0 ∨ j0 = 1 ∨ j0 = 2 ∨ j0 = 3 ∨ j0 = 4 ∨ j0 = 5 by omega) with rfl | rfl | rfl | rfl | rfl | rfl
  · refine lv_aload_n hx hb dL_law_253 rfl (lv_at hl 1 rfl) ?_
    refine lv_aload_n hx hb dL_law_254 rfl (lv_at hl 0 rfl) ?_
    refine lv_iload_n hx hb dL_law_255 rfl (lv_at hl 3 rfl) ?_
    refine lv_iconst (v := (1 : Int32)) hx hb dL_law_256 (by decide) ?_
    refine lv_iadd hx hb dL_law_257 ?_
    refine va_sld hx hb hX hbl hbA hS (zl_in h3 hL (by decide)) dL_law_258 ?_
    refine lv_aload_n hx hb dL_law_259 rfl (lv_at hl 0 rfl) ?_
    refine lv_iload_n hx hb dL_law_260 rfl (lv_at hl 3 rfl) ?_
    refine lv_iconst (v := (2 : Int32)) hx hb dL_law_261 (by decide) ?_
    refine lv_iadd hx hb dL_law_262 ?_
    refine va_sld hx hb hX hbl hbA hS (zl_in h3 hL (by decide)) dL_law_263 ?_
    refine lv_aload_n hx hb dL_law_264 rfl (lv_at hl 0 rfl) ?_
    refine lv_iload_n hx hb dL_law_265 rfl (lv_at hl 3 rfl) ?_
    refine lv_iconst (v := (3 : Int32)) hx hb dL_law_266 (by decide) ?_
    refine lv_iadd hx hb dL_law_267 ?_
    refine va_sld hx hb hX hbl hbA hS (zl_in h3 hL (by decide)) dL_law_268 ?_
    obtain ⟨R1, hf1, hI2, hM1⟩ := K_X11_shoes_0 l D cs k H.size ad z hI (xs (x3 + (1 : Int32)).toNatClampNeg) (xs (x3 + (2 : Int32)).toNatClampNeg) (xs (x3 + (3 : Int32)).toNatClampNeg) hp0
    refine zk_LXi (As := [.int (xs (x3 + (1 : Int32)).toNatClampNeg), .int (xs (x3 + (2 : Int32)).toNatClampNeg), .int (xs (x3 + (3 : Int32)).toNatClampNeg)]) (rest := []) hE hO hM1 ⟨hx, hb, hml, hown, ht⟩ (cwV 3 ht gl_18 rfl rfl rfl (by decide +kernel) ⟨Nat.le_of_ble_eq_true rfl, Nat.le_of_ble_eq_true rfl⟩) (va_recv hK hP (ci := 11) (q0 := 44) rfl rfl) hP hD hS hK hA rfl hl.1 (Nat.le_of_ble_eq_true rfl) dL_law_269 ⟨by show _ ≤ 600000; omega, by show _ ≤ 7302250; omega⟩ (fun H locs hP hD hS => ?_)
    refine lv_pop hx hb dL_law_272 rfl ?_
    refine lv_aload_n hx hb dL_law_273 rfl (lv_at hl 2 rfl) ?_
    refine lv_aload_n hx hb dL_law_274 rfl (lv_at hl 0 rfl) ?_
    refine lv_iload_n hx hb dL_law_275 rfl (lv_at hl 3 rfl) ?_
    refine lv_iconst (v := (1 : Int32)) hx hb dL_law_276 (by decide) ?_
    refine lv_iadd hx hb dL_law_277 ?_
    refine va_sld hx hb hX hbl hbA hS (zl_in h3 hL (by decide)) dL_law_278 ?_
    refine lv_aload_n hx hb dL_law_279 rfl (lv_at hl 0 rfl) ?_
    refine lv_iload_n hx hb dL_law_280 rfl (lv_at hl 3 rfl) ?_
    refine lv_iconst (v := (2 : Int32)) hx hb dL_law_281 (by decide) ?_
    refine lv_iadd hx hb dL_law_282 ?_
    refine va_sld hx hb hX hbl hbA hS (zl_in h3 hL (by decide)) dL_law_283 ?_
    refine lv_aload_n hx hb dL_law_284 rfl (lv_at hl 0 rfl) ?_
    refine lv_iload_n hx hb dL_law_285 rfl (lv_at hl 3 rfl) ?_
    refine lv_iconst (v := (3 : Int32)) hx hb dL_law_286 (by decide) ?_
    refine lv_iadd hx hb dL_law_287 ?_
    refine va_sld hx hb hX hbl hbA hS (zl_in h3 hL (by decide)) dL_law_288 ?_
    obtain ⟨R2, hf2, hJ2, hM2⟩ := K_X12_shoes l D cs k H.size am w hJ (xs (x3 + (1 : Int32)).toNatClampNeg) (xs (x3 + (2 : Int32)).toNatClampNeg) (xs (x3 + (3 : Int32)).toNatClampNeg)
    have hf3 := hf2
    rw [← (rl_0 hr :), ← (rl_5 hr :), ← (rl_6 hr :), ← (rl_7 hr :), ← (rl_8 hr :), ← (rl_9 hr :), ← (rl_10 hr :), ← (rl_11 hr :), ← (rl_12 hr :), ← (rl_15 hr :), ← (rl_17 hr :)] at hf3
    obtain ⟨EQ, E1, E2, E3, E4, E5, E6⟩ := pw_shoes (ix_0 hI) hp0 (rl_23 hr :) hf1 hf3
    have EQ2 : RL ((fun n => zc n 0 R1.2.1 (z.1 n)), (fun n => zc n 2 R1.2.2.1 (zc n 3 R1.2.2.2.1 (zc n 4 R1.2.2.2.2.1 (zc n 5 R1.2.2.2.2.2 (z.2.1 n))))), z.2.2.1, z.2.2.2.1, z.2.2.2.2.1, z.2.2.2.2.2.1, z.2.2.2.2.2.2.1, z.2.2.2.2.2.2.2) ((fun n => zc n 1 R2.2.1 (w.1 n)), (fun n => zc n 0 R2.2.2.1 (zc n 1 R2.2.2.2.1 (zc n 2 R2.2.2.2.2.1 (zc n 3 R2.2.2.2.2.2 (w.2.1 n))))), w.2.2) := ⟨(rl_0 hr :), (rl_1 hr :), (rl_2 hr :), (rl_3 hr :), (rl_4 hr :), E1, (rl_6 hr :), (rl_7 hr :), (E3 rfl), (E4 rfl), (E5 rfl), (E6 rfl), (rl_12 hr :), (rl_13 hr :), (rl_14 hr :), (rl_15 hr :), (rl_16 hr :), (rl_17 hr :), (rl_18 hr :), (rl_19 hr :), (rl_20 hr :), (rl_21 hr :), (rl_22 hr :), (rl_23 hr :), (rl_24 hr :), (rl_25 hr :), (rl_26 hr :), (rl_27 hr :), (rl_28 hr :), (rl_29 hr :), (CV_mono (rl_30 hr :) E2 (Int.le_refl _)), (rl_31 hr :), (rl_32 hr :), (rl_33 hr :)⟩
    refine zk_LMi (As := [.int (xs (x3 + (1 : Int32)).toNatClampNeg), .int (xs (x3 + (2 : Int32)).toNatClampNeg), .int (xs (x3 + (3 : Int32)).toNatClampNeg)]) (rest := []) hE hO hM2 ⟨hx, hb, hml, hown, ht⟩ (cwV 3 ht gl_22 rfl rfl rfl (by decide +kernel) ⟨Nat.le_of_ble_eq_true rfl, Nat.le_of_ble_eq_true rfl⟩) (va_recv hK hP (ci := 12) (q0 := 0) rfl rfl) hP hD hS hK hA rfl hl.1 (Nat.le_of_ble_eq_true rfl) dL_law_289 ⟨by show _ ≤ 600000; omega, by show _ ≤ 7302250; omega⟩ (fun H locs hP hD hS => ?_)
    refine lv_pop hx hb dL_law_292 rfl ?_
    refine lv_goto (tgt := 1544) hx hb dL_law_293 (by decide) ?_
    exact kk _ _ H locs ls _ _ hI2 hJ2 EQ2 (by omega) (by omega) hP hD hS (lv_sub hl [0, 1, 2, 3] rfl)
  · refine lv_aload_n hx hb dL_law_253 rfl (lv_at hl 1 rfl) ?_
    refine lv_aload_n hx hb dL_law_254 rfl (lv_at hl 0 rfl) ?_
    refine lv_iload_n hx hb dL_law_255 rfl (lv_at hl 3 rfl) ?_
    refine lv_iconst (v := (1 : Int32)) hx hb dL_law_256 (by decide) ?_
    refine lv_iadd hx hb dL_law_257 ?_
    refine va_sld hx hb hX hbl hbA hS (zl_in h3 hL (by decide)) dL_law_258 ?_
    refine lv_aload_n hx hb dL_law_259 rfl (lv_at hl 0 rfl) ?_
    refine lv_iload_n hx hb dL_law_260 rfl (lv_at hl 3 rfl) ?_
    refine lv_iconst (v := (2 : Int32)) hx hb dL_law_261 (by decide) ?_
    refine lv_iadd hx hb dL_law_262 ?_
    refine va_sld hx hb hX hbl hbA hS (zl_in h3 hL (by decide)) dL_law_263 ?_
    refine lv_aload_n hx hb dL_law_264 rfl (lv_at hl 0 rfl) ?_
    refine lv_iload_n hx hb dL_law_265 rfl (lv_at hl 3 rfl) ?_
    refine lv_iconst (v := (3 : Int32)) hx hb dL_law_266 (by decide) ?_
    refine lv_iadd hx hb dL_law_267 ?_
    refine va_sld hx hb hX hbl hbA hS (zl_in h3 hL (by decide)) dL_law_268 ?_
    obtain ⟨R1, hf1, hI2, hM1⟩ := K_X11_shoes_1 l D cs k H.size ad z hI (xs (x3 + (1 : Int32)).toNatClampNeg) (xs (x3 + (2 : Int32)).toNatClampNeg) (xs (x3 + (3 : Int32)).toNatClampNeg) hp0
    refine zk_LXi (As := [.int (xs (x3 + (1 : Int32)).toNatClampNeg), .int (xs (x3 + (2 : Int32)).toNatClampNeg), .int (xs (x3 + (3 : Int32)).toNatClampNeg)]) (rest := []) hE hO hM1 ⟨hx, hb, hml, hown, ht⟩ (cwV 3 ht gl_18 rfl rfl rfl (by decide +kernel) ⟨Nat.le_of_ble_eq_true rfl, Nat.le_of_ble_eq_true rfl⟩) (va_recv hK hP (ci := 11) (q0 := 44) rfl rfl) hP hD hS hK hA rfl hl.1 (Nat.le_of_ble_eq_true rfl) dL_law_269 ⟨by show _ ≤ 600000; omega, by show _ ≤ 7302250; omega⟩ (fun H locs hP hD hS => ?_)
    refine lv_pop hx hb dL_law_272 rfl ?_
    refine lv_aload_n hx hb dL_law_273 rfl (lv_at hl 2 rfl) ?_
    refine lv_aload_n hx hb dL_law_274 rfl (lv_at hl 0 rfl) ?_
    refine lv_iload_n hx hb dL_law_275 rfl (lv_at hl 3 rfl) ?_
    refine lv_iconst (v := (1 : Int32)) hx hb dL_law_276 (by decide) ?_
    refine lv_iadd hx hb dL_law_277 ?_
    refine va_sld hx hb hX hbl hbA hS (zl_in h3 hL (by decide)) dL_law_278 ?_
    refine lv_aload_n hx hb dL_law_279 rfl (lv_at hl 0 rfl) ?_
    refine lv_iload_n hx hb dL_law_280 rfl (lv_at hl 3 rfl) ?_
    refine lv_iconst (v := (2 : Int32)) hx hb dL_law_281 (by decide) ?_
    refine lv_iadd hx hb dL_law_282 ?_
    refine va_sld hx hb hX hbl hbA hS (zl_in h3 hL (by decide)) dL_law_283 ?_
    refine lv_aload_n hx hb dL_law_284 rfl (lv_at hl 0 rfl) ?_
    refine lv_iload_n hx hb dL_law_285 rfl (lv_at hl 3 rfl) ?_
    refine lv_iconst (v := (3 : Int32)) hx hb dL_law_286 (by decide) ?_
    refine lv_iadd hx hb dL_law_287 ?_
    refine va_sld hx hb hX hbl hbA hS (zl_in h3 hL (by decide)) dL_law_288 ?_
    obtain ⟨R2, hf2, hJ2, hM2⟩ := K_X12_shoes l D cs k H.size am w hJ (xs (x3 + (1 : Int32)).toNatClampNeg) (xs (x3 + (2 : Int32)).toNatClampNeg) (xs (x3 + (3 : Int32)).toNatClampNeg)
    have hf3 := hf2
    rw [← (rl_0 hr :), ← (rl_5 hr :), ← (rl_6 hr :), ← (rl_7 hr :), ← (rl_8 hr :), ← (rl_9 hr :), ← (rl_10 hr :), ← (rl_11 hr :), ← (rl_12 hr :), ← (rl_15 hr :), ← (rl_17 hr :)] at hf3
    obtain ⟨EQ, E1, E2, E3, E4, E5, E6⟩ := pw_shoes (ix_0 hI) hp0 (rl_24 hr :) hf1 hf3
    have EQ2 : RL ((fun n => zc n 0 R1.2.1 (z.1 n)), (fun n => zc n 2 R1.2.2.1 (zc n 3 R1.2.2.2.1 (zc n 4 R1.2.2.2.2.1 (zc n 5 R1.2.2.2.2.2 (z.2.1 n))))), z.2.2.1, z.2.2.2.1, z.2.2.2.2.1, z.2.2.2.2.2.1, z.2.2.2.2.2.2.1, z.2.2.2.2.2.2.2) ((fun n => zc n 1 R2.2.1 (w.1 n)), (fun n => zc n 0 R2.2.2.1 (zc n 1 R2.2.2.2.1 (zc n 2 R2.2.2.2.2.1 (zc n 3 R2.2.2.2.2.2 (w.2.1 n))))), w.2.2) := ⟨(rl_0 hr :), (rl_1 hr :), (rl_2 hr :), (rl_3 hr :), (rl_4 hr :), E1, (rl_6 hr :), (rl_7 hr :), (E3 rfl), (E4 rfl), (E5 rfl), (E6 rfl), (rl_12 hr :), (rl_13 hr :), (rl_14 hr :), (rl_15 hr :), (rl_16 hr :), (rl_17 hr :), (rl_18 hr :), (rl_19 hr :), (rl_20 hr :), (rl_21 hr :), (rl_22 hr :), (rl_23 hr :), (rl_24 hr :), (rl_25 hr :), (rl_26 hr :), (rl_27 hr :), (rl_28 hr :), (rl_29 hr :), (CV_mono (rl_30 hr :) E2 (Int.le_refl _)), (rl_31 hr :), (rl_32 hr :), (rl_33 hr :)⟩
    refine zk_LMi (As := [.int (xs (x3 + (1 : Int32)).toNatClampNeg), .int (xs (x3 + (2 : Int32)).toNatClampNeg), .int (xs (x3 + (3 : Int32)).toNatClampNeg)]) (rest := []) hE hO hM2 ⟨hx, hb, hml, hown, ht⟩ (cwV 3 ht gl_22 rfl rfl rfl (by decide +kernel) ⟨Nat.le_of_ble_eq_true rfl, Nat.le_of_ble_eq_true rfl⟩) (va_recv hK hP (ci := 12) (q0 := 0) rfl rfl) hP hD hS hK hA rfl hl.1 (Nat.le_of_ble_eq_true rfl) dL_law_289 ⟨by show _ ≤ 600000; omega, by show _ ≤ 7302250; omega⟩ (fun H locs hP hD hS => ?_)
    refine lv_pop hx hb dL_law_292 rfl ?_
    refine lv_goto (tgt := 1544) hx hb dL_law_293 (by decide) ?_
    exact kk _ _ H locs ls _ _ hI2 hJ2 EQ2 (by omega) (by omega) hP hD hS (lv_sub hl [0, 1, 2, 3] rfl)
  · refine lv_aload_n hx hb dL_law_253 rfl (lv_at hl 1 rfl) ?_
    refine lv_aload_n hx hb dL_law_254 rfl (lv_at hl 0 rfl) ?_
    refine lv_iload_n hx hb dL_law_255 rfl (lv_at hl 3 rfl) ?_
    refine lv_iconst (v := (1 : Int32)) hx hb dL_law_256 (by decide) ?_
    refine lv_iadd hx hb dL_law_257 ?_
    refine va_sld hx hb hX hbl hbA hS (zl_in h3 hL (by decide)) dL_law_258 ?_
    refine lv_aload_n hx hb dL_law_259 rfl (lv_at hl 0 rfl) ?_
    refine lv_iload_n hx hb dL_law_260 rfl (lv_at hl 3 rfl) ?_
    refine lv_iconst (v := (2 : Int32)) hx hb dL_law_261 (by decide) ?_
    refine lv_iadd hx hb dL_law_262 ?_
    refine va_sld hx hb hX hbl hbA hS (zl_in h3 hL (by decide)) dL_law_263 ?_
    refine lv_aload_n hx hb dL_law_264 rfl (lv_at hl 0 rfl) ?_
    refine lv_iload_n hx hb dL_law_265 rfl (lv_at hl 3 rfl) ?_
    refine lv_iconst (v := (3 : Int32)) hx hb dL_law_266 (by decide) ?_
    refine lv_iadd hx hb dL_law_267 ?_
    refine va_sld hx hb hX hbl hbA hS (zl_in h3 hL (by decide)) dL_law_268 ?_
    obtain ⟨R1, hf1, hI2, hM1⟩ := K_X11_shoes_2 l D cs k H.size ad z hI (xs (x3 + (1 : Int32)).toNatClampNeg) (xs (x3 + (2 : Int32)).toNatClampNeg) (xs (x3 + (3 : Int32)).toNatClampNeg) hp0
    refine zk_LXi (As := [.int (xs (x3 + (1 : Int32)).toNatClampNeg), .int (xs (x3 + (2 : Int32)).toNatClampNeg), .int (xs (x3 + (3 : Int32)).toNatClampNeg)]) (rest := []) hE hO hM1 ⟨hx, hb, hml, hown, ht⟩ (cwV 3 ht gl_18 rfl rfl rfl (by decide +kernel) ⟨Nat.le_of_ble_eq_true rfl, Nat.le_of_ble_eq_true rfl⟩) (va_recv hK hP (ci := 11) (q0 := 44) rfl rfl) hP hD hS hK hA rfl hl.1 (Nat.le_of_ble_eq_true rfl) dL_law_269 ⟨by show _ ≤ 600000; omega, by show _ ≤ 7302250; omega⟩ (fun H locs hP hD hS => ?_)
    refine lv_pop hx hb dL_law_272 rfl ?_
    refine lv_aload_n hx hb dL_law_273 rfl (lv_at hl 2 rfl) ?_
    refine lv_aload_n hx hb dL_law_274 rfl (lv_at hl 0 rfl) ?_
    refine lv_iload_n hx hb dL_law_275 rfl (lv_at hl 3 rfl) ?_
    refine lv_iconst (v := (1 : Int32)) hx hb dL_law_276 (by decide) ?_
    refine lv_iadd hx hb dL_law_277 ?_
    refine va_sld hx hb hX hbl hbA hS (zl_in h3 hL (by decide)) dL_law_278 ?_
    refine lv_aload_n hx hb dL_law_279 rfl (lv_at hl 0 rfl) ?_
    refine lv_iload_n hx hb dL_law_280 rfl (lv_at hl 3 rfl) ?_
    refine lv_iconst (v := (2 : Int32)) hx hb dL_law_281 (by decide) ?_
    refine lv_iadd hx hb dL_law_282 ?_
    refine va_sld hx hb hX hbl hbA hS (zl_in h3 hL (by decide)) dL_law_283 ?_
    refine lv_aload_n hx hb dL_law_284 rfl (lv_at hl 0 rfl) ?_
    refine lv_iload_n hx hb dL_law_285 rfl (lv_at hl 3 rfl) ?_
    refine lv_iconst (v := (3 : Int32)) hx hb dL_law_286 (by decide) ?_
    refine lv_iadd hx hb dL_law_287 ?_
    refine va_sld hx hb hX hbl hbA hS (zl_in h3 hL (by decide)) dL_law_288 ?_
    obtain ⟨R2, hf2, hJ2, hM2⟩ := K_X12_shoes l D cs k H.size am w hJ (xs (x3 + (1 : Int32)).toNatClampNeg) (xs (x3 + (2 : Int32)).toNatClampNeg) (xs (x3 + (3 : Int32)).toNatClampNeg)
    have hf3 := hf2
    rw [← (rl_0 hr :), ← (rl_5 hr :), ← (rl_6 hr :), ← (rl_7 hr :), ← (rl_8 hr :), ← (rl_9 hr :), ← (rl_10 hr :), ← (rl_11 hr :), ← (rl_12 hr :), ← (rl_15 hr :), ← (rl_17 hr :)] at hf3
    obtain ⟨EQ, E1, E2, E3, E4, E5, E6⟩ := pw_shoes (ix_0 hI) hp0 (rl_25 hr :) hf1 hf3
    have EQ2 : RL ((fun n => zc n 0 R1.2.1 (z.1 n)), (fun n => zc n 2 R1.2.2.1 (zc n 3 R1.2.2.2.1 (zc n 4 R1.2.2.2.2.1 (zc n 5 R1.2.2.2.2.2 (z.2.1 n))))), z.2.2.1, z.2.2.2.1, z.2.2.2.2.1, z.2.2.2.2.2.1, z.2.2.2.2.2.2.1, z.2.2.2.2.2.2.2) ((fun n => zc n 1 R2.2.1 (w.1 n)), (fun n => zc n 0 R2.2.2.1 (zc n 1 R2.2.2.2.1 (zc n 2 R2.2.2.2.2.1 (zc n 3 R2.2.2.2.2.2 (w.2.1 n))))), w.2.2) := ⟨(rl_0 hr :), (rl_1 hr :), (rl_2 hr :), (rl_3 hr :), (rl_4 hr :), E1, (rl_6 hr :), (rl_7 hr :), (E3 rfl), (E4 rfl), (E5 rfl), (E6 rfl), (rl_12 hr :), (rl_13 hr :), (rl_14 hr :), (rl_15 hr :), (rl_16 hr :), (rl_17 hr :), (rl_18 hr :), (rl_19 hr :), (rl_20 hr :), (rl_21 hr :), (rl_22 hr :), (rl_23 hr :), (rl_24 hr :), (rl_25 hr :), (rl_26 hr :), (rl_27 hr :), (rl_28 hr :), (rl_29 hr :), (CV_mono (rl_30 hr :) E2 (Int.le_refl _)), (rl_31 hr :), (rl_32 hr :), (rl_33 hr :)⟩
    refine zk_LMi (As := [.int (xs (x3 + (1 : Int32)).toNatClampNeg), .int (xs (x3 + (2 : Int32)).toNatClampNeg), .int (xs (x3 + (3 : Int32)).toNatClampNeg)]) (rest := []) hE hO hM2 ⟨hx, hb, hml, hown, ht⟩ (cwV 3 ht gl_22 rfl rfl rfl (by decide +kernel) ⟨Nat.le_of_ble_eq_true rfl, Nat.le_of_ble_eq_true rfl⟩) (va_recv hK hP (ci := 12) (q0 := 0) rfl rfl) hP hD hS hK hA rfl hl.1 (Nat.le_of_ble_eq_true rfl) dL_law_289 ⟨by show _ ≤ 600000; omega, by show _ ≤ 7302250; omega⟩ (fun H locs hP hD hS => ?_)
    refine lv_pop hx hb dL_law_292 rfl ?_
    refine lv_goto (tgt := 1544) hx hb dL_law_293 (by decide) ?_
    exact kk _ _ H locs ls _ _ hI2 hJ2 EQ2 (by omega) (by omega) hP hD hS (lv_sub hl [0, 1, 2, 3] rfl)
  · refine lv_aload_n hx hb dL_law_253 rfl (lv_at hl 1 rfl) ?_
    refine lv_aload_n hx hb dL_law_254 rfl (lv_at hl 0 rfl) ?_
    refine lv_iload_n hx hb dL_law_255 rfl (lv_at hl 3 rfl) ?_
    refine lv_iconst (v := (1 : Int32)) hx hb dL_law_256 (by decide) ?_
    refine lv_iadd hx hb dL_law_257 ?_
    refine va_sld hx hb hX hbl hbA hS (zl_in h3 hL (by decide)) dL_law_258 ?_
    refine lv_aload_n hx hb dL_law_259 rfl (lv_at hl 0 rfl) ?_
    refine lv_iload_n hx hb dL_law_260 rfl (lv_at hl 3 rfl) ?_
    refine lv_iconst (v := (2 : Int32)) hx hb dL_law_261 (by decide) ?_
    refine lv_iadd hx hb dL_law_262 ?_
    refine va_sld hx hb hX hbl hbA hS (zl_in h3 hL (by decide)) dL_law_263 ?_
    refine lv_aload_n hx hb dL_law_264 rfl (lv_at hl 0 rfl) ?_
    refine lv_iload_n hx hb dL_law_265 rfl (lv_at hl 3 rfl) ?_
    refine lv_iconst (v := (3 : Int32)) hx hb dL_law_266 (by decide) ?_
    refine lv_iadd hx hb dL_law_267 ?_
    refine va_sld hx hb hX hbl hbA hS (zl_in h3 hL (by decide)) dL_law_268 ?_
    obtain ⟨R1, hf1, hI2, hM1⟩ := K_X11_shoes_3 l D cs k H.size ad z hI (xs (x3 + (1 : Int32)).toNatClampNeg) (xs (x3 + (2 : Int32)).toNatClampNeg) (xs (x3 + (3 : Int32)).toNatClampNeg) hp0
    refine zk_LXi (As := [.int (xs (x3 + (1 : Int32)).toNatClampNeg), .int (xs (x3 + (2 : Int32)).toNatClampNeg), .int (xs (x3 + (3 : Int32)).toNatClampNeg)]) (rest := []) hE hO hM1 ⟨hx, hb, hml, hown, ht⟩ (cwV 3 ht gl_18 rfl rfl rfl (by decide +kernel) ⟨Nat.le_of_ble_eq_true rfl, Nat.le_of_ble_eq_true rfl⟩) (va_recv hK hP (ci := 11) (q0 := 44) rfl rfl) hP hD hS hK hA rfl hl.1 (Nat.le_of_ble_eq_true rfl) dL_law_269 ⟨by show _ ≤ 600000; omega, by show _ ≤ 7302250; omega⟩ (fun H locs hP hD hS => ?_)
    refine lv_pop hx hb dL_law_272 rfl ?_
    refine lv_aload_n hx hb dL_law_273 rfl (lv_at hl 2 rfl) ?_
    refine lv_aload_n hx hb dL_law_274 rfl (lv_at hl 0 rfl) ?_
    refine lv_iload_n hx hb dL_law_275 rfl (lv_at hl 3 rfl) ?_
    refine lv_iconst (v := (1 : Int32)) hx hb dL_law_276 (by decide) ?_
    refine lv_iadd hx hb dL_law_277 ?_
    refine va_sld hx hb hX hbl hbA hS (zl_in h3 hL (by decide)) dL_law_278 ?_
    refine lv_aload_n hx hb dL_law_279 rfl (lv_at hl 0 rfl) ?_
    refine lv_iload_n hx hb dL_law_280 rfl (lv_at hl 3 rfl) ?_
    refine lv_iconst (v := (2 : Int32)) hx hb dL_law_281 (by decide) ?_
    refine lv_iadd hx hb dL_law_282 ?_
    refine va_sld hx hb hX hbl hbA hS (zl_in h3 hL (by decide)) dL_law_283 ?_
    refine lv_aload_n hx hb dL_law_284 rfl (lv_at hl 0 rfl) ?_
    refine lv_iload_n hx hb dL_law_285 rfl (lv_at hl 3 rfl) ?_
    refine lv_iconst (v := (3 : Int32)) hx hb dL_law_286 (by decide) ?_
    refine lv_iadd hx hb dL_law_287 ?_
    refine va_sld hx hb hX hbl hbA hS (zl_in h3 hL (by decide)) dL_law_288 ?_
    obtain ⟨R2, hf2, hJ2, hM2⟩ := K_X12_shoes l D cs k H.size am w hJ (xs (x3 + (1 : Int32)).toNatClampNeg) (xs (x3 + (2 : Int32)).toNatClampNeg) (xs (x3 + (3 : Int32)).toNatClampNeg)
    have hf3 := hf2
    rw [← (rl_0 hr :), ← (rl_5 hr :), ← (rl_6 hr :), ← (rl_7 hr :), ← (rl_8 hr :), ← (rl_9 hr :), ← (rl_10 hr :), ← (rl_11 hr :), ← (rl_12 hr :), ← (rl_15 hr :), ← (rl_17 hr :)] at hf3
    obtain ⟨EQ, E1, E2, E3, E4, E5, E6⟩ := pw_shoes (ix_0 hI) hp0 (rl_26 hr :) hf1 hf3
    have EQ2 : RL ((fun n => zc n 0 R1.2.1 (z.1 n)), (fun n => zc n 2 R1.2.2.1 (zc n 3 R1.2.2.2.1 (zc n 4 R1.2.2.2.2.1 (zc n 5 R1.2.2.2.2.2 (z.2.1 n))))), z.2.2.1, z.2.2.2.1, z.2.2.2.2.1, z.2.2.2.2.2.1, z.2.2.2.2.2.2.1, z.2.2.2.2.2.2.2) ((fun n => zc n 1 R2.2.1 (w.1 n)), (fun n => zc n 0 R2.2.2.1 (zc n 1 R2.2.2.2.1 (zc n 2 R2.2.2.2.2.1 (zc n 3 R2.2.2.2.2.2 (w.2.1 n))))), w.2.2) := ⟨(rl_0 hr :), (rl_1 hr :), (rl_2 hr :), (rl_3 hr :), (rl_4 hr :), E1, (rl_6 hr :), (rl_7 hr :), (E3 rfl), (E4 rfl), (E5 rfl), (E6 rfl), (rl_12 hr :), (rl_13 hr :), (rl_14 hr :), (rl_15 hr :), (rl_16 hr :), (rl_17 hr :), (rl_18 hr :), (rl_19 hr :), (rl_20 hr :), (rl_21 hr :), (rl_22 hr :), (rl_23 hr :), (rl_24 hr :), (rl_25 hr :), (rl_26 hr :), (rl_27 hr :), (rl_28 hr :), (rl_29 hr :), (CV_mono (rl_30 hr :) E2 (Int.le_refl _)), (rl_31 hr :), (rl_32 hr :), (rl_33 hr :)⟩
    refine zk_LMi (As := [.int (xs (x3 + (1 : Int32)).toNatClampNeg), .int (xs (x3 + (2 : Int32)).toNatClampNeg), .int (xs (x3 + (3 : Int32)).toNatClampNeg)]) (rest := []) hE hO hM2 ⟨hx, hb, hml, hown, ht⟩ (cwV 3 ht gl_22 rfl rfl rfl (by decide +kernel) ⟨Nat.le_of_ble_eq_true rfl, Nat.le_of_ble_eq_true rfl⟩) (va_recv hK hP (ci := 12) (q0 := 0) rfl rfl) hP hD hS hK hA rfl hl.1 (Nat.le_of_ble_eq_true rfl) dL_law_289 ⟨by show _ ≤ 600000; omega, by show _ ≤ 7302250; omega⟩ (fun H locs hP hD hS => ?_)
    refine lv_pop hx hb dL_law_292 rfl ?_
    refine lv_goto (tgt := 1544) hx hb dL_law_293 (by decide) ?_
    exact kk _ _ H locs ls _ _ hI2 hJ2 EQ2 (by omega) (by omega) hP hD hS (lv_sub hl [0, 1, 2, 3] rfl)
  · refine lv_aload_n hx hb dL_law_253 rfl (lv_at hl 1 rfl) ?_
    refine lv_aload_n hx hb dL_law_254 rfl (lv_at hl 0 rfl) ?_
    refine lv_iload_n hx hb dL_law_255 rfl (lv_at hl 3 rfl) ?_
    refine lv_iconst (v := (1 : Int32)) hx hb dL_law_256 (by decide) ?_
    refine lv_iadd hx hb dL_law_257 ?_
    refine va_sld hx hb hX hbl hbA hS (zl_in h3 hL (by decide)) dL_law_258 ?_
    refine lv_aload_n hx hb dL_law_259 rfl (lv_at hl 0 rfl) ?_
    refine lv_iload_n hx hb dL_law_260 rfl (lv_at hl 3 rfl) ?_
    refine lv_iconst (v := (2 : Int32)) hx hb dL_law_261 (by decide) ?_
    refine lv_iadd hx hb dL_law_262 ?_
    refine va_sld hx hb hX hbl hbA hS (zl_in h3 hL (by decide)) dL_law_263 ?_
    refine lv_aload_n hx hb dL_law_264 rfl (lv_at hl 0 rfl) ?_
    refine lv_iload_n hx hb dL_law_265 rfl (lv_at hl 3 rfl) ?_
    refine lv_iconst (v := (3 : Int32)) hx hb dL_law_266 (by decide) ?_
    refine lv_iadd hx hb dL_law_267 ?_
    refine va_sld hx hb hX hbl hbA hS (zl_in h3 hL (by decide)) dL_law_268 ?_
    obtain ⟨R1, hf1, hI2, hM1⟩ := K_X11_shoes_4 l D cs k H.size ad z hI (xs (x3 + (1 : Int32)).toNatClampNeg) (xs (x3 + (2 : Int32)).toNatClampNeg) (xs (x3 + (3 : Int32)).toNatClampNeg) hp0
    refine zk_LXi (As := [.int (xs (x3 + (1 : Int32)).toNatClampNeg), .int (xs (x3 + (2 : Int32)).toNatClampNeg), .int (xs (x3 + (3 : Int32)).toNatClampNeg)]) (rest := []) hE hO hM1 ⟨hx, hb, hml, hown, ht⟩ (cwV 3 ht gl_18 rfl rfl rfl (by decide +kernel) ⟨Nat.le_of_ble_eq_true rfl, Nat.le_of_ble_eq_true rfl⟩) (va_recv hK hP (ci := 11) (q0 := 44) rfl rfl) hP hD hS hK hA rfl hl.1 (Nat.le_of_ble_eq_true rfl) dL_law_269 ⟨by show _ ≤ 600000; omega, by show _ ≤ 7302250; omega⟩ (fun H locs hP hD hS => ?_)
    refine lv_pop hx hb dL_law_272 rfl ?_
    refine lv_aload_n hx hb dL_law_273 rfl (lv_at hl 2 rfl) ?_
    refine lv_aload_n hx hb dL_law_274 rfl (lv_at hl 0 rfl) ?_
    refine lv_iload_n hx hb dL_law_275 rfl (lv_at hl 3 rfl) ?_
    refine lv_iconst (v := (1 : Int32)) hx hb dL_law_276 (by decide) ?_
    refine lv_iadd hx hb dL_law_277 ?_
    refine va_sld hx hb hX hbl hbA hS (zl_in h3 hL (by decide)) dL_law_278 ?_
    refine lv_aload_n hx hb dL_law_279 rfl (lv_at hl 0 rfl) ?_
    refine lv_iload_n hx hb dL_law_280 rfl (lv_at hl 3 rfl) ?_
    refine lv_iconst (v := (2 : Int32)) hx hb dL_law_281 (by decide) ?_
    refine lv_iadd hx hb dL_law_282 ?_
    refine va_sld hx hb hX hbl hbA hS (zl_in h3 hL (by decide)) dL_law_283 ?_
    refine lv_aload_n hx hb dL_law_284 rfl (lv_at hl 0 rfl) ?_
    refine lv_iload_n hx hb dL_law_285 rfl (lv_at hl 3 rfl) ?_
    refine lv_iconst (v := (3 : Int32)) hx hb dL_law_286 (by decide) ?_
    refine lv_iadd hx hb dL_law_287 ?_
    refine va_sld hx hb hX hbl hbA hS (zl_in h3 hL (by decide)) dL_law_288 ?_
    obtain ⟨R2, hf2, hJ2, hM2⟩ := K_X12_shoes l D cs k H.size am w hJ (xs (x3 + (1 : Int32)).toNatClampNeg) (xs (x3 + (2 : Int32)).toNatClampNeg) (xs (x3 + (3 : Int32)).toNatClampNeg)
    have hf3 := hf2
    rw [← (rl_0 hr :), ← (rl_5 hr :), ← (rl_6 hr :), ← (rl_7 hr :), ← (rl_8 hr :), ← (rl_9 hr :), ← (rl_10 hr :), ← (rl_11 hr :), ← (rl_12 hr :), ← (rl_15 hr :), ← (rl_17 hr :)] at hf3
    obtain ⟨EQ, E1, E2, E3, E4, E5, E6⟩ := pw_shoes (ix_0 hI) hp0 (rl_27 hr :) hf1 hf3
    have EQ2 : RL ((fun n => zc n 0 R1.2.1 (z.1 n)), (fun n => zc n 2 R1.2.2.1 (zc n 3 R1.2.2.2.1 (zc n 4 R1.2.2.2.2.1 (zc n 5 R1.2.2.2.2.2 (z.2.1 n))))), z.2.2.1, z.2.2.2.1, z.2.2.2.2.1, z.2.2.2.2.2.1, z.2.2.2.2.2.2.1, z.2.2.2.2.2.2.2) ((fun n => zc n 1 R2.2.1 (w.1 n)), (fun n => zc n 0 R2.2.2.1 (zc n 1 R2.2.2.2.1 (zc n 2 R2.2.2.2.2.1 (zc n 3 R2.2.2.2.2.2 (w.2.1 n))))), w.2.2) := ⟨(rl_0 hr :), (rl_1 hr :), (rl_2 hr :), (rl_3 hr :), (rl_4 hr :), E1, (rl_6 hr :), (rl_7 hr :), (E3 rfl), (E4 rfl), (E5 rfl), (E6 rfl), (rl_12 hr :), (rl_13 hr :), (rl_14 hr :), (rl_15 hr :), (rl_16 hr :), (rl_17 hr :), (rl_18 hr :), (rl_19 hr :), (rl_20 hr :), (rl_21 hr :), (rl_22 hr :), (rl_23 hr :), (rl_24 hr :), (rl_25 hr :), (rl_26 hr :), (rl_27 hr :), (rl_28 hr :), (rl_29 hr :), (CV_mono (rl_30 hr :) E2 (Int.le_refl _)), (rl_31 hr :), (rl_32 hr :), (rl_33 hr :)⟩
    refine zk_LMi (As := [.int (xs (x3 + (1 : Int32)).toNatClampNeg), .int (xs (x3 + (2 : Int32)).toNatClampNeg), .int (xs (x3 + (3 : Int32)).toNatClampNeg)]) (rest := []) hE hO hM2 ⟨hx, hb, hml, hown, ht⟩ (cwV 3 ht gl_22 rfl rfl rfl (by decide +kernel) ⟨Nat.le_of_ble_eq_true rfl, Nat.le_of_ble_eq_true rfl⟩) (va_recv hK hP (ci := 12) (q0 := 0) rfl rfl) hP hD hS hK hA rfl hl.1 (Nat.le_of_ble_eq_true rfl) dL_law_289 ⟨by show _ ≤ 600000; omega, by show _ ≤ 7302250; omega⟩ (fun H locs hP hD hS => ?_)
    refine lv_pop hx hb dL_law_292 rfl ?_
    refine lv_goto (tgt := 1544) hx hb dL_law_293 (by decide) ?_
    exact kk _ _ H locs ls _ _ hI2 hJ2 EQ2 (by omega) (by omega) hP hD hS (lv_sub hl [0, 1, 2, 3] rfl)
  · refine lv_aload_n hx hb dL_law_253 rfl (lv_at hl 1 rfl) ?_
    refine lv_aload_n hx hb dL_law_254 rfl (lv_at hl 0 rfl) ?_
    refine lv_iload_n hx hb dL_law_255 rfl (lv_at hl 3 rfl) ?_
    refine lv_iconst (v := (1 : Int32)) hx hb dL_law_256 (by decide) ?_
    refine lv_iadd hx hb dL_law_257 ?_
    refine va_sld hx hb hX hbl hbA hS (zl_in h3 hL (by decide)) dL_law_258 ?_
    refine lv_aload_n hx hb dL_law_259 rfl (lv_at hl 0 rfl) ?_
    refine lv_iload_n hx hb dL_law_260 rfl (lv_at hl 3 rfl) ?_
    refine lv_iconst (v := (2 : Int32)) hx hb dL_law_261 (by decide) ?_
    refine lv_iadd hx hb dL_law_262 ?_
    refine va_sld hx hb hX hbl hbA hS (zl_in h3 hL (by decide)) dL_law_263 ?_
    refine lv_aload_n hx hb dL_law_264 rfl (lv_at hl 0 rfl) ?_
    refine lv_iload_n hx hb dL_law_265 rfl (lv_at hl 3 rfl) ?_
    refine lv_iconst (v := (3 : Int32)) hx hb dL_law_266 (by decide) ?_
    refine lv_iadd hx hb dL_law_267 ?_
    refine va_sld hx hb hX hbl hbA hS (zl_in h3 hL (by decide)) dL_law_268 ?_
    obtain ⟨R1, hf1, hI2, hM1⟩ := K_X11_shoes_5 l D cs k H.size ad z hI (xs (x3 + (1 : Int32)).toNatClampNeg) (xs (x3 + (2 : Int32)).toNatClampNeg) (xs (x3 + (3 : Int32)).toNatClampNeg) hp0
    refine zk_LXi (As := [.int (xs (x3 + (1 : Int32)).toNatClampNeg), .int (xs (x3 + (2 : Int32)).toNatClampNeg), .int (xs (x3 + (3 : Int32)).toNatClampNeg)]) (rest := []) hE hO hM1 ⟨hx, hb, hml, hown, ht⟩ (cwV 3 ht gl_18 rfl rfl rfl (by decide +kernel) ⟨Nat.le_of_ble_eq_true rfl, Nat.le_of_ble_eq_true rfl⟩) (va_recv hK hP (ci := 11) (q0 := 44) rfl rfl) hP hD hS hK hA rfl hl.1 (Nat.le_of_ble_eq_true rfl) dL_law_269 ⟨by show _ ≤ 600000; omega, by show _ ≤ 7302250; omega⟩ (fun H locs hP hD hS => ?_)
    refine lv_pop hx hb dL_law_272 rfl ?_
    refine lv_aload_n hx hb dL_law_273 rfl (lv_at hl 2 rfl) ?_
    refine lv_aload_n hx hb dL_law_274 rfl (lv_at hl 0 rfl) ?_
    refine lv_iload_n hx hb dL_law_275 rfl (lv_at hl 3 rfl) ?_
    refine lv_iconst (v := (1 : Int32)) hx hb dL_law_276 (by decide) ?_
    refine lv_iadd hx hb dL_law_277 ?_
    refine va_sld hx hb hX hbl hbA hS (zl_in h3 hL (by decide)) dL_law_278 ?_
    refine lv_aload_n hx hb dL_law_279 rfl (lv_at hl 0 rfl) ?_
    refine lv_iload_n hx hb dL_law_280 rfl (lv_at hl 3 rfl) ?_
    refine lv_iconst (v := (2 : Int32)) hx hb dL_law_281 (by decide) ?_
    refine lv_iadd hx hb dL_law_282 ?_
    refine va_sld hx hb hX hbl hbA hS (zl_in h3 hL (by decide)) dL_law_283 ?_
    refine lv_aload_n hx hb dL_law_284 rfl (lv_at hl 0 rfl) ?_
    refine lv_iload_n hx hb dL_law_285 rfl (lv_at hl 3 rfl) ?_
    refine lv_iconst (v := (3 : Int32)) hx hb dL_law_286 (by decide) ?_
    refine lv_iadd hx hb dL_law_287 ?_
    refine va_sld hx hb hX hbl hbA hS (zl_in h3 hL (by decide)) dL_law_288 ?_
    obtain ⟨R2, hf2, hJ2, hM2⟩ := K_X12_shoes l D cs k H.size am w hJ (xs (x3 + (1 : Int32)).toNatClampNeg) (xs (x3 + (2 : Int32)).toNatClampNeg) (xs (x3 + (3 : Int32)).toNatClampNeg)
    have hf3 := hf2
    rw [← (rl_0 hr :), ← (rl_5 hr :), ← (rl_6 hr :), ← (rl_7 hr :), ← (rl_8 hr :), ← (rl_9 hr :), ← (rl_10 hr :), ← (rl_11 hr :), ← (rl_12 hr :), ← (rl_15 hr :), ← (rl_17 hr :)] at hf3
    obtain ⟨EQ, E1, E2, E3, E4, E5, E6⟩ := pw_shoes (ix_0 hI) hp0 (rl_28 hr :) hf1 hf3
    have EQ2 : RL ((fun n => zc n 0 R1.2.1 (z.1 n)), (fun n => zc n 2 R1.2.2.1 (zc n 3 R1.2.2.2.1 (zc n 4 R1.2.2.2.2.1 (zc n 5 R1.2.2.2.2.2 (z.2.1 n))))), z.2.2.1, z.2.2.2.1, z.2.2.2.2.1, z.2.2.2.2.2.1, z.2.2.2.2.2.2.1, z.2.2.2.2.2.2.2) ((fun n => zc n 1 R2.2.1 (w.1 n)), (fun n => zc n 0 R2.2.2.1 (zc n 1 R2.2.2.2.1 (zc n 2 R2.2.2.2.2.1 (zc n 3 R2.2.2.2.2.2 (w.2.1 n))))), w.2.2) := ⟨(rl_0 hr :), (rl_1 hr :), (rl_2 hr :), (rl_3 hr :), (rl_4 hr :), E1, (rl_6 hr :), (rl_7 hr :), (E3 rfl), (E4 rfl), (E5 rfl), (E6 rfl), (rl_12 hr :), (rl_13 hr :), (rl_14 hr :), (rl_15 hr :), (rl_16 hr :), (rl_17 hr :), (rl_18 hr :), (rl_19 hr :), (rl_20 hr :), (rl_21 hr :), (rl_22 hr :), (rl_23 hr :), (rl_24 hr :), (rl_25 hr :), (rl_26 hr :), (rl_27 hr :), (rl_28 hr :), (rl_29 hr :), (CV_mono (rl_30 hr :) E2 (Int.le_refl _)), (rl_31 hr :), (rl_32 hr :), (rl_33 hr :)⟩
    refine zk_LMi (As := [.int (xs (x3 + (1 : Int32)).toNatClampNeg), .int (xs (x3 + (2 : Int32)).toNatClampNeg), .int (xs (x3 + (3 : Int32)).toNatClampNeg)]) (rest := []) hE hO hM2 ⟨hx, hb, hml, hown, ht⟩ (cwV 3 ht gl_22 rfl rfl rfl (by decide +kernel) ⟨Nat.le_of_ble_eq_true rfl, Nat.le_of_ble_eq_true rfl⟩) (va_recv hK hP (ci := 12) (q0 := 0) rfl rfl) hP hD hS hK hA rfl hl.1 (Nat.le_of_ble_eq_true rfl) dL_law_289 ⟨by show _ ≤ 600000; omega, by show _ ≤ 7302250; omega⟩ (fun H locs hP hD hS => ?_)
    refine lv_pop hx hb dL_law_292 rfl ?_
    refine lv_goto (tgt := 1544) hx hb dL_law_293 (by decide) ?_
    exact kk _ _ H locs ls _ _ hI2 hJ2 EQ2 (by omega) (by omega) hP hD hS (lv_sub hl [0, 1, 2, 3] rfl)
theorem dL_law_296 : decode cL_law 296 = .ok (.aload_n 1, 1) := zo_43 zh_cL_law_14 16 rfl
theorem dL_law_297 : decode cL_law 297 = .ok (.aload_n 0, 1) := zo_42 zh_cL_law_14 17 rfl
theorem dL_law_298 : decode cL_law 298 = .ok (.iload_n 3, 1) := zo_29 zh_cL_law_14 18 rfl
theorem dL_law_299 : decode cL_law 299 = .ok (.iconst 1, 1) := zo_4 zh_cL_law_14 19 rfl
theorem zh_cL_law_15 : zck [96, 46, 42, 29, 5, 96, 46, 182, 0, 23, 87, 44, 42, 29, 4, 96, 46, 42, 29, 5, 96, 46] (zdu 300 cL_law.data.toList) = true := by decide +kernel
theorem dL_law_300 : decode cL_law 300 = .ok (.iadd, 1) := zo_96 zh_cL_law_15 0 rfl
theorem dL_law_301 : decode cL_law 301 = .ok (.iaload, 1) := zo_46 zh_cL_law_15 1 rfl
theorem dL_law_302 : decode cL_law 302 = .ok (.aload_n 0, 1) := zo_42 zh_cL_law_15 2 rfl
theorem dL_law_303 : decode cL_law 303 = .ok (.iload_n 3, 1) := zo_29 zh_cL_law_15 3 rfl
theorem dL_law_304 : decode cL_law 304 = .ok (.iconst 2, 1) := zo_5 zh_cL_law_15 4 rfl
theorem dL_law_305 : decode cL_law 305 = .ok (.iadd, 1) := zo_96 zh_cL_law_15 5 rfl
theorem dL_law_306 : decode cL_law 306 = .ok (.iaload, 1) := zo_46 zh_cL_law_15 6 rfl
theorem dL_law_307 : decode cL_law 307 = .ok (.invokevirtual 23, 3) := zo_182 zh_cL_law_15 7 rfl
theorem dL_law_310 : decode cL_law 310 = .ok (.pop, 1) := zo_87 zh_cL_law_15 10 rfl
theorem dL_law_311 : decode cL_law 311 = .ok (.aload_n 2, 1) := zo_44 zh_cL_law_15 11 rfl
theorem dL_law_312 : decode cL_law 312 = .ok (.aload_n 0, 1) := zo_42 zh_cL_law_15 12 rfl
theorem dL_law_313 : decode cL_law 313 = .ok (.iload_n 3, 1) := zo_29 zh_cL_law_15 13 rfl
theorem dL_law_314 : decode cL_law 314 = .ok (.iconst 1, 1) := zo_4 zh_cL_law_15 14 rfl
theorem dL_law_315 : decode cL_law 315 = .ok (.iadd, 1) := zo_96 zh_cL_law_15 15 rfl
theorem dL_law_316 : decode cL_law 316 = .ok (.iaload, 1) := zo_46 zh_cL_law_15 16 rfl
theorem dL_law_317 : decode cL_law 317 = .ok (.aload_n 0, 1) := zo_42 zh_cL_law_15 17 rfl
theorem dL_law_318 : decode cL_law 318 = .ok (.iload_n 3, 1) := zo_29 zh_cL_law_15 18 rfl
theorem dL_law_319 : decode cL_law 319 = .ok (.iconst 2, 1) := zo_5 zh_cL_law_15 19 rfl
theorem zh_cL_law_16 : zck [96, 46, 182, 0, 27, 87, 167, 4, 194, 43, 42, 29, 4, 96, 46, 42, 29, 5, 96, 46, 182, 0] (zdu 320 cL_law.data.toList) = true := by decide +kernel
theorem dL_law_320 : decode cL_law 320 = .ok (.iadd, 1) := zo_96 zh_cL_law_16 0 rfl
theorem dL_law_321 : decode cL_law 321 = .ok (.iaload, 1) := zo_46 zh_cL_law_16 1 rfl
theorem dL_law_322 : decode cL_law 322 = .ok (.invokevirtual 27, 3) := zo_182 zh_cL_law_16 2 rfl
theorem dL_law_325 : decode cL_law 325 = .ok (.pop, 1) := zo_87 zh_cL_law_16 5 rfl
theorem dL_law_326 : decode cL_law 326 = .ok (.goto 1218, 3) := zo_p167 zh_cL_law_16 6 1218 rfl rfl
set_option maxHeartbeats 8000000 in
set_option maxRecDepth 100000 in
theorem law_case_2 {p : Program} {l : Launch} {e : Env} {s : State} {m : MethodId} {below : List Frame} {meth : Method} {c : Code} {b L : Nat} {xs : Nat → Int32} {D : va_G} {cs : Nat → ClassId} {k : (Nat → Nat) × (Nat → Nat)} {ad am : Nat → Nat} (C0 : lw_At p s m meth c b L xs) (hK : va_K D classes (zT cs) s) (hO : zO s) (hE : zE k (fun q : Nat => s.heap.size ≤ q) s) (hL : L ≤ 3072) (x3 : Int32) (h3 : 0 ≤ x3.toInt ∧ x3.toInt + 6 ≤ (L : Int)) (z : ZT) (w : MT) (hI : IX ad cs z) (hJ : IM w) (hr : RL z w) (cells slots : Nat) (hc : cells + 2 ≤ 600000) (hs : slots + 122 ≤ 7302250) (H : Heap) (locs : List Loc) (ls : Array Slot) (hP : va_P D classes (WM am cs w ++ WX ad cs z) H) (hD : va_D (fun q : Nat => s.heap.size ≤ q) (WM am cs w ++ WX ad cs z)) (hS : va_S (fun q : Nat => s.heap.size ≤ q) s.heap H locs) (hl : lv_has ls 4 [(0, .ref b), (1, .ref (ad 0)), (2, .ref (am 41)), (3, .int x3)]) (kk : ∀ (z2 : ZT) (w2 : MT) (H : Heap) (locs : List Loc) (ls : Array Slot) (cells2 slots2 : Nat), IX ad cs z2 → IM w2 → RL z2 w2 → cells2 ≤ cells + 2 → slots2 ≤ slots + 122 → va_P D classes (WM am cs w2 ++ WX ad cs z2) H → va_D (fun q : Nat => s.heap.size ≤ q) (WM am cs w2 ++ WX ad cs z2) → va_S (fun q : Nat => s.heap.size ≤ q) s.heap H locs → lv_has ls 4 [(0, .ref b), (1, .ref (ad 0)), (2, .ref (am 41)), (3, .int x3)] → W p l e room_1 s m #[Value.ref b] below meth c H locs cells2 slots2 (lw_Z below #[Value.ref b] s) (F0 m 1544 ls [])) : W p l e room_1 s m #[Value.ref b] below meth c H locs cells slots (lw_Z below #[Value.ref b] s) (F0 m 296 ls []) := by
  obtain ⟨hx, hb, hret, hml, hown, hts, hX, hbl, hlocks, hgv⟩ := id C0
  have hA : ∀ q : Nat, s.heap.size ≤ q → (fun q : Nat => s.heap.size ≤ q) q := fun _ h => h
  have hbA : ¬ (fun q : Nat => s.heap.size ≤ q) b := Nat.not_le.mpr hbl
  have ht : ∀ w ∈ zW, w.before #[Value.ref b] s = true := fun w hw => hts w (List.mem_filter.mp hw).1
  refine lv_aload_n hx hb dL_law_296 rfl (lv_at hl 1 rfl) ?_
  refine lv_aload_n hx hb dL_law_297 rfl (lv_at hl 0 rfl) ?_
  refine lv_iload_n hx hb dL_law_298 rfl (lv_at hl 3 rfl) ?_
  refine lv_iconst (v := (1 : Int32)) hx hb dL_law_299 (by decide) ?_
  refine lv_iadd hx hb dL_law_300 ?_
  refine va_sld hx hb hX hbl hbA hS (zl_in h3 hL (by decide)) dL_law_301 ?_
  refine lv_aload_n hx hb dL_law_302 rfl (lv_at hl 0 rfl) ?_
  refine lv_iload_n hx hb dL_law_303 rfl (lv_at hl 3 rfl) ?_
  refine lv_iconst (v := (2 : Int32)) hx hb dL_law_304 (by decide) ?_
  refine lv_iadd hx hb dL_law_305 ?_
  refine va_sld hx hb hX hbl hbA hS (zl_in h3 hL (by decide)) dL_law_306 ?_
  obtain ⟨R1, hf1, hI2, hM1⟩ := K_X11_ofShoe l D cs k H.size ad z hI (xs (x3 + (1 : Int32)).toNatClampNeg) (xs (x3 + (2 : Int32)).toNatClampNeg)
  refine zk_LXi (As := [.int (xs (x3 + (1 : Int32)).toNatClampNeg), .int (xs (x3 + (2 : Int32)).toNatClampNeg)]) (rest := []) hE hO hM1 ⟨hx, hb, hml, hown, ht⟩ (cwV 2 ht gl_23 rfl rfl rfl (by decide +kernel) ⟨Nat.le_of_ble_eq_true rfl, Nat.le_of_ble_eq_true rfl⟩) (va_recv hK hP (ci := 11) (q0 := 44) rfl rfl) hP hD hS hK hA rfl hl.1 (Nat.le_of_ble_eq_true rfl) dL_law_307 ⟨by show _ ≤ 600000; omega, by show _ ≤ 7302250; omega⟩ (fun H locs hP hD hS => ?_)
  refine lv_pop hx hb dL_law_310 rfl ?_
  refine lv_aload_n hx hb dL_law_311 rfl (lv_at hl 2 rfl) ?_
  refine lv_aload_n hx hb dL_law_312 rfl (lv_at hl 0 rfl) ?_
  refine lv_iload_n hx hb dL_law_313 rfl (lv_at hl 3 rfl) ?_
  refine lv_iconst (v := (1 : Int32)) hx hb dL_law_314 (by decide) ?_
  refine lv_iadd hx hb dL_law_315 ?_
  refine va_sld hx hb hX hbl hbA hS (zl_in h3 hL (by decide)) dL_law_316 ?_
  refine lv_aload_n hx hb dL_law_317 rfl (lv_at hl 0 rfl) ?_
  refine lv_iload_n hx hb dL_law_318 rfl (lv_at hl 3 rfl) ?_
  refine lv_iconst (v := (2 : Int32)) hx hb dL_law_319 (by decide) ?_
  refine lv_iadd hx hb dL_law_320 ?_
  refine va_sld hx hb hX hbl hbA hS (zl_in h3 hL (by decide)) dL_law_321 ?_
  obtain ⟨R2, hf2, hJ2, hM2⟩ := K_X12_ofShoe l D cs k H.size am w hJ (xs (x3 + (1 : Int32)).toNatClampNeg) (xs (x3 + (2 : Int32)).toNatClampNeg)
  refine zk_LMi (As := [.int (xs (x3 + (1 : Int32)).toNatClampNeg), .int (xs (x3 + (2 : Int32)).toNatClampNeg)]) (rest := []) hE hO hM2 ⟨hx, hb, hml, hown, ht⟩ (cwV 2 ht gl_27 rfl rfl rfl (by decide +kernel) ⟨Nat.le_of_ble_eq_true rfl, Nat.le_of_ble_eq_true rfl⟩) (va_recv hK hP (ci := 12) (q0 := 0) rfl rfl) hP hD hS hK hA rfl hl.1 (Nat.le_of_ble_eq_true rfl) dL_law_322 ⟨by show _ ≤ 600000; omega, by show _ ≤ 7302250; omega⟩ (fun H locs hP hD hS => ?_)
  refine lv_pop hx hb dL_law_325 rfl ?_
  refine lv_goto (tgt := 1544) hx hb dL_law_326 (by decide) ?_
  exact kk _ _ H locs ls _ _ hI2 hJ2 ⟨(rl_0 hr :), (rl_1 hr :), (rl_2 hr :), (rl_3 hr :), (rl_4 hr :), (rl_5 hr :), (rl_6 hr :), (rl_7 hr :), (rl_8 hr :), (rl_9 hr :), (rl_10 hr :), (rl_11 hr :), (rl_12 hr :), (rl_13 hr :), (rl_14 hr :), (rl_15 hr :), (rl_16 hr :), (rl_17 hr :), (rl_18 hr :), (rl_19 hr :), (rl_20 hr :), (rl_21 hr :), (rl_22 hr :), (rl_23 hr :), (rl_24 hr :), (rl_25 hr :), (rl_26 hr :), (rl_27 hr :), (rl_28 hr :), (rl_29 hr :), (rl_30 hr :), (rl_31 hr :), (rl_32 hr :), (rl_33 hr :)⟩ (by omega) (by omega) hP hD hS (lv_sub hl [0, 1, 2, 3] rfl)
theorem dL_law_329 : decode cL_law 329 = .ok (.aload_n 1, 1) := zo_43 zh_cL_law_16 9 rfl
theorem dL_law_330 : decode cL_law 330 = .ok (.aload_n 0, 1) := zo_42 zh_cL_law_16 10 rfl
theorem dL_law_331 : decode cL_law 331 = .ok (.iload_n 3, 1) := zo_29 zh_cL_law_16 11 rfl
theorem dL_law_332 : decode cL_law 332 = .ok (.iconst 1, 1) := zo_4 zh_cL_law_16 12 rfl
theorem dL_law_333 : decode cL_law 333 = .ok (.iadd, 1) := zo_96 zh_cL_law_16 13 rfl
theorem dL_law_334 : decode cL_law 334 = .ok (.iaload, 1) := zo_46 zh_cL_law_16 14 rfl
theorem dL_law_335 : decode cL_law 335 = .ok (.aload_n 0, 1) := zo_42 zh_cL_law_16 15 rfl
theorem dL_law_336 : decode cL_law 336 = .ok (.iload_n 3, 1) := zo_29 zh_cL_law_16 16 rfl
theorem dL_law_337 : decode cL_law 337 = .ok (.iconst 2, 1) := zo_5 zh_cL_law_16 17 rfl
theorem dL_law_338 : decode cL_law 338 = .ok (.iadd, 1) := zo_96 zh_cL_law_16 18 rfl
theorem dL_law_339 : decode cL_law 339 = .ok (.iaload, 1) := zo_46 zh_cL_law_16 19 rfl
theorem zh_cL_law_17 : zck [182, 0, 28, 87, 44, 42, 29, 4, 96, 46, 42, 29, 5, 96, 46, 182, 0, 31, 87, 167, 4, 161] (zdu 340 cL_law.data.toList) = true := by decide +kernel
theorem dL_law_340 : decode cL_law 340 = .ok (.invokevirtual 28, 3) := zo_182 zh_cL_law_17 0 rfl
theorem dL_law_343 : decode cL_law 343 = .ok (.pop, 1) := zo_87 zh_cL_law_17 3 rfl
theorem dL_law_344 : decode cL_law 344 = .ok (.aload_n 2, 1) := zo_44 zh_cL_law_17 4 rfl
theorem dL_law_345 : decode cL_law 345 = .ok (.aload_n 0, 1) := zo_42 zh_cL_law_17 5 rfl
theorem dL_law_346 : decode cL_law 346 = .ok (.iload_n 3, 1) := zo_29 zh_cL_law_17 6 rfl
theorem dL_law_347 : decode cL_law 347 = .ok (.iconst 1, 1) := zo_4 zh_cL_law_17 7 rfl
theorem dL_law_348 : decode cL_law 348 = .ok (.iadd, 1) := zo_96 zh_cL_law_17 8 rfl
theorem dL_law_349 : decode cL_law 349 = .ok (.iaload, 1) := zo_46 zh_cL_law_17 9 rfl
theorem dL_law_350 : decode cL_law 350 = .ok (.aload_n 0, 1) := zo_42 zh_cL_law_17 10 rfl
theorem dL_law_351 : decode cL_law 351 = .ok (.iload_n 3, 1) := zo_29 zh_cL_law_17 11 rfl
theorem dL_law_352 : decode cL_law 352 = .ok (.iconst 2, 1) := zo_5 zh_cL_law_17 12 rfl
theorem dL_law_353 : decode cL_law 353 = .ok (.iadd, 1) := zo_96 zh_cL_law_17 13 rfl
theorem dL_law_354 : decode cL_law 354 = .ok (.iaload, 1) := zo_46 zh_cL_law_17 14 rfl
theorem dL_law_355 : decode cL_law 355 = .ok (.invokevirtual 31, 3) := zo_182 zh_cL_law_17 15 rfl
theorem dL_law_358 : decode cL_law 358 = .ok (.pop, 1) := zo_87 zh_cL_law_17 18 rfl
theorem dL_law_359 : decode cL_law 359 = .ok (.goto 1185, 3) := zo_p167 zh_cL_law_17 19 1185 rfl rfl
set_option maxHeartbeats 8000000 in
set_option maxRecDepth 100000 in
theorem law_case_3 {p : Program} {l : Launch} {e : Env} {s : State} {m : MethodId} {below : List Frame} {meth : Method} {c : Code} {b L : Nat} {xs : Nat → Int32} {D : va_G} {cs : Nat → ClassId} {k : (Nat → Nat) × (Nat → Nat)} {ad am : Nat → Nat} (C0 : lw_At p s m meth c b L xs) (hK : va_K D classes (zT cs) s) (hO : zO s) (hE : zE k (fun q : Nat => s.heap.size ≤ q) s) (hL : L ≤ 3072) (x3 : Int32) (h3 : 0 ≤ x3.toInt ∧ x3.toInt + 6 ≤ (L : Int)) (z : ZT) (w : MT) (hI : IX ad cs z) (hJ : IM w) (hr : RL z w) (cells slots : Nat) (hc : cells + 2 ≤ 600000) (hs : slots + 122 ≤ 7302250) (H : Heap) (locs : List Loc) (ls : Array Slot) (hP : va_P D classes (WM am cs w ++ WX ad cs z) H) (hD : va_D (fun q : Nat => s.heap.size ≤ q) (WM am cs w ++ WX ad cs z)) (hS : va_S (fun q : Nat => s.heap.size ≤ q) s.heap H locs) (hl : lv_has ls 4 [(0, .ref b), (1, .ref (ad 0)), (2, .ref (am 41)), (3, .int x3)]) (kk : ∀ (z2 : ZT) (w2 : MT) (H : Heap) (locs : List Loc) (ls : Array Slot) (cells2 slots2 : Nat), IX ad cs z2 → IM w2 → RL z2 w2 → cells2 ≤ cells + 2 → slots2 ≤ slots + 122 → va_P D classes (WM am cs w2 ++ WX ad cs z2) H → va_D (fun q : Nat => s.heap.size ≤ q) (WM am cs w2 ++ WX ad cs z2) → va_S (fun q : Nat => s.heap.size ≤ q) s.heap H locs → lv_has ls 4 [(0, .ref b), (1, .ref (ad 0)), (2, .ref (am 41)), (3, .int x3)] → W p l e room_1 s m #[Value.ref b] below meth c H locs cells2 slots2 (lw_Z below #[Value.ref b] s) (F0 m 1544 ls [])) : W p l e room_1 s m #[Value.ref b] below meth c H locs cells slots (lw_Z below #[Value.ref b] s) (F0 m 329 ls []) := by
  obtain ⟨hx, hb, hret, hml, hown, hts, hX, hbl, hlocks, hgv⟩ := id C0
  have hA : ∀ q : Nat, s.heap.size ≤ q → (fun q : Nat => s.heap.size ≤ q) q := fun _ h => h
  have hbA : ¬ (fun q : Nat => s.heap.size ≤ q) b := Nat.not_le.mpr hbl
  have ht : ∀ w ∈ zW, w.before #[Value.ref b] s = true := fun w hw => hts w (List.mem_filter.mp hw).1
  refine lv_aload_n hx hb dL_law_329 rfl (lv_at hl 1 rfl) ?_
  refine lv_aload_n hx hb dL_law_330 rfl (lv_at hl 0 rfl) ?_
  refine lv_iload_n hx hb dL_law_331 rfl (lv_at hl 3 rfl) ?_
  refine lv_iconst (v := (1 : Int32)) hx hb dL_law_332 (by decide) ?_
  refine lv_iadd hx hb dL_law_333 ?_
  refine va_sld hx hb hX hbl hbA hS (zl_in h3 hL (by decide)) dL_law_334 ?_
  refine lv_aload_n hx hb dL_law_335 rfl (lv_at hl 0 rfl) ?_
  refine lv_iload_n hx hb dL_law_336 rfl (lv_at hl 3 rfl) ?_
  refine lv_iconst (v := (2 : Int32)) hx hb dL_law_337 (by decide) ?_
  refine lv_iadd hx hb dL_law_338 ?_
  refine va_sld hx hb hX hbl hbA hS (zl_in h3 hL (by decide)) dL_law_339 ?_
  obtain ⟨R1, hf1, hI2, hM1⟩ := K_X11_moveShoe l D cs k H.size ad z hI (xs (x3 + (1 : Int32)).toNatClampNeg) (xs (x3 + (2 : Int32)).toNatClampNeg)
  refine zk_LXi (As := [.int (xs (x3 + (1 : Int32)).toNatClampNeg), .int (xs (x3 + (2 : Int32)).toNatClampNeg)]) (rest := []) hE hO hM1 ⟨hx, hb, hml, hown, ht⟩ (cwV 2 ht gl_28 rfl rfl rfl (by decide +kernel) ⟨Nat.le_of_ble_eq_true rfl, Nat.le_of_ble_eq_true rfl⟩) (va_recv hK hP (ci := 11) (q0 := 44) rfl rfl) hP hD hS hK hA rfl hl.1 (Nat.le_of_ble_eq_true rfl) dL_law_340 ⟨by show _ ≤ 600000; omega, by show _ ≤ 7302250; omega⟩ (fun H locs hP hD hS => ?_)
  refine lv_pop hx hb dL_law_343 rfl ?_
  refine lv_aload_n hx hb dL_law_344 rfl (lv_at hl 2 rfl) ?_
  refine lv_aload_n hx hb dL_law_345 rfl (lv_at hl 0 rfl) ?_
  refine lv_iload_n hx hb dL_law_346 rfl (lv_at hl 3 rfl) ?_
  refine lv_iconst (v := (1 : Int32)) hx hb dL_law_347 (by decide) ?_
  refine lv_iadd hx hb dL_law_348 ?_
  refine va_sld hx hb hX hbl hbA hS (zl_in h3 hL (by decide)) dL_law_349 ?_
  refine lv_aload_n hx hb dL_law_350 rfl (lv_at hl 0 rfl) ?_
  refine lv_iload_n hx hb dL_law_351 rfl (lv_at hl 3 rfl) ?_
  refine lv_iconst (v := (2 : Int32)) hx hb dL_law_352 (by decide) ?_
  refine lv_iadd hx hb dL_law_353 ?_
  refine va_sld hx hb hX hbl hbA hS (zl_in h3 hL (by decide)) dL_law_354 ?_
  obtain ⟨R2, hf2, hJ2, hM2⟩ := K_X12_moveShoe l D cs k H.size am w hJ (xs (x3 + (1 : Int32)).toNatClampNeg) (xs (x3 + (2 : Int32)).toNatClampNeg)
  have hf3 := hf2
  rw [← (rl_0 hr :), ← (rl_5 hr :), ← (rl_6 hr :), ← (rl_7 hr :), ← (rl_11 hr :), ← (rl_12 hr :), ← (rl_15 hr :), ← (rl_17 hr :), ← (rl_18 hr :), ← (rl_19 hr :), ← (rl_20 hr :), ← (rl_21 hr :)] at hf3
  obtain ⟨EQ, E1, E2, E3, E4, E5, E6, E7, E8, E9, E10⟩ := pw_moveShoe rfl (ix_2 hI) (ix_0 hI) (ix_6 hI) (by rw [(rl_17 hr :)]; exact (rl_29 hr :)) ⟨(im_7 hJ).1, (ix_7 hI).2⟩ (rl_30 hr :) hf1 hf3
  have EQ2 : RL ((fun n => zc n 30 R1.2.2.1 (zc n 31 R1.2.2.2.1 (z.1 n))), (fun n => zc n 5 R1.2.1 (zc n 23 R1.2.2.2.2.1 (zc n 24 R1.2.2.2.2.2.1 (zc n 25 R1.2.2.2.2.2.2.1 (zc n 26 R1.2.2.2.2.2.2.2.1 (zc n 31 R1.2.2.2.2.2.2.2.2.1 (zc n 34 R1.2.2.2.2.2.2.2.2.2 (z.2.1 n)))))))), z.2.2.1, z.2.2.2.1, z.2.2.2.2.1, z.2.2.2.2.2.1, z.2.2.2.2.2.2.1, z.2.2.2.2.2.2.2) ((fun n => zc n 7 R2.2.1 (zc n 8 R2.2.2.1 (w.1 n))), (fun n => zc n 3 R2.2.2.2.1 (zc n 12 R2.2.2.2.2.1 (zc n 15 R2.2.2.2.2.2.1 (zc n 20 R2.2.2.2.2.2.2.1 (zc n 21 R2.2.2.2.2.2.2.2.1 (zc n 22 R2.2.2.2.2.2.2.2.2.1 (zc n 23 R2.2.2.2.2.2.2.2.2.2 (w.2.1 n)))))))), w.2.2) := ⟨(rl_0 hr :), (rl_1 hr :), (rl_2 hr :), (rl_3 hr :), (rl_4 hr :), (rl_5 hr :), (rl_6 hr :), (rl_7 hr :), (rl_8 hr :), (rl_9 hr :), (rl_10 hr :), (E8 rfl), (rl_12 hr :), (rl_13 hr :), (rl_14 hr :), (rl_15 hr :), (rl_16 hr :), E1, E3, E4, E5, E6, (rl_22 hr :), (rl_23 hr :), (rl_24 hr :), (rl_25 hr :), (rl_26 hr :), (rl_27 hr :), (rl_28 hr :), E2, E7, (E9 (rl_31 hr :)), (E10 (rl_32 hr :)), (rl_33 hr :)⟩
  refine zk_LMi (As := [.int (xs (x3 + (1 : Int32)).toNatClampNeg), .int (xs (x3 + (2 : Int32)).toNatClampNeg)]) (rest := []) hE hO hM2 ⟨hx, hb, hml, hown, ht⟩ (cwV 2 ht gl_31 rfl rfl rfl (by decide +kernel) ⟨Nat.le_of_ble_eq_true rfl, Nat.le_of_ble_eq_true rfl⟩) (va_recv hK hP (ci := 12) (q0 := 0) rfl rfl) hP hD hS hK hA rfl hl.1 (Nat.le_of_ble_eq_true rfl) dL_law_355 ⟨by show _ ≤ 600000; omega, by show _ ≤ 7302250; omega⟩ (fun H locs hP hD hS => ?_)
  refine lv_pop hx hb dL_law_358 rfl ?_
  refine lv_goto (tgt := 1544) hx hb dL_law_359 (by decide) ?_
  exact kk _ _ H locs ls _ _ hI2 hJ2 EQ2 (by omega) (by omega) hP hD hS (lv_sub hl [0, 1, 2, 3] rfl)
theorem zh_cL_law_18 : zck [4, 161, 43, 42, 29, 4, 96, 46, 42, 29, 5, 96, 46, 42, 29, 6, 96, 46, 42, 29, 7, 96] (zdu 360 cL_law.data.toList) = true := by decide +kernel
theorem dL_law_362 : decode cL_law 362 = .ok (.aload_n 1, 1) := zo_43 zh_cL_law_18 2 rfl
theorem dL_law_363 : decode cL_law 363 = .ok (.aload_n 0, 1) := zo_42 zh_cL_law_18 3 rfl
theorem dL_law_364 : decode cL_law 364 = .ok (.iload_n 3, 1) := zo_29 zh_cL_law_18 4 rfl
theorem dL_law_365 : decode cL_law 365 = .ok (.iconst 1, 1) := zo_4 zh_cL_law_18 5 rfl
theorem dL_law_366 : decode cL_law 366 = .ok (.iadd, 1) := zo_96 zh_cL_law_18 6 rfl
theorem dL_law_367 : decode cL_law 367 = .ok (.iaload, 1) := zo_46 zh_cL_law_18 7 rfl
theorem dL_law_368 : decode cL_law 368 = .ok (.aload_n 0, 1) := zo_42 zh_cL_law_18 8 rfl
theorem dL_law_369 : decode cL_law 369 = .ok (.iload_n 3, 1) := zo_29 zh_cL_law_18 9 rfl
theorem dL_law_370 : decode cL_law 370 = .ok (.iconst 2, 1) := zo_5 zh_cL_law_18 10 rfl
theorem dL_law_371 : decode cL_law 371 = .ok (.iadd, 1) := zo_96 zh_cL_law_18 11 rfl
theorem dL_law_372 : decode cL_law 372 = .ok (.iaload, 1) := zo_46 zh_cL_law_18 12 rfl
theorem dL_law_373 : decode cL_law 373 = .ok (.aload_n 0, 1) := zo_42 zh_cL_law_18 13 rfl
theorem dL_law_374 : decode cL_law 374 = .ok (.iload_n 3, 1) := zo_29 zh_cL_law_18 14 rfl
theorem dL_law_375 : decode cL_law 375 = .ok (.iconst 3, 1) := zo_6 zh_cL_law_18 15 rfl
theorem dL_law_376 : decode cL_law 376 = .ok (.iadd, 1) := zo_96 zh_cL_law_18 16 rfl
theorem dL_law_377 : decode cL_law 377 = .ok (.iaload, 1) := zo_46 zh_cL_law_18 17 rfl
theorem dL_law_378 : decode cL_law 378 = .ok (.aload_n 0, 1) := zo_42 zh_cL_law_18 18 rfl
theorem dL_law_379 : decode cL_law 379 = .ok (.iload_n 3, 1) := zo_29 zh_cL_law_18 19 rfl
theorem zh_cL_law_19 : zck [7, 96, 46, 182, 0, 32, 87, 44, 42, 29, 4, 96, 46, 42, 29, 5, 96, 46, 42, 29, 6, 96] (zdu 380 cL_law.data.toList) = true := by decide +kernel
theorem dL_law_380 : decode cL_law 380 = .ok (.iconst 4, 1) := zo_7 zh_cL_law_19 0 rfl
theorem dL_law_381 : decode cL_law 381 = .ok (.iadd, 1) := zo_96 zh_cL_law_19 1 rfl
theorem dL_law_382 : decode cL_law 382 = .ok (.iaload, 1) := zo_46 zh_cL_law_19 2 rfl
theorem dL_law_383 : decode cL_law 383 = .ok (.invokevirtual 32, 3) := zo_182 zh_cL_law_19 3 rfl
theorem dL_law_386 : decode cL_law 386 = .ok (.pop, 1) := zo_87 zh_cL_law_19 6 rfl
theorem dL_law_387 : decode cL_law 387 = .ok (.aload_n 2, 1) := zo_44 zh_cL_law_19 7 rfl
theorem dL_law_388 : decode cL_law 388 = .ok (.aload_n 0, 1) := zo_42 zh_cL_law_19 8 rfl
theorem dL_law_389 : decode cL_law 389 = .ok (.iload_n 3, 1) := zo_29 zh_cL_law_19 9 rfl
theorem dL_law_390 : decode cL_law 390 = .ok (.iconst 1, 1) := zo_4 zh_cL_law_19 10 rfl
theorem dL_law_391 : decode cL_law 391 = .ok (.iadd, 1) := zo_96 zh_cL_law_19 11 rfl
theorem dL_law_392 : decode cL_law 392 = .ok (.iaload, 1) := zo_46 zh_cL_law_19 12 rfl
theorem dL_law_393 : decode cL_law 393 = .ok (.aload_n 0, 1) := zo_42 zh_cL_law_19 13 rfl
theorem dL_law_394 : decode cL_law 394 = .ok (.iload_n 3, 1) := zo_29 zh_cL_law_19 14 rfl
theorem dL_law_395 : decode cL_law 395 = .ok (.iconst 2, 1) := zo_5 zh_cL_law_19 15 rfl
theorem dL_law_396 : decode cL_law 396 = .ok (.iadd, 1) := zo_96 zh_cL_law_19 16 rfl
theorem dL_law_397 : decode cL_law 397 = .ok (.iaload, 1) := zo_46 zh_cL_law_19 17 rfl
theorem dL_law_398 : decode cL_law 398 = .ok (.aload_n 0, 1) := zo_42 zh_cL_law_19 18 rfl
theorem dL_law_399 : decode cL_law 399 = .ok (.iload_n 3, 1) := zo_29 zh_cL_law_19 19 rfl
theorem zh_cL_law_20 : zck [6, 96, 46, 42, 29, 7, 96, 46, 182, 0, 35, 87, 167, 4, 108, 43, 42, 29, 4, 96, 46, 42] (zdu 400 cL_law.data.toList) = true := by decide +kernel
theorem dL_law_400 : decode cL_law 400 = .ok (.iconst 3, 1) := zo_6 zh_cL_law_20 0 rfl
theorem dL_law_401 : decode cL_law 401 = .ok (.iadd, 1) := zo_96 zh_cL_law_20 1 rfl
theorem dL_law_402 : decode cL_law 402 = .ok (.iaload, 1) := zo_46 zh_cL_law_20 2 rfl
theorem dL_law_403 : decode cL_law 403 = .ok (.aload_n 0, 1) := zo_42 zh_cL_law_20 3 rfl
theorem dL_law_404 : decode cL_law 404 = .ok (.iload_n 3, 1) := zo_29 zh_cL_law_20 4 rfl
theorem dL_law_405 : decode cL_law 405 = .ok (.iconst 4, 1) := zo_7 zh_cL_law_20 5 rfl
theorem dL_law_406 : decode cL_law 406 = .ok (.iadd, 1) := zo_96 zh_cL_law_20 6 rfl
theorem dL_law_407 : decode cL_law 407 = .ok (.iaload, 1) := zo_46 zh_cL_law_20 7 rfl
theorem dL_law_408 : decode cL_law 408 = .ok (.invokevirtual 35, 3) := zo_182 zh_cL_law_20 8 rfl
theorem dL_law_411 : decode cL_law 411 = .ok (.pop, 1) := zo_87 zh_cL_law_20 11 rfl
theorem dL_law_412 : decode cL_law 412 = .ok (.goto 1132, 3) := zo_p167 zh_cL_law_20 12 1132 rfl rfl
set_option maxHeartbeats 8000000 in
set_option maxRecDepth 100000 in
theorem law_case_4 {p : Program} {l : Launch} {e : Env} {s : State} {m : MethodId} {below : List Frame} {meth : Method} {c : Code} {b L : Nat} {xs : Nat → Int32} {D : va_G} {cs : Nat → ClassId} {k : (Nat → Nat) × (Nat → Nat)} {ad am : Nat → Nat} (C0 : lw_At p s m meth c b L xs) (hK : va_K D classes (zT cs) s) (hO : zO s) (hE : zE k (fun q : Nat => s.heap.size ≤ q) s) (hL : L ≤ 3072) (x3 : Int32) (h3 : 0 ≤ x3.toInt ∧ x3.toInt + 6 ≤ (L : Int)) (z : ZT) (w : MT) (hI : IX ad cs z) (hJ : IM w) (hr : RL z w) (cells slots : Nat) (hc : cells + 2 ≤ 600000) (hs : slots + 122 ≤ 7302250) (H : Heap) (locs : List Loc) (ls : Array Slot) (hP : va_P D classes (WM am cs w ++ WX ad cs z) H) (hD : va_D (fun q : Nat => s.heap.size ≤ q) (WM am cs w ++ WX ad cs z)) (hS : va_S (fun q : Nat => s.heap.size ≤ q) s.heap H locs) (hl : lv_has ls 4 [(0, .ref b), (1, .ref (ad 0)), (2, .ref (am 41)), (3, .int x3)]) (kk : ∀ (z2 : ZT) (w2 : MT) (H : Heap) (locs : List Loc) (ls : Array Slot) (cells2 slots2 : Nat), IX ad cs z2 → IM w2 → RL z2 w2 → cells2 ≤ cells + 2 → slots2 ≤ slots + 122 → va_P D classes (WM am cs w2 ++ WX ad cs z2) H → va_D (fun q : Nat => s.heap.size ≤ q) (WM am cs w2 ++ WX ad cs z2) → va_S (fun q : Nat => s.heap.size ≤ q) s.heap H locs → lv_has ls 4 [(0, .ref b), (1, .ref (ad 0)), (2, .ref (am 41)), (3, .int x3)] → W p l e room_1 s m #[Value.ref b] below meth c H locs cells2 slots2 (lw_Z below #[Value.ref b] s) (F0 m 1544 ls [])) : W p l e room_1 s m #[Value.ref b] below meth c H locs cells slots (lw_Z below #[Value.ref b] s) (F0 m 362 ls []) := by
  obtain ⟨hx, hb, hret, hml, hown, hts, hX, hbl, hlocks, hgv⟩ := id C0
  have hA : ∀ q : Nat, s.heap.size ≤ q → (fun q : Nat => s.heap.size ≤ q) q := fun _ h => h
  have hbA : ¬ (fun q : Nat => s.heap.size ≤ q) b := Nat.not_le.mpr hbl
  have ht : ∀ w ∈ zW, w.before #[Value.ref b] s = true := fun w hw => hts w (List.mem_filter.mp hw).1
  refine lv_aload_n hx hb dL_law_362 rfl (lv_at hl 1 rfl) ?_
  refine lv_aload_n hx hb dL_law_363 rfl (lv_at hl 0 rfl) ?_
  refine lv_iload_n hx hb dL_law_364 rfl (lv_at hl 3 rfl) ?_
  refine lv_iconst (v := (1 : Int32)) hx hb dL_law_365 (by decide) ?_
  refine lv_iadd hx hb dL_law_366 ?_
  refine va_sld hx hb hX hbl hbA hS (zl_in h3 hL (by decide)) dL_law_367 ?_
  refine lv_aload_n hx hb dL_law_368 rfl (lv_at hl 0 rfl) ?_
  refine lv_iload_n hx hb dL_law_369 rfl (lv_at hl 3 rfl) ?_
  refine lv_iconst (v := (2 : Int32)) hx hb dL_law_370 (by decide) ?_
  refine lv_iadd hx hb dL_law_371 ?_
  refine va_sld hx hb hX hbl hbA hS (zl_in h3 hL (by decide)) dL_law_372 ?_
  refine lv_aload_n hx hb dL_law_373 rfl (lv_at hl 0 rfl) ?_
  refine lv_iload_n hx hb dL_law_374 rfl (lv_at hl 3 rfl) ?_
  refine lv_iconst (v := (3 : Int32)) hx hb dL_law_375 (by decide) ?_
  refine lv_iadd hx hb dL_law_376 ?_
  refine va_sld hx hb hX hbl hbA hS (zl_in h3 hL (by decide)) dL_law_377 ?_
  refine lv_aload_n hx hb dL_law_378 rfl (lv_at hl 0 rfl) ?_
  refine lv_iload_n hx hb dL_law_379 rfl (lv_at hl 3 rfl) ?_
  refine lv_iconst (v := (4 : Int32)) hx hb dL_law_380 (by decide) ?_
  refine lv_iadd hx hb dL_law_381 ?_
  refine va_sld hx hb hX hbl hbA hS (zl_in h3 hL (by decide)) dL_law_382 ?_
  obtain ⟨R1, hf1, hI2, hM1⟩ := K_X11_bound l D cs k H.size ad z hI (xs (x3 + (1 : Int32)).toNatClampNeg) (xs (x3 + (2 : Int32)).toNatClampNeg) (xs (x3 + (3 : Int32)).toNatClampNeg) (xs (x3 + (4 : Int32)).toNatClampNeg)
  refine zk_LXi (As := [.int (xs (x3 + (1 : Int32)).toNatClampNeg), .int (xs (x3 + (2 : Int32)).toNatClampNeg), .int (xs (x3 + (3 : Int32)).toNatClampNeg), .int (xs (x3 + (4 : Int32)).toNatClampNeg)]) (rest := []) hE hO hM1 ⟨hx, hb, hml, hown, ht⟩ (cwV 4 ht gl_32 rfl rfl rfl (by decide +kernel) ⟨Nat.le_of_ble_eq_true rfl, Nat.le_of_ble_eq_true rfl⟩) (va_recv hK hP (ci := 11) (q0 := 44) rfl rfl) hP hD hS hK hA rfl hl.1 (Nat.le_of_ble_eq_true rfl) dL_law_383 ⟨by show _ ≤ 600000; omega, by show _ ≤ 7302250; omega⟩ (fun H locs hP hD hS => ?_)
  refine lv_pop hx hb dL_law_386 rfl ?_
  refine lv_aload_n hx hb dL_law_387 rfl (lv_at hl 2 rfl) ?_
  refine lv_aload_n hx hb dL_law_388 rfl (lv_at hl 0 rfl) ?_
  refine lv_iload_n hx hb dL_law_389 rfl (lv_at hl 3 rfl) ?_
  refine lv_iconst (v := (1 : Int32)) hx hb dL_law_390 (by decide) ?_
  refine lv_iadd hx hb dL_law_391 ?_
  refine va_sld hx hb hX hbl hbA hS (zl_in h3 hL (by decide)) dL_law_392 ?_
  refine lv_aload_n hx hb dL_law_393 rfl (lv_at hl 0 rfl) ?_
  refine lv_iload_n hx hb dL_law_394 rfl (lv_at hl 3 rfl) ?_
  refine lv_iconst (v := (2 : Int32)) hx hb dL_law_395 (by decide) ?_
  refine lv_iadd hx hb dL_law_396 ?_
  refine va_sld hx hb hX hbl hbA hS (zl_in h3 hL (by decide)) dL_law_397 ?_
  refine lv_aload_n hx hb dL_law_398 rfl (lv_at hl 0 rfl) ?_
  refine lv_iload_n hx hb dL_law_399 rfl (lv_at hl 3 rfl) ?_
  refine lv_iconst (v := (3 : Int32)) hx hb dL_law_400 (by decide) ?_
  refine lv_iadd hx hb dL_law_401 ?_
  refine va_sld hx hb hX hbl hbA hS (zl_in h3 hL (by decide)) dL_law_402 ?_
  refine lv_aload_n hx hb dL_law_403 rfl (lv_at hl 0 rfl) ?_
  refine lv_iload_n hx hb dL_law_404 rfl (lv_at hl 3 rfl) ?_
  refine lv_iconst (v := (4 : Int32)) hx hb dL_law_405 (by decide) ?_
  refine lv_iadd hx hb dL_law_406 ?_
  refine va_sld hx hb hX hbl hbA hS (zl_in h3 hL (by decide)) dL_law_407 ?_
  obtain ⟨R2, hf2, hJ2, hM2⟩ := K_X12_bound l D cs k H.size am w hJ (xs (x3 + (1 : Int32)).toNatClampNeg) (xs (x3 + (2 : Int32)).toNatClampNeg) (xs (x3 + (3 : Int32)).toNatClampNeg) (xs (x3 + (4 : Int32)).toNatClampNeg)
  refine zk_LMi (As := [.int (xs (x3 + (1 : Int32)).toNatClampNeg), .int (xs (x3 + (2 : Int32)).toNatClampNeg), .int (xs (x3 + (3 : Int32)).toNatClampNeg), .int (xs (x3 + (4 : Int32)).toNatClampNeg)]) (rest := []) hE hO hM2 ⟨hx, hb, hml, hown, ht⟩ (cwV 4 ht gl_35 rfl rfl rfl (by decide +kernel) ⟨Nat.le_of_ble_eq_true rfl, Nat.le_of_ble_eq_true rfl⟩) (va_recv hK hP (ci := 12) (q0 := 0) rfl rfl) hP hD hS hK hA rfl hl.1 (Nat.le_of_ble_eq_true rfl) dL_law_408 ⟨by show _ ≤ 600000; omega, by show _ ≤ 7302250; omega⟩ (fun H locs hP hD hS => ?_)
  refine lv_pop hx hb dL_law_411 rfl ?_
  refine lv_goto (tgt := 1544) hx hb dL_law_412 (by decide) ?_
  exact kk _ _ H locs ls _ _ hI2 hJ2 ⟨(rl_0 hr :), (rl_1 hr :), (rl_2 hr :), (rl_3 hr :), (rl_4 hr :), (rl_5 hr :), (rl_6 hr :), (rl_7 hr :), (rl_8 hr :), (rl_9 hr :), (rl_10 hr :), (rl_11 hr :), (rl_12 hr :), (rl_13 hr :), (rl_14 hr :), (rl_15 hr :), (rl_16 hr :), (rl_17 hr :), (rl_18 hr :), (rl_19 hr :), (rl_20 hr :), (rl_21 hr :), (rl_22 hr :), (rl_23 hr :), (rl_24 hr :), (rl_25 hr :), (rl_26 hr :), (rl_27 hr :), (rl_28 hr :), (rl_29 hr :), (rl_30 hr :), (rl_31 hr :), (rl_32 hr :), (rl_33 hr :)⟩ (by omega) (by omega) hP hD hS (lv_sub hl [0, 1, 2, 3] rfl)
theorem dL_law_415 : decode cL_law 415 = .ok (.aload_n 1, 1) := zo_43 zh_cL_law_20 15 rfl
theorem dL_law_416 : decode cL_law 416 = .ok (.aload_n 0, 1) := zo_42 zh_cL_law_20 16 rfl
theorem dL_law_417 : decode cL_law 417 = .ok (.iload_n 3, 1) := zo_29 zh_cL_law_20 17 rfl
theorem dL_law_418 : decode cL_law 418 = .ok (.iconst 1, 1) := zo_4 zh_cL_law_20 18 rfl
theorem dL_law_419 : decode cL_law 419 = .ok (.iadd, 1) := zo_96 zh_cL_law_20 19 rfl
theorem zh_cL_law_21 : zck [46, 42, 29, 5, 96, 46, 42, 29, 6, 96, 46, 182, 0, 36, 87, 44, 42, 29, 4, 96, 46, 42] (zdu 420 cL_law.data.toList) = true := by decide +kernel
theorem dL_law_420 : decode cL_law 420 = .ok (.iaload, 1) := zo_46 zh_cL_law_21 0 rfl
theorem dL_law_421 : decode cL_law 421 = .ok (.aload_n 0, 1) := zo_42 zh_cL_law_21 1 rfl
theorem dL_law_422 : decode cL_law 422 = .ok (.iload_n 3, 1) := zo_29 zh_cL_law_21 2 rfl
theorem dL_law_423 : decode cL_law 423 = .ok (.iconst 2, 1) := zo_5 zh_cL_law_21 3 rfl
theorem dL_law_424 : decode cL_law 424 = .ok (.iadd, 1) := zo_96 zh_cL_law_21 4 rfl
theorem dL_law_425 : decode cL_law 425 = .ok (.iaload, 1) := zo_46 zh_cL_law_21 5 rfl
theorem dL_law_426 : decode cL_law 426 = .ok (.aload_n 0, 1) := zo_42 zh_cL_law_21 6 rfl
theorem dL_law_427 : decode cL_law 427 = .ok (.iload_n 3, 1) := zo_29 zh_cL_law_21 7 rfl
theorem dL_law_428 : decode cL_law 428 = .ok (.iconst 3, 1) := zo_6 zh_cL_law_21 8 rfl
theorem dL_law_429 : decode cL_law 429 = .ok (.iadd, 1) := zo_96 zh_cL_law_21 9 rfl
theorem dL_law_430 : decode cL_law 430 = .ok (.iaload, 1) := zo_46 zh_cL_law_21 10 rfl
theorem dL_law_431 : decode cL_law 431 = .ok (.invokevirtual 36, 3) := zo_182 zh_cL_law_21 11 rfl
theorem dL_law_434 : decode cL_law 434 = .ok (.pop, 1) := zo_87 zh_cL_law_21 14 rfl
theorem dL_law_435 : decode cL_law 435 = .ok (.aload_n 2, 1) := zo_44 zh_cL_law_21 15 rfl
theorem dL_law_436 : decode cL_law 436 = .ok (.aload_n 0, 1) := zo_42 zh_cL_law_21 16 rfl
theorem dL_law_437 : decode cL_law 437 = .ok (.iload_n 3, 1) := zo_29 zh_cL_law_21 17 rfl
theorem dL_law_438 : decode cL_law 438 = .ok (.iconst 1, 1) := zo_4 zh_cL_law_21 18 rfl
theorem dL_law_439 : decode cL_law 439 = .ok (.iadd, 1) := zo_96 zh_cL_law_21 19 rfl
theorem zh_cL_law_22 : zck [46, 42, 29, 5, 96, 46, 42, 29, 6, 96, 46, 182, 0, 39, 87, 167, 4, 65, 43, 42, 29, 4] (zdu 440 cL_law.data.toList) = true := by decide +kernel
theorem dL_law_440 : decode cL_law 440 = .ok (.iaload, 1) := zo_46 zh_cL_law_22 0 rfl
theorem dL_law_441 : decode cL_law 441 = .ok (.aload_n 0, 1) := zo_42 zh_cL_law_22 1 rfl
theorem dL_law_442 : decode cL_law 442 = .ok (.iload_n 3, 1) := zo_29 zh_cL_law_22 2 rfl
theorem dL_law_443 : decode cL_law 443 = .ok (.iconst 2, 1) := zo_5 zh_cL_law_22 3 rfl
theorem dL_law_444 : decode cL_law 444 = .ok (.iadd, 1) := zo_96 zh_cL_law_22 4 rfl
theorem dL_law_445 : decode cL_law 445 = .ok (.iaload, 1) := zo_46 zh_cL_law_22 5 rfl
theorem dL_law_446 : decode cL_law 446 = .ok (.aload_n 0, 1) := zo_42 zh_cL_law_22 6 rfl
theorem dL_law_447 : decode cL_law 447 = .ok (.iload_n 3, 1) := zo_29 zh_cL_law_22 7 rfl
theorem dL_law_448 : decode cL_law 448 = .ok (.iconst 3, 1) := zo_6 zh_cL_law_22 8 rfl
theorem dL_law_449 : decode cL_law 449 = .ok (.iadd, 1) := zo_96 zh_cL_law_22 9 rfl
theorem dL_law_450 : decode cL_law 450 = .ok (.iaload, 1) := zo_46 zh_cL_law_22 10 rfl
theorem dL_law_451 : decode cL_law 451 = .ok (.invokevirtual 39, 3) := zo_182 zh_cL_law_22 11 rfl
theorem dL_law_454 : decode cL_law 454 = .ok (.pop, 1) := zo_87 zh_cL_law_22 14 rfl
theorem dL_law_455 : decode cL_law 455 = .ok (.goto 1089, 3) := zo_p167 zh_cL_law_22 15 1089 rfl rfl
set_option maxHeartbeats 8000000 in
set_option maxRecDepth 100000 in
theorem law_case_5 {p : Program} {l : Launch} {e : Env} {s : State} {m : MethodId} {below : List Frame} {meth : Method} {c : Code} {b L : Nat} {xs : Nat → Int32} {D : va_G} {cs : Nat → ClassId} {k : (Nat → Nat) × (Nat → Nat)} {ad am : Nat → Nat} (C0 : lw_At p s m meth c b L xs) (hK : va_K D classes (zT cs) s) (hO : zO s) (hE : zE k (fun q : Nat => s.heap.size ≤ q) s) (hL : L ≤ 3072) (x3 : Int32) (h3 : 0 ≤ x3.toInt ∧ x3.toInt + 6 ≤ (L : Int)) (z : ZT) (w : MT) (hI : IX ad cs z) (hJ : IM w) (hr : RL z w) (cells slots : Nat) (hc : cells + 2 ≤ 600000) (hs : slots + 122 ≤ 7302250) (H : Heap) (locs : List Loc) (ls : Array Slot) (hP : va_P D classes (WM am cs w ++ WX ad cs z) H) (hD : va_D (fun q : Nat => s.heap.size ≤ q) (WM am cs w ++ WX ad cs z)) (hS : va_S (fun q : Nat => s.heap.size ≤ q) s.heap H locs) (hl : lv_has ls 4 [(0, .ref b), (1, .ref (ad 0)), (2, .ref (am 41)), (3, .int x3)]) (kk : ∀ (z2 : ZT) (w2 : MT) (H : Heap) (locs : List Loc) (ls : Array Slot) (cells2 slots2 : Nat), IX ad cs z2 → IM w2 → RL z2 w2 → cells2 ≤ cells + 2 → slots2 ≤ slots + 122 → va_P D classes (WM am cs w2 ++ WX ad cs z2) H → va_D (fun q : Nat => s.heap.size ≤ q) (WM am cs w2 ++ WX ad cs z2) → va_S (fun q : Nat => s.heap.size ≤ q) s.heap H locs → lv_has ls 4 [(0, .ref b), (1, .ref (ad 0)), (2, .ref (am 41)), (3, .int x3)] → W p l e room_1 s m #[Value.ref b] below meth c H locs cells2 slots2 (lw_Z below #[Value.ref b] s) (F0 m 1544 ls [])) : W p l e room_1 s m #[Value.ref b] below meth c H locs cells slots (lw_Z below #[Value.ref b] s) (F0 m 415 ls []) := by
  obtain ⟨hx, hb, hret, hml, hown, hts, hX, hbl, hlocks, hgv⟩ := id C0
  have hA : ∀ q : Nat, s.heap.size ≤ q → (fun q : Nat => s.heap.size ≤ q) q := fun _ h => h
  have hbA : ¬ (fun q : Nat => s.heap.size ≤ q) b := Nat.not_le.mpr hbl
  have ht : ∀ w ∈ zW, w.before #[Value.ref b] s = true := fun w hw => hts w (List.mem_filter.mp hw).1
  refine lv_aload_n hx hb dL_law_415 rfl (lv_at hl 1 rfl) ?_
  refine lv_aload_n hx hb dL_law_416 rfl (lv_at hl 0 rfl) ?_
  refine lv_iload_n hx hb dL_law_417 rfl (lv_at hl 3 rfl) ?_
  refine lv_iconst (v := (1 : Int32)) hx hb dL_law_418 (by decide) ?_
  refine lv_iadd hx hb dL_law_419 ?_
  refine va_sld hx hb hX hbl hbA hS (zl_in h3 hL (by decide)) dL_law_420 ?_
  refine lv_aload_n hx hb dL_law_421 rfl (lv_at hl 0 rfl) ?_
  refine lv_iload_n hx hb dL_law_422 rfl (lv_at hl 3 rfl) ?_
  refine lv_iconst (v := (2 : Int32)) hx hb dL_law_423 (by decide) ?_
  refine lv_iadd hx hb dL_law_424 ?_
  refine va_sld hx hb hX hbl hbA hS (zl_in h3 hL (by decide)) dL_law_425 ?_
  refine lv_aload_n hx hb dL_law_426 rfl (lv_at hl 0 rfl) ?_
  refine lv_iload_n hx hb dL_law_427 rfl (lv_at hl 3 rfl) ?_
  refine lv_iconst (v := (3 : Int32)) hx hb dL_law_428 (by decide) ?_
  refine lv_iadd hx hb dL_law_429 ?_
  refine va_sld hx hb hX hbl hbA hS (zl_in h3 hL (by decide)) dL_law_430 ?_
  obtain ⟨R1, hf1, hI2, hM1⟩ := K_X11_claim l D cs k H.size ad z hI (xs (x3 + (1 : Int32)).toNatClampNeg) (xs (x3 + (2 : Int32)).toNatClampNeg) (xs (x3 + (3 : Int32)).toNatClampNeg)
  refine zk_LXi (As := [.int (xs (x3 + (1 : Int32)).toNatClampNeg), .int (xs (x3 + (2 : Int32)).toNatClampNeg), .int (xs (x3 + (3 : Int32)).toNatClampNeg)]) (rest := []) hE hO hM1 ⟨hx, hb, hml, hown, ht⟩ (cwV 3 ht gl_36 rfl rfl rfl (by decide +kernel) ⟨Nat.le_of_ble_eq_true rfl, Nat.le_of_ble_eq_true rfl⟩) (va_recv hK hP (ci := 11) (q0 := 44) rfl rfl) hP hD hS hK hA rfl hl.1 (Nat.le_of_ble_eq_true rfl) dL_law_431 ⟨by show _ ≤ 600000; omega, by show _ ≤ 7302250; omega⟩ (fun H locs hP hD hS => ?_)
  refine lv_pop hx hb dL_law_434 rfl ?_
  refine lv_aload_n hx hb dL_law_435 rfl (lv_at hl 2 rfl) ?_
  refine lv_aload_n hx hb dL_law_436 rfl (lv_at hl 0 rfl) ?_
  refine lv_iload_n hx hb dL_law_437 rfl (lv_at hl 3 rfl) ?_
  refine lv_iconst (v := (1 : Int32)) hx hb dL_law_438 (by decide) ?_
  refine lv_iadd hx hb dL_law_439 ?_
  refine va_sld hx hb hX hbl hbA hS (zl_in h3 hL (by decide)) dL_law_440 ?_
  refine lv_aload_n hx hb dL_law_441 rfl (lv_at hl 0 rfl) ?_
  refine lv_iload_n hx hb dL_law_442 rfl (lv_at hl 3 rfl) ?_
  refine lv_iconst (v := (2 : Int32)) hx hb dL_law_443 (by decide) ?_
  refine lv_iadd hx hb dL_law_444 ?_
  refine va_sld hx hb hX hbl hbA hS (zl_in h3 hL (by decide)) dL_law_445 ?_
  refine lv_aload_n hx hb dL_law_446 rfl (lv_at hl 0 rfl) ?_
  refine lv_iload_n hx hb dL_law_447 rfl (lv_at hl 3 rfl) ?_
  refine lv_iconst (v := (3 : Int32)) hx hb dL_law_448 (by decide) ?_
  refine lv_iadd hx hb dL_law_449 ?_
  refine va_sld hx hb hX hbl hbA hS (zl_in h3 hL (by decide)) dL_law_450 ?_
  obtain ⟨R2, hf2, hJ2, hM2⟩ := K_X12_claim l D cs k H.size am w hJ (xs (x3 + (1 : Int32)).toNatClampNeg) (xs (x3 + (2 : Int32)).toNatClampNeg) (xs (x3 + (3 : Int32)).toNatClampNeg)
  have hf3 := hf2
  rw [← (rl_0 hr :), ← (rl_1 hr :), ← (rl_2 hr :), ← (rl_3 hr :), ← (rl_4 hr :), ← (rl_5 hr :), ← (rl_6 hr :), ← (rl_7 hr :), ← (rl_12 hr :), ← (rl_15 hr :), ← (rl_17 hr :)] at hf3
  rw [pe_claim (q_court_shoeCount := (z.1 0)) (q_court_suitCount := (z.1 2)) (ix_1 hI)] at hf3
  have hRR : R2 = R1 := Option.some.inj (hf3.symm.trans hf1)
  subst hRR
  have EQ : R2.1 = R2.1 := rfl
  have EQ2 : RL ((fun n => zc n 1 R2.2.1 (z.1 n)), (fun n => zc n 6 R2.2.2.1 (zc n 7 R2.2.2.2.1 (zc n 8 R2.2.2.2.2.1 (zc n 9 R2.2.2.2.2.2 (z.2.1 n))))), z.2.2.1, z.2.2.2.1, z.2.2.2.2.1, z.2.2.2.2.2.1, z.2.2.2.2.2.2.1, z.2.2.2.2.2.2.2) ((fun n => zc n 2 R2.2.1 (w.1 n)), (fun n => zc n 4 R2.2.2.1 (zc n 5 R2.2.2.2.1 (zc n 6 R2.2.2.2.2.1 (zc n 7 R2.2.2.2.2.2 (w.2.1 n))))), w.2.2) := ⟨rfl, rfl, rfl, rfl, rfl, (rl_5 hr :), (rl_6 hr :), (rl_7 hr :), (rl_8 hr :), (rl_9 hr :), (rl_10 hr :), (rl_11 hr :), (rl_12 hr :), (rl_13 hr :), (rl_14 hr :), (rl_15 hr :), (rl_16 hr :), (rl_17 hr :), (rl_18 hr :), (rl_19 hr :), (rl_20 hr :), (rl_21 hr :), (rl_22 hr :), (rl_23 hr :), (rl_24 hr :), (rl_25 hr :), (rl_26 hr :), (rl_27 hr :), (rl_28 hr :), (rl_29 hr :), (rl_30 hr :), (rl_31 hr :), (rl_32 hr :), (rl_33 hr :)⟩
  refine zk_LMi (As := [.int (xs (x3 + (1 : Int32)).toNatClampNeg), .int (xs (x3 + (2 : Int32)).toNatClampNeg), .int (xs (x3 + (3 : Int32)).toNatClampNeg)]) (rest := []) hE hO hM2 ⟨hx, hb, hml, hown, ht⟩ (cwV 3 ht gl_39 rfl rfl rfl (by decide +kernel) ⟨Nat.le_of_ble_eq_true rfl, Nat.le_of_ble_eq_true rfl⟩) (va_recv hK hP (ci := 12) (q0 := 0) rfl rfl) hP hD hS hK hA rfl hl.1 (Nat.le_of_ble_eq_true rfl) dL_law_451 ⟨by show _ ≤ 600000; omega, by show _ ≤ 7302250; omega⟩ (fun H locs hP hD hS => ?_)
  refine lv_pop hx hb dL_law_454 rfl ?_
  refine lv_goto (tgt := 1544) hx hb dL_law_455 (by decide) ?_
  exact kk _ _ H locs ls _ _ hI2 hJ2 EQ2 (by omega) (by omega) hP hD hS (lv_sub hl [0, 1, 2, 3] rfl)
theorem dL_law_458 : decode cL_law 458 = .ok (.aload_n 1, 1) := zo_43 zh_cL_law_22 18 rfl
theorem dL_law_459 : decode cL_law 459 = .ok (.aload_n 0, 1) := zo_42 zh_cL_law_22 19 rfl
theorem zh_cL_law_23 : zck [29, 4, 96, 46, 42, 29, 5, 96, 46, 182, 0, 40, 87, 44, 42, 29, 4, 96, 46, 42, 29, 5] (zdu 460 cL_law.data.toList) = true := by decide +kernel
theorem dL_law_460 : decode cL_law 460 = .ok (.iload_n 3, 1) := zo_29 zh_cL_law_23 0 rfl
theorem dL_law_461 : decode cL_law 461 = .ok (.iconst 1, 1) := zo_4 zh_cL_law_23 1 rfl
theorem dL_law_462 : decode cL_law 462 = .ok (.iadd, 1) := zo_96 zh_cL_law_23 2 rfl
theorem dL_law_463 : decode cL_law 463 = .ok (.iaload, 1) := zo_46 zh_cL_law_23 3 rfl
theorem dL_law_464 : decode cL_law 464 = .ok (.aload_n 0, 1) := zo_42 zh_cL_law_23 4 rfl
theorem dL_law_465 : decode cL_law 465 = .ok (.iload_n 3, 1) := zo_29 zh_cL_law_23 5 rfl
theorem dL_law_466 : decode cL_law 466 = .ok (.iconst 2, 1) := zo_5 zh_cL_law_23 6 rfl
theorem dL_law_467 : decode cL_law 467 = .ok (.iadd, 1) := zo_96 zh_cL_law_23 7 rfl
theorem dL_law_468 : decode cL_law 468 = .ok (.iaload, 1) := zo_46 zh_cL_law_23 8 rfl
theorem dL_law_469 : decode cL_law 469 = .ok (.invokevirtual 40, 3) := zo_182 zh_cL_law_23 9 rfl
theorem dL_law_472 : decode cL_law 472 = .ok (.pop, 1) := zo_87 zh_cL_law_23 12 rfl
theorem dL_law_473 : decode cL_law 473 = .ok (.aload_n 2, 1) := zo_44 zh_cL_law_23 13 rfl
theorem dL_law_474 : decode cL_law 474 = .ok (.aload_n 0, 1) := zo_42 zh_cL_law_23 14 rfl
theorem dL_law_475 : decode cL_law 475 = .ok (.iload_n 3, 1) := zo_29 zh_cL_law_23 15 rfl
theorem dL_law_476 : decode cL_law 476 = .ok (.iconst 1, 1) := zo_4 zh_cL_law_23 16 rfl
theorem dL_law_477 : decode cL_law 477 = .ok (.iadd, 1) := zo_96 zh_cL_law_23 17 rfl
theorem dL_law_478 : decode cL_law 478 = .ok (.iaload, 1) := zo_46 zh_cL_law_23 18 rfl
theorem dL_law_479 : decode cL_law 479 = .ok (.aload_n 0, 1) := zo_42 zh_cL_law_23 19 rfl
theorem zh_cL_law_24 : zck [29, 5, 96, 46, 182, 0, 43, 87, 167, 4, 32, 43, 42, 29, 4, 96, 46, 42, 29, 5, 96, 46] (zdu 480 cL_law.data.toList) = true := by decide +kernel
theorem dL_law_480 : decode cL_law 480 = .ok (.iload_n 3, 1) := zo_29 zh_cL_law_24 0 rfl
theorem dL_law_481 : decode cL_law 481 = .ok (.iconst 2, 1) := zo_5 zh_cL_law_24 1 rfl
theorem dL_law_482 : decode cL_law 482 = .ok (.iadd, 1) := zo_96 zh_cL_law_24 2 rfl
theorem dL_law_483 : decode cL_law 483 = .ok (.iaload, 1) := zo_46 zh_cL_law_24 3 rfl
theorem dL_law_484 : decode cL_law 484 = .ok (.invokevirtual 43, 3) := zo_182 zh_cL_law_24 4 rfl
theorem dL_law_487 : decode cL_law 487 = .ok (.pop, 1) := zo_87 zh_cL_law_24 7 rfl
theorem dL_law_488 : decode cL_law 488 = .ok (.goto 1056, 3) := zo_p167 zh_cL_law_24 8 1056 rfl rfl
set_option maxHeartbeats 8000000 in
set_option maxRecDepth 100000 in
theorem law_case_6 {p : Program} {l : Launch} {e : Env} {s : State} {m : MethodId} {below : List Frame} {meth : Method} {c : Code} {b L : Nat} {xs : Nat → Int32} {D : va_G} {cs : Nat → ClassId} {k : (Nat → Nat) × (Nat → Nat)} {ad am : Nat → Nat} (C0 : lw_At p s m meth c b L xs) (hK : va_K D classes (zT cs) s) (hO : zO s) (hE : zE k (fun q : Nat => s.heap.size ≤ q) s) (hL : L ≤ 3072) (x3 : Int32) (h3 : 0 ≤ x3.toInt ∧ x3.toInt + 6 ≤ (L : Int)) (z : ZT) (w : MT) (hI : IX ad cs z) (hJ : IM w) (hr : RL z w) (cells slots : Nat) (hc : cells + 2 ≤ 600000) (hs : slots + 122 ≤ 7302250) (H : Heap) (locs : List Loc) (ls : Array Slot) (hP : va_P D classes (WM am cs w ++ WX ad cs z) H) (hD : va_D (fun q : Nat => s.heap.size ≤ q) (WM am cs w ++ WX ad cs z)) (hS : va_S (fun q : Nat => s.heap.size ≤ q) s.heap H locs) (hl : lv_has ls 4 [(0, .ref b), (1, .ref (ad 0)), (2, .ref (am 41)), (3, .int x3)]) (kk : ∀ (z2 : ZT) (w2 : MT) (H : Heap) (locs : List Loc) (ls : Array Slot) (cells2 slots2 : Nat), IX ad cs z2 → IM w2 → RL z2 w2 → cells2 ≤ cells + 2 → slots2 ≤ slots + 122 → va_P D classes (WM am cs w2 ++ WX ad cs z2) H → va_D (fun q : Nat => s.heap.size ≤ q) (WM am cs w2 ++ WX ad cs z2) → va_S (fun q : Nat => s.heap.size ≤ q) s.heap H locs → lv_has ls 4 [(0, .ref b), (1, .ref (ad 0)), (2, .ref (am 41)), (3, .int x3)] → W p l e room_1 s m #[Value.ref b] below meth c H locs cells2 slots2 (lw_Z below #[Value.ref b] s) (F0 m 1544 ls [])) : W p l e room_1 s m #[Value.ref b] below meth c H locs cells slots (lw_Z below #[Value.ref b] s) (F0 m 458 ls []) := by
  obtain ⟨hx, hb, hret, hml, hown, hts, hX, hbl, hlocks, hgv⟩ := id C0
  have hA : ∀ q : Nat, s.heap.size ≤ q → (fun q : Nat => s.heap.size ≤ q) q := fun _ h => h
  have hbA : ¬ (fun q : Nat => s.heap.size ≤ q) b := Nat.not_le.mpr hbl
  have ht : ∀ w ∈ zW, w.before #[Value.ref b] s = true := fun w hw => hts w (List.mem_filter.mp hw).1
  refine lv_aload_n hx hb dL_law_458 rfl (lv_at hl 1 rfl) ?_
  refine lv_aload_n hx hb dL_law_459 rfl (lv_at hl 0 rfl) ?_
  refine lv_iload_n hx hb dL_law_460 rfl (lv_at hl 3 rfl) ?_
  refine lv_iconst (v := (1 : Int32)) hx hb dL_law_461 (by decide) ?_
  refine lv_iadd hx hb dL_law_462 ?_
  refine va_sld hx hb hX hbl hbA hS (zl_in h3 hL (by decide)) dL_law_463 ?_
  refine lv_aload_n hx hb dL_law_464 rfl (lv_at hl 0 rfl) ?_
  refine lv_iload_n hx hb dL_law_465 rfl (lv_at hl 3 rfl) ?_
  refine lv_iconst (v := (2 : Int32)) hx hb dL_law_466 (by decide) ?_
  refine lv_iadd hx hb dL_law_467 ?_
  refine va_sld hx hb hX hbl hbA hS (zl_in h3 hL (by decide)) dL_law_468 ?_
  obtain ⟨R1, hf1, hI2, hM1⟩ := K_X11_ofClaim l D cs k H.size ad z hI (xs (x3 + (1 : Int32)).toNatClampNeg) (xs (x3 + (2 : Int32)).toNatClampNeg)
  refine zk_LXi (As := [.int (xs (x3 + (1 : Int32)).toNatClampNeg), .int (xs (x3 + (2 : Int32)).toNatClampNeg)]) (rest := []) hE hO hM1 ⟨hx, hb, hml, hown, ht⟩ (cwV 2 ht gl_40 rfl rfl rfl (by decide +kernel) ⟨Nat.le_of_ble_eq_true rfl, Nat.le_of_ble_eq_true rfl⟩) (va_recv hK hP (ci := 11) (q0 := 44) rfl rfl) hP hD hS hK hA rfl hl.1 (Nat.le_of_ble_eq_true rfl) dL_law_469 ⟨by show _ ≤ 600000; omega, by show _ ≤ 7302250; omega⟩ (fun H locs hP hD hS => ?_)
  refine lv_pop hx hb dL_law_472 rfl ?_
  refine lv_aload_n hx hb dL_law_473 rfl (lv_at hl 2 rfl) ?_
  refine lv_aload_n hx hb dL_law_474 rfl (lv_at hl 0 rfl) ?_
  refine lv_iload_n hx hb dL_law_475 rfl (lv_at hl 3 rfl) ?_
  refine lv_iconst (v := (1 : Int32)) hx hb dL_law_476 (by decide) ?_
  refine lv_iadd hx hb dL_law_477 ?_
  refine va_sld hx hb hX hbl hbA hS (zl_in h3 hL (by decide)) dL_law_478 ?_
  refine lv_aload_n hx hb dL_law_479 rfl (lv_at hl 0 rfl) ?_
  refine lv_iload_n hx hb dL_law_480 rfl (lv_at hl 3 rfl) ?_
  refine lv_iconst (v := (2 : Int32)) hx hb dL_law_481 (by decide) ?_
  refine lv_iadd hx hb dL_law_482 ?_
  refine va_sld hx hb hX hbl hbA hS (zl_in h3 hL (by decide)) dL_law_483 ?_
  obtain ⟨R2, hf2, hJ2, hM2⟩ := K_X12_ofClaim l D cs k H.size am w hJ (xs (x3 + (1 : Int32)).toNatClampNeg) (xs (x3 + (2 : Int32)).toNatClampNeg)
  refine zk_LMi (As := [.int (xs (x3 + (1 : Int32)).toNatClampNeg), .int (xs (x3 + (2 : Int32)).toNatClampNeg)]) (rest := []) hE hO hM2 ⟨hx, hb, hml, hown, ht⟩ (cwV 2 ht gl_43 rfl rfl rfl (by decide +kernel) ⟨Nat.le_of_ble_eq_true rfl, Nat.le_of_ble_eq_true rfl⟩) (va_recv hK hP (ci := 12) (q0 := 0) rfl rfl) hP hD hS hK hA rfl hl.1 (Nat.le_of_ble_eq_true rfl) dL_law_484 ⟨by show _ ≤ 600000; omega, by show _ ≤ 7302250; omega⟩ (fun H locs hP hD hS => ?_)
  refine lv_pop hx hb dL_law_487 rfl ?_
  refine lv_goto (tgt := 1544) hx hb dL_law_488 (by decide) ?_
  exact kk _ _ H locs ls _ _ hI2 hJ2 ⟨(rl_0 hr :), (rl_1 hr :), (rl_2 hr :), (rl_3 hr :), (rl_4 hr :), (rl_5 hr :), (rl_6 hr :), (rl_7 hr :), (rl_8 hr :), (rl_9 hr :), (rl_10 hr :), (rl_11 hr :), (rl_12 hr :), (rl_13 hr :), (rl_14 hr :), (rl_15 hr :), (rl_16 hr :), (rl_17 hr :), (rl_18 hr :), (rl_19 hr :), (rl_20 hr :), (rl_21 hr :), (rl_22 hr :), (rl_23 hr :), (rl_24 hr :), (rl_25 hr :), (rl_26 hr :), (rl_27 hr :), (rl_28 hr :), (rl_29 hr :), (rl_30 hr :), (rl_31 hr :), (rl_32 hr :), (rl_33 hr :)⟩ (by omega) (by omega) hP hD hS (lv_sub hl [0, 1, 2, 3] rfl)
theorem dL_law_491 : decode cL_law 491 = .ok (.aload_n 1, 1) := zo_43 zh_cL_law_24 11 rfl
theorem dL_law_492 : decode cL_law 492 = .ok (.aload_n 0, 1) := zo_42 zh_cL_law_24 12 rfl
theorem dL_law_493 : decode cL_law 493 = .ok (.iload_n 3, 1) := zo_29 zh_cL_law_24 13 rfl
theorem dL_law_494 : decode cL_law 494 = .ok (.iconst 1, 1) := zo_4 zh_cL_law_24 14 rfl
theorem dL_law_495 : decode cL_law 495 = .ok (.iadd, 1) := zo_96 zh_cL_law_24 15 rfl
theorem dL_law_496 : decode cL_law 496 = .ok (.iaload, 1) := zo_46 zh_cL_law_24 16 rfl
theorem dL_law_497 : decode cL_law 497 = .ok (.aload_n 0, 1) := zo_42 zh_cL_law_24 17 rfl
theorem dL_law_498 : decode cL_law 498 = .ok (.iload_n 3, 1) := zo_29 zh_cL_law_24 18 rfl
theorem dL_law_499 : decode cL_law 499 = .ok (.iconst 2, 1) := zo_5 zh_cL_law_24 19 rfl
theorem zh_cL_law_25 : zck [96, 46, 182, 0, 44, 87, 44, 42, 29, 4, 96, 46, 42, 29, 5, 96, 46, 182, 0, 47, 87, 167] (zdu 500 cL_law.data.toList) = true := by decide +kernel
theorem dL_law_500 : decode cL_law 500 = .ok (.iadd, 1) := zo_96 zh_cL_law_25 0 rfl
theorem dL_law_501 : decode cL_law 501 = .ok (.iaload, 1) := zo_46 zh_cL_law_25 1 rfl
theorem dL_law_502 : decode cL_law 502 = .ok (.invokevirtual 44, 3) := zo_182 zh_cL_law_25 2 rfl
theorem dL_law_505 : decode cL_law 505 = .ok (.pop, 1) := zo_87 zh_cL_law_25 5 rfl
theorem dL_law_506 : decode cL_law 506 = .ok (.aload_n 2, 1) := zo_44 zh_cL_law_25 6 rfl
theorem dL_law_507 : decode cL_law 507 = .ok (.aload_n 0, 1) := zo_42 zh_cL_law_25 7 rfl
theorem dL_law_508 : decode cL_law 508 = .ok (.iload_n 3, 1) := zo_29 zh_cL_law_25 8 rfl
theorem dL_law_509 : decode cL_law 509 = .ok (.iconst 1, 1) := zo_4 zh_cL_law_25 9 rfl
theorem dL_law_510 : decode cL_law 510 = .ok (.iadd, 1) := zo_96 zh_cL_law_25 10 rfl
theorem dL_law_511 : decode cL_law 511 = .ok (.iaload, 1) := zo_46 zh_cL_law_25 11 rfl
theorem dL_law_512 : decode cL_law 512 = .ok (.aload_n 0, 1) := zo_42 zh_cL_law_25 12 rfl
theorem dL_law_513 : decode cL_law 513 = .ok (.iload_n 3, 1) := zo_29 zh_cL_law_25 13 rfl
theorem dL_law_514 : decode cL_law 514 = .ok (.iconst 2, 1) := zo_5 zh_cL_law_25 14 rfl
theorem dL_law_515 : decode cL_law 515 = .ok (.iadd, 1) := zo_96 zh_cL_law_25 15 rfl
theorem dL_law_516 : decode cL_law 516 = .ok (.iaload, 1) := zo_46 zh_cL_law_25 16 rfl
theorem dL_law_517 : decode cL_law 517 = .ok (.invokevirtual 47, 3) := zo_182 zh_cL_law_25 17 rfl
theorem zh_cL_law_26 : zck [87, 167, 3, 255, 43, 182, 0, 48, 87, 44, 182, 0, 52, 87, 167, 3, 242, 43, 42, 29, 4, 96] (zdu 520 cL_law.data.toList) = true := by decide +kernel
theorem dL_law_520 : decode cL_law 520 = .ok (.pop, 1) := zo_87 zh_cL_law_26 0 rfl
theorem dL_law_521 : decode cL_law 521 = .ok (.goto 1023, 3) := zo_p167 zh_cL_law_26 1 1023 rfl rfl
set_option maxHeartbeats 8000000 in
set_option maxRecDepth 100000 in
theorem law_case_7 {p : Program} {l : Launch} {e : Env} {s : State} {m : MethodId} {below : List Frame} {meth : Method} {c : Code} {b L : Nat} {xs : Nat → Int32} {D : va_G} {cs : Nat → ClassId} {k : (Nat → Nat) × (Nat → Nat)} {ad am : Nat → Nat} (C0 : lw_At p s m meth c b L xs) (hK : va_K D classes (zT cs) s) (hO : zO s) (hE : zE k (fun q : Nat => s.heap.size ≤ q) s) (hL : L ≤ 3072) (x3 : Int32) (h3 : 0 ≤ x3.toInt ∧ x3.toInt + 6 ≤ (L : Int)) (z : ZT) (w : MT) (hI : IX ad cs z) (hJ : IM w) (hr : RL z w) (cells slots : Nat) (hc : cells + 2 ≤ 600000) (hs : slots + 122 ≤ 7302250) (H : Heap) (locs : List Loc) (ls : Array Slot) (hP : va_P D classes (WM am cs w ++ WX ad cs z) H) (hD : va_D (fun q : Nat => s.heap.size ≤ q) (WM am cs w ++ WX ad cs z)) (hS : va_S (fun q : Nat => s.heap.size ≤ q) s.heap H locs) (hl : lv_has ls 4 [(0, .ref b), (1, .ref (ad 0)), (2, .ref (am 41)), (3, .int x3)]) (kk : ∀ (z2 : ZT) (w2 : MT) (H : Heap) (locs : List Loc) (ls : Array Slot) (cells2 slots2 : Nat), IX ad cs z2 → IM w2 → RL z2 w2 → cells2 ≤ cells + 2 → slots2 ≤ slots + 122 → va_P D classes (WM am cs w2 ++ WX ad cs z2) H → va_D (fun q : Nat => s.heap.size ≤ q) (WM am cs w2 ++ WX ad cs z2) → va_S (fun q : Nat => s.heap.size ≤ q) s.heap H locs → lv_has ls 4 [(0, .ref b), (1, .ref (ad 0)), (2, .ref (am 41)), (3, .int x3)] → W p l e room_1 s m #[Value.ref b] below meth c H locs cells2 slots2 (lw_Z below #[Value.ref b] s) (F0 m 1544 ls [])) : W p l e room_1 s m #[Value.ref b] below meth c H locs cells slots (lw_Z below #[Value.ref b] s) (F0 m 491 ls []) := by
  obtain ⟨hx, hb, hret, hml, hown, hts, hX, hbl, hlocks, hgv⟩ := id C0
  have hA : ∀ q : Nat, s.heap.size ≤ q → (fun q : Nat => s.heap.size ≤ q) q := fun _ h => h
  have hbA : ¬ (fun q : Nat => s.heap.size ≤ q) b := Nat.not_le.mpr hbl
  have ht : ∀ w ∈ zW, w.before #[Value.ref b] s = true := fun w hw => hts w (List.mem_filter.mp hw).1
  refine lv_aload_n hx hb dL_law_491 rfl (lv_at hl 1 rfl) ?_
  refine lv_aload_n hx hb dL_law_492 rfl (lv_at hl 0 rfl) ?_
  refine lv_iload_n hx hb dL_law_493 rfl (lv_at hl 3 rfl) ?_
  refine lv_iconst (v := (1 : Int32)) hx hb dL_law_494 (by decide) ?_
  refine lv_iadd hx hb dL_law_495 ?_
  refine va_sld hx hb hX hbl hbA hS (zl_in h3 hL (by decide)) dL_law_496 ?_
  refine lv_aload_n hx hb dL_law_497 rfl (lv_at hl 0 rfl) ?_
  refine lv_iload_n hx hb dL_law_498 rfl (lv_at hl 3 rfl) ?_
  refine lv_iconst (v := (2 : Int32)) hx hb dL_law_499 (by decide) ?_
  refine lv_iadd hx hb dL_law_500 ?_
  refine va_sld hx hb hX hbl hbA hS (zl_in h3 hL (by decide)) dL_law_501 ?_
  obtain ⟨R1, hf1, hI2, hM1⟩ := K_X11_feed l D cs k H.size ad z hI (xs (x3 + (1 : Int32)).toNatClampNeg) (xs (x3 + (2 : Int32)).toNatClampNeg)
  refine zk_LXi (As := [.int (xs (x3 + (1 : Int32)).toNatClampNeg), .int (xs (x3 + (2 : Int32)).toNatClampNeg)]) (rest := []) hE hO hM1 ⟨hx, hb, hml, hown, ht⟩ (cwV 2 ht gl_44 rfl rfl rfl (by decide +kernel) ⟨Nat.le_of_ble_eq_true rfl, Nat.le_of_ble_eq_true rfl⟩) (va_recv hK hP (ci := 11) (q0 := 44) rfl rfl) hP hD hS hK hA rfl hl.1 (Nat.le_of_ble_eq_true rfl) dL_law_502 ⟨by show _ ≤ 600000; omega, by show _ ≤ 7302250; omega⟩ (fun H locs hP hD hS => ?_)
  refine lv_pop hx hb dL_law_505 rfl ?_
  refine lv_aload_n hx hb dL_law_506 rfl (lv_at hl 2 rfl) ?_
  refine lv_aload_n hx hb dL_law_507 rfl (lv_at hl 0 rfl) ?_
  refine lv_iload_n hx hb dL_law_508 rfl (lv_at hl 3 rfl) ?_
  refine lv_iconst (v := (1 : Int32)) hx hb dL_law_509 (by decide) ?_
  refine lv_iadd hx hb dL_law_510 ?_
  refine va_sld hx hb hX hbl hbA hS (zl_in h3 hL (by decide)) dL_law_511 ?_
  refine lv_aload_n hx hb dL_law_512 rfl (lv_at hl 0 rfl) ?_
  refine lv_iload_n hx hb dL_law_513 rfl (lv_at hl 3 rfl) ?_
  refine lv_iconst (v := (2 : Int32)) hx hb dL_law_514 (by decide) ?_
  refine lv_iadd hx hb dL_law_515 ?_
  refine va_sld hx hb hX hbl hbA hS (zl_in h3 hL (by decide)) dL_law_516 ?_
  obtain ⟨R2, hf2, hJ2, hM2⟩ := K_X12_feed l D cs k H.size am w hJ (xs (x3 + (1 : Int32)).toNatClampNeg) (xs (x3 + (2 : Int32)).toNatClampNeg)
  have hf3 := hf2
  rw [← (rl_0 hr :), ← (rl_5 hr :), ← (rl_6 hr :), ← (rl_7 hr :), ← (rl_12 hr :), ← (rl_15 hr :), ← (rl_17 hr :)] at hf3
  obtain ⟨EQ, E1, E2⟩ := pw_feed (ix_3 hI) (rl_22 hr :) hf1 hf3
  have EQ2 : RL ((fun n => zc n 6 R1.2.1 (z.1 n)), (fun n => zc n 15 R1.2.2 (z.2.1 n)), z.2.2.1, z.2.2.2.1, z.2.2.2.2.1, z.2.2.2.2.2.1, z.2.2.2.2.2.2.1, z.2.2.2.2.2.2.2) ((fun n => zc n 3 R2.2.1 (w.1 n)), (fun n => zc n 8 R2.2.2 (w.2.1 n)), w.2.2) := ⟨(rl_0 hr :), (rl_1 hr :), (rl_2 hr :), (rl_3 hr :), (rl_4 hr :), (rl_5 hr :), (rl_6 hr :), E1, (rl_8 hr :), (rl_9 hr :), (rl_10 hr :), (rl_11 hr :), (rl_12 hr :), (rl_13 hr :), (rl_14 hr :), (rl_15 hr :), (rl_16 hr :), (rl_17 hr :), (rl_18 hr :), (rl_19 hr :), (rl_20 hr :), (rl_21 hr :), E2, (rl_23 hr :), (rl_24 hr :), (rl_25 hr :), (rl_26 hr :), (rl_27 hr :), (rl_28 hr :), (rl_29 hr :), (rl_30 hr :), (rl_31 hr :), (rl_32 hr :), (rl_33 hr :)⟩
  refine zk_LMi (As := [.int (xs (x3 + (1 : Int32)).toNatClampNeg), .int (xs (x3 + (2 : Int32)).toNatClampNeg)]) (rest := []) hE hO hM2 ⟨hx, hb, hml, hown, ht⟩ (cwV 2 ht gl_47 rfl rfl rfl (by decide +kernel) ⟨Nat.le_of_ble_eq_true rfl, Nat.le_of_ble_eq_true rfl⟩) (va_recv hK hP (ci := 12) (q0 := 0) rfl rfl) hP hD hS hK hA rfl hl.1 (Nat.le_of_ble_eq_true rfl) dL_law_517 ⟨by show _ ≤ 600000; omega, by show _ ≤ 7302250; omega⟩ (fun H locs hP hD hS => ?_)
  refine lv_pop hx hb dL_law_520 rfl ?_
  refine lv_goto (tgt := 1544) hx hb dL_law_521 (by decide) ?_
  exact kk _ _ H locs ls _ _ hI2 hJ2 EQ2 (by omega) (by omega) hP hD hS (lv_sub hl [0, 1, 2, 3] rfl)
theorem dL_law_524 : decode cL_law 524 = .ok (.aload_n 1, 1) := zo_43 zh_cL_law_26 4 rfl
theorem dL_law_525 : decode cL_law 525 = .ok (.invokevirtual 48, 3) := zo_182 zh_cL_law_26 5 rfl
theorem dL_law_528 : decode cL_law 528 = .ok (.pop, 1) := zo_87 zh_cL_law_26 8 rfl
theorem dL_law_529 : decode cL_law 529 = .ok (.aload_n 2, 1) := zo_44 zh_cL_law_26 9 rfl
theorem dL_law_530 : decode cL_law 530 = .ok (.invokevirtual 52, 3) := zo_182 zh_cL_law_26 10 rfl
theorem dL_law_533 : decode cL_law 533 = .ok (.pop, 1) := zo_87 zh_cL_law_26 13 rfl
theorem dL_law_534 : decode cL_law 534 = .ok (.goto 1010, 3) := zo_p167 zh_cL_law_26 14 1010 rfl rfl
set_option maxHeartbeats 8000000 in
set_option maxRecDepth 100000 in
theorem law_case_8 {p : Program} {l : Launch} {e : Env} {s : State} {m : MethodId} {below : List Frame} {meth : Method} {c : Code} {b L : Nat} {xs : Nat → Int32} {D : va_G} {cs : Nat → ClassId} {k : (Nat → Nat) × (Nat → Nat)} {ad am : Nat → Nat} (C0 : lw_At p s m meth c b L xs) (hK : va_K D classes (zT cs) s) (hO : zO s) (hE : zE k (fun q : Nat => s.heap.size ≤ q) s) (hL : L ≤ 3072) (x3 : Int32) (h3 : 0 ≤ x3.toInt ∧ x3.toInt + 6 ≤ (L : Int)) (z : ZT) (w : MT) (hI : IX ad cs z) (hJ : IM w) (hr : RL z w) (cells slots : Nat) (hc : cells + 2 ≤ 600000) (hs : slots + 122 ≤ 7302250) (H : Heap) (locs : List Loc) (ls : Array Slot) (hP : va_P D classes (WM am cs w ++ WX ad cs z) H) (hD : va_D (fun q : Nat => s.heap.size ≤ q) (WM am cs w ++ WX ad cs z)) (hS : va_S (fun q : Nat => s.heap.size ≤ q) s.heap H locs) (hl : lv_has ls 4 [(0, .ref b), (1, .ref (ad 0)), (2, .ref (am 41)), (3, .int x3)]) (kk : ∀ (z2 : ZT) (w2 : MT) (H : Heap) (locs : List Loc) (ls : Array Slot) (cells2 slots2 : Nat), IX ad cs z2 → IM w2 → RL z2 w2 → cells2 ≤ cells + 2 → slots2 ≤ slots + 122 → va_P D classes (WM am cs w2 ++ WX ad cs z2) H → va_D (fun q : Nat => s.heap.size ≤ q) (WM am cs w2 ++ WX ad cs z2) → va_S (fun q : Nat => s.heap.size ≤ q) s.heap H locs → lv_has ls 4 [(0, .ref b), (1, .ref (ad 0)), (2, .ref (am 41)), (3, .int x3)] → W p l e room_1 s m #[Value.ref b] below meth c H locs cells2 slots2 (lw_Z below #[Value.ref b] s) (F0 m 1544 ls [])) : W p l e room_1 s m #[Value.ref b] below meth c H locs cells slots (lw_Z below #[Value.ref b] s) (F0 m 524 ls []) := by
  obtain ⟨hx, hb, hret, hml, hown, hts, hX, hbl, hlocks, hgv⟩ := id C0
  have hA : ∀ q : Nat, s.heap.size ≤ q → (fun q : Nat => s.heap.size ≤ q) q := fun _ h => h
  have hbA : ¬ (fun q : Nat => s.heap.size ≤ q) b := Nat.not_le.mpr hbl
  have ht : ∀ w ∈ zW, w.before #[Value.ref b] s = true := fun w hw => hts w (List.mem_filter.mp hw).1
  refine lv_aload_n hx hb dL_law_524 rfl (lv_at hl 1 rfl) ?_
  obtain ⟨R1, hM1⟩ := K_X11_suit l D cs k H.size ad z hI 
  refine zk_LXS (post := fun (r : Int32) (u : ZT) => r = R1.1 ∧ IX ad cs u ∧ KPS z u r) (A2 := fun (u : ZT) => WX ad cs u) (As := []) (rest := []) hE hO hM1 ⟨hx, hb, hml, hown, ht⟩ (cwV 0 ht gl_48 rfl rfl rfl (by decide +kernel) ⟨Nat.le_of_ble_eq_true rfl, Nat.le_of_ble_eq_true rfl⟩) (va_recv hK hP (ci := 11) (q0 := 44) rfl rfl) hP hD hS hK hA rfl hl.1 (Nat.le_of_ble_eq_true rfl) dL_law_525 ⟨by show _ ≤ 600000; omega, by show _ ≤ 7302250; omega⟩ (fun r z2 H locs hq hP hD hS => ?_)
  obtain ⟨hq1, hI2, hz2⟩ := hq
  subst hq1
  refine lv_pop hx hb dL_law_528 rfl ?_
  refine lv_aload_n hx hb dL_law_529 rfl (lv_at hl 2 rfl) ?_
  obtain ⟨R2, hf2, hJ2, hM2⟩ := K_X12_suit l D cs k H.size am w hJ 
  obtain ⟨EQ, EQ2⟩ := ps_suit hI hr hz2 hf2
  refine zk_LMi (As := []) (rest := []) hE hO hM2 ⟨hx, hb, hml, hown, ht⟩ (cwV 0 ht gl_52 rfl rfl rfl (by decide +kernel) ⟨Nat.le_of_ble_eq_true rfl, Nat.le_of_ble_eq_true rfl⟩) (va_recv hK hP (ci := 12) (q0 := 0) rfl rfl) hP hD hS hK hA rfl hl.1 (Nat.le_of_ble_eq_true rfl) dL_law_530 ⟨by show _ ≤ 600000; omega, by show _ ≤ 7302250; omega⟩ (fun H locs hP hD hS => ?_)
  refine lv_pop hx hb dL_law_533 rfl ?_
  refine lv_goto (tgt := 1544) hx hb dL_law_534 (by decide) ?_
  exact kk _ _ H locs ls _ _ hI2 hJ2 EQ2 (by omega) (by omega) hP hD hS (lv_sub hl [0, 1, 2, 3] rfl)
theorem dL_law_537 : decode cL_law 537 = .ok (.aload_n 1, 1) := zo_43 zh_cL_law_26 17 rfl
theorem dL_law_538 : decode cL_law 538 = .ok (.aload_n 0, 1) := zo_42 zh_cL_law_26 18 rfl
theorem dL_law_539 : decode cL_law 539 = .ok (.iload_n 3, 1) := zo_29 zh_cL_law_26 19 rfl
theorem zh_cL_law_27 : zck [4, 96, 46, 42, 29, 5, 96, 46, 182, 0, 53, 87, 44, 42, 29, 4, 96, 46, 42, 29, 5, 96] (zdu 540 cL_law.data.toList) = true := by decide +kernel
theorem dL_law_540 : decode cL_law 540 = .ok (.iconst 1, 1) := zo_4 zh_cL_law_27 0 rfl
theorem dL_law_541 : decode cL_law 541 = .ok (.iadd, 1) := zo_96 zh_cL_law_27 1 rfl
theorem dL_law_542 : decode cL_law 542 = .ok (.iaload, 1) := zo_46 zh_cL_law_27 2 rfl
theorem dL_law_543 : decode cL_law 543 = .ok (.aload_n 0, 1) := zo_42 zh_cL_law_27 3 rfl
theorem dL_law_544 : decode cL_law 544 = .ok (.iload_n 3, 1) := zo_29 zh_cL_law_27 4 rfl
theorem dL_law_545 : decode cL_law 545 = .ok (.iconst 2, 1) := zo_5 zh_cL_law_27 5 rfl
theorem dL_law_546 : decode cL_law 546 = .ok (.iadd, 1) := zo_96 zh_cL_law_27 6 rfl
theorem dL_law_547 : decode cL_law 547 = .ok (.iaload, 1) := zo_46 zh_cL_law_27 7 rfl
theorem dL_law_548 : decode cL_law 548 = .ok (.invokevirtual 53, 3) := zo_182 zh_cL_law_27 8 rfl
theorem dL_law_551 : decode cL_law 551 = .ok (.pop, 1) := zo_87 zh_cL_law_27 11 rfl
theorem dL_law_552 : decode cL_law 552 = .ok (.aload_n 2, 1) := zo_44 zh_cL_law_27 12 rfl
theorem dL_law_553 : decode cL_law 553 = .ok (.aload_n 0, 1) := zo_42 zh_cL_law_27 13 rfl
theorem dL_law_554 : decode cL_law 554 = .ok (.iload_n 3, 1) := zo_29 zh_cL_law_27 14 rfl
theorem dL_law_555 : decode cL_law 555 = .ok (.iconst 1, 1) := zo_4 zh_cL_law_27 15 rfl
theorem dL_law_556 : decode cL_law 556 = .ok (.iadd, 1) := zo_96 zh_cL_law_27 16 rfl
theorem dL_law_557 : decode cL_law 557 = .ok (.iaload, 1) := zo_46 zh_cL_law_27 17 rfl
theorem dL_law_558 : decode cL_law 558 = .ok (.aload_n 0, 1) := zo_42 zh_cL_law_27 18 rfl
theorem dL_law_559 : decode cL_law 559 = .ok (.iload_n 3, 1) := zo_29 zh_cL_law_27 19 rfl
theorem zh_cL_law_28 : zck [5, 96, 46, 182, 0, 56, 87, 167, 3, 209, 43, 42, 29, 4, 96, 46, 42, 29, 5, 96, 46, 182] (zdu 560 cL_law.data.toList) = true := by decide +kernel
theorem dL_law_560 : decode cL_law 560 = .ok (.iconst 2, 1) := zo_5 zh_cL_law_28 0 rfl
theorem dL_law_561 : decode cL_law 561 = .ok (.iadd, 1) := zo_96 zh_cL_law_28 1 rfl
theorem dL_law_562 : decode cL_law 562 = .ok (.iaload, 1) := zo_46 zh_cL_law_28 2 rfl
theorem dL_law_563 : decode cL_law 563 = .ok (.invokevirtual 56, 3) := zo_182 zh_cL_law_28 3 rfl
theorem dL_law_566 : decode cL_law 566 = .ok (.pop, 1) := zo_87 zh_cL_law_28 6 rfl
theorem dL_law_567 : decode cL_law 567 = .ok (.goto 977, 3) := zo_p167 zh_cL_law_28 7 977 rfl rfl
set_option maxHeartbeats 8000000 in
set_option maxRecDepth 100000 in
theorem law_case_9 {p : Program} {l : Launch} {e : Env} {s : State} {m : MethodId} {below : List Frame} {meth : Method} {c : Code} {b L : Nat} {xs : Nat → Int32} {D : va_G} {cs : Nat → ClassId} {k : (Nat → Nat) × (Nat → Nat)} {ad am : Nat → Nat} (C0 : lw_At p s m meth c b L xs) (hK : va_K D classes (zT cs) s) (hO : zO s) (hE : zE k (fun q : Nat => s.heap.size ≤ q) s) (hL : L ≤ 3072) (x3 : Int32) (h3 : 0 ≤ x3.toInt ∧ x3.toInt + 6 ≤ (L : Int)) (z : ZT) (w : MT) (hI : IX ad cs z) (hJ : IM w) (hr : RL z w) (cells slots : Nat) (hc : cells + 2 ≤ 600000) (hs : slots + 122 ≤ 7302250) (H : Heap) (locs : List Loc) (ls : Array Slot) (hP : va_P D classes (WM am cs w ++ WX ad cs z) H) (hD : va_D (fun q : Nat => s.heap.size ≤ q) (WM am cs w ++ WX ad cs z)) (hS : va_S (fun q : Nat => s.heap.size ≤ q) s.heap H locs) (hl : lv_has ls 4 [(0, .ref b), (1, .ref (ad 0)), (2, .ref (am 41)), (3, .int x3)]) (kk : ∀ (z2 : ZT) (w2 : MT) (H : Heap) (locs : List Loc) (ls : Array Slot) (cells2 slots2 : Nat), IX ad cs z2 → IM w2 → RL z2 w2 → cells2 ≤ cells + 2 → slots2 ≤ slots + 122 → va_P D classes (WM am cs w2 ++ WX ad cs z2) H → va_D (fun q : Nat => s.heap.size ≤ q) (WM am cs w2 ++ WX ad cs z2) → va_S (fun q : Nat => s.heap.size ≤ q) s.heap H locs → lv_has ls 4 [(0, .ref b), (1, .ref (ad 0)), (2, .ref (am 41)), (3, .int x3)] → W p l e room_1 s m #[Value.ref b] below meth c H locs cells2 slots2 (lw_Z below #[Value.ref b] s) (F0 m 1544 ls [])) : W p l e room_1 s m #[Value.ref b] below meth c H locs cells slots (lw_Z below #[Value.ref b] s) (F0 m 537 ls []) := by
  obtain ⟨hx, hb, hret, hml, hown, hts, hX, hbl, hlocks, hgv⟩ := id C0
  have hA : ∀ q : Nat, s.heap.size ≤ q → (fun q : Nat => s.heap.size ≤ q) q := fun _ h => h
  have hbA : ¬ (fun q : Nat => s.heap.size ≤ q) b := Nat.not_le.mpr hbl
  have ht : ∀ w ∈ zW, w.before #[Value.ref b] s = true := fun w hw => hts w (List.mem_filter.mp hw).1
  refine lv_aload_n hx hb dL_law_537 rfl (lv_at hl 1 rfl) ?_
  refine lv_aload_n hx hb dL_law_538 rfl (lv_at hl 0 rfl) ?_
  refine lv_iload_n hx hb dL_law_539 rfl (lv_at hl 3 rfl) ?_
  refine lv_iconst (v := (1 : Int32)) hx hb dL_law_540 (by decide) ?_
  refine lv_iadd hx hb dL_law_541 ?_
  refine va_sld hx hb hX hbl hbA hS (zl_in h3 hL (by decide)) dL_law_542 ?_
  refine lv_aload_n hx hb dL_law_543 rfl (lv_at hl 0 rfl) ?_
  refine lv_iload_n hx hb dL_law_544 rfl (lv_at hl 3 rfl) ?_
  refine lv_iconst (v := (2 : Int32)) hx hb dL_law_545 (by decide) ?_
  refine lv_iadd hx hb dL_law_546 ?_
  refine va_sld hx hb hX hbl hbA hS (zl_in h3 hL (by decide)) dL_law_547 ?_
  obtain ⟨R1, hf1, hI2, hM1⟩ := K_X11_ofSuit l D cs k H.size ad z hI (xs (x3 + (1 : Int32)).toNatClampNeg) (xs (x3 + (2 : Int32)).toNatClampNeg)
  refine zk_LXi (As := [.int (xs (x3 + (1 : Int32)).toNatClampNeg), .int (xs (x3 + (2 : Int32)).toNatClampNeg)]) (rest := []) hE hO hM1 ⟨hx, hb, hml, hown, ht⟩ (cwV 2 ht gl_53 rfl rfl rfl (by decide +kernel) ⟨Nat.le_of_ble_eq_true rfl, Nat.le_of_ble_eq_true rfl⟩) (va_recv hK hP (ci := 11) (q0 := 44) rfl rfl) hP hD hS hK hA rfl hl.1 (Nat.le_of_ble_eq_true rfl) dL_law_548 ⟨by show _ ≤ 600000; omega, by show _ ≤ 7302250; omega⟩ (fun H locs hP hD hS => ?_)
  refine lv_pop hx hb dL_law_551 rfl ?_
  refine lv_aload_n hx hb dL_law_552 rfl (lv_at hl 2 rfl) ?_
  refine lv_aload_n hx hb dL_law_553 rfl (lv_at hl 0 rfl) ?_
  refine lv_iload_n hx hb dL_law_554 rfl (lv_at hl 3 rfl) ?_
  refine lv_iconst (v := (1 : Int32)) hx hb dL_law_555 (by decide) ?_
  refine lv_iadd hx hb dL_law_556 ?_
  refine va_sld hx hb hX hbl hbA hS (zl_in h3 hL (by decide)) dL_law_557 ?_
  refine lv_aload_n hx hb dL_law_558 rfl (lv_at hl 0 rfl) ?_
  refine lv_iload_n hx hb dL_law_559 rfl (lv_at hl 3 rfl) ?_
  refine lv_iconst (v := (2 : Int32)) hx hb dL_law_560 (by decide) ?_
  refine lv_iadd hx hb dL_law_561 ?_
  refine va_sld hx hb hX hbl hbA hS (zl_in h3 hL (by decide)) dL_law_562 ?_
  obtain ⟨R2, hf2, hJ2, hM2⟩ := K_X12_ofSuit l D cs k H.size am w hJ (xs (x3 + (1 : Int32)).toNatClampNeg) (xs (x3 + (2 : Int32)).toNatClampNeg)
  refine zk_LMi (As := [.int (xs (x3 + (1 : Int32)).toNatClampNeg), .int (xs (x3 + (2 : Int32)).toNatClampNeg)]) (rest := []) hE hO hM2 ⟨hx, hb, hml, hown, ht⟩ (cwV 2 ht gl_56 rfl rfl rfl (by decide +kernel) ⟨Nat.le_of_ble_eq_true rfl, Nat.le_of_ble_eq_true rfl⟩) (va_recv hK hP (ci := 12) (q0 := 0) rfl rfl) hP hD hS hK hA rfl hl.1 (Nat.le_of_ble_eq_true rfl) dL_law_563 ⟨by show _ ≤ 600000; omega, by show _ ≤ 7302250; omega⟩ (fun H locs hP hD hS => ?_)
  refine lv_pop hx hb dL_law_566 rfl ?_
  refine lv_goto (tgt := 1544) hx hb dL_law_567 (by decide) ?_
  exact kk _ _ H locs ls _ _ hI2 hJ2 ⟨(rl_0 hr :), (rl_1 hr :), (rl_2 hr :), (rl_3 hr :), (rl_4 hr :), (rl_5 hr :), (rl_6 hr :), (rl_7 hr :), (rl_8 hr :), (rl_9 hr :), (rl_10 hr :), (rl_11 hr :), (rl_12 hr :), (rl_13 hr :), (rl_14 hr :), (rl_15 hr :), (rl_16 hr :), (rl_17 hr :), (rl_18 hr :), (rl_19 hr :), (rl_20 hr :), (rl_21 hr :), (rl_22 hr :), (rl_23 hr :), (rl_24 hr :), (rl_25 hr :), (rl_26 hr :), (rl_27 hr :), (rl_28 hr :), (rl_29 hr :), (rl_30 hr :), (rl_31 hr :), (rl_32 hr :), (rl_33 hr :)⟩ (by omega) (by omega) hP hD hS (lv_sub hl [0, 1, 2, 3] rfl)
theorem dL_law_570 : decode cL_law 570 = .ok (.aload_n 1, 1) := zo_43 zh_cL_law_28 10 rfl
theorem dL_law_571 : decode cL_law 571 = .ok (.aload_n 0, 1) := zo_42 zh_cL_law_28 11 rfl
theorem dL_law_572 : decode cL_law 572 = .ok (.iload_n 3, 1) := zo_29 zh_cL_law_28 12 rfl
theorem dL_law_573 : decode cL_law 573 = .ok (.iconst 1, 1) := zo_4 zh_cL_law_28 13 rfl
theorem dL_law_574 : decode cL_law 574 = .ok (.iadd, 1) := zo_96 zh_cL_law_28 14 rfl
theorem dL_law_575 : decode cL_law 575 = .ok (.iaload, 1) := zo_46 zh_cL_law_28 15 rfl
theorem dL_law_576 : decode cL_law 576 = .ok (.aload_n 0, 1) := zo_42 zh_cL_law_28 16 rfl
theorem dL_law_577 : decode cL_law 577 = .ok (.iload_n 3, 1) := zo_29 zh_cL_law_28 17 rfl
theorem dL_law_578 : decode cL_law 578 = .ok (.iconst 2, 1) := zo_5 zh_cL_law_28 18 rfl
theorem dL_law_579 : decode cL_law 579 = .ok (.iadd, 1) := zo_96 zh_cL_law_28 19 rfl
theorem zh_cL_law_29 : zck [46, 182, 0, 57, 87, 44, 42, 29, 4, 96, 46, 42, 29, 5, 96, 46, 182, 0, 60, 87, 167, 3] (zdu 580 cL_law.data.toList) = true := by decide +kernel
theorem dL_law_580 : decode cL_law 580 = .ok (.iaload, 1) := zo_46 zh_cL_law_29 0 rfl
theorem dL_law_581 : decode cL_law 581 = .ok (.invokevirtual 57, 3) := zo_182 zh_cL_law_29 1 rfl
theorem dL_law_584 : decode cL_law 584 = .ok (.pop, 1) := zo_87 zh_cL_law_29 4 rfl
theorem dL_law_585 : decode cL_law 585 = .ok (.aload_n 2, 1) := zo_44 zh_cL_law_29 5 rfl
theorem dL_law_586 : decode cL_law 586 = .ok (.aload_n 0, 1) := zo_42 zh_cL_law_29 6 rfl
theorem dL_law_587 : decode cL_law 587 = .ok (.iload_n 3, 1) := zo_29 zh_cL_law_29 7 rfl
theorem dL_law_588 : decode cL_law 588 = .ok (.iconst 1, 1) := zo_4 zh_cL_law_29 8 rfl
theorem dL_law_589 : decode cL_law 589 = .ok (.iadd, 1) := zo_96 zh_cL_law_29 9 rfl
theorem dL_law_590 : decode cL_law 590 = .ok (.iaload, 1) := zo_46 zh_cL_law_29 10 rfl
theorem dL_law_591 : decode cL_law 591 = .ok (.aload_n 0, 1) := zo_42 zh_cL_law_29 11 rfl
theorem dL_law_592 : decode cL_law 592 = .ok (.iload_n 3, 1) := zo_29 zh_cL_law_29 12 rfl
theorem dL_law_593 : decode cL_law 593 = .ok (.iconst 2, 1) := zo_5 zh_cL_law_29 13 rfl
theorem dL_law_594 : decode cL_law 594 = .ok (.iadd, 1) := zo_96 zh_cL_law_29 14 rfl
theorem dL_law_595 : decode cL_law 595 = .ok (.iaload, 1) := zo_46 zh_cL_law_29 15 rfl
theorem dL_law_596 : decode cL_law 596 = .ok (.invokevirtual 60, 3) := zo_182 zh_cL_law_29 16 rfl
theorem dL_law_599 : decode cL_law 599 = .ok (.pop, 1) := zo_87 zh_cL_law_29 19 rfl
theorem zh_cL_law_30 : zck [167, 3, 176, 43, 42, 29, 4, 96, 46, 42, 29, 5, 96, 46, 182, 0, 61, 87, 44, 42, 29, 4] (zdu 600 cL_law.data.toList) = true := by decide +kernel
theorem dL_law_600 : decode cL_law 600 = .ok (.goto 944, 3) := zo_p167 zh_cL_law_30 0 944 rfl rfl
set_option maxHeartbeats 8000000 in
set_option maxRecDepth 100000 in
theorem law_case_10 {p : Program} {l : Launch} {e : Env} {s : State} {m : MethodId} {below : List Frame} {meth : Method} {c : Code} {b L : Nat} {xs : Nat → Int32} {D : va_G} {cs : Nat → ClassId} {k : (Nat → Nat) × (Nat → Nat)} {ad am : Nat → Nat} (C0 : lw_At p s m meth c b L xs) (hK : va_K D classes (zT cs) s) (hO : zO s) (hE : zE k (fun q : Nat => s.heap.size ≤ q) s) (hL : L ≤ 3072) (x3 : Int32) (h3 : 0 ≤ x3.toInt ∧ x3.toInt + 6 ≤ (L : Int)) (z : ZT) (w : MT) (hI : IX ad cs z) (hJ : IM w) (hr : RL z w) (cells slots : Nat) (hc : cells + 2 ≤ 600000) (hs : slots + 122 ≤ 7302250) (H : Heap) (locs : List Loc) (ls : Array Slot) (hP : va_P D classes (WM am cs w ++ WX ad cs z) H) (hD : va_D (fun q : Nat => s.heap.size ≤ q) (WM am cs w ++ WX ad cs z)) (hS : va_S (fun q : Nat => s.heap.size ≤ q) s.heap H locs) (hl : lv_has ls 4 [(0, .ref b), (1, .ref (ad 0)), (2, .ref (am 41)), (3, .int x3)]) (kk : ∀ (z2 : ZT) (w2 : MT) (H : Heap) (locs : List Loc) (ls : Array Slot) (cells2 slots2 : Nat), IX ad cs z2 → IM w2 → RL z2 w2 → cells2 ≤ cells + 2 → slots2 ≤ slots + 122 → va_P D classes (WM am cs w2 ++ WX ad cs z2) H → va_D (fun q : Nat => s.heap.size ≤ q) (WM am cs w2 ++ WX ad cs z2) → va_S (fun q : Nat => s.heap.size ≤ q) s.heap H locs → lv_has ls 4 [(0, .ref b), (1, .ref (ad 0)), (2, .ref (am 41)), (3, .int x3)] → W p l e room_1 s m #[Value.ref b] below meth c H locs cells2 slots2 (lw_Z below #[Value.ref b] s) (F0 m 1544 ls [])) : W p l e room_1 s m #[Value.ref b] below meth c H locs cells slots (lw_Z below #[Value.ref b] s) (F0 m 570 ls []) := by
  obtain ⟨hx, hb, hret, hml, hown, hts, hX, hbl, hlocks, hgv⟩ := id C0
  have hA : ∀ q : Nat, s.heap.size ≤ q → (fun q : Nat => s.heap.size ≤ q) q := fun _ h => h
  have hbA : ¬ (fun q : Nat => s.heap.size ≤ q) b := Nat.not_le.mpr hbl
  have ht : ∀ w ∈ zW, w.before #[Value.ref b] s = true := fun w hw => hts w (List.mem_filter.mp hw).1
  refine lv_aload_n hx hb dL_law_570 rfl (lv_at hl 1 rfl) ?_
  refine lv_aload_n hx hb dL_law_571 rfl (lv_at hl 0 rfl) ?_
  refine lv_iload_n hx hb dL_law_572 rfl (lv_at hl 3 rfl) ?_
  refine lv_iconst (v := (1 : Int32)) hx hb dL_law_573 (by decide) ?_
  refine lv_iadd hx hb dL_law_574 ?_
  refine va_sld hx hb hX hbl hbA hS (zl_in h3 hL (by decide)) dL_law_575 ?_
  refine lv_aload_n hx hb dL_law_576 rfl (lv_at hl 0 rfl) ?_
  refine lv_iload_n hx hb dL_law_577 rfl (lv_at hl 3 rfl) ?_
  refine lv_iconst (v := (2 : Int32)) hx hb dL_law_578 (by decide) ?_
  refine lv_iadd hx hb dL_law_579 ?_
  refine va_sld hx hb hX hbl hbA hS (zl_in h3 hL (by decide)) dL_law_580 ?_
  obtain ⟨R1, hf1, hI2, hM1⟩ := K_X11_won l D cs k H.size ad z hI (xs (x3 + (1 : Int32)).toNatClampNeg) (xs (x3 + (2 : Int32)).toNatClampNeg)
  refine zk_LXi (As := [.int (xs (x3 + (1 : Int32)).toNatClampNeg), .int (xs (x3 + (2 : Int32)).toNatClampNeg)]) (rest := []) hE hO hM1 ⟨hx, hb, hml, hown, ht⟩ (cwV 2 ht gl_57 rfl rfl rfl (by decide +kernel) ⟨Nat.le_of_ble_eq_true rfl, Nat.le_of_ble_eq_true rfl⟩) (va_recv hK hP (ci := 11) (q0 := 44) rfl rfl) hP hD hS hK hA rfl hl.1 (Nat.le_of_ble_eq_true rfl) dL_law_581 ⟨by show _ ≤ 600000; omega, by show _ ≤ 7302250; omega⟩ (fun H locs hP hD hS => ?_)
  refine lv_pop hx hb dL_law_584 rfl ?_
  refine lv_aload_n hx hb dL_law_585 rfl (lv_at hl 2 rfl) ?_
  refine lv_aload_n hx hb dL_law_586 rfl (lv_at hl 0 rfl) ?_
  refine lv_iload_n hx hb dL_law_587 rfl (lv_at hl 3 rfl) ?_
  refine lv_iconst (v := (1 : Int32)) hx hb dL_law_588 (by decide) ?_
  refine lv_iadd hx hb dL_law_589 ?_
  refine va_sld hx hb hX hbl hbA hS (zl_in h3 hL (by decide)) dL_law_590 ?_
  refine lv_aload_n hx hb dL_law_591 rfl (lv_at hl 0 rfl) ?_
  refine lv_iload_n hx hb dL_law_592 rfl (lv_at hl 3 rfl) ?_
  refine lv_iconst (v := (2 : Int32)) hx hb dL_law_593 (by decide) ?_
  refine lv_iadd hx hb dL_law_594 ?_
  refine va_sld hx hb hX hbl hbA hS (zl_in h3 hL (by decide)) dL_law_595 ?_
  obtain ⟨R2, hf2, hJ2, hM2⟩ := K_X12_won l D cs k H.size am w hJ (xs (x3 + (1 : Int32)).toNatClampNeg) (xs (x3 + (2 : Int32)).toNatClampNeg)
  have hf3 := hf2
  rw [← (rl_0 hr :), ← (rl_5 hr :), ← (rl_6 hr :), ← (rl_7 hr :), ← (rl_11 hr :), ← (rl_12 hr :), ← (rl_15 hr :), ← (rl_17 hr :), ← (rl_18 hr :), ← (rl_19 hr :), ← (rl_20 hr :), ← (rl_21 hr :)] at hf3
  obtain ⟨EQ, E1, E2, E3, E4, E5, E6, E7, E8, E9, E10⟩ := pw_won (rl_31 hr :) (ix_2 hI) (ix_0 hI) (ix_6 hI) (by rw [(rl_17 hr :)]; exact (rl_29 hr :)) ⟨(im_7 hJ).1, (ix_7 hI).2⟩ (rl_30 hr :) hf1 hf3
  have EQ2 : RL ((fun n => zc n 30 R1.2.2.1 (zc n 31 R1.2.2.2.1 (z.1 n))), (fun n => zc n 5 R1.2.1 (zc n 23 R1.2.2.2.2.1 (zc n 24 R1.2.2.2.2.2.1 (zc n 25 R1.2.2.2.2.2.2.1 (zc n 26 R1.2.2.2.2.2.2.2.1 (zc n 31 R1.2.2.2.2.2.2.2.2.1 (zc n 34 R1.2.2.2.2.2.2.2.2.2 (z.2.1 n)))))))), z.2.2.1, z.2.2.2.1, z.2.2.2.2.1, z.2.2.2.2.2.1, z.2.2.2.2.2.2.1, z.2.2.2.2.2.2.2) ((fun n => zc n 7 R2.2.1 (zc n 8 R2.2.2.1 (w.1 n))), (fun n => zc n 3 R2.2.2.2.1 (zc n 12 R2.2.2.2.2.1 (zc n 15 R2.2.2.2.2.2.1 (zc n 20 R2.2.2.2.2.2.2.1 (zc n 21 R2.2.2.2.2.2.2.2.1 (zc n 22 R2.2.2.2.2.2.2.2.2.1 (zc n 23 R2.2.2.2.2.2.2.2.2.2 (w.2.1 n)))))))), w.2.2) := ⟨(rl_0 hr :), (rl_1 hr :), (rl_2 hr :), (rl_3 hr :), (rl_4 hr :), (rl_5 hr :), (rl_6 hr :), (rl_7 hr :), (rl_8 hr :), (rl_9 hr :), (rl_10 hr :), (E8 rfl), (rl_12 hr :), (rl_13 hr :), (rl_14 hr :), (rl_15 hr :), (rl_16 hr :), E1, E3, E4, E5, E6, (rl_22 hr :), (rl_23 hr :), (rl_24 hr :), (rl_25 hr :), (rl_26 hr :), (rl_27 hr :), (rl_28 hr :), E2, E7, (E9 (rl_31 hr :)), (E10 (rl_32 hr :)), (rl_33 hr :)⟩
  refine zk_LMi (As := [.int (xs (x3 + (1 : Int32)).toNatClampNeg), .int (xs (x3 + (2 : Int32)).toNatClampNeg)]) (rest := []) hE hO hM2 ⟨hx, hb, hml, hown, ht⟩ (cwV 2 ht gl_60 rfl rfl rfl (by decide +kernel) ⟨Nat.le_of_ble_eq_true rfl, Nat.le_of_ble_eq_true rfl⟩) (va_recv hK hP (ci := 12) (q0 := 0) rfl rfl) hP hD hS hK hA rfl hl.1 (Nat.le_of_ble_eq_true rfl) dL_law_596 ⟨by show _ ≤ 600000; omega, by show _ ≤ 7302250; omega⟩ (fun H locs hP hD hS => ?_)
  refine lv_pop hx hb dL_law_599 rfl ?_
  refine lv_goto (tgt := 1544) hx hb dL_law_600 (by decide) ?_
  exact kk _ _ H locs ls _ _ hI2 hJ2 EQ2 (by omega) (by omega) hP hD hS (lv_sub hl [0, 1, 2, 3] rfl)
theorem dL_law_603 : decode cL_law 603 = .ok (.aload_n 1, 1) := zo_43 zh_cL_law_30 3 rfl
theorem dL_law_604 : decode cL_law 604 = .ok (.aload_n 0, 1) := zo_42 zh_cL_law_30 4 rfl
theorem dL_law_605 : decode cL_law 605 = .ok (.iload_n 3, 1) := zo_29 zh_cL_law_30 5 rfl
theorem dL_law_606 : decode cL_law 606 = .ok (.iconst 1, 1) := zo_4 zh_cL_law_30 6 rfl
theorem dL_law_607 : decode cL_law 607 = .ok (.iadd, 1) := zo_96 zh_cL_law_30 7 rfl
theorem dL_law_608 : decode cL_law 608 = .ok (.iaload, 1) := zo_46 zh_cL_law_30 8 rfl
theorem dL_law_609 : decode cL_law 609 = .ok (.aload_n 0, 1) := zo_42 zh_cL_law_30 9 rfl
theorem dL_law_610 : decode cL_law 610 = .ok (.iload_n 3, 1) := zo_29 zh_cL_law_30 10 rfl
theorem dL_law_611 : decode cL_law 611 = .ok (.iconst 2, 1) := zo_5 zh_cL_law_30 11 rfl
theorem dL_law_612 : decode cL_law 612 = .ok (.iadd, 1) := zo_96 zh_cL_law_30 12 rfl
theorem dL_law_613 : decode cL_law 613 = .ok (.iaload, 1) := zo_46 zh_cL_law_30 13 rfl
theorem dL_law_614 : decode cL_law 614 = .ok (.invokevirtual 61, 3) := zo_182 zh_cL_law_30 14 rfl
theorem dL_law_617 : decode cL_law 617 = .ok (.pop, 1) := zo_87 zh_cL_law_30 17 rfl
theorem dL_law_618 : decode cL_law 618 = .ok (.aload_n 2, 1) := zo_44 zh_cL_law_30 18 rfl
theorem dL_law_619 : decode cL_law 619 = .ok (.aload_n 0, 1) := zo_42 zh_cL_law_30 19 rfl
theorem zh_cL_law_31 : zck [29, 4, 96, 46, 42, 29, 5, 96, 46, 182, 0, 64, 87, 167, 3, 143, 43, 42, 29, 4, 96, 46] (zdu 620 cL_law.data.toList) = true := by decide +kernel
theorem dL_law_620 : decode cL_law 620 = .ok (.iload_n 3, 1) := zo_29 zh_cL_law_31 0 rfl
theorem dL_law_621 : decode cL_law 621 = .ok (.iconst 1, 1) := zo_4 zh_cL_law_31 1 rfl
theorem dL_law_622 : decode cL_law 622 = .ok (.iadd, 1) := zo_96 zh_cL_law_31 2 rfl
theorem dL_law_623 : decode cL_law 623 = .ok (.iaload, 1) := zo_46 zh_cL_law_31 3 rfl
theorem dL_law_624 : decode cL_law 624 = .ok (.aload_n 0, 1) := zo_42 zh_cL_law_31 4 rfl
theorem dL_law_625 : decode cL_law 625 = .ok (.iload_n 3, 1) := zo_29 zh_cL_law_31 5 rfl
theorem dL_law_626 : decode cL_law 626 = .ok (.iconst 2, 1) := zo_5 zh_cL_law_31 6 rfl
theorem dL_law_627 : decode cL_law 627 = .ok (.iadd, 1) := zo_96 zh_cL_law_31 7 rfl
theorem dL_law_628 : decode cL_law 628 = .ok (.iaload, 1) := zo_46 zh_cL_law_31 8 rfl
theorem dL_law_629 : decode cL_law 629 = .ok (.invokevirtual 64, 3) := zo_182 zh_cL_law_31 9 rfl
theorem dL_law_632 : decode cL_law 632 = .ok (.pop, 1) := zo_87 zh_cL_law_31 12 rfl
theorem dL_law_633 : decode cL_law 633 = .ok (.goto 911, 3) := zo_p167 zh_cL_law_31 13 911 rfl rfl
set_option maxHeartbeats 8000000 in
set_option maxRecDepth 100000 in
theorem law_case_11 {p : Program} {l : Launch} {e : Env} {s : State} {m : MethodId} {below : List Frame} {meth : Method} {c : Code} {b L : Nat} {xs : Nat → Int32} {D : va_G} {cs : Nat → ClassId} {k : (Nat → Nat) × (Nat → Nat)} {ad am : Nat → Nat} (C0 : lw_At p s m meth c b L xs) (hK : va_K D classes (zT cs) s) (hO : zO s) (hE : zE k (fun q : Nat => s.heap.size ≤ q) s) (hL : L ≤ 3072) (x3 : Int32) (h3 : 0 ≤ x3.toInt ∧ x3.toInt + 6 ≤ (L : Int)) (z : ZT) (w : MT) (hI : IX ad cs z) (hJ : IM w) (hr : RL z w) (cells slots : Nat) (hc : cells + 2 ≤ 600000) (hs : slots + 122 ≤ 7302250) (H : Heap) (locs : List Loc) (ls : Array Slot) (hP : va_P D classes (WM am cs w ++ WX ad cs z) H) (hD : va_D (fun q : Nat => s.heap.size ≤ q) (WM am cs w ++ WX ad cs z)) (hS : va_S (fun q : Nat => s.heap.size ≤ q) s.heap H locs) (hl : lv_has ls 4 [(0, .ref b), (1, .ref (ad 0)), (2, .ref (am 41)), (3, .int x3)]) (kk : ∀ (z2 : ZT) (w2 : MT) (H : Heap) (locs : List Loc) (ls : Array Slot) (cells2 slots2 : Nat), IX ad cs z2 → IM w2 → RL z2 w2 → cells2 ≤ cells + 2 → slots2 ≤ slots + 122 → va_P D classes (WM am cs w2 ++ WX ad cs z2) H → va_D (fun q : Nat => s.heap.size ≤ q) (WM am cs w2 ++ WX ad cs z2) → va_S (fun q : Nat => s.heap.size ≤ q) s.heap H locs → lv_has ls 4 [(0, .ref b), (1, .ref (ad 0)), (2, .ref (am 41)), (3, .int x3)] → W p l e room_1 s m #[Value.ref b] below meth c H locs cells2 slots2 (lw_Z below #[Value.ref b] s) (F0 m 1544 ls [])) : W p l e room_1 s m #[Value.ref b] below meth c H locs cells slots (lw_Z below #[Value.ref b] s) (F0 m 603 ls []) := by
  obtain ⟨hx, hb, hret, hml, hown, hts, hX, hbl, hlocks, hgv⟩ := id C0
  have hA : ∀ q : Nat, s.heap.size ≤ q → (fun q : Nat => s.heap.size ≤ q) q := fun _ h => h
  have hbA : ¬ (fun q : Nat => s.heap.size ≤ q) b := Nat.not_le.mpr hbl
  have ht : ∀ w ∈ zW, w.before #[Value.ref b] s = true := fun w hw => hts w (List.mem_filter.mp hw).1
  refine lv_aload_n hx hb dL_law_603 rfl (lv_at hl 1 rfl) ?_
  refine lv_aload_n hx hb dL_law_604 rfl (lv_at hl 0 rfl) ?_
  refine lv_iload_n hx hb dL_law_605 rfl (lv_at hl 3 rfl) ?_
  refine lv_iconst (v := (1 : Int32)) hx hb dL_law_606 (by decide) ?_
  refine lv_iadd hx hb dL_law_607 ?_
  refine va_sld hx hb hX hbl hbA hS (zl_in h3 hL (by decide)) dL_law_608 ?_
  refine lv_aload_n hx hb dL_law_609 rfl (lv_at hl 0 rfl) ?_
  refine lv_iload_n hx hb dL_law_610 rfl (lv_at hl 3 rfl) ?_
  refine lv_iconst (v := (2 : Int32)) hx hb dL_law_611 (by decide) ?_
  refine lv_iadd hx hb dL_law_612 ?_
  refine va_sld hx hb hX hbl hbA hS (zl_in h3 hL (by decide)) dL_law_613 ?_
  obtain ⟨R1, hf1, hI2, hM1⟩ := K_X11_undone l D cs k H.size ad z hI (xs (x3 + (1 : Int32)).toNatClampNeg) (xs (x3 + (2 : Int32)).toNatClampNeg)
  refine zk_LXi (As := [.int (xs (x3 + (1 : Int32)).toNatClampNeg), .int (xs (x3 + (2 : Int32)).toNatClampNeg)]) (rest := []) hE hO hM1 ⟨hx, hb, hml, hown, ht⟩ (cwV 2 ht gl_61 rfl rfl rfl (by decide +kernel) ⟨Nat.le_of_ble_eq_true rfl, Nat.le_of_ble_eq_true rfl⟩) (va_recv hK hP (ci := 11) (q0 := 44) rfl rfl) hP hD hS hK hA rfl hl.1 (Nat.le_of_ble_eq_true rfl) dL_law_614 ⟨by show _ ≤ 600000; omega, by show _ ≤ 7302250; omega⟩ (fun H locs hP hD hS => ?_)
  refine lv_pop hx hb dL_law_617 rfl ?_
  refine lv_aload_n hx hb dL_law_618 rfl (lv_at hl 2 rfl) ?_
  refine lv_aload_n hx hb dL_law_619 rfl (lv_at hl 0 rfl) ?_
  refine lv_iload_n hx hb dL_law_620 rfl (lv_at hl 3 rfl) ?_
  refine lv_iconst (v := (1 : Int32)) hx hb dL_law_621 (by decide) ?_
  refine lv_iadd hx hb dL_law_622 ?_
  refine va_sld hx hb hX hbl hbA hS (zl_in h3 hL (by decide)) dL_law_623 ?_
  refine lv_aload_n hx hb dL_law_624 rfl (lv_at hl 0 rfl) ?_
  refine lv_iload_n hx hb dL_law_625 rfl (lv_at hl 3 rfl) ?_
  refine lv_iconst (v := (2 : Int32)) hx hb dL_law_626 (by decide) ?_
  refine lv_iadd hx hb dL_law_627 ?_
  refine va_sld hx hb hX hbl hbA hS (zl_in h3 hL (by decide)) dL_law_628 ?_
  obtain ⟨R2, hf2, hJ2, hM2⟩ := K_X12_undone l D cs k H.size am w hJ (xs (x3 + (1 : Int32)).toNatClampNeg) (xs (x3 + (2 : Int32)).toNatClampNeg)
  have hf3 := hf2
  rw [← (rl_0 hr :), ← (rl_5 hr :), ← (rl_6 hr :), ← (rl_7 hr :), ← (rl_11 hr :), ← (rl_12 hr :), ← (rl_15 hr :), ← (rl_17 hr :), ← (rl_18 hr :), ← (rl_19 hr :), ← (rl_20 hr :), ← (rl_21 hr :)] at hf3
  obtain ⟨EQ, E1, E2, E3, E4, E5, E6, E7, E8, E9, E10⟩ := pw_undone (rl_32 hr :) (fun i hi => ((rl_33 hr :) i hi).2.2.2.1) (fun i hi => ((rl_33 hr :) i hi).2.2.2.2.2.2.2.2.2.1) (ix_2 hI) (ix_0 hI) (ix_6 hI) (by rw [(rl_17 hr :)]; exact (rl_29 hr :)) ⟨(im_7 hJ).1, (ix_7 hI).2⟩ (rl_30 hr :) hf1 hf3
  have EQ2 : RL ((fun n => zc n 30 R1.2.2.1 (zc n 31 R1.2.2.2.1 (z.1 n))), (fun n => zc n 5 R1.2.1 (zc n 23 R1.2.2.2.2.1 (zc n 24 R1.2.2.2.2.2.1 (zc n 25 R1.2.2.2.2.2.2.1 (zc n 26 R1.2.2.2.2.2.2.2.1 (zc n 31 R1.2.2.2.2.2.2.2.2.1 (zc n 34 R1.2.2.2.2.2.2.2.2.2 (z.2.1 n)))))))), z.2.2.1, z.2.2.2.1, z.2.2.2.2.1, z.2.2.2.2.2.1, z.2.2.2.2.2.2.1, z.2.2.2.2.2.2.2) ((fun n => zc n 7 R2.2.1 (zc n 8 R2.2.2.1 (w.1 n))), (fun n => zc n 3 R2.2.2.2.1 (zc n 12 R2.2.2.2.2.1 (zc n 15 R2.2.2.2.2.2.1 (zc n 20 R2.2.2.2.2.2.2.1 (zc n 21 R2.2.2.2.2.2.2.2.1 (zc n 22 R2.2.2.2.2.2.2.2.2.1 (zc n 23 R2.2.2.2.2.2.2.2.2.2 (w.2.1 n)))))))), w.2.2) := ⟨(rl_0 hr :), (rl_1 hr :), (rl_2 hr :), (rl_3 hr :), (rl_4 hr :), (rl_5 hr :), (rl_6 hr :), (rl_7 hr :), (rl_8 hr :), (rl_9 hr :), (rl_10 hr :), (E8 rfl), (rl_12 hr :), (rl_13 hr :), (rl_14 hr :), (rl_15 hr :), (rl_16 hr :), E1, E3, E4, E5, E6, (rl_22 hr :), (rl_23 hr :), (rl_24 hr :), (rl_25 hr :), (rl_26 hr :), (rl_27 hr :), (rl_28 hr :), E2, E7, (E9 (rl_31 hr :)), (E10 (rl_32 hr :)), (rl_33 hr :)⟩
  refine zk_LMi (As := [.int (xs (x3 + (1 : Int32)).toNatClampNeg), .int (xs (x3 + (2 : Int32)).toNatClampNeg)]) (rest := []) hE hO hM2 ⟨hx, hb, hml, hown, ht⟩ (cwV 2 ht gl_64 rfl rfl rfl (by decide +kernel) ⟨Nat.le_of_ble_eq_true rfl, Nat.le_of_ble_eq_true rfl⟩) (va_recv hK hP (ci := 12) (q0 := 0) rfl rfl) hP hD hS hK hA rfl hl.1 (Nat.le_of_ble_eq_true rfl) dL_law_629 ⟨by show _ ≤ 600000; omega, by show _ ≤ 7302250; omega⟩ (fun H locs hP hD hS => ?_)
  refine lv_pop hx hb dL_law_632 rfl ?_
  refine lv_goto (tgt := 1544) hx hb dL_law_633 (by decide) ?_
  exact kk _ _ H locs ls _ _ hI2 hJ2 EQ2 (by omega) (by omega) hP hD hS (lv_sub hl [0, 1, 2, 3] rfl)
theorem dL_law_636 : decode cL_law 636 = .ok (.aload_n 1, 1) := zo_43 zh_cL_law_31 16 rfl
theorem dL_law_637 : decode cL_law 637 = .ok (.aload_n 0, 1) := zo_42 zh_cL_law_31 17 rfl
theorem dL_law_638 : decode cL_law 638 = .ok (.iload_n 3, 1) := zo_29 zh_cL_law_31 18 rfl
theorem dL_law_639 : decode cL_law 639 = .ok (.iconst 1, 1) := zo_4 zh_cL_law_31 19 rfl
theorem zh_cL_law_32 : zck [96, 46, 182, 0, 65, 87, 44, 42, 29, 4, 96, 46, 182, 0, 69, 87, 167, 3, 120, 43, 42, 29] (zdu 640 cL_law.data.toList) = true := by decide +kernel
theorem dL_law_640 : decode cL_law 640 = .ok (.iadd, 1) := zo_96 zh_cL_law_32 0 rfl
theorem dL_law_641 : decode cL_law 641 = .ok (.iaload, 1) := zo_46 zh_cL_law_32 1 rfl
theorem dL_law_642 : decode cL_law 642 = .ok (.invokevirtual 65, 3) := zo_182 zh_cL_law_32 2 rfl
theorem dL_law_645 : decode cL_law 645 = .ok (.pop, 1) := zo_87 zh_cL_law_32 5 rfl
theorem dL_law_646 : decode cL_law 646 = .ok (.aload_n 2, 1) := zo_44 zh_cL_law_32 6 rfl
theorem dL_law_647 : decode cL_law 647 = .ok (.aload_n 0, 1) := zo_42 zh_cL_law_32 7 rfl
theorem dL_law_648 : decode cL_law 648 = .ok (.iload_n 3, 1) := zo_29 zh_cL_law_32 8 rfl
theorem dL_law_649 : decode cL_law 649 = .ok (.iconst 1, 1) := zo_4 zh_cL_law_32 9 rfl
theorem dL_law_650 : decode cL_law 650 = .ok (.iadd, 1) := zo_96 zh_cL_law_32 10 rfl
theorem dL_law_651 : decode cL_law 651 = .ok (.iaload, 1) := zo_46 zh_cL_law_32 11 rfl
theorem dL_law_652 : decode cL_law 652 = .ok (.invokevirtual 69, 3) := zo_182 zh_cL_law_32 12 rfl
theorem dL_law_655 : decode cL_law 655 = .ok (.pop, 1) := zo_87 zh_cL_law_32 15 rfl
theorem dL_law_656 : decode cL_law 656 = .ok (.goto 888, 3) := zo_p167 zh_cL_law_32 16 888 rfl rfl
set_option maxHeartbeats 8000000 in
set_option maxRecDepth 100000 in
theorem law_case_12 {p : Program} {l : Launch} {e : Env} {s : State} {m : MethodId} {below : List Frame} {meth : Method} {c : Code} {b L : Nat} {xs : Nat → Int32} {D : va_G} {cs : Nat → ClassId} {k : (Nat → Nat) × (Nat → Nat)} {ad am : Nat → Nat} (C0 : lw_At p s m meth c b L xs) (hK : va_K D classes (zT cs) s) (hO : zO s) (hE : zE k (fun q : Nat => s.heap.size ≤ q) s) (hL : L ≤ 3072) (x3 : Int32) (h3 : 0 ≤ x3.toInt ∧ x3.toInt + 6 ≤ (L : Int)) (z : ZT) (w : MT) (hI : IX ad cs z) (hJ : IM w) (hr : RL z w) (cells slots : Nat) (hc : cells + 2 ≤ 600000) (hs : slots + 122 ≤ 7302250) (H : Heap) (locs : List Loc) (ls : Array Slot) (hP : va_P D classes (WM am cs w ++ WX ad cs z) H) (hD : va_D (fun q : Nat => s.heap.size ≤ q) (WM am cs w ++ WX ad cs z)) (hS : va_S (fun q : Nat => s.heap.size ≤ q) s.heap H locs) (hl : lv_has ls 4 [(0, .ref b), (1, .ref (ad 0)), (2, .ref (am 41)), (3, .int x3)]) (kk : ∀ (z2 : ZT) (w2 : MT) (H : Heap) (locs : List Loc) (ls : Array Slot) (cells2 slots2 : Nat), IX ad cs z2 → IM w2 → RL z2 w2 → cells2 ≤ cells + 2 → slots2 ≤ slots + 122 → va_P D classes (WM am cs w2 ++ WX ad cs z2) H → va_D (fun q : Nat => s.heap.size ≤ q) (WM am cs w2 ++ WX ad cs z2) → va_S (fun q : Nat => s.heap.size ≤ q) s.heap H locs → lv_has ls 4 [(0, .ref b), (1, .ref (ad 0)), (2, .ref (am 41)), (3, .int x3)] → W p l e room_1 s m #[Value.ref b] below meth c H locs cells2 slots2 (lw_Z below #[Value.ref b] s) (F0 m 1544 ls [])) : W p l e room_1 s m #[Value.ref b] below meth c H locs cells slots (lw_Z below #[Value.ref b] s) (F0 m 636 ls []) := by
  obtain ⟨hx, hb, hret, hml, hown, hts, hX, hbl, hlocks, hgv⟩ := id C0
  have hA : ∀ q : Nat, s.heap.size ≤ q → (fun q : Nat => s.heap.size ≤ q) q := fun _ h => h
  have hbA : ¬ (fun q : Nat => s.heap.size ≤ q) b := Nat.not_le.mpr hbl
  have ht : ∀ w ∈ zW, w.before #[Value.ref b] s = true := fun w hw => hts w (List.mem_filter.mp hw).1
  refine lv_aload_n hx hb dL_law_636 rfl (lv_at hl 1 rfl) ?_
  refine lv_aload_n hx hb dL_law_637 rfl (lv_at hl 0 rfl) ?_
  refine lv_iload_n hx hb dL_law_638 rfl (lv_at hl 3 rfl) ?_
  refine lv_iconst (v := (1 : Int32)) hx hb dL_law_639 (by decide) ?_
  refine lv_iadd hx hb dL_law_640 ?_
  refine va_sld hx hb hX hbl hbA hS (zl_in h3 hL (by decide)) dL_law_641 ?_
  obtain ⟨R1, hM1⟩ := K_X11_law l D cs k H.size ad z hI (xs (x3 + (1 : Int32)).toNatClampNeg)
  refine zk_LXS (post := fun (r : Int32) (u : ZT) => r = R1.1 ∧ IX ad cs u ∧ KPL z u (xs (x3 + (1 : Int32)).toNatClampNeg)) (A2 := fun (u : ZT) => WX ad cs u) (As := [.int (xs (x3 + (1 : Int32)).toNatClampNeg)]) (rest := []) hE hO hM1 ⟨hx, hb, hml, hown, ht⟩ (cwV 1 ht gl_65 rfl rfl rfl (by decide +kernel) ⟨Nat.le_of_ble_eq_true rfl, Nat.le_of_ble_eq_true rfl⟩) (va_recv hK hP (ci := 11) (q0 := 44) rfl rfl) hP hD hS hK hA rfl hl.1 (Nat.le_of_ble_eq_true rfl) dL_law_642 ⟨by show _ ≤ 600000; omega, by show _ ≤ 7302250; omega⟩ (fun r z2 H locs hq hP hD hS => ?_)
  obtain ⟨hq1, hI2, hz2⟩ := hq
  subst hq1
  refine lv_pop hx hb dL_law_645 rfl ?_
  refine lv_aload_n hx hb dL_law_646 rfl (lv_at hl 2 rfl) ?_
  refine lv_aload_n hx hb dL_law_647 rfl (lv_at hl 0 rfl) ?_
  refine lv_iload_n hx hb dL_law_648 rfl (lv_at hl 3 rfl) ?_
  refine lv_iconst (v := (1 : Int32)) hx hb dL_law_649 (by decide) ?_
  refine lv_iadd hx hb dL_law_650 ?_
  refine va_sld hx hb hX hbl hbA hS (zl_in h3 hL (by decide)) dL_law_651 ?_
  obtain ⟨R2, hf2, hJ2, hM2⟩ := K_X12_law l D cs k H.size am w hJ (xs (x3 + (1 : Int32)).toNatClampNeg)
  have EQ2 := ps_law hI hr hz2 hf2
  refine zk_LMi (As := [.int (xs (x3 + (1 : Int32)).toNatClampNeg)]) (rest := []) hE hO hM2 ⟨hx, hb, hml, hown, ht⟩ (cwV 1 ht gl_69 rfl rfl rfl (by decide +kernel) ⟨Nat.le_of_ble_eq_true rfl, Nat.le_of_ble_eq_true rfl⟩) (va_recv hK hP (ci := 12) (q0 := 0) rfl rfl) hP hD hS hK hA rfl hl.1 (Nat.le_of_ble_eq_true rfl) dL_law_652 ⟨by show _ ≤ 600000; omega, by show _ ≤ 7302250; omega⟩ (fun H locs hP hD hS => ?_)
  refine lv_pop hx hb dL_law_655 rfl ?_
  refine lv_goto (tgt := 1544) hx hb dL_law_656 (by decide) ?_
  exact kk _ _ H locs ls _ _ hI2 hJ2 EQ2 (by omega) (by omega) hP hD hS (lv_sub hl [0, 1, 2, 3] rfl)
theorem dL_law_659 : decode cL_law 659 = .ok (.aload_n 1, 1) := zo_43 zh_cL_law_32 19 rfl
theorem zh_cL_law_33 : zck [42, 29, 4, 96, 46, 42, 29, 5, 96, 46, 42, 29, 6, 96, 46, 182, 0, 70, 87, 44, 42, 29] (zdu 660 cL_law.data.toList) = true := by decide +kernel
theorem dL_law_660 : decode cL_law 660 = .ok (.aload_n 0, 1) := zo_42 zh_cL_law_33 0 rfl
theorem dL_law_661 : decode cL_law 661 = .ok (.iload_n 3, 1) := zo_29 zh_cL_law_33 1 rfl
theorem dL_law_662 : decode cL_law 662 = .ok (.iconst 1, 1) := zo_4 zh_cL_law_33 2 rfl
theorem dL_law_663 : decode cL_law 663 = .ok (.iadd, 1) := zo_96 zh_cL_law_33 3 rfl
theorem dL_law_664 : decode cL_law 664 = .ok (.iaload, 1) := zo_46 zh_cL_law_33 4 rfl
theorem dL_law_665 : decode cL_law 665 = .ok (.aload_n 0, 1) := zo_42 zh_cL_law_33 5 rfl
theorem dL_law_666 : decode cL_law 666 = .ok (.iload_n 3, 1) := zo_29 zh_cL_law_33 6 rfl
theorem dL_law_667 : decode cL_law 667 = .ok (.iconst 2, 1) := zo_5 zh_cL_law_33 7 rfl
theorem dL_law_668 : decode cL_law 668 = .ok (.iadd, 1) := zo_96 zh_cL_law_33 8 rfl
theorem dL_law_669 : decode cL_law 669 = .ok (.iaload, 1) := zo_46 zh_cL_law_33 9 rfl
theorem dL_law_670 : decode cL_law 670 = .ok (.aload_n 0, 1) := zo_42 zh_cL_law_33 10 rfl
theorem dL_law_671 : decode cL_law 671 = .ok (.iload_n 3, 1) := zo_29 zh_cL_law_33 11 rfl
theorem dL_law_672 : decode cL_law 672 = .ok (.iconst 3, 1) := zo_6 zh_cL_law_33 12 rfl
theorem dL_law_673 : decode cL_law 673 = .ok (.iadd, 1) := zo_96 zh_cL_law_33 13 rfl
theorem dL_law_674 : decode cL_law 674 = .ok (.iaload, 1) := zo_46 zh_cL_law_33 14 rfl
theorem dL_law_675 : decode cL_law 675 = .ok (.invokevirtual 70, 3) := zo_182 zh_cL_law_33 15 rfl
theorem dL_law_678 : decode cL_law 678 = .ok (.pop, 1) := zo_87 zh_cL_law_33 18 rfl
theorem dL_law_679 : decode cL_law 679 = .ok (.aload_n 2, 1) := zo_44 zh_cL_law_33 19 rfl
theorem zh_cL_law_34 : zck [42, 29, 4, 96, 46, 42, 29, 5, 96, 46, 42, 29, 6, 96, 46, 182, 0, 73, 87, 167, 3, 77] (zdu 680 cL_law.data.toList) = true := by decide +kernel
theorem dL_law_680 : decode cL_law 680 = .ok (.aload_n 0, 1) := zo_42 zh_cL_law_34 0 rfl
theorem dL_law_681 : decode cL_law 681 = .ok (.iload_n 3, 1) := zo_29 zh_cL_law_34 1 rfl
theorem dL_law_682 : decode cL_law 682 = .ok (.iconst 1, 1) := zo_4 zh_cL_law_34 2 rfl
theorem dL_law_683 : decode cL_law 683 = .ok (.iadd, 1) := zo_96 zh_cL_law_34 3 rfl
theorem dL_law_684 : decode cL_law 684 = .ok (.iaload, 1) := zo_46 zh_cL_law_34 4 rfl
theorem dL_law_685 : decode cL_law 685 = .ok (.aload_n 0, 1) := zo_42 zh_cL_law_34 5 rfl
theorem dL_law_686 : decode cL_law 686 = .ok (.iload_n 3, 1) := zo_29 zh_cL_law_34 6 rfl
theorem dL_law_687 : decode cL_law 687 = .ok (.iconst 2, 1) := zo_5 zh_cL_law_34 7 rfl
theorem dL_law_688 : decode cL_law 688 = .ok (.iadd, 1) := zo_96 zh_cL_law_34 8 rfl
theorem dL_law_689 : decode cL_law 689 = .ok (.iaload, 1) := zo_46 zh_cL_law_34 9 rfl
theorem dL_law_690 : decode cL_law 690 = .ok (.aload_n 0, 1) := zo_42 zh_cL_law_34 10 rfl
theorem dL_law_691 : decode cL_law 691 = .ok (.iload_n 3, 1) := zo_29 zh_cL_law_34 11 rfl
theorem dL_law_692 : decode cL_law 692 = .ok (.iconst 3, 1) := zo_6 zh_cL_law_34 12 rfl
theorem dL_law_693 : decode cL_law 693 = .ok (.iadd, 1) := zo_96 zh_cL_law_34 13 rfl
theorem dL_law_694 : decode cL_law 694 = .ok (.iaload, 1) := zo_46 zh_cL_law_34 14 rfl
theorem dL_law_695 : decode cL_law 695 = .ok (.invokevirtual 73, 3) := zo_182 zh_cL_law_34 15 rfl
theorem dL_law_698 : decode cL_law 698 = .ok (.pop, 1) := zo_87 zh_cL_law_34 18 rfl
theorem dL_law_699 : decode cL_law 699 = .ok (.goto 845, 3) := zo_p167 zh_cL_law_34 19 845 rfl rfl
set_option maxHeartbeats 8000000 in
set_option maxRecDepth 100000 in
theorem law_case_13 {p : Program} {l : Launch} {e : Env} {s : State} {m : MethodId} {below : List Frame} {meth : Method} {c : Code} {b L : Nat} {xs : Nat → Int32} {D : va_G} {cs : Nat → ClassId} {k : (Nat → Nat) × (Nat → Nat)} {ad am : Nat → Nat} (C0 : lw_At p s m meth c b L xs) (hK : va_K D classes (zT cs) s) (hO : zO s) (hE : zE k (fun q : Nat => s.heap.size ≤ q) s) (hL : L ≤ 3072) (x3 : Int32) (h3 : 0 ≤ x3.toInt ∧ x3.toInt + 6 ≤ (L : Int)) (z : ZT) (w : MT) (hI : IX ad cs z) (hJ : IM w) (hr : RL z w) (cells slots : Nat) (hc : cells + 2 ≤ 600000) (hs : slots + 122 ≤ 7302250) (H : Heap) (locs : List Loc) (ls : Array Slot) (hP : va_P D classes (WM am cs w ++ WX ad cs z) H) (hD : va_D (fun q : Nat => s.heap.size ≤ q) (WM am cs w ++ WX ad cs z)) (hS : va_S (fun q : Nat => s.heap.size ≤ q) s.heap H locs) (hl : lv_has ls 4 [(0, .ref b), (1, .ref (ad 0)), (2, .ref (am 41)), (3, .int x3)]) (kk : ∀ (z2 : ZT) (w2 : MT) (H : Heap) (locs : List Loc) (ls : Array Slot) (cells2 slots2 : Nat), IX ad cs z2 → IM w2 → RL z2 w2 → cells2 ≤ cells + 2 → slots2 ≤ slots + 122 → va_P D classes (WM am cs w2 ++ WX ad cs z2) H → va_D (fun q : Nat => s.heap.size ≤ q) (WM am cs w2 ++ WX ad cs z2) → va_S (fun q : Nat => s.heap.size ≤ q) s.heap H locs → lv_has ls 4 [(0, .ref b), (1, .ref (ad 0)), (2, .ref (am 41)), (3, .int x3)] → W p l e room_1 s m #[Value.ref b] below meth c H locs cells2 slots2 (lw_Z below #[Value.ref b] s) (F0 m 1544 ls [])) : W p l e room_1 s m #[Value.ref b] below meth c H locs cells slots (lw_Z below #[Value.ref b] s) (F0 m 659 ls []) := by
  obtain ⟨hx, hb, hret, hml, hown, hts, hX, hbl, hlocks, hgv⟩ := id C0
  have hA : ∀ q : Nat, s.heap.size ≤ q → (fun q : Nat => s.heap.size ≤ q) q := fun _ h => h
  have hbA : ¬ (fun q : Nat => s.heap.size ≤ q) b := Nat.not_le.mpr hbl
  have ht : ∀ w ∈ zW, w.before #[Value.ref b] s = true := fun w hw => hts w (List.mem_filter.mp hw).1
  refine lv_aload_n hx hb dL_law_659 rfl (lv_at hl 1 rfl) ?_
  refine lv_aload_n hx hb dL_law_660 rfl (lv_at hl 0 rfl) ?_
  refine lv_iload_n hx hb dL_law_661 rfl (lv_at hl 3 rfl) ?_
  refine lv_iconst (v := (1 : Int32)) hx hb dL_law_662 (by decide) ?_
  refine lv_iadd hx hb dL_law_663 ?_
  refine va_sld hx hb hX hbl hbA hS (zl_in h3 hL (by decide)) dL_law_664 ?_
  refine lv_aload_n hx hb dL_law_665 rfl (lv_at hl 0 rfl) ?_
  refine lv_iload_n hx hb dL_law_666 rfl (lv_at hl 3 rfl) ?_
  refine lv_iconst (v := (2 : Int32)) hx hb dL_law_667 (by decide) ?_
  refine lv_iadd hx hb dL_law_668 ?_
  refine va_sld hx hb hX hbl hbA hS (zl_in h3 hL (by decide)) dL_law_669 ?_
  refine lv_aload_n hx hb dL_law_670 rfl (lv_at hl 0 rfl) ?_
  refine lv_iload_n hx hb dL_law_671 rfl (lv_at hl 3 rfl) ?_
  refine lv_iconst (v := (3 : Int32)) hx hb dL_law_672 (by decide) ?_
  refine lv_iadd hx hb dL_law_673 ?_
  refine va_sld hx hb hX hbl hbA hS (zl_in h3 hL (by decide)) dL_law_674 ?_
  obtain ⟨R1, hf1, hI2, hM1⟩ := K_X11_counts l D cs k H.size ad z hI (xs (x3 + (1 : Int32)).toNatClampNeg) (xs (x3 + (2 : Int32)).toNatClampNeg) (xs (x3 + (3 : Int32)).toNatClampNeg)
  refine zk_LXi (As := [.int (xs (x3 + (1 : Int32)).toNatClampNeg), .int (xs (x3 + (2 : Int32)).toNatClampNeg), .int (xs (x3 + (3 : Int32)).toNatClampNeg)]) (rest := []) hE hO hM1 ⟨hx, hb, hml, hown, ht⟩ (cwV 3 ht gl_70 rfl rfl rfl (by decide +kernel) ⟨Nat.le_of_ble_eq_true rfl, Nat.le_of_ble_eq_true rfl⟩) (va_recv hK hP (ci := 11) (q0 := 44) rfl rfl) hP hD hS hK hA rfl hl.1 (Nat.le_of_ble_eq_true rfl) dL_law_675 ⟨by show _ ≤ 600000; omega, by show _ ≤ 7302250; omega⟩ (fun H locs hP hD hS => ?_)
  refine lv_pop hx hb dL_law_678 rfl ?_
  refine lv_aload_n hx hb dL_law_679 rfl (lv_at hl 2 rfl) ?_
  refine lv_aload_n hx hb dL_law_680 rfl (lv_at hl 0 rfl) ?_
  refine lv_iload_n hx hb dL_law_681 rfl (lv_at hl 3 rfl) ?_
  refine lv_iconst (v := (1 : Int32)) hx hb dL_law_682 (by decide) ?_
  refine lv_iadd hx hb dL_law_683 ?_
  refine va_sld hx hb hX hbl hbA hS (zl_in h3 hL (by decide)) dL_law_684 ?_
  refine lv_aload_n hx hb dL_law_685 rfl (lv_at hl 0 rfl) ?_
  refine lv_iload_n hx hb dL_law_686 rfl (lv_at hl 3 rfl) ?_
  refine lv_iconst (v := (2 : Int32)) hx hb dL_law_687 (by decide) ?_
  refine lv_iadd hx hb dL_law_688 ?_
  refine va_sld hx hb hX hbl hbA hS (zl_in h3 hL (by decide)) dL_law_689 ?_
  refine lv_aload_n hx hb dL_law_690 rfl (lv_at hl 0 rfl) ?_
  refine lv_iload_n hx hb dL_law_691 rfl (lv_at hl 3 rfl) ?_
  refine lv_iconst (v := (3 : Int32)) hx hb dL_law_692 (by decide) ?_
  refine lv_iadd hx hb dL_law_693 ?_
  refine va_sld hx hb hX hbl hbA hS (zl_in h3 hL (by decide)) dL_law_694 ?_
  obtain ⟨R2, hf2, hJ2, hM2⟩ := K_X12_counts l D cs k H.size am w hJ (xs (x3 + (1 : Int32)).toNatClampNeg) (xs (x3 + (2 : Int32)).toNatClampNeg) (xs (x3 + (3 : Int32)).toNatClampNeg)
  refine zk_LMi (As := [.int (xs (x3 + (1 : Int32)).toNatClampNeg), .int (xs (x3 + (2 : Int32)).toNatClampNeg), .int (xs (x3 + (3 : Int32)).toNatClampNeg)]) (rest := []) hE hO hM2 ⟨hx, hb, hml, hown, ht⟩ (cwV 3 ht gl_73 rfl rfl rfl (by decide +kernel) ⟨Nat.le_of_ble_eq_true rfl, Nat.le_of_ble_eq_true rfl⟩) (va_recv hK hP (ci := 12) (q0 := 0) rfl rfl) hP hD hS hK hA rfl hl.1 (Nat.le_of_ble_eq_true rfl) dL_law_695 ⟨by show _ ≤ 600000; omega, by show _ ≤ 7302250; omega⟩ (fun H locs hP hD hS => ?_)
  refine lv_pop hx hb dL_law_698 rfl ?_
  refine lv_goto (tgt := 1544) hx hb dL_law_699 (by decide) ?_
  exact kk _ _ H locs ls _ _ hI2 hJ2 ⟨(rl_0 hr :), (rl_1 hr :), (rl_2 hr :), (rl_3 hr :), (rl_4 hr :), (rl_5 hr :), (rl_6 hr :), (rl_7 hr :), (rl_8 hr :), (rl_9 hr :), (rl_10 hr :), (rl_11 hr :), (rl_12 hr :), (rl_13 hr :), (rl_14 hr :), (rl_15 hr :), (rl_16 hr :), (rl_17 hr :), (rl_18 hr :), (rl_19 hr :), (rl_20 hr :), (rl_21 hr :), (rl_22 hr :), (rl_23 hr :), (rl_24 hr :), (rl_25 hr :), (rl_26 hr :), (rl_27 hr :), (rl_28 hr :), (rl_29 hr :), (rl_30 hr :), (rl_31 hr :), (rl_32 hr :), (rl_33 hr :)⟩ (by omega) (by omega) hP hD hS (lv_sub hl [0, 1, 2, 3] rfl)
theorem zh_cL_law_35 : zck [3, 77, 43, 42, 29, 4, 96, 46, 42, 29, 5, 96, 46, 42, 29, 6, 96, 46, 182, 0, 74, 87] (zdu 700 cL_law.data.toList) = true := by decide +kernel
theorem dL_law_702 : decode cL_law 702 = .ok (.aload_n 1, 1) := zo_43 zh_cL_law_35 2 rfl
theorem dL_law_703 : decode cL_law 703 = .ok (.aload_n 0, 1) := zo_42 zh_cL_law_35 3 rfl
theorem dL_law_704 : decode cL_law 704 = .ok (.iload_n 3, 1) := zo_29 zh_cL_law_35 4 rfl
theorem dL_law_705 : decode cL_law 705 = .ok (.iconst 1, 1) := zo_4 zh_cL_law_35 5 rfl
theorem dL_law_706 : decode cL_law 706 = .ok (.iadd, 1) := zo_96 zh_cL_law_35 6 rfl
theorem dL_law_707 : decode cL_law 707 = .ok (.iaload, 1) := zo_46 zh_cL_law_35 7 rfl
theorem dL_law_708 : decode cL_law 708 = .ok (.aload_n 0, 1) := zo_42 zh_cL_law_35 8 rfl
theorem dL_law_709 : decode cL_law 709 = .ok (.iload_n 3, 1) := zo_29 zh_cL_law_35 9 rfl
theorem dL_law_710 : decode cL_law 710 = .ok (.iconst 2, 1) := zo_5 zh_cL_law_35 10 rfl
theorem dL_law_711 : decode cL_law 711 = .ok (.iadd, 1) := zo_96 zh_cL_law_35 11 rfl
theorem dL_law_712 : decode cL_law 712 = .ok (.iaload, 1) := zo_46 zh_cL_law_35 12 rfl
theorem dL_law_713 : decode cL_law 713 = .ok (.aload_n 0, 1) := zo_42 zh_cL_law_35 13 rfl
theorem dL_law_714 : decode cL_law 714 = .ok (.iload_n 3, 1) := zo_29 zh_cL_law_35 14 rfl
theorem dL_law_715 : decode cL_law 715 = .ok (.iconst 3, 1) := zo_6 zh_cL_law_35 15 rfl
theorem dL_law_716 : decode cL_law 716 = .ok (.iadd, 1) := zo_96 zh_cL_law_35 16 rfl
theorem dL_law_717 : decode cL_law 717 = .ok (.iaload, 1) := zo_46 zh_cL_law_35 17 rfl
theorem dL_law_718 : decode cL_law 718 = .ok (.invokevirtual 74, 3) := zo_182 zh_cL_law_35 18 rfl
theorem zh_cL_law_36 : zck [74, 87, 44, 42, 29, 4, 96, 46, 42, 29, 5, 96, 46, 42, 29, 6, 96, 46, 182, 0, 77, 87] (zdu 720 cL_law.data.toList) = true := by decide +kernel
theorem dL_law_721 : decode cL_law 721 = .ok (.pop, 1) := zo_87 zh_cL_law_36 1 rfl
theorem dL_law_722 : decode cL_law 722 = .ok (.aload_n 2, 1) := zo_44 zh_cL_law_36 2 rfl
theorem dL_law_723 : decode cL_law 723 = .ok (.aload_n 0, 1) := zo_42 zh_cL_law_36 3 rfl
theorem dL_law_724 : decode cL_law 724 = .ok (.iload_n 3, 1) := zo_29 zh_cL_law_36 4 rfl
theorem dL_law_725 : decode cL_law 725 = .ok (.iconst 1, 1) := zo_4 zh_cL_law_36 5 rfl
theorem dL_law_726 : decode cL_law 726 = .ok (.iadd, 1) := zo_96 zh_cL_law_36 6 rfl
theorem dL_law_727 : decode cL_law 727 = .ok (.iaload, 1) := zo_46 zh_cL_law_36 7 rfl
theorem dL_law_728 : decode cL_law 728 = .ok (.aload_n 0, 1) := zo_42 zh_cL_law_36 8 rfl
theorem dL_law_729 : decode cL_law 729 = .ok (.iload_n 3, 1) := zo_29 zh_cL_law_36 9 rfl
theorem dL_law_730 : decode cL_law 730 = .ok (.iconst 2, 1) := zo_5 zh_cL_law_36 10 rfl
theorem dL_law_731 : decode cL_law 731 = .ok (.iadd, 1) := zo_96 zh_cL_law_36 11 rfl
theorem dL_law_732 : decode cL_law 732 = .ok (.iaload, 1) := zo_46 zh_cL_law_36 12 rfl
theorem dL_law_733 : decode cL_law 733 = .ok (.aload_n 0, 1) := zo_42 zh_cL_law_36 13 rfl
theorem dL_law_734 : decode cL_law 734 = .ok (.iload_n 3, 1) := zo_29 zh_cL_law_36 14 rfl
theorem dL_law_735 : decode cL_law 735 = .ok (.iconst 3, 1) := zo_6 zh_cL_law_36 15 rfl
theorem dL_law_736 : decode cL_law 736 = .ok (.iadd, 1) := zo_96 zh_cL_law_36 16 rfl
theorem dL_law_737 : decode cL_law 737 = .ok (.iaload, 1) := zo_46 zh_cL_law_36 17 rfl
theorem dL_law_738 : decode cL_law 738 = .ok (.invokevirtual 77, 3) := zo_182 zh_cL_law_36 18 rfl
theorem zh_cL_law_37 : zck [77, 87, 167, 3, 34, 43, 42, 29, 4, 96, 46, 42, 29, 5, 96, 46, 42, 29, 6, 96, 46, 42] (zdu 740 cL_law.data.toList) = true := by decide +kernel
theorem dL_law_741 : decode cL_law 741 = .ok (.pop, 1) := zo_87 zh_cL_law_37 1 rfl
theorem dL_law_742 : decode cL_law 742 = .ok (.goto 802, 3) := zo_p167 zh_cL_law_37 2 802 rfl rfl
set_option maxHeartbeats 8000000 in
set_option maxRecDepth 100000 in
theorem law_case_14 {p : Program} {l : Launch} {e : Env} {s : State} {m : MethodId} {below : List Frame} {meth : Method} {c : Code} {b L : Nat} {xs : Nat → Int32} {D : va_G} {cs : Nat → ClassId} {k : (Nat → Nat) × (Nat → Nat)} {ad am : Nat → Nat} (C0 : lw_At p s m meth c b L xs) (hK : va_K D classes (zT cs) s) (hO : zO s) (hE : zE k (fun q : Nat => s.heap.size ≤ q) s) (hL : L ≤ 3072) (x3 : Int32) (h3 : 0 ≤ x3.toInt ∧ x3.toInt + 6 ≤ (L : Int)) (z : ZT) (w : MT) (hI : IX ad cs z) (hJ : IM w) (hr : RL z w) (cells slots : Nat) (hc : cells + 2 ≤ 600000) (hs : slots + 122 ≤ 7302250) (H : Heap) (locs : List Loc) (ls : Array Slot) (hP : va_P D classes (WM am cs w ++ WX ad cs z) H) (hD : va_D (fun q : Nat => s.heap.size ≤ q) (WM am cs w ++ WX ad cs z)) (hS : va_S (fun q : Nat => s.heap.size ≤ q) s.heap H locs) (hl : lv_has ls 4 [(0, .ref b), (1, .ref (ad 0)), (2, .ref (am 41)), (3, .int x3)]) (kk : ∀ (z2 : ZT) (w2 : MT) (H : Heap) (locs : List Loc) (ls : Array Slot) (cells2 slots2 : Nat), IX ad cs z2 → IM w2 → RL z2 w2 → cells2 ≤ cells + 2 → slots2 ≤ slots + 122 → va_P D classes (WM am cs w2 ++ WX ad cs z2) H → va_D (fun q : Nat => s.heap.size ≤ q) (WM am cs w2 ++ WX ad cs z2) → va_S (fun q : Nat => s.heap.size ≤ q) s.heap H locs → lv_has ls 4 [(0, .ref b), (1, .ref (ad 0)), (2, .ref (am 41)), (3, .int x3)] → W p l e room_1 s m #[Value.ref b] below meth c H locs cells2 slots2 (lw_Z below #[Value.ref b] s) (F0 m 1544 ls [])) : W p l e room_1 s m #[Value.ref b] below meth c H locs cells slots (lw_Z below #[Value.ref b] s) (F0 m 702 ls []) := by
  obtain ⟨hx, hb, hret, hml, hown, hts, hX, hbl, hlocks, hgv⟩ := id C0
  have hA : ∀ q : Nat, s.heap.size ≤ q → (fun q : Nat => s.heap.size ≤ q) q := fun _ h => h
  have hbA : ¬ (fun q : Nat => s.heap.size ≤ q) b := Nat.not_le.mpr hbl
  have ht : ∀ w ∈ zW, w.before #[Value.ref b] s = true := fun w hw => hts w (List.mem_filter.mp hw).1
  refine lv_aload_n hx hb dL_law_702 rfl (lv_at hl 1 rfl) ?_
  refine lv_aload_n hx hb dL_law_703 rfl (lv_at hl 0 rfl) ?_
  refine lv_iload_n hx hb dL_law_704 rfl (lv_at hl 3 rfl) ?_
  refine lv_iconst (v := (1 : Int32)) hx hb dL_law_705 (by decide) ?_
  refine lv_iadd hx hb dL_law_706 ?_
  refine va_sld hx hb hX hbl hbA hS (zl_in h3 hL (by decide)) dL_law_707 ?_
  refine lv_aload_n hx hb dL_law_708 rfl (lv_at hl 0 rfl) ?_
  refine lv_iload_n hx hb dL_law_709 rfl (lv_at hl 3 rfl) ?_
  refine lv_iconst (v := (2 : Int32)) hx hb dL_law_710 (by decide) ?_
  refine lv_iadd hx hb dL_law_711 ?_
  refine va_sld hx hb hX hbl hbA hS (zl_in h3 hL (by decide)) dL_law_712 ?_
  refine lv_aload_n hx hb dL_law_713 rfl (lv_at hl 0 rfl) ?_
  refine lv_iload_n hx hb dL_law_714 rfl (lv_at hl 3 rfl) ?_
  refine lv_iconst (v := (3 : Int32)) hx hb dL_law_715 (by decide) ?_
  refine lv_iadd hx hb dL_law_716 ?_
  refine va_sld hx hb hX hbl hbA hS (zl_in h3 hL (by decide)) dL_law_717 ?_
  obtain ⟨R1, hf1, hI2, hM1⟩ := K_X11_met l D cs k H.size ad z hI (xs (x3 + (1 : Int32)).toNatClampNeg) (xs (x3 + (2 : Int32)).toNatClampNeg) (xs (x3 + (3 : Int32)).toNatClampNeg)
  refine zk_LXi (As := [.int (xs (x3 + (1 : Int32)).toNatClampNeg), .int (xs (x3 + (2 : Int32)).toNatClampNeg), .int (xs (x3 + (3 : Int32)).toNatClampNeg)]) (rest := []) hE hO hM1 ⟨hx, hb, hml, hown, ht⟩ (cwV 3 ht gl_74 rfl rfl rfl (by decide +kernel) ⟨Nat.le_of_ble_eq_true rfl, Nat.le_of_ble_eq_true rfl⟩) (va_recv hK hP (ci := 11) (q0 := 44) rfl rfl) hP hD hS hK hA rfl hl.1 (Nat.le_of_ble_eq_true rfl) dL_law_718 ⟨by show _ ≤ 600000; omega, by show _ ≤ 7302250; omega⟩ (fun H locs hP hD hS => ?_)
  refine lv_pop hx hb dL_law_721 rfl ?_
  refine lv_aload_n hx hb dL_law_722 rfl (lv_at hl 2 rfl) ?_
  refine lv_aload_n hx hb dL_law_723 rfl (lv_at hl 0 rfl) ?_
  refine lv_iload_n hx hb dL_law_724 rfl (lv_at hl 3 rfl) ?_
  refine lv_iconst (v := (1 : Int32)) hx hb dL_law_725 (by decide) ?_
  refine lv_iadd hx hb dL_law_726 ?_
  refine va_sld hx hb hX hbl hbA hS (zl_in h3 hL (by decide)) dL_law_727 ?_
  refine lv_aload_n hx hb dL_law_728 rfl (lv_at hl 0 rfl) ?_
  refine lv_iload_n hx hb dL_law_729 rfl (lv_at hl 3 rfl) ?_
  refine lv_iconst (v := (2 : Int32)) hx hb dL_law_730 (by decide) ?_
  refine lv_iadd hx hb dL_law_731 ?_
  refine va_sld hx hb hX hbl hbA hS (zl_in h3 hL (by decide)) dL_law_732 ?_
  refine lv_aload_n hx hb dL_law_733 rfl (lv_at hl 0 rfl) ?_
  refine lv_iload_n hx hb dL_law_734 rfl (lv_at hl 3 rfl) ?_
  refine lv_iconst (v := (3 : Int32)) hx hb dL_law_735 (by decide) ?_
  refine lv_iadd hx hb dL_law_736 ?_
  refine va_sld hx hb hX hbl hbA hS (zl_in h3 hL (by decide)) dL_law_737 ?_
  obtain ⟨R2, hf2, hJ2, hM2⟩ := K_X12_met l D cs k H.size am w hJ (xs (x3 + (1 : Int32)).toNatClampNeg) (xs (x3 + (2 : Int32)).toNatClampNeg) (xs (x3 + (3 : Int32)).toNatClampNeg)
  refine zk_LMi (As := [.int (xs (x3 + (1 : Int32)).toNatClampNeg), .int (xs (x3 + (2 : Int32)).toNatClampNeg), .int (xs (x3 + (3 : Int32)).toNatClampNeg)]) (rest := []) hE hO hM2 ⟨hx, hb, hml, hown, ht⟩ (cwV 3 ht gl_77 rfl rfl rfl (by decide +kernel) ⟨Nat.le_of_ble_eq_true rfl, Nat.le_of_ble_eq_true rfl⟩) (va_recv hK hP (ci := 12) (q0 := 0) rfl rfl) hP hD hS hK hA rfl hl.1 (Nat.le_of_ble_eq_true rfl) dL_law_738 ⟨by show _ ≤ 600000; omega, by show _ ≤ 7302250; omega⟩ (fun H locs hP hD hS => ?_)
  refine lv_pop hx hb dL_law_741 rfl ?_
  refine lv_goto (tgt := 1544) hx hb dL_law_742 (by decide) ?_
  exact kk _ _ H locs ls _ _ hI2 hJ2 ⟨(rl_0 hr :), (rl_1 hr :), (rl_2 hr :), (rl_3 hr :), (rl_4 hr :), (rl_5 hr :), (rl_6 hr :), (rl_7 hr :), (rl_8 hr :), (rl_9 hr :), (rl_10 hr :), (rl_11 hr :), (rl_12 hr :), (rl_13 hr :), (rl_14 hr :), (rl_15 hr :), (rl_16 hr :), (rl_17 hr :), (rl_18 hr :), (rl_19 hr :), (rl_20 hr :), (rl_21 hr :), (rl_22 hr :), (rl_23 hr :), (rl_24 hr :), (rl_25 hr :), (rl_26 hr :), (rl_27 hr :), (rl_28 hr :), (rl_29 hr :), (rl_30 hr :), (rl_31 hr :), (rl_32 hr :), (rl_33 hr :)⟩ (by omega) (by omega) hP hD hS (lv_sub hl [0, 1, 2, 3] rfl)
theorem dL_law_745 : decode cL_law 745 = .ok (.aload_n 1, 1) := zo_43 zh_cL_law_37 5 rfl
theorem dL_law_746 : decode cL_law 746 = .ok (.aload_n 0, 1) := zo_42 zh_cL_law_37 6 rfl
theorem dL_law_747 : decode cL_law 747 = .ok (.iload_n 3, 1) := zo_29 zh_cL_law_37 7 rfl
theorem dL_law_748 : decode cL_law 748 = .ok (.iconst 1, 1) := zo_4 zh_cL_law_37 8 rfl
theorem dL_law_749 : decode cL_law 749 = .ok (.iadd, 1) := zo_96 zh_cL_law_37 9 rfl
theorem dL_law_750 : decode cL_law 750 = .ok (.iaload, 1) := zo_46 zh_cL_law_37 10 rfl
theorem dL_law_751 : decode cL_law 751 = .ok (.aload_n 0, 1) := zo_42 zh_cL_law_37 11 rfl
theorem dL_law_752 : decode cL_law 752 = .ok (.iload_n 3, 1) := zo_29 zh_cL_law_37 12 rfl
theorem dL_law_753 : decode cL_law 753 = .ok (.iconst 2, 1) := zo_5 zh_cL_law_37 13 rfl
theorem dL_law_754 : decode cL_law 754 = .ok (.iadd, 1) := zo_96 zh_cL_law_37 14 rfl
theorem dL_law_755 : decode cL_law 755 = .ok (.iaload, 1) := zo_46 zh_cL_law_37 15 rfl
theorem dL_law_756 : decode cL_law 756 = .ok (.aload_n 0, 1) := zo_42 zh_cL_law_37 16 rfl
theorem dL_law_757 : decode cL_law 757 = .ok (.iload_n 3, 1) := zo_29 zh_cL_law_37 17 rfl
theorem dL_law_758 : decode cL_law 758 = .ok (.iconst 3, 1) := zo_6 zh_cL_law_37 18 rfl
theorem dL_law_759 : decode cL_law 759 = .ok (.iadd, 1) := zo_96 zh_cL_law_37 19 rfl
theorem zh_cL_law_38 : zck [46, 42, 29, 7, 96, 46, 182, 0, 78, 87, 44, 42, 29, 4, 96, 46, 42, 29, 5, 96, 46, 42] (zdu 760 cL_law.data.toList) = true := by decide +kernel
theorem dL_law_760 : decode cL_law 760 = .ok (.iaload, 1) := zo_46 zh_cL_law_38 0 rfl
theorem dL_law_761 : decode cL_law 761 = .ok (.aload_n 0, 1) := zo_42 zh_cL_law_38 1 rfl
theorem dL_law_762 : decode cL_law 762 = .ok (.iload_n 3, 1) := zo_29 zh_cL_law_38 2 rfl
theorem dL_law_763 : decode cL_law 763 = .ok (.iconst 4, 1) := zo_7 zh_cL_law_38 3 rfl
theorem dL_law_764 : decode cL_law 764 = .ok (.iadd, 1) := zo_96 zh_cL_law_38 4 rfl
theorem dL_law_765 : decode cL_law 765 = .ok (.iaload, 1) := zo_46 zh_cL_law_38 5 rfl
theorem dL_law_766 : decode cL_law 766 = .ok (.invokevirtual 78, 3) := zo_182 zh_cL_law_38 6 rfl
theorem dL_law_769 : decode cL_law 769 = .ok (.pop, 1) := zo_87 zh_cL_law_38 9 rfl
theorem dL_law_770 : decode cL_law 770 = .ok (.aload_n 2, 1) := zo_44 zh_cL_law_38 10 rfl
theorem dL_law_771 : decode cL_law 771 = .ok (.aload_n 0, 1) := zo_42 zh_cL_law_38 11 rfl
theorem dL_law_772 : decode cL_law 772 = .ok (.iload_n 3, 1) := zo_29 zh_cL_law_38 12 rfl
theorem dL_law_773 : decode cL_law 773 = .ok (.iconst 1, 1) := zo_4 zh_cL_law_38 13 rfl
theorem dL_law_774 : decode cL_law 774 = .ok (.iadd, 1) := zo_96 zh_cL_law_38 14 rfl
theorem dL_law_775 : decode cL_law 775 = .ok (.iaload, 1) := zo_46 zh_cL_law_38 15 rfl
theorem dL_law_776 : decode cL_law 776 = .ok (.aload_n 0, 1) := zo_42 zh_cL_law_38 16 rfl
theorem dL_law_777 : decode cL_law 777 = .ok (.iload_n 3, 1) := zo_29 zh_cL_law_38 17 rfl
theorem dL_law_778 : decode cL_law 778 = .ok (.iconst 2, 1) := zo_5 zh_cL_law_38 18 rfl
theorem dL_law_779 : decode cL_law 779 = .ok (.iadd, 1) := zo_96 zh_cL_law_38 19 rfl
theorem zh_cL_law_39 : zck [46, 42, 29, 6, 96, 46, 42, 29, 7, 96, 46, 182, 0, 81, 87, 167, 2, 237, 43, 42, 29, 4] (zdu 780 cL_law.data.toList) = true := by decide +kernel
theorem dL_law_780 : decode cL_law 780 = .ok (.iaload, 1) := zo_46 zh_cL_law_39 0 rfl
theorem dL_law_781 : decode cL_law 781 = .ok (.aload_n 0, 1) := zo_42 zh_cL_law_39 1 rfl
theorem dL_law_782 : decode cL_law 782 = .ok (.iload_n 3, 1) := zo_29 zh_cL_law_39 2 rfl
theorem dL_law_783 : decode cL_law 783 = .ok (.iconst 3, 1) := zo_6 zh_cL_law_39 3 rfl
theorem dL_law_784 : decode cL_law 784 = .ok (.iadd, 1) := zo_96 zh_cL_law_39 4 rfl
theorem dL_law_785 : decode cL_law 785 = .ok (.iaload, 1) := zo_46 zh_cL_law_39 5 rfl
theorem dL_law_786 : decode cL_law 786 = .ok (.aload_n 0, 1) := zo_42 zh_cL_law_39 6 rfl
theorem dL_law_787 : decode cL_law 787 = .ok (.iload_n 3, 1) := zo_29 zh_cL_law_39 7 rfl
theorem dL_law_788 : decode cL_law 788 = .ok (.iconst 4, 1) := zo_7 zh_cL_law_39 8 rfl
theorem dL_law_789 : decode cL_law 789 = .ok (.iadd, 1) := zo_96 zh_cL_law_39 9 rfl
theorem dL_law_790 : decode cL_law 790 = .ok (.iaload, 1) := zo_46 zh_cL_law_39 10 rfl
theorem dL_law_791 : decode cL_law 791 = .ok (.invokevirtual 81, 3) := zo_182 zh_cL_law_39 11 rfl
theorem dL_law_794 : decode cL_law 794 = .ok (.pop, 1) := zo_87 zh_cL_law_39 14 rfl
theorem dL_law_795 : decode cL_law 795 = .ok (.goto 749, 3) := zo_p167 zh_cL_law_39 15 749 rfl rfl
set_option maxHeartbeats 8000000 in
set_option maxRecDepth 100000 in
theorem law_case_15 {p : Program} {l : Launch} {e : Env} {s : State} {m : MethodId} {below : List Frame} {meth : Method} {c : Code} {b L : Nat} {xs : Nat → Int32} {D : va_G} {cs : Nat → ClassId} {k : (Nat → Nat) × (Nat → Nat)} {ad am : Nat → Nat} (C0 : lw_At p s m meth c b L xs) (hK : va_K D classes (zT cs) s) (hO : zO s) (hE : zE k (fun q : Nat => s.heap.size ≤ q) s) (hL : L ≤ 3072) (x3 : Int32) (h3 : 0 ≤ x3.toInt ∧ x3.toInt + 6 ≤ (L : Int)) (z : ZT) (w : MT) (hI : IX ad cs z) (hJ : IM w) (hr : RL z w) (cells slots : Nat) (hc : cells + 2 ≤ 600000) (hs : slots + 122 ≤ 7302250) (H : Heap) (locs : List Loc) (ls : Array Slot) (hP : va_P D classes (WM am cs w ++ WX ad cs z) H) (hD : va_D (fun q : Nat => s.heap.size ≤ q) (WM am cs w ++ WX ad cs z)) (hS : va_S (fun q : Nat => s.heap.size ≤ q) s.heap H locs) (hl : lv_has ls 4 [(0, .ref b), (1, .ref (ad 0)), (2, .ref (am 41)), (3, .int x3)]) (kk : ∀ (z2 : ZT) (w2 : MT) (H : Heap) (locs : List Loc) (ls : Array Slot) (cells2 slots2 : Nat), IX ad cs z2 → IM w2 → RL z2 w2 → cells2 ≤ cells + 2 → slots2 ≤ slots + 122 → va_P D classes (WM am cs w2 ++ WX ad cs z2) H → va_D (fun q : Nat => s.heap.size ≤ q) (WM am cs w2 ++ WX ad cs z2) → va_S (fun q : Nat => s.heap.size ≤ q) s.heap H locs → lv_has ls 4 [(0, .ref b), (1, .ref (ad 0)), (2, .ref (am 41)), (3, .int x3)] → W p l e room_1 s m #[Value.ref b] below meth c H locs cells2 slots2 (lw_Z below #[Value.ref b] s) (F0 m 1544 ls [])) : W p l e room_1 s m #[Value.ref b] below meth c H locs cells slots (lw_Z below #[Value.ref b] s) (F0 m 745 ls []) := by
  obtain ⟨hx, hb, hret, hml, hown, hts, hX, hbl, hlocks, hgv⟩ := id C0
  have hA : ∀ q : Nat, s.heap.size ≤ q → (fun q : Nat => s.heap.size ≤ q) q := fun _ h => h
  have hbA : ¬ (fun q : Nat => s.heap.size ≤ q) b := Nat.not_le.mpr hbl
  have ht : ∀ w ∈ zW, w.before #[Value.ref b] s = true := fun w hw => hts w (List.mem_filter.mp hw).1
  refine lv_aload_n hx hb dL_law_745 rfl (lv_at hl 1 rfl) ?_
  refine lv_aload_n hx hb dL_law_746 rfl (lv_at hl 0 rfl) ?_
  refine lv_iload_n hx hb dL_law_747 rfl (lv_at hl 3 rfl) ?_
  refine lv_iconst (v := (1 : Int32)) hx hb dL_law_748 (by decide) ?_
  refine lv_iadd hx hb dL_law_749 ?_
  refine va_sld hx hb hX hbl hbA hS (zl_in h3 hL (by decide)) dL_law_750 ?_
  refine lv_aload_n hx hb dL_law_751 rfl (lv_at hl 0 rfl) ?_
  refine lv_iload_n hx hb dL_law_752 rfl (lv_at hl 3 rfl) ?_
  refine lv_iconst (v := (2 : Int32)) hx hb dL_law_753 (by decide) ?_
  refine lv_iadd hx hb dL_law_754 ?_
  refine va_sld hx hb hX hbl hbA hS (zl_in h3 hL (by decide)) dL_law_755 ?_
  refine lv_aload_n hx hb dL_law_756 rfl (lv_at hl 0 rfl) ?_
  refine lv_iload_n hx hb dL_law_757 rfl (lv_at hl 3 rfl) ?_
  refine lv_iconst (v := (3 : Int32)) hx hb dL_law_758 (by decide) ?_
  refine lv_iadd hx hb dL_law_759 ?_
  refine va_sld hx hb hX hbl hbA hS (zl_in h3 hL (by decide)) dL_law_760 ?_
  refine lv_aload_n hx hb dL_law_761 rfl (lv_at hl 0 rfl) ?_
  refine lv_iload_n hx hb dL_law_762 rfl (lv_at hl 3 rfl) ?_
  refine lv_iconst (v := (4 : Int32)) hx hb dL_law_763 (by decide) ?_
  refine lv_iadd hx hb dL_law_764 ?_
  refine va_sld hx hb hX hbl hbA hS (zl_in h3 hL (by decide)) dL_law_765 ?_
  obtain ⟨R1, hf1, hI2, hM1⟩ := K_X11_point l D cs k H.size ad z hI (xs (x3 + (1 : Int32)).toNatClampNeg) (xs (x3 + (2 : Int32)).toNatClampNeg) (xs (x3 + (3 : Int32)).toNatClampNeg) (xs (x3 + (4 : Int32)).toNatClampNeg)
  refine zk_LXi (As := [.int (xs (x3 + (1 : Int32)).toNatClampNeg), .int (xs (x3 + (2 : Int32)).toNatClampNeg), .int (xs (x3 + (3 : Int32)).toNatClampNeg), .int (xs (x3 + (4 : Int32)).toNatClampNeg)]) (rest := []) hE hO hM1 ⟨hx, hb, hml, hown, ht⟩ (cwV 4 ht gl_78 rfl rfl rfl (by decide +kernel) ⟨Nat.le_of_ble_eq_true rfl, Nat.le_of_ble_eq_true rfl⟩) (va_recv hK hP (ci := 11) (q0 := 44) rfl rfl) hP hD hS hK hA rfl hl.1 (Nat.le_of_ble_eq_true rfl) dL_law_766 ⟨by show _ ≤ 600000; omega, by show _ ≤ 7302250; omega⟩ (fun H locs hP hD hS => ?_)
  refine lv_pop hx hb dL_law_769 rfl ?_
  refine lv_aload_n hx hb dL_law_770 rfl (lv_at hl 2 rfl) ?_
  refine lv_aload_n hx hb dL_law_771 rfl (lv_at hl 0 rfl) ?_
  refine lv_iload_n hx hb dL_law_772 rfl (lv_at hl 3 rfl) ?_
  refine lv_iconst (v := (1 : Int32)) hx hb dL_law_773 (by decide) ?_
  refine lv_iadd hx hb dL_law_774 ?_
  refine va_sld hx hb hX hbl hbA hS (zl_in h3 hL (by decide)) dL_law_775 ?_
  refine lv_aload_n hx hb dL_law_776 rfl (lv_at hl 0 rfl) ?_
  refine lv_iload_n hx hb dL_law_777 rfl (lv_at hl 3 rfl) ?_
  refine lv_iconst (v := (2 : Int32)) hx hb dL_law_778 (by decide) ?_
  refine lv_iadd hx hb dL_law_779 ?_
  refine va_sld hx hb hX hbl hbA hS (zl_in h3 hL (by decide)) dL_law_780 ?_
  refine lv_aload_n hx hb dL_law_781 rfl (lv_at hl 0 rfl) ?_
  refine lv_iload_n hx hb dL_law_782 rfl (lv_at hl 3 rfl) ?_
  refine lv_iconst (v := (3 : Int32)) hx hb dL_law_783 (by decide) ?_
  refine lv_iadd hx hb dL_law_784 ?_
  refine va_sld hx hb hX hbl hbA hS (zl_in h3 hL (by decide)) dL_law_785 ?_
  refine lv_aload_n hx hb dL_law_786 rfl (lv_at hl 0 rfl) ?_
  refine lv_iload_n hx hb dL_law_787 rfl (lv_at hl 3 rfl) ?_
  refine lv_iconst (v := (4 : Int32)) hx hb dL_law_788 (by decide) ?_
  refine lv_iadd hx hb dL_law_789 ?_
  refine va_sld hx hb hX hbl hbA hS (zl_in h3 hL (by decide)) dL_law_790 ?_
  obtain ⟨R2, hf2, hJ2, hM2⟩ := K_X12_point l D cs k H.size am w hJ (xs (x3 + (1 : Int32)).toNatClampNeg) (xs (x3 + (2 : Int32)).toNatClampNeg) (xs (x3 + (3 : Int32)).toNatClampNeg) (xs (x3 + (4 : Int32)).toNatClampNeg)
  refine zk_LMi (As := [.int (xs (x3 + (1 : Int32)).toNatClampNeg), .int (xs (x3 + (2 : Int32)).toNatClampNeg), .int (xs (x3 + (3 : Int32)).toNatClampNeg), .int (xs (x3 + (4 : Int32)).toNatClampNeg)]) (rest := []) hE hO hM2 ⟨hx, hb, hml, hown, ht⟩ (cwV 4 ht gl_81 rfl rfl rfl (by decide +kernel) ⟨Nat.le_of_ble_eq_true rfl, Nat.le_of_ble_eq_true rfl⟩) (va_recv hK hP (ci := 12) (q0 := 0) rfl rfl) hP hD hS hK hA rfl hl.1 (Nat.le_of_ble_eq_true rfl) dL_law_791 ⟨by show _ ≤ 600000; omega, by show _ ≤ 7302250; omega⟩ (fun H locs hP hD hS => ?_)
  refine lv_pop hx hb dL_law_794 rfl ?_
  refine lv_goto (tgt := 1544) hx hb dL_law_795 (by decide) ?_
  exact kk _ _ H locs ls _ _ hI2 hJ2 ⟨(rl_0 hr :), (rl_1 hr :), (rl_2 hr :), (rl_3 hr :), (rl_4 hr :), (rl_5 hr :), (rl_6 hr :), (rl_7 hr :), (rl_8 hr :), (rl_9 hr :), (rl_10 hr :), (rl_11 hr :), (rl_12 hr :), (rl_13 hr :), (rl_14 hr :), (rl_15 hr :), (rl_16 hr :), (rl_17 hr :), (rl_18 hr :), (rl_19 hr :), (rl_20 hr :), (rl_21 hr :), (rl_22 hr :), (rl_23 hr :), (rl_24 hr :), (rl_25 hr :), (rl_26 hr :), (rl_27 hr :), (rl_28 hr :), (rl_29 hr :), (rl_30 hr :), (rl_31 hr :), (rl_32 hr :), (rl_33 hr :)⟩ (by omega) (by omega) hP hD hS (lv_sub hl [0, 1, 2, 3] rfl)
theorem dL_law_798 : decode cL_law 798 = .ok (.aload_n 1, 1) := zo_43 zh_cL_law_39 18 rfl
theorem dL_law_799 : decode cL_law 799 = .ok (.aload_n 0, 1) := zo_42 zh_cL_law_39 19 rfl
theorem zh_cL_law_40 : zck [29, 4, 96, 46, 42, 29, 5, 96, 46, 182, 0, 82, 87, 44, 42, 29, 4, 96, 46, 42, 29, 5] (zdu 800 cL_law.data.toList) = true := by decide +kernel
theorem dL_law_800 : decode cL_law 800 = .ok (.iload_n 3, 1) := zo_29 zh_cL_law_40 0 rfl
theorem dL_law_801 : decode cL_law 801 = .ok (.iconst 1, 1) := zo_4 zh_cL_law_40 1 rfl
theorem dL_law_802 : decode cL_law 802 = .ok (.iadd, 1) := zo_96 zh_cL_law_40 2 rfl
theorem dL_law_803 : decode cL_law 803 = .ok (.iaload, 1) := zo_46 zh_cL_law_40 3 rfl
theorem dL_law_804 : decode cL_law 804 = .ok (.aload_n 0, 1) := zo_42 zh_cL_law_40 4 rfl
theorem dL_law_805 : decode cL_law 805 = .ok (.iload_n 3, 1) := zo_29 zh_cL_law_40 5 rfl
theorem dL_law_806 : decode cL_law 806 = .ok (.iconst 2, 1) := zo_5 zh_cL_law_40 6 rfl
theorem dL_law_807 : decode cL_law 807 = .ok (.iadd, 1) := zo_96 zh_cL_law_40 7 rfl
theorem dL_law_808 : decode cL_law 808 = .ok (.iaload, 1) := zo_46 zh_cL_law_40 8 rfl
theorem dL_law_809 : decode cL_law 809 = .ok (.invokevirtual 82, 3) := zo_182 zh_cL_law_40 9 rfl
theorem dL_law_812 : decode cL_law 812 = .ok (.pop, 1) := zo_87 zh_cL_law_40 12 rfl
theorem dL_law_813 : decode cL_law 813 = .ok (.aload_n 2, 1) := zo_44 zh_cL_law_40 13 rfl
theorem dL_law_814 : decode cL_law 814 = .ok (.aload_n 0, 1) := zo_42 zh_cL_law_40 14 rfl
theorem dL_law_815 : decode cL_law 815 = .ok (.iload_n 3, 1) := zo_29 zh_cL_law_40 15 rfl
theorem dL_law_816 : decode cL_law 816 = .ok (.iconst 1, 1) := zo_4 zh_cL_law_40 16 rfl
theorem dL_law_817 : decode cL_law 817 = .ok (.iadd, 1) := zo_96 zh_cL_law_40 17 rfl
theorem dL_law_818 : decode cL_law 818 = .ok (.iaload, 1) := zo_46 zh_cL_law_40 18 rfl
theorem dL_law_819 : decode cL_law 819 = .ok (.aload_n 0, 1) := zo_42 zh_cL_law_40 19 rfl
set_option maxRecDepth 100000 in
theorem zh_cL_law_41 : zck [29, 5, 96, 46, 182, 0, 85, 87, 167, 2, 204, 43, 42, 29, 4, 96, 46, 42, 29, 5, 96, 46] (zdu 820 cL_law.data.toList) = true := by decide +kernel
theorem dL_law_820 : decode cL_law 820 = .ok (.iload_n 3, 1) := zo_29 zh_cL_law_41 0 rfl
theorem dL_law_821 : decode cL_law 821 = .ok (.iconst 2, 1) := zo_5 zh_cL_law_41 1 rfl
theorem dL_law_822 : decode cL_law 822 = .ok (.iadd, 1) := zo_96 zh_cL_law_41 2 rfl
theorem dL_law_823 : decode cL_law 823 = .ok (.iaload, 1) := zo_46 zh_cL_law_41 3 rfl
theorem dL_law_824 : decode cL_law 824 = .ok (.invokevirtual 85, 3) := zo_182 zh_cL_law_41 4 rfl
theorem dL_law_827 : decode cL_law 827 = .ok (.pop, 1) := zo_87 zh_cL_law_41 7 rfl
theorem dL_law_828 : decode cL_law 828 = .ok (.goto 716, 3) := zo_p167 zh_cL_law_41 8 716 rfl rfl
set_option maxHeartbeats 8000000 in
set_option maxRecDepth 100000 in
theorem law_case_16 {p : Program} {l : Launch} {e : Env} {s : State} {m : MethodId} {below : List Frame} {meth : Method} {c : Code} {b L : Nat} {xs : Nat → Int32} {D : va_G} {cs : Nat → ClassId} {k : (Nat → Nat) × (Nat → Nat)} {ad am : Nat → Nat} (C0 : lw_At p s m meth c b L xs) (hK : va_K D classes (zT cs) s) (hO : zO s) (hE : zE k (fun q : Nat => s.heap.size ≤ q) s) (hL : L ≤ 3072) (x3 : Int32) (h3 : 0 ≤ x3.toInt ∧ x3.toInt + 6 ≤ (L : Int)) (z : ZT) (w : MT) (hI : IX ad cs z) (hJ : IM w) (hr : RL z w) (cells slots : Nat) (hc : cells + 2 ≤ 600000) (hs : slots + 122 ≤ 7302250) (H : Heap) (locs : List Loc) (ls : Array Slot) (hP : va_P D classes (WM am cs w ++ WX ad cs z) H) (hD : va_D (fun q : Nat => s.heap.size ≤ q) (WM am cs w ++ WX ad cs z)) (hS : va_S (fun q : Nat => s.heap.size ≤ q) s.heap H locs) (hl : lv_has ls 4 [(0, .ref b), (1, .ref (ad 0)), (2, .ref (am 41)), (3, .int x3)]) (kk : ∀ (z2 : ZT) (w2 : MT) (H : Heap) (locs : List Loc) (ls : Array Slot) (cells2 slots2 : Nat), IX ad cs z2 → IM w2 → RL z2 w2 → cells2 ≤ cells + 2 → slots2 ≤ slots + 122 → va_P D classes (WM am cs w2 ++ WX ad cs z2) H → va_D (fun q : Nat => s.heap.size ≤ q) (WM am cs w2 ++ WX ad cs z2) → va_S (fun q : Nat => s.heap.size ≤ q) s.heap H locs → lv_has ls 4 [(0, .ref b), (1, .ref (ad 0)), (2, .ref (am 41)), (3, .int x3)] → W p l e room_1 s m #[Value.ref b] below meth c H locs cells2 slots2 (lw_Z below #[Value.ref b] s) (F0 m 1544 ls [])) : W p l e room_1 s m #[Value.ref b] below meth c H locs cells slots (lw_Z below #[Value.ref b] s) (F0 m 798 ls []) := by
  obtain ⟨hx, hb, hret, hml, hown, hts, hX, hbl, hlocks, hgv⟩ := id C0
  have hA : ∀ q : Nat, s.heap.size ≤ q → (fun q : Nat => s.heap.size ≤ q) q := fun _ h => h
  have hbA : ¬ (fun q : Nat => s.heap.size ≤ q) b := Nat.not_le.mpr hbl
  have ht : ∀ w ∈ zW, w.before #[Value.ref b] s = true := fun w hw => hts w (List.mem_filter.mp hw).1
  refine lv_aload_n hx hb dL_law_798 rfl (lv_at hl 1 rfl) ?_
  refine lv_aload_n hx hb dL_law_799 rfl (lv_at hl 0 rfl) ?_
  refine lv_iload_n hx hb dL_law_800 rfl (lv_at hl 3 rfl) ?_
  refine lv_iconst (v := (1 : Int32)) hx hb dL_law_801 (by decide) ?_
  refine lv_iadd hx hb dL_law_802 ?_
  refine va_sld hx hb hX hbl hbA hS (zl_in h3 hL (by decide)) dL_law_803 ?_
  refine lv_aload_n hx hb dL_law_804 rfl (lv_at hl 0 rfl) ?_
  refine lv_iload_n hx hb dL_law_805 rfl (lv_at hl 3 rfl) ?_
  refine lv_iconst (v := (2 : Int32)) hx hb dL_law_806 (by decide) ?_
  refine lv_iadd hx hb dL_law_807 ?_
  refine va_sld hx hb hX hbl hbA hS (zl_in h3 hL (by decide)) dL_law_808 ?_
  obtain ⟨R1, hf1, hI2, hM1⟩ := K_X11_left l D cs k H.size ad z hI (xs (x3 + (1 : Int32)).toNatClampNeg) (xs (x3 + (2 : Int32)).toNatClampNeg)
  refine zk_LXi (As := [.int (xs (x3 + (1 : Int32)).toNatClampNeg), .int (xs (x3 + (2 : Int32)).toNatClampNeg)]) (rest := []) hE hO hM1 ⟨hx, hb, hml, hown, ht⟩ (cwV 2 ht gl_82 rfl rfl rfl (by decide +kernel) ⟨Nat.le_of_ble_eq_true rfl, Nat.le_of_ble_eq_true rfl⟩) (va_recv hK hP (ci := 11) (q0 := 44) rfl rfl) hP hD hS hK hA rfl hl.1 (Nat.le_of_ble_eq_true rfl) dL_law_809 ⟨by show _ ≤ 600000; omega, by show _ ≤ 7302250; omega⟩ (fun H locs hP hD hS => ?_)
  refine lv_pop hx hb dL_law_812 rfl ?_
  refine lv_aload_n hx hb dL_law_813 rfl (lv_at hl 2 rfl) ?_
  refine lv_aload_n hx hb dL_law_814 rfl (lv_at hl 0 rfl) ?_
  refine lv_iload_n hx hb dL_law_815 rfl (lv_at hl 3 rfl) ?_
  refine lv_iconst (v := (1 : Int32)) hx hb dL_law_816 (by decide) ?_
  refine lv_iadd hx hb dL_law_817 ?_
  refine va_sld hx hb hX hbl hbA hS (zl_in h3 hL (by decide)) dL_law_818 ?_
  refine lv_aload_n hx hb dL_law_819 rfl (lv_at hl 0 rfl) ?_
  refine lv_iload_n hx hb dL_law_820 rfl (lv_at hl 3 rfl) ?_
  refine lv_iconst (v := (2 : Int32)) hx hb dL_law_821 (by decide) ?_
  refine lv_iadd hx hb dL_law_822 ?_
  refine va_sld hx hb hX hbl hbA hS (zl_in h3 hL (by decide)) dL_law_823 ?_
  obtain ⟨R2, hf2, hJ2, hM2⟩ := K_X12_left l D cs k H.size am w hJ (xs (x3 + (1 : Int32)).toNatClampNeg) (xs (x3 + (2 : Int32)).toNatClampNeg)
  refine zk_LMi (As := [.int (xs (x3 + (1 : Int32)).toNatClampNeg), .int (xs (x3 + (2 : Int32)).toNatClampNeg)]) (rest := []) hE hO hM2 ⟨hx, hb, hml, hown, ht⟩ (cwV 2 ht gl_85 rfl rfl rfl (by decide +kernel) ⟨Nat.le_of_ble_eq_true rfl, Nat.le_of_ble_eq_true rfl⟩) (va_recv hK hP (ci := 12) (q0 := 0) rfl rfl) hP hD hS hK hA rfl hl.1 (Nat.le_of_ble_eq_true rfl) dL_law_824 ⟨by show _ ≤ 600000; omega, by show _ ≤ 7302250; omega⟩ (fun H locs hP hD hS => ?_)
  refine lv_pop hx hb dL_law_827 rfl ?_
  refine lv_goto (tgt := 1544) hx hb dL_law_828 (by decide) ?_
  exact kk _ _ H locs ls _ _ hI2 hJ2 ⟨(rl_0 hr :), (rl_1 hr :), (rl_2 hr :), (rl_3 hr :), (rl_4 hr :), (rl_5 hr :), (rl_6 hr :), (rl_7 hr :), (rl_8 hr :), (rl_9 hr :), (rl_10 hr :), (rl_11 hr :), (rl_12 hr :), (rl_13 hr :), (rl_14 hr :), (rl_15 hr :), (rl_16 hr :), (rl_17 hr :), (rl_18 hr :), (rl_19 hr :), (rl_20 hr :), (rl_21 hr :), (rl_22 hr :), (rl_23 hr :), (rl_24 hr :), (rl_25 hr :), (rl_26 hr :), (rl_27 hr :), (rl_28 hr :), (rl_29 hr :), (rl_30 hr :), (rl_31 hr :), (rl_32 hr :), (rl_33 hr :)⟩ (by omega) (by omega) hP hD hS (lv_sub hl [0, 1, 2, 3] rfl)
theorem dL_law_831 : decode cL_law 831 = .ok (.aload_n 1, 1) := zo_43 zh_cL_law_41 11 rfl
theorem dL_law_832 : decode cL_law 832 = .ok (.aload_n 0, 1) := zo_42 zh_cL_law_41 12 rfl
theorem dL_law_833 : decode cL_law 833 = .ok (.iload_n 3, 1) := zo_29 zh_cL_law_41 13 rfl
theorem dL_law_834 : decode cL_law 834 = .ok (.iconst 1, 1) := zo_4 zh_cL_law_41 14 rfl
theorem dL_law_835 : decode cL_law 835 = .ok (.iadd, 1) := zo_96 zh_cL_law_41 15 rfl
theorem dL_law_836 : decode cL_law 836 = .ok (.iaload, 1) := zo_46 zh_cL_law_41 16 rfl
theorem dL_law_837 : decode cL_law 837 = .ok (.aload_n 0, 1) := zo_42 zh_cL_law_41 17 rfl
theorem dL_law_838 : decode cL_law 838 = .ok (.iload_n 3, 1) := zo_29 zh_cL_law_41 18 rfl
theorem dL_law_839 : decode cL_law 839 = .ok (.iconst 2, 1) := zo_5 zh_cL_law_41 19 rfl
set_option maxRecDepth 100000 in
theorem zh_cL_law_42 : zck [96, 46, 182, 0, 86, 87, 44, 42, 29, 4, 96, 46, 42, 29, 5, 96, 46, 182, 0, 89, 87, 167] (zdu 840 cL_law.data.toList) = true := by decide +kernel
theorem dL_law_840 : decode cL_law 840 = .ok (.iadd, 1) := zo_96 zh_cL_law_42 0 rfl
theorem dL_law_841 : decode cL_law 841 = .ok (.iaload, 1) := zo_46 zh_cL_law_42 1 rfl
theorem dL_law_842 : decode cL_law 842 = .ok (.invokevirtual 86, 3) := zo_182 zh_cL_law_42 2 rfl
theorem dL_law_845 : decode cL_law 845 = .ok (.pop, 1) := zo_87 zh_cL_law_42 5 rfl
theorem dL_law_846 : decode cL_law 846 = .ok (.aload_n 2, 1) := zo_44 zh_cL_law_42 6 rfl
theorem dL_law_847 : decode cL_law 847 = .ok (.aload_n 0, 1) := zo_42 zh_cL_law_42 7 rfl
theorem dL_law_848 : decode cL_law 848 = .ok (.iload_n 3, 1) := zo_29 zh_cL_law_42 8 rfl
theorem dL_law_849 : decode cL_law 849 = .ok (.iconst 1, 1) := zo_4 zh_cL_law_42 9 rfl
theorem dL_law_850 : decode cL_law 850 = .ok (.iadd, 1) := zo_96 zh_cL_law_42 10 rfl
theorem dL_law_851 : decode cL_law 851 = .ok (.iaload, 1) := zo_46 zh_cL_law_42 11 rfl
theorem dL_law_852 : decode cL_law 852 = .ok (.aload_n 0, 1) := zo_42 zh_cL_law_42 12 rfl
theorem dL_law_853 : decode cL_law 853 = .ok (.iload_n 3, 1) := zo_29 zh_cL_law_42 13 rfl
theorem dL_law_854 : decode cL_law 854 = .ok (.iconst 2, 1) := zo_5 zh_cL_law_42 14 rfl
theorem dL_law_855 : decode cL_law 855 = .ok (.iadd, 1) := zo_96 zh_cL_law_42 15 rfl
theorem dL_law_856 : decode cL_law 856 = .ok (.iaload, 1) := zo_46 zh_cL_law_42 16 rfl
theorem dL_law_857 : decode cL_law 857 = .ok (.invokevirtual 89, 3) := zo_182 zh_cL_law_42 17 rfl
set_option maxRecDepth 100000 in
theorem zh_cL_law_43 : zck [87, 167, 2, 171, 43, 42, 29, 4, 96, 46, 42, 29, 5, 96, 46, 182, 0, 90, 88, 44, 42, 29] (zdu 860 cL_law.data.toList) = true := by decide +kernel
theorem dL_law_860 : decode cL_law 860 = .ok (.pop, 1) := zo_87 zh_cL_law_43 0 rfl
theorem dL_law_861 : decode cL_law 861 = .ok (.goto 683, 3) := zo_p167 zh_cL_law_43 1 683 rfl rfl
set_option maxHeartbeats 8000000 in
set_option maxRecDepth 100000 in
theorem law_case_17 {p : Program} {l : Launch} {e : Env} {s : State} {m : MethodId} {below : List Frame} {meth : Method} {c : Code} {b L : Nat} {xs : Nat → Int32} {D : va_G} {cs : Nat → ClassId} {k : (Nat → Nat) × (Nat → Nat)} {ad am : Nat → Nat} (C0 : lw_At p s m meth c b L xs) (hK : va_K D classes (zT cs) s) (hO : zO s) (hE : zE k (fun q : Nat => s.heap.size ≤ q) s) (hL : L ≤ 3072) (x3 : Int32) (h3 : 0 ≤ x3.toInt ∧ x3.toInt + 6 ≤ (L : Int)) (z : ZT) (w : MT) (hI : IX ad cs z) (hJ : IM w) (hr : RL z w) (cells slots : Nat) (hc : cells + 2 ≤ 600000) (hs : slots + 122 ≤ 7302250) (H : Heap) (locs : List Loc) (ls : Array Slot) (hP : va_P D classes (WM am cs w ++ WX ad cs z) H) (hD : va_D (fun q : Nat => s.heap.size ≤ q) (WM am cs w ++ WX ad cs z)) (hS : va_S (fun q : Nat => s.heap.size ≤ q) s.heap H locs) (hl : lv_has ls 4 [(0, .ref b), (1, .ref (ad 0)), (2, .ref (am 41)), (3, .int x3)]) (kk : ∀ (z2 : ZT) (w2 : MT) (H : Heap) (locs : List Loc) (ls : Array Slot) (cells2 slots2 : Nat), IX ad cs z2 → IM w2 → RL z2 w2 → cells2 ≤ cells + 2 → slots2 ≤ slots + 122 → va_P D classes (WM am cs w2 ++ WX ad cs z2) H → va_D (fun q : Nat => s.heap.size ≤ q) (WM am cs w2 ++ WX ad cs z2) → va_S (fun q : Nat => s.heap.size ≤ q) s.heap H locs → lv_has ls 4 [(0, .ref b), (1, .ref (ad 0)), (2, .ref (am 41)), (3, .int x3)] → W p l e room_1 s m #[Value.ref b] below meth c H locs cells2 slots2 (lw_Z below #[Value.ref b] s) (F0 m 1544 ls [])) : W p l e room_1 s m #[Value.ref b] below meth c H locs cells slots (lw_Z below #[Value.ref b] s) (F0 m 831 ls []) := by
  obtain ⟨hx, hb, hret, hml, hown, hts, hX, hbl, hlocks, hgv⟩ := id C0
  have hA : ∀ q : Nat, s.heap.size ≤ q → (fun q : Nat => s.heap.size ≤ q) q := fun _ h => h
  have hbA : ¬ (fun q : Nat => s.heap.size ≤ q) b := Nat.not_le.mpr hbl
  have ht : ∀ w ∈ zW, w.before #[Value.ref b] s = true := fun w hw => hts w (List.mem_filter.mp hw).1
  refine lv_aload_n hx hb dL_law_831 rfl (lv_at hl 1 rfl) ?_
  refine lv_aload_n hx hb dL_law_832 rfl (lv_at hl 0 rfl) ?_
  refine lv_iload_n hx hb dL_law_833 rfl (lv_at hl 3 rfl) ?_
  refine lv_iconst (v := (1 : Int32)) hx hb dL_law_834 (by decide) ?_
  refine lv_iadd hx hb dL_law_835 ?_
  refine va_sld hx hb hX hbl hbA hS (zl_in h3 hL (by decide)) dL_law_836 ?_
  refine lv_aload_n hx hb dL_law_837 rfl (lv_at hl 0 rfl) ?_
  refine lv_iload_n hx hb dL_law_838 rfl (lv_at hl 3 rfl) ?_
  refine lv_iconst (v := (2 : Int32)) hx hb dL_law_839 (by decide) ?_
  refine lv_iadd hx hb dL_law_840 ?_
  refine va_sld hx hb hX hbl hbA hS (zl_in h3 hL (by decide)) dL_law_841 ?_
  obtain ⟨R1, hf1, hI2, hM1⟩ := K_X11_lost l D cs k H.size ad z hI (xs (x3 + (1 : Int32)).toNatClampNeg) (xs (x3 + (2 : Int32)).toNatClampNeg)
  refine zk_LXi (As := [.int (xs (x3 + (1 : Int32)).toNatClampNeg), .int (xs (x3 + (2 : Int32)).toNatClampNeg)]) (rest := []) hE hO hM1 ⟨hx, hb, hml, hown, ht⟩ (cwV 2 ht gl_86 rfl rfl rfl (by decide +kernel) ⟨Nat.le_of_ble_eq_true rfl, Nat.le_of_ble_eq_true rfl⟩) (va_recv hK hP (ci := 11) (q0 := 44) rfl rfl) hP hD hS hK hA rfl hl.1 (Nat.le_of_ble_eq_true rfl) dL_law_842 ⟨by show _ ≤ 600000; omega, by show _ ≤ 7302250; omega⟩ (fun H locs hP hD hS => ?_)
  refine lv_pop hx hb dL_law_845 rfl ?_
  refine lv_aload_n hx hb dL_law_846 rfl (lv_at hl 2 rfl) ?_
  refine lv_aload_n hx hb dL_law_847 rfl (lv_at hl 0 rfl) ?_
  refine lv_iload_n hx hb dL_law_848 rfl (lv_at hl 3 rfl) ?_
  refine lv_iconst (v := (1 : Int32)) hx hb dL_law_849 (by decide) ?_
  refine lv_iadd hx hb dL_law_850 ?_
  refine va_sld hx hb hX hbl hbA hS (zl_in h3 hL (by decide)) dL_law_851 ?_
  refine lv_aload_n hx hb dL_law_852 rfl (lv_at hl 0 rfl) ?_
  refine lv_iload_n hx hb dL_law_853 rfl (lv_at hl 3 rfl) ?_
  refine lv_iconst (v := (2 : Int32)) hx hb dL_law_854 (by decide) ?_
  refine lv_iadd hx hb dL_law_855 ?_
  refine va_sld hx hb hX hbl hbA hS (zl_in h3 hL (by decide)) dL_law_856 ?_
  obtain ⟨R2, hf2, hJ2, hM2⟩ := K_X12_lost l D cs k H.size am w hJ (xs (x3 + (1 : Int32)).toNatClampNeg) (xs (x3 + (2 : Int32)).toNatClampNeg)
  refine zk_LMi (As := [.int (xs (x3 + (1 : Int32)).toNatClampNeg), .int (xs (x3 + (2 : Int32)).toNatClampNeg)]) (rest := []) hE hO hM2 ⟨hx, hb, hml, hown, ht⟩ (cwV 2 ht gl_89 rfl rfl rfl (by decide +kernel) ⟨Nat.le_of_ble_eq_true rfl, Nat.le_of_ble_eq_true rfl⟩) (va_recv hK hP (ci := 12) (q0 := 0) rfl rfl) hP hD hS hK hA rfl hl.1 (Nat.le_of_ble_eq_true rfl) dL_law_857 ⟨by show _ ≤ 600000; omega, by show _ ≤ 7302250; omega⟩ (fun H locs hP hD hS => ?_)
  refine lv_pop hx hb dL_law_860 rfl ?_
  refine lv_goto (tgt := 1544) hx hb dL_law_861 (by decide) ?_
  exact kk _ _ H locs ls _ _ hI2 hJ2 ⟨(rl_0 hr :), (rl_1 hr :), (rl_2 hr :), (rl_3 hr :), (rl_4 hr :), (rl_5 hr :), (rl_6 hr :), (rl_7 hr :), (rl_8 hr :), (rl_9 hr :), (rl_10 hr :), (rl_11 hr :), (rl_12 hr :), (rl_13 hr :), (rl_14 hr :), (rl_15 hr :), (rl_16 hr :), (rl_17 hr :), (rl_18 hr :), (rl_19 hr :), (rl_20 hr :), (rl_21 hr :), (rl_22 hr :), (rl_23 hr :), (rl_24 hr :), (rl_25 hr :), (rl_26 hr :), (rl_27 hr :), (rl_28 hr :), (rl_29 hr :), (rl_30 hr :), (rl_31 hr :), (rl_32 hr :), (rl_33 hr :)⟩ (by omega) (by omega) hP hD hS (lv_sub hl [0, 1, 2, 3] rfl)
theorem dL_law_864 : decode cL_law 864 = .ok (.aload_n 1, 1) := zo_43 zh_cL_law_43 4 rfl
theorem dL_law_865 : decode cL_law 865 = .ok (.aload_n 0, 1) := zo_42 zh_cL_law_43 5 rfl
theorem dL_law_866 : decode cL_law 866 = .ok (.iload_n 3, 1) := zo_29 zh_cL_law_43 6 rfl
theorem dL_law_867 : decode cL_law 867 = .ok (.iconst 1, 1) := zo_4 zh_cL_law_43 7 rfl
theorem dL_law_868 : decode cL_law 868 = .ok (.iadd, 1) := zo_96 zh_cL_law_43 8 rfl
theorem dL_law_869 : decode cL_law 869 = .ok (.iaload, 1) := zo_46 zh_cL_law_43 9 rfl
theorem dL_law_870 : decode cL_law 870 = .ok (.aload_n 0, 1) := zo_42 zh_cL_law_43 10 rfl
theorem dL_law_871 : decode cL_law 871 = .ok (.iload_n 3, 1) := zo_29 zh_cL_law_43 11 rfl
theorem dL_law_872 : decode cL_law 872 = .ok (.iconst 2, 1) := zo_5 zh_cL_law_43 12 rfl
theorem dL_law_873 : decode cL_law 873 = .ok (.iadd, 1) := zo_96 zh_cL_law_43 13 rfl
theorem dL_law_874 : decode cL_law 874 = .ok (.iaload, 1) := zo_46 zh_cL_law_43 14 rfl
theorem dL_law_875 : decode cL_law 875 = .ok (.invokevirtual 90, 3) := zo_182 zh_cL_law_43 15 rfl
theorem zo_88 {c : ByteArray} {s : Nat} {K : List Nat} (h : zck K (zdu s c.data.toList) = true) (k : Nat) (hk : zt1 K k 88 = true) : decode c (s + k) = .ok (.pop2, 1) := zde ((zbd (zu1 (zh1 h hk))).trans rfl)
theorem dL_law_878 : decode cL_law 878 = .ok (.pop2, 1) := zo_88 zh_cL_law_43 18 rfl
theorem dL_law_879 : decode cL_law 879 = .ok (.aload_n 2, 1) := zo_44 zh_cL_law_43 19 rfl
set_option maxRecDepth 100000 in
theorem zh_cL_law_44 : zck [42, 29, 4, 96, 46, 42, 29, 5, 96, 46, 182, 0, 94, 88, 167, 2, 138, 43, 42, 29, 4, 96] (zdu 880 cL_law.data.toList) = true := by decide +kernel
theorem dL_law_880 : decode cL_law 880 = .ok (.aload_n 0, 1) := zo_42 zh_cL_law_44 0 rfl
theorem dL_law_881 : decode cL_law 881 = .ok (.iload_n 3, 1) := zo_29 zh_cL_law_44 1 rfl
theorem dL_law_882 : decode cL_law 882 = .ok (.iconst 1, 1) := zo_4 zh_cL_law_44 2 rfl
theorem dL_law_883 : decode cL_law 883 = .ok (.iadd, 1) := zo_96 zh_cL_law_44 3 rfl
theorem dL_law_884 : decode cL_law 884 = .ok (.iaload, 1) := zo_46 zh_cL_law_44 4 rfl
theorem dL_law_885 : decode cL_law 885 = .ok (.aload_n 0, 1) := zo_42 zh_cL_law_44 5 rfl
theorem dL_law_886 : decode cL_law 886 = .ok (.iload_n 3, 1) := zo_29 zh_cL_law_44 6 rfl
theorem dL_law_887 : decode cL_law 887 = .ok (.iconst 2, 1) := zo_5 zh_cL_law_44 7 rfl
theorem dL_law_888 : decode cL_law 888 = .ok (.iadd, 1) := zo_96 zh_cL_law_44 8 rfl
theorem dL_law_889 : decode cL_law 889 = .ok (.iaload, 1) := zo_46 zh_cL_law_44 9 rfl
theorem dL_law_890 : decode cL_law 890 = .ok (.invokevirtual 94, 3) := zo_182 zh_cL_law_44 10 rfl
theorem dL_law_893 : decode cL_law 893 = .ok (.pop2, 1) := zo_88 zh_cL_law_44 13 rfl
theorem dL_law_894 : decode cL_law 894 = .ok (.goto 650, 3) := zo_p167 zh_cL_law_44 14 650 rfl rfl
set_option maxHeartbeats 8000000 in
set_option maxRecDepth 100000 in
theorem law_case_18 {p : Program} {l : Launch} {e : Env} {s : State} {m : MethodId} {below : List Frame} {meth : Method} {c : Code} {b L : Nat} {xs : Nat → Int32} {D : va_G} {cs : Nat → ClassId} {k : (Nat → Nat) × (Nat → Nat)} {ad am : Nat → Nat} (C0 : lw_At p s m meth c b L xs) (hK : va_K D classes (zT cs) s) (hO : zO s) (hE : zE k (fun q : Nat => s.heap.size ≤ q) s) (hL : L ≤ 3072) (x3 : Int32) (h3 : 0 ≤ x3.toInt ∧ x3.toInt + 6 ≤ (L : Int)) (z : ZT) (w : MT) (hI : IX ad cs z) (hJ : IM w) (hr : RL z w) (cells slots : Nat) (hc : cells + 2 ≤ 600000) (hs : slots + 122 ≤ 7302250) (H : Heap) (locs : List Loc) (ls : Array Slot) (hP : va_P D classes (WM am cs w ++ WX ad cs z) H) (hD : va_D (fun q : Nat => s.heap.size ≤ q) (WM am cs w ++ WX ad cs z)) (hS : va_S (fun q : Nat => s.heap.size ≤ q) s.heap H locs) (hl : lv_has ls 4 [(0, .ref b), (1, .ref (ad 0)), (2, .ref (am 41)), (3, .int x3)]) (kk : ∀ (z2 : ZT) (w2 : MT) (H : Heap) (locs : List Loc) (ls : Array Slot) (cells2 slots2 : Nat), IX ad cs z2 → IM w2 → RL z2 w2 → cells2 ≤ cells + 2 → slots2 ≤ slots + 122 → va_P D classes (WM am cs w2 ++ WX ad cs z2) H → va_D (fun q : Nat => s.heap.size ≤ q) (WM am cs w2 ++ WX ad cs z2) → va_S (fun q : Nat => s.heap.size ≤ q) s.heap H locs → lv_has ls 4 [(0, .ref b), (1, .ref (ad 0)), (2, .ref (am 41)), (3, .int x3)] → W p l e room_1 s m #[Value.ref b] below meth c H locs cells2 slots2 (lw_Z below #[Value.ref b] s) (F0 m 1544 ls [])) : W p l e room_1 s m #[Value.ref b] below meth c H locs cells slots (lw_Z below #[Value.ref b] s) (F0 m 864 ls []) := by
  obtain ⟨hx, hb, hret, hml, hown, hts, hX, hbl, hlocks, hgv⟩ := id C0
  have hA : ∀ q : Nat, s.heap.size ≤ q → (fun q : Nat => s.heap.size ≤ q) q := fun _ h => h
  have hbA : ¬ (fun q : Nat => s.heap.size ≤ q) b := Nat.not_le.mpr hbl
  have ht : ∀ w ∈ zW, w.before #[Value.ref b] s = true := fun w hw => hts w (List.mem_filter.mp hw).1
  refine lv_aload_n hx hb dL_law_864 rfl (lv_at hl 1 rfl) ?_
  refine lv_aload_n hx hb dL_law_865 rfl (lv_at hl 0 rfl) ?_
  refine lv_iload_n hx hb dL_law_866 rfl (lv_at hl 3 rfl) ?_
  refine lv_iconst (v := (1 : Int32)) hx hb dL_law_867 (by decide) ?_
  refine lv_iadd hx hb dL_law_868 ?_
  refine va_sld hx hb hX hbl hbA hS (zl_in h3 hL (by decide)) dL_law_869 ?_
  refine lv_aload_n hx hb dL_law_870 rfl (lv_at hl 0 rfl) ?_
  refine lv_iload_n hx hb dL_law_871 rfl (lv_at hl 3 rfl) ?_
  refine lv_iconst (v := (2 : Int32)) hx hb dL_law_872 (by decide) ?_
  refine lv_iadd hx hb dL_law_873 ?_
  refine va_sld hx hb hX hbl hbA hS (zl_in h3 hL (by decide)) dL_law_874 ?_
  obtain ⟨R1, hf1, hI2, hM1⟩ := K_X11_opens l D cs k H.size ad z hI (xs (x3 + (1 : Int32)).toNatClampNeg) (xs (x3 + (2 : Int32)).toNatClampNeg)
  refine zk_LXl (As := [.int (xs (x3 + (1 : Int32)).toNatClampNeg), .int (xs (x3 + (2 : Int32)).toNatClampNeg)]) (rest := []) hE hO hM1 ⟨hx, hb, hml, hown, ht⟩ (cwV 2 ht gl_90 rfl rfl rfl (by decide +kernel) ⟨Nat.le_of_ble_eq_true rfl, Nat.le_of_ble_eq_true rfl⟩) (va_recv hK hP (ci := 11) (q0 := 44) rfl rfl) hP hD hS hK hA rfl hl.1 (Nat.le_of_ble_eq_true rfl) dL_law_875 ⟨by show _ ≤ 600000; omega, by show _ ≤ 7302250; omega⟩ (fun H locs hP hD hS => ?_)
  refine lv_pop2_2 hx hb dL_law_878 rfl ?_
  refine lv_aload_n hx hb dL_law_879 rfl (lv_at hl 2 rfl) ?_
  refine lv_aload_n hx hb dL_law_880 rfl (lv_at hl 0 rfl) ?_
  refine lv_iload_n hx hb dL_law_881 rfl (lv_at hl 3 rfl) ?_
  refine lv_iconst (v := (1 : Int32)) hx hb dL_law_882 (by decide) ?_
  refine lv_iadd hx hb dL_law_883 ?_
  refine va_sld hx hb hX hbl hbA hS (zl_in h3 hL (by decide)) dL_law_884 ?_
  refine lv_aload_n hx hb dL_law_885 rfl (lv_at hl 0 rfl) ?_
  refine lv_iload_n hx hb dL_law_886 rfl (lv_at hl 3 rfl) ?_
  refine lv_iconst (v := (2 : Int32)) hx hb dL_law_887 (by decide) ?_
  refine lv_iadd hx hb dL_law_888 ?_
  refine va_sld hx hb hX hbl hbA hS (zl_in h3 hL (by decide)) dL_law_889 ?_
  obtain ⟨R2, hf2, hJ2, hM2⟩ := K_X12_opens l D cs k H.size am w hJ (xs (x3 + (1 : Int32)).toNatClampNeg) (xs (x3 + (2 : Int32)).toNatClampNeg)
  refine zk_LMl (As := [.int (xs (x3 + (1 : Int32)).toNatClampNeg), .int (xs (x3 + (2 : Int32)).toNatClampNeg)]) (rest := []) hE hO hM2 ⟨hx, hb, hml, hown, ht⟩ (cwV 2 ht gl_94 rfl rfl rfl (by decide +kernel) ⟨Nat.le_of_ble_eq_true rfl, Nat.le_of_ble_eq_true rfl⟩) (va_recv hK hP (ci := 12) (q0 := 0) rfl rfl) hP hD hS hK hA rfl hl.1 (Nat.le_of_ble_eq_true rfl) dL_law_890 ⟨by show _ ≤ 600000; omega, by show _ ≤ 7302250; omega⟩ (fun H locs hP hD hS => ?_)
  refine lv_pop2_2 hx hb dL_law_893 rfl ?_
  refine lv_goto (tgt := 1544) hx hb dL_law_894 (by decide) ?_
  exact kk _ _ H locs ls _ _ hI2 hJ2 ⟨(rl_0 hr :), (rl_1 hr :), (rl_2 hr :), (rl_3 hr :), (rl_4 hr :), (rl_5 hr :), (rl_6 hr :), (rl_7 hr :), (rl_8 hr :), (rl_9 hr :), (rl_10 hr :), (rl_11 hr :), (rl_12 hr :), (rl_13 hr :), (rl_14 hr :), (rl_15 hr :), (rl_16 hr :), (rl_17 hr :), (rl_18 hr :), (rl_19 hr :), (rl_20 hr :), (rl_21 hr :), (rl_22 hr :), (rl_23 hr :), (rl_24 hr :), (rl_25 hr :), (rl_26 hr :), (rl_27 hr :), (rl_28 hr :), (rl_29 hr :), (rl_30 hr :), (rl_31 hr :), (rl_32 hr :), (rl_33 hr :)⟩ (by omega) (by omega) hP hD hS (lv_sub hl [0, 1, 2, 3] rfl)
theorem dL_law_897 : decode cL_law 897 = .ok (.aload_n 1, 1) := zo_43 zh_cL_law_44 17 rfl
theorem dL_law_898 : decode cL_law 898 = .ok (.aload_n 0, 1) := zo_42 zh_cL_law_44 18 rfl
theorem dL_law_899 : decode cL_law 899 = .ok (.iload_n 3, 1) := zo_29 zh_cL_law_44 19 rfl
set_option maxRecDepth 100000 in
theorem zh_cL_law_45 : zck [4, 96, 46, 182, 0, 95, 87, 44, 42, 29, 4, 96, 46, 182, 0, 98, 87, 167, 2, 115, 43, 42] (zdu 900 cL_law.data.toList) = true := by decide +kernel
theorem dL_law_900 : decode cL_law 900 = .ok (.iconst 1, 1) := zo_4 zh_cL_law_45 0 rfl
theorem dL_law_901 : decode cL_law 901 = .ok (.iadd, 1) := zo_96 zh_cL_law_45 1 rfl
theorem dL_law_902 : decode cL_law 902 = .ok (.iaload, 1) := zo_46 zh_cL_law_45 2 rfl
theorem dL_law_903 : decode cL_law 903 = .ok (.invokevirtual 95, 3) := zo_182 zh_cL_law_45 3 rfl
theorem dL_law_906 : decode cL_law 906 = .ok (.pop, 1) := zo_87 zh_cL_law_45 6 rfl
theorem dL_law_907 : decode cL_law 907 = .ok (.aload_n 2, 1) := zo_44 zh_cL_law_45 7 rfl
theorem dL_law_908 : decode cL_law 908 = .ok (.aload_n 0, 1) := zo_42 zh_cL_law_45 8 rfl
theorem dL_law_909 : decode cL_law 909 = .ok (.iload_n 3, 1) := zo_29 zh_cL_law_45 9 rfl
theorem dL_law_910 : decode cL_law 910 = .ok (.iconst 1, 1) := zo_4 zh_cL_law_45 10 rfl
theorem dL_law_911 : decode cL_law 911 = .ok (.iadd, 1) := zo_96 zh_cL_law_45 11 rfl
theorem dL_law_912 : decode cL_law 912 = .ok (.iaload, 1) := zo_46 zh_cL_law_45 12 rfl
theorem dL_law_913 : decode cL_law 913 = .ok (.invokevirtual 98, 3) := zo_182 zh_cL_law_45 13 rfl
theorem dL_law_916 : decode cL_law 916 = .ok (.pop, 1) := zo_87 zh_cL_law_45 16 rfl
theorem dL_law_917 : decode cL_law 917 = .ok (.goto 627, 3) := zo_p167 zh_cL_law_45 17 627 rfl rfl
set_option maxHeartbeats 8000000 in
set_option maxRecDepth 100000 in
theorem law_case_19 {p : Program} {l : Launch} {e : Env} {s : State} {m : MethodId} {below : List Frame} {meth : Method} {c : Code} {b L : Nat} {xs : Nat → Int32} {D : va_G} {cs : Nat → ClassId} {k : (Nat → Nat) × (Nat → Nat)} {ad am : Nat → Nat} (C0 : lw_At p s m meth c b L xs) (hK : va_K D classes (zT cs) s) (hO : zO s) (hE : zE k (fun q : Nat => s.heap.size ≤ q) s) (hL : L ≤ 3072) (x3 : Int32) (h3 : 0 ≤ x3.toInt ∧ x3.toInt + 6 ≤ (L : Int)) (z : ZT) (w : MT) (hI : IX ad cs z) (hJ : IM w) (hr : RL z w) (cells slots : Nat) (hc : cells + 2 ≤ 600000) (hs : slots + 122 ≤ 7302250) (H : Heap) (locs : List Loc) (ls : Array Slot) (hP : va_P D classes (WM am cs w ++ WX ad cs z) H) (hD : va_D (fun q : Nat => s.heap.size ≤ q) (WM am cs w ++ WX ad cs z)) (hS : va_S (fun q : Nat => s.heap.size ≤ q) s.heap H locs) (hl : lv_has ls 4 [(0, .ref b), (1, .ref (ad 0)), (2, .ref (am 41)), (3, .int x3)]) (kk : ∀ (z2 : ZT) (w2 : MT) (H : Heap) (locs : List Loc) (ls : Array Slot) (cells2 slots2 : Nat), IX ad cs z2 → IM w2 → RL z2 w2 → cells2 ≤ cells + 2 → slots2 ≤ slots + 122 → va_P D classes (WM am cs w2 ++ WX ad cs z2) H → va_D (fun q : Nat => s.heap.size ≤ q) (WM am cs w2 ++ WX ad cs z2) → va_S (fun q : Nat => s.heap.size ≤ q) s.heap H locs → lv_has ls 4 [(0, .ref b), (1, .ref (ad 0)), (2, .ref (am 41)), (3, .int x3)] → W p l e room_1 s m #[Value.ref b] below meth c H locs cells2 slots2 (lw_Z below #[Value.ref b] s) (F0 m 1544 ls [])) : W p l e room_1 s m #[Value.ref b] below meth c H locs cells slots (lw_Z below #[Value.ref b] s) (F0 m 897 ls []) := by
  obtain ⟨hx, hb, hret, hml, hown, hts, hX, hbl, hlocks, hgv⟩ := id C0
  have hA : ∀ q : Nat, s.heap.size ≤ q → (fun q : Nat => s.heap.size ≤ q) q := fun _ h => h
  have hbA : ¬ (fun q : Nat => s.heap.size ≤ q) b := Nat.not_le.mpr hbl
  have ht : ∀ w ∈ zW, w.before #[Value.ref b] s = true := fun w hw => hts w (List.mem_filter.mp hw).1
  refine lv_aload_n hx hb dL_law_897 rfl (lv_at hl 1 rfl) ?_
  refine lv_aload_n hx hb dL_law_898 rfl (lv_at hl 0 rfl) ?_
  refine lv_iload_n hx hb dL_law_899 rfl (lv_at hl 3 rfl) ?_
  refine lv_iconst (v := (1 : Int32)) hx hb dL_law_900 (by decide) ?_
  refine lv_iadd hx hb dL_law_901 ?_
  refine va_sld hx hb hX hbl hbA hS (zl_in h3 hL (by decide)) dL_law_902 ?_
  obtain ⟨R1, hf1, hI2, hM1⟩ := K_X11_clash l D cs k H.size ad z hI (xs (x3 + (1 : Int32)).toNatClampNeg)
  refine zk_LXi (As := [.int (xs (x3 + (1 : Int32)).toNatClampNeg)]) (rest := []) hE hO hM1 ⟨hx, hb, hml, hown, ht⟩ (cwV 1 ht gl_95 rfl rfl rfl (by decide +kernel) ⟨Nat.le_of_ble_eq_true rfl, Nat.le_of_ble_eq_true rfl⟩) (va_recv hK hP (ci := 11) (q0 := 44) rfl rfl) hP hD hS hK hA rfl hl.1 (Nat.le_of_ble_eq_true rfl) dL_law_903 ⟨by show _ ≤ 600000; omega, by show _ ≤ 7302250; omega⟩ (fun H locs hP hD hS => ?_)
  refine lv_pop hx hb dL_law_906 rfl ?_
  refine lv_aload_n hx hb dL_law_907 rfl (lv_at hl 2 rfl) ?_
  refine lv_aload_n hx hb dL_law_908 rfl (lv_at hl 0 rfl) ?_
  refine lv_iload_n hx hb dL_law_909 rfl (lv_at hl 3 rfl) ?_
  refine lv_iconst (v := (1 : Int32)) hx hb dL_law_910 (by decide) ?_
  refine lv_iadd hx hb dL_law_911 ?_
  refine va_sld hx hb hX hbl hbA hS (zl_in h3 hL (by decide)) dL_law_912 ?_
  obtain ⟨R2, hf2, hJ2, hM2⟩ := K_X12_clash l D cs k H.size am w hJ (xs (x3 + (1 : Int32)).toNatClampNeg)
  refine zk_LMi (As := [.int (xs (x3 + (1 : Int32)).toNatClampNeg)]) (rest := []) hE hO hM2 ⟨hx, hb, hml, hown, ht⟩ (cwV 1 ht gl_98 rfl rfl rfl (by decide +kernel) ⟨Nat.le_of_ble_eq_true rfl, Nat.le_of_ble_eq_true rfl⟩) (va_recv hK hP (ci := 12) (q0 := 0) rfl rfl) hP hD hS hK hA rfl hl.1 (Nat.le_of_ble_eq_true rfl) dL_law_913 ⟨by show _ ≤ 600000; omega, by show _ ≤ 7302250; omega⟩ (fun H locs hP hD hS => ?_)
  refine lv_pop hx hb dL_law_916 rfl ?_
  refine lv_goto (tgt := 1544) hx hb dL_law_917 (by decide) ?_
  exact kk _ _ H locs ls _ _ hI2 hJ2 ⟨(rl_0 hr :), (rl_1 hr :), (rl_2 hr :), (rl_3 hr :), (rl_4 hr :), (rl_5 hr :), (rl_6 hr :), (rl_7 hr :), (rl_8 hr :), (rl_9 hr :), (rl_10 hr :), (rl_11 hr :), (rl_12 hr :), (rl_13 hr :), (rl_14 hr :), (rl_15 hr :), (rl_16 hr :), (rl_17 hr :), (rl_18 hr :), (rl_19 hr :), (rl_20 hr :), (rl_21 hr :), (rl_22 hr :), (rl_23 hr :), (rl_24 hr :), (rl_25 hr :), (rl_26 hr :), (rl_27 hr :), (rl_28 hr :), (rl_29 hr :), (rl_30 hr :), (rl_31 hr :), (rl_32 hr :), (rl_33 hr :)⟩ (by omega) (by omega) hP hD hS (lv_sub hl [0, 1, 2, 3] rfl)
set_option maxRecDepth 100000 in
theorem zh_cL_law_46 : zck [43, 42, 29, 4, 96, 46, 42, 29, 5, 96, 46, 182, 0, 99, 87, 44, 42, 29, 4, 96, 46, 42] (zdu 920 cL_law.data.toList) = true := by decide +kernel
theorem dL_law_920 : decode cL_law 920 = .ok (.aload_n 1, 1) := zo_43 zh_cL_law_46 0 rfl
theorem dL_law_921 : decode cL_law 921 = .ok (.aload_n 0, 1) := zo_42 zh_cL_law_46 1 rfl
theorem dL_law_922 : decode cL_law 922 = .ok (.iload_n 3, 1) := zo_29 zh_cL_law_46 2 rfl
theorem dL_law_923 : decode cL_law 923 = .ok (.iconst 1, 1) := zo_4 zh_cL_law_46 3 rfl
theorem dL_law_924 : decode cL_law 924 = .ok (.iadd, 1) := zo_96 zh_cL_law_46 4 rfl
theorem dL_law_925 : decode cL_law 925 = .ok (.iaload, 1) := zo_46 zh_cL_law_46 5 rfl
theorem dL_law_926 : decode cL_law 926 = .ok (.aload_n 0, 1) := zo_42 zh_cL_law_46 6 rfl
theorem dL_law_927 : decode cL_law 927 = .ok (.iload_n 3, 1) := zo_29 zh_cL_law_46 7 rfl
theorem dL_law_928 : decode cL_law 928 = .ok (.iconst 2, 1) := zo_5 zh_cL_law_46 8 rfl
theorem dL_law_929 : decode cL_law 929 = .ok (.iadd, 1) := zo_96 zh_cL_law_46 9 rfl
theorem dL_law_930 : decode cL_law 930 = .ok (.iaload, 1) := zo_46 zh_cL_law_46 10 rfl
theorem dL_law_931 : decode cL_law 931 = .ok (.invokevirtual 99, 3) := zo_182 zh_cL_law_46 11 rfl
theorem dL_law_934 : decode cL_law 934 = .ok (.pop, 1) := zo_87 zh_cL_law_46 14 rfl
theorem dL_law_935 : decode cL_law 935 = .ok (.aload_n 2, 1) := zo_44 zh_cL_law_46 15 rfl
theorem dL_law_936 : decode cL_law 936 = .ok (.aload_n 0, 1) := zo_42 zh_cL_law_46 16 rfl
theorem dL_law_937 : decode cL_law 937 = .ok (.iload_n 3, 1) := zo_29 zh_cL_law_46 17 rfl
theorem dL_law_938 : decode cL_law 938 = .ok (.iconst 1, 1) := zo_4 zh_cL_law_46 18 rfl
theorem dL_law_939 : decode cL_law 939 = .ok (.iadd, 1) := zo_96 zh_cL_law_46 19 rfl
set_option maxRecDepth 100000 in
theorem zh_cL_law_47 : zck [46, 42, 29, 5, 96, 46, 182, 0, 102, 87, 167, 2, 82, 43, 42, 29, 4, 96, 46, 42, 29, 5] (zdu 940 cL_law.data.toList) = true := by decide +kernel
theorem dL_law_940 : decode cL_law 940 = .ok (.iaload, 1) := zo_46 zh_cL_law_47 0 rfl
theorem dL_law_941 : decode cL_law 941 = .ok (.aload_n 0, 1) := zo_42 zh_cL_law_47 1 rfl
theorem dL_law_942 : decode cL_law 942 = .ok (.iload_n 3, 1) := zo_29 zh_cL_law_47 2 rfl
theorem dL_law_943 : decode cL_law 943 = .ok (.iconst 2, 1) := zo_5 zh_cL_law_47 3 rfl
theorem dL_law_944 : decode cL_law 944 = .ok (.iadd, 1) := zo_96 zh_cL_law_47 4 rfl
theorem dL_law_945 : decode cL_law 945 = .ok (.iaload, 1) := zo_46 zh_cL_law_47 5 rfl
theorem dL_law_946 : decode cL_law 946 = .ok (.invokevirtual 102, 3) := zo_182 zh_cL_law_47 6 rfl
theorem dL_law_949 : decode cL_law 949 = .ok (.pop, 1) := zo_87 zh_cL_law_47 9 rfl
theorem dL_law_950 : decode cL_law 950 = .ok (.goto 594, 3) := zo_p167 zh_cL_law_47 10 594 rfl rfl
set_option maxHeartbeats 8000000 in
set_option maxRecDepth 100000 in
theorem law_case_20 {p : Program} {l : Launch} {e : Env} {s : State} {m : MethodId} {below : List Frame} {meth : Method} {c : Code} {b L : Nat} {xs : Nat → Int32} {D : va_G} {cs : Nat → ClassId} {k : (Nat → Nat) × (Nat → Nat)} {ad am : Nat → Nat} (C0 : lw_At p s m meth c b L xs) (hK : va_K D classes (zT cs) s) (hO : zO s) (hE : zE k (fun q : Nat => s.heap.size ≤ q) s) (hL : L ≤ 3072) (x3 : Int32) (h3 : 0 ≤ x3.toInt ∧ x3.toInt + 6 ≤ (L : Int)) (z : ZT) (w : MT) (hI : IX ad cs z) (hJ : IM w) (hr : RL z w) (cells slots : Nat) (hc : cells + 2 ≤ 600000) (hs : slots + 122 ≤ 7302250) (H : Heap) (locs : List Loc) (ls : Array Slot) (hP : va_P D classes (WM am cs w ++ WX ad cs z) H) (hD : va_D (fun q : Nat => s.heap.size ≤ q) (WM am cs w ++ WX ad cs z)) (hS : va_S (fun q : Nat => s.heap.size ≤ q) s.heap H locs) (hl : lv_has ls 4 [(0, .ref b), (1, .ref (ad 0)), (2, .ref (am 41)), (3, .int x3)]) (kk : ∀ (z2 : ZT) (w2 : MT) (H : Heap) (locs : List Loc) (ls : Array Slot) (cells2 slots2 : Nat), IX ad cs z2 → IM w2 → RL z2 w2 → cells2 ≤ cells + 2 → slots2 ≤ slots + 122 → va_P D classes (WM am cs w2 ++ WX ad cs z2) H → va_D (fun q : Nat => s.heap.size ≤ q) (WM am cs w2 ++ WX ad cs z2) → va_S (fun q : Nat => s.heap.size ≤ q) s.heap H locs → lv_has ls 4 [(0, .ref b), (1, .ref (ad 0)), (2, .ref (am 41)), (3, .int x3)] → W p l e room_1 s m #[Value.ref b] below meth c H locs cells2 slots2 (lw_Z below #[Value.ref b] s) (F0 m 1544 ls [])) : W p l e room_1 s m #[Value.ref b] below meth c H locs cells slots (lw_Z below #[Value.ref b] s) (F0 m 920 ls []) := by
  obtain ⟨hx, hb, hret, hml, hown, hts, hX, hbl, hlocks, hgv⟩ := id C0
  have hA : ∀ q : Nat, s.heap.size ≤ q → (fun q : Nat => s.heap.size ≤ q) q := fun _ h => h
  have hbA : ¬ (fun q : Nat => s.heap.size ≤ q) b := Nat.not_le.mpr hbl
  have ht : ∀ w ∈ zW, w.before #[Value.ref b] s = true := fun w hw => hts w (List.mem_filter.mp hw).1
  refine lv_aload_n hx hb dL_law_920 rfl (lv_at hl 1 rfl) ?_
  refine lv_aload_n hx hb dL_law_921 rfl (lv_at hl 0 rfl) ?_
  refine lv_iload_n hx hb dL_law_922 rfl (lv_at hl 3 rfl) ?_
  refine lv_iconst (v := (1 : Int32)) hx hb dL_law_923 (by decide) ?_
  refine lv_iadd hx hb dL_law_924 ?_
  refine va_sld hx hb hX hbl hbA hS (zl_in h3 hL (by decide)) dL_law_925 ?_
  refine lv_aload_n hx hb dL_law_926 rfl (lv_at hl 0 rfl) ?_
  refine lv_iload_n hx hb dL_law_927 rfl (lv_at hl 3 rfl) ?_
  refine lv_iconst (v := (2 : Int32)) hx hb dL_law_928 (by decide) ?_
  refine lv_iadd hx hb dL_law_929 ?_
  refine va_sld hx hb hX hbl hbA hS (zl_in h3 hL (by decide)) dL_law_930 ?_
  obtain ⟨R1, hf1, hI2, hM1⟩ := K_X11_wish l D cs k H.size ad z hI (xs (x3 + (1 : Int32)).toNatClampNeg) (xs (x3 + (2 : Int32)).toNatClampNeg)
  refine zk_LXi (As := [.int (xs (x3 + (1 : Int32)).toNatClampNeg), .int (xs (x3 + (2 : Int32)).toNatClampNeg)]) (rest := []) hE hO hM1 ⟨hx, hb, hml, hown, ht⟩ (cwV 2 ht gl_99 rfl rfl rfl (by decide +kernel) ⟨Nat.le_of_ble_eq_true rfl, Nat.le_of_ble_eq_true rfl⟩) (va_recv hK hP (ci := 11) (q0 := 44) rfl rfl) hP hD hS hK hA rfl hl.1 (Nat.le_of_ble_eq_true rfl) dL_law_931 ⟨by show _ ≤ 600000; omega, by show _ ≤ 7302250; omega⟩ (fun H locs hP hD hS => ?_)
  refine lv_pop hx hb dL_law_934 rfl ?_
  refine lv_aload_n hx hb dL_law_935 rfl (lv_at hl 2 rfl) ?_
  refine lv_aload_n hx hb dL_law_936 rfl (lv_at hl 0 rfl) ?_
  refine lv_iload_n hx hb dL_law_937 rfl (lv_at hl 3 rfl) ?_
  refine lv_iconst (v := (1 : Int32)) hx hb dL_law_938 (by decide) ?_
  refine lv_iadd hx hb dL_law_939 ?_
  refine va_sld hx hb hX hbl hbA hS (zl_in h3 hL (by decide)) dL_law_940 ?_
  refine lv_aload_n hx hb dL_law_941 rfl (lv_at hl 0 rfl) ?_
  refine lv_iload_n hx hb dL_law_942 rfl (lv_at hl 3 rfl) ?_
  refine lv_iconst (v := (2 : Int32)) hx hb dL_law_943 (by decide) ?_
  refine lv_iadd hx hb dL_law_944 ?_
  refine va_sld hx hb hX hbl hbA hS (zl_in h3 hL (by decide)) dL_law_945 ?_
  obtain ⟨R2, hf2, hJ2, hM2⟩ := K_X12_wish l D cs k H.size am w hJ (xs (x3 + (1 : Int32)).toNatClampNeg) (xs (x3 + (2 : Int32)).toNatClampNeg)
  have hf3 := hf2
  rw [← (rl_0 hr :), ← (rl_5 hr :), ← (rl_6 hr :), ← (rl_7 hr :), ← (rl_12 hr :), ← (rl_13 hr :), ← (rl_14 hr :), ← (rl_15 hr :), ← (rl_17 hr :)] at hf3
  obtain ⟨EQ, E1, E2, E3⟩ := pe_wish (ix_1 hI) (ix_5 hI) hf1 hf3
  have EQ2 : RL ((fun n => zc n 13 R1.2.1 (z.1 n)), (fun n => zc n 17 R1.2.2.1 (zc n 18 R1.2.2.2 (z.2.1 n))), z.2.2.1, z.2.2.2.1, z.2.2.2.2.1, z.2.2.2.2.2.1, z.2.2.2.2.2.2.1, z.2.2.2.2.2.2.2) ((fun n => zc n 12 R2.2.1 (w.1 n)), (fun n => zc n 34 R2.2.2.1 (zc n 35 R2.2.2.2 (w.2.1 n))), w.2.2) := ⟨(rl_0 hr :), (rl_1 hr :), (rl_2 hr :), (rl_3 hr :), (rl_4 hr :), (rl_5 hr :), (rl_6 hr :), (rl_7 hr :), (rl_8 hr :), (rl_9 hr :), (rl_10 hr :), (rl_11 hr :), E1, E2, E3, (rl_15 hr :), (rl_16 hr :), (rl_17 hr :), (rl_18 hr :), (rl_19 hr :), (rl_20 hr :), (rl_21 hr :), (rl_22 hr :), (rl_23 hr :), (rl_24 hr :), (rl_25 hr :), (rl_26 hr :), (rl_27 hr :), (rl_28 hr :), (rl_29 hr :), (rl_30 hr :), (rl_31 hr :), (rl_32 hr :), (rl_33 hr :)⟩
  refine zk_LMi (As := [.int (xs (x3 + (1 : Int32)).toNatClampNeg), .int (xs (x3 + (2 : Int32)).toNatClampNeg)]) (rest := []) hE hO hM2 ⟨hx, hb, hml, hown, ht⟩ (cwV 2 ht gl_102 rfl rfl rfl (by decide +kernel) ⟨Nat.le_of_ble_eq_true rfl, Nat.le_of_ble_eq_true rfl⟩) (va_recv hK hP (ci := 12) (q0 := 0) rfl rfl) hP hD hS hK hA rfl hl.1 (Nat.le_of_ble_eq_true rfl) dL_law_946 ⟨by show _ ≤ 600000; omega, by show _ ≤ 7302250; omega⟩ (fun H locs hP hD hS => ?_)
  refine lv_pop hx hb dL_law_949 rfl ?_
  refine lv_goto (tgt := 1544) hx hb dL_law_950 (by decide) ?_
  exact kk _ _ H locs ls _ _ hI2 hJ2 EQ2 (by omega) (by omega) hP hD hS (lv_sub hl [0, 1, 2, 3] rfl)
theorem dL_law_953 : decode cL_law 953 = .ok (.aload_n 1, 1) := zo_43 zh_cL_law_47 13 rfl
theorem dL_law_954 : decode cL_law 954 = .ok (.aload_n 0, 1) := zo_42 zh_cL_law_47 14 rfl
theorem dL_law_955 : decode cL_law 955 = .ok (.iload_n 3, 1) := zo_29 zh_cL_law_47 15 rfl
theorem dL_law_956 : decode cL_law 956 = .ok (.iconst 1, 1) := zo_4 zh_cL_law_47 16 rfl
theorem dL_law_957 : decode cL_law 957 = .ok (.iadd, 1) := zo_96 zh_cL_law_47 17 rfl
theorem dL_law_958 : decode cL_law 958 = .ok (.iaload, 1) := zo_46 zh_cL_law_47 18 rfl
theorem dL_law_959 : decode cL_law 959 = .ok (.aload_n 0, 1) := zo_42 zh_cL_law_47 19 rfl
set_option maxRecDepth 100000 in
theorem zh_cL_law_48 : zck [29, 5, 96, 46, 182, 0, 103, 87, 44, 42, 29, 4, 96, 46, 42, 29, 5, 96, 46, 182, 0, 106] (zdu 960 cL_law.data.toList) = true := by decide +kernel
theorem dL_law_960 : decode cL_law 960 = .ok (.iload_n 3, 1) := zo_29 zh_cL_law_48 0 rfl
theorem dL_law_961 : decode cL_law 961 = .ok (.iconst 2, 1) := zo_5 zh_cL_law_48 1 rfl
theorem dL_law_962 : decode cL_law 962 = .ok (.iadd, 1) := zo_96 zh_cL_law_48 2 rfl
theorem dL_law_963 : decode cL_law 963 = .ok (.iaload, 1) := zo_46 zh_cL_law_48 3 rfl
theorem dL_law_964 : decode cL_law 964 = .ok (.invokevirtual 103, 3) := zo_182 zh_cL_law_48 4 rfl
theorem dL_law_967 : decode cL_law 967 = .ok (.pop, 1) := zo_87 zh_cL_law_48 7 rfl
theorem dL_law_968 : decode cL_law 968 = .ok (.aload_n 2, 1) := zo_44 zh_cL_law_48 8 rfl
theorem dL_law_969 : decode cL_law 969 = .ok (.aload_n 0, 1) := zo_42 zh_cL_law_48 9 rfl
theorem dL_law_970 : decode cL_law 970 = .ok (.iload_n 3, 1) := zo_29 zh_cL_law_48 10 rfl
theorem dL_law_971 : decode cL_law 971 = .ok (.iconst 1, 1) := zo_4 zh_cL_law_48 11 rfl
theorem dL_law_972 : decode cL_law 972 = .ok (.iadd, 1) := zo_96 zh_cL_law_48 12 rfl
theorem dL_law_973 : decode cL_law 973 = .ok (.iaload, 1) := zo_46 zh_cL_law_48 13 rfl
theorem dL_law_974 : decode cL_law 974 = .ok (.aload_n 0, 1) := zo_42 zh_cL_law_48 14 rfl
theorem dL_law_975 : decode cL_law 975 = .ok (.iload_n 3, 1) := zo_29 zh_cL_law_48 15 rfl
theorem dL_law_976 : decode cL_law 976 = .ok (.iconst 2, 1) := zo_5 zh_cL_law_48 16 rfl
theorem dL_law_977 : decode cL_law 977 = .ok (.iadd, 1) := zo_96 zh_cL_law_48 17 rfl
theorem dL_law_978 : decode cL_law 978 = .ok (.iaload, 1) := zo_46 zh_cL_law_48 18 rfl
theorem dL_law_979 : decode cL_law 979 = .ok (.invokevirtual 106, 3) := zo_182 zh_cL_law_48 19 rfl
set_option maxRecDepth 100000 in
theorem zh_cL_law_49 : zck [0, 106, 87, 167, 2, 49, 43, 182, 0, 107, 87, 44, 182, 0, 110, 87, 167, 2, 36, 43, 42, 29] (zdu 980 cL_law.data.toList) = true := by decide +kernel
theorem dL_law_982 : decode cL_law 982 = .ok (.pop, 1) := zo_87 zh_cL_law_49 2 rfl
theorem dL_law_983 : decode cL_law 983 = .ok (.goto 561, 3) := zo_p167 zh_cL_law_49 3 561 rfl rfl
set_option maxHeartbeats 8000000 in
set_option maxRecDepth 100000 in
theorem law_case_21 {p : Program} {l : Launch} {e : Env} {s : State} {m : MethodId} {below : List Frame} {meth : Method} {c : Code} {b L : Nat} {xs : Nat → Int32} {D : va_G} {cs : Nat → ClassId} {k : (Nat → Nat) × (Nat → Nat)} {ad am : Nat → Nat} (C0 : lw_At p s m meth c b L xs) (hK : va_K D classes (zT cs) s) (hO : zO s) (hE : zE k (fun q : Nat => s.heap.size ≤ q) s) (hL : L ≤ 3072) (x3 : Int32) (h3 : 0 ≤ x3.toInt ∧ x3.toInt + 6 ≤ (L : Int)) (z : ZT) (w : MT) (hI : IX ad cs z) (hJ : IM w) (hr : RL z w) (cells slots : Nat) (hc : cells + 2 ≤ 600000) (hs : slots + 122 ≤ 7302250) (H : Heap) (locs : List Loc) (ls : Array Slot) (hP : va_P D classes (WM am cs w ++ WX ad cs z) H) (hD : va_D (fun q : Nat => s.heap.size ≤ q) (WM am cs w ++ WX ad cs z)) (hS : va_S (fun q : Nat => s.heap.size ≤ q) s.heap H locs) (hl : lv_has ls 4 [(0, .ref b), (1, .ref (ad 0)), (2, .ref (am 41)), (3, .int x3)]) (kk : ∀ (z2 : ZT) (w2 : MT) (H : Heap) (locs : List Loc) (ls : Array Slot) (cells2 slots2 : Nat), IX ad cs z2 → IM w2 → RL z2 w2 → cells2 ≤ cells + 2 → slots2 ≤ slots + 122 → va_P D classes (WM am cs w2 ++ WX ad cs z2) H → va_D (fun q : Nat => s.heap.size ≤ q) (WM am cs w2 ++ WX ad cs z2) → va_S (fun q : Nat => s.heap.size ≤ q) s.heap H locs → lv_has ls 4 [(0, .ref b), (1, .ref (ad 0)), (2, .ref (am 41)), (3, .int x3)] → W p l e room_1 s m #[Value.ref b] below meth c H locs cells2 slots2 (lw_Z below #[Value.ref b] s) (F0 m 1544 ls [])) : W p l e room_1 s m #[Value.ref b] below meth c H locs cells slots (lw_Z below #[Value.ref b] s) (F0 m 953 ls []) := by
  obtain ⟨hx, hb, hret, hml, hown, hts, hX, hbl, hlocks, hgv⟩ := id C0
  have hA : ∀ q : Nat, s.heap.size ≤ q → (fun q : Nat => s.heap.size ≤ q) q := fun _ h => h
  have hbA : ¬ (fun q : Nat => s.heap.size ≤ q) b := Nat.not_le.mpr hbl
  have ht : ∀ w ∈ zW, w.before #[Value.ref b] s = true := fun w hw => hts w (List.mem_filter.mp hw).1
  refine lv_aload_n hx hb dL_law_953 rfl (lv_at hl 1 rfl) ?_
  refine lv_aload_n hx hb dL_law_954 rfl (lv_at hl 0 rfl) ?_
  refine lv_iload_n hx hb dL_law_955 rfl (lv_at hl 3 rfl) ?_
  refine lv_iconst (v := (1 : Int32)) hx hb dL_law_956 (by decide) ?_
  refine lv_iadd hx hb dL_law_957 ?_
  refine va_sld hx hb hX hbl hbA hS (zl_in h3 hL (by decide)) dL_law_958 ?_
  refine lv_aload_n hx hb dL_law_959 rfl (lv_at hl 0 rfl) ?_
  refine lv_iload_n hx hb dL_law_960 rfl (lv_at hl 3 rfl) ?_
  refine lv_iconst (v := (2 : Int32)) hx hb dL_law_961 (by decide) ?_
  refine lv_iadd hx hb dL_law_962 ?_
  refine va_sld hx hb hX hbl hbA hS (zl_in h3 hL (by decide)) dL_law_963 ?_
  obtain ⟨R1, hf1, hI2, hM1⟩ := K_X11_order l D cs k H.size ad z hI (xs (x3 + (1 : Int32)).toNatClampNeg) (xs (x3 + (2 : Int32)).toNatClampNeg)
  refine zk_LXi (As := [.int (xs (x3 + (1 : Int32)).toNatClampNeg), .int (xs (x3 + (2 : Int32)).toNatClampNeg)]) (rest := []) hE hO hM1 ⟨hx, hb, hml, hown, ht⟩ (cwV 2 ht gl_103 rfl rfl rfl (by decide +kernel) ⟨Nat.le_of_ble_eq_true rfl, Nat.le_of_ble_eq_true rfl⟩) (va_recv hK hP (ci := 11) (q0 := 44) rfl rfl) hP hD hS hK hA rfl hl.1 (Nat.le_of_ble_eq_true rfl) dL_law_964 ⟨by show _ ≤ 600000; omega, by show _ ≤ 7302250; omega⟩ (fun H locs hP hD hS => ?_)
  refine lv_pop hx hb dL_law_967 rfl ?_
  refine lv_aload_n hx hb dL_law_968 rfl (lv_at hl 2 rfl) ?_
  refine lv_aload_n hx hb dL_law_969 rfl (lv_at hl 0 rfl) ?_
  refine lv_iload_n hx hb dL_law_970 rfl (lv_at hl 3 rfl) ?_
  refine lv_iconst (v := (1 : Int32)) hx hb dL_law_971 (by decide) ?_
  refine lv_iadd hx hb dL_law_972 ?_
  refine va_sld hx hb hX hbl hbA hS (zl_in h3 hL (by decide)) dL_law_973 ?_
  refine lv_aload_n hx hb dL_law_974 rfl (lv_at hl 0 rfl) ?_
  refine lv_iload_n hx hb dL_law_975 rfl (lv_at hl 3 rfl) ?_
  refine lv_iconst (v := (2 : Int32)) hx hb dL_law_976 (by decide) ?_
  refine lv_iadd hx hb dL_law_977 ?_
  refine va_sld hx hb hX hbl hbA hS (zl_in h3 hL (by decide)) dL_law_978 ?_
  obtain ⟨R2, hf2, hJ2, hM2⟩ := K_X12_order l D cs k H.size am w hJ (xs (x3 + (1 : Int32)).toNatClampNeg) (xs (x3 + (2 : Int32)).toNatClampNeg)
  have E := of_order hf2
  have EQ2 : RL ((fun n => zc n 3 R1.2.1 (zc n 4 R1.2.2.1 (zc n 5 R1.2.2.2.1 (zc n 14 R1.2.2.2.2.2.2.2.2.2.2.2.1 (zc n 15 R1.2.2.2.2.2.2.2.2.2.2.2.2.1 (zc n 16 R1.2.2.2.2.2.2.2.2.2.2.2.2.2.2.2.2.1 (zc n 17 R1.2.2.2.2.2.2.2.2.2.2.2.2.2.2.2.2.2.1 (zc n 18 R1.2.2.2.2.2.2.2.2.2.2.2.2.2.2.2.2.2.2.1 (zc n 19 R1.2.2.2.2.2.2.2.2.2.2.2.2.2.2.2.2.2.2.2.1 (zc n 20 R1.2.2.2.2.2.2.2.2.2.2.2.2.2.2.2.2.2.2.2.2.1 (zc n 21 R1.2.2.2.2.2.2.2.2.2.2.2.2.2.2.2.2.2.2.2.2.2.1 (zc n 23 R1.2.2.2.2.2.2.2.2.2.2.2.2.2.2.2.2.2.2.2.2.2.2.1 (z.1 n))))))))))))), (fun n => zc n 10 R1.2.2.2.2.1 (zc n 11 R1.2.2.2.2.2.1 (zc n 12 R1.2.2.2.2.2.2.2.2.1 (zc n 13 R1.2.2.2.2.2.2.2.2.2.1 (zc n 14 R1.2.2.2.2.2.2.2.2.2.2.1 (zc n 19 R1.2.2.2.2.2.2.2.2.2.2.2.2.2.1 (zc n 20 R1.2.2.2.2.2.2.2.2.2.2.2.2.2.2.1 (zc n 21 R1.2.2.2.2.2.2.2.2.2.2.2.2.2.2.2.1 (zc n 22 R1.2.2.2.2.2.2.2.2.2.2.2.2.2.2.2.2.2.2.2.2.2.2.2 (z.2.1 n)))))))))), (fun n => zc n 0 R1.2.2.2.2.2.2.1 (zc n 1 R1.2.2.2.2.2.2.2.1 (z.2.2.1 n))), z.2.2.2.1, z.2.2.2.2.1, z.2.2.2.2.2.1, z.2.2.2.2.2.2.1, z.2.2.2.2.2.2.2) ((fun n => zc n 13 R2.2.1 (zc n 14 R2.2.2.1 (w.1 n))), (fun n => zc n 9 R2.2.2.2.1 (zc n 10 R2.2.2.2.2.1 (zc n 11 R2.2.2.2.2.2.1 (zc n 12 R2.2.2.2.2.2.2.1 (zc n 13 R2.2.2.2.2.2.2.2.1 (zc n 14 R2.2.2.2.2.2.2.2.2.1 (zc n 15 R2.2.2.2.2.2.2.2.2.2.1 (zc n 16 R2.2.2.2.2.2.2.2.2.2.2.1 (zc n 17 R2.2.2.2.2.2.2.2.2.2.2.2.1 (zc n 18 R2.2.2.2.2.2.2.2.2.2.2.2.2.1 (zc n 29 R2.2.2.2.2.2.2.2.2.2.2.2.2.2.1 (zc n 30 R2.2.2.2.2.2.2.2.2.2.2.2.2.2.2.1 (zc n 31 R2.2.2.2.2.2.2.2.2.2.2.2.2.2.2.2.1 (zc n 32 R2.2.2.2.2.2.2.2.2.2.2.2.2.2.2.2.2 (w.2.1 n))))))))))))))), w.2.2) := ⟨(rl_0 hr :), (rl_1 hr :), (rl_2 hr :), (rl_3 hr :), (rl_4 hr :), (rl_5 hr :), (rl_6 hr :), (rl_7 hr :), (rl_8 hr :), (rl_9 hr :), (rl_10 hr :), (rl_11 hr :), (rl_12 hr :), (rl_13 hr :), (rl_14 hr :), (rl_15 hr :), (rl_16 hr :), (rl_17 hr :), (rl_18 hr :), (rl_19 hr :), (rl_20 hr :), (rl_21 hr :), (rl_22 hr :), (rl_23 hr :), (rl_24 hr :), (rl_25 hr :), (rl_26 hr :), (rl_27 hr :), (rl_28 hr :), (rl_29 hr :), (rl_30 hr :), (WU_of (ix_2 hI).2 (rl_31 hr :) E.2.2.2.1), (WU_of (ix_2 hI).2 (rl_32 hr :) E.2.2.2.2.2.2.1), (SUS_of (ix_2 hI).2 (rl_33 hr :) E)⟩
  refine zk_LMi (As := [.int (xs (x3 + (1 : Int32)).toNatClampNeg), .int (xs (x3 + (2 : Int32)).toNatClampNeg)]) (rest := []) hE hO hM2 ⟨hx, hb, hml, hown, ht⟩ (cwV 2 ht gl_106 rfl rfl rfl (by decide +kernel) ⟨Nat.le_of_ble_eq_true rfl, Nat.le_of_ble_eq_true rfl⟩) (va_recv hK hP (ci := 12) (q0 := 0) rfl rfl) hP hD hS hK hA rfl hl.1 (Nat.le_of_ble_eq_true rfl) dL_law_979 ⟨by show _ ≤ 600000; omega, by show _ ≤ 7302250; omega⟩ (fun H locs hP hD hS => ?_)
  refine lv_pop hx hb dL_law_982 rfl ?_
  refine lv_goto (tgt := 1544) hx hb dL_law_983 (by decide) ?_
  exact kk _ _ H locs ls _ _ hI2 hJ2 EQ2 (by omega) (by omega) hP hD hS (lv_sub hl [0, 1, 2, 3] rfl)
theorem dL_law_986 : decode cL_law 986 = .ok (.aload_n 1, 1) := zo_43 zh_cL_law_49 6 rfl
theorem dL_law_987 : decode cL_law 987 = .ok (.invokevirtual 107, 3) := zo_182 zh_cL_law_49 7 rfl
theorem dL_law_990 : decode cL_law 990 = .ok (.pop, 1) := zo_87 zh_cL_law_49 10 rfl
theorem dL_law_991 : decode cL_law 991 = .ok (.aload_n 2, 1) := zo_44 zh_cL_law_49 11 rfl
theorem dL_law_992 : decode cL_law 992 = .ok (.invokevirtual 110, 3) := zo_182 zh_cL_law_49 12 rfl
theorem dL_law_995 : decode cL_law 995 = .ok (.pop, 1) := zo_87 zh_cL_law_49 15 rfl
theorem dL_law_996 : decode cL_law 996 = .ok (.goto 548, 3) := zo_p167 zh_cL_law_49 16 548 rfl rfl
set_option maxHeartbeats 8000000 in
set_option maxRecDepth 100000 in
theorem law_case_22 {p : Program} {l : Launch} {e : Env} {s : State} {m : MethodId} {below : List Frame} {meth : Method} {c : Code} {b L : Nat} {xs : Nat → Int32} {D : va_G} {cs : Nat → ClassId} {k : (Nat → Nat) × (Nat → Nat)} {ad am : Nat → Nat} (C0 : lw_At p s m meth c b L xs) (hK : va_K D classes (zT cs) s) (hO : zO s) (hE : zE k (fun q : Nat => s.heap.size ≤ q) s) (hL : L ≤ 3072) (x3 : Int32) (h3 : 0 ≤ x3.toInt ∧ x3.toInt + 6 ≤ (L : Int)) (z : ZT) (w : MT) (hI : IX ad cs z) (hJ : IM w) (hr : RL z w) (cells slots : Nat) (hc : cells + 2 ≤ 600000) (hs : slots + 122 ≤ 7302250) (H : Heap) (locs : List Loc) (ls : Array Slot) (hP : va_P D classes (WM am cs w ++ WX ad cs z) H) (hD : va_D (fun q : Nat => s.heap.size ≤ q) (WM am cs w ++ WX ad cs z)) (hS : va_S (fun q : Nat => s.heap.size ≤ q) s.heap H locs) (hl : lv_has ls 4 [(0, .ref b), (1, .ref (ad 0)), (2, .ref (am 41)), (3, .int x3)]) (kk : ∀ (z2 : ZT) (w2 : MT) (H : Heap) (locs : List Loc) (ls : Array Slot) (cells2 slots2 : Nat), IX ad cs z2 → IM w2 → RL z2 w2 → cells2 ≤ cells + 2 → slots2 ≤ slots + 122 → va_P D classes (WM am cs w2 ++ WX ad cs z2) H → va_D (fun q : Nat => s.heap.size ≤ q) (WM am cs w2 ++ WX ad cs z2) → va_S (fun q : Nat => s.heap.size ≤ q) s.heap H locs → lv_has ls 4 [(0, .ref b), (1, .ref (ad 0)), (2, .ref (am 41)), (3, .int x3)] → W p l e room_1 s m #[Value.ref b] below meth c H locs cells2 slots2 (lw_Z below #[Value.ref b] s) (F0 m 1544 ls [])) : W p l e room_1 s m #[Value.ref b] below meth c H locs cells slots (lw_Z below #[Value.ref b] s) (F0 m 986 ls []) := by
  obtain ⟨hx, hb, hret, hml, hown, hts, hX, hbl, hlocks, hgv⟩ := id C0
  have hA : ∀ q : Nat, s.heap.size ≤ q → (fun q : Nat => s.heap.size ≤ q) q := fun _ h => h
  have hbA : ¬ (fun q : Nat => s.heap.size ≤ q) b := Nat.not_le.mpr hbl
  have ht : ∀ w ∈ zW, w.before #[Value.ref b] s = true := fun w hw => hts w (List.mem_filter.mp hw).1
  refine lv_aload_n hx hb dL_law_986 rfl (lv_at hl 1 rfl) ?_
  obtain ⟨R1, hf1, hI2, hM1⟩ := K_X11_unwish l D cs k H.size ad z hI 
  refine zk_LXi (As := []) (rest := []) hE hO hM1 ⟨hx, hb, hml, hown, ht⟩ (cwV 0 ht gl_107 rfl rfl rfl (by decide +kernel) ⟨Nat.le_of_ble_eq_true rfl, Nat.le_of_ble_eq_true rfl⟩) (va_recv hK hP (ci := 11) (q0 := 44) rfl rfl) hP hD hS hK hA rfl hl.1 (Nat.le_of_ble_eq_true rfl) dL_law_987 ⟨by show _ ≤ 600000; omega, by show _ ≤ 7302250; omega⟩ (fun H locs hP hD hS => ?_)
  refine lv_pop hx hb dL_law_990 rfl ?_
  refine lv_aload_n hx hb dL_law_991 rfl (lv_at hl 2 rfl) ?_
  obtain ⟨R2, hf2, hJ2, hM2⟩ := K_X12_unwish l D cs k H.size am w hJ 
  have g1 := Option.some.inj hf1
  have g2 := Option.some.inj hf2
  have EQ : R1.1 = R2.1 := by rw [← g1, ← g2]; exact (rl_12 hr :)
  have EQ2 : RL ((fun n => zc n 13 R1.2 (z.1 n)), z.2.1, z.2.2.1, z.2.2.2.1, z.2.2.2.2.1, z.2.2.2.2.2.1, z.2.2.2.2.2.2.1, z.2.2.2.2.2.2.2) ((fun n => zc n 12 R2.2 (w.1 n)), w.2.1, w.2.2) := ⟨(rl_0 hr :), (rl_1 hr :), (rl_2 hr :), (rl_3 hr :), (rl_4 hr :), (rl_5 hr :), (rl_6 hr :), (rl_7 hr :), (rl_8 hr :), (rl_9 hr :), (rl_10 hr :), (rl_11 hr :), (by rw [← g1, ← g2]; rfl), (rl_13 hr :), (rl_14 hr :), (rl_15 hr :), (rl_16 hr :), (rl_17 hr :), (rl_18 hr :), (rl_19 hr :), (rl_20 hr :), (rl_21 hr :), (rl_22 hr :), (rl_23 hr :), (rl_24 hr :), (rl_25 hr :), (rl_26 hr :), (rl_27 hr :), (rl_28 hr :), (rl_29 hr :), (rl_30 hr :), (rl_31 hr :), (rl_32 hr :), (rl_33 hr :)⟩
  refine zk_LMi (As := []) (rest := []) hE hO hM2 ⟨hx, hb, hml, hown, ht⟩ (cwV 0 ht gl_110 rfl rfl rfl (by decide +kernel) ⟨Nat.le_of_ble_eq_true rfl, Nat.le_of_ble_eq_true rfl⟩) (va_recv hK hP (ci := 12) (q0 := 0) rfl rfl) hP hD hS hK hA rfl hl.1 (Nat.le_of_ble_eq_true rfl) dL_law_992 ⟨by show _ ≤ 600000; omega, by show _ ≤ 7302250; omega⟩ (fun H locs hP hD hS => ?_)
  refine lv_pop hx hb dL_law_995 rfl ?_
  refine lv_goto (tgt := 1544) hx hb dL_law_996 (by decide) ?_
  exact kk _ _ H locs ls _ _ hI2 hJ2 EQ2 (by omega) (by omega) hP hD hS (lv_sub hl [0, 1, 2, 3] rfl)
theorem dL_law_999 : decode cL_law 999 = .ok (.aload_n 1, 1) := zo_43 zh_cL_law_49 19 rfl
set_option maxRecDepth 100000 in
theorem zh_cL_law_50 : zck [42, 29, 4, 96, 46, 42, 29, 5, 96, 46, 42, 29, 6, 96, 46, 182, 0, 111, 87, 44, 42, 29] (zdu 1000 cL_law.data.toList) = true := by decide +kernel
theorem dL_law_1000 : decode cL_law 1000 = .ok (.aload_n 0, 1) := zo_42 zh_cL_law_50 0 rfl
theorem dL_law_1001 : decode cL_law 1001 = .ok (.iload_n 3, 1) := zo_29 zh_cL_law_50 1 rfl
theorem dL_law_1002 : decode cL_law 1002 = .ok (.iconst 1, 1) := zo_4 zh_cL_law_50 2 rfl
theorem dL_law_1003 : decode cL_law 1003 = .ok (.iadd, 1) := zo_96 zh_cL_law_50 3 rfl
theorem dL_law_1004 : decode cL_law 1004 = .ok (.iaload, 1) := zo_46 zh_cL_law_50 4 rfl
theorem dL_law_1005 : decode cL_law 1005 = .ok (.aload_n 0, 1) := zo_42 zh_cL_law_50 5 rfl
theorem dL_law_1006 : decode cL_law 1006 = .ok (.iload_n 3, 1) := zo_29 zh_cL_law_50 6 rfl
theorem dL_law_1007 : decode cL_law 1007 = .ok (.iconst 2, 1) := zo_5 zh_cL_law_50 7 rfl
theorem dL_law_1008 : decode cL_law 1008 = .ok (.iadd, 1) := zo_96 zh_cL_law_50 8 rfl
theorem dL_law_1009 : decode cL_law 1009 = .ok (.iaload, 1) := zo_46 zh_cL_law_50 9 rfl
theorem dL_law_1010 : decode cL_law 1010 = .ok (.aload_n 0, 1) := zo_42 zh_cL_law_50 10 rfl
theorem dL_law_1011 : decode cL_law 1011 = .ok (.iload_n 3, 1) := zo_29 zh_cL_law_50 11 rfl
theorem dL_law_1012 : decode cL_law 1012 = .ok (.iconst 3, 1) := zo_6 zh_cL_law_50 12 rfl
theorem dL_law_1013 : decode cL_law 1013 = .ok (.iadd, 1) := zo_96 zh_cL_law_50 13 rfl
theorem dL_law_1014 : decode cL_law 1014 = .ok (.iaload, 1) := zo_46 zh_cL_law_50 14 rfl
theorem dL_law_1015 : decode cL_law 1015 = .ok (.invokevirtual 111, 3) := zo_182 zh_cL_law_50 15 rfl
theorem dL_law_1018 : decode cL_law 1018 = .ok (.pop, 1) := zo_87 zh_cL_law_50 18 rfl
theorem dL_law_1019 : decode cL_law 1019 = .ok (.aload_n 2, 1) := zo_44 zh_cL_law_50 19 rfl
set_option maxRecDepth 100000 in
theorem zh_cL_law_51 : zck [42, 29, 4, 96, 46, 42, 29, 5, 96, 46, 42, 29, 6, 96, 46, 182, 0, 114, 87, 167, 1, 249] (zdu 1020 cL_law.data.toList) = true := by decide +kernel
theorem dL_law_1020 : decode cL_law 1020 = .ok (.aload_n 0, 1) := zo_42 zh_cL_law_51 0 rfl
theorem dL_law_1021 : decode cL_law 1021 = .ok (.iload_n 3, 1) := zo_29 zh_cL_law_51 1 rfl
theorem dL_law_1022 : decode cL_law 1022 = .ok (.iconst 1, 1) := zo_4 zh_cL_law_51 2 rfl
theorem dL_law_1023 : decode cL_law 1023 = .ok (.iadd, 1) := zo_96 zh_cL_law_51 3 rfl
theorem dL_law_1024 : decode cL_law 1024 = .ok (.iaload, 1) := zo_46 zh_cL_law_51 4 rfl
theorem dL_law_1025 : decode cL_law 1025 = .ok (.aload_n 0, 1) := zo_42 zh_cL_law_51 5 rfl
theorem dL_law_1026 : decode cL_law 1026 = .ok (.iload_n 3, 1) := zo_29 zh_cL_law_51 6 rfl
theorem dL_law_1027 : decode cL_law 1027 = .ok (.iconst 2, 1) := zo_5 zh_cL_law_51 7 rfl
theorem dL_law_1028 : decode cL_law 1028 = .ok (.iadd, 1) := zo_96 zh_cL_law_51 8 rfl
theorem dL_law_1029 : decode cL_law 1029 = .ok (.iaload, 1) := zo_46 zh_cL_law_51 9 rfl
theorem dL_law_1030 : decode cL_law 1030 = .ok (.aload_n 0, 1) := zo_42 zh_cL_law_51 10 rfl
theorem dL_law_1031 : decode cL_law 1031 = .ok (.iload_n 3, 1) := zo_29 zh_cL_law_51 11 rfl
theorem dL_law_1032 : decode cL_law 1032 = .ok (.iconst 3, 1) := zo_6 zh_cL_law_51 12 rfl
theorem dL_law_1033 : decode cL_law 1033 = .ok (.iadd, 1) := zo_96 zh_cL_law_51 13 rfl
theorem dL_law_1034 : decode cL_law 1034 = .ok (.iaload, 1) := zo_46 zh_cL_law_51 14 rfl
theorem dL_law_1035 : decode cL_law 1035 = .ok (.invokevirtual 114, 3) := zo_182 zh_cL_law_51 15 rfl
theorem dL_law_1038 : decode cL_law 1038 = .ok (.pop, 1) := zo_87 zh_cL_law_51 18 rfl
theorem dL_law_1039 : decode cL_law 1039 = .ok (.goto 505, 3) := zo_p167 zh_cL_law_51 19 505 rfl rfl
set_option maxHeartbeats 8000000 in
set_option maxRecDepth 100000 in
theorem law_case_23 {p : Program} {l : Launch} {e : Env} {s : State} {m : MethodId} {below : List Frame} {meth : Method} {c : Code} {b L : Nat} {xs : Nat → Int32} {D : va_G} {cs : Nat → ClassId} {k : (Nat → Nat) × (Nat → Nat)} {ad am : Nat → Nat} (C0 : lw_At p s m meth c b L xs) (hK : va_K D classes (zT cs) s) (hO : zO s) (hE : zE k (fun q : Nat => s.heap.size ≤ q) s) (hL : L ≤ 3072) (x3 : Int32) (h3 : 0 ≤ x3.toInt ∧ x3.toInt + 6 ≤ (L : Int)) (z : ZT) (w : MT) (hI : IX ad cs z) (hJ : IM w) (hr : RL z w) (cells slots : Nat) (hc : cells + 2 ≤ 600000) (hs : slots + 122 ≤ 7302250) (H : Heap) (locs : List Loc) (ls : Array Slot) (hP : va_P D classes (WM am cs w ++ WX ad cs z) H) (hD : va_D (fun q : Nat => s.heap.size ≤ q) (WM am cs w ++ WX ad cs z)) (hS : va_S (fun q : Nat => s.heap.size ≤ q) s.heap H locs) (hl : lv_has ls 4 [(0, .ref b), (1, .ref (ad 0)), (2, .ref (am 41)), (3, .int x3)]) (kk : ∀ (z2 : ZT) (w2 : MT) (H : Heap) (locs : List Loc) (ls : Array Slot) (cells2 slots2 : Nat), IX ad cs z2 → IM w2 → RL z2 w2 → cells2 ≤ cells + 2 → slots2 ≤ slots + 122 → va_P D classes (WM am cs w2 ++ WX ad cs z2) H → va_D (fun q : Nat => s.heap.size ≤ q) (WM am cs w2 ++ WX ad cs z2) → va_S (fun q : Nat => s.heap.size ≤ q) s.heap H locs → lv_has ls 4 [(0, .ref b), (1, .ref (ad 0)), (2, .ref (am 41)), (3, .int x3)] → W p l e room_1 s m #[Value.ref b] below meth c H locs cells2 slots2 (lw_Z below #[Value.ref b] s) (F0 m 1544 ls [])) : W p l e room_1 s m #[Value.ref b] below meth c H locs cells slots (lw_Z below #[Value.ref b] s) (F0 m 999 ls []) := by
  obtain ⟨hx, hb, hret, hml, hown, hts, hX, hbl, hlocks, hgv⟩ := id C0
  have hA : ∀ q : Nat, s.heap.size ≤ q → (fun q : Nat => s.heap.size ≤ q) q := fun _ h => h
  have hbA : ¬ (fun q : Nat => s.heap.size ≤ q) b := Nat.not_le.mpr hbl
  have ht : ∀ w ∈ zW, w.before #[Value.ref b] s = true := fun w hw => hts w (List.mem_filter.mp hw).1
  refine lv_aload_n hx hb dL_law_999 rfl (lv_at hl 1 rfl) ?_
  refine lv_aload_n hx hb dL_law_1000 rfl (lv_at hl 0 rfl) ?_
  refine lv_iload_n hx hb dL_law_1001 rfl (lv_at hl 3 rfl) ?_
  refine lv_iconst (v := (1 : Int32)) hx hb dL_law_1002 (by decide) ?_
  refine lv_iadd hx hb dL_law_1003 ?_
  refine va_sld hx hb hX hbl hbA hS (zl_in h3 hL (by decide)) dL_law_1004 ?_
  refine lv_aload_n hx hb dL_law_1005 rfl (lv_at hl 0 rfl) ?_
  refine lv_iload_n hx hb dL_law_1006 rfl (lv_at hl 3 rfl) ?_
  refine lv_iconst (v := (2 : Int32)) hx hb dL_law_1007 (by decide) ?_
  refine lv_iadd hx hb dL_law_1008 ?_
  refine va_sld hx hb hX hbl hbA hS (zl_in h3 hL (by decide)) dL_law_1009 ?_
  refine lv_aload_n hx hb dL_law_1010 rfl (lv_at hl 0 rfl) ?_
  refine lv_iload_n hx hb dL_law_1011 rfl (lv_at hl 3 rfl) ?_
  refine lv_iconst (v := (3 : Int32)) hx hb dL_law_1012 (by decide) ?_
  refine lv_iadd hx hb dL_law_1013 ?_
  refine va_sld hx hb hX hbl hbA hS (zl_in h3 hL (by decide)) dL_law_1014 ?_
  obtain ⟨R1, hf1, hI2, hM1⟩ := K_X11_joined l D cs k H.size ad z hI (xs (x3 + (1 : Int32)).toNatClampNeg) (xs (x3 + (2 : Int32)).toNatClampNeg) (xs (x3 + (3 : Int32)).toNatClampNeg)
  refine zk_LXi (As := [.int (xs (x3 + (1 : Int32)).toNatClampNeg), .int (xs (x3 + (2 : Int32)).toNatClampNeg), .int (xs (x3 + (3 : Int32)).toNatClampNeg)]) (rest := []) hE hO hM1 ⟨hx, hb, hml, hown, ht⟩ (cwV 3 ht gl_111 rfl rfl rfl (by decide +kernel) ⟨Nat.le_of_ble_eq_true rfl, Nat.le_of_ble_eq_true rfl⟩) (va_recv hK hP (ci := 11) (q0 := 44) rfl rfl) hP hD hS hK hA rfl hl.1 (Nat.le_of_ble_eq_true rfl) dL_law_1015 ⟨by show _ ≤ 600000; omega, by show _ ≤ 7302250; omega⟩ (fun H locs hP hD hS => ?_)
  refine lv_pop hx hb dL_law_1018 rfl ?_
  refine lv_aload_n hx hb dL_law_1019 rfl (lv_at hl 2 rfl) ?_
  refine lv_aload_n hx hb dL_law_1020 rfl (lv_at hl 0 rfl) ?_
  refine lv_iload_n hx hb dL_law_1021 rfl (lv_at hl 3 rfl) ?_
  refine lv_iconst (v := (1 : Int32)) hx hb dL_law_1022 (by decide) ?_
  refine lv_iadd hx hb dL_law_1023 ?_
  refine va_sld hx hb hX hbl hbA hS (zl_in h3 hL (by decide)) dL_law_1024 ?_
  refine lv_aload_n hx hb dL_law_1025 rfl (lv_at hl 0 rfl) ?_
  refine lv_iload_n hx hb dL_law_1026 rfl (lv_at hl 3 rfl) ?_
  refine lv_iconst (v := (2 : Int32)) hx hb dL_law_1027 (by decide) ?_
  refine lv_iadd hx hb dL_law_1028 ?_
  refine va_sld hx hb hX hbl hbA hS (zl_in h3 hL (by decide)) dL_law_1029 ?_
  refine lv_aload_n hx hb dL_law_1030 rfl (lv_at hl 0 rfl) ?_
  refine lv_iload_n hx hb dL_law_1031 rfl (lv_at hl 3 rfl) ?_
  refine lv_iconst (v := (3 : Int32)) hx hb dL_law_1032 (by decide) ?_
  refine lv_iadd hx hb dL_law_1033 ?_
  refine va_sld hx hb hX hbl hbA hS (zl_in h3 hL (by decide)) dL_law_1034 ?_
  obtain ⟨R2, hf2, hJ2, hM2⟩ := K_X12_joined l D cs k H.size am w hJ (xs (x3 + (1 : Int32)).toNatClampNeg) (xs (x3 + (2 : Int32)).toNatClampNeg) (xs (x3 + (3 : Int32)).toNatClampNeg)
  refine zk_LMi (As := [.int (xs (x3 + (1 : Int32)).toNatClampNeg), .int (xs (x3 + (2 : Int32)).toNatClampNeg), .int (xs (x3 + (3 : Int32)).toNatClampNeg)]) (rest := []) hE hO hM2 ⟨hx, hb, hml, hown, ht⟩ (cwV 3 ht gl_114 rfl rfl rfl (by decide +kernel) ⟨Nat.le_of_ble_eq_true rfl, Nat.le_of_ble_eq_true rfl⟩) (va_recv hK hP (ci := 12) (q0 := 0) rfl rfl) hP hD hS hK hA rfl hl.1 (Nat.le_of_ble_eq_true rfl) dL_law_1035 ⟨by show _ ≤ 600000; omega, by show _ ≤ 7302250; omega⟩ (fun H locs hP hD hS => ?_)
  refine lv_pop hx hb dL_law_1038 rfl ?_
  refine lv_goto (tgt := 1544) hx hb dL_law_1039 (by decide) ?_
  exact kk _ _ H locs ls _ _ hI2 hJ2 ⟨(rl_0 hr :), (rl_1 hr :), (rl_2 hr :), (rl_3 hr :), (rl_4 hr :), (rl_5 hr :), (rl_6 hr :), (rl_7 hr :), (rl_8 hr :), (rl_9 hr :), (rl_10 hr :), (rl_11 hr :), (rl_12 hr :), (rl_13 hr :), (rl_14 hr :), (rl_15 hr :), (rl_16 hr :), (rl_17 hr :), (rl_18 hr :), (rl_19 hr :), (rl_20 hr :), (rl_21 hr :), (rl_22 hr :), (rl_23 hr :), (rl_24 hr :), (rl_25 hr :), (rl_26 hr :), (rl_27 hr :), (rl_28 hr :), (rl_29 hr :), (rl_30 hr :), (rl_31 hr :), (rl_32 hr :), (rl_33 hr :)⟩ (by omega) (by omega) hP hD hS (lv_sub hl [0, 1, 2, 3] rfl)
set_option maxRecDepth 100000 in
theorem zh_cL_law_52 : zck [1, 249, 43, 42, 29, 4, 96, 46, 182, 0, 115, 87, 44, 42, 29, 4, 96, 46, 182, 0, 118, 87] (zdu 1040 cL_law.data.toList) = true := by decide +kernel
theorem dL_law_1042 : decode cL_law 1042 = .ok (.aload_n 1, 1) := zo_43 zh_cL_law_52 2 rfl
theorem dL_law_1043 : decode cL_law 1043 = .ok (.aload_n 0, 1) := zo_42 zh_cL_law_52 3 rfl
theorem dL_law_1044 : decode cL_law 1044 = .ok (.iload_n 3, 1) := zo_29 zh_cL_law_52 4 rfl
theorem dL_law_1045 : decode cL_law 1045 = .ok (.iconst 1, 1) := zo_4 zh_cL_law_52 5 rfl
theorem dL_law_1046 : decode cL_law 1046 = .ok (.iadd, 1) := zo_96 zh_cL_law_52 6 rfl
theorem dL_law_1047 : decode cL_law 1047 = .ok (.iaload, 1) := zo_46 zh_cL_law_52 7 rfl
theorem dL_law_1048 : decode cL_law 1048 = .ok (.invokevirtual 115, 3) := zo_182 zh_cL_law_52 8 rfl
theorem dL_law_1051 : decode cL_law 1051 = .ok (.pop, 1) := zo_87 zh_cL_law_52 11 rfl
theorem dL_law_1052 : decode cL_law 1052 = .ok (.aload_n 2, 1) := zo_44 zh_cL_law_52 12 rfl
theorem dL_law_1053 : decode cL_law 1053 = .ok (.aload_n 0, 1) := zo_42 zh_cL_law_52 13 rfl
theorem dL_law_1054 : decode cL_law 1054 = .ok (.iload_n 3, 1) := zo_29 zh_cL_law_52 14 rfl
theorem dL_law_1055 : decode cL_law 1055 = .ok (.iconst 1, 1) := zo_4 zh_cL_law_52 15 rfl
theorem dL_law_1056 : decode cL_law 1056 = .ok (.iadd, 1) := zo_96 zh_cL_law_52 16 rfl
theorem dL_law_1057 : decode cL_law 1057 = .ok (.iaload, 1) := zo_46 zh_cL_law_52 17 rfl
theorem dL_law_1058 : decode cL_law 1058 = .ok (.invokevirtual 118, 3) := zo_182 zh_cL_law_52 18 rfl
set_option maxRecDepth 100000 in
theorem zh_cL_law_53 : zck [118, 87, 167, 1, 226, 43, 42, 29, 4, 96, 46, 42, 29, 5, 96, 46, 42, 29, 6, 96, 46, 182] (zdu 1060 cL_law.data.toList) = true := by decide +kernel
theorem dL_law_1061 : decode cL_law 1061 = .ok (.pop, 1) := zo_87 zh_cL_law_53 1 rfl
theorem dL_law_1062 : decode cL_law 1062 = .ok (.goto 482, 3) := zo_p167 zh_cL_law_53 2 482 rfl rfl
set_option maxHeartbeats 8000000 in
set_option maxRecDepth 100000 in
theorem law_case_24 {p : Program} {l : Launch} {e : Env} {s : State} {m : MethodId} {below : List Frame} {meth : Method} {c : Code} {b L : Nat} {xs : Nat → Int32} {D : va_G} {cs : Nat → ClassId} {k : (Nat → Nat) × (Nat → Nat)} {ad am : Nat → Nat} (C0 : lw_At p s m meth c b L xs) (hK : va_K D classes (zT cs) s) (hO : zO s) (hE : zE k (fun q : Nat => s.heap.size ≤ q) s) (hL : L ≤ 3072) (x3 : Int32) (h3 : 0 ≤ x3.toInt ∧ x3.toInt + 6 ≤ (L : Int)) (z : ZT) (w : MT) (hI : IX ad cs z) (hJ : IM w) (hr : RL z w) (cells slots : Nat) (hc : cells + 2 ≤ 600000) (hs : slots + 122 ≤ 7302250) (H : Heap) (locs : List Loc) (ls : Array Slot) (hP : va_P D classes (WM am cs w ++ WX ad cs z) H) (hD : va_D (fun q : Nat => s.heap.size ≤ q) (WM am cs w ++ WX ad cs z)) (hS : va_S (fun q : Nat => s.heap.size ≤ q) s.heap H locs) (hl : lv_has ls 4 [(0, .ref b), (1, .ref (ad 0)), (2, .ref (am 41)), (3, .int x3)]) (kk : ∀ (z2 : ZT) (w2 : MT) (H : Heap) (locs : List Loc) (ls : Array Slot) (cells2 slots2 : Nat), IX ad cs z2 → IM w2 → RL z2 w2 → cells2 ≤ cells + 2 → slots2 ≤ slots + 122 → va_P D classes (WM am cs w2 ++ WX ad cs z2) H → va_D (fun q : Nat => s.heap.size ≤ q) (WM am cs w2 ++ WX ad cs z2) → va_S (fun q : Nat => s.heap.size ≤ q) s.heap H locs → lv_has ls 4 [(0, .ref b), (1, .ref (ad 0)), (2, .ref (am 41)), (3, .int x3)] → W p l e room_1 s m #[Value.ref b] below meth c H locs cells2 slots2 (lw_Z below #[Value.ref b] s) (F0 m 1544 ls [])) : W p l e room_1 s m #[Value.ref b] below meth c H locs cells slots (lw_Z below #[Value.ref b] s) (F0 m 1042 ls []) := by
  obtain ⟨hx, hb, hret, hml, hown, hts, hX, hbl, hlocks, hgv⟩ := id C0
  have hA : ∀ q : Nat, s.heap.size ≤ q → (fun q : Nat => s.heap.size ≤ q) q := fun _ h => h
  have hbA : ¬ (fun q : Nat => s.heap.size ≤ q) b := Nat.not_le.mpr hbl
  have ht : ∀ w ∈ zW, w.before #[Value.ref b] s = true := fun w hw => hts w (List.mem_filter.mp hw).1
  refine lv_aload_n hx hb dL_law_1042 rfl (lv_at hl 1 rfl) ?_
  refine lv_aload_n hx hb dL_law_1043 rfl (lv_at hl 0 rfl) ?_
  refine lv_iload_n hx hb dL_law_1044 rfl (lv_at hl 3 rfl) ?_
  refine lv_iconst (v := (1 : Int32)) hx hb dL_law_1045 (by decide) ?_
  refine lv_iadd hx hb dL_law_1046 ?_
  refine va_sld hx hb hX hbl hbA hS (zl_in h3 hL (by decide)) dL_law_1047 ?_
  obtain ⟨R1, hf1, hI2, hM1⟩ := K_X11_ring l D cs k H.size ad z hI (xs (x3 + (1 : Int32)).toNatClampNeg)
  refine zk_LXi (As := [.int (xs (x3 + (1 : Int32)).toNatClampNeg)]) (rest := []) hE hO hM1 ⟨hx, hb, hml, hown, ht⟩ (cwV 1 ht gl_115 rfl rfl rfl (by decide +kernel) ⟨Nat.le_of_ble_eq_true rfl, Nat.le_of_ble_eq_true rfl⟩) (va_recv hK hP (ci := 11) (q0 := 44) rfl rfl) hP hD hS hK hA rfl hl.1 (Nat.le_of_ble_eq_true rfl) dL_law_1048 ⟨by show _ ≤ 600000; omega, by show _ ≤ 7302250; omega⟩ (fun H locs hP hD hS => ?_)
  refine lv_pop hx hb dL_law_1051 rfl ?_
  refine lv_aload_n hx hb dL_law_1052 rfl (lv_at hl 2 rfl) ?_
  refine lv_aload_n hx hb dL_law_1053 rfl (lv_at hl 0 rfl) ?_
  refine lv_iload_n hx hb dL_law_1054 rfl (lv_at hl 3 rfl) ?_
  refine lv_iconst (v := (1 : Int32)) hx hb dL_law_1055 (by decide) ?_
  refine lv_iadd hx hb dL_law_1056 ?_
  refine va_sld hx hb hX hbl hbA hS (zl_in h3 hL (by decide)) dL_law_1057 ?_
  obtain ⟨R2, hf2, hJ2, hM2⟩ := K_X12_ring l D cs k H.size am w hJ (xs (x3 + (1 : Int32)).toNatClampNeg)
  refine zk_LMi (As := [.int (xs (x3 + (1 : Int32)).toNatClampNeg)]) (rest := []) hE hO hM2 ⟨hx, hb, hml, hown, ht⟩ (cwV 1 ht gl_118 rfl rfl rfl (by decide +kernel) ⟨Nat.le_of_ble_eq_true rfl, Nat.le_of_ble_eq_true rfl⟩) (va_recv hK hP (ci := 12) (q0 := 0) rfl rfl) hP hD hS hK hA rfl hl.1 (Nat.le_of_ble_eq_true rfl) dL_law_1058 ⟨by show _ ≤ 600000; omega, by show _ ≤ 7302250; omega⟩ (fun H locs hP hD hS => ?_)
  refine lv_pop hx hb dL_law_1061 rfl ?_
  refine lv_goto (tgt := 1544) hx hb dL_law_1062 (by decide) ?_
  exact kk _ _ H locs ls _ _ hI2 hJ2 ⟨(rl_0 hr :), (rl_1 hr :), (rl_2 hr :), (rl_3 hr :), (rl_4 hr :), (rl_5 hr :), (rl_6 hr :), (rl_7 hr :), (rl_8 hr :), (rl_9 hr :), (rl_10 hr :), (rl_11 hr :), (rl_12 hr :), (rl_13 hr :), (rl_14 hr :), (rl_15 hr :), (rl_16 hr :), (rl_17 hr :), (rl_18 hr :), (rl_19 hr :), (rl_20 hr :), (rl_21 hr :), (rl_22 hr :), (rl_23 hr :), (rl_24 hr :), (rl_25 hr :), (rl_26 hr :), (rl_27 hr :), (rl_28 hr :), (rl_29 hr :), (rl_30 hr :), (rl_31 hr :), (rl_32 hr :), (rl_33 hr :)⟩ (by omega) (by omega) hP hD hS (lv_sub hl [0, 1, 2, 3] rfl)
theorem dL_law_1065 : decode cL_law 1065 = .ok (.aload_n 1, 1) := zo_43 zh_cL_law_53 5 rfl
theorem dL_law_1066 : decode cL_law 1066 = .ok (.aload_n 0, 1) := zo_42 zh_cL_law_53 6 rfl
theorem dL_law_1067 : decode cL_law 1067 = .ok (.iload_n 3, 1) := zo_29 zh_cL_law_53 7 rfl
theorem dL_law_1068 : decode cL_law 1068 = .ok (.iconst 1, 1) := zo_4 zh_cL_law_53 8 rfl
theorem dL_law_1069 : decode cL_law 1069 = .ok (.iadd, 1) := zo_96 zh_cL_law_53 9 rfl
theorem dL_law_1070 : decode cL_law 1070 = .ok (.iaload, 1) := zo_46 zh_cL_law_53 10 rfl
theorem dL_law_1071 : decode cL_law 1071 = .ok (.aload_n 0, 1) := zo_42 zh_cL_law_53 11 rfl
theorem dL_law_1072 : decode cL_law 1072 = .ok (.iload_n 3, 1) := zo_29 zh_cL_law_53 12 rfl
theorem dL_law_1073 : decode cL_law 1073 = .ok (.iconst 2, 1) := zo_5 zh_cL_law_53 13 rfl
theorem dL_law_1074 : decode cL_law 1074 = .ok (.iadd, 1) := zo_96 zh_cL_law_53 14 rfl
theorem dL_law_1075 : decode cL_law 1075 = .ok (.iaload, 1) := zo_46 zh_cL_law_53 15 rfl
theorem dL_law_1076 : decode cL_law 1076 = .ok (.aload_n 0, 1) := zo_42 zh_cL_law_53 16 rfl
theorem dL_law_1077 : decode cL_law 1077 = .ok (.iload_n 3, 1) := zo_29 zh_cL_law_53 17 rfl
theorem dL_law_1078 : decode cL_law 1078 = .ok (.iconst 3, 1) := zo_6 zh_cL_law_53 18 rfl
theorem dL_law_1079 : decode cL_law 1079 = .ok (.iadd, 1) := zo_96 zh_cL_law_53 19 rfl
set_option maxRecDepth 100000 in
theorem zh_cL_law_54 : zck [46, 182, 0, 119, 87, 44, 42, 29, 4, 96, 46, 42, 29, 5, 96, 46, 42, 29, 6, 96, 46, 182] (zdu 1080 cL_law.data.toList) = true := by decide +kernel
theorem dL_law_1080 : decode cL_law 1080 = .ok (.iaload, 1) := zo_46 zh_cL_law_54 0 rfl
theorem dL_law_1081 : decode cL_law 1081 = .ok (.invokevirtual 119, 3) := zo_182 zh_cL_law_54 1 rfl
theorem dL_law_1084 : decode cL_law 1084 = .ok (.pop, 1) := zo_87 zh_cL_law_54 4 rfl
theorem dL_law_1085 : decode cL_law 1085 = .ok (.aload_n 2, 1) := zo_44 zh_cL_law_54 5 rfl
theorem dL_law_1086 : decode cL_law 1086 = .ok (.aload_n 0, 1) := zo_42 zh_cL_law_54 6 rfl
theorem dL_law_1087 : decode cL_law 1087 = .ok (.iload_n 3, 1) := zo_29 zh_cL_law_54 7 rfl
theorem dL_law_1088 : decode cL_law 1088 = .ok (.iconst 1, 1) := zo_4 zh_cL_law_54 8 rfl
theorem dL_law_1089 : decode cL_law 1089 = .ok (.iadd, 1) := zo_96 zh_cL_law_54 9 rfl
theorem dL_law_1090 : decode cL_law 1090 = .ok (.iaload, 1) := zo_46 zh_cL_law_54 10 rfl
theorem dL_law_1091 : decode cL_law 1091 = .ok (.aload_n 0, 1) := zo_42 zh_cL_law_54 11 rfl
theorem dL_law_1092 : decode cL_law 1092 = .ok (.iload_n 3, 1) := zo_29 zh_cL_law_54 12 rfl
theorem dL_law_1093 : decode cL_law 1093 = .ok (.iconst 2, 1) := zo_5 zh_cL_law_54 13 rfl
theorem dL_law_1094 : decode cL_law 1094 = .ok (.iadd, 1) := zo_96 zh_cL_law_54 14 rfl
theorem dL_law_1095 : decode cL_law 1095 = .ok (.iaload, 1) := zo_46 zh_cL_law_54 15 rfl
theorem dL_law_1096 : decode cL_law 1096 = .ok (.aload_n 0, 1) := zo_42 zh_cL_law_54 16 rfl
theorem dL_law_1097 : decode cL_law 1097 = .ok (.iload_n 3, 1) := zo_29 zh_cL_law_54 17 rfl
theorem dL_law_1098 : decode cL_law 1098 = .ok (.iconst 3, 1) := zo_6 zh_cL_law_54 18 rfl
theorem dL_law_1099 : decode cL_law 1099 = .ok (.iadd, 1) := zo_96 zh_cL_law_54 19 rfl
set_option maxRecDepth 100000 in
theorem zh_cL_law_55 : zck [46, 182, 0, 122, 87, 167, 1, 183, 43, 42, 29, 4, 96, 46, 42, 29, 5, 96, 46, 42, 29, 6] (zdu 1100 cL_law.data.toList) = true := by decide +kernel
theorem dL_law_1100 : decode cL_law 1100 = .ok (.iaload, 1) := zo_46 zh_cL_law_55 0 rfl
theorem dL_law_1101 : decode cL_law 1101 = .ok (.invokevirtual 122, 3) := zo_182 zh_cL_law_55 1 rfl
theorem dL_law_1104 : decode cL_law 1104 = .ok (.pop, 1) := zo_87 zh_cL_law_55 4 rfl
theorem dL_law_1105 : decode cL_law 1105 = .ok (.goto 439, 3) := zo_p167 zh_cL_law_55 5 439 rfl rfl
set_option maxHeartbeats 8000000 in
set_option maxRecDepth 100000 in
theorem law_case_25 {p : Program} {l : Launch} {e : Env} {s : State} {m : MethodId} {below : List Frame} {meth : Method} {c : Code} {b L : Nat} {xs : Nat → Int32} {D : va_G} {cs : Nat → ClassId} {k : (Nat → Nat) × (Nat → Nat)} {ad am : Nat → Nat} (C0 : lw_At p s m meth c b L xs) (hK : va_K D classes (zT cs) s) (hO : zO s) (hE : zE k (fun q : Nat => s.heap.size ≤ q) s) (hL : L ≤ 3072) (x3 : Int32) (h3 : 0 ≤ x3.toInt ∧ x3.toInt + 6 ≤ (L : Int)) (z : ZT) (w : MT) (hI : IX ad cs z) (hJ : IM w) (hr : RL z w) (cells slots : Nat) (hc : cells + 2 ≤ 600000) (hs : slots + 122 ≤ 7302250) (H : Heap) (locs : List Loc) (ls : Array Slot) (hP : va_P D classes (WM am cs w ++ WX ad cs z) H) (hD : va_D (fun q : Nat => s.heap.size ≤ q) (WM am cs w ++ WX ad cs z)) (hS : va_S (fun q : Nat => s.heap.size ≤ q) s.heap H locs) (hl : lv_has ls 4 [(0, .ref b), (1, .ref (ad 0)), (2, .ref (am 41)), (3, .int x3)]) (kk : ∀ (z2 : ZT) (w2 : MT) (H : Heap) (locs : List Loc) (ls : Array Slot) (cells2 slots2 : Nat), IX ad cs z2 → IM w2 → RL z2 w2 → cells2 ≤ cells + 2 → slots2 ≤ slots + 122 → va_P D classes (WM am cs w2 ++ WX ad cs z2) H → va_D (fun q : Nat => s.heap.size ≤ q) (WM am cs w2 ++ WX ad cs z2) → va_S (fun q : Nat => s.heap.size ≤ q) s.heap H locs → lv_has ls 4 [(0, .ref b), (1, .ref (ad 0)), (2, .ref (am 41)), (3, .int x3)] → W p l e room_1 s m #[Value.ref b] below meth c H locs cells2 slots2 (lw_Z below #[Value.ref b] s) (F0 m 1544 ls [])) : W p l e room_1 s m #[Value.ref b] below meth c H locs cells slots (lw_Z below #[Value.ref b] s) (F0 m 1065 ls []) := by
  obtain ⟨hx, hb, hret, hml, hown, hts, hX, hbl, hlocks, hgv⟩ := id C0
  have hA : ∀ q : Nat, s.heap.size ≤ q → (fun q : Nat => s.heap.size ≤ q) q := fun _ h => h
  have hbA : ¬ (fun q : Nat => s.heap.size ≤ q) b := Nat.not_le.mpr hbl
  have ht : ∀ w ∈ zW, w.before #[Value.ref b] s = true := fun w hw => hts w (List.mem_filter.mp hw).1
  refine lv_aload_n hx hb dL_law_1065 rfl (lv_at hl 1 rfl) ?_
  refine lv_aload_n hx hb dL_law_1066 rfl (lv_at hl 0 rfl) ?_
  refine lv_iload_n hx hb dL_law_1067 rfl (lv_at hl 3 rfl) ?_
  refine lv_iconst (v := (1 : Int32)) hx hb dL_law_1068 (by decide) ?_
  refine lv_iadd hx hb dL_law_1069 ?_
  refine va_sld hx hb hX hbl hbA hS (zl_in h3 hL (by decide)) dL_law_1070 ?_
  refine lv_aload_n hx hb dL_law_1071 rfl (lv_at hl 0 rfl) ?_
  refine lv_iload_n hx hb dL_law_1072 rfl (lv_at hl 3 rfl) ?_
  refine lv_iconst (v := (2 : Int32)) hx hb dL_law_1073 (by decide) ?_
  refine lv_iadd hx hb dL_law_1074 ?_
  refine va_sld hx hb hX hbl hbA hS (zl_in h3 hL (by decide)) dL_law_1075 ?_
  refine lv_aload_n hx hb dL_law_1076 rfl (lv_at hl 0 rfl) ?_
  refine lv_iload_n hx hb dL_law_1077 rfl (lv_at hl 3 rfl) ?_
  refine lv_iconst (v := (3 : Int32)) hx hb dL_law_1078 (by decide) ?_
  refine lv_iadd hx hb dL_law_1079 ?_
  refine va_sld hx hb hX hbl hbA hS (zl_in h3 hL (by decide)) dL_law_1080 ?_
  obtain ⟨R1, hf1, hI2, hM1⟩ := K_X11_hangs l D cs k H.size ad z hI (xs (x3 + (1 : Int32)).toNatClampNeg) (xs (x3 + (2 : Int32)).toNatClampNeg) (xs (x3 + (3 : Int32)).toNatClampNeg)
  refine zk_LXi (As := [.int (xs (x3 + (1 : Int32)).toNatClampNeg), .int (xs (x3 + (2 : Int32)).toNatClampNeg), .int (xs (x3 + (3 : Int32)).toNatClampNeg)]) (rest := []) hE hO hM1 ⟨hx, hb, hml, hown, ht⟩ (cwV 3 ht gl_119 rfl rfl rfl (by decide +kernel) ⟨Nat.le_of_ble_eq_true rfl, Nat.le_of_ble_eq_true rfl⟩) (va_recv hK hP (ci := 11) (q0 := 44) rfl rfl) hP hD hS hK hA rfl hl.1 (Nat.le_of_ble_eq_true rfl) dL_law_1081 ⟨by show _ ≤ 600000; omega, by show _ ≤ 7302250; omega⟩ (fun H locs hP hD hS => ?_)
  refine lv_pop hx hb dL_law_1084 rfl ?_
  refine lv_aload_n hx hb dL_law_1085 rfl (lv_at hl 2 rfl) ?_
  refine lv_aload_n hx hb dL_law_1086 rfl (lv_at hl 0 rfl) ?_
  refine lv_iload_n hx hb dL_law_1087 rfl (lv_at hl 3 rfl) ?_
  refine lv_iconst (v := (1 : Int32)) hx hb dL_law_1088 (by decide) ?_
  refine lv_iadd hx hb dL_law_1089 ?_
  refine va_sld hx hb hX hbl hbA hS (zl_in h3 hL (by decide)) dL_law_1090 ?_
  refine lv_aload_n hx hb dL_law_1091 rfl (lv_at hl 0 rfl) ?_
  refine lv_iload_n hx hb dL_law_1092 rfl (lv_at hl 3 rfl) ?_
  refine lv_iconst (v := (2 : Int32)) hx hb dL_law_1093 (by decide) ?_
  refine lv_iadd hx hb dL_law_1094 ?_
  refine va_sld hx hb hX hbl hbA hS (zl_in h3 hL (by decide)) dL_law_1095 ?_
  refine lv_aload_n hx hb dL_law_1096 rfl (lv_at hl 0 rfl) ?_
  refine lv_iload_n hx hb dL_law_1097 rfl (lv_at hl 3 rfl) ?_
  refine lv_iconst (v := (3 : Int32)) hx hb dL_law_1098 (by decide) ?_
  refine lv_iadd hx hb dL_law_1099 ?_
  refine va_sld hx hb hX hbl hbA hS (zl_in h3 hL (by decide)) dL_law_1100 ?_
  obtain ⟨R2, hf2, hJ2, hM2⟩ := K_X12_hangs l D cs k H.size am w hJ (xs (x3 + (1 : Int32)).toNatClampNeg) (xs (x3 + (2 : Int32)).toNatClampNeg) (xs (x3 + (3 : Int32)).toNatClampNeg)
  refine zk_LMi (As := [.int (xs (x3 + (1 : Int32)).toNatClampNeg), .int (xs (x3 + (2 : Int32)).toNatClampNeg), .int (xs (x3 + (3 : Int32)).toNatClampNeg)]) (rest := []) hE hO hM2 ⟨hx, hb, hml, hown, ht⟩ (cwV 3 ht gl_122 rfl rfl rfl (by decide +kernel) ⟨Nat.le_of_ble_eq_true rfl, Nat.le_of_ble_eq_true rfl⟩) (va_recv hK hP (ci := 12) (q0 := 0) rfl rfl) hP hD hS hK hA rfl hl.1 (Nat.le_of_ble_eq_true rfl) dL_law_1101 ⟨by show _ ≤ 600000; omega, by show _ ≤ 7302250; omega⟩ (fun H locs hP hD hS => ?_)
  refine lv_pop hx hb dL_law_1104 rfl ?_
  refine lv_goto (tgt := 1544) hx hb dL_law_1105 (by decide) ?_
  exact kk _ _ H locs ls _ _ hI2 hJ2 ⟨(rl_0 hr :), (rl_1 hr :), (rl_2 hr :), (rl_3 hr :), (rl_4 hr :), (rl_5 hr :), (rl_6 hr :), (rl_7 hr :), (rl_8 hr :), (rl_9 hr :), (rl_10 hr :), (rl_11 hr :), (rl_12 hr :), (rl_13 hr :), (rl_14 hr :), (rl_15 hr :), (rl_16 hr :), (rl_17 hr :), (rl_18 hr :), (rl_19 hr :), (rl_20 hr :), (rl_21 hr :), (rl_22 hr :), (rl_23 hr :), (rl_24 hr :), (rl_25 hr :), (rl_26 hr :), (rl_27 hr :), (rl_28 hr :), (rl_29 hr :), (rl_30 hr :), (rl_31 hr :), (rl_32 hr :), (rl_33 hr :)⟩ (by omega) (by omega) hP hD hS (lv_sub hl [0, 1, 2, 3] rfl)
