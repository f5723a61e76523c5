theorem kw_13 : Cond.selects RX0 yX0_settles yX0_settles ∈ zW := zwI (i := 13) (by decide +kernel) (by decide +kernel)
theorem kw_1225 : Cond.instanceMethod yX0_settles ∈ zW := zwC (i := 191) zc_5 rfl rfl
theorem kw_1226 : Cond.code yX0_settles cX0_settles 3 (some .int) ∈ zW := zwC (i := 192) zc_5 rfl rfl
theorem kw_1227 : Cond.methodLink RX0 40 yX0_settles ∈ zW := zwC (i := 193) zc_5 rfl rfl
theorem zh_cX0_settles_0 : zck [27, 170, 0, 0, 0, 0, 0, 114, 0, 0, 0, 1, 0, 0, 0, 6, 0, 0, 0, 39, 0, 0] (zdu 0 cX0_settles.data.toList) = true := by decide +kernel
theorem dX0_settles_0 : decode cX0_settles 0 = .ok (.iload_n 1, 1) := zo_27 zh_cX0_settles_0 0 rfl
theorem dX0_settles_1 : decode cX0_settles 1 = .ok (.tableswitch 114 1 6 #[39, 104, 104, 60, 104, 77], 39) := by decide +kernel
theorem zh_cX0_settles_2 : zck [42, 16, 20, 182, 0, 28, 42, 4, 184, 0, 32, 28, 182, 0, 40, 42, 180, 0, 25, 96, 172, 42] (zdu 40 cX0_settles.data.toList) = true := by decide +kernel
theorem dX0_settles_40 : decode cX0_settles 40 = .ok (.aload_n 0, 1) := zo_42 zh_cX0_settles_2 0 rfl
theorem dX0_settles_41 : decode cX0_settles 41 = .ok (.bipush 20, 2) := zo_p16 zh_cX0_settles_2 1 20 rfl rfl
theorem dX0_settles_43 : decode cX0_settles 43 = .ok (.invokevirtual 28, 3) := zo_182 zh_cX0_settles_2 3 rfl
theorem dX0_settles_46 : decode cX0_settles 46 = .ok (.aload_n 0, 1) := zo_42 zh_cX0_settles_2 6 rfl
theorem dX0_settles_47 : decode cX0_settles 47 = .ok (.iconst 1, 1) := zo_4 zh_cX0_settles_2 7 rfl
theorem dX0_settles_48 : decode cX0_settles 48 = .ok (.invokestatic 32, 3) := zo_184 zh_cX0_settles_2 8 rfl
theorem dX0_settles_51 : decode cX0_settles 51 = .ok (.iload_n 2, 1) := zo_28 zh_cX0_settles_2 11 rfl
theorem dX0_settles_52 : decode cX0_settles 52 = .ok (.invokevirtual 40, 3) := zo_182 zh_cX0_settles_2 12 rfl
theorem dX0_settles_55 : decode cX0_settles 55 = .ok (.aload_n 0, 1) := zo_42 zh_cX0_settles_2 15 rfl
theorem dX0_settles_56 : decode cX0_settles 56 = .ok (.getfield 25, 3) := zo_180 zh_cX0_settles_2 16 rfl
theorem dX0_settles_59 : decode cX0_settles 59 = .ok (.iadd, 1) := zo_96 zh_cX0_settles_2 19 rfl
theorem zh_cX0_settles_3 : zck [172, 42, 16, 50, 182, 0, 28, 42, 7, 184, 0, 32, 28, 182, 0, 40, 116, 172, 42, 16, 71, 182] (zdu 60 cX0_settles.data.toList) = true := by decide +kernel
theorem dX0_settles_60 : decode cX0_settles 60 = .ok (.ireturn, 1) := zo_172 zh_cX0_settles_3 0 rfl
theorem dX0_settles_61 : decode cX0_settles 61 = .ok (.aload_n 0, 1) := zo_42 zh_cX0_settles_3 1 rfl
theorem dX0_settles_62 : decode cX0_settles 62 = .ok (.bipush 50, 2) := zo_p16 zh_cX0_settles_3 2 50 rfl rfl
theorem dX0_settles_64 : decode cX0_settles 64 = .ok (.invokevirtual 28, 3) := zo_182 zh_cX0_settles_3 4 rfl
theorem dX0_settles_67 : decode cX0_settles 67 = .ok (.aload_n 0, 1) := zo_42 zh_cX0_settles_3 7 rfl
theorem dX0_settles_68 : decode cX0_settles 68 = .ok (.iconst 4, 1) := zo_7 zh_cX0_settles_3 8 rfl
theorem dX0_settles_69 : decode cX0_settles 69 = .ok (.invokestatic 32, 3) := zo_184 zh_cX0_settles_3 9 rfl
theorem dX0_settles_72 : decode cX0_settles 72 = .ok (.iload_n 2, 1) := zo_28 zh_cX0_settles_3 12 rfl
theorem dX0_settles_73 : decode cX0_settles 73 = .ok (.invokevirtual 40, 3) := zo_182 zh_cX0_settles_3 13 rfl
theorem dX0_settles_76 : decode cX0_settles 76 = .ok (.ineg, 1) := zo_116 zh_cX0_settles_3 16 rfl
theorem dX0_settles_77 : decode cX0_settles 77 = .ok (.ireturn, 1) := zo_172 zh_cX0_settles_3 17 rfl
theorem dX0_settles_78 : decode cX0_settles 78 = .ok (.aload_n 0, 1) := zo_42 zh_cX0_settles_3 18 rfl
theorem dX0_settles_79 : decode cX0_settles 79 = .ok (.bipush 71, 2) := zo_p16 zh_cX0_settles_3 19 71 rfl rfl
theorem zh_cX0_settles_4 : zck [71, 182, 0, 28, 42, 16, 6, 184, 0, 32, 28, 182, 0, 40, 42, 42, 180, 0, 19, 5, 182, 0] (zdu 80 cX0_settles.data.toList) = true := by decide +kernel
theorem dX0_settles_81 : decode cX0_settles 81 = .ok (.invokevirtual 28, 3) := zo_182 zh_cX0_settles_4 1 rfl
theorem dX0_settles_84 : decode cX0_settles 84 = .ok (.aload_n 0, 1) := zo_42 zh_cX0_settles_4 4 rfl
theorem dX0_settles_85 : decode cX0_settles 85 = .ok (.bipush 6, 2) := zo_p16 zh_cX0_settles_4 5 6 rfl rfl
theorem dX0_settles_87 : decode cX0_settles 87 = .ok (.invokestatic 32, 3) := zo_184 zh_cX0_settles_4 7 rfl
theorem dX0_settles_90 : decode cX0_settles 90 = .ok (.iload_n 2, 1) := zo_28 zh_cX0_settles_4 10 rfl
theorem dX0_settles_91 : decode cX0_settles 91 = .ok (.invokevirtual 40, 3) := zo_182 zh_cX0_settles_4 11 rfl
theorem dX0_settles_94 : decode cX0_settles 94 = .ok (.aload_n 0, 1) := zo_42 zh_cX0_settles_4 14 rfl
theorem dX0_settles_95 : decode cX0_settles 95 = .ok (.aload_n 0, 1) := zo_42 zh_cX0_settles_4 15 rfl
theorem dX0_settles_96 : decode cX0_settles 96 = .ok (.getfield 19, 3) := zo_180 zh_cX0_settles_4 16 rfl
theorem dX0_settles_99 : decode cX0_settles 99 = .ok (.iconst 2, 1) := zo_5 zh_cX0_settles_4 19 rfl
theorem zh_cX0_settles_5 : zck [182, 0, 43, 100, 172, 42, 27, 184, 0, 32, 28, 182, 0, 40, 172, 42, 16, 10, 182, 0, 28, 42] (zdu 100 cX0_settles.data.toList) = true := by decide +kernel
theorem dX0_settles_100 : decode cX0_settles 100 = .ok (.invokevirtual 43, 3) := zo_182 zh_cX0_settles_5 0 rfl
theorem dX0_settles_103 : decode cX0_settles 103 = .ok (.isub, 1) := zo_100 zh_cX0_settles_5 3 rfl
theorem dX0_settles_104 : decode cX0_settles 104 = .ok (.ireturn, 1) := zo_172 zh_cX0_settles_5 4 rfl
theorem dX0_settles_105 : decode cX0_settles 105 = .ok (.aload_n 0, 1) := zo_42 zh_cX0_settles_5 5 rfl
theorem dX0_settles_106 : decode cX0_settles 106 = .ok (.iload_n 1, 1) := zo_27 zh_cX0_settles_5 6 rfl
theorem dX0_settles_107 : decode cX0_settles 107 = .ok (.invokestatic 32, 3) := zo_184 zh_cX0_settles_5 7 rfl
theorem dX0_settles_110 : decode cX0_settles 110 = .ok (.iload_n 2, 1) := zo_28 zh_cX0_settles_5 10 rfl
theorem dX0_settles_111 : decode cX0_settles 111 = .ok (.invokevirtual 40, 3) := zo_182 zh_cX0_settles_5 11 rfl
theorem dX0_settles_114 : decode cX0_settles 114 = .ok (.ireturn, 1) := zo_172 zh_cX0_settles_5 14 rfl
theorem dX0_settles_115 : decode cX0_settles 115 = .ok (.aload_n 0, 1) := zo_42 zh_cX0_settles_5 15 rfl
theorem dX0_settles_116 : decode cX0_settles 116 = .ok (.bipush 10, 2) := zo_p16 zh_cX0_settles_5 16 10 rfl rfl
theorem dX0_settles_118 : decode cX0_settles 118 = .ok (.invokevirtual 28, 3) := zo_182 zh_cX0_settles_5 18 rfl
theorem zh_cX0_settles_6 : zck [28, 42, 42, 180, 0, 19, 28, 182, 0, 36, 5, 104, 172] (zdu 120 cX0_settles.data.toList) = true := by decide +kernel
theorem dX0_settles_121 : decode cX0_settles 121 = .ok (.aload_n 0, 1) := zo_42 zh_cX0_settles_6 1 rfl
theorem dX0_settles_122 : decode cX0_settles 122 = .ok (.aload_n 0, 1) := zo_42 zh_cX0_settles_6 2 rfl
theorem dX0_settles_123 : decode cX0_settles 123 = .ok (.getfield 19, 3) := zo_180 zh_cX0_settles_6 3 rfl
theorem dX0_settles_126 : decode cX0_settles 126 = .ok (.iload_n 2, 1) := zo_28 zh_cX0_settles_6 6 rfl
theorem dX0_settles_127 : decode cX0_settles 127 = .ok (.invokevirtual 36, 3) := zo_182 zh_cX0_settles_6 7 rfl
theorem dX0_settles_130 : decode cX0_settles 130 = .ok (.iconst 2, 1) := zo_5 zh_cX0_settles_6 10 rfl
theorem dX0_settles_131 : decode cX0_settles 131 = .ok (.imul, 1) := zo_104 zh_cX0_settles_6 11 rfl
theorem dX0_settles_132 : decode cX0_settles 132 = .ok (.ireturn, 1) := zo_172 zh_cX0_settles_6 12 rfl
abbrev z_X0_settles : List Cond := .code yX0_settles cX0_settles 3 (some .int) :: zW
abbrev wl_X0_settles (ad : Nat → Nat) (cs : Nat → ClassId)  (acts_ran : Int32) (acts_kind : Int32) (acts_number : Int32) (acts_claims : Int32) (acts_bodies : Nat → Int32) : va_W := [((ad 39), .inr (0, [.ref (ad 40), .int acts_ran, .int acts_kind, .int acts_number, .int acts_claims])), ((ad 40), .inl (cs 0, 24, .inl acts_bodies))]
def Q_X0_settles (D : va_G) (cs : Nat → ClassId) (ad : Nat → Nat)  (acts_kind : Int32) (acts_number : Int32) (acts_claims : Int32) (A : Nat → Prop) (R : Int32 × Int32 × (Nat → Int32)) : Array Value → State → Outcome → State → Prop :=
  va_Qi (fun (r : Int32) (u : Int32 × (Nat → Int32)) => (r, u) = R) (fun (u : Int32 × (Nat → Int32)) (t : State) => va_P D classes (wl_X0_settles ad cs u.1 acts_kind acts_number acts_claims u.2) t.heap ∧ va_D A (wl_X0_settles ad cs u.1 acts_kind acts_number acts_claims u.2)) A
theorem g_X0_40 : GoodIn zW (wsV RX0 40 RX0 yX0_settles z_X0_settles) := zGV kw_1227 kw_1225 kw_13 kw_84 kw_1226
theorem hd_X0_settles : yX0_settles.cls ≠ "java/lang/invoke/MethodHandle" ∧ yX0_settles.cls ≠ "java/lang/invoke/VarHandle" ∧ (parseMethodDescriptor yX0_settles.desc).map (fun d => d.parameters.length) = some 2 := by decide +kernel
def B_X0_settles_0  (r_X0_settles : Int32 → Int32 → Int32 → Int32 → Int32 → Int32 → (Nat → Int32) → (Option (Int32 × Int32 × (Nat → Int32))))  (acts_kind : Int32) (acts_number : Int32) (acts_claims : Int32) (x1 : Int32) (x2 : Int32) (acts_ran : Int32) (acts_bodies : Nat → Int32) : Option (Int32 × Int32 × (Nat → Int32)) :=
  (if x1 = (1 : Int32) then (zk_b2 (f_X0_note (20 : Int32) acts_ran acts_kind acts_number acts_claims acts_bodies) (fun u_1 u_2 => (zk_b2 (f_X0_above (1 : Int32)) (fun r_4 u_5 => (zk_b3 (r_X0_settles r_4 x2 u_1 acts_kind acts_number acts_claims u_2) (fun r_7 u_8 u_9 => (some (r_7 + acts_claims, u_8, u_9)))))))) else (if x1 = (2 : Int32) then (zk_b2 (f_X0_above x1) (fun r_11 u_12 => (zk_b3 (r_X0_settles r_11 x2 acts_ran acts_kind acts_number acts_claims acts_bodies) (fun r_14 u_15 u_16 => (some (r_14, u_15, u_16)))))) else (if x1 = (3 : Int32) then (zk_b2 (f_X0_above x1) (fun r_18 u_19 => (zk_b3 (r_X0_settles r_18 x2 acts_ran acts_kind acts_number acts_claims acts_bodies) (fun r_21 u_22 u_23 => (some (r_21, u_22, u_23)))))) else (if x1 = (4 : Int32) then (zk_b2 (f_X0_note (50 : Int32) acts_ran acts_kind acts_number acts_claims acts_bodies) (fun u_25 u_26 => (zk_b2 (f_X0_above (4 : Int32)) (fun r_28 u_29 => (zk_b3 (r_X0_settles r_28 x2 u_25 acts_kind acts_number acts_claims u_26) (fun r_31 u_32 u_33 => (some (-r_31, u_32, u_33)))))))) else (if x1 = (5 : Int32) then (zk_b2 (f_X0_above x1) (fun r_35 u_36 => (zk_b3 (r_X0_settles r_35 x2 acts_ran acts_kind acts_number acts_claims acts_bodies) (fun r_38 u_39 u_40 => (some (r_38, u_39, u_40)))))) else (if x1 = (6 : Int32) then (zk_b2 (f_X0_note (71 : Int32) acts_ran acts_kind acts_number acts_claims acts_bodies) (fun u_42 u_43 => (zk_b2 (f_X0_above (6 : Int32)) (fun r_45 u_46 => (zk_b3 (r_X0_settles r_45 x2 u_42 acts_kind acts_number acts_claims u_43) (fun r_48 u_49 u_50 => (zk_b3 ((grp_grp139 7) acts_kind (2 : Int32) u_49 acts_kind acts_number acts_claims u_50) (fun r_52 u_53 u_54 => (some (r_48 - r_52, u_53, u_54)))))))))) else (zk_b2 (f_X0_note (10 : Int32) acts_ran acts_kind acts_number acts_claims acts_bodies) (fun u_56 u_57 => (zk_b3 ((grp_grp138 7) acts_kind x2 u_56 acts_kind acts_number acts_claims u_57) (fun r_59 u_60 u_61 => (some (r_59 * (2 : Int32), u_60, u_61))))))))))))
def f_X0_settles  (r_X0_settles : Int32 → Int32 → Int32 → Int32 → Int32 → Int32 → (Nat → Int32) → (Option (Int32 × Int32 × (Nat → Int32)))) (x1 : Int32) (x2 : Int32) (acts_ran : Int32) (acts_kind : Int32) (acts_number : Int32) (acts_claims : Int32) (acts_bodies : Nat → Int32) : Option (Int32 × Int32 × (Nat → Int32)) := B_X0_settles_0  r_X0_settles acts_kind acts_number acts_claims x1 x2 acts_ran acts_bodies
def grp_grp140 (n : Nat) : (Int32 → Int32 → Int32 → Int32 → Int32 → Int32 → (Nat → Int32) → (Option (Int32 × Int32 × (Nat → Int32)))) :=
  Nat.rec (motive := fun _ => (Int32 → Int32 → Int32 → Int32 → Int32 → Int32 → (Nat → Int32) → (Option (Int32 × Int32 × (Nat → Int32))))) ((fun _ _ _ _ _ _ _ => none)) (fun _ ih => (f_X0_settles (ih))) n
set_option maxHeartbeats 4000000 in
set_option maxRecDepth 100000 in
theorem L_X0_settles_0 {p : Program} {l : Launch} {e : Env} {s : State} {m : MethodId} {args : Array Value} {below : List Frame} {meth : Method} {c : Code} {A : Nat → Prop} {D : va_G} {cs : Nat → ClassId} {ad : Nat → Nat} {acts_kind : Int32} {acts_number : Int32} {acts_claims : Int32} {R : Int32 × Int32 × (Nat → Int32)} (C0 : zC p s m args meth c cX0_settles 3 (some .int) RX0 zW) (hK : va_K D classes (zT cs) s) (hA : ∀ q : Nat, s.heap.size ≤ q → A q) {fr lo : Nat} {r_X0_settles : Int32 → Int32 → Int32 → Int32 → Int32 → Int32 → (Nat → Int32) → (Option (Int32 × Int32 × (Nat → Int32)))} (hr_X0_settles : ∀ (D : va_G) (cs : Nat → ClassId) (ad : Nat → Nat) (sz : Nat) (x1 : Int32) (x2 : Int32) (acts_ran : Int32) (acts_kind : Int32) (acts_number : Int32) (acts_claims : Int32) (acts_bodies : Nat → Int32) (R : Int32 × Int32 × (Nat → Int32)) (h : r_X0_settles x1 x2 acts_ran acts_kind acts_number acts_claims acts_bodies = some R), Met l yX0_settles z_X0_settles ({ frames := fr, cells := 0, slots := 0, locals := lo } : Room) (va_Pc [.ref (ad 39), .int x1, .int x2] (zPre D cs (wl_X0_settles ad cs acts_ran acts_kind acts_number acts_claims acts_bodies) sz)) (Q_X0_settles D cs ad acts_kind acts_number acts_claims (va_A (wl_X0_settles ad cs acts_ran acts_kind acts_number acts_claims acts_bodies) sz) R) 0 0 (va_A (wl_X0_settles ad cs acts_ran acts_kind acts_number acts_claims acts_bodies) sz)) (x1 : Int32) (x2 : Int32) (acts_ran : Int32) (acts_bodies : Nat → Int32) (h : B_X0_settles_0 r_X0_settles acts_kind acts_number acts_claims x1 x2 acts_ran acts_bodies = some R) (H : Heap) (locs : List Loc) (ls : Array Slot) (hP : va_P D classes (wl_X0_settles ad cs acts_ran acts_kind acts_number acts_claims acts_bodies) H) (hD : va_D A (wl_X0_settles ad cs acts_ran acts_kind acts_number acts_claims acts_bodies)) (hS : va_S A s.heap H locs) (hl : lv_has ls 3 [(0, .ref (ad 39)), (1, .int x1), (2, .int x2)]) : W p l e ({ frames := fr + 8, cells := 0, slots := 0, locals := lo + 176 } : Room) s m args below meth c H locs 0 0 (MQ below (Q_X0_settles D cs ad acts_kind acts_number acts_claims A R) args s 0 0 A) (F0 m 0 ls []) := by
  obtain ⟨hx, hb, hr, hml, hown, ht, hlocks⟩ := id C0
  refine lv_iload_n hx hb dX0_settles_0 rfl (lv_at hl 1 rfl) ?_
  by_cases c_63 : x1 = (1 : Int32)
  · have h := zk_t c_63 h
    refine lv_tableIn (tgt := 40) hx hb dX0_settles_1 (by rw [c_63]; decide) (by rw [c_63]; decide) (by rw [c_63]; rfl) (by decide) ?_
    refine lv_aload_n hx hb dX0_settles_40 rfl (lv_at hl 0 rfl) ?_
    refine lv_bipush (v := (20 : Int32)) hx hb dX0_settles_41 (by decide) ?_
    obtain ⟨u_1, u_2, hc_3, h⟩ := zk_o2 h
    refine zz_vv (post := (fun u => u = (u_1, u_2))) (w1 := fun u => (wl_X0_note ad cs u.1 acts_kind acts_number acts_claims u.2)) (As := [.int (20 : Int32)]) (rest := []) (c_X0_note l D cs ad  H.size (20 : Int32) acts_ran acts_kind acts_number acts_claims acts_bodies (u_1, u_2) hc_3) ⟨hx, hb, hml, hown, ht⟩ (cwV 1 ht g_X0_28 rfl rfl rfl ⟨rfl, hd_X0_note⟩ ⟨(by show 0 + 1 ≤ fr + 8; omega), (by show 8 + (2 + 11) + 0 ≤ lo + 176; omega)⟩) (va_recv hK hP (ci := 0) (q0 := 0) rfl rfl) hP hD hS hK hA [0, 1] rfl rfl [(ad 39), (ad 40)] rfl (fun _ => rfl) rfl hl.1 (Nat.le_of_ble_eq_true rfl) dX0_settles_43 ⟨Nat.zero_le _, Nat.zero_le _⟩ (fun u H locs hq hP hS => ?_)
    cases hq
    have hP : va_P D classes (wl_X0_settles ad cs u_1 acts_kind acts_number acts_claims u_2) H := hP
    have hD : va_D A (wl_X0_settles ad cs u_1 acts_kind acts_number acts_claims u_2) := zDk hD [(ad 39), (ad 40)] rfl rfl
    refine lv_aload_n hx hb dX0_settles_46 rfl (lv_at hl 0 rfl) ?_
    refine lv_iconst (v := (1 : Int32)) hx hb dX0_settles_47 (by decide) ?_
    obtain ⟨r_4, u_5, hc_6, h⟩ := zk_o2 h
    refine zz_si (post := (fun r u => (r, u) = (r_4, u_5))) (w1 := fun u => (wl_X0_above ad cs )) (As := [.int (1 : Int32)]) (rest := [.ref (ad 39)]) (c_X0_above l D cs ad  H.size (1 : Int32) (r_4, u_5) hc_6) ⟨hx, hb, hml, hown, ht⟩ (va_cwS 1 ht g_X0_32 rfl rfl rfl hd_X0_above ⟨(by show 0 + 1 ≤ fr + 8; omega), (by show 8 + (1 + 11) + 0 ≤ lo + 176; omega)⟩) hP hD hS hK hA [] rfl rfl [] rfl (fun _ => rfl) rfl hl.1 (Nat.le_of_ble_eq_true rfl) dX0_settles_48 ⟨Nat.zero_le _, Nat.zero_le _⟩ (fun r u H locs hq hP hS => ?_)
    cases hq
    have hP : va_P D classes (wl_X0_settles ad cs u_1 acts_kind acts_number acts_claims u_2) H := hP
    refine lv_iload_n hx hb dX0_settles_51 rfl (lv_at hl 2 rfl) ?_
    obtain ⟨r_7, u_8, u_9, hc_10, h⟩ := zk_o3 h
    refine zz_vi (post := (fun r u => (r, u) = (r_7, u_8, u_9))) (w1 := fun u => (wl_X0_settles ad cs u.1 acts_kind acts_number acts_claims u.2)) (As := [.int r_4, .int x2]) (rest := []) (hr_X0_settles D cs ad  H.size r_4 x2 u_1 acts_kind acts_number acts_claims u_2 (r_7, u_8, u_9) hc_10) ⟨hx, hb, hml, hown, ht⟩ (cwV 2 ht g_X0_40 rfl rfl rfl ⟨rfl, hd_X0_settles⟩ ⟨(by show fr + 1 ≤ fr + 8; omega), (by show 8 + (3 + 11) + lo ≤ lo + 176; omega)⟩) (va_recv hK hP (ci := 0) (q0 := 0) rfl rfl) hP hD hS hK hA [0, 1] rfl rfl [(ad 39), (ad 40)] rfl (fun _ => rfl) rfl hl.1 (Nat.le_of_ble_eq_true rfl) dX0_settles_52 ⟨Nat.zero_le _, Nat.zero_le _⟩ (fun r u H locs hq hP hS => ?_)
    cases hq
    have hP : va_P D classes (wl_X0_settles ad cs u_8 acts_kind acts_number acts_claims u_9) H := hP
    have hD : va_D A (wl_X0_settles ad cs u_8 acts_kind acts_number acts_claims u_9) := zDk hD [(ad 39), (ad 40)] rfl rfl
    refine lv_aload_n hx hb dX0_settles_55 rfl (lv_at hl 0 rfl) ?_
    refine va_get (D := D) (ci := 0) (v := .int acts_claims) (C := RX0) (T := TX0) (N := 5) hx hb ht iX0 hown hK hP 0 rfl rfl 4 (by decide) (ht _ kw_460) (fun _ h9 => h9) rfl dX0_settles_56 ?_
    refine lv_iadd hx hb dX0_settles_59 ?_
    exact W.iret (v := r_7 + acts_claims) hx hb hr (fun t ht2 hW => ⟨⟨r_7 + acts_claims, (u_8, u_9), rfl, Option.some.inj h, by rw [ht2]; exact hP, hD⟩, hS.F ht2⟩) hS.2.2 dX0_settles_60 hlocks
  · have h := zk_f c_63 h
    by_cases c_64 : x1 = (2 : Int32)
    · have h := zk_t c_64 h
      refine lv_tableIn (tgt := 105) hx hb dX0_settles_1 (by rw [c_64]; decide) (by rw [c_64]; decide) (by rw [c_64]; rfl) (by decide) ?_
      refine lv_aload_n hx hb dX0_settles_105 rfl (lv_at hl 0 rfl) ?_
      refine lv_iload_n hx hb dX0_settles_106 rfl (lv_at hl 1 rfl) ?_
      obtain ⟨r_11, u_12, hc_13, h⟩ := zk_o2 h
      refine zz_si (post := (fun r u => (r, u) = (r_11, u_12))) (w1 := fun u => (wl_X0_above ad cs )) (As := [.int x1]) (rest := [.ref (ad 39)]) (c_X0_above l D cs ad  H.size x1 (r_11, u_12) hc_13) ⟨hx, hb, hml, hown, ht⟩ (va_cwS 1 ht g_X0_32 rfl rfl rfl hd_X0_above ⟨(by show 0 + 1 ≤ fr + 8; omega), (by show 8 + (1 + 11) + 0 ≤ lo + 176; omega)⟩) hP hD hS hK hA [] rfl rfl [] rfl (fun _ => rfl) rfl hl.1 (Nat.le_of_ble_eq_true rfl) dX0_settles_107 ⟨Nat.zero_le _, Nat.zero_le _⟩ (fun r u H locs hq hP hS => ?_)
      cases hq
      have hP : va_P D classes (wl_X0_settles ad cs acts_ran acts_kind acts_number acts_claims acts_bodies) H := hP
      refine lv_iload_n hx hb dX0_settles_110 rfl (lv_at hl 2 rfl) ?_
      obtain ⟨r_14, u_15, u_16, hc_17, h⟩ := zk_o3 h
      refine zz_vi (post := (fun r u => (r, u) = (r_14, u_15, u_16))) (w1 := fun u => (wl_X0_settles ad cs u.1 acts_kind acts_number acts_claims u.2)) (As := [.int r_11, .int x2]) (rest := []) (hr_X0_settles D cs ad  H.size r_11 x2 acts_ran acts_kind acts_number acts_claims acts_bodies (r_14, u_15, u_16) hc_17) ⟨hx, hb, hml, hown, ht⟩ (cwV 2 ht g_X0_40 rfl rfl rfl ⟨rfl, hd_X0_settles⟩ ⟨(by show fr + 1 ≤ fr + 8; omega), (by show 8 + (3 + 11) + lo ≤ lo + 176; omega)⟩) (va_recv hK hP (ci := 0) (q0 := 0) rfl rfl) hP hD hS hK hA [0, 1] rfl rfl [(ad 39), (ad 40)] rfl (fun _ => rfl) rfl hl.1 (Nat.le_of_ble_eq_true rfl) dX0_settles_111 ⟨Nat.zero_le _, Nat.zero_le _⟩ (fun r u H locs hq hP hS => ?_)
      cases hq
      have hP : va_P D classes (wl_X0_settles ad cs u_15 acts_kind acts_number acts_claims u_16) H := hP
      have hD : va_D A (wl_X0_settles ad cs u_15 acts_kind acts_number acts_claims u_16) := zDk hD [(ad 39), (ad 40)] rfl rfl
      exact W.iret (v := r_14) hx hb hr (fun t ht2 hW => ⟨⟨r_14, (u_15, u_16), rfl, Option.some.inj h, by rw [ht2]; exact hP, hD⟩, hS.F ht2⟩) hS.2.2 dX0_settles_114 hlocks
    · have h := zk_f c_64 h
      by_cases c_65 : x1 = (3 : Int32)
      · have h := zk_t c_65 h
        refine lv_tableIn (tgt := 105) hx hb dX0_settles_1 (by rw [c_65]; decide) (by rw [c_65]; decide) (by rw [c_65]; rfl) (by decide) ?_
        refine lv_aload_n hx hb dX0_settles_105 rfl (lv_at hl 0 rfl) ?_
        refine lv_iload_n hx hb dX0_settles_106 rfl (lv_at hl 1 rfl) ?_
        obtain ⟨r_18, u_19, hc_20, h⟩ := zk_o2 h
        refine zz_si (post := (fun r u => (r, u) = (r_18, u_19))) (w1 := fun u => (wl_X0_above ad cs )) (As := [.int x1]) (rest := [.ref (ad 39)]) (c_X0_above l D cs ad  H.size x1 (r_18, u_19) hc_20) ⟨hx, hb, hml, hown, ht⟩ (va_cwS 1 ht g_X0_32 rfl rfl rfl hd_X0_above ⟨(by show 0 + 1 ≤ fr + 8; omega), (by show 8 + (1 + 11) + 0 ≤ lo + 176; omega)⟩) hP hD hS hK hA [] rfl rfl [] rfl (fun _ => rfl) rfl hl.1 (Nat.le_of_ble_eq_true rfl) dX0_settles_107 ⟨Nat.zero_le _, Nat.zero_le _⟩ (fun r u H locs hq hP hS => ?_)
        cases hq
        have hP : va_P D classes (wl_X0_settles ad cs acts_ran acts_kind acts_number acts_claims acts_bodies) H := hP
        refine lv_iload_n hx hb dX0_settles_110 rfl (lv_at hl 2 rfl) ?_
        obtain ⟨r_21, u_22, u_23, hc_24, h⟩ := zk_o3 h
        refine zz_vi (post := (fun r u => (r, u) = (r_21, u_22, u_23))) (w1 := fun u => (wl_X0_settles ad cs u.1 acts_kind acts_number acts_claims u.2)) (As := [.int r_18, .int x2]) (rest := []) (hr_X0_settles D cs ad  H.size r_18 x2 acts_ran acts_kind acts_number acts_claims acts_bodies (r_21, u_22, u_23) hc_24) ⟨hx, hb, hml, hown, ht⟩ (cwV 2 ht g_X0_40 rfl rfl rfl ⟨rfl, hd_X0_settles⟩ ⟨(by show fr + 1 ≤ fr + 8; omega), (by show 8 + (3 + 11) + lo ≤ lo + 176; omega)⟩) (va_recv hK hP (ci := 0) (q0 := 0) rfl rfl) hP hD hS hK hA [0, 1] rfl rfl [(ad 39), (ad 40)] rfl (fun _ => rfl) rfl hl.1 (Nat.le_of_ble_eq_true rfl) dX0_settles_111 ⟨Nat.zero_le _, Nat.zero_le _⟩ (fun r u H locs hq hP hS => ?_)
        cases hq
        have hP : va_P D classes (wl_X0_settles ad cs u_22 acts_kind acts_number acts_claims u_23) H := hP
        have hD : va_D A (wl_X0_settles ad cs u_22 acts_kind acts_number acts_claims u_23) := zDk hD [(ad 39), (ad 40)] rfl rfl
        exact W.iret (v := r_21) hx hb hr (fun t ht2 hW => ⟨⟨r_21, (u_22, u_23), rfl, Option.some.inj h, by rw [ht2]; exact hP, hD⟩, hS.F ht2⟩) hS.2.2 dX0_settles_114 hlocks
      · have h := zk_f c_65 h
        by_cases c_66 : x1 = (4 : Int32)
        · have h := zk_t c_66 h
          refine lv_tableIn (tgt := 61) hx hb dX0_settles_1 (by rw [c_66]; decide) (by rw [c_66]; decide) (by rw [c_66]; rfl) (by decide) ?_
          refine lv_aload_n hx hb dX0_settles_61 rfl (lv_at hl 0 rfl) ?_
          refine lv_bipush (v := (50 : Int32)) hx hb dX0_settles_62 (by decide) ?_
          obtain ⟨u_25, u_26, hc_27, h⟩ := zk_o2 h
          refine zz_vv (post := (fun u => u = (u_25, u_26))) (w1 := fun u => (wl_X0_note ad cs u.1 acts_kind acts_number acts_claims u.2)) (As := [.int (50 : Int32)]) (rest := []) (c_X0_note l D cs ad  H.size (50 : Int32) acts_ran acts_kind acts_number acts_claims acts_bodies (u_25, u_26) hc_27) ⟨hx, hb, hml, hown, ht⟩ (cwV 1 ht g_X0_28 rfl rfl rfl ⟨rfl, hd_X0_note⟩ ⟨(by show 0 + 1 ≤ fr + 8; omega), (by show 8 + (2 + 11) + 0 ≤ lo + 176; omega)⟩) (va_recv hK hP (ci := 0) (q0 := 0) rfl rfl) hP hD hS hK hA [0, 1] rfl rfl [(ad 39), (ad 40)] rfl (fun _ => rfl) rfl hl.1 (Nat.le_of_ble_eq_true rfl) dX0_settles_64 ⟨Nat.zero_le _, Nat.zero_le _⟩ (fun u H locs hq hP hS => ?_)
          cases hq
          have hP : va_P D classes (wl_X0_settles ad cs u_25 acts_kind acts_number acts_claims u_26) H := hP
          have hD : va_D A (wl_X0_settles ad cs u_25 acts_kind acts_number acts_claims u_26) := zDk hD [(ad 39), (ad 40)] rfl rfl
          refine lv_aload_n hx hb dX0_settles_67 rfl (lv_at hl 0 rfl) ?_
          refine lv_iconst (v := (4 : Int32)) hx hb dX0_settles_68 (by decide) ?_
          obtain ⟨r_28, u_29, hc_30, h⟩ := zk_o2 h
          refine zz_si (post := (fun r u => (r, u) = (r_28, u_29))) (w1 := fun u => (wl_X0_above ad cs )) (As := [.int (4 : Int32)]) (rest := [.ref (ad 39)]) (c_X0_above l D cs ad  H.size (4 : Int32) (r_28, u_29) hc_30) ⟨hx, hb, hml, hown, ht⟩ (va_cwS 1 ht g_X0_32 rfl rfl rfl hd_X0_above ⟨(by show 0 + 1 ≤ fr + 8; omega), (by show 8 + (1 + 11) + 0 ≤ lo + 176; omega)⟩) hP hD hS hK hA [] rfl rfl [] rfl (fun _ => rfl) rfl hl.1 (Nat.le_of_ble_eq_true rfl) dX0_settles_69 ⟨Nat.zero_le _, Nat.zero_le _⟩ (fun r u H locs hq hP hS => ?_)
          cases hq
          have hP : va_P D classes (wl_X0_settles ad cs u_25 acts_kind acts_number acts_claims u_26) H := hP
          refine lv_iload_n hx hb dX0_settles_72 rfl (lv_at hl 2 rfl) ?_
          obtain ⟨r_31, u_32, u_33, hc_34, h⟩ := zk_o3 h
          refine zz_vi (post := (fun r u => (r, u) = (r_31, u_32, u_33))) (w1 := fun u => (wl_X0_settles ad cs u.1 acts_kind acts_number acts_claims u.2)) (As := [.int r_28, .int x2]) (rest := []) (hr_X0_settles D cs ad  H.size r_28 x2 u_25 acts_kind acts_number acts_claims u_26 (r_31, u_32, u_33) hc_34) ⟨hx, hb, hml, hown, ht⟩ (cwV 2 ht g_X0_40 rfl rfl rfl ⟨rfl, hd_X0_settles⟩ ⟨(by show fr + 1 ≤ fr + 8; omega), (by show 8 + (3 + 11) + lo ≤ lo + 176; omega)⟩) (va_recv hK hP (ci := 0) (q0 := 0) rfl rfl) hP hD hS hK hA [0, 1] rfl rfl [(ad 39), (ad 40)] rfl (fun _ => rfl) rfl hl.1 (Nat.le_of_ble_eq_true rfl) dX0_settles_73 ⟨Nat.zero_le _, Nat.zero_le _⟩ (fun r u H locs hq hP hS => ?_)
          cases hq
          have hP : va_P D classes (wl_X0_settles ad cs u_32 acts_kind acts_number acts_claims u_33) H := hP
          have hD : va_D A (wl_X0_settles ad cs u_32 acts_kind acts_number acts_claims u_33) := zDk hD [(ad 39), (ad 40)] rfl rfl
          refine lv_ineg hx hb dX0_settles_76 ?_
          exact W.iret (v := -r_31) hx hb hr (fun t ht2 hW => ⟨⟨-r_31, (u_32, u_33), rfl, Option.some.inj h, by rw [ht2]; exact hP, hD⟩, hS.F ht2⟩) hS.2.2 dX0_settles_77 hlocks
        · have h := zk_f c_66 h
          by_cases c_67 : x1 = (5 : Int32)
          · have h := zk_t c_67 h
            refine lv_tableIn (tgt := 105) hx hb dX0_settles_1 (by rw [c_67]; decide) (by rw [c_67]; decide) (by rw [c_67]; rfl) (by decide) ?_
            refine lv_aload_n hx hb dX0_settles_105 rfl (lv_at hl 0 rfl) ?_
            refine lv_iload_n hx hb dX0_settles_106 rfl (lv_at hl 1 rfl) ?_
            obtain ⟨r_35, u_36, hc_37, h⟩ := zk_o2 h
            refine zz_si (post := (fun r u => (r, u) = (r_35, u_36))) (w1 := fun u => (wl_X0_above ad cs )) (As := [.int x1]) (rest := [.ref (ad 39)]) (c_X0_above l D cs ad  H.size x1 (r_35, u_36) hc_37) ⟨hx, hb, hml, hown, ht⟩ (va_cwS 1 ht g_X0_32 rfl rfl rfl hd_X0_above ⟨(by show 0 + 1 ≤ fr + 8; omega), (by show 8 + (1 + 11) + 0 ≤ lo + 176; omega)⟩) hP hD hS hK hA [] rfl rfl [] rfl (fun _ => rfl) rfl hl.1 (Nat.le_of_ble_eq_true rfl) dX0_settles_107 ⟨Nat.zero_le _, Nat.zero_le _⟩ (fun r u H locs hq hP hS => ?_)
            cases hq
            have hP : va_P D classes (wl_X0_settles ad cs acts_ran acts_kind acts_number acts_claims acts_bodies) H := hP
            refine lv_iload_n hx hb dX0_settles_110 rfl (lv_at hl 2 rfl) ?_
            obtain ⟨r_38, u_39, u_40, hc_41, h⟩ := zk_o3 h
            refine zz_vi (post := (fun r u => (r, u) = (r_38, u_39, u_40))) (w1 := fun u => (wl_X0_settles ad cs u.1 acts_kind acts_number acts_claims u.2)) (As := [.int r_35, .int x2]) (rest := []) (hr_X0_settles D cs ad  H.size r_35 x2 acts_ran acts_kind acts_number acts_claims acts_bodies (r_38, u_39, u_40) hc_41) ⟨hx, hb, hml, hown, ht⟩ (cwV 2 ht g_X0_40 rfl rfl rfl ⟨rfl, hd_X0_settles⟩ ⟨(by show fr + 1 ≤ fr + 8; omega), (by show 8 + (3 + 11) + lo ≤ lo + 176; omega)⟩) (va_recv hK hP (ci := 0) (q0 := 0) rfl rfl) hP hD hS hK hA [0, 1] rfl rfl [(ad 39), (ad 40)] rfl (fun _ => rfl) rfl hl.1 (Nat.le_of_ble_eq_true rfl) dX0_settles_111 ⟨Nat.zero_le _, Nat.zero_le _⟩ (fun r u H locs hq hP hS => ?_)
            cases hq
            have hP : va_P D classes (wl_X0_settles ad cs u_39 acts_kind acts_number acts_claims u_40) H := hP
            have hD : va_D A (wl_X0_settles ad cs u_39 acts_kind acts_number acts_claims u_40) := zDk hD [(ad 39), (ad 40)] rfl rfl
            exact W.iret (v := r_38) hx hb hr (fun t ht2 hW => ⟨⟨r_38, (u_39, u_40), rfl, Option.some.inj h, by rw [ht2]; exact hP, hD⟩, hS.F ht2⟩) hS.2.2 dX0_settles_114 hlocks
          · have h := zk_f c_67 h
            by_cases c_68 : x1 = (6 : Int32)
            · have h := zk_t c_68 h
              refine lv_tableIn (tgt := 78) hx hb dX0_settles_1 (by rw [c_68]; decide) (by rw [c_68]; decide) (by rw [c_68]; rfl) (by decide) ?_
              refine lv_aload_n hx hb dX0_settles_78 rfl (lv_at hl 0 rfl) ?_
              refine lv_bipush (v := (71 : Int32)) hx hb dX0_settles_79 (by decide) ?_
              obtain ⟨u_42, u_43, hc_44, h⟩ := zk_o2 h
              refine zz_vv (post := (fun u => u = (u_42, u_43))) (w1 := fun u => (wl_X0_note ad cs u.1 acts_kind acts_number acts_claims u.2)) (As := [.int (71 : Int32)]) (rest := []) (c_X0_note l D cs ad  H.size (71 : Int32) acts_ran acts_kind acts_number acts_claims acts_bodies (u_42, u_43) hc_44) ⟨hx, hb, hml, hown, ht⟩ (cwV 1 ht g_X0_28 rfl rfl rfl ⟨rfl, hd_X0_note⟩ ⟨(by show 0 + 1 ≤ fr + 8; omega), (by show 8 + (2 + 11) + 0 ≤ lo + 176; omega)⟩) (va_recv hK hP (ci := 0) (q0 := 0) rfl rfl) hP hD hS hK hA [0, 1] rfl rfl [(ad 39), (ad 40)] rfl (fun _ => rfl) rfl hl.1 (Nat.le_of_ble_eq_true rfl) dX0_settles_81 ⟨Nat.zero_le _, Nat.zero_le _⟩ (fun u H locs hq hP hS => ?_)
              cases hq
              have hP : va_P D classes (wl_X0_settles ad cs u_42 acts_kind acts_number acts_claims u_43) H := hP
              have hD : va_D A (wl_X0_settles ad cs u_42 acts_kind acts_number acts_claims u_43) := zDk hD [(ad 39), (ad 40)] rfl rfl
              refine lv_aload_n hx hb dX0_settles_84 rfl (lv_at hl 0 rfl) ?_
              refine lv_bipush (v := (6 : Int32)) hx hb dX0_settles_85 (by decide) ?_
              obtain ⟨r_45, u_46, hc_47, h⟩ := zk_o2 h
              refine zz_si (post := (fun r u => (r, u) = (r_45, u_46))) (w1 := fun u => (wl_X0_above ad cs )) (As := [.int (6 : Int32)]) (rest := [.ref (ad 39)]) (c_X0_above l D cs ad  H.size (6 : Int32) (r_45, u_46) hc_47) ⟨hx, hb, hml, hown, ht⟩ (va_cwS 1 ht g_X0_32 rfl rfl rfl hd_X0_above ⟨(by show 0 + 1 ≤ fr + 8; omega), (by show 8 + (1 + 11) + 0 ≤ lo + 176; omega)⟩) hP hD hS hK hA [] rfl rfl [] rfl (fun _ => rfl) rfl hl.1 (Nat.le_of_ble_eq_true rfl) dX0_settles_87 ⟨Nat.zero_le _, Nat.zero_le _⟩ (fun r u H locs hq hP hS => ?_)
              cases hq
              have hP : va_P D classes (wl_X0_settles ad cs u_42 acts_kind acts_number acts_claims u_43) H := hP
              refine lv_iload_n hx hb dX0_settles_90 rfl (lv_at hl 2 rfl) ?_
              obtain ⟨r_48, u_49, u_50, hc_51, h⟩ := zk_o3 h
              refine zz_vi (post := (fun r u => (r, u) = (r_48, u_49, u_50))) (w1 := fun u => (wl_X0_settles ad cs u.1 acts_kind acts_number acts_claims u.2)) (As := [.int r_45, .int x2]) (rest := []) (hr_X0_settles D cs ad  H.size r_45 x2 u_42 acts_kind acts_number acts_claims u_43 (r_48, u_49, u_50) hc_51) ⟨hx, hb, hml, hown, ht⟩ (cwV 2 ht g_X0_40 rfl rfl rfl ⟨rfl, hd_X0_settles⟩ ⟨(by show fr + 1 ≤ fr + 8; omega), (by show 8 + (3 + 11) + lo ≤ lo + 176; omega)⟩) (va_recv hK hP (ci := 0) (q0 := 0) rfl rfl) hP hD hS hK hA [0, 1] rfl rfl [(ad 39), (ad 40)] rfl (fun _ => rfl) rfl hl.1 (Nat.le_of_ble_eq_true rfl) dX0_settles_91 ⟨Nat.zero_le _, Nat.zero_le _⟩ (fun r u H locs hq hP hS => ?_)
              cases hq
              have hP : va_P D classes (wl_X0_settles ad cs u_49 acts_kind acts_number acts_claims u_50) H := hP
              have hD : va_D A (wl_X0_settles ad cs u_49 acts_kind acts_number acts_claims u_50) := zDk hD [(ad 39), (ad 40)] rfl rfl
              refine lv_aload_n hx hb dX0_settles_94 rfl (lv_at hl 0 rfl) ?_
              refine lv_aload_n hx hb dX0_settles_95 rfl (lv_at hl 0 rfl) ?_
              refine va_get (D := D) (ci := 0) (v := .int acts_kind) (C := RX0) (T := TX0) (N := 5) hx hb ht iX0 hown hK hP 0 rfl rfl 2 (by decide) (ht _ kw_457) (fun _ h9 => h9) rfl dX0_settles_96 ?_
              refine lv_iconst (v := (2 : Int32)) hx hb dX0_settles_99 (by decide) ?_
              obtain ⟨r_52, u_53, u_54, hc_55, h⟩ := zk_o3 h
              refine zz_vi (post := (fun r u => (r, u) = (r_52, u_53, u_54))) (w1 := fun u => (wl_X0_binds ad cs u.1 acts_kind acts_number acts_claims u.2)) (As := [.int acts_kind, .int (2 : Int32)]) (rest := [.int r_48]) (((cg_grp139 l 7)) D cs ad  H.size acts_kind (2 : Int32) u_49 acts_kind acts_number acts_claims u_50 (r_52, u_53, u_54) hc_55) ⟨hx, hb, hml, hown, ht⟩ (cwV 2 ht g_X0_43 rfl rfl rfl ⟨rfl, hd_X0_binds⟩ ⟨(by show 7 + 1 ≤ fr + 8; omega), (by show 8 + (3 + 11) + 154 ≤ lo + 176; omega)⟩) (va_recv hK hP (ci := 0) (q0 := 0) rfl rfl) hP hD hS hK hA [0, 1] rfl rfl [(ad 39), (ad 40)] rfl (fun _ => rfl) rfl hl.1 (Nat.le_of_ble_eq_true rfl) dX0_settles_100 ⟨Nat.zero_le _, Nat.zero_le _⟩ (fun r u H locs hq hP hS => ?_)
              cases hq
              have hP : va_P D classes (wl_X0_settles ad cs u_53 acts_kind acts_number acts_claims u_54) H := hP
              have hD : va_D A (wl_X0_settles ad cs u_53 acts_kind acts_number acts_claims u_54) := zDk hD [(ad 39), (ad 40)] rfl rfl
              refine lv_isub hx hb dX0_settles_103 ?_
              exact W.iret (v := r_48 - r_52) hx hb hr (fun t ht2 hW => ⟨⟨r_48 - r_52, (u_53, u_54), rfl, Option.some.inj h, by rw [ht2]; exact hP, hD⟩, hS.F ht2⟩) hS.2.2 dX0_settles_104 hlocks
            · have h := zk_f c_68 h
              refine lv_tableOut (tgt := 115) hx hb dX0_settles_1 (zk_out (lo := 1) (hi := 6) [(1 : Int32), (2 : Int32), (3 : Int32), (4 : Int32), (5 : Int32), (6 : Int32)] (by decide +kernel) (List.forall_mem_cons.mpr ⟨c_63, List.forall_mem_cons.mpr ⟨c_64, List.forall_mem_cons.mpr ⟨c_65, List.forall_mem_cons.mpr ⟨c_66, List.forall_mem_cons.mpr ⟨c_67, List.forall_mem_cons.mpr ⟨c_68, fun _ h => absurd h List.not_mem_nil⟩⟩⟩⟩⟩⟩)) (by decide) ?_
              refine lv_aload_n hx hb dX0_settles_115 rfl (lv_at hl 0 rfl) ?_
              refine lv_bipush (v := (10 : Int32)) hx hb dX0_settles_116 (by decide) ?_
              obtain ⟨u_56, u_57, hc_58, h⟩ := zk_o2 h
              refine zz_vv (post := (fun u => u = (u_56, u_57))) (w1 := fun u => (wl_X0_note ad cs u.1 acts_kind acts_number acts_claims u.2)) (As := [.int (10 : Int32)]) (rest := []) (c_X0_note l D cs ad  H.size (10 : Int32) acts_ran acts_kind acts_number acts_claims acts_bodies (u_56, u_57) hc_58) ⟨hx, hb, hml, hown, ht⟩ (cwV 1 ht g_X0_28 rfl rfl rfl ⟨rfl, hd_X0_note⟩ ⟨(by show 0 + 1 ≤ fr + 8; omega), (by show 8 + (2 + 11) + 0 ≤ lo + 176; omega)⟩) (va_recv hK hP (ci := 0) (q0 := 0) rfl rfl) hP hD hS hK hA [0, 1] rfl rfl [(ad 39), (ad 40)] rfl (fun _ => rfl) rfl hl.1 (Nat.le_of_ble_eq_true rfl) dX0_settles_118 ⟨Nat.zero_le _, Nat.zero_le _⟩ (fun u H locs hq hP hS => ?_)
              cases hq
              have hP : va_P D classes (wl_X0_settles ad cs u_56 acts_kind acts_number acts_claims u_57) H := hP
              have hD : va_D A (wl_X0_settles ad cs u_56 acts_kind acts_number acts_claims u_57) := zDk hD [(ad 39), (ad 40)] rfl rfl
              refine lv_aload_n hx hb dX0_settles_121 rfl (lv_at hl 0 rfl) ?_
              refine lv_aload_n hx hb dX0_settles_122 rfl (lv_at hl 0 rfl) ?_
              refine va_get (D := D) (ci := 0) (v := .int acts_kind) (C := RX0) (T := TX0) (N := 5) hx hb ht iX0 hown hK hP 0 rfl rfl 2 (by decide) (ht _ kw_457) (fun _ h9 => h9) rfl dX0_settles_123 ?_
              refine lv_iload_n hx hb dX0_settles_126 rfl (lv_at hl 2 rfl) ?_
              obtain ⟨r_59, u_60, u_61, hc_62, h⟩ := zk_o3 h
              refine zz_vi (post := (fun r u => (r, u) = (r_59, u_60, u_61))) (w1 := fun u => (wl_X0_closes ad cs u.1 acts_kind acts_number acts_claims u.2)) (As := [.int acts_kind, .int x2]) (rest := []) (((cg_grp138 l 7)) D cs ad  H.size acts_kind x2 u_56 acts_kind acts_number acts_claims u_57 (r_59, u_60, u_61) hc_62) ⟨hx, hb, hml, hown, ht⟩ (cwV 2 ht g_X0_36 rfl rfl rfl ⟨rfl, hd_X0_closes⟩ ⟨(by show 7 + 1 ≤ fr + 8; omega), (by show 8 + (3 + 11) + 154 ≤ lo + 176; omega)⟩) (va_recv hK hP (ci := 0) (q0 := 0) rfl rfl) hP hD hS hK hA [0, 1] rfl rfl [(ad 39), (ad 40)] rfl (fun _ => rfl) rfl hl.1 (Nat.le_of_ble_eq_true rfl) dX0_settles_127 ⟨Nat.zero_le _, Nat.zero_le _⟩ (fun r u H locs hq hP hS => ?_)
              cases hq
              have hP : va_P D classes (wl_X0_settles ad cs u_60 acts_kind acts_number acts_claims u_61) H := hP
              have hD : va_D A (wl_X0_settles ad cs u_60 acts_kind acts_number acts_claims u_61) := zDk hD [(ad 39), (ad 40)] rfl rfl
              refine lv_iconst (v := (2 : Int32)) hx hb dX0_settles_130 (by decide) ?_
              refine lv_imul hx hb dX0_settles_131 ?_
              exact W.iret (v := r_59 * (2 : Int32)) hx hb hr (fun t ht2 hW => ⟨⟨r_59 * (2 : Int32), (u_60, u_61), rfl, Option.some.inj h, by rw [ht2]; exact hP, hD⟩, hS.F ht2⟩) hS.2.2 dX0_settles_132 hlocks
set_option maxHeartbeats 4000000 in
set_option maxRecDepth 100000 in
theorem c_X0_settles (l : Launch) (D : va_G) (cs : Nat → ClassId) (ad : Nat → Nat) {fr lo : Nat} {r_X0_settles : Int32 → Int32 → Int32 → Int32 → Int32 → Int32 → (Nat → Int32) → (Option (Int32 × Int32 × (Nat → Int32)))} (hr_X0_settles : ∀ (D : va_G) (cs : Nat → ClassId) (ad : Nat → Nat) (sz : Nat) (x1 : Int32) (x2 : Int32) (acts_ran : Int32) (acts_kind : Int32) (acts_number : Int32) (acts_claims : Int32) (acts_bodies : Nat → Int32) (R : Int32 × Int32 × (Nat → Int32)) (h : r_X0_settles x1 x2 acts_ran acts_kind acts_number acts_claims acts_bodies = some R), Met l yX0_settles z_X0_settles ({ frames := fr, cells := 0, slots := 0, locals := lo } : Room) (va_Pc [.ref (ad 39), .int x1, .int x2] (zPre D cs (wl_X0_settles ad cs acts_ran acts_kind acts_number acts_claims acts_bodies) sz)) (Q_X0_settles D cs ad acts_kind acts_number acts_claims (va_A (wl_X0_settles ad cs acts_ran acts_kind acts_number acts_claims acts_bodies) sz) R) 0 0 (va_A (wl_X0_settles ad cs acts_ran acts_kind acts_number acts_claims acts_bodies) sz)) (sz : Nat) (x1 : Int32) (x2 : Int32) (acts_ran : Int32) (acts_kind : Int32) (acts_number : Int32) (acts_claims : Int32) (acts_bodies : Nat → Int32) (R : Int32 × Int32 × (Nat → Int32)) (h : f_X0_settles  r_X0_settles x1 x2 acts_ran acts_kind acts_number acts_claims acts_bodies = some R) : Met l yX0_settles (z_X0_settles) ({ frames := fr + 8, cells := 0, slots := 0, locals := lo + 176 } : Room) (va_Pc [.ref (ad 39), .int x1, .int x2] (zPre D cs (wl_X0_settles ad cs acts_ran acts_kind acts_number acts_claims acts_bodies) sz)) (Q_X0_settles D cs ad acts_kind acts_number acts_claims (va_A (wl_X0_settles ad cs acts_ran acts_kind acts_number acts_claims acts_bodies) sz) R) 0 0 (va_A (wl_X0_settles ad cs acts_ran acts_kind acts_number acts_claims acts_bodies) sz) := by
  refine Met.ofW (cc := cX0_settles) (maxL := 3) (ret := (some .int)) (by decide) rfl ?_
  intro p e s m args below meth c s₁ B hml hv
  obtain ⟨rfl, hsz, hP, hK, hD0⟩ := hv
  subst hsz
  have hD := hD0.self (sz := s.heap.size)
  have C0 : zC p s m _ meth c cX0_settles 3 (some .int) RX0 zW := ⟨B.exec, B.bytes, B.returns, hml, findClass_of_methodNamed B.named, fun w hw => atoms_spec (ws := z_X0_settles) B.pre w (List.mem_cons_of_mem _ hw), B.notSynchronized⟩
  have hA : ∀ q : Nat, s.heap.size ≤ q → va_A (wl_X0_settles ad cs acts_ran acts_kind acts_number acts_claims acts_bodies) s.heap.size q := fun q h => Or.inr h
  have hl := lv_entry ([.ref (ad 39), .int x1, .int x2]) (n := 3) (Nat.le_of_ble_eq_true rfl)
  rw [lg_entry_eq]
  generalize (lg_sl ([.ref (ad 39), .int x1, .int x2]) ++ List.replicate (3 - (lg_sl ([.ref (ad 39), .int x1, .int x2])).length) Slot.unset).toArray = ls at hl ⊢
  exact L_X0_settles_0 C0 hK hA hr_X0_settles  x1 x2 acts_ran acts_bodies h s.heap [] ls hP hD va_S.rf hl
theorem cg_grp140 (l : Launch) : ∀ n : Nat, (∀ (D : va_G) (cs : Nat → ClassId) (ad : Nat → Nat) (sz : Nat) (x1 : Int32) (x2 : Int32) (acts_ran : Int32) (acts_kind : Int32) (acts_number : Int32) (acts_claims : Int32) (acts_bodies : Nat → Int32) (R : Int32 × Int32 × (Nat → Int32)) (h : ((grp_grp140 n)) x1 x2 acts_ran acts_kind acts_number acts_claims acts_bodies = some R), Met l yX0_settles z_X0_settles ({ frames := 8 * n, cells := 0, slots := 0, locals := 176 * n } : Room) (va_Pc [.ref (ad 39), .int x1, .int x2] (zPre D cs (wl_X0_settles ad cs acts_ran acts_kind acts_number acts_claims acts_bodies) sz)) (Q_X0_settles D cs ad acts_kind acts_number acts_claims (va_A (wl_X0_settles ad cs acts_ran acts_kind acts_number acts_claims acts_bodies) sz) R) 0 0 (va_A (wl_X0_settles ad cs acts_ran acts_kind acts_number acts_claims acts_bodies) sz)) := by
  intro n
  induction n with
  | zero =>
    refine ?_ <;> (intros; rename_i h; cases h)
  | succ n ih =>
    exact (fun D cs ad   sz x1 x2 acts_ran acts_kind acts_number acts_claims acts_bodies R h => c_X0_settles l D cs ad   (ih) sz x1 x2 acts_ran acts_kind acts_number acts_claims acts_bodies R h)
theorem kw_15 : Cond.selects RX0 yX0_tells yX0_tells ∈ zW := zwI (i := 15) (by decide +kernel) (by decide +kernel)
theorem kw_1235 : Cond.instanceMethod yX0_tells ∈ zW := zwC (i := 201) zc_5 rfl rfl
theorem kw_1236 : Cond.code yX0_tells cX0_tells 3 (some .int) ∈ zW := zwC (i := 202) zc_5 rfl rfl
theorem kw_1237 : Cond.methodLink RX0 46 yX0_tells ∈ zW := zwC (i := 203) zc_5 rfl rfl
theorem zh_cX0_tells_0 : zck [27, 7, 160, 0, 21, 42, 16, 51, 182, 0, 28, 42, 7, 184, 0, 32, 28, 182, 0, 46, 8, 130] (zdu 0 cX0_tells.data.toList) = true := by decide +kernel
theorem dX0_tells_0 : decode cX0_tells 0 = .ok (.iload_n 1, 1) := zo_27 zh_cX0_tells_0 0 rfl
theorem dX0_tells_1 : decode cX0_tells 1 = .ok (.iconst 4, 1) := zo_7 zh_cX0_tells_0 1 rfl
theorem dX0_tells_2 : decode cX0_tells 2 = .ok (.if_icmp .ne 21, 3) := zo_p160 zh_cX0_tells_0 2 21 rfl rfl
theorem dX0_tells_5 : decode cX0_tells 5 = .ok (.aload_n 0, 1) := zo_42 zh_cX0_tells_0 5 rfl
theorem dX0_tells_6 : decode cX0_tells 6 = .ok (.bipush 51, 2) := zo_p16 zh_cX0_tells_0 6 51 rfl rfl
theorem dX0_tells_8 : decode cX0_tells 8 = .ok (.invokevirtual 28, 3) := zo_182 zh_cX0_tells_0 8 rfl
theorem dX0_tells_11 : decode cX0_tells 11 = .ok (.aload_n 0, 1) := zo_42 zh_cX0_tells_0 11 rfl
theorem dX0_tells_12 : decode cX0_tells 12 = .ok (.iconst 4, 1) := zo_7 zh_cX0_tells_0 12 rfl
theorem dX0_tells_13 : decode cX0_tells 13 = .ok (.invokestatic 32, 3) := zo_184 zh_cX0_tells_0 13 rfl
theorem dX0_tells_16 : decode cX0_tells 16 = .ok (.iload_n 2, 1) := zo_28 zh_cX0_tells_0 16 rfl
theorem dX0_tells_17 : decode cX0_tells 17 = .ok (.invokevirtual 46, 3) := zo_182 zh_cX0_tells_0 17 rfl
theorem zh_cX0_tells_1 : zck [8, 130, 172, 27, 158, 0, 13, 42, 27, 184, 0, 32, 28, 182, 0, 46, 172, 42, 5, 182, 0, 28] (zdu 20 cX0_tells.data.toList) = true := by decide +kernel
theorem dX0_tells_20 : decode cX0_tells 20 = .ok (.iconst 5, 1) := zo_8 zh_cX0_tells_1 0 rfl
theorem dX0_tells_21 : decode cX0_tells 21 = .ok (.ixor, 1) := zo_130 zh_cX0_tells_1 1 rfl
theorem dX0_tells_22 : decode cX0_tells 22 = .ok (.ireturn, 1) := zo_172 zh_cX0_tells_1 2 rfl
theorem dX0_tells_23 : decode cX0_tells 23 = .ok (.iload_n 1, 1) := zo_27 zh_cX0_tells_1 3 rfl
theorem dX0_tells_24 : decode cX0_tells 24 = .ok (.ifCond .le 13, 3) := zo_p158 zh_cX0_tells_1 4 13 rfl rfl
theorem dX0_tells_27 : decode cX0_tells 27 = .ok (.aload_n 0, 1) := zo_42 zh_cX0_tells_1 7 rfl
theorem dX0_tells_28 : decode cX0_tells 28 = .ok (.iload_n 1, 1) := zo_27 zh_cX0_tells_1 8 rfl
theorem dX0_tells_29 : decode cX0_tells 29 = .ok (.invokestatic 32, 3) := zo_184 zh_cX0_tells_1 9 rfl
theorem dX0_tells_32 : decode cX0_tells 32 = .ok (.iload_n 2, 1) := zo_28 zh_cX0_tells_1 12 rfl
theorem dX0_tells_33 : decode cX0_tells 33 = .ok (.invokevirtual 46, 3) := zo_182 zh_cX0_tells_1 13 rfl
theorem dX0_tells_36 : decode cX0_tells 36 = .ok (.ireturn, 1) := zo_172 zh_cX0_tells_1 16 rfl
theorem dX0_tells_37 : decode cX0_tells 37 = .ok (.aload_n 0, 1) := zo_42 zh_cX0_tells_1 17 rfl
theorem dX0_tells_38 : decode cX0_tells 38 = .ok (.iconst 2, 1) := zo_5 zh_cX0_tells_1 18 rfl
theorem dX0_tells_39 : decode cX0_tells 39 = .ok (.invokevirtual 28, 3) := zo_182 zh_cX0_tells_1 19 rfl
theorem zh_cX0_tells_2 : zck [0, 28, 42, 42, 180, 0, 19, 28, 182, 0, 40, 42, 42, 180, 0, 19, 4, 182, 0, 43, 100, 172] (zdu 40 cX0_tells.data.toList) = true := by decide +kernel
theorem dX0_tells_42 : decode cX0_tells 42 = .ok (.aload_n 0, 1) := zo_42 zh_cX0_tells_2 2 rfl
theorem dX0_tells_43 : decode cX0_tells 43 = .ok (.aload_n 0, 1) := zo_42 zh_cX0_tells_2 3 rfl
theorem dX0_tells_44 : decode cX0_tells 44 = .ok (.getfield 19, 3) := zo_180 zh_cX0_tells_2 4 rfl
theorem dX0_tells_47 : decode cX0_tells 47 = .ok (.iload_n 2, 1) := zo_28 zh_cX0_tells_2 7 rfl
theorem dX0_tells_48 : decode cX0_tells 48 = .ok (.invokevirtual 40, 3) := zo_182 zh_cX0_tells_2 8 rfl
theorem dX0_tells_51 : decode cX0_tells 51 = .ok (.aload_n 0, 1) := zo_42 zh_cX0_tells_2 11 rfl
theorem dX0_tells_52 : decode cX0_tells 52 = .ok (.aload_n 0, 1) := zo_42 zh_cX0_tells_2 12 rfl
theorem dX0_tells_53 : decode cX0_tells 53 = .ok (.getfield 19, 3) := zo_180 zh_cX0_tells_2 13 rfl
theorem dX0_tells_56 : decode cX0_tells 56 = .ok (.iconst 1, 1) := zo_4 zh_cX0_tells_2 16 rfl
theorem dX0_tells_57 : decode cX0_tells 57 = .ok (.invokevirtual 43, 3) := zo_182 zh_cX0_tells_2 17 rfl
theorem zh_cX0_tells_3 : zck [100, 172] (zdu 60 cX0_tells.data.toList) = true := by decide +kernel
theorem dX0_tells_60 : decode cX0_tells 60 = .ok (.isub, 1) := zo_100 zh_cX0_tells_3 0 rfl
theorem dX0_tells_61 : decode cX0_tells 61 = .ok (.ireturn, 1) := zo_172 zh_cX0_tells_3 1 rfl
abbrev z_X0_tells : List Cond := .code yX0_tells cX0_tells 3 (some .int) :: zW
abbrev wl_X0_tells (ad : Nat → Nat) (cs : Nat → ClassId)  (acts_ran : Int32) (acts_kind : Int32) (acts_number : Int32) (acts_claims : Int32) (acts_bodies : Nat → Int32) : va_W := [((ad 39), .inr (0, [.ref (ad 40), .int acts_ran, .int acts_kind, .int acts_number, .int acts_claims])), ((ad 40), .inl (cs 0, 24, .inl acts_bodies))]
def Q_X0_tells (D : va_G) (cs : Nat → ClassId) (ad : Nat → Nat)  (acts_kind : Int32) (acts_number : Int32) (acts_claims : Int32) (A : Nat → Prop) (R : Int32 × Int32 × (Nat → Int32)) : Array Value → State → Outcome → State → Prop :=
  va_Qi (fun (r : Int32) (u : Int32 × (Nat → Int32)) => (r, u) = R) (fun (u : Int32 × (Nat → Int32)) (t : State) => va_P D classes (wl_X0_tells ad cs u.1 acts_kind acts_number acts_claims u.2) t.heap ∧ va_D A (wl_X0_tells ad cs u.1 acts_kind acts_number acts_claims u.2)) A
theorem g_X0_46 : GoodIn zW (wsV RX0 46 RX0 yX0_tells z_X0_tells) := zGV kw_1237 kw_1235 kw_15 kw_84 kw_1236
theorem hd_X0_tells : yX0_tells.cls ≠ "java/lang/invoke/MethodHandle" ∧ yX0_tells.cls ≠ "java/lang/invoke/VarHandle" ∧ (parseMethodDescriptor yX0_tells.desc).map (fun d => d.parameters.length) = some 2 := by decide +kernel
def B_X0_tells_0  (r_X0_tells : Int32 → Int32 → Int32 → Int32 → Int32 → Int32 → (Nat → Int32) → (Option (Int32 × Int32 × (Nat → Int32))))  (acts_kind : Int32) (acts_number : Int32) (acts_claims : Int32) (x1 : Int32) (x2 : Int32) (acts_ran : Int32) (acts_bodies : Nat → Int32) : Option (Int32 × Int32 × (Nat → Int32)) :=
  (if x1 = (4 : Int32) then (zk_b2 (f_X0_note (51 : Int32) acts_ran acts_kind acts_number acts_claims acts_bodies) (fun u_21 u_22 => (zk_b2 (f_X0_above (4 : Int32)) (fun r_24 u_25 => (zk_b3 (r_X0_tells r_24 x2 u_21 acts_kind acts_number acts_claims u_22) (fun r_27 u_28 u_29 => (some (r_27 ^^^ (5 : Int32), u_28, u_29)))))))) else (if x1 ≤ 0 then (zk_b2 (f_X0_note (2 : Int32) acts_ran acts_kind acts_number acts_claims acts_bodies) (fun u_3 u_4 => (zk_b3 ((grp_grp140 7) acts_kind x2 u_3 acts_kind acts_number acts_claims u_4) (fun r_6 u_7 u_8 => (zk_b3 ((grp_grp139 7) acts_kind (1 : Int32) u_7 acts_kind acts_number acts_claims u_8) (fun r_10 u_11 u_12 => (some (r_6 - r_10, u_11, u_12)))))))) else (zk_b2 (f_X0_above x1) (fun r_14 u_15 => (zk_b3 (r_X0_tells r_14 x2 acts_ran acts_kind acts_number acts_claims acts_bodies) (fun r_17 u_18 u_19 => (some (r_17, u_18, u_19))))))))
def f_X0_tells  (r_X0_tells : Int32 → Int32 → Int32 → Int32 → Int32 → Int32 → (Nat → Int32) → (Option (Int32 × Int32 × (Nat → Int32)))) (x1 : Int32) (x2 : Int32) (acts_ran : Int32) (acts_kind : Int32) (acts_number : Int32) (acts_claims : Int32) (acts_bodies : Nat → Int32) : Option (Int32 × Int32 × (Nat → Int32)) := B_X0_tells_0  r_X0_tells acts_kind acts_number acts_claims x1 x2 acts_ran acts_bodies
def grp_grp141 (n : Nat) : (Int32 → Int32 → Int32 → Int32 → Int32 → Int32 → (Nat → Int32) → (Option (Int32 × Int32 × (Nat → Int32)))) :=
  Nat.rec (motive := fun _ => (Int32 → Int32 → Int32 → Int32 → Int32 → Int32 → (Nat → Int32) → (Option (Int32 × Int32 × (Nat → Int32))))) ((fun _ _ _ _ _ _ _ => none)) (fun _ ih => (f_X0_tells (ih))) n
set_option maxHeartbeats 4000000 in
set_option maxRecDepth 100000 in
theorem L_X0_tells_0 {p : Program} {l : Launch} {e : Env} {s : State} {m : MethodId} {args : Array Value} {below : List Frame} {meth : Method} {c : Code} {A : Nat → Prop} {D : va_G} {cs : Nat → ClassId} {ad : Nat → Nat} {acts_kind : Int32} {acts_number : Int32} {acts_claims : Int32} {R : Int32 × Int32 × (Nat → Int32)} (C0 : zC p s m args meth c cX0_tells 3 (some .int) RX0 zW) (hK : va_K D classes (zT cs) s) (hA : ∀ q : Nat, s.heap.size ≤ q → A q) {fr lo : Nat} {r_X0_tells : Int32 → Int32 → Int32 → Int32 → Int32 → Int32 → (Nat → Int32) → (Option (Int32 × Int32 × (Nat → Int32)))} (hr_X0_tells : ∀ (D : va_G) (cs : Nat → ClassId) (ad : Nat → Nat) (sz : Nat) (x1 : Int32) (x2 : Int32) (acts_ran : Int32) (acts_kind : Int32) (acts_number : Int32) (acts_claims : Int32) (acts_bodies : Nat → Int32) (R : Int32 × Int32 × (Nat → Int32)) (h : r_X0_tells x1 x2 acts_ran acts_kind acts_number acts_claims acts_bodies = some R), Met l yX0_tells z_X0_tells ({ frames := fr, cells := 0, slots := 0, locals := lo } : Room) (va_Pc [.ref (ad 39), .int x1, .int x2] (zPre D cs (wl_X0_tells ad cs acts_ran acts_kind acts_number acts_claims acts_bodies) sz)) (Q_X0_tells D cs ad acts_kind acts_number acts_claims (va_A (wl_X0_tells ad cs acts_ran acts_kind acts_number acts_claims acts_bodies) sz) R) 0 0 (va_A (wl_X0_tells ad cs acts_ran acts_kind acts_number acts_claims acts_bodies) sz)) (x1 : Int32) (x2 : Int32) (acts_ran : Int32) (acts_bodies : Nat → Int32) (h : B_X0_tells_0 r_X0_tells acts_kind acts_number acts_claims x1 x2 acts_ran acts_bodies = some R) (H : Heap) (locs : List Loc) (ls : Array Slot) (hP : va_P D classes (wl_X0_tells ad cs acts_ran acts_kind acts_number acts_claims acts_bodies) H) (hD : va_D A (wl_X0_tells ad cs acts_ran acts_kind acts_number acts_claims acts_bodies)) (hS : va_S A s.heap H locs) (hl : lv_has ls 3 [(0, .ref (ad 39)), (1, .int x1), (2, .int x2)]) : W p l e ({ frames := fr + 57, cells := 0, slots := 0, locals := lo + 1254 } : Room) s m args below meth c H locs 0 0 (MQ below (Q_X0_tells D cs ad acts_kind acts_number acts_claims A R) args s 0 0 A) (F0 m 0 ls []) := by
  obtain ⟨hx, hb, hr, hml, hown, ht, hlocks⟩ := id C0
  refine lv_iload_n hx hb dX0_tells_0 rfl (lv_at hl 1 rfl) ?_
  refine lv_iconst (v := (4 : Int32)) hx hb dX0_tells_1 (by decide) ?_
  refine lv_icmp_ne (tgt := 23) hx hb dX0_tells_2 (by decide) (fun c_1 => ?_) (fun c_1 => ?_)
  · have h := zk_f c_1 h
    refine lv_iload_n hx hb dX0_tells_23 rfl (lv_at hl 1 rfl) ?_
    refine lv_if_le (tgt := 37) hx hb dX0_tells_24 (by decide) (fun c_2 => ?_) (fun c_2 => ?_)
    · have h := zk_t c_2 h
      refine lv_aload_n hx hb dX0_tells_37 rfl (lv_at hl 0 rfl) ?_
      refine lv_iconst (v := (2 : Int32)) hx hb dX0_tells_38 (by decide) ?_
      obtain ⟨u_3, u_4, hc_5, h⟩ := zk_o2 h
      refine zz_vv (post := (fun u => u = (u_3, u_4))) (w1 := fun u => (wl_X0_note ad cs u.1 acts_kind acts_number acts_claims u.2)) (As := [.int (2 : Int32)]) (rest := []) (c_X0_note l D cs ad  H.size (2 : Int32) acts_ran acts_kind acts_number acts_claims acts_bodies (u_3, u_4) hc_5) ⟨hx, hb, hml, hown, ht⟩ (cwV 1 ht g_X0_28 rfl rfl rfl ⟨rfl, hd_X0_note⟩ ⟨(by show 0 + 1 ≤ fr + 57; omega), (by show 8 + (2 + 11) + 0 ≤ lo + 1254; omega)⟩) (va_recv hK hP (ci := 0) (q0 := 0) rfl rfl) hP hD hS hK hA [0, 1] rfl rfl [(ad 39), (ad 40)] rfl (fun _ => rfl) rfl hl.1 (Nat.le_of_ble_eq_true rfl) dX0_tells_39 ⟨Nat.zero_le _, Nat.zero_le _⟩ (fun u H locs hq hP hS => ?_)
      cases hq
      have hP : va_P D classes (wl_X0_tells ad cs u_3 acts_kind acts_number acts_claims u_4) H := hP
      have hD : va_D A (wl_X0_tells ad cs u_3 acts_kind acts_number acts_claims u_4) := zDk hD [(ad 39), (ad 40)] rfl rfl
      refine lv_aload_n hx hb dX0_tells_42 rfl (lv_at hl 0 rfl) ?_
      refine lv_aload_n hx hb dX0_tells_43 rfl (lv_at hl 0 rfl) ?_
      refine va_get (D := D) (ci := 0) (v := .int acts_kind) (C := RX0) (T := TX0) (N := 5) hx hb ht iX0 hown hK hP 0 rfl rfl 2 (by decide) (ht _ kw_457) (fun _ h9 => h9) rfl dX0_tells_44 ?_
      refine lv_iload_n hx hb dX0_tells_47 rfl (lv_at hl 2 rfl) ?_
      obtain ⟨r_6, u_7, u_8, hc_9, h⟩ := zk_o3 h
      refine zz_vi (post := (fun r u => (r, u) = (r_6, u_7, u_8))) (w1 := fun u => (wl_X0_settles ad cs u.1 acts_kind acts_number acts_claims u.2)) (As := [.int acts_kind, .int x2]) (rest := []) (((cg_grp140 l 7)) D cs ad  H.size acts_kind x2 u_3 acts_kind acts_number acts_claims u_4 (r_6, u_7, u_8) hc_9) ⟨hx, hb, hml, hown, ht⟩ (cwV 2 ht g_X0_40 rfl rfl rfl ⟨rfl, hd_X0_settles⟩ ⟨(by show 56 + 1 ≤ fr + 57; omega), (by show 8 + (3 + 11) + 1232 ≤ lo + 1254; omega)⟩) (va_recv hK hP (ci := 0) (q0 := 0) rfl rfl) hP hD hS hK hA [0, 1] rfl rfl [(ad 39), (ad 40)] rfl (fun _ => rfl) rfl hl.1 (Nat.le_of_ble_eq_true rfl) dX0_tells_48 ⟨Nat.zero_le _, Nat.zero_le _⟩ (fun r u H locs hq hP hS => ?_)
      cases hq
      have hP : va_P D classes (wl_X0_tells ad cs u_7 acts_kind acts_number acts_claims u_8) H := hP
      have hD : va_D A (wl_X0_tells ad cs u_7 acts_kind acts_number acts_claims u_8) := zDk hD [(ad 39), (ad 40)] rfl rfl
      refine lv_aload_n hx hb dX0_tells_51 rfl (lv_at hl 0 rfl) ?_
      refine lv_aload_n hx hb dX0_tells_52 rfl (lv_at hl 0 rfl) ?_
      refine va_get (D := D) (ci := 0) (v := .int acts_kind) (C := RX0) (T := TX0) (N := 5) hx hb ht iX0 hown hK hP 0 rfl rfl 2 (by decide) (ht _ kw_457) (fun _ h9 => h9) rfl dX0_tells_53 ?_
      refine lv_iconst (v := (1 : Int32)) hx hb dX0_tells_56 (by decide) ?_
      obtain ⟨r_10, u_11, u_12, hc_13, h⟩ := zk_o3 h
      refine zz_vi (post := (fun r u => (r, u) = (r_10, u_11, u_12))) (w1 := fun u => (wl_X0_binds ad cs u.1 acts_kind acts_number acts_claims u.2)) (As := [.int acts_kind, .int (1 : Int32)]) (rest := [.int r_6]) (((cg_grp139 l 7)) D cs ad  H.size acts_kind (1 : Int32) u_7 acts_kind acts_number acts_claims u_8 (r_10, u_11, u_12) hc_13) ⟨hx, hb, hml, hown, ht⟩ (cwV 2 ht g_X0_43 rfl rfl rfl ⟨rfl, hd_X0_binds⟩ ⟨(by show 7 + 1 ≤ fr + 57; omega), (by show 8 + (3 + 11) + 154 ≤ lo + 1254; omega)⟩) (va_recv hK hP (ci := 0) (q0 := 0) rfl rfl) hP hD hS hK hA [0, 1] rfl rfl [(ad 39), (ad 40)] rfl (fun _ => rfl) rfl hl.1 (Nat.le_of_ble_eq_true rfl) dX0_tells_57 ⟨Nat.zero_le _, Nat.zero_le _⟩ (fun r u H locs hq hP hS => ?_)
      cases hq
      have hP : va_P D classes (wl_X0_tells ad cs u_11 acts_kind acts_number acts_claims u_12) H := hP
      have hD : va_D A (wl_X0_tells ad cs u_11 acts_kind acts_number acts_claims u_12) := zDk hD [(ad 39), (ad 40)] rfl rfl
      refine lv_isub hx hb dX0_tells_60 ?_
      exact W.iret (v := r_6 - r_10) hx hb hr (fun t ht2 hW => ⟨⟨r_6 - r_10, (u_11, u_12), rfl, Option.some.inj h, by rw [ht2]; exact hP, hD⟩, hS.F ht2⟩) hS.2.2 dX0_tells_61 hlocks
    · have h := zk_f c_2 h
      refine lv_aload_n hx hb dX0_tells_27 rfl (lv_at hl 0 rfl) ?_
      refine lv_iload_n hx hb dX0_tells_28 rfl (lv_at hl 1 rfl) ?_
      obtain ⟨r_14, u_15, hc_16, h⟩ := zk_o2 h
      refine zz_si (post := (fun r u => (r, u) = (r_14, u_15))) (w1 := fun u => (wl_X0_above ad cs )) (As := [.int x1]) (rest := [.ref (ad 39)]) (c_X0_above l D cs ad  H.size x1 (r_14, u_15) hc_16) ⟨hx, hb, hml, hown, ht⟩ (va_cwS 1 ht g_X0_32 rfl rfl rfl hd_X0_above ⟨(by show 0 + 1 ≤ fr + 57; omega), (by show 8 + (1 + 11) + 0 ≤ lo + 1254; omega)⟩) hP hD hS hK hA [] rfl rfl [] rfl (fun _ => rfl) rfl hl.1 (Nat.le_of_ble_eq_true rfl) dX0_tells_29 ⟨Nat.zero_le _, Nat.zero_le _⟩ (fun r u H locs hq hP hS => ?_)
      cases hq
      have hP : va_P D classes (wl_X0_tells ad cs acts_ran acts_kind acts_number acts_claims acts_bodies) H := hP
      refine lv_iload_n hx hb dX0_tells_32 rfl (lv_at hl 2 rfl) ?_
      obtain ⟨r_17, u_18, u_19, hc_20, h⟩ := zk_o3 h
      refine zz_vi (post := (fun r u => (r, u) = (r_17, u_18, u_19))) (w1 := fun u => (wl_X0_tells ad cs u.1 acts_kind acts_number acts_claims u.2)) (As := [.int r_14, .int x2]) (rest := []) (hr_X0_tells D cs ad  H.size r_14 x2 acts_ran acts_kind acts_number acts_claims acts_bodies (r_17, u_18, u_19) hc_20) ⟨hx, hb, hml, hown, ht⟩ (cwV 2 ht g_X0_46 rfl rfl rfl ⟨rfl, hd_X0_tells⟩ ⟨(by show fr + 1 ≤ fr + 57; omega), (by show 8 + (3 + 11) + lo ≤ lo + 1254; omega)⟩) (va_recv hK hP (ci := 0) (q0 := 0) rfl rfl) hP hD hS hK hA [0, 1] rfl rfl [(ad 39), (ad 40)] rfl (fun _ => rfl) rfl hl.1 (Nat.le_of_ble_eq_true rfl) dX0_tells_33 ⟨Nat.zero_le _, Nat.zero_le _⟩ (fun r u H locs hq hP hS => ?_)
      cases hq
      have hP : va_P D classes (wl_X0_tells ad cs u_18 acts_kind acts_number acts_claims u_19) H := hP
      have hD : va_D A (wl_X0_tells ad cs u_18 acts_kind acts_number acts_claims u_19) := zDk hD [(ad 39), (ad 40)] rfl rfl
      exact W.iret (v := r_17) hx hb hr (fun t ht2 hW => ⟨⟨r_17, (u_18, u_19), rfl, Option.some.inj h, by rw [ht2]; exact hP, hD⟩, hS.F ht2⟩) hS.2.2 dX0_tells_36 hlocks
  · have h := zk_t c_1 h
    refine lv_aload_n hx hb dX0_tells_5 rfl (lv_at hl 0 rfl) ?_
    refine lv_bipush (v := (51 : Int32)) hx hb dX0_tells_6 (by decide) ?_
    obtain ⟨u_21, u_22, hc_23, h⟩ := zk_o2 h
    refine zz_vv (post := (fun u => u = (u_21, u_22))) (w1 := fun u => (wl_X0_note ad cs u.1 acts_kind acts_number acts_claims u.2)) (As := [.int (51 : Int32)]) (rest := []) (c_X0_note l D cs ad  H.size (51 : Int32) acts_ran acts_kind acts_number acts_claims acts_bodies (u_21, u_22) hc_23) ⟨hx, hb, hml, hown, ht⟩ (cwV 1 ht g_X0_28 rfl rfl rfl ⟨rfl, hd_X0_note⟩ ⟨(by show 0 + 1 ≤ fr + 57; omega), (by show 8 + (2 + 11) + 0 ≤ lo + 1254; omega)⟩) (va_recv hK hP (ci := 0) (q0 := 0) rfl rfl) hP hD hS hK hA [0, 1] rfl rfl [(ad 39), (ad 40)] rfl (fun _ => rfl) rfl hl.1 (Nat.le_of_ble_eq_true rfl) dX0_tells_8 ⟨Nat.zero_le _, Nat.zero_le _⟩ (fun u H locs hq hP hS => ?_)
    cases hq
    have hP : va_P D classes (wl_X0_tells ad cs u_21 acts_kind acts_number acts_claims u_22) H := hP
    have hD : va_D A (wl_X0_tells ad cs u_21 acts_kind acts_number acts_claims u_22) := zDk hD [(ad 39), (ad 40)] rfl rfl
    refine lv_aload_n hx hb dX0_tells_11 rfl (lv_at hl 0 rfl) ?_
    refine lv_iconst (v := (4 : Int32)) hx hb dX0_tells_12 (by decide) ?_
    obtain ⟨r_24, u_25, hc_26, h⟩ := zk_o2 h
    refine zz_si (post := (fun r u => (r, u) = (r_24, u_25))) (w1 := fun u => (wl_X0_above ad cs )) (As := [.int (4 : Int32)]) (rest := [.ref (ad 39)]) (c_X0_above l D cs ad  H.size (4 : Int32) (r_24, u_25) hc_26) ⟨hx, hb, hml, hown, ht⟩ (va_cwS 1 ht g_X0_32 rfl rfl rfl hd_X0_above ⟨(by show 0 + 1 ≤ fr + 57; omega), (by show 8 + (1 + 11) + 0 ≤ lo + 1254; omega)⟩) hP hD hS hK hA [] rfl rfl [] rfl (fun _ => rfl) rfl hl.1 (Nat.le_of_ble_eq_true rfl) dX0_tells_13 ⟨Nat.zero_le _, Nat.zero_le _⟩ (fun r u H locs hq hP hS => ?_)
    cases hq
    have hP : va_P D classes (wl_X0_tells ad cs u_21 acts_kind acts_number acts_claims u_22) H := hP
    refine lv_iload_n hx hb dX0_tells_16 rfl (lv_at hl 2 rfl) ?_
    obtain ⟨r_27, u_28, u_29, hc_30, h⟩ := zk_o3 h
    refine zz_vi (post := (fun r u => (r, u) = (r_27, u_28, u_29))) (w1 := fun u => (wl_X0_tells ad cs u.1 acts_kind acts_number acts_claims u.2)) (As := [.int r_24, .int x2]) (rest := []) (hr_X0_tells D cs ad  H.size r_24 x2 u_21 acts_kind acts_number acts_claims u_22 (r_27, u_28, u_29) hc_30) ⟨hx, hb, hml, hown, ht⟩ (cwV 2 ht g_X0_46 rfl rfl rfl ⟨rfl, hd_X0_tells⟩ ⟨(by show fr + 1 ≤ fr + 57; omega), (by show 8 + (3 + 11) + lo ≤ lo + 1254; omega)⟩) (va_recv hK hP (ci := 0) (q0 := 0) rfl rfl) hP hD hS hK hA [0, 1] rfl rfl [(ad 39), (ad 40)] rfl (fun _ => rfl) rfl hl.1 (Nat.le_of_ble_eq_true rfl) dX0_tells_17 ⟨Nat.zero_le _, Nat.zero_le _⟩ (fun r u H locs hq hP hS => ?_)
    cases hq
    have hP : va_P D classes (wl_X0_tells ad cs u_28 acts_kind acts_number acts_claims u_29) H := hP
    have hD : va_D A (wl_X0_tells ad cs u_28 acts_kind acts_number acts_claims u_29) := zDk hD [(ad 39), (ad 40)] rfl rfl
    refine lv_iconst (v := (5 : Int32)) hx hb dX0_tells_20 (by decide) ?_
    refine lv_ixor hx hb dX0_tells_21 ?_
    exact W.iret (v := r_27 ^^^ (5 : Int32)) hx hb hr (fun t ht2 hW => ⟨⟨r_27 ^^^ (5 : Int32), (u_28, u_29), rfl, Option.some.inj h, by rw [ht2]; exact hP, hD⟩, hS.F ht2⟩) hS.2.2 dX0_tells_22 hlocks
set_option maxHeartbeats 4000000 in
set_option maxRecDepth 100000 in
theorem c_X0_tells (l : Launch) (D : va_G) (cs : Nat → ClassId) (ad : Nat → Nat) {fr lo : Nat} {r_X0_tells : Int32 → Int32 → Int32 → Int32 → Int32 → Int32 → (Nat → Int32) → (Option (Int32 × Int32 × (Nat → Int32)))} (hr_X0_tells : ∀ (D : va_G) (cs : Nat → ClassId) (ad : Nat → Nat) (sz : Nat) (x1 : Int32) (x2 : Int32) (acts_ran : Int32) (acts_kind : Int32) (acts_number : Int32) (acts_claims : Int32) (acts_bodies : Nat → Int32) (R : Int32 × Int32 × (Nat → Int32)) (h : r_X0_tells x1 x2 acts_ran acts_kind acts_number acts_claims acts_bodies = some R), Met l yX0_tells z_X0_tells ({ frames := fr, cells := 0, slots := 0, locals := lo } : Room) (va_Pc [.ref (ad 39), .int x1, .int x2] (zPre D cs (wl_X0_tells ad cs acts_ran acts_kind acts_number acts_claims acts_bodies) sz)) (Q_X0_tells D cs ad acts_kind acts_number acts_claims (va_A (wl_X0_tells ad cs acts_ran acts_kind acts_number acts_claims acts_bodies) sz) R) 0 0 (va_A (wl_X0_tells ad cs acts_ran acts_kind acts_number acts_claims acts_bodies) sz)) (sz : Nat) (x1 : Int32) (x2 : Int32) (acts_ran : Int32) (acts_kind : Int32) (acts_number : Int32) (acts_claims : Int32) (acts_bodies : Nat → Int32) (R : Int32 × Int32 × (Nat → Int32)) (h : f_X0_tells  r_X0_tells x1 x2 acts_ran acts_kind acts_number acts_claims acts_bodies = some R) : Met l yX0_tells (z_X0_tells) ({ frames := fr + 57, cells := 0, slots := 0, locals := lo + 1254 } : Room) (va_Pc [.ref (ad 39), .int x1, .int x2] (zPre D cs (wl_X0_tells ad cs acts_ran acts_kind acts_number acts_claims acts_bodies) sz)) (Q_X0_tells D cs ad acts_kind acts_number acts_claims (va_A (wl_X0_tells ad cs acts_ran acts_kind acts_number acts_claims acts_bodies) sz) R) 0 0 (va_A (wl_X0_tells ad cs acts_ran acts_kind acts_number acts_claims acts_bodies) sz) := by
  refine Met.ofW (cc := cX0_tells) (maxL := 3) (ret := (some .int)) (by decide) rfl ?_
  intro p e s m args below meth c s₁ B hml hv
  obtain ⟨rfl, hsz, hP, hK, hD0⟩ := hv
  subst hsz
  have hD := hD0.self (sz := s.heap.size)
  have C0 : zC p s m _ meth c cX0_tells 3 (some .int) RX0 zW := ⟨B.exec, B.bytes, B.returns, hml, findClass_of_methodNamed B.named, fun w hw => atoms_spec (ws := z_X0_tells) B.pre w (List.mem_cons_of_mem _ hw), B.notSynchronized⟩
  have hA : ∀ q : Nat, s.heap.size ≤ q → va_A (wl_X0_tells ad cs acts_ran acts_kind acts_number acts_claims acts_bodies) s.heap.size q := fun q h => Or.inr h
  have hl := lv_entry ([.ref (ad 39), .int x1, .int x2]) (n := 3) (Nat.le_of_ble_eq_true rfl)
  rw [lg_entry_eq]
  generalize (lg_sl ([.ref (ad 39), .int x1, .int x2]) ++ List.replicate (3 - (lg_sl ([.ref (ad 39), .int x1, .int x2])).length) Slot.unset).toArray = ls at hl ⊢
  exact L_X0_tells_0 C0 hK hA hr_X0_tells  x1 x2 acts_ran acts_bodies h s.heap [] ls hP hD va_S.rf hl
theorem cg_grp141 (l : Launch) : ∀ n : Nat, (∀ (D : va_G) (cs : Nat → ClassId) (ad : Nat → Nat) (sz : Nat) (x1 : Int32) (x2 : Int32) (acts_ran : Int32) (acts_kind : Int32) (acts_number : Int32) (acts_claims : Int32) (acts_bodies : Nat → Int32) (R : Int32 × Int32 × (Nat → Int32)) (h : ((grp_grp141 n)) x1 x2 acts_ran acts_kind acts_number acts_claims acts_bodies = some R), Met l yX0_tells z_X0_tells ({ frames := 57 * n, cells := 0, slots := 0, locals := 1254 * n } : Room) (va_Pc [.ref (ad 39), .int x1, .int x2] (zPre D cs (wl_X0_tells ad cs acts_ran acts_kind acts_number acts_claims acts_bodies) sz)) (Q_X0_tells D cs ad acts_kind acts_number acts_claims (va_A (wl_X0_tells ad cs acts_ran acts_kind acts_number acts_claims acts_bodies) sz) R) 0 0 (va_A (wl_X0_tells ad cs acts_ran acts_kind acts_number acts_claims acts_bodies) sz)) := by
  intro n
  induction n with
  | zero =>
    refine ?_ <;> (intros; rename_i h; cases h)
  | succ n ih =>
    exact (fun D cs ad   sz x1 x2 acts_ran acts_kind acts_number acts_claims acts_bodies R h => c_X0_tells l D cs ad   (ih) sz x1 x2 acts_ran acts_kind acts_number acts_claims acts_bodies R h)
theorem zh_cX4_join_0 : zck [26, 170, 0, 0, 0, 0, 0, 136, 0, 0, 0, 6, 0, 0, 0, 14, 0, 0, 0, 51, 0, 0] (zdu 0 cX4_join.data.toList) = true := by decide +kernel
theorem dX4_join_0 : decode cX4_join 0 = .ok (.iload_n 0, 1) := zo_26 zh_cX4_join_0 0 rfl
theorem dX4_join_1 : decode cX4_join 1 = .ok (.tableswitch 136 6 14 #[51, 65, 79, 90, 101, 112, 116, 120, 124], 51) := by decide +kernel
theorem zh_cX4_join_2 : zck [0, 0, 0, 116, 0, 0, 0, 120, 0, 0, 0, 124, 27, 154, 0, 7, 28, 153, 0, 7, 4, 167] (zdu 40 cX4_join.data.toList) = true := by decide +kernel
theorem dX4_join_52 : decode cX4_join 52 = .ok (.iload_n 1, 1) := zo_27 zh_cX4_join_2 12 rfl
theorem dX4_join_53 : decode cX4_join 53 = .ok (.ifCond .ne 7, 3) := zo_p154 zh_cX4_join_2 13 7 rfl rfl
theorem dX4_join_56 : decode cX4_join 56 = .ok (.iload_n 2, 1) := zo_28 zh_cX4_join_2 16 rfl
theorem dX4_join_57 : decode cX4_join 57 = .ok (.ifCond .eq 7, 3) := zo_p153 zh_cX4_join_2 17 7 rfl rfl
theorem zh_cX4_join_3 : zck [4, 167, 0, 4, 3, 172, 27, 153, 0, 11, 28, 153, 0, 7, 4, 167, 0, 4, 3, 172, 27, 28] (zdu 60 cX4_join.data.toList) = true := by decide +kernel
theorem dX4_join_60 : decode cX4_join 60 = .ok (.iconst 1, 1) := zo_4 zh_cX4_join_3 0 rfl
theorem dX4_join_61 : decode cX4_join 61 = .ok (.goto 4, 3) := zo_p167 zh_cX4_join_3 1 4 rfl rfl
theorem dX4_join_64 : decode cX4_join 64 = .ok (.iconst 0, 1) := zo_3 zh_cX4_join_3 4 rfl
theorem dX4_join_65 : decode cX4_join 65 = .ok (.ireturn, 1) := zo_172 zh_cX4_join_3 5 rfl
theorem dX4_join_66 : decode cX4_join 66 = .ok (.iload_n 1, 1) := zo_27 zh_cX4_join_3 6 rfl
theorem dX4_join_67 : decode cX4_join 67 = .ok (.ifCond .eq 11, 3) := zo_p153 zh_cX4_join_3 7 11 rfl rfl
theorem dX4_join_70 : decode cX4_join 70 = .ok (.iload_n 2, 1) := zo_28 zh_cX4_join_3 10 rfl
theorem dX4_join_71 : decode cX4_join 71 = .ok (.ifCond .eq 7, 3) := zo_p153 zh_cX4_join_3 11 7 rfl rfl
theorem dX4_join_74 : decode cX4_join 74 = .ok (.iconst 1, 1) := zo_4 zh_cX4_join_3 14 rfl
theorem dX4_join_75 : decode cX4_join 75 = .ok (.goto 4, 3) := zo_p167 zh_cX4_join_3 15 4 rfl rfl
theorem dX4_join_78 : decode cX4_join 78 = .ok (.iconst 0, 1) := zo_3 zh_cX4_join_3 18 rfl
theorem dX4_join_79 : decode cX4_join 79 = .ok (.ireturn, 1) := zo_172 zh_cX4_join_3 19 rfl
theorem zh_cX4_join_4 : zck [27, 28, 162, 0, 7, 4, 167, 0, 4, 3, 172, 27, 28, 160, 0, 7, 4, 167, 0, 4, 3, 172] (zdu 80 cX4_join.data.toList) = true := by decide +kernel
theorem dX4_join_80 : decode cX4_join 80 = .ok (.iload_n 1, 1) := zo_27 zh_cX4_join_4 0 rfl
theorem dX4_join_81 : decode cX4_join 81 = .ok (.iload_n 2, 1) := zo_28 zh_cX4_join_4 1 rfl
theorem dX4_join_82 : decode cX4_join 82 = .ok (.if_icmp .ge 7, 3) := zo_p162 zh_cX4_join_4 2 7 rfl rfl
theorem dX4_join_85 : decode cX4_join 85 = .ok (.iconst 1, 1) := zo_4 zh_cX4_join_4 5 rfl
theorem dX4_join_86 : decode cX4_join 86 = .ok (.goto 4, 3) := zo_p167 zh_cX4_join_4 6 4 rfl rfl
theorem dX4_join_89 : decode cX4_join 89 = .ok (.iconst 0, 1) := zo_3 zh_cX4_join_4 9 rfl
theorem dX4_join_90 : decode cX4_join 90 = .ok (.ireturn, 1) := zo_172 zh_cX4_join_4 10 rfl
theorem dX4_join_91 : decode cX4_join 91 = .ok (.iload_n 1, 1) := zo_27 zh_cX4_join_4 11 rfl
theorem dX4_join_92 : decode cX4_join 92 = .ok (.iload_n 2, 1) := zo_28 zh_cX4_join_4 12 rfl
theorem dX4_join_93 : decode cX4_join 93 = .ok (.if_icmp .ne 7, 3) := zo_p160 zh_cX4_join_4 13 7 rfl rfl
theorem dX4_join_96 : decode cX4_join 96 = .ok (.iconst 1, 1) := zo_4 zh_cX4_join_4 16 rfl
theorem dX4_join_97 : decode cX4_join 97 = .ok (.goto 4, 3) := zo_p167 zh_cX4_join_4 17 4 rfl rfl
theorem zh_cX4_join_5 : zck [3, 172, 27, 28, 164, 0, 7, 4, 167, 0, 4, 3, 172, 27, 28, 96, 172, 27, 28, 100, 172, 27] (zdu 100 cX4_join.data.toList) = true := by decide +kernel
theorem dX4_join_100 : decode cX4_join 100 = .ok (.iconst 0, 1) := zo_3 zh_cX4_join_5 0 rfl
theorem dX4_join_101 : decode cX4_join 101 = .ok (.ireturn, 1) := zo_172 zh_cX4_join_5 1 rfl
theorem dX4_join_102 : decode cX4_join 102 = .ok (.iload_n 1, 1) := zo_27 zh_cX4_join_5 2 rfl
theorem dX4_join_103 : decode cX4_join 103 = .ok (.iload_n 2, 1) := zo_28 zh_cX4_join_5 3 rfl
theorem dX4_join_104 : decode cX4_join 104 = .ok (.if_icmp .le 7, 3) := zo_p164 zh_cX4_join_5 4 7 rfl rfl
theorem dX4_join_107 : decode cX4_join 107 = .ok (.iconst 1, 1) := zo_4 zh_cX4_join_5 7 rfl
theorem dX4_join_108 : decode cX4_join 108 = .ok (.goto 4, 3) := zo_p167 zh_cX4_join_5 8 4 rfl rfl
theorem dX4_join_111 : decode cX4_join 111 = .ok (.iconst 0, 1) := zo_3 zh_cX4_join_5 11 rfl
theorem dX4_join_112 : decode cX4_join 112 = .ok (.ireturn, 1) := zo_172 zh_cX4_join_5 12 rfl
theorem dX4_join_113 : decode cX4_join 113 = .ok (.iload_n 1, 1) := zo_27 zh_cX4_join_5 13 rfl
theorem dX4_join_114 : decode cX4_join 114 = .ok (.iload_n 2, 1) := zo_28 zh_cX4_join_5 14 rfl
theorem dX4_join_115 : decode cX4_join 115 = .ok (.iadd, 1) := zo_96 zh_cX4_join_5 15 rfl
theorem dX4_join_116 : decode cX4_join 116 = .ok (.ireturn, 1) := zo_172 zh_cX4_join_5 16 rfl
theorem dX4_join_117 : decode cX4_join 117 = .ok (.iload_n 1, 1) := zo_27 zh_cX4_join_5 17 rfl
theorem dX4_join_118 : decode cX4_join 118 = .ok (.iload_n 2, 1) := zo_28 zh_cX4_join_5 18 rfl
theorem dX4_join_119 : decode cX4_join 119 = .ok (.isub, 1) := zo_100 zh_cX4_join_5 19 rfl
theorem zh_cX4_join_6 : zck [172, 27, 28, 104, 172, 28, 154, 0, 7, 3, 167, 0, 6, 27, 28, 108, 172, 28, 154, 0, 7, 3] (zdu 120 cX4_join.data.toList) = true := by decide +kernel
theorem dX4_join_120 : decode cX4_join 120 = .ok (.ireturn, 1) := zo_172 zh_cX4_join_6 0 rfl
theorem dX4_join_121 : decode cX4_join 121 = .ok (.iload_n 1, 1) := zo_27 zh_cX4_join_6 1 rfl
theorem dX4_join_122 : decode cX4_join 122 = .ok (.iload_n 2, 1) := zo_28 zh_cX4_join_6 2 rfl
theorem dX4_join_123 : decode cX4_join 123 = .ok (.imul, 1) := zo_104 zh_cX4_join_6 3 rfl
theorem dX4_join_124 : decode cX4_join 124 = .ok (.ireturn, 1) := zo_172 zh_cX4_join_6 4 rfl
theorem dX4_join_125 : decode cX4_join 125 = .ok (.iload_n 2, 1) := zo_28 zh_cX4_join_6 5 rfl
theorem dX4_join_126 : decode cX4_join 126 = .ok (.ifCond .ne 7, 3) := zo_p154 zh_cX4_join_6 6 7 rfl rfl
theorem dX4_join_129 : decode cX4_join 129 = .ok (.iconst 0, 1) := zo_3 zh_cX4_join_6 9 rfl
theorem dX4_join_130 : decode cX4_join 130 = .ok (.goto 6, 3) := zo_p167 zh_cX4_join_6 10 6 rfl rfl
theorem dX4_join_133 : decode cX4_join 133 = .ok (.iload_n 1, 1) := zo_27 zh_cX4_join_6 13 rfl
theorem dX4_join_134 : decode cX4_join 134 = .ok (.iload_n 2, 1) := zo_28 zh_cX4_join_6 14 rfl
theorem dX4_join_135 : decode cX4_join 135 = .ok (.idiv, 1) := zo_108 zh_cX4_join_6 15 rfl
theorem dX4_join_136 : decode cX4_join 136 = .ok (.ireturn, 1) := zo_172 zh_cX4_join_6 16 rfl
theorem dX4_join_137 : decode cX4_join 137 = .ok (.iload_n 2, 1) := zo_28 zh_cX4_join_6 17 rfl
theorem dX4_join_138 : decode cX4_join 138 = .ok (.ifCond .ne 7, 3) := zo_p154 zh_cX4_join_6 18 7 rfl rfl
theorem zh_cX4_join_7 : zck [7, 3, 167, 0, 6, 27, 28, 112, 172] (zdu 140 cX4_join.data.toList) = true := by decide +kernel
theorem dX4_join_141 : decode cX4_join 141 = .ok (.iconst 0, 1) := zo_3 zh_cX4_join_7 1 rfl
theorem dX4_join_142 : decode cX4_join 142 = .ok (.goto 6, 3) := zo_p167 zh_cX4_join_7 2 6 rfl rfl
theorem dX4_join_145 : decode cX4_join 145 = .ok (.iload_n 1, 1) := zo_27 zh_cX4_join_7 5 rfl
theorem dX4_join_146 : decode cX4_join 146 = .ok (.iload_n 2, 1) := zo_28 zh_cX4_join_7 6 rfl
theorem dX4_join_147 : decode cX4_join 147 = .ok (.irem, 1) := zo_112 zh_cX4_join_7 7 rfl
theorem dX4_join_148 : decode cX4_join 148 = .ok (.ireturn, 1) := zo_172 zh_cX4_join_7 8 rfl
abbrev z_X4_join : List Cond := .code yX4_join cX4_join 3 (some .int) :: zW
abbrev wl_X4_join (ad : Nat → Nat) (cs : Nat → ClassId)   : va_W := []
def Q_X4_join (D : va_G) (cs : Nat → ClassId) (ad : Nat → Nat)   (A : Nat → Prop) (R : Int32 × Unit) : Array Value → State → Outcome → State → Prop :=
  va_Qi (fun (r : Int32) (u : Unit) => (r, u) = R) (fun (u : Unit) (t : State) => va_P D classes (wl_X4_join ad cs ) t.heap ∧ va_D A (wl_X4_join ad cs )) A
abbrev rm_X4_join : Room := { frames := 0, cells := 0, slots := 0, locals := 0 }
def B_X4_join_60      : Option (Int32 × Unit) :=
  (some ((1 : Int32), ()))
def B_X4_join_0     (x0 : Int32) (x1 : Int32) (x2 : Int32) : Option (Int32 × Unit) :=
  (if x0 = (6 : Int32) then (if x1 = 0 then (if x2 = 0 then (some ((0 : Int32), ())) else (B_X4_join_60 )) else (B_X4_join_60 )) else (if x0 = (7 : Int32) then (if x1 = 0 then (some ((0 : Int32), ())) else (if x2 = 0 then (some ((0 : Int32), ())) else (some ((1 : Int32), ())))) else (if x0 = (8 : Int32) then (if x2 ≤ x1 then (some ((0 : Int32), ())) else (some ((1 : Int32), ()))) else (if x0 = (9 : Int32) then (if x1 = x2 then (some ((1 : Int32), ())) else (some ((0 : Int32), ()))) else (if x0 = (10 : Int32) then (if x1 ≤ x2 then (some ((0 : Int32), ())) else (some ((1 : Int32), ()))) else (if x0 = (11 : Int32) then (some (x1 + x2, ())) else (if x0 = (12 : Int32) then (some (x1 - x2, ())) else (if x0 = (13 : Int32) then (some (x1 * x2, ())) else (if x0 = (14 : Int32) then (if x2 = 0 then (some ((0 : Int32), ())) else (if x2 = 0 then none else (some (x1 / x2, ())))) else (if x2 = 0 then (some ((0 : Int32), ())) else (if x2 = 0 then none else (some (x1 - x1 / x2 * x2, ())))))))))))))
def f_X4_join   (x0 : Int32) (x1 : Int32) (x2 : Int32)  : Option (Int32 × Unit) := B_X4_join_0    x0 x1 x2 
set_option maxHeartbeats 4000000 in
set_option maxRecDepth 100000 in
theorem L_X4_join_60 {p : Program} {l : Launch} {e : Env} {s : State} {m : MethodId} {args : Array Value} {below : List Frame} {meth : Method} {c : Code} {A : Nat → Prop} {D : va_G} {cs : Nat → ClassId} {ad : Nat → Nat} {R : Int32 × Unit} (C0 : zC p s m args meth c cX4_join 3 (some .int) RX4 zW) (hK : va_K D classes (zT cs) s) (hA : ∀ q : Nat, s.heap.size ≤ q → A q)  (h : B_X4_join_60  = some R) (H : Heap) (locs : List Loc) (ls : Array Slot) (hP : va_P D classes (wl_X4_join ad cs ) H) (hD : va_D A (wl_X4_join ad cs )) (hS : va_S A s.heap H locs) (hl : lv_has ls 3 []) : W p l e rm_X4_join s m args below meth c H locs 0 0 (MQ below (Q_X4_join D cs ad  A R) args s 0 0 A) (F0 m 60 ls []) := by
  obtain ⟨hx, hb, hr, hml, hown, ht, hlocks⟩ := id C0
  refine lv_iconst (v := (1 : Int32)) hx hb dX4_join_60 (by decide) ?_
  refine lv_goto (tgt := 65) hx hb dX4_join_61 (by decide) ?_
  exact W.iret (v := (1 : Int32)) hx hb hr (fun t ht2 hW => ⟨⟨(1 : Int32), (), rfl, Option.some.inj h, by rw [ht2]; exact hP, hD⟩, hS.F ht2⟩) hS.2.2 dX4_join_65 hlocks
set_option maxHeartbeats 4000000 in
set_option maxRecDepth 100000 in
theorem L_X4_join_0 {p : Program} {l : Launch} {e : Env} {s : State} {m : MethodId} {args : Array Value} {below : List Frame} {meth : Method} {c : Code} {A : Nat → Prop} {D : va_G} {cs : Nat → ClassId} {ad : Nat → Nat} {R : Int32 × Unit} (C0 : zC p s m args meth c cX4_join 3 (some .int) RX4 zW) (hK : va_K D classes (zT cs) s) (hA : ∀ q : Nat, s.heap.size ≤ q → A q) (x0 : Int32) (x1 : Int32) (x2 : Int32) (h : B_X4_join_0 x0 x1 x2 = some R) (H : Heap) (locs : List Loc) (ls : Array Slot) (hP : va_P D classes (wl_X4_join ad cs ) H) (hD : va_D A (wl_X4_join ad cs )) (hS : va_S A s.heap H locs) (hl : lv_has ls 3 [(0, .int x0), (1, .int x1), (2, .int x2)]) : W p l e rm_X4_join s m args below meth c H locs 0 0 (MQ below (Q_X4_join D cs ad  A R) args s 0 0 A) (F0 m 0 ls []) := by
  obtain ⟨hx, hb, hr, hml, hown, ht, hlocks⟩ := id C0
  refine lv_iload_n hx hb dX4_join_0 rfl (lv_at hl 0 rfl) ?_
  by_cases c_12 : x0 = (6 : Int32)
  · have h := zk_t c_12 h
    refine lv_tableIn (tgt := 52) hx hb dX4_join_1 (by rw [c_12]; decide) (by rw [c_12]; decide) (by rw [c_12]; rfl) (by decide) ?_
    refine lv_iload_n hx hb dX4_join_52 rfl (lv_at hl 1 rfl) ?_
    refine lv_if_ne (tgt := 60) hx hb dX4_join_53 (by decide) (fun c_1 => ?_) (fun c_1 => ?_)
    · have h := zk_f c_1 h
      exact L_X4_join_60 C0 hK hA    h H locs ls hP hD hS (lv_sub hl [] rfl)
    · have h := zk_t c_1 h
      refine lv_iload_n hx hb dX4_join_56 rfl (lv_at hl 2 rfl) ?_
      refine lv_if_eq (tgt := 64) hx hb dX4_join_57 (by decide) (fun c_2 => ?_) (fun c_2 => ?_)
      · have h := zk_t c_2 h
        refine lv_iconst (v := (0 : Int32)) hx hb dX4_join_64 (by decide) ?_
        exact W.iret (v := (0 : Int32)) hx hb hr (fun t ht2 hW => ⟨⟨(0 : Int32), (), rfl, Option.some.inj h, by rw [ht2]; exact hP, hD⟩, hS.F ht2⟩) hS.2.2 dX4_join_65 hlocks
      · have h := zk_f c_2 h
        exact L_X4_join_60 C0 hK hA    h H locs ls hP hD hS (lv_sub hl [] rfl)
  · have h := zk_f c_12 h
    by_cases c_13 : x0 = (7 : Int32)
    · have h := zk_t c_13 h
      refine lv_tableIn (tgt := 66) hx hb dX4_join_1 (by rw [c_13]; decide) (by rw [c_13]; decide) (by rw [c_13]; rfl) (by decide) ?_
      refine lv_iload_n hx hb dX4_join_66 rfl (lv_at hl 1 rfl) ?_
      refine lv_if_eq (tgt := 78) hx hb dX4_join_67 (by decide) (fun c_3 => ?_) (fun c_3 => ?_)
      · have h := zk_t c_3 h
        refine lv_iconst (v := (0 : Int32)) hx hb dX4_join_78 (by decide) ?_
        exact W.iret (v := (0 : Int32)) hx hb hr (fun t ht2 hW => ⟨⟨(0 : Int32), (), rfl, Option.some.inj h, by rw [ht2]; exact hP, hD⟩, hS.F ht2⟩) hS.2.2 dX4_join_79 hlocks
      · have h := zk_f c_3 h
        refine lv_iload_n hx hb dX4_join_70 rfl (lv_at hl 2 rfl) ?_
        refine lv_if_eq (tgt := 78) hx hb dX4_join_71 (by decide) (fun c_4 => ?_) (fun c_4 => ?_)
        · have h := zk_t c_4 h
          refine lv_iconst (v := (0 : Int32)) hx hb dX4_join_78 (by decide) ?_
          exact W.iret (v := (0 : Int32)) hx hb hr (fun t ht2 hW => ⟨⟨(0 : Int32), (), rfl, Option.some.inj h, by rw [ht2]; exact hP, hD⟩, hS.F ht2⟩) hS.2.2 dX4_join_79 hlocks
        · have h := zk_f c_4 h
          refine lv_iconst (v := (1 : Int32)) hx hb dX4_join_74 (by decide) ?_
          refine lv_goto (tgt := 79) hx hb dX4_join_75 (by decide) ?_
          exact W.iret (v := (1 : Int32)) hx hb hr (fun t ht2 hW => ⟨⟨(1 : Int32), (), rfl, Option.some.inj h, by rw [ht2]; exact hP, hD⟩, hS.F ht2⟩) hS.2.2 dX4_join_79 hlocks
    · have h := zk_f c_13 h
      by_cases c_14 : x0 = (8 : Int32)
      · have h := zk_t c_14 h
        refine lv_tableIn (tgt := 80) hx hb dX4_join_1 (by rw [c_14]; decide) (by rw [c_14]; decide) (by rw [c_14]; rfl) (by decide) ?_
        refine lv_iload_n hx hb dX4_join_80 rfl (lv_at hl 1 rfl) ?_
        refine lv_iload_n hx hb dX4_join_81 rfl (lv_at hl 2 rfl) ?_
        refine lv_icmp_ge (tgt := 89) hx hb dX4_join_82 (by decide) (fun c_5 => ?_) (fun c_5 => ?_)
        · have h := zk_t c_5 h
          refine lv_iconst (v := (0 : Int32)) hx hb dX4_join_89 (by decide) ?_
          exact W.iret (v := (0 : Int32)) hx hb hr (fun t ht2 hW => ⟨⟨(0 : Int32), (), rfl, Option.some.inj h, by rw [ht2]; exact hP, hD⟩, hS.F ht2⟩) hS.2.2 dX4_join_90 hlocks
        · have h := zk_f c_5 h
          refine lv_iconst (v := (1 : Int32)) hx hb dX4_join_85 (by decide) ?_
          refine lv_goto (tgt := 90) hx hb dX4_join_86 (by decide) ?_
          exact W.iret (v := (1 : Int32)) hx hb hr (fun t ht2 hW => ⟨⟨(1 : Int32), (), rfl, Option.some.inj h, by rw [ht2]; exact hP, hD⟩, hS.F ht2⟩) hS.2.2 dX4_join_90 hlocks
      · have h := zk_f c_14 h
        by_cases c_15 : x0 = (9 : Int32)
        · have h := zk_t c_15 h
          refine lv_tableIn (tgt := 91) hx hb dX4_join_1 (by rw [c_15]; decide) (by rw [c_15]; decide) (by rw [c_15]; rfl) (by decide) ?_
          refine lv_iload_n hx hb dX4_join_91 rfl (lv_at hl 1 rfl) ?_
          refine lv_iload_n hx hb dX4_join_92 rfl (lv_at hl 2 rfl) ?_
          refine lv_icmp_ne (tgt := 100) hx hb dX4_join_93 (by decide) (fun c_6 => ?_) (fun c_6 => ?_)
          · have h := zk_f c_6 h
            refine lv_iconst (v := (0 : Int32)) hx hb dX4_join_100 (by decide) ?_
            exact W.iret (v := (0 : Int32)) hx hb hr (fun t ht2 hW => ⟨⟨(0 : Int32), (), rfl, Option.some.inj h, by rw [ht2]; exact hP, hD⟩, hS.F ht2⟩) hS.2.2 dX4_join_101 hlocks
          · have h := zk_t c_6 h
            refine lv_iconst (v := (1 : Int32)) hx hb dX4_join_96 (by decide) ?_
            refine lv_goto (tgt := 101) hx hb dX4_join_97 (by decide) ?_
            exact W.iret (v := (1 : Int32)) hx hb hr (fun t ht2 hW => ⟨⟨(1 : Int32), (), rfl, Option.some.inj h, by rw [ht2]; exact hP, hD⟩, hS.F ht2⟩) hS.2.2 dX4_join_101 hlocks
        · have h := zk_f c_15 h
          by_cases c_16 : x0 = (10 : Int32)
          · have h := zk_t c_16 h
            refine lv_tableIn (tgt := 102) hx hb dX4_join_1 (by rw [c_16]; decide) (by rw [c_16]; decide) (by rw [c_16]; rfl) (by decide) ?_
            refine lv_iload_n hx hb dX4_join_102 rfl (lv_at hl 1 rfl) ?_
            refine lv_iload_n hx hb dX4_join_103 rfl (lv_at hl 2 rfl) ?_
            refine lv_icmp_le (tgt := 111) hx hb dX4_join_104 (by decide) (fun c_7 => ?_) (fun c_7 => ?_)
            · have h := zk_t c_7 h
              refine lv_iconst (v := (0 : Int32)) hx hb dX4_join_111 (by decide) ?_
              exact W.iret (v := (0 : Int32)) hx hb hr (fun t ht2 hW => ⟨⟨(0 : Int32), (), rfl, Option.some.inj h, by rw [ht2]; exact hP, hD⟩, hS.F ht2⟩) hS.2.2 dX4_join_112 hlocks
            · have h := zk_f c_7 h
              refine lv_iconst (v := (1 : Int32)) hx hb dX4_join_107 (by decide) ?_
              refine lv_goto (tgt := 112) hx hb dX4_join_108 (by decide) ?_
              exact W.iret (v := (1 : Int32)) hx hb hr (fun t ht2 hW => ⟨⟨(1 : Int32), (), rfl, Option.some.inj h, by rw [ht2]; exact hP, hD⟩, hS.F ht2⟩) hS.2.2 dX4_join_112 hlocks
          · have h := zk_f c_16 h
            by_cases c_17 : x0 = (11 : Int32)
            · have h := zk_t c_17 h
              refine lv_tableIn (tgt := 113) hx hb dX4_join_1 (by rw [c_17]; decide) (by rw [c_17]; decide) (by rw [c_17]; rfl) (by decide) ?_
              refine lv_iload_n hx hb dX4_join_113 rfl (lv_at hl 1 rfl) ?_
              refine lv_iload_n hx hb dX4_join_114 rfl (lv_at hl 2 rfl) ?_
              refine lv_iadd hx hb dX4_join_115 ?_
              exact W.iret (v := x1 + x2) hx hb hr (fun t ht2 hW => ⟨⟨x1 + x2, (), rfl, Option.some.inj h, by rw [ht2]; exact hP, hD⟩, hS.F ht2⟩) hS.2.2 dX4_join_116 hlocks
            · have h := zk_f c_17 h
              by_cases c_18 : x0 = (12 : Int32)
              · have h := zk_t c_18 h
                refine lv_tableIn (tgt := 117) hx hb dX4_join_1 (by rw [c_18]; decide) (by rw [c_18]; decide) (by rw [c_18]; rfl) (by decide) ?_
                refine lv_iload_n hx hb dX4_join_117 rfl (lv_at hl 1 rfl) ?_
                refine lv_iload_n hx hb dX4_join_118 rfl (lv_at hl 2 rfl) ?_
                refine lv_isub hx hb dX4_join_119 ?_
                exact W.iret (v := x1 - x2) hx hb hr (fun t ht2 hW => ⟨⟨x1 - x2, (), rfl, Option.some.inj h, by rw [ht2]; exact hP, hD⟩, hS.F ht2⟩) hS.2.2 dX4_join_120 hlocks
              · have h := zk_f c_18 h
                by_cases c_19 : x0 = (13 : Int32)
                · have h := zk_t c_19 h
                  refine lv_tableIn (tgt := 121) hx hb dX4_join_1 (by rw [c_19]; decide) (by rw [c_19]; decide) (by rw [c_19]; rfl) (by decide) ?_
                  refine lv_iload_n hx hb dX4_join_121 rfl (lv_at hl 1 rfl) ?_
                  refine lv_iload_n hx hb dX4_join_122 rfl (lv_at hl 2 rfl) ?_
                  refine lv_imul hx hb dX4_join_123 ?_
                  exact W.iret (v := x1 * x2) hx hb hr (fun t ht2 hW => ⟨⟨x1 * x2, (), rfl, Option.some.inj h, by rw [ht2]; exact hP, hD⟩, hS.F ht2⟩) hS.2.2 dX4_join_124 hlocks
                · have h := zk_f c_19 h
                  by_cases c_20 : x0 = (14 : Int32)
                  · have h := zk_t c_20 h
                    refine lv_tableIn (tgt := 125) hx hb dX4_join_1 (by rw [c_20]; decide) (by rw [c_20]; decide) (by rw [c_20]; rfl) (by decide) ?_
                    refine lv_iload_n hx hb dX4_join_125 rfl (lv_at hl 2 rfl) ?_
                    refine lv_if_ne (tgt := 133) hx hb dX4_join_126 (by decide) (fun c_8 => ?_) (fun c_8 => ?_)
                    · have h := zk_f c_8 h
                      refine lv_iload_n hx hb dX4_join_133 rfl (lv_at hl 1 rfl) ?_
                      refine lv_iload_n hx hb dX4_join_134 rfl (lv_at hl 2 rfl) ?_
                      obtain ⟨g_9, h⟩ := zk_gd h
                      refine lv_idiv hx hb dX4_join_135 g_9 ?_
                      exact W.iret (v := x1 / x2) hx hb hr (fun t ht2 hW => ⟨⟨x1 / x2, (), rfl, Option.some.inj h, by rw [ht2]; exact hP, hD⟩, hS.F ht2⟩) hS.2.2 dX4_join_136 hlocks
                    · have h := zk_t c_8 h
                      refine lv_iconst (v := (0 : Int32)) hx hb dX4_join_129 (by decide) ?_
                      refine lv_goto (tgt := 136) hx hb dX4_join_130 (by decide) ?_
                      exact W.iret (v := (0 : Int32)) hx hb hr (fun t ht2 hW => ⟨⟨(0 : Int32), (), rfl, Option.some.inj h, by rw [ht2]; exact hP, hD⟩, hS.F ht2⟩) hS.2.2 dX4_join_136 hlocks
                  · have h := zk_f c_20 h
                    refine lv_tableOut (tgt := 137) hx hb dX4_join_1 (zk_out (lo := 6) (hi := 14) [(6 : Int32), (7 : Int32), (8 : Int32), (9 : Int32), (10 : Int32), (11 : Int32), (12 : Int32), (13 : Int32), (14 : Int32)] (by decide +kernel) (List.forall_mem_cons.mpr ⟨c_12, List.forall_mem_cons.mpr ⟨c_13, List.forall_mem_cons.mpr ⟨c_14, List.forall_mem_cons.mpr ⟨c_15, List.forall_mem_cons.mpr ⟨c_16, List.forall_mem_cons.mpr ⟨c_17, List.forall_mem_cons.mpr ⟨c_18, List.forall_mem_cons.mpr ⟨c_19, List.forall_mem_cons.mpr ⟨c_20, fun _ h => absurd h List.not_mem_nil⟩⟩⟩⟩⟩⟩⟩⟩⟩)) (by decide) ?_
                    refine lv_iload_n hx hb dX4_join_137 rfl (lv_at hl 2 rfl) ?_
                    refine lv_if_ne (tgt := 145) hx hb dX4_join_138 (by decide) (fun c_10 => ?_) (fun c_10 => ?_)
                    · have h := zk_f c_10 h
                      refine lv_iload_n hx hb dX4_join_145 rfl (lv_at hl 1 rfl) ?_
                      refine lv_iload_n hx hb dX4_join_146 rfl (lv_at hl 2 rfl) ?_
                      obtain ⟨g_11, h⟩ := zk_gd h
                      refine lv_irem hx hb dX4_join_147 g_11 ?_
                      exact W.iret (v := x1 - x1 / x2 * x2) hx hb hr (fun t ht2 hW => ⟨⟨x1 - x1 / x2 * x2, (), rfl, Option.some.inj h, by rw [ht2]; exact hP, hD⟩, hS.F ht2⟩) hS.2.2 dX4_join_148 hlocks
                    · have h := zk_t c_10 h
                      refine lv_iconst (v := (0 : Int32)) hx hb dX4_join_141 (by decide) ?_
                      refine lv_goto (tgt := 148) hx hb dX4_join_142 (by decide) ?_
                      exact W.iret (v := (0 : Int32)) hx hb hr (fun t ht2 hW => ⟨⟨(0 : Int32), (), rfl, Option.some.inj h, by rw [ht2]; exact hP, hD⟩, hS.F ht2⟩) hS.2.2 dX4_join_148 hlocks
set_option maxHeartbeats 4000000 in
set_option maxRecDepth 100000 in
theorem c_X4_join (l : Launch) (D : va_G) (cs : Nat → ClassId) (ad : Nat → Nat) (sz : Nat) (x0 : Int32) (x1 : Int32) (x2 : Int32)  (R : Int32 × Unit) (h : f_X4_join   x0 x1 x2  = some R) : Met l yX4_join (z_X4_join) rm_X4_join (va_Pc [.int x0, .int x1, .int x2] (zPre D cs (wl_X4_join ad cs ) sz)) (Q_X4_join D cs ad  (va_A (wl_X4_join ad cs ) sz) R) 0 0 (va_A (wl_X4_join ad cs ) sz) := by
  refine Met.ofW (cc := cX4_join) (maxL := 3) (ret := (some .int)) (by decide) rfl ?_
  intro p e s m args below meth c s₁ B hml hv
  obtain ⟨rfl, hsz, hP, hK, hD0⟩ := hv
  subst hsz
  have hD := hD0.self (sz := s.heap.size)
  have C0 : zC p s m _ meth c cX4_join 3 (some .int) RX4 zW := ⟨B.exec, B.bytes, B.returns, hml, findClass_of_methodNamed B.named, fun w hw => atoms_spec (ws := z_X4_join) B.pre w (List.mem_cons_of_mem _ hw), B.notSynchronized⟩
  have hA : ∀ q : Nat, s.heap.size ≤ q → va_A (wl_X4_join ad cs ) s.heap.size q := fun q h => Or.inr h
  have hl := lv_entry ([.int x0, .int x1, .int x2]) (n := 3) (Nat.le_of_ble_eq_true rfl)
  rw [lg_entry_eq]
  generalize (lg_sl ([.int x0, .int x1, .int x2]) ++ List.replicate (3 - (lg_sl ([.int x0, .int x1, .int x2])).length) Slot.unset).toArray = ls at hl ⊢
  exact L_X4_join_0 C0 hK hA   x0 x1 x2  h s.heap [] ls hP hD va_S.rf hl
theorem kw_89 : Cond.initialized "java/lang/Math" ∈ zW := zwC (i := 15) zc_1 rfl rfl
theorem kw_91 : Cond.initialized RX4 ∈ zW := zwC (i := 17) zc_1 rfl rfl
theorem kw_603 : Cond.static Lib.Math.max.name ∈ zW := zwC (i := 49) zc_3 rfl rfl
theorem kw_604 : Cond.code Lib.Math.max.name Lib.Math.max.code 2 (some .int) ∈ zW := zwC (i := 50) zc_3 rfl rfl
theorem kw_670 : Cond.fieldLink RX4 7 "AlreadyJudged$Law" "code" "[I" ∈ zW := zwC (i := 116) zc_3 rfl rfl
theorem kw_833 : Cond.methodLink RX4 13 Lib.Math.max.name ∈ zW := zwC (i := 39) zc_4 rfl rfl
theorem kw_834 : Cond.methodLink RX4 19 yX4_join ∈ zW := zwC (i := 40) zc_4 rfl rfl
theorem kw_835 : Cond.static yX4_join ∈ zW := zwC (i := 41) zc_4 rfl rfl
theorem kw_836 : Cond.code yX4_join cX4_join 3 (some .int) ∈ zW := zwC (i := 42) zc_4 rfl rfl
theorem zh_cX4_value_0 : zck [3, 62, 3, 54, 4, 21, 4, 42, 180, 0, 7, 190, 162, 0, 208, 42, 180, 0, 7, 21, 4, 46] (zdu 0 cX4_value.data.toList) = true := by decide +kernel
theorem dX4_value_0 : decode cX4_value 0 = .ok (.iconst 0, 1) := zo_3 zh_cX4_value_0 0 rfl
theorem dX4_value_1 : decode cX4_value 1 = .ok (.istore_n 3, 1) := zo_62 zh_cX4_value_0 1 rfl
theorem dX4_value_2 : decode cX4_value 2 = .ok (.iconst 0, 1) := zo_3 zh_cX4_value_0 2 rfl
theorem dX4_value_3 : decode cX4_value 3 = .ok (.istore 4, 2) := zo_54 zh_cX4_value_0 3 rfl
theorem dX4_value_5 : decode cX4_value 5 = .ok (.iload 4, 2) := zo_21 zh_cX4_value_0 5 rfl
theorem dX4_value_7 : decode cX4_value 7 = .ok (.aload_n 0, 1) := zo_42 zh_cX4_value_0 7 rfl
theorem dX4_value_8 : decode cX4_value 8 = .ok (.getfield 7, 3) := zo_180 zh_cX4_value_0 8 rfl
theorem dX4_value_11 : decode cX4_value 11 = .ok (.arraylength, 1) := zo_190 zh_cX4_value_0 11 rfl
theorem dX4_value_12 : decode cX4_value 12 = .ok (.if_icmp .ge 208, 3) := zo_p162 zh_cX4_value_0 12 208 rfl rfl
theorem dX4_value_15 : decode cX4_value 15 = .ok (.aload_n 0, 1) := zo_42 zh_cX4_value_0 15 rfl
theorem dX4_value_16 : decode cX4_value 16 = .ok (.getfield 7, 3) := zo_180 zh_cX4_value_0 16 rfl
theorem dX4_value_19 : decode cX4_value 19 = .ok (.iload 4, 2) := zo_21 zh_cX4_value_0 19 rfl
theorem zh_cX4_value_1 : zck [4, 46, 16, 31, 126, 54, 5, 42, 180, 0, 7, 21, 4, 46, 8, 122, 54, 6, 21, 5, 4, 163] (zdu 20 cX4_value.data.toList) = true := by decide +kernel
theorem dX4_value_21 : decode cX4_value 21 = .ok (.iaload, 1) := zo_46 zh_cX4_value_1 1 rfl
theorem dX4_value_22 : decode cX4_value 22 = .ok (.bipush 31, 2) := zo_p16 zh_cX4_value_1 2 31 rfl rfl
theorem dX4_value_24 : decode cX4_value 24 = .ok (.iand, 1) := zo_126 zh_cX4_value_1 4 rfl
theorem dX4_value_25 : decode cX4_value 25 = .ok (.istore 5, 2) := zo_54 zh_cX4_value_1 5 rfl
theorem dX4_value_27 : decode cX4_value 27 = .ok (.aload_n 0, 1) := zo_42 zh_cX4_value_1 7 rfl
theorem dX4_value_28 : decode cX4_value 28 = .ok (.getfield 7, 3) := zo_180 zh_cX4_value_1 8 rfl
theorem dX4_value_31 : decode cX4_value 31 = .ok (.iload 4, 2) := zo_21 zh_cX4_value_1 11 rfl
theorem dX4_value_33 : decode cX4_value 33 = .ok (.iaload, 1) := zo_46 zh_cX4_value_1 13 rfl
theorem dX4_value_34 : decode cX4_value 34 = .ok (.iconst 5, 1) := zo_8 zh_cX4_value_1 14 rfl
theorem dX4_value_35 : decode cX4_value 35 = .ok (.ishr, 1) := zo_122 zh_cX4_value_1 15 rfl
theorem dX4_value_36 : decode cX4_value 36 = .ok (.istore 6, 2) := zo_54 zh_cX4_value_1 16 rfl
theorem dX4_value_38 : decode cX4_value 38 = .ok (.iload 5, 2) := zo_21 zh_cX4_value_1 18 rfl
theorem zh_cX4_value_2 : zck [4, 163, 0, 45, 29, 44, 190, 161, 0, 5, 3, 172, 44, 29, 21, 5, 154, 0, 8, 21, 6, 167] (zdu 40 cX4_value.data.toList) = true := by decide +kernel
theorem dX4_value_40 : decode cX4_value 40 = .ok (.iconst 1, 1) := zo_4 zh_cX4_value_2 0 rfl
theorem dX4_value_41 : decode cX4_value 41 = .ok (.if_icmp .gt 45, 3) := zo_p163 zh_cX4_value_2 1 45 rfl rfl
theorem dX4_value_44 : decode cX4_value 44 = .ok (.iload_n 3, 1) := zo_29 zh_cX4_value_2 4 rfl
theorem zo_44 {c : ByteArray} {s : Nat} {K : List Nat} (h : zck K (zdu s c.data.toList) = true) (k : Nat) (hk : zt1 K k 44 = true) : decode c (s + k) = .ok (.aload_n 2, 1) := zde ((zbd (zu1 (zh1 h hk))).trans rfl)
theorem dX4_value_45 : decode cX4_value 45 = .ok (.aload_n 2, 1) := zo_44 zh_cX4_value_2 5 rfl
theorem dX4_value_46 : decode cX4_value 46 = .ok (.arraylength, 1) := zo_190 zh_cX4_value_2 6 rfl
theorem dX4_value_47 : decode cX4_value 47 = .ok (.if_icmp .lt 5, 3) := zo_p161 zh_cX4_value_2 7 5 rfl rfl
theorem dX4_value_50 : decode cX4_value 50 = .ok (.iconst 0, 1) := zo_3 zh_cX4_value_2 10 rfl
theorem dX4_value_51 : decode cX4_value 51 = .ok (.ireturn, 1) := zo_172 zh_cX4_value_2 11 rfl
theorem dX4_value_52 : decode cX4_value 52 = .ok (.aload_n 2, 1) := zo_44 zh_cX4_value_2 12 rfl
theorem dX4_value_53 : decode cX4_value 53 = .ok (.iload_n 3, 1) := zo_29 zh_cX4_value_2 13 rfl
theorem dX4_value_54 : decode cX4_value 54 = .ok (.iload 5, 2) := zo_21 zh_cX4_value_2 14 rfl
theorem dX4_value_56 : decode cX4_value 56 = .ok (.ifCond .ne 8, 3) := zo_p154 zh_cX4_value_2 16 8 rfl rfl
theorem dX4_value_59 : decode cX4_value 59 = .ok (.iload 6, 2) := zo_21 zh_cX4_value_2 19 rfl
theorem zh_cX4_value_3 : zck [6, 167, 0, 18, 21, 6, 43, 190, 162, 0, 10, 43, 21, 6, 46, 167, 0, 4, 3, 79, 132, 3] (zdu 60 cX4_value.data.toList) = true := by decide +kernel
theorem dX4_value_61 : decode cX4_value 61 = .ok (.goto 18, 3) := zo_p167 zh_cX4_value_3 1 18 rfl rfl
theorem dX4_value_64 : decode cX4_value 64 = .ok (.iload 6, 2) := zo_21 zh_cX4_value_3 4 rfl
theorem zo_43 {c : ByteArray} {s : Nat} {K : List Nat} (h : zck K (zdu s c.data.toList) = true) (k : Nat) (hk : zt1 K k 43 = true) : decode c (s + k) = .ok (.aload_n 1, 1) := zde ((zbd (zu1 (zh1 h hk))).trans rfl)
theorem dX4_value_66 : decode cX4_value 66 = .ok (.aload_n 1, 1) := zo_43 zh_cX4_value_3 6 rfl
theorem dX4_value_67 : decode cX4_value 67 = .ok (.arraylength, 1) := zo_190 zh_cX4_value_3 7 rfl
theorem dX4_value_68 : decode cX4_value 68 = .ok (.if_icmp .ge 10, 3) := zo_p162 zh_cX4_value_3 8 10 rfl rfl
theorem dX4_value_71 : decode cX4_value 71 = .ok (.aload_n 1, 1) := zo_43 zh_cX4_value_3 11 rfl
theorem dX4_value_72 : decode cX4_value 72 = .ok (.iload 6, 2) := zo_21 zh_cX4_value_3 12 rfl
theorem dX4_value_74 : decode cX4_value 74 = .ok (.iaload, 1) := zo_46 zh_cX4_value_3 14 rfl
theorem dX4_value_75 : decode cX4_value 75 = .ok (.goto 4, 3) := zo_p167 zh_cX4_value_3 15 4 rfl rfl
theorem dX4_value_78 : decode cX4_value 78 = .ok (.iconst 0, 1) := zo_3 zh_cX4_value_3 18 rfl
theorem dX4_value_79 : decode cX4_value 79 = .ok (.iastore, 1) := zo_79 zh_cX4_value_3 19 rfl
theorem zh_cX4_value_4 : zck [132, 3, 1, 167, 0, 131, 29, 4, 162, 0, 5, 3, 172, 21, 5, 5, 160, 0, 9, 44, 29, 4] (zdu 80 cX4_value.data.toList) = true := by decide +kernel
theorem dX4_value_80 : decode cX4_value 80 = .ok (.iinc 3 1, 3) := zo_p132 zh_cX4_value_4 0 1 rfl rfl
theorem dX4_value_83 : decode cX4_value 83 = .ok (.goto 131, 3) := zo_p167 zh_cX4_value_4 3 131 rfl rfl
theorem dX4_value_86 : decode cX4_value 86 = .ok (.iload_n 3, 1) := zo_29 zh_cX4_value_4 6 rfl
theorem dX4_value_87 : decode cX4_value 87 = .ok (.iconst 1, 1) := zo_4 zh_cX4_value_4 7 rfl
theorem dX4_value_88 : decode cX4_value 88 = .ok (.if_icmp .ge 5, 3) := zo_p162 zh_cX4_value_4 8 5 rfl rfl
theorem dX4_value_91 : decode cX4_value 91 = .ok (.iconst 0, 1) := zo_3 zh_cX4_value_4 11 rfl
theorem dX4_value_92 : decode cX4_value 92 = .ok (.ireturn, 1) := zo_172 zh_cX4_value_4 12 rfl
theorem dX4_value_93 : decode cX4_value 93 = .ok (.iload 5, 2) := zo_21 zh_cX4_value_4 13 rfl
theorem dX4_value_95 : decode cX4_value 95 = .ok (.iconst 2, 1) := zo_5 zh_cX4_value_4 15 rfl
theorem dX4_value_96 : decode cX4_value 96 = .ok (.if_icmp .ne 9, 3) := zo_p160 zh_cX4_value_4 16 9 rfl rfl
theorem dX4_value_99 : decode cX4_value 99 = .ok (.aload_n 2, 1) := zo_44 zh_cX4_value_4 19 rfl
theorem zh_cX4_value_5 : zck [29, 4, 100, 46, 172, 21, 5, 6, 160, 0, 31, 132, 3, 255, 44, 29, 46, 154, 0, 15, 21, 4] (zdu 100 cX4_value.data.toList) = true := by decide +kernel
theorem dX4_value_100 : decode cX4_value 100 = .ok (.iload_n 3, 1) := zo_29 zh_cX4_value_5 0 rfl
theorem dX4_value_101 : decode cX4_value 101 = .ok (.iconst 1, 1) := zo_4 zh_cX4_value_5 1 rfl
theorem dX4_value_102 : decode cX4_value 102 = .ok (.isub, 1) := zo_100 zh_cX4_value_5 2 rfl
theorem dX4_value_103 : decode cX4_value 103 = .ok (.iaload, 1) := zo_46 zh_cX4_value_5 3 rfl
theorem dX4_value_104 : decode cX4_value 104 = .ok (.ireturn, 1) := zo_172 zh_cX4_value_5 4 rfl
theorem dX4_value_105 : decode cX4_value 105 = .ok (.iload 5, 2) := zo_21 zh_cX4_value_5 5 rfl
theorem dX4_value_107 : decode cX4_value 107 = .ok (.iconst 3, 1) := zo_6 zh_cX4_value_5 7 rfl
theorem dX4_value_108 : decode cX4_value 108 = .ok (.if_icmp .ne 31, 3) := zo_p160 zh_cX4_value_5 8 31 rfl rfl
theorem dX4_value_111 : decode cX4_value 111 = .ok (.iinc 3 (-1), 3) := zo_n132 zh_cX4_value_5 11 0 rfl rfl
theorem dX4_value_114 : decode cX4_value 114 = .ok (.aload_n 2, 1) := zo_44 zh_cX4_value_5 14 rfl
theorem dX4_value_115 : decode cX4_value 115 = .ok (.iload_n 3, 1) := zo_29 zh_cX4_value_5 15 rfl
theorem dX4_value_116 : decode cX4_value 116 = .ok (.iaload, 1) := zo_46 zh_cX4_value_5 16 rfl
theorem dX4_value_117 : decode cX4_value 117 = .ok (.ifCond .ne 15, 3) := zo_p154 zh_cX4_value_5 17 15 rfl rfl
theorem zh_cX4_value_6 : zck [21, 4, 21, 6, 4, 100, 184, 0, 13, 167, 0, 5, 21, 4, 54, 4, 167, 0, 78, 21, 5, 7] (zdu 120 cX4_value.data.toList) = true := by decide +kernel
theorem dX4_value_120 : decode cX4_value 120 = .ok (.iload 4, 2) := zo_21 zh_cX4_value_6 0 rfl
theorem dX4_value_122 : decode cX4_value 122 = .ok (.iload 6, 2) := zo_21 zh_cX4_value_6 2 rfl
theorem dX4_value_124 : decode cX4_value 124 = .ok (.iconst 1, 1) := zo_4 zh_cX4_value_6 4 rfl
theorem dX4_value_125 : decode cX4_value 125 = .ok (.isub, 1) := zo_100 zh_cX4_value_6 5 rfl
theorem dX4_value_126 : decode cX4_value 126 = .ok (.invokestatic 13, 3) := zo_184 zh_cX4_value_6 6 rfl
theorem dX4_value_129 : decode cX4_value 129 = .ok (.goto 5, 3) := zo_p167 zh_cX4_value_6 9 5 rfl rfl
theorem dX4_value_132 : decode cX4_value 132 = .ok (.iload 4, 2) := zo_21 zh_cX4_value_6 12 rfl
theorem dX4_value_134 : decode cX4_value 134 = .ok (.istore 4, 2) := zo_54 zh_cX4_value_6 14 rfl
theorem dX4_value_136 : decode cX4_value 136 = .ok (.goto 78, 3) := zo_p167 zh_cX4_value_6 16 78 rfl rfl
theorem dX4_value_139 : decode cX4_value 139 = .ok (.iload 5, 2) := zo_21 zh_cX4_value_6 19 rfl
theorem zh_cX4_value_7 : zck [5, 7, 160, 0, 24, 44, 29, 4, 100, 44, 29, 4, 100, 46, 154, 0, 7, 4, 167, 0, 4, 3] (zdu 140 cX4_value.data.toList) = true := by decide +kernel
theorem dX4_value_141 : decode cX4_value 141 = .ok (.iconst 4, 1) := zo_7 zh_cX4_value_7 1 rfl
theorem dX4_value_142 : decode cX4_value 142 = .ok (.if_icmp .ne 24, 3) := zo_p160 zh_cX4_value_7 2 24 rfl rfl
theorem dX4_value_145 : decode cX4_value 145 = .ok (.aload_n 2, 1) := zo_44 zh_cX4_value_7 5 rfl
theorem dX4_value_146 : decode cX4_value 146 = .ok (.iload_n 3, 1) := zo_29 zh_cX4_value_7 6 rfl
theorem dX4_value_147 : decode cX4_value 147 = .ok (.iconst 1, 1) := zo_4 zh_cX4_value_7 7 rfl
theorem dX4_value_148 : decode cX4_value 148 = .ok (.isub, 1) := zo_100 zh_cX4_value_7 8 rfl
theorem dX4_value_149 : decode cX4_value 149 = .ok (.aload_n 2, 1) := zo_44 zh_cX4_value_7 9 rfl
theorem dX4_value_150 : decode cX4_value 150 = .ok (.iload_n 3, 1) := zo_29 zh_cX4_value_7 10 rfl
theorem dX4_value_151 : decode cX4_value 151 = .ok (.iconst 1, 1) := zo_4 zh_cX4_value_7 11 rfl
theorem dX4_value_152 : decode cX4_value 152 = .ok (.isub, 1) := zo_100 zh_cX4_value_7 12 rfl
theorem dX4_value_153 : decode cX4_value 153 = .ok (.iaload, 1) := zo_46 zh_cX4_value_7 13 rfl
theorem dX4_value_154 : decode cX4_value 154 = .ok (.ifCond .ne 7, 3) := zo_p154 zh_cX4_value_7 14 7 rfl rfl
theorem dX4_value_157 : decode cX4_value 157 = .ok (.iconst 1, 1) := zo_4 zh_cX4_value_7 17 rfl
theorem dX4_value_158 : decode cX4_value 158 = .ok (.goto 4, 3) := zo_p167 zh_cX4_value_7 18 4 rfl rfl
theorem zh_cX4_value_8 : zck [4, 3, 79, 167, 0, 51, 21, 5, 8, 160, 0, 17, 44, 29, 4, 100, 44, 29, 4, 100, 46, 116] (zdu 160 cX4_value.data.toList) = true := by decide +kernel
theorem dX4_value_161 : decode cX4_value 161 = .ok (.iconst 0, 1) := zo_3 zh_cX4_value_8 1 rfl
theorem dX4_value_162 : decode cX4_value 162 = .ok (.iastore, 1) := zo_79 zh_cX4_value_8 2 rfl
theorem dX4_value_163 : decode cX4_value 163 = .ok (.goto 51, 3) := zo_p167 zh_cX4_value_8 3 51 rfl rfl
theorem dX4_value_166 : decode cX4_value 166 = .ok (.iload 5, 2) := zo_21 zh_cX4_value_8 6 rfl
theorem dX4_value_168 : decode cX4_value 168 = .ok (.iconst 5, 1) := zo_8 zh_cX4_value_8 8 rfl
theorem dX4_value_169 : decode cX4_value 169 = .ok (.if_icmp .ne 17, 3) := zo_p160 zh_cX4_value_8 9 17 rfl rfl
theorem dX4_value_172 : decode cX4_value 172 = .ok (.aload_n 2, 1) := zo_44 zh_cX4_value_8 12 rfl
theorem dX4_value_173 : decode cX4_value 173 = .ok (.iload_n 3, 1) := zo_29 zh_cX4_value_8 13 rfl
theorem dX4_value_174 : decode cX4_value 174 = .ok (.iconst 1, 1) := zo_4 zh_cX4_value_8 14 rfl
theorem dX4_value_175 : decode cX4_value 175 = .ok (.isub, 1) := zo_100 zh_cX4_value_8 15 rfl
theorem dX4_value_176 : decode cX4_value 176 = .ok (.aload_n 2, 1) := zo_44 zh_cX4_value_8 16 rfl
theorem dX4_value_177 : decode cX4_value 177 = .ok (.iload_n 3, 1) := zo_29 zh_cX4_value_8 17 rfl
theorem dX4_value_178 : decode cX4_value 178 = .ok (.iconst 1, 1) := zo_4 zh_cX4_value_8 18 rfl
theorem dX4_value_179 : decode cX4_value 179 = .ok (.isub, 1) := zo_100 zh_cX4_value_8 19 rfl
theorem zh_cX4_value_9 : zck [46, 116, 79, 167, 0, 31, 29, 5, 162, 0, 5, 3, 172, 132, 3, 255, 44, 29, 4, 100, 21, 5] (zdu 180 cX4_value.data.toList) = true := by decide +kernel
theorem dX4_value_180 : decode cX4_value 180 = .ok (.iaload, 1) := zo_46 zh_cX4_value_9 0 rfl
theorem dX4_value_181 : decode cX4_value 181 = .ok (.ineg, 1) := zo_116 zh_cX4_value_9 1 rfl
theorem dX4_value_182 : decode cX4_value 182 = .ok (.iastore, 1) := zo_79 zh_cX4_value_9 2 rfl
theorem dX4_value_183 : decode cX4_value 183 = .ok (.goto 31, 3) := zo_p167 zh_cX4_value_9 3 31 rfl rfl
theorem dX4_value_186 : decode cX4_value 186 = .ok (.iload_n 3, 1) := zo_29 zh_cX4_value_9 6 rfl
theorem dX4_value_187 : decode cX4_value 187 = .ok (.iconst 2, 1) := zo_5 zh_cX4_value_9 7 rfl
theorem dX4_value_188 : decode cX4_value 188 = .ok (.if_icmp .ge 5, 3) := zo_p162 zh_cX4_value_9 8 5 rfl rfl
theorem dX4_value_191 : decode cX4_value 191 = .ok (.iconst 0, 1) := zo_3 zh_cX4_value_9 11 rfl
theorem dX4_value_192 : decode cX4_value 192 = .ok (.ireturn, 1) := zo_172 zh_cX4_value_9 12 rfl
theorem dX4_value_193 : decode cX4_value 193 = .ok (.iinc 3 (-1), 3) := zo_n132 zh_cX4_value_9 13 0 rfl rfl
theorem dX4_value_196 : decode cX4_value 196 = .ok (.aload_n 2, 1) := zo_44 zh_cX4_value_9 16 rfl
theorem dX4_value_197 : decode cX4_value 197 = .ok (.iload_n 3, 1) := zo_29 zh_cX4_value_9 17 rfl
theorem dX4_value_198 : decode cX4_value 198 = .ok (.iconst 1, 1) := zo_4 zh_cX4_value_9 18 rfl
theorem dX4_value_199 : decode cX4_value 199 = .ok (.isub, 1) := zo_100 zh_cX4_value_9 19 rfl
theorem zh_cX4_value_10 : zck [21, 5, 44, 29, 4, 100, 46, 44, 29, 46, 184, 0, 19, 79, 132, 4, 1, 167, 255, 44, 3, 172] (zdu 200 cX4_value.data.toList) = true := by decide +kernel
theorem dX4_value_200 : decode cX4_value 200 = .ok (.iload 5, 2) := zo_21 zh_cX4_value_10 0 rfl
theorem dX4_value_202 : decode cX4_value 202 = .ok (.aload_n 2, 1) := zo_44 zh_cX4_value_10 2 rfl
theorem dX4_value_203 : decode cX4_value 203 = .ok (.iload_n 3, 1) := zo_29 zh_cX4_value_10 3 rfl
theorem dX4_value_204 : decode cX4_value 204 = .ok (.iconst 1, 1) := zo_4 zh_cX4_value_10 4 rfl
theorem dX4_value_205 : decode cX4_value 205 = .ok (.isub, 1) := zo_100 zh_cX4_value_10 5 rfl
theorem dX4_value_206 : decode cX4_value 206 = .ok (.iaload, 1) := zo_46 zh_cX4_value_10 6 rfl
theorem dX4_value_207 : decode cX4_value 207 = .ok (.aload_n 2, 1) := zo_44 zh_cX4_value_10 7 rfl
theorem dX4_value_208 : decode cX4_value 208 = .ok (.iload_n 3, 1) := zo_29 zh_cX4_value_10 8 rfl
theorem dX4_value_209 : decode cX4_value 209 = .ok (.iaload, 1) := zo_46 zh_cX4_value_10 9 rfl
theorem dX4_value_210 : decode cX4_value 210 = .ok (.invokestatic 19, 3) := zo_184 zh_cX4_value_10 10 rfl
theorem dX4_value_213 : decode cX4_value 213 = .ok (.iastore, 1) := zo_79 zh_cX4_value_10 13 rfl
theorem dX4_value_214 : decode cX4_value 214 = .ok (.iinc 4 1, 3) := zo_p132 zh_cX4_value_10 14 1 rfl rfl
theorem dX4_value_217 : decode cX4_value 217 = .ok (.goto (-212), 3) := zo_n167 zh_cX4_value_10 17 211 rfl rfl
theorem zh_cX4_value_11 : zck [3, 172] (zdu 220 cX4_value.data.toList) = true := by decide +kernel
theorem dX4_value_220 : decode cX4_value 220 = .ok (.iconst 0, 1) := zo_3 zh_cX4_value_11 0 rfl
theorem dX4_value_221 : decode cX4_value 221 = .ok (.ireturn, 1) := zo_172 zh_cX4_value_11 1 rfl
abbrev z_X4_value : List Cond := .code yX4_value cX4_value 7 (some .int) :: zW
abbrev wx_X4_value (ad : Nat → Nat) (cs : Nat → ClassId) (PL : va_W) (h_arI_a : Nat) (h_arK_a : Nat) (h_la : Nat) (h_la_code : Nat) (arI_a : Nat → Int32) (arI_a_n : Nat) (arK_a : Nat → Int32) (arK_a_n : Nat) (la_code : Nat → Int32) (la_code_n : Nat) : va_W := [(h_arI_a, .inl (cs 0, arI_a_n, .inl arI_a)), (h_arK_a, .inl (cs 0, arK_a_n, .inl arK_a))]
abbrev wl_X4_value (ad : Nat → Nat) (cs : Nat → ClassId) (PL : va_W) (h_arI_a : Nat) (h_arK_a : Nat) (h_la : Nat) (h_la_code : Nat) (arI_a : Nat → Int32) (arI_a_n : Nat) (arK_a : Nat → Int32) (arK_a_n : Nat) (la_code : Nat → Int32) (la_code_n : Nat) : va_W := wx_X4_value ad cs PL h_arI_a h_arK_a h_la h_la_code arI_a arI_a_n arK_a arK_a_n la_code la_code_n ++ PL
def Q_X4_value (D : va_G) (cs : Nat → ClassId) (ad : Nat → Nat) (PL : va_W) (h_arI_a : Nat) (h_arK_a : Nat) (h_la : Nat) (h_la_code : Nat) (arI_a : Nat → Int32) (arI_a_n : Nat) (arK_a_n : Nat) (la_code : Nat → Int32) (la_code_n : Nat) (A : Nat → Prop) (R : Int32 × (Nat → Int32)) : Array Value → State → Outcome → State → Prop :=
  va_Qi (fun (r : Int32) (u : (Nat → Int32)) => (r, u) = R) (fun (u : (Nat → Int32)) (t : State) => va_P D classes (wl_X4_value ad cs PL h_arI_a h_arK_a h_la h_la_code arI_a arI_a_n u arK_a_n la_code la_code_n) t.heap ∧ va_D A (wl_X4_value ad cs PL h_arI_a h_arK_a h_la h_la_code arI_a arI_a_n u arK_a_n la_code la_code_n)) A
abbrev rm_X4_value : Room := { frames := 1, cells := 0, slots := 0, locals := 22 }
theorem g_X4_19 : GoodIn zW (va_wsS RX4 19 yX4_join z_X4_join) := zGS kw_834 kw_835 kw_91 kw_836
theorem hd_X4_join : yX4_join.cls ≠ "java/lang/invoke/MethodHandle" ∧ yX4_join.cls ≠ "java/lang/invoke/VarHandle" ∧ (parseMethodDescriptor yX4_join.desc).map (fun d => d.parameters.length) = some 3 := by decide +kernel
def B_X4_value_214   (g5 : Int32 → Int32 → (Nat → Int32) → (Option (Int32 × (Nat → Int32)))) (arI_a : Nat → Int32) (arI_a_n : Nat) (arK_a_n : Nat) (la_code : Nat → Int32) (la_code_n : Nat) (x3 : Int32) (x4 : Int32) (arK_a : Nat → Int32) : Option (Int32 × (Nat → Int32)) :=
  (zk_let (x4 + (1 : Int32)) (fun v_40 => (g5 x3 v_40 arK_a)))
def B_X4_value_162   (g5 : Int32 → Int32 → (Nat → Int32) → (Option (Int32 × (Nat → Int32)))) (arI_a : Nat → Int32) (arI_a_n : Nat) (arK_a_n : Nat) (la_code : Nat → Int32) (la_code_n : Nat) (x3 : Int32) (x4 : Int32) (s0 : Int32) (s1 : Int32) (arK_a : Nat → Int32) : Option (Int32 × (Nat → Int32)) :=
  (if (s1 < 0 ∨ arK_a_n ≤ s1.toNatClampNeg) then none else (zk_let (upd arK_a s1.toNatClampNeg s0) (fun f_39 => (B_X4_value_214 g5 arI_a arI_a_n arK_a_n la_code la_code_n x3 x4 f_39))))
def B_X4_value_134   (g5 : Int32 → Int32 → (Nat → Int32) → (Option (Int32 × (Nat → Int32)))) (arI_a : Nat → Int32) (arI_a_n : Nat) (arK_a_n : Nat) (la_code : Nat → Int32) (la_code_n : Nat) (x3 : Int32) (s0 : Int32) (arK_a : Nat → Int32) : Option (Int32 × (Nat → Int32)) :=
  (B_X4_value_214 g5 arI_a arI_a_n arK_a_n la_code la_code_n x3 s0 arK_a)
def B_X4_value_79   (g5 : Int32 → Int32 → (Nat → Int32) → (Option (Int32 × (Nat → Int32)))) (arI_a : Nat → Int32) (arI_a_n : Nat) (arK_a_n : Nat) (la_code : Nat → Int32) (la_code_n : Nat) (x3 : Int32) (x4 : Int32) (s0 : Int32) (s1 : Int32) (arK_a : Nat → Int32) : Option (Int32 × (Nat → Int32)) :=
  (if (s1 < 0 ∨ arK_a_n ≤ s1.toNatClampNeg) then none else (zk_let (upd arK_a s1.toNatClampNeg s0) (fun f_36 => (zk_let (x3 + (1 : Int32)) (fun v_37 => (B_X4_value_214 g5 arI_a arI_a_n arK_a_n la_code la_code_n v_37 x4 f_36))))))
def B_X4_value_5   (g5 : Int32 → Int32 → (Nat → Int32) → (Option (Int32 × (Nat → Int32)))) (arI_a : Nat → Int32) (arI_a_n : Nat) (arK_a_n : Nat) (la_code : Nat → Int32) (la_code_n : Nat) (x3 : Int32) (x4 : Int32) (arK_a : Nat → Int32) : Option (Int32 × (Nat → Int32)) :=
  (if (Int32.ofNat la_code_n) ≤ x4 then (some ((0 : Int32), arK_a)) else (if (x4 < 0 ∨ la_code_n ≤ x4.toNatClampNeg) then none else (zk_let ((la_code x4.toNatClampNeg) &&& (31 : Int32)) (fun v_3 => (if (x4 < 0 ∨ la_code_n ≤ x4.toNatClampNeg) then none else (zk_let ((la_code x4.toNatClampNeg) >>> ((5 : Int32) &&& 31)) (fun v_5 => (if (1 : Int32) < v_3 then (if (1 : Int32) ≤ x3 then (if v_3 = (2 : Int32) then (if ((x3 - (1 : Int32)) < 0 ∨ arK_a_n ≤ (x3 - (1 : Int32)).toNatClampNeg) then none else (some (arK_a (x3 - (1 : Int32)).toNatClampNeg, arK_a))) else (if v_3 = (3 : Int32) then (zk_let (x3 + (-1 : Int32)) (fun v_27 => (if (v_27 < 0 ∨ arK_a_n ≤ v_27.toNatClampNeg) then none else (if (arK_a v_27.toNatClampNeg) = 0 then (B_X4_value_134 g5 arI_a arI_a_n arK_a_n la_code la_code_n v_27 (if x4 < (v_5 - (1 : Int32)) then (v_5 - (1 : Int32)) else x4) arK_a) else (B_X4_value_134 g5 arI_a arI_a_n arK_a_n la_code la_code_n v_27 x4 arK_a))))) else (if v_3 = (4 : Int32) then (if ((x3 - (1 : Int32)) < 0 ∨ arK_a_n ≤ (x3 - (1 : Int32)).toNatClampNeg) then none else (if (arK_a (x3 - (1 : Int32)).toNatClampNeg) = 0 then (B_X4_value_162 g5 arI_a arI_a_n arK_a_n la_code la_code_n x3 x4 (1 : Int32) (x3 - (1 : Int32)) arK_a) else (B_X4_value_162 g5 arI_a arI_a_n arK_a_n la_code la_code_n x3 x4 (0 : Int32) (x3 - (1 : Int32)) arK_a))) else (if v_3 = (5 : Int32) then (if ((x3 - (1 : Int32)) < 0 ∨ arK_a_n ≤ (x3 - (1 : Int32)).toNatClampNeg) then none else (zk_let (-(arK_a (x3 - (1 : Int32)).toNatClampNeg)) (fun v_22 => (if ((x3 - (1 : Int32)) < 0 ∨ arK_a_n ≤ (x3 - (1 : Int32)).toNatClampNeg) then none else (zk_let (upd arK_a (x3 - (1 : Int32)).toNatClampNeg v_22) (fun f_24 => (B_X4_value_214 g5 arI_a arI_a_n arK_a_n la_code la_code_n x3 x4 f_24))))))) else (if (2 : Int32) ≤ x3 then (zk_let (x3 + (-1 : Int32)) (fun v_13 => (if ((v_13 - (1 : Int32)) < 0 ∨ arK_a_n ≤ (v_13 - (1 : Int32)).toNatClampNeg) then none else (if (v_13 < 0 ∨ arK_a_n ≤ v_13.toNatClampNeg) then none else (zk_b2 (f_X4_join v_3 (arK_a (v_13 - (1 : Int32)).toNatClampNeg) (arK_a v_13.toNatClampNeg)) (fun r_16 u_17 => (if ((v_13 - (1 : Int32)) < 0 ∨ arK_a_n ≤ (v_13 - (1 : Int32)).toNatClampNeg) then none else (zk_let (upd arK_a (v_13 - (1 : Int32)).toNatClampNeg r_16) (fun f_20 => (B_X4_value_214 g5 arI_a arI_a_n arK_a_n la_code la_code_n v_13 x4 f_20)))))))))) else (some ((0 : Int32), arK_a))))))) else (some ((0 : Int32), arK_a))) else (if x3 < (Int32.ofNat arK_a_n) then (if v_3 = 0 then (B_X4_value_79 g5 arI_a arI_a_n arK_a_n la_code la_code_n x3 x4 v_5 x3 arK_a) else (if (Int32.ofNat arI_a_n) ≤ v_5 then (B_X4_value_79 g5 arI_a arI_a_n arK_a_n la_code la_code_n x3 x4 (0 : Int32) x3 arK_a) else (if (v_5 < 0 ∨ arI_a_n ≤ v_5.toNatClampNeg) then none else (B_X4_value_79 g5 arI_a arI_a_n arK_a_n la_code la_code_n x3 x4 (arI_a v_5.toNatClampNeg) x3 arK_a)))) else (some ((0 : Int32), arK_a)))))))))))
def B_X4_value_0   (g5 : Int32 → Int32 → (Nat → Int32) → (Option (Int32 × (Nat → Int32)))) (arI_a : Nat → Int32) (arI_a_n : Nat) (arK_a_n : Nat) (la_code : Nat → Int32) (la_code_n : Nat) (arK_a : Nat → Int32) : Option (Int32 × (Nat → Int32)) :=
  (g5 (0 : Int32) (0 : Int32) arK_a)
def G_X4_value   (arI_a : Nat → Int32) (arI_a_n : Nat) (arK_a_n : Nat) (la_code : Nat → Int32) (la_code_n : Nat) (n : Nat) : (Int32 → Int32 → (Nat → Int32) → (Option (Int32 × (Nat → Int32)))) :=
  Nat.rec (motive := fun _ => (Int32 → Int32 → (Nat → Int32) → (Option (Int32 × (Nat → Int32))))) ((fun _ _ _ => none)) (fun _ ih => (B_X4_value_5   ih arI_a arI_a_n arK_a_n la_code la_code_n)) n
def f_X4_value   (n : Nat)  (arI_a : Nat → Int32) (arI_a_n : Nat) (arK_a : Nat → Int32) (arK_a_n : Nat) (la_code : Nat → Int32) (la_code_n : Nat) : Option (Int32 × (Nat → Int32)) := B_X4_value_0   ((G_X4_value   arI_a arI_a_n arK_a_n la_code la_code_n n)) arI_a arI_a_n arK_a_n la_code la_code_n  arK_a
set_option maxHeartbeats 4000000 in
set_option maxRecDepth 100000 in
theorem L_X4_value_214 {p : Program} {l : Launch} {e : Env} {s : State} {m : MethodId} {args : Array Value} {below : List Frame} {meth : Method} {c : Code} {A : Nat → Prop} {D : va_G} {cs : Nat → ClassId} {ad : Nat → Nat} {PL : va_W} {h_arI_a : Nat} {h_arK_a : Nat} {h_la : Nat} {h_la_code : Nat} {arI_a : Nat → Int32} {arI_a_n : Nat} {arK_a_n : Nat} {la_code : Nat → Int32} {la_code_n : Nat} {jm_la : Nat} {jm_la_code : Nat} {R : Int32 × (Nat → Int32)} {g5 : Int32 → Int32 → (Nat → Int32) → (Option (Int32 × (Nat → Int32)))} (C0 : zC p s m args meth c cX4_value 7 (some .int) RX4 zW) (hK : va_K D classes (zT cs) s) (hA : ∀ q : Nat, s.heap.size ≤ q → A q) (hm_la : PL[jm_la]? = some (h_la, .inr (4, [.ref h_la_code]))) (hm_la_code : PL[jm_la_code]? = some (h_la_code, .inl (cs 0, la_code_n, .inl la_code))) (ih5 : ∀ (x3 : Int32) (x4 : Int32) (arK_a : Nat → Int32) (h : g5 x3 x4 arK_a = some R) (H : Heap) (locs : List Loc) (ls : Array Slot) (hP : va_P D classes (wl_X4_value ad cs PL h_arI_a h_arK_a h_la h_la_code arI_a arI_a_n arK_a arK_a_n la_code la_code_n) H) (hD : va_D A (wl_X4_value ad cs PL h_arI_a h_arK_a h_la h_la_code arI_a arI_a_n arK_a arK_a_n la_code la_code_n)) (hS : va_S A s.heap H locs) (hl : lv_has ls 7 [(0, .ref h_la), (1, .ref h_arI_a), (2, .ref h_arK_a), (3, .int x3), (4, .int x4)]), W p l e rm_X4_value s m args below meth c H locs 0 0 (MQ below (Q_X4_value D cs ad PL h_arI_a h_arK_a h_la h_la_code arI_a arI_a_n arK_a_n la_code la_code_n A R) args s 0 0 A) (F0 m 5 ls [])) (x3 : Int32) (x4 : Int32) (arK_a : Nat → Int32) (h : B_X4_value_214 g5 arI_a arI_a_n arK_a_n la_code la_code_n x3 x4 arK_a = some R) (H : Heap) (locs : List Loc) (ls : Array Slot) (hP : va_P D classes (wl_X4_value ad cs PL h_arI_a h_arK_a h_la h_la_code arI_a arI_a_n arK_a arK_a_n la_code la_code_n) H) (hD : va_D A (wl_X4_value ad cs PL h_arI_a h_arK_a h_la h_la_code arI_a arI_a_n arK_a arK_a_n la_code la_code_n)) (hS : va_S A s.heap H locs) (hl : lv_has ls 7 [(0, .ref h_la), (1, .ref h_arI_a), (2, .ref h_arK_a), (3, .int x3), (4, .int x4)]) : W p l e rm_X4_value s m args below meth c H locs 0 0 (MQ below (Q_X4_value D cs ad PL h_arI_a h_arK_a h_la h_la_code arI_a arI_a_n arK_a_n la_code la_code_n A R) args s 0 0 A) (F0 m 214 ls []) := by
  obtain ⟨hx, hb, hr, hml, hown, ht, hlocks⟩ := id C0
  obtain ⟨v_40, ev_40, h⟩ := zk_lt h
  refine lv_iinc (v := v_40) (lv' := [(4, .int v_40), (0, .ref h_la), (1, .ref h_arI_a), (2, .ref h_arK_a), (3, .int x3)]) hx hb dX4_value_214 hl (k := 4) rfl (by rw [ev_40]; rfl) (by decide) rfl (fun ls hl => ?_)
  refine lv_goto (tgt := 5) hx hb dX4_value_217 (by decide) ?_
  exact ih5 x3 v_40 arK_a h H locs ls hP hD hS (lv_sub hl [1, 2, 3, 4, 0] rfl)
set_option maxHeartbeats 4000000 in
set_option maxRecDepth 100000 in
theorem L_X4_value_162 {p : Program} {l : Launch} {e : Env} {s : State} {m : MethodId} {args : Array Value} {below : List Frame} {meth : Method} {c : Code} {A : Nat → Prop} {D : va_G} {cs : Nat → ClassId} {ad : Nat → Nat} {PL : va_W} {h_arI_a : Nat} {h_arK_a : Nat} {h_la : Nat} {h_la_code : Nat} {arI_a : Nat → Int32} {arI_a_n : Nat} {arK_a_n : Nat} {la_code : Nat → Int32} {la_code_n : Nat} {jm_la : Nat} {jm_la_code : Nat} {R : Int32 × (Nat → Int32)} {g5 : Int32 → Int32 → (Nat → Int32) → (Option (Int32 × (Nat → Int32)))} (C0 : zC p s m args meth c cX4_value 7 (some .int) RX4 zW) (hK : va_K D classes (zT cs) s) (hA : ∀ q : Nat, s.heap.size ≤ q → A q) (hm_la : PL[jm_la]? = some (h_la, .inr (4, [.ref h_la_code]))) (hm_la_code : PL[jm_la_code]? = some (h_la_code, .inl (cs 0, la_code_n, .inl la_code))) (ih5 : ∀ (x3 : Int32) (x4 : Int32) (arK_a : Nat → Int32) (h : g5 x3 x4 arK_a = some R) (H : Heap) (locs : List Loc) (ls : Array Slot) (hP : va_P D classes (wl_X4_value ad cs PL h_arI_a h_arK_a h_la h_la_code arI_a arI_a_n arK_a arK_a_n la_code la_code_n) H) (hD : va_D A (wl_X4_value ad cs PL h_arI_a h_arK_a h_la h_la_code arI_a arI_a_n arK_a arK_a_n la_code la_code_n)) (hS : va_S A s.heap H locs) (hl : lv_has ls 7 [(0, .ref h_la), (1, .ref h_arI_a), (2, .ref h_arK_a), (3, .int x3), (4, .int x4)]), W p l e rm_X4_value s m args below meth c H locs 0 0 (MQ below (Q_X4_value D cs ad PL h_arI_a h_arK_a h_la h_la_code arI_a arI_a_n arK_a_n la_code la_code_n A R) args s 0 0 A) (F0 m 5 ls [])) (x3 : Int32) (x4 : Int32) (s0 : Int32) (s1 : Int32) (arK_a : Nat → Int32) (h : B_X4_value_162 g5 arI_a arI_a_n arK_a_n la_code la_code_n x3 x4 s0 s1 arK_a = some R) (H : Heap) (locs : List Loc) (ls : Array Slot) (hP : va_P D classes (wl_X4_value ad cs PL h_arI_a h_arK_a h_la h_la_code arI_a arI_a_n arK_a arK_a_n la_code la_code_n) H) (hD : va_D A (wl_X4_value ad cs PL h_arI_a h_arK_a h_la h_la_code arI_a arI_a_n arK_a arK_a_n la_code la_code_n)) (hS : va_S A s.heap H locs) (hl : lv_has ls 7 [(0, .ref h_la), (1, .ref h_arI_a), (2, .ref h_arK_a), (3, .int x3), (4, .int x4)]) : W p l e rm_X4_value s m args below meth c H locs 0 0 (MQ below (Q_X4_value D cs ad PL h_arI_a h_arK_a h_la h_la_code arI_a arI_a_n arK_a_n la_code la_code_n A R) args s 0 0 A) (F0 m 162 ls [.int s0, .int s1, .ref h_arK_a]) := by
  obtain ⟨hx, hb, hr, hml, hown, ht, hlocks⟩ := id C0
  obtain ⟨g_38, h⟩ := zk_gd h
  obtain ⟨f_39, ef_39, h⟩ := zk_lt h
  refine va_iast hx hb hK hP hD hS 1 0 rfl rfl g_38 dX4_value_162 (fun H locs hP hD hS => ?_)
  have hP : va_P D classes (wl_X4_value ad cs PL h_arI_a h_arK_a h_la h_la_code arI_a arI_a_n f_39 arK_a_n la_code la_code_n) H := by rw [ef_39]; exact hP
  have hD : va_D A (wl_X4_value ad cs PL h_arI_a h_arK_a h_la h_la_code arI_a arI_a_n f_39 arK_a_n la_code la_code_n) := by rw [ef_39]; exact hD
  refine lv_goto (tgt := 214) hx hb dX4_value_163 (by decide) ?_
  exact L_X4_value_214 C0 hK hA hm_la hm_la_code  ih5 x3 x4 f_39 h H locs ls hP hD hS (lv_sub hl [0, 1, 2, 3, 4] rfl)
set_option maxHeartbeats 4000000 in
set_option maxRecDepth 100000 in
theorem L_X4_value_134 {p : Program} {l : Launch} {e : Env} {s : State} {m : MethodId} {args : Array Value} {below : List Frame} {meth : Method} {c : Code} {A : Nat → Prop} {D : va_G} {cs : Nat → ClassId} {ad : Nat → Nat} {PL : va_W} {h_arI_a : Nat} {h_arK_a : Nat} {h_la : Nat} {h_la_code : Nat} {arI_a : Nat → Int32} {arI_a_n : Nat} {arK_a_n : Nat} {la_code : Nat → Int32} {la_code_n : Nat} {jm_la : Nat} {jm_la_code : Nat} {R : Int32 × (Nat → Int32)} {g5 : Int32 → Int32 → (Nat → Int32) → (Option (Int32 × (Nat → Int32)))} (C0 : zC p s m args meth c cX4_value 7 (some .int) RX4 zW) (hK : va_K D classes (zT cs) s) (hA : ∀ q : Nat, s.heap.size ≤ q → A q) (hm_la : PL[jm_la]? = some (h_la, .inr (4, [.ref h_la_code]))) (hm_la_code : PL[jm_la_code]? = some (h_la_code, .inl (cs 0, la_code_n, .inl la_code))) (ih5 : ∀ (x3 : Int32) (x4 : Int32) (arK_a : Nat → Int32) (h : g5 x3 x4 arK_a = some R) (H : Heap) (locs : List Loc) (ls : Array Slot) (hP : va_P D classes (wl_X4_value ad cs PL h_arI_a h_arK_a h_la h_la_code arI_a arI_a_n arK_a arK_a_n la_code la_code_n) H) (hD : va_D A (wl_X4_value ad cs PL h_arI_a h_arK_a h_la h_la_code arI_a arI_a_n arK_a arK_a_n la_code la_code_n)) (hS : va_S A s.heap H locs) (hl : lv_has ls 7 [(0, .ref h_la), (1, .ref h_arI_a), (2, .ref h_arK_a), (3, .int x3), (4, .int x4)]), W p l e rm_X4_value s m args below meth c H locs 0 0 (MQ below (Q_X4_value D cs ad PL h_arI_a h_arK_a h_la h_la_code arI_a arI_a_n arK_a_n la_code la_code_n A R) args s 0 0 A) (F0 m 5 ls [])) (x3 : Int32) (s0 : Int32) (arK_a : Nat → Int32) (h : B_X4_value_134 g5 arI_a arI_a_n arK_a_n la_code la_code_n x3 s0 arK_a = some R) (H : Heap) (locs : List Loc) (ls : Array Slot) (hP : va_P D classes (wl_X4_value ad cs PL h_arI_a h_arK_a h_la h_la_code arI_a arI_a_n arK_a arK_a_n la_code la_code_n) H) (hD : va_D A (wl_X4_value ad cs PL h_arI_a h_arK_a h_la h_la_code arI_a arI_a_n arK_a arK_a_n la_code la_code_n)) (hS : va_S A s.heap H locs) (hl : lv_has ls 7 [(0, .ref h_la), (1, .ref h_arI_a), (2, .ref h_arK_a), (3, .int x3)]) : W p l e rm_X4_value s m args below meth c H locs 0 0 (MQ below (Q_X4_value D cs ad PL h_arI_a h_arK_a h_la h_la_code arI_a arI_a_n arK_a_n la_code la_code_n A R) args s 0 0 A) (F0 m 134 ls [.int s0]) := by
  obtain ⟨hx, hb, hr, hml, hown, ht, hlocks⟩ := id C0
  refine lv_istore (lv' := [(4, .int s0), (0, .ref h_la), (1, .ref h_arI_a), (2, .ref h_arK_a), (3, .int x3)]) hx hb dX4_value_134 hl (by decide) rfl (fun ls hl => ?_)
  refine lv_goto (tgt := 214) hx hb dX4_value_136 (by decide) ?_
  exact L_X4_value_214 C0 hK hA hm_la hm_la_code  ih5 x3 s0 arK_a h H locs ls hP hD hS (lv_sub hl [1, 2, 3, 4, 0] rfl)
set_option maxHeartbeats 4000000 in
set_option maxRecDepth 100000 in
theorem L_X4_value_79 {p : Program} {l : Launch} {e : Env} {s : State} {m : MethodId} {args : Array Value} {below : List Frame} {meth : Method} {c : Code} {A : Nat → Prop} {D : va_G} {cs : Nat → ClassId} {ad : Nat → Nat} {PL : va_W} {h_arI_a : Nat} {h_arK_a : Nat} {h_la : Nat} {h_la_code : Nat} {arI_a : Nat → Int32} {arI_a_n : Nat} {arK_a_n : Nat} {la_code : Nat → Int32} {la_code_n : Nat} {jm_la : Nat} {jm_la_code : Nat} {R : Int32 × (Nat → Int32)} {g5 : Int32 → Int32 → (Nat → Int32) → (Option (Int32 × (Nat → Int32)))} (C0 : zC p s m args meth c cX4_value 7 (some .int) RX4 zW) (hK : va_K D classes (zT cs) s) (hA : ∀ q : Nat, s.heap.size ≤ q → A q) (hm_la : PL[jm_la]? = some (h_la, .inr (4, [.ref h_la_code]))) (hm_la_code : PL[jm_la_code]? = some (h_la_code, .inl (cs 0, la_code_n, .inl la_code))) (ih5 : ∀ (x3 : Int32) (x4 : Int32) (arK_a : Nat → Int32) (h : g5 x3 x4 arK_a = some R) (H : Heap) (locs : List Loc) (ls : Array Slot) (hP : va_P D classes (wl_X4_value ad cs PL h_arI_a h_arK_a h_la h_la_code arI_a arI_a_n arK_a arK_a_n la_code la_code_n) H) (hD : va_D A (wl_X4_value ad cs PL h_arI_a h_arK_a h_la h_la_code arI_a arI_a_n arK_a arK_a_n la_code la_code_n)) (hS : va_S A s.heap H locs) (hl : lv_has ls 7 [(0, .ref h_la), (1, .ref h_arI_a), (2, .ref h_arK_a), (3, .int x3), (4, .int x4)]), W p l e rm_X4_value s m args below meth c H locs 0 0 (MQ below (Q_X4_value D cs ad PL h_arI_a h_arK_a h_la h_la_code arI_a arI_a_n arK_a_n la_code la_code_n A R) args s 0 0 A) (F0 m 5 ls [])) (x3 : Int32) (x4 : Int32) (s0 : Int32) (s1 : Int32) (arK_a : Nat → Int32) (h : B_X4_value_79 g5 arI_a arI_a_n arK_a_n la_code la_code_n x3 x4 s0 s1 arK_a = some R) (H : Heap) (locs : List Loc) (ls : Array Slot) (hP : va_P D classes (wl_X4_value ad cs PL h_arI_a h_arK_a h_la h_la_code arI_a arI_a_n arK_a arK_a_n la_code la_code_n) H) (hD : va_D A (wl_X4_value ad cs PL h_arI_a h_arK_a h_la h_la_code arI_a arI_a_n arK_a arK_a_n la_code la_code_n)) (hS : va_S A s.heap H locs) (hl : lv_has ls 7 [(0, .ref h_la), (1, .ref h_arI_a), (2, .ref h_arK_a), (3, .int x3), (4, .int x4)]) : W p l e rm_X4_value s m args below meth c H locs 0 0 (MQ below (Q_X4_value D cs ad PL h_arI_a h_arK_a h_la h_la_code arI_a arI_a_n arK_a_n la_code la_code_n A R) args s 0 0 A) (F0 m 79 ls [.int s0, .int s1, .ref h_arK_a]) := by
  obtain ⟨hx, hb, hr, hml, hown, ht, hlocks⟩ := id C0
  obtain ⟨g_35, h⟩ := zk_gd h
  obtain ⟨f_36, ef_36, h⟩ := zk_lt h
  refine va_iast hx hb hK hP hD hS 1 0 rfl rfl g_35 dX4_value_79 (fun H locs hP hD hS => ?_)
  have hP : va_P D classes (wl_X4_value ad cs PL h_arI_a h_arK_a h_la h_la_code arI_a arI_a_n f_36 arK_a_n la_code la_code_n) H := by rw [ef_36]; exact hP
  have hD : va_D A (wl_X4_value ad cs PL h_arI_a h_arK_a h_la h_la_code arI_a arI_a_n f_36 arK_a_n la_code la_code_n) := by rw [ef_36]; exact hD
  obtain ⟨v_37, ev_37, h⟩ := zk_lt h
  refine lv_iinc (v := v_37) (lv' := [(3, .int v_37), (0, .ref h_la), (1, .ref h_arI_a), (2, .ref h_arK_a), (4, .int x4)]) hx hb dX4_value_80 hl (k := 3) rfl (by rw [ev_37]; rfl) (by decide) rfl (fun ls hl => ?_)
  refine lv_goto (tgt := 214) hx hb dX4_value_83 (by decide) ?_
  exact L_X4_value_214 C0 hK hA hm_la hm_la_code  ih5 v_37 x4 f_36 h H locs ls hP hD hS (lv_sub hl [1, 2, 3, 0, 4] rfl)
set_option maxHeartbeats 4000000 in
set_option maxRecDepth 100000 in
theorem L_X4_value_5 {p : Program} {l : Launch} {e : Env} {s : State} {m : MethodId} {args : Array Value} {below : List Frame} {meth : Method} {c : Code} {A : Nat → Prop} {D : va_G} {cs : Nat → ClassId} {ad : Nat → Nat} {PL : va_W} {h_arI_a : Nat} {h_arK_a : Nat} {h_la : Nat} {h_la_code : Nat} {arI_a : Nat → Int32} {arI_a_n : Nat} {arK_a_n : Nat} {la_code : Nat → Int32} {la_code_n : Nat} {jm_la : Nat} {jm_la_code : Nat} {R : Int32 × (Nat → Int32)} {g5 : Int32 → Int32 → (Nat → Int32) → (Option (Int32 × (Nat → Int32)))} (C0 : zC p s m args meth c cX4_value 7 (some .int) RX4 zW) (hK : va_K D classes (zT cs) s) (hA : ∀ q : Nat, s.heap.size ≤ q → A q) (hm_la : PL[jm_la]? = some (h_la, .inr (4, [.ref h_la_code]))) (hm_la_code : PL[jm_la_code]? = some (h_la_code, .inl (cs 0, la_code_n, .inl la_code))) (ih5 : ∀ (x3 : Int32) (x4 : Int32) (arK_a : Nat → Int32) (h : g5 x3 x4 arK_a = some R) (H : Heap) (locs : List Loc) (ls : Array Slot) (hP : va_P D classes (wl_X4_value ad cs PL h_arI_a h_arK_a h_la h_la_code arI_a arI_a_n arK_a arK_a_n la_code la_code_n) H) (hD : va_D A (wl_X4_value ad cs PL h_arI_a h_arK_a h_la h_la_code arI_a arI_a_n arK_a arK_a_n la_code la_code_n)) (hS : va_S A s.heap H locs) (hl : lv_has ls 7 [(0, .ref h_la), (1, .ref h_arI_a), (2, .ref h_arK_a), (3, .int x3), (4, .int x4)]), W p l e rm_X4_value s m args below meth c H locs 0 0 (MQ below (Q_X4_value D cs ad PL h_arI_a h_arK_a h_la h_la_code arI_a arI_a_n arK_a_n la_code la_code_n A R) args s 0 0 A) (F0 m 5 ls [])) (x3 : Int32) (x4 : Int32) (arK_a : Nat → Int32) (h : B_X4_value_5 g5 arI_a arI_a_n arK_a_n la_code la_code_n x3 x4 arK_a = some R) (H : Heap) (locs : List Loc) (ls : Array Slot) (hP : va_P D classes (wl_X4_value ad cs PL h_arI_a h_arK_a h_la h_la_code arI_a arI_a_n arK_a arK_a_n la_code la_code_n) H) (hD : va_D A (wl_X4_value ad cs PL h_arI_a h_arK_a h_la h_la_code arI_a arI_a_n arK_a arK_a_n la_code la_code_n)) (hS : va_S A s.heap H locs) (hl : lv_has ls 7 [(0, .ref h_la), (1, .ref h_arI_a), (2, .ref h_arK_a), (3, .int x3), (4, .int x4)]) : W p l e rm_X4_value s m args below meth c H locs 0 0 (MQ below (Q_X4_value D cs ad PL h_arI_a h_arK_a h_la h_la_code arI_a arI_a_n arK_a_n la_code la_code_n A R) args s 0 0 A) (F0 m 5 ls []) := by
  obtain ⟨hx, hb, hr, hml, hown, ht, hlocks⟩ := id C0
  refine lv_iload hx hb dX4_value_5 (lv_at hl 4 rfl) ?_
  refine lv_aload_n hx hb dX4_value_7 rfl (lv_at hl 0 rfl) ?_
  refine va_get (D := D) (ci := 4) (v := .ref h_la_code) (C := RX4) (T := TX4) (N := 1) hx hb ht iX4 hown hK hP _ (zPm hm_la rfl) rfl 0 (by decide) (ht _ kw_670) (fun _ h9 => h9) rfl dX4_value_8 ?_
  refine va_alen (v := Int32.ofNat la_code_n) hx hb hK hP _ 0 (zPm hm_la_code rfl) rfl rfl dX4_value_11 ?_
  refine lv_icmp_ge (tgt := 220) hx hb dX4_value_12 (by decide) (fun c_1 => ?_) (fun c_1 => ?_)
  · have h := zk_t c_1 h
    refine lv_iconst (v := (0 : Int32)) hx hb dX4_value_220 (by decide) ?_
    exact W.iret (v := (0 : Int32)) hx hb hr (fun t ht2 hW => ⟨⟨(0 : Int32), arK_a, rfl, Option.some.inj h, by rw [ht2]; exact hP, hD⟩, hS.F ht2⟩) hS.2.2 dX4_value_221 hlocks
  · have h := zk_f c_1 h
    refine lv_aload_n hx hb dX4_value_15 rfl (lv_at hl 0 rfl) ?_
    refine va_get (D := D) (ci := 4) (v := .ref h_la_code) (C := RX4) (T := TX4) (N := 1) hx hb ht iX4 hown hK hP _ (zPm hm_la rfl) rfl 0 (by decide) (ht _ kw_670) (fun _ h9 => h9) rfl dX4_value_16 ?_
    refine lv_iload hx hb dX4_value_19 (lv_at hl 4 rfl) ?_
    obtain ⟨g_2, h⟩ := zk_gd h
    refine va_iald hx hb hK hP _ 0 (zPm hm_la_code rfl) rfl g_2 dX4_value_21 ?_
    refine lv_bipush (v := (31 : Int32)) hx hb dX4_value_22 (by decide) ?_
    refine lv_iand hx hb dX4_value_24 ?_
    obtain ⟨v_3, ev_3, h⟩ := zk_lt h
    refine W.eq (g2 := F0 m 25 ls [.int v_3]) (by rw [ev_3]) ?_
    refine lv_istore (lv' := [(5, .int v_3), (0, .ref h_la), (1, .ref h_arI_a), (2, .ref h_arK_a), (3, .int x3), (4, .int x4)]) hx hb dX4_value_25 hl (by decide) rfl (fun ls hl => ?_)
    refine lv_aload_n hx hb dX4_value_27 rfl (lv_at hl 1 rfl) ?_
    refine va_get (D := D) (ci := 4) (v := .ref h_la_code) (C := RX4) (T := TX4) (N := 1) hx hb ht iX4 hown hK hP _ (zPm hm_la rfl) rfl 0 (by decide) (ht _ kw_670) (fun _ h9 => h9) rfl dX4_value_28 ?_
    refine lv_iload hx hb dX4_value_31 (lv_at hl 5 rfl) ?_
    obtain ⟨g_4, h⟩ := zk_gd h
    refine va_iald hx hb hK hP _ 0 (zPm hm_la_code rfl) rfl g_4 dX4_value_33 ?_
    refine lv_iconst (v := (5 : Int32)) hx hb dX4_value_34 (by decide) ?_
    refine lv_ishr hx hb dX4_value_35 ?_
    obtain ⟨v_5, ev_5, h⟩ := zk_lt h
    refine W.eq (g2 := F0 m 36 ls [.int v_5]) (by rw [ev_5]) ?_
    refine lv_istore (lv' := [(6, .int v_5), (5, .int v_3), (0, .ref h_la), (1, .ref h_arI_a), (2, .ref h_arK_a), (3, .int x3), (4, .int x4)]) hx hb dX4_value_36 hl (by decide) rfl (fun ls hl => ?_)
    refine lv_iload hx hb dX4_value_38 (lv_at hl 1 rfl) ?_
    refine lv_iconst (v := (1 : Int32)) hx hb dX4_value_40 (by decide) ?_
    refine lv_icmp_gt (tgt := 86) hx hb dX4_value_41 (by decide) (fun c_6 => ?_) (fun c_6 => ?_)
    · have h := zk_t c_6 h
      refine lv_iload_n hx hb dX4_value_86 rfl (lv_at hl 5 rfl) ?_
      refine lv_iconst (v := (1 : Int32)) hx hb dX4_value_87 (by decide) ?_
      refine lv_icmp_ge (tgt := 93) hx hb dX4_value_88 (by decide) (fun c_7 => ?_) (fun c_7 => ?_)
      · have h := zk_t c_7 h
        refine lv_iload hx hb dX4_value_93 (lv_at hl 1 rfl) ?_
        refine lv_iconst (v := (2 : Int32)) hx hb dX4_value_95 (by decide) ?_
        refine lv_icmp_ne (tgt := 105) hx hb dX4_value_96 (by decide) (fun c_8 => ?_) (fun c_8 => ?_)
        · have h := zk_f c_8 h
          refine lv_iload hx hb dX4_value_105 (lv_at hl 1 rfl) ?_
          refine lv_iconst (v := (3 : Int32)) hx hb dX4_value_107 (by decide) ?_
          refine lv_icmp_ne (tgt := 139) hx hb dX4_value_108 (by decide) (fun c_9 => ?_) (fun c_9 => ?_)
          · have h := zk_f c_9 h
            refine lv_iload hx hb dX4_value_139 (lv_at hl 1 rfl) ?_
            refine lv_iconst (v := (4 : Int32)) hx hb dX4_value_141 (by decide) ?_
            refine lv_icmp_ne (tgt := 166) hx hb dX4_value_142 (by decide) (fun c_10 => ?_) (fun c_10 => ?_)
            · have h := zk_f c_10 h
              refine lv_iload hx hb dX4_value_166 (lv_at hl 1 rfl) ?_
              refine lv_iconst (v := (5 : Int32)) hx hb dX4_value_168 (by decide) ?_
              refine lv_icmp_ne (tgt := 186) hx hb dX4_value_169 (by decide) (fun c_11 => ?_) (fun c_11 => ?_)
              · have h := zk_f c_11 h
                refine lv_iload_n hx hb dX4_value_186 rfl (lv_at hl 5 rfl) ?_
                refine lv_iconst (v := (2 : Int32)) hx hb dX4_value_187 (by decide) ?_
                refine lv_icmp_ge (tgt := 193) hx hb dX4_value_188 (by decide) (fun c_12 => ?_) (fun c_12 => ?_)
                · have h := zk_t c_12 h
                  obtain ⟨v_13, ev_13, h⟩ := zk_lt h
                  refine lv_iinc (v := v_13) (lv' := [(3, .int v_13), (6, .int v_5), (5, .int v_3), (0, .ref h_la), (1, .ref h_arI_a), (2, .ref h_arK_a), (4, .int x4)]) hx hb dX4_value_193 hl (k := 5) rfl (by rw [ev_13]; rfl) (by decide) rfl (fun ls hl => ?_)
                  refine lv_aload_n hx hb dX4_value_196 rfl (lv_at hl 5 rfl) ?_
                  refine lv_iload_n hx hb dX4_value_197 rfl (lv_at hl 0 rfl) ?_
                  refine lv_iconst (v := (1 : Int32)) hx hb dX4_value_198 (by decide) ?_
                  refine lv_isub hx hb dX4_value_199 ?_
                  refine lv_iload hx hb dX4_value_200 (lv_at hl 2 rfl) ?_
                  refine lv_aload_n hx hb dX4_value_202 rfl (lv_at hl 5 rfl) ?_
                  refine lv_iload_n hx hb dX4_value_203 rfl (lv_at hl 0 rfl) ?_
                  refine lv_iconst (v := (1 : Int32)) hx hb dX4_value_204 (by decide) ?_
                  refine lv_isub hx hb dX4_value_205 ?_
                  obtain ⟨g_14, h⟩ := zk_gd h
                  refine va_iald hx hb hK hP 1 0 rfl rfl g_14 dX4_value_206 ?_
                  refine lv_aload_n hx hb dX4_value_207 rfl (lv_at hl 5 rfl) ?_
                  refine lv_iload_n hx hb dX4_value_208 rfl (lv_at hl 0 rfl) ?_
                  obtain ⟨g_15, h⟩ := zk_gd h
                  refine va_iald hx hb hK hP 1 0 rfl rfl g_15 dX4_value_209 ?_
                  obtain ⟨r_16, u_17, hc_18, h⟩ := zk_o2 h
                  refine zz_siQ (post := (fun r u => (r, u) = (r_16, u_17))) (w1 := fun u => (wl_X4_join ad cs )) (As := [.int v_3, .int (arK_a (v_13 - (1 : Int32)).toNatClampNeg), .int (arK_a v_13.toNatClampNeg)]) (rest := [.int (v_13 - (1 : Int32)), .ref h_arK_a]) (c_X4_join l D cs ad  H.size v_3 (arK_a (v_13 - (1 : Int32)).toNatClampNeg) (arK_a v_13.toNatClampNeg) (r_16, u_17) hc_18) ⟨hx, hb, hml, hown, ht⟩ (va_cwS 3 ht g_X4_19 rfl rfl rfl hd_X4_join ⟨Nat.le_of_ble_eq_true rfl, Nat.le_of_ble_eq_true rfl⟩) hP hD hS hK hA [] rfl rfl [] rfl (fun _ => rfl) rfl hl.1 (Nat.le_of_ble_eq_true rfl) dX4_value_210 ⟨Nat.zero_le _, Nat.zero_le _⟩ (fun r u H locs hq hP hS => ?_)
                  cases hq
                  have hP : va_P D classes (wl_X4_value ad cs PL h_arI_a h_arK_a h_la h_la_code arI_a arI_a_n arK_a arK_a_n la_code la_code_n) H := hP
                  obtain ⟨g_19, h⟩ := zk_gd h
                  obtain ⟨f_20, ef_20, h⟩ := zk_lt h
                  refine va_iast hx hb hK hP hD hS 1 0 rfl rfl g_19 dX4_value_213 (fun H locs hP hD hS => ?_)
                  have hP : va_P D classes (wl_X4_value ad cs PL h_arI_a h_arK_a h_la h_la_code arI_a arI_a_n f_20 arK_a_n la_code la_code_n) H := by rw [ef_20]; exact hP
                  have hD : va_D A (wl_X4_value ad cs PL h_arI_a h_arK_a h_la h_la_code arI_a arI_a_n f_20 arK_a_n la_code la_code_n) := by rw [ef_20]; exact hD
                  exact L_X4_value_214 C0 hK hA hm_la hm_la_code  ih5 v_13 x4 f_20 h H locs ls hP hD hS (lv_sub hl [3, 4, 5, 0, 6] rfl)
                · have h := zk_f c_12 h
                  refine lv_iconst (v := (0 : Int32)) hx hb dX4_value_191 (by decide) ?_
                  exact W.iret (v := (0 : Int32)) hx hb hr (fun t ht2 hW => ⟨⟨(0 : Int32), arK_a, rfl, Option.some.inj h, by rw [ht2]; exact hP, hD⟩, hS.F ht2⟩) hS.2.2 dX4_value_192 hlocks
              · have h := zk_t c_11 h
                refine lv_aload_n hx hb dX4_value_172 rfl (lv_at hl 4 rfl) ?_
                refine lv_iload_n hx hb dX4_value_173 rfl (lv_at hl 5 rfl) ?_
                refine lv_iconst (v := (1 : Int32)) hx hb dX4_value_174 (by decide) ?_
                refine lv_isub hx hb dX4_value_175 ?_
                refine lv_aload_n hx hb dX4_value_176 rfl (lv_at hl 4 rfl) ?_
                refine lv_iload_n hx hb dX4_value_177 rfl (lv_at hl 5 rfl) ?_
                refine lv_iconst (v := (1 : Int32)) hx hb dX4_value_178 (by decide) ?_
                refine lv_isub hx hb dX4_value_179 ?_
                obtain ⟨g_21, h⟩ := zk_gd h
                refine va_iald hx hb hK hP 1 0 rfl rfl g_21 dX4_value_180 ?_
                refine lv_ineg hx hb dX4_value_181 ?_
                obtain ⟨v_22, ev_22, h⟩ := zk_lt h
                refine W.eq (g2 := F0 m 182 ls [.int v_22, .int (x3 - (1 : Int32)), .ref h_arK_a]) (by rw [ev_22]) ?_
                obtain ⟨g_23, h⟩ := zk_gd h
                obtain ⟨f_24, ef_24, h⟩ := zk_lt h
                refine va_iast hx hb hK hP hD hS 1 0 rfl rfl g_23 dX4_value_182 (fun H locs hP hD hS => ?_)
                have hP : va_P D classes (wl_X4_value ad cs PL h_arI_a h_arK_a h_la h_la_code arI_a arI_a_n f_24 arK_a_n la_code la_code_n) H := by rw [ef_24]; exact hP
                have hD : va_D A (wl_X4_value ad cs PL h_arI_a h_arK_a h_la h_la_code arI_a arI_a_n f_24 arK_a_n la_code la_code_n) := by rw [ef_24]; exact hD
                refine lv_goto (tgt := 214) hx hb dX4_value_183 (by decide) ?_
                exact L_X4_value_214 C0 hK hA hm_la hm_la_code  ih5 x3 x4 f_24 h H locs ls hP hD hS (lv_sub hl [2, 3, 4, 5, 6] rfl)
            · have h := zk_t c_10 h
              refine lv_aload_n hx hb dX4_value_145 rfl (lv_at hl 4 rfl) ?_
              refine lv_iload_n hx hb dX4_value_146 rfl (lv_at hl 5 rfl) ?_
              refine lv_iconst (v := (1 : Int32)) hx hb dX4_value_147 (by decide) ?_
              refine lv_isub hx hb dX4_value_148 ?_
              refine lv_aload_n hx hb dX4_value_149 rfl (lv_at hl 4 rfl) ?_
              refine lv_iload_n hx hb dX4_value_150 rfl (lv_at hl 5 rfl) ?_
              refine lv_iconst (v := (1 : Int32)) hx hb dX4_value_151 (by decide) ?_
              refine lv_isub hx hb dX4_value_152 ?_
              obtain ⟨g_25, h⟩ := zk_gd h
              refine va_iald hx hb hK hP 1 0 rfl rfl g_25 dX4_value_153 ?_
              refine lv_if_ne (tgt := 161) hx hb dX4_value_154 (by decide) (fun c_26 => ?_) (fun c_26 => ?_)
              · have h := zk_f c_26 h
                refine lv_iconst (v := (0 : Int32)) hx hb dX4_value_161 (by decide) ?_
                exact L_X4_value_162 C0 hK hA hm_la hm_la_code  ih5 x3 x4 (0 : Int32) (x3 - (1 : Int32)) arK_a h H locs ls hP hD hS (lv_sub hl [2, 3, 4, 5, 6] rfl)
              · have h := zk_t c_26 h
                refine lv_iconst (v := (1 : Int32)) hx hb dX4_value_157 (by decide) ?_
                refine lv_goto (tgt := 162) hx hb dX4_value_158 (by decide) ?_
                exact L_X4_value_162 C0 hK hA hm_la hm_la_code  ih5 x3 x4 (1 : Int32) (x3 - (1 : Int32)) arK_a h H locs ls hP hD hS (lv_sub hl [2, 3, 4, 5, 6] rfl)
          · have h := zk_t c_9 h
            obtain ⟨v_27, ev_27, h⟩ := zk_lt h
            refine lv_iinc (v := v_27) (lv' := [(3, .int v_27), (6, .int v_5), (5, .int v_3), (0, .ref h_la), (1, .ref h_arI_a), (2, .ref h_arK_a), (4, .int x4)]) hx hb dX4_value_111 hl (k := 5) rfl (by rw [ev_27]; rfl) (by decide) rfl (fun ls hl => ?_)
            refine lv_aload_n hx hb dX4_value_114 rfl (lv_at hl 5 rfl) ?_
            refine lv_iload_n hx hb dX4_value_115 rfl (lv_at hl 0 rfl) ?_
            obtain ⟨g_28, h⟩ := zk_gd h
            refine va_iald hx hb hK hP 1 0 rfl rfl g_28 dX4_value_116 ?_
            refine lv_if_ne (tgt := 132) hx hb dX4_value_117 (by decide) (fun c_29 => ?_) (fun c_29 => ?_)
            · have h := zk_f c_29 h
              refine lv_iload hx hb dX4_value_132 (lv_at hl 6 rfl) ?_
              exact L_X4_value_134 C0 hK hA hm_la hm_la_code  ih5 v_27 x4 arK_a h H locs ls hP hD hS (lv_sub hl [3, 4, 5, 0] rfl)
            · have h := zk_t c_29 h
              refine lv_iload hx hb dX4_value_120 (lv_at hl 6 rfl) ?_
              refine lv_iload hx hb dX4_value_122 (lv_at hl 1 rfl) ?_
              refine lv_iconst (v := (1 : Int32)) hx hb dX4_value_124 (by decide) ?_
              refine lv_isub hx hb dX4_value_125 ?_
              refine va_mmax hx hb (by rw [hml]; exact hl.1.symm) hown (ht _ kw_833) (ht _ kw_603) (ht _ kw_89) (ht _ kw_604) (Nat.le_of_ble_eq_true rfl) (Nat.le_of_ble_eq_true rfl) (Nat.le_of_ble_eq_true rfl) (Nat.le_of_ble_eq_true rfl) dX4_value_126 ?_
              refine lv_goto (tgt := 134) hx hb dX4_value_129 (by decide) ?_
              exact L_X4_value_134 C0 hK hA hm_la hm_la_code  ih5 v_27 (if x4 < (v_5 - (1 : Int32)) then (v_5 - (1 : Int32)) else x4) arK_a h H locs ls hP hD hS (lv_sub hl [3, 4, 5, 0] rfl)
        · have h := zk_t c_8 h
          refine lv_aload_n hx hb dX4_value_99 rfl (lv_at hl 4 rfl) ?_
          refine lv_iload_n hx hb dX4_value_100 rfl (lv_at hl 5 rfl) ?_
          refine lv_iconst (v := (1 : Int32)) hx hb dX4_value_101 (by decide) ?_
          refine lv_isub hx hb dX4_value_102 ?_
          obtain ⟨g_30, h⟩ := zk_gd h
          refine va_iald hx hb hK hP 1 0 rfl rfl g_30 dX4_value_103 ?_
          exact W.iret (v := arK_a (x3 - (1 : Int32)).toNatClampNeg) hx hb hr (fun t ht2 hW => ⟨⟨arK_a (x3 - (1 : Int32)).toNatClampNeg, arK_a, rfl, Option.some.inj h, by rw [ht2]; exact hP, hD⟩, hS.F ht2⟩) hS.2.2 dX4_value_104 hlocks
      · have h := zk_f c_7 h
        refine lv_iconst (v := (0 : Int32)) hx hb dX4_value_91 (by decide) ?_
        exact W.iret (v := (0 : Int32)) hx hb hr (fun t ht2 hW => ⟨⟨(0 : Int32), arK_a, rfl, Option.some.inj h, by rw [ht2]; exact hP, hD⟩, hS.F ht2⟩) hS.2.2 dX4_value_92 hlocks
    · have h := zk_f c_6 h
      refine lv_iload_n hx hb dX4_value_44 rfl (lv_at hl 5 rfl) ?_
      refine lv_aload_n hx hb dX4_value_45 rfl (lv_at hl 4 rfl) ?_
      refine va_alen (v := Int32.ofNat arK_a_n) hx hb hK hP 1 0 rfl rfl rfl dX4_value_46 ?_
      refine lv_icmp_lt (tgt := 52) hx hb dX4_value_47 (by decide) (fun c_31 => ?_) (fun c_31 => ?_)
      · have h := zk_t c_31 h
        refine lv_aload_n hx hb dX4_value_52 rfl (lv_at hl 4 rfl) ?_
        refine lv_iload_n hx hb dX4_value_53 rfl (lv_at hl 5 rfl) ?_
        refine lv_iload hx hb dX4_value_54 (lv_at hl 1 rfl) ?_
        refine lv_if_ne (tgt := 64) hx hb dX4_value_56 (by decide) (fun c_32 => ?_) (fun c_32 => ?_)
        · have h := zk_f c_32 h
          refine lv_iload hx hb dX4_value_64 (lv_at hl 0 rfl) ?_
          refine lv_aload_n hx hb dX4_value_66 rfl (lv_at hl 3 rfl) ?_
          refine va_alen (v := Int32.ofNat arI_a_n) hx hb hK hP 0 0 rfl rfl rfl dX4_value_67 ?_
          refine lv_icmp_ge (tgt := 78) hx hb dX4_value_68 (by decide) (fun c_33 => ?_) (fun c_33 => ?_)
          · have h := zk_t c_33 h
            refine lv_iconst (v := (0 : Int32)) hx hb dX4_value_78 (by decide) ?_
            exact L_X4_value_79 C0 hK hA hm_la hm_la_code  ih5 x3 x4 (0 : Int32) x3 arK_a h H locs ls hP hD hS (lv_sub hl [2, 3, 4, 5, 6] rfl)
          · have h := zk_f c_33 h
            refine lv_aload_n hx hb dX4_value_71 rfl (lv_at hl 3 rfl) ?_
            refine lv_iload hx hb dX4_value_72 (lv_at hl 0 rfl) ?_
            obtain ⟨g_34, h⟩ := zk_gd h
            refine va_iald hx hb hK hP 0 0 rfl rfl g_34 dX4_value_74 ?_
            refine lv_goto (tgt := 79) hx hb dX4_value_75 (by decide) ?_
            exact L_X4_value_79 C0 hK hA hm_la hm_la_code  ih5 x3 x4 (arI_a v_5.toNatClampNeg) x3 arK_a h H locs ls hP hD hS (lv_sub hl [2, 3, 4, 5, 6] rfl)
        · have h := zk_t c_32 h
          refine lv_iload hx hb dX4_value_59 (lv_at hl 0 rfl) ?_
          refine lv_goto (tgt := 79) hx hb dX4_value_61 (by decide) ?_
          exact L_X4_value_79 C0 hK hA hm_la hm_la_code  ih5 x3 x4 v_5 x3 arK_a h H locs ls hP hD hS (lv_sub hl [2, 3, 4, 5, 6] rfl)
      · have h := zk_f c_31 h
        refine lv_iconst (v := (0 : Int32)) hx hb dX4_value_50 (by decide) ?_
        exact W.iret (v := (0 : Int32)) hx hb hr (fun t ht2 hW => ⟨⟨(0 : Int32), arK_a, rfl, Option.some.inj h, by rw [ht2]; exact hP, hD⟩, hS.F ht2⟩) hS.2.2 dX4_value_51 hlocks
set_option maxHeartbeats 4000000 in
set_option maxRecDepth 100000 in
theorem L_X4_value_0 {p : Program} {l : Launch} {e : Env} {s : State} {m : MethodId} {args : Array Value} {below : List Frame} {meth : Method} {c : Code} {A : Nat → Prop} {D : va_G} {cs : Nat → ClassId} {ad : Nat → Nat} {PL : va_W} {h_arI_a : Nat} {h_arK_a : Nat} {h_la : Nat} {h_la_code : Nat} {arI_a : Nat → Int32} {arI_a_n : Nat} {arK_a_n : Nat} {la_code : Nat → Int32} {la_code_n : Nat} {jm_la : Nat} {jm_la_code : Nat} {R : Int32 × (Nat → Int32)} {g5 : Int32 → Int32 → (Nat → Int32) → (Option (Int32 × (Nat → Int32)))} (C0 : zC p s m args meth c cX4_value 7 (some .int) RX4 zW) (hK : va_K D classes (zT cs) s) (hA : ∀ q : Nat, s.heap.size ≤ q → A q) (hm_la : PL[jm_la]? = some (h_la, .inr (4, [.ref h_la_code]))) (hm_la_code : PL[jm_la_code]? = some (h_la_code, .inl (cs 0, la_code_n, .inl la_code))) (ih5 : ∀ (x3 : Int32) (x4 : Int32) (arK_a : Nat → Int32) (h : g5 x3 x4 arK_a = some R) (H : Heap) (locs : List Loc) (ls : Array Slot) (hP : va_P D classes (wl_X4_value ad cs PL h_arI_a h_arK_a h_la h_la_code arI_a arI_a_n arK_a arK_a_n la_code la_code_n) H) (hD : va_D A (wl_X4_value ad cs PL h_arI_a h_arK_a h_la h_la_code arI_a arI_a_n arK_a arK_a_n la_code la_code_n)) (hS : va_S A s.heap H locs) (hl : lv_has ls 7 [(0, .ref h_la), (1, .ref h_arI_a), (2, .ref h_arK_a), (3, .int x3), (4, .int x4)]), W p l e rm_X4_value s m args below meth c H locs 0 0 (MQ below (Q_X4_value D cs ad PL h_arI_a h_arK_a h_la h_la_code arI_a arI_a_n arK_a_n la_code la_code_n A R) args s 0 0 A) (F0 m 5 ls [])) (arK_a : Nat → Int32) (h : B_X4_value_0 g5 arI_a arI_a_n arK_a_n la_code la_code_n arK_a = some R) (H : Heap) (locs : List Loc) (ls : Array Slot) (hP : va_P D classes (wl_X4_value ad cs PL h_arI_a h_arK_a h_la h_la_code arI_a arI_a_n arK_a arK_a_n la_code la_code_n) H) (hD : va_D A (wl_X4_value ad cs PL h_arI_a h_arK_a h_la h_la_code arI_a arI_a_n arK_a arK_a_n la_code la_code_n)) (hS : va_S A s.heap H locs) (hl : lv_has ls 7 [(0, .ref h_la), (1, .ref h_arI_a), (2, .ref h_arK_a)]) : W p l e rm_X4_value s m args below meth c H locs 0 0 (MQ below (Q_X4_value D cs ad PL h_arI_a h_arK_a h_la h_la_code arI_a arI_a_n arK_a_n la_code la_code_n A R) args s 0 0 A) (F0 m 0 ls []) := by
  obtain ⟨hx, hb, hr, hml, hown, ht, hlocks⟩ := id C0
  refine lv_iconst (v := (0 : Int32)) hx hb dX4_value_0 (by decide) ?_
  refine lv_istore_n (lv' := [(3, .int (0 : Int32)), (0, .ref h_la), (1, .ref h_arI_a), (2, .ref h_arK_a)]) hx hb dX4_value_1 rfl hl (by decide) rfl (fun ls hl => ?_)
  refine lv_iconst (v := (0 : Int32)) hx hb dX4_value_2 (by decide) ?_
  refine lv_istore (lv' := [(4, .int (0 : Int32)), (3, .int (0 : Int32)), (0, .ref h_la), (1, .ref h_arI_a), (2, .ref h_arK_a)]) hx hb dX4_value_3 hl (by decide) rfl (fun ls hl => ?_)
  exact ih5 (0 : Int32) (0 : Int32) arK_a h H locs ls hP hD hS (lv_sub hl [2, 3, 4, 1, 0] rfl)
theorem LG_X4_value {p : Program} {l : Launch} {e : Env} {s : State} {m : MethodId} {args : Array Value} {below : List Frame} {meth : Method} {c : Code} {A : Nat → Prop} {D : va_G} {cs : Nat → ClassId} {ad : Nat → Nat} {PL : va_W} {h_arI_a : Nat} {h_arK_a : Nat} {h_la : Nat} {h_la_code : Nat} {arI_a : Nat → Int32} {arI_a_n : Nat} {arK_a_n : Nat} {la_code : Nat → Int32} {la_code_n : Nat} {jm_la : Nat} {jm_la_code : Nat} {R : Int32 × (Nat → Int32)} (C0 : zC p s m args meth c cX4_value 7 (some .int) RX4 zW) (hK : va_K D classes (zT cs) s) (hA : ∀ q : Nat, s.heap.size ≤ q → A q) (hm_la : PL[jm_la]? = some (h_la, .inr (4, [.ref h_la_code]))) (hm_la_code : PL[jm_la_code]? = some (h_la_code, .inl (cs 0, la_code_n, .inl la_code))) : ∀ n : Nat, (∀ (x3 : Int32) (x4 : Int32) (arK_a : Nat → Int32) (h : (G_X4_value   arI_a arI_a_n arK_a_n la_code la_code_n n) x3 x4 arK_a = some R) (H : Heap) (locs : List Loc) (ls : Array Slot) (hP : va_P D classes (wl_X4_value ad cs PL h_arI_a h_arK_a h_la h_la_code arI_a arI_a_n arK_a arK_a_n la_code la_code_n) H) (hD : va_D A (wl_X4_value ad cs PL h_arI_a h_arK_a h_la h_la_code arI_a arI_a_n arK_a arK_a_n la_code la_code_n)) (hS : va_S A s.heap H locs) (hl : lv_has ls 7 [(0, .ref h_la), (1, .ref h_arI_a), (2, .ref h_arK_a), (3, .int x3), (4, .int x4)]), W p l e rm_X4_value s m args below meth c H locs 0 0 (MQ below (Q_X4_value D cs ad PL h_arI_a h_arK_a h_la h_la_code arI_a arI_a_n arK_a_n la_code la_code_n A R) args s 0 0 A) (F0 m 5 ls [])) := by
  intro n
  induction n with
  | zero =>
    refine ?_ <;> (intros; rename_i h _ _ _ _ _ _ _; cases h)
  | succ n ih =>
    exact L_X4_value_5 C0 hK hA hm_la hm_la_code  ih
set_option maxHeartbeats 4000000 in
set_option maxRecDepth 100000 in
theorem c_X4_value (l : Launch) (D : va_G) (cs : Nat → ClassId) (ad : Nat → Nat) (PL : va_W) (h_arI_a : Nat) (h_arK_a : Nat) (h_la : Nat) (h_la_code : Nat) (sz : Nat) (n : Nat)  (arI_a : Nat → Int32) (arI_a_n : Nat) (arK_a : Nat → Int32) (arK_a_n : Nat) (la_code : Nat → Int32) (la_code_n : Nat) {jm_la : Nat} {jm_la_code : Nat} (hm_la : PL[jm_la]? = some (h_la, .inr (4, [.ref h_la_code]))) (hm_la_code : PL[jm_la_code]? = some (h_la_code, .inl (cs 0, la_code_n, .inl la_code))) (R : Int32 × (Nat → Int32)) (h : f_X4_value   n  arI_a arI_a_n arK_a arK_a_n la_code la_code_n = some R) : Met l yX4_value (z_X4_value) rm_X4_value (va_Pc [.ref h_la, .ref h_arI_a, .ref h_arK_a] (zPre D cs (wl_X4_value ad cs PL h_arI_a h_arK_a h_la h_la_code arI_a arI_a_n arK_a arK_a_n la_code la_code_n) sz)) (Q_X4_value D cs ad PL h_arI_a h_arK_a h_la h_la_code arI_a arI_a_n arK_a_n la_code la_code_n (va_A (wl_X4_value ad cs PL h_arI_a h_arK_a h_la h_la_code arI_a arI_a_n arK_a arK_a_n la_code la_code_n) sz) R) 0 0 (va_A (wl_X4_value ad cs PL h_arI_a h_arK_a h_la h_la_code arI_a arI_a_n arK_a arK_a_n la_code la_code_n) sz) := by
  refine Met.ofW (cc := cX4_value) (maxL := 7) (ret := (some .int)) (by decide) rfl ?_
  intro p e s m args below meth c s₁ B hml hv
  obtain ⟨rfl, hsz, hP, hK, hD0⟩ := hv
  subst hsz
  have hD := hD0.self (sz := s.heap.size)
  have C0 : zC p s m _ meth c cX4_value 7 (some .int) RX4 zW := ⟨B.exec, B.bytes, B.returns, hml, findClass_of_methodNamed B.named, fun w hw => atoms_spec (ws := z_X4_value) B.pre w (List.mem_cons_of_mem _ hw), B.notSynchronized⟩
  have hA : ∀ q : Nat, s.heap.size ≤ q → va_A (wl_X4_value ad cs PL h_arI_a h_arK_a h_la h_la_code arI_a arI_a_n arK_a arK_a_n la_code la_code_n) s.heap.size q := fun q h => Or.inr h
  have hl := lv_entry ([.ref h_la, .ref h_arI_a, .ref h_arK_a]) (n := 7) (Nat.le_of_ble_eq_true rfl)
  rw [lg_entry_eq]
  generalize (lg_sl ([.ref h_la, .ref h_arI_a, .ref h_arK_a]) ++ List.replicate (7 - (lg_sl ([.ref h_la, .ref h_arI_a, .ref h_arK_a])).length) Slot.unset).toArray = ls at hl ⊢
  exact L_X4_value_0 C0 hK hA hm_la hm_la_code  ((LG_X4_value C0 hK hA hm_la hm_la_code  n))  arK_a h s.heap [] ls hP hD va_S.rf hl
theorem kw_195 : Cond.fieldLink RX3 20 "AlreadyJudged$Inquiry" "judgedShoes" "[J" ∈ zW := zwC (i := 121) zc_1 rfl rfl
theorem kw_196 : Cond.fieldLink RX3 24 "AlreadyJudged$Inquiry" "bindingShoes" "[J" ∈ zW := zwC (i := 122) zc_1 rfl rfl
theorem kw_201 : Cond.fieldLink RX3 40 "AlreadyJudged$Inquiry" "day" "I" ∈ zW := zwC (i := 127) zc_1 rfl rfl
theorem kw_202 : Cond.fieldLink RX3 44 "AlreadyJudged$Inquiry" "land" "I" ∈ zW := zwC (i := 128) zc_1 rfl rfl
theorem kw_204 : Cond.fieldLink RX3 47 "AlreadyJudged$Inquiry" "shoeLeftOut" "I" ∈ zW := zwC (i := 130) zc_1 rfl rfl
theorem kw_807 : Cond.methodLink RX3 50 yJ7_fill_d0a16 ∈ zW := zwC (i := 13) zc_4 rfl rfl
theorem zh_cX3_turnTo_0 : zck [42, 27, 181, 0, 40, 42, 28, 181, 0, 44, 42, 2, 181, 0, 47, 42, 180, 0, 20, 9, 184, 0] (zdu 0 cX3_turnTo.data.toList) = true := by decide +kernel
theorem dX3_turnTo_0 : decode cX3_turnTo 0 = .ok (.aload_n 0, 1) := zo_42 zh_cX3_turnTo_0 0 rfl
theorem dX3_turnTo_1 : decode cX3_turnTo 1 = .ok (.iload_n 1, 1) := zo_27 zh_cX3_turnTo_0 1 rfl
theorem dX3_turnTo_2 : decode cX3_turnTo 2 = .ok (.putfield 40, 3) := zo_181 zh_cX3_turnTo_0 2 rfl
theorem dX3_turnTo_5 : decode cX3_turnTo 5 = .ok (.aload_n 0, 1) := zo_42 zh_cX3_turnTo_0 5 rfl
theorem dX3_turnTo_6 : decode cX3_turnTo 6 = .ok (.iload_n 2, 1) := zo_28 zh_cX3_turnTo_0 6 rfl
theorem dX3_turnTo_7 : decode cX3_turnTo 7 = .ok (.putfield 44, 3) := zo_181 zh_cX3_turnTo_0 7 rfl
theorem dX3_turnTo_10 : decode cX3_turnTo 10 = .ok (.aload_n 0, 1) := zo_42 zh_cX3_turnTo_0 10 rfl
theorem dX3_turnTo_11 : decode cX3_turnTo 11 = .ok (.iconst (-1), 1) := zo_2 zh_cX3_turnTo_0 11 rfl
theorem dX3_turnTo_12 : decode cX3_turnTo 12 = .ok (.putfield 47, 3) := zo_181 zh_cX3_turnTo_0 12 rfl
theorem dX3_turnTo_15 : decode cX3_turnTo 15 = .ok (.aload_n 0, 1) := zo_42 zh_cX3_turnTo_0 15 rfl
theorem dX3_turnTo_16 : decode cX3_turnTo 16 = .ok (.getfield 20, 3) := zo_180 zh_cX3_turnTo_0 16 rfl
theorem dX3_turnTo_19 : decode cX3_turnTo 19 = .ok (.lconst 0, 1) := zo_9 zh_cX3_turnTo_0 19 rfl
theorem zh_cX3_turnTo_1 : zck [184, 0, 50, 42, 180, 0, 24, 9, 184, 0, 50, 177] (zdu 20 cX3_turnTo.data.toList) = true := by decide +kernel
theorem dX3_turnTo_20 : decode cX3_turnTo 20 = .ok (.invokestatic 50, 3) := zo_184 zh_cX3_turnTo_1 0 rfl
theorem dX3_turnTo_23 : decode cX3_turnTo 23 = .ok (.aload_n 0, 1) := zo_42 zh_cX3_turnTo_1 3 rfl
theorem dX3_turnTo_24 : decode cX3_turnTo 24 = .ok (.getfield 24, 3) := zo_180 zh_cX3_turnTo_1 4 rfl
theorem dX3_turnTo_27 : decode cX3_turnTo 27 = .ok (.lconst 0, 1) := zo_9 zh_cX3_turnTo_1 7 rfl
theorem dX3_turnTo_28 : decode cX3_turnTo 28 = .ok (.invokestatic 50, 3) := zo_184 zh_cX3_turnTo_1 8 rfl
theorem dX3_turnTo_31 : decode cX3_turnTo 31 = .ok (.return_, 1) := zo_177 zh_cX3_turnTo_1 11 rfl
abbrev z_X3_turnTo : List Cond := .code yX3_turnTo cX3_turnTo 3 none :: zW
abbrev wl_X3_turnTo (ad : Nat → Nat) (cs : Nat → ClassId)  (inq_day : Int32) (inq_land : Int32) (inq_shoeLeftOut : Int32) (inq_judgedShoes : Nat → Int64) (inq_bindingShoes : Nat → Int64) : va_W := [((ad 15), .inr (3, [.ref (ad 4), .ref (ad 16), .ref (ad 17), .ref (ad 18), .ref (ad 19), .ref (ad 20), .ref (ad 21), .ref (ad 22), .int inq_day, .int inq_land, .int inq_shoeLeftOut])), ((ad 18), .inl (cs 1, 7, .inr (.inl inq_judgedShoes))), ((ad 19), .inl (cs 1, 7, .inr (.inl inq_bindingShoes)))]
def Q_X3_turnTo (D : va_G) (cs : Nat → ClassId) (ad : Nat → Nat)   (A : Nat → Prop) (R : Int32 × Int32 × Int32 × (Nat → Int64) × (Nat → Int64)) : Array Value → State → Outcome → State → Prop :=
  va_Qv (fun u : Int32 × Int32 × Int32 × (Nat → Int64) × (Nat → Int64) => u = R) (fun (u : Int32 × Int32 × Int32 × (Nat → Int64) × (Nat → Int64)) (t : State) => va_P D classes (wl_X3_turnTo ad cs u.1 u.2.1 u.2.2.1 u.2.2.2.1 u.2.2.2.2) t.heap ∧ va_D A (wl_X3_turnTo ad cs u.1 u.2.1 u.2.2.1 u.2.2.2.1 u.2.2.2.2)) A
abbrev rm_X3_turnTo : Room := { frames := 1, cells := 0, slots := 0, locals := 24 }
theorem g_X3_50 : GoodIn zW (va_wsS RX3 50 yJ7_fill_d0a16 z_J7_fill_d0a16) := zGS kw_807 kw_808 kw_92 kw_809
def B_X3_turnTo_0     (x1 : Int32) (x2 : Int32) (inq_day : Int32) (inq_land : Int32) (inq_shoeLeftOut : Int32) (inq_judgedShoes : Nat → Int64) (inq_bindingShoes : Nat → Int64) : Option (Int32 × Int32 × Int32 × (Nat → Int64) × (Nat → Int64)) :=
  (zk_b1 (f_J7_fill_d0a16 100000 (0 : Int64) inq_judgedShoes 7) (fun u_1 => (zk_b1 (f_J7_fill_d0a16 100000 (0 : Int64) inq_bindingShoes 7) (fun u_3 => (some (x1, x2, (-1 : Int32), u_1, u_3))))))
def f_X3_turnTo   (x1 : Int32) (x2 : Int32) (inq_day : Int32) (inq_land : Int32) (inq_shoeLeftOut : Int32) (inq_judgedShoes : Nat → Int64) (inq_bindingShoes : Nat → Int64) : Option (Int32 × Int32 × Int32 × (Nat → Int64) × (Nat → Int64)) := B_X3_turnTo_0    x1 x2 inq_day inq_land inq_shoeLeftOut inq_judgedShoes inq_bindingShoes
set_option maxHeartbeats 4000000 in
set_option maxRecDepth 100000 in
theorem L_X3_turnTo_0 {p : Program} {l : Launch} {e : Env} {s : State} {m : MethodId} {args : Array Value} {below : List Frame} {meth : Method} {c : Code} {A : Nat → Prop} {D : va_G} {cs : Nat → ClassId} {ad : Nat → Nat} {R : Int32 × Int32 × Int32 × (Nat → Int64) × (Nat → Int64)} (C0 : zC p s m args meth c cX3_turnTo 3 none RX3 zW) (hK : va_K D classes (zT cs) s) (hA : ∀ q : Nat, s.heap.size ≤ q → A q) (x1 : Int32) (x2 : Int32) (inq_day : Int32) (inq_land : Int32) (inq_shoeLeftOut : Int32) (inq_judgedShoes : Nat → Int64) (inq_bindingShoes : Nat → Int64) (h : B_X3_turnTo_0 x1 x2 inq_day inq_land inq_shoeLeftOut inq_judgedShoes inq_bindingShoes = some R) (H : Heap) (locs : List Loc) (ls : Array Slot) (hP : va_P D classes (wl_X3_turnTo ad cs inq_day inq_land inq_shoeLeftOut inq_judgedShoes inq_bindingShoes) H) (hD : va_D A (wl_X3_turnTo ad cs inq_day inq_land inq_shoeLeftOut inq_judgedShoes inq_bindingShoes)) (hS : va_S A s.heap H locs) (hl : lv_has ls 3 [(0, .ref (ad 15)), (1, .int x1), (2, .int x2)]) : W p l e rm_X3_turnTo s m args below meth c H locs 0 0 (MQ below (Q_X3_turnTo D cs ad  A R) args s 0 0 A) (F0 m 0 ls []) := by
  obtain ⟨hx, hb, hr, hml, hown, ht, hlocks⟩ := id C0
  refine lv_aload_n hx hb dX3_turnTo_0 rfl (lv_at hl 0 rfl) ?_
  refine lv_iload_n hx hb dX3_turnTo_1 rfl (lv_at hl 1 rfl) ?_
  refine va_put (D := D) (ci := 3) (v := .int x1) (ty := .int) (C := RX3) (T := TX3) (N := 11) hx hb ht iX3 tyX3 tyX3_ok nmX3 hown hK hP hD hS 0 rfl rfl 8 (by decide) (ht _ kw_201) (fun _ h9 => h9) rfl (by decide +kernel) rfl rfl (Nat.le_of_ble_eq_true rfl) dX3_turnTo_2 (fun H locs hP hD hS => ?_)
  have hP : va_P D classes (wl_X3_turnTo ad cs x1 inq_land inq_shoeLeftOut inq_judgedShoes inq_bindingShoes) H := hP
  have hD : va_D A (wl_X3_turnTo ad cs x1 inq_land inq_shoeLeftOut inq_judgedShoes inq_bindingShoes) := hD
  refine lv_aload_n hx hb dX3_turnTo_5 rfl (lv_at hl 0 rfl) ?_
  refine lv_iload_n hx hb dX3_turnTo_6 rfl (lv_at hl 2 rfl) ?_
  refine va_put (D := D) (ci := 3) (v := .int x2) (ty := .int) (C := RX3) (T := TX3) (N := 11) hx hb ht iX3 tyX3 tyX3_ok nmX3 hown hK hP hD hS 0 rfl rfl 9 (by decide) (ht _ kw_202) (fun _ h9 => h9) rfl (by decide +kernel) rfl rfl (Nat.le_of_ble_eq_true rfl) dX3_turnTo_7 (fun H locs hP hD hS => ?_)
  have hP : va_P D classes (wl_X3_turnTo ad cs x1 x2 inq_shoeLeftOut inq_judgedShoes inq_bindingShoes) H := hP
  have hD : va_D A (wl_X3_turnTo ad cs x1 x2 inq_shoeLeftOut inq_judgedShoes inq_bindingShoes) := hD
  refine lv_aload_n hx hb dX3_turnTo_10 rfl (lv_at hl 0 rfl) ?_
  refine lv_iconst (v := (-1 : Int32)) hx hb dX3_turnTo_11 (by decide) ?_
  refine va_put (D := D) (ci := 3) (v := .int (-1 : Int32)) (ty := .int) (C := RX3) (T := TX3) (N := 11) hx hb ht iX3 tyX3 tyX3_ok nmX3 hown hK hP hD hS 0 rfl rfl 10 (by decide) (ht _ kw_204) (fun _ h9 => h9) rfl (by decide +kernel) rfl rfl (Nat.le_of_ble_eq_true rfl) dX3_turnTo_12 (fun H locs hP hD hS => ?_)
  have hP : va_P D classes (wl_X3_turnTo ad cs x1 x2 (-1 : Int32) inq_judgedShoes inq_bindingShoes) H := hP
  have hD : va_D A (wl_X3_turnTo ad cs x1 x2 (-1 : Int32) inq_judgedShoes inq_bindingShoes) := hD
  refine lv_aload_n hx hb dX3_turnTo_15 rfl (lv_at hl 0 rfl) ?_
  refine va_get (D := D) (ci := 3) (v := .ref (ad 18)) (C := RX3) (T := TX3) (N := 11) hx hb ht iX3 hown hK hP 0 rfl rfl 3 (by decide) (ht _ kw_195) (fun _ h9 => h9) rfl dX3_turnTo_16 ?_
  refine lv_lconst (v := (0 : Int64)) hx hb dX3_turnTo_19 (by decide) ?_
  obtain ⟨u_1, hc_2, h⟩ := zk_o1 h
  refine zz_sv (post := (fun u => u = u_1)) (w1 := fun u => (wl_J7_fill_d0a16 ad cs (ad 18) u 7)) (As := [.ref (ad 18), .long (0 : Int64)]) (rest := []) (c_J7_fill_d0a16 l D cs ad (ad 18) H.size 100000 (0 : Int64) inq_judgedShoes 7 u_1 hc_2) ⟨hx, hb, hml, hown, ht⟩ (va_cwS 2 ht g_X3_50 rfl rfl rfl hd_J7_fill_d0a16 ⟨Nat.le_of_ble_eq_true rfl, Nat.le_of_ble_eq_true rfl⟩) hP hD hS hK hA [1] rfl rfl [(ad 18)] rfl (fun _ => rfl) rfl hl.1 (Nat.le_of_ble_eq_true rfl) dX3_turnTo_20 ⟨Nat.zero_le _, Nat.zero_le _⟩ (fun u H locs hq hP hS => ?_)
  cases hq
  have hP : va_P D classes (wl_X3_turnTo ad cs x1 x2 (-1 : Int32) u_1 inq_bindingShoes) H := hP
  have hD : va_D A (wl_X3_turnTo ad cs x1 x2 (-1 : Int32) u_1 inq_bindingShoes) := zDk hD [(ad 15), (ad 18), (ad 19)] rfl rfl
  refine lv_aload_n hx hb dX3_turnTo_23 rfl (lv_at hl 0 rfl) ?_
  refine va_get (D := D) (ci := 3) (v := .ref (ad 19)) (C := RX3) (T := TX3) (N := 11) hx hb ht iX3 hown hK hP 0 rfl rfl 4 (by decide) (ht _ kw_196) (fun _ h9 => h9) rfl dX3_turnTo_24 ?_
  refine lv_lconst (v := (0 : Int64)) hx hb dX3_turnTo_27 (by decide) ?_
  obtain ⟨u_3, hc_4, h⟩ := zk_o1 h
  refine zz_sv (post := (fun u => u = u_3)) (w1 := fun u => (wl_J7_fill_d0a16 ad cs (ad 19) u 7)) (As := [.ref (ad 19), .long (0 : Int64)]) (rest := []) (c_J7_fill_d0a16 l D cs ad (ad 19) H.size 100000 (0 : Int64) inq_bindingShoes 7 u_3 hc_4) ⟨hx, hb, hml, hown, ht⟩ (va_cwS 2 ht g_X3_50 rfl rfl rfl hd_J7_fill_d0a16 ⟨Nat.le_of_ble_eq_true rfl, Nat.le_of_ble_eq_true rfl⟩) hP hD hS hK hA [2] rfl rfl [(ad 19)] rfl (fun _ => rfl) rfl hl.1 (Nat.le_of_ble_eq_true rfl) dX3_turnTo_28 ⟨Nat.zero_le _, Nat.zero_le _⟩ (fun u H locs hq hP hS => ?_)
  cases hq
  have hP : va_P D classes (wl_X3_turnTo ad cs x1 x2 (-1 : Int32) u_1 u_3) H := hP
  have hD : va_D A (wl_X3_turnTo ad cs x1 x2 (-1 : Int32) u_1 u_3) := zDk hD [(ad 15), (ad 18), (ad 19)] rfl rfl
  exact W.vret hx hb hr (fun t ht2 hW => ⟨⟨(x1, x2, (-1 : Int32), u_1, u_3), rfl, Option.some.inj h, by rw [ht2]; exact hP, hD⟩, hS.F ht2⟩) hS.2.2 dX3_turnTo_31 hlocks
set_option maxHeartbeats 4000000 in
set_option maxRecDepth 100000 in
theorem c_X3_turnTo (l : Launch) (D : va_G) (cs : Nat → ClassId) (ad : Nat → Nat) (sz : Nat) (x1 : Int32) (x2 : Int32) (inq_day : Int32) (inq_land : Int32) (inq_shoeLeftOut : Int32) (inq_judgedShoes : Nat → Int64) (inq_bindingShoes : Nat → Int64) (R : Int32 × Int32 × Int32 × (Nat → Int64) × (Nat → Int64)) (h : f_X3_turnTo   x1 x2 inq_day inq_land inq_shoeLeftOut inq_judgedShoes inq_bindingShoes = some R) : Met l yX3_turnTo (z_X3_turnTo) rm_X3_turnTo (va_Pc [.ref (ad 15), .int x1, .int x2] (zPre D cs (wl_X3_turnTo ad cs inq_day inq_land inq_shoeLeftOut inq_judgedShoes inq_bindingShoes) sz)) (Q_X3_turnTo D cs ad  (va_A (wl_X3_turnTo ad cs inq_day inq_land inq_shoeLeftOut inq_judgedShoes inq_bindingShoes) sz) R) 0 0 (va_A (wl_X3_turnTo ad cs inq_day inq_land inq_shoeLeftOut inq_judgedShoes inq_bindingShoes) sz) := by
  refine Met.ofW (cc := cX3_turnTo) (maxL := 3) (ret := none) (by decide) rfl ?_
  intro p e s m args below meth c s₁ B hml hv
  obtain ⟨rfl, hsz, hP, hK, hD0⟩ := hv
  subst hsz
  have hD := hD0.self (sz := s.heap.size)
  have C0 : zC p s m _ meth c cX3_turnTo 3 none RX3 zW := ⟨B.exec, B.bytes, B.returns, hml, findClass_of_methodNamed B.named, fun w hw => atoms_spec (ws := z_X3_turnTo) B.pre w (List.mem_cons_of_mem _ hw), B.notSynchronized⟩
  have hA : ∀ q : Nat, s.heap.size ≤ q → va_A (wl_X3_turnTo ad cs inq_day inq_land inq_shoeLeftOut inq_judgedShoes inq_bindingShoes) s.heap.size q := fun q h => Or.inr h
  have hl := lv_entry ([.ref (ad 15), .int x1, .int x2]) (n := 3) (Nat.le_of_ble_eq_true rfl)
  rw [lg_entry_eq]
  generalize (lg_sl ([.ref (ad 15), .int x1, .int x2]) ++ List.replicate (3 - (lg_sl ([.ref (ad 15), .int x1, .int x2])).length) Slot.unset).toArray = ls at hl ⊢
  exact L_X3_turnTo_0 C0 hK hA   x1 x2 inq_day inq_land inq_shoeLeftOut inq_judgedShoes inq_bindingShoes h s.heap [] ls hP hD va_S.rf hl
theorem kw_147 : Cond.fieldLink RX3 101 "AlreadyJudged$Court" "laws" "[LAlreadyJudged$Law;" ∈ zW := zwC (i := 73) zc_1 rfl rfl
theorem kw_191 : Cond.fieldLink RX3 36 "AlreadyJudged$Inquiry" "court" "LAlreadyJudged$Court;" ∈ zW := zwC (i := 117) zc_1 rfl rfl
theorem kw_193 : Cond.fieldLink RX3 9 "AlreadyJudged$Inquiry" "names" "[I" ∈ zW := zwC (i := 119) zc_1 rfl rfl
theorem kw_194 : Cond.fieldLink RX3 17 "AlreadyJudged$Inquiry" "stack" "[I" ∈ zW := zwC (i := 120) zc_1 rfl rfl
theorem kw_829 : Cond.methodLink RX3 105 yX4_value ∈ zW := zwC (i := 35) zc_4 rfl rfl
theorem kw_830 : Cond.instanceMethod yX4_value ∈ zW := zwC (i := 36) zc_4 rfl rfl
theorem kw_831 : Cond.selects RX4 yX4_value yX4_value ∈ zW := zwC (i := 37) zc_4 rfl rfl
theorem kw_832 : Cond.code yX4_value cX4_value 7 (some .int) ∈ zW := zwC (i := 38) zc_4 rfl rfl
theorem zh_cX3_lawGives_0 : zck [42, 180, 0, 36, 180, 0, 101, 27, 16, 8, 104, 42, 180, 0, 44, 96, 50, 77, 44, 199, 0, 7] (zdu 0 cX3_lawGives.data.toList) = true := by decide +kernel
theorem dX3_lawGives_0 : decode cX3_lawGives 0 = .ok (.aload_n 0, 1) := zo_42 zh_cX3_lawGives_0 0 rfl
theorem dX3_lawGives_1 : decode cX3_lawGives 1 = .ok (.getfield 36, 3) := zo_180 zh_cX3_lawGives_0 1 rfl
theorem dX3_lawGives_4 : decode cX3_lawGives 4 = .ok (.getfield 101, 3) := zo_180 zh_cX3_lawGives_0 4 rfl
theorem dX3_lawGives_7 : decode cX3_lawGives 7 = .ok (.iload_n 1, 1) := zo_27 zh_cX3_lawGives_0 7 rfl
theorem dX3_lawGives_8 : decode cX3_lawGives 8 = .ok (.bipush 8, 2) := zo_p16 zh_cX3_lawGives_0 8 8 rfl rfl
theorem dX3_lawGives_10 : decode cX3_lawGives 10 = .ok (.imul, 1) := zo_104 zh_cX3_lawGives_0 10 rfl
theorem dX3_lawGives_11 : decode cX3_lawGives 11 = .ok (.aload_n 0, 1) := zo_42 zh_cX3_lawGives_0 11 rfl
theorem dX3_lawGives_12 : decode cX3_lawGives 12 = .ok (.getfield 44, 3) := zo_180 zh_cX3_lawGives_0 12 rfl
theorem dX3_lawGives_15 : decode cX3_lawGives 15 = .ok (.iadd, 1) := zo_96 zh_cX3_lawGives_0 15 rfl
theorem dX3_lawGives_16 : decode cX3_lawGives 16 = .ok (.aaload, 1) := zo_50 zh_cX3_lawGives_0 16 rfl
theorem zo_77 {c : ByteArray} {s : Nat} {K : List Nat} (h : zck K (zdu s c.data.toList) = true) (k : Nat) (hk : zt1 K k 77 = true) : decode c (s + k) = .ok (.astore_n 2, 1) := zde ((zbd (zu1 (zh1 h hk))).trans rfl)
theorem dX3_lawGives_17 : decode cX3_lawGives 17 = .ok (.astore_n 2, 1) := zo_77 zh_cX3_lawGives_0 17 rfl
theorem dX3_lawGives_18 : decode cX3_lawGives 18 = .ok (.aload_n 2, 1) := zo_44 zh_cX3_lawGives_0 18 rfl
theorem zo_p199 {c : ByteArray} {s : Nat} {K : List Nat} (h : zck K (zdu s c.data.toList) = true) (k : Nat) (v : Nat) (hk : zt3 K k 199 v = true) (hv : Nat.ble v 32767 = true) : decode c (s + k) = .ok (.ifnonnull (Int.ofNat v), 3) := by
  rw [← zsg16 hv]
  exact zde ((zbd (zu1 (zh3 h hk).1)).trans ((zbd (f := fun x => pure (Instr.ifnonnull x)) (zdmp (zh3 h hk).2)).trans rfl))
theorem dX3_lawGives_19 : decode cX3_lawGives 19 = .ok (.ifnonnull 7, 3) := zo_p199 zh_cX3_lawGives_0 19 7 rfl rfl
theorem zh_cX3_lawGives_1 : zck [0, 7, 3, 167, 0, 15, 44, 42, 180, 0, 9, 42, 180, 0, 17, 182, 0, 105, 172] (zdu 20 cX3_lawGives.data.toList) = true := by decide +kernel
theorem dX3_lawGives_26 : decode cX3_lawGives 26 = .ok (.aload_n 2, 1) := zo_44 zh_cX3_lawGives_1 6 rfl
theorem dX3_lawGives_27 : decode cX3_lawGives 27 = .ok (.aload_n 0, 1) := zo_42 zh_cX3_lawGives_1 7 rfl
theorem dX3_lawGives_28 : decode cX3_lawGives 28 = .ok (.getfield 9, 3) := zo_180 zh_cX3_lawGives_1 8 rfl
theorem dX3_lawGives_31 : decode cX3_lawGives 31 = .ok (.aload_n 0, 1) := zo_42 zh_cX3_lawGives_1 11 rfl
theorem dX3_lawGives_32 : decode cX3_lawGives 32 = .ok (.getfield 17, 3) := zo_180 zh_cX3_lawGives_1 12 rfl
theorem dX3_lawGives_35 : decode cX3_lawGives 35 = .ok (.invokevirtual 105, 3) := zo_182 zh_cX3_lawGives_1 15 rfl
theorem dX3_lawGives_38 : decode cX3_lawGives 38 = .ok (.ireturn, 1) := zo_172 zh_cX3_lawGives_1 18 rfl
abbrev z_X3_lawGives : List Cond := .code yX3_lawGives cX3_lawGives 3 (some .int) :: zW
abbrev wx_X3_lawGives (ad : Nat → Nat) (cs : Nat → ClassId) (PL : va_W) (L_a : Nat → Nat) (L_b : Nat → Nat) (court_shoeCount : Int32) (court_claimCount : Int32) (court_suitCount : Int32) (court_laws : Nat → Option Nat) (inq_day : Int32) (inq_land : Int32) (inq_shoeLeftOut : Int32) (inq_names : Nat → Int32) (inq_stack : Nat → Int32) (L_n : Nat → Nat) (L_code : Nat → Nat → Int32) : va_W := [((ad 4), .inr (2, [.ref (ad 5), .ref (ad 6), .ref (ad 7), .ref (ad 8), .ref (ad 9), .ref (ad 10), .ref (ad 11), .ref (ad 12), .ref (ad 13), .ref (ad 14), .int court_shoeCount, .int court_claimCount, .int court_suitCount])), ((ad 14), .inl (cs 6, 32, .inr (.inr (.inr (.inr court_laws))))), ((ad 15), .inr (3, [.ref (ad 4), .ref (ad 16), .ref (ad 17), .ref (ad 18), .ref (ad 19), .ref (ad 20), .ref (ad 21), .ref (ad 22), .int inq_day, .int inq_land, .int inq_shoeLeftOut])), ((ad 16), .inl (cs 0, 11, .inl inq_names)), ((ad 17), .inl (cs 0, 36, .inl inq_stack))]
abbrev wl_X3_lawGives (ad : Nat → Nat) (cs : Nat → ClassId) (PL : va_W) (L_a : Nat → Nat) (L_b : Nat → Nat) (court_shoeCount : Int32) (court_claimCount : Int32) (court_suitCount : Int32) (court_laws : Nat → Option Nat) (inq_day : Int32) (inq_land : Int32) (inq_shoeLeftOut : Int32) (inq_names : Nat → Int32) (inq_stack : Nat → Int32) (L_n : Nat → Nat) (L_code : Nat → Nat → Int32) : va_W := wx_X3_lawGives ad cs PL L_a L_b court_shoeCount court_claimCount court_suitCount court_laws inq_day inq_land inq_shoeLeftOut inq_names inq_stack L_n L_code ++ PL
def Q_X3_lawGives (D : va_G) (cs : Nat → ClassId) (ad : Nat → Nat) (PL : va_W) (L_a : Nat → Nat) (L_b : Nat → Nat) (court_shoeCount : Int32) (court_claimCount : Int32) (court_suitCount : Int32) (court_laws : Nat → Option Nat) (inq_day : Int32) (inq_land : Int32) (inq_shoeLeftOut : Int32) (inq_names : Nat → Int32) (L_n : Nat → Nat) (L_code : Nat → Nat → Int32) (A : Nat → Prop) (R : Int32 × (Nat → Int32)) : Array Value → State → Outcome → State → Prop :=
  va_Qi (fun (r : Int32) (u : (Nat → Int32)) => (r, u) = R) (fun (u : (Nat → Int32)) (t : State) => va_P D classes (wl_X3_lawGives ad cs PL L_a L_b court_shoeCount court_claimCount court_suitCount court_laws inq_day inq_land inq_shoeLeftOut inq_names u L_n L_code) t.heap ∧ va_D A (wl_X3_lawGives ad cs PL L_a L_b court_shoeCount court_claimCount court_suitCount court_laws inq_day inq_land inq_shoeLeftOut inq_names u L_n L_code)) A
abbrev rm_X3_lawGives : Room := { frames := 2, cells := 0, slots := 0, locals := 48 }
theorem g_X3_105 : GoodIn zW (wsV RX3 105 RX4 yX4_value z_X4_value) := zGV kw_829 kw_830 kw_831 kw_91 kw_832
theorem hd_X4_value : yX4_value.cls ≠ "java/lang/invoke/MethodHandle" ∧ yX4_value.cls ≠ "java/lang/invoke/VarHandle" ∧ (parseMethodDescriptor yX4_value.desc).map (fun d => d.parameters.length) = some 2 := by decide +kernel
def B_X3_lawGives_0    (court_shoeCount : Int32) (court_claimCount : Int32) (court_suitCount : Int32) (court_laws : Nat → Option Nat) (inq_day : Int32) (inq_land : Int32) (inq_shoeLeftOut : Int32) (inq_names : Nat → Int32) (L_n : Nat → Nat) (L_code : Nat → Nat → Int32) (x1 : Int32) (inq_stack : Nat → Int32) : Option (Int32 × (Nat → Int32)) :=
  (if (((x1 * (8 : Int32)) + inq_land) < 0 ∨ 32 ≤ ((x1 * (8 : Int32)) + inq_land).toNatClampNeg) then none else (if (((x1 * (8 : Int32)) + inq_land) < 0 ∨ (32 : Int32) ≤ ((x1 * (8 : Int32)) + inq_land)) then none else (if (((x1 * (8 : Int32)) + inq_land) < 0 ∨ (32 : Int32) ≤ ((x1 * (8 : Int32)) + inq_land)) then none else (zk_b2 (f_X4_value 100000 inq_names 11 inq_stack 36 (L_code ((x1 * (8 : Int32)) + inq_land).toNatClampNeg) (L_n ((x1 * (8 : Int32)) + inq_land).toNatClampNeg)) (fun r_10 u_11 => (some (r_10, u_11)))))))
def f_X3_lawGives   (x1 : Int32) (court_shoeCount : Int32) (court_claimCount : Int32) (court_suitCount : Int32) (court_laws : Nat → Option Nat) (inq_day : Int32) (inq_land : Int32) (inq_shoeLeftOut : Int32) (inq_names : Nat → Int32) (inq_stack : Nat → Int32) (L_n : Nat → Nat) (L_code : Nat → Nat → Int32) : Option (Int32 × (Nat → Int32)) := B_X3_lawGives_0   court_shoeCount court_claimCount court_suitCount court_laws inq_day inq_land inq_shoeLeftOut inq_names L_n L_code x1 inq_stack
set_option maxHeartbeats 4000000 in
set_option maxRecDepth 100000 in
theorem L_X3_lawGives_0 {p : Program} {l : Launch} {e : Env} {s : State} {m : MethodId} {args : Array Value} {below : List Frame} {meth : Method} {c : Code} {A : Nat → Prop} {D : va_G} {cs : Nat → ClassId} {ad : Nat → Nat} {PL : va_W} {L_a : Nat → Nat} {L_b : Nat → Nat} {court_shoeCount : Int32} {court_claimCount : Int32} {court_suitCount : Int32} {court_laws : Nat → Option Nat} {inq_day : Int32} {inq_land : Int32} {inq_shoeLeftOut : Int32} {inq_names : Nat → Int32} {L_n : Nat → Nat} {L_code : Nat → Nat → Int32} {R : Int32 × (Nat → Int32)} (C0 : zC p s m args meth c cX3_lawGives 3 (some .int) RX3 zW) (hK : va_K D classes (zT cs) s) (hA : ∀ q : Nat, s.heap.size ≤ q → A q) (hLA : PLa cs PL court_laws L_a L_b L_n L_code) (x1 : Int32) (inq_stack : Nat → Int32) (h : B_X3_lawGives_0 court_shoeCount court_claimCount court_suitCount court_laws inq_day inq_land inq_shoeLeftOut inq_names L_n L_code x1 inq_stack = some R) (H : Heap) (locs : List Loc) (ls : Array Slot) (hP : va_P D classes (wl_X3_lawGives ad cs PL L_a L_b court_shoeCount court_claimCount court_suitCount court_laws inq_day inq_land inq_shoeLeftOut inq_names inq_stack L_n L_code) H) (hD : va_D A (wl_X3_lawGives ad cs PL L_a L_b court_shoeCount court_claimCount court_suitCount court_laws inq_day inq_land inq_shoeLeftOut inq_names inq_stack L_n L_code)) (hS : va_S A s.heap H locs) (hl : lv_has ls 3 [(0, .ref (ad 15)), (1, .int x1)]) : W p l e rm_X3_lawGives s m args below meth c H locs 0 0 (MQ below (Q_X3_lawGives D cs ad PL L_a L_b court_shoeCount court_claimCount court_suitCount court_laws inq_day inq_land inq_shoeLeftOut inq_names L_n L_code A R) args s 0 0 A) (F0 m 0 ls []) := by
  obtain ⟨hx, hb, hr, hml, hown, ht, hlocks⟩ := id C0
  refine lv_aload_n hx hb dX3_lawGives_0 rfl (lv_at hl 0 rfl) ?_
  refine va_get (D := D) (ci := 3) (v := .ref (ad 4)) (C := RX3) (T := TX3) (N := 11) hx hb ht iX3 hown hK hP 2 rfl rfl 0 (by decide) (ht _ kw_191) (fun _ h9 => h9) rfl dX3_lawGives_1 ?_
  refine va_get (D := D) (ci := 2) (v := .ref (ad 14)) (C := RX2) (T := TX2) (N := 13) hx hb ht iX2 hown hK hP 0 rfl rfl 9 (by decide) (ht _ kw_147) (fun _ h9 => h9) rfl dX3_lawGives_4 ?_
  refine lv_iload_n hx hb dX3_lawGives_7 rfl (lv_at hl 1 rfl) ?_
  refine lv_bipush (v := (8 : Int32)) hx hb dX3_lawGives_8 (by decide) ?_
  refine lv_imul hx hb dX3_lawGives_10 ?_
  refine lv_aload_n hx hb dX3_lawGives_11 rfl (lv_at hl 0 rfl) ?_
  refine va_get (D := D) (ci := 3) (v := .int inq_land) (C := RX3) (T := TX3) (N := 11) hx hb ht iX3 hown hK hP 2 rfl rfl 9 (by decide) (ht _ kw_202) (fun _ h9 => h9) rfl dX3_lawGives_12 ?_
  refine lv_iadd hx hb dX3_lawGives_15 ?_
  obtain ⟨g_1, h⟩ := zk_gd h
  obtain ⟨g_2, h⟩ := zk_gd h
  obtain ⟨hs_3, ⟨_, hj_4⟩, ⟨_, hj_5⟩⟩ := hLA _ (zs_lt3 g_2)
  refine va_aldq hx hb hK hP 1 6 rfl rfl g_1 dX3_lawGives_16 ?_
  refine W.eq (g2 := F0 m 17 ls [.ref (L_a ((x1 * (8 : Int32)) + inq_land).toNatClampNeg)]) (by rw [hs_3]; rfl) ?_
  refine lv_astore_n (lv' := [(2, .ref (L_a ((x1 * (8 : Int32)) + inq_land).toNatClampNeg)), (0, .ref (ad 15)), (1, .int x1)]) hx hb dX3_lawGives_17 rfl hl (by decide) rfl (fun ls hl => ?_)
  refine lv_aload_n hx hb dX3_lawGives_18 rfl (lv_at hl 0 rfl) ?_
  refine lv_ifnonnull (tgt := 26) hx hb dX3_lawGives_19 (by decide) ?_
  refine lv_aload_n hx hb dX3_lawGives_26 rfl (lv_at hl 0 rfl) ?_
  refine lv_aload_n hx hb dX3_lawGives_27 rfl (lv_at hl 1 rfl) ?_
  refine va_get (D := D) (ci := 3) (v := .ref (ad 16)) (C := RX3) (T := TX3) (N := 11) hx hb ht iX3 hown hK hP 2 rfl rfl 1 (by decide) (ht _ kw_193) (fun _ h9 => h9) rfl dX3_lawGives_28 ?_
  refine lv_aload_n hx hb dX3_lawGives_31 rfl (lv_at hl 1 rfl) ?_
  refine va_get (D := D) (ci := 3) (v := .ref (ad 17)) (C := RX3) (T := TX3) (N := 11) hx hb ht iX3 hown hK hP 2 rfl rfl 2 (by decide) (ht _ kw_194) (fun _ h9 => h9) rfl dX3_lawGives_32 ?_
  obtain ⟨g_6, h⟩ := zk_gd h
  obtain ⟨hs_7, ⟨_, hj_8⟩, ⟨_, hj_9⟩⟩ := hLA _ (zs_lt3 g_6)
  obtain ⟨r_10, u_11, hc_12, h⟩ := zk_o2 h
  refine zz_viP (post := (fun r u => (r, u) = (r_10, u_11))) (w1 := fun u => (wx_X4_value ad cs PL (ad 16) (ad 17) (L_a ((x1 * (8 : Int32)) + inq_land).toNatClampNeg) (L_b ((x1 * (8 : Int32)) + inq_land).toNatClampNeg) inq_names 11 u 36 (L_code ((x1 * (8 : Int32)) + inq_land).toNatClampNeg) (L_n ((x1 * (8 : Int32)) + inq_land).toNatClampNeg))) (PL := PL) (As := [.ref (ad 16), .ref (ad 17)]) (rest := []) (c_X4_value l D cs ad PL (ad 16) (ad 17) (L_a ((x1 * (8 : Int32)) + inq_land).toNatClampNeg) (L_b ((x1 * (8 : Int32)) + inq_land).toNatClampNeg) H.size 100000 inq_names 11 inq_stack 36 (L_code ((x1 * (8 : Int32)) + inq_land).toNatClampNeg) (L_n ((x1 * (8 : Int32)) + inq_land).toNatClampNeg) hj_8 hj_9 (r_10, u_11) hc_12) ⟨hx, hb, hml, hown, ht⟩ (cwV 2 ht g_X3_105 rfl rfl rfl ⟨rfl, hd_X4_value⟩ ⟨Nat.le_of_ble_eq_true rfl, Nat.le_of_ble_eq_true rfl⟩) (va_recv hK hP (ci := 4) (q0 := _) rfl (zPm hj_8 rfl)) hP hD hS hK hA [3, 4] rfl rfl [(ad 16), (ad 17)] rfl (fun _ => rfl) rfl hl.1 (Nat.le_of_ble_eq_true rfl) dX3_lawGives_35 ⟨Nat.zero_le _, Nat.zero_le _⟩ (fun r u H locs hq hP hS => ?_)
  cases hq
  have hP : va_P D classes (wl_X3_lawGives ad cs PL L_a L_b court_shoeCount court_claimCount court_suitCount court_laws inq_day inq_land inq_shoeLeftOut inq_names u_11 L_n L_code) H := hP
  have hD : va_D A (wl_X3_lawGives ad cs PL L_a L_b court_shoeCount court_claimCount court_suitCount court_laws inq_day inq_land inq_shoeLeftOut inq_names u_11 L_n L_code) := zDkp hD [(ad 4), (ad 14), (ad 15), (ad 16), (ad 17)] rfl rfl
  exact W.iret (v := r_10) hx hb hr (fun t ht2 hW => ⟨⟨r_10, u_11, rfl, Option.some.inj h, by rw [ht2]; exact hP, hD⟩, hS.F ht2⟩) hS.2.2 dX3_lawGives_38 hlocks
set_option maxHeartbeats 4000000 in
set_option maxRecDepth 100000 in
theorem c_X3_lawGives (l : Launch) (D : va_G) (cs : Nat → ClassId) (ad : Nat → Nat) (PL : va_W) (L_a : Nat → Nat) (L_b : Nat → Nat) (sz : Nat) (x1 : Int32) (court_shoeCount : Int32) (court_claimCount : Int32) (court_suitCount : Int32) (court_laws : Nat → Option Nat) (inq_day : Int32) (inq_land : Int32) (inq_shoeLeftOut : Int32) (inq_names : Nat → Int32) (inq_stack : Nat → Int32) (L_n : Nat → Nat) (L_code : Nat → Nat → Int32) (hLA : PLa cs PL court_laws L_a L_b L_n L_code) (R : Int32 × (Nat → Int32)) (h : f_X3_lawGives   x1 court_shoeCount court_claimCount court_suitCount court_laws inq_day inq_land inq_shoeLeftOut inq_names inq_stack L_n L_code = some R) : Met l yX3_lawGives (z_X3_lawGives) rm_X3_lawGives (va_Pc [.ref (ad 15), .int x1] (zPre D cs (wl_X3_lawGives ad cs PL L_a L_b court_shoeCount court_claimCount court_suitCount court_laws inq_day inq_land inq_shoeLeftOut inq_names inq_stack L_n L_code) sz)) (Q_X3_lawGives D cs ad PL L_a L_b court_shoeCount court_claimCount court_suitCount court_laws inq_day inq_land inq_shoeLeftOut inq_names L_n L_code (va_A (wl_X3_lawGives ad cs PL L_a L_b court_shoeCount court_claimCount court_suitCount court_laws inq_day inq_land inq_shoeLeftOut inq_names inq_stack L_n L_code) sz) R) 0 0 (va_A (wl_X3_lawGives ad cs PL L_a L_b court_shoeCount court_claimCount court_suitCount court_laws inq_day inq_land inq_shoeLeftOut inq_names inq_stack L_n L_code) sz) := by
  refine Met.ofW (cc := cX3_lawGives) (maxL := 3) (ret := (some .int)) (by decide) rfl ?_
  intro p e s m args below meth c s₁ B hml hv
  obtain ⟨rfl, hsz, hP, hK, hD0⟩ := hv
  subst hsz
  have hD := hD0.self (sz := s.heap.size)
  have C0 : zC p s m _ meth c cX3_lawGives 3 (some .int) RX3 zW := ⟨B.exec, B.bytes, B.returns, hml, findClass_of_methodNamed B.named, fun w hw => atoms_spec (ws := z_X3_lawGives) B.pre w (List.mem_cons_of_mem _ hw), B.notSynchronized⟩
  have hA : ∀ q : Nat, s.heap.size ≤ q → va_A (wl_X3_lawGives ad cs PL L_a L_b court_shoeCount court_claimCount court_suitCount court_laws inq_day inq_land inq_shoeLeftOut inq_names inq_stack L_n L_code) s.heap.size q := fun q h => Or.inr h
  have hl := lv_entry ([.ref (ad 15), .int x1]) (n := 3) (Nat.le_of_ble_eq_true rfl)
  rw [lg_entry_eq]
  generalize (lg_sl ([.ref (ad 15), .int x1]) ++ List.replicate (3 - (lg_sl ([.ref (ad 15), .int x1])).length) Slot.unset).toArray = ls at hl ⊢
  exact L_X3_lawGives_0 C0 hK hA hLA   x1 inq_stack h s.heap [] ls hP hD va_S.rf hl
theorem kw_77 : Cond.initialized RX3 ∈ zW := zwC (i := 3) zc_1 rfl rfl
theorem kw_124 : Cond.fieldLink RX3 85 "AlreadyJudged$Court" "shoeSort" "[I" ∈ zW := zwC (i := 50) zc_1 rfl rfl
theorem kw_128 : Cond.fieldLink RX3 82 "AlreadyJudged$Court" "shoeDay" "[I" ∈ zW := zwC (i := 54) zc_1 rfl rfl
theorem kw_822 : Cond.methodLink RX3 64 yJ7_fill_53178 ∈ zW := zwC (i := 28) zc_4 rfl rfl
theorem kw_823 : Cond.static yJ7_fill_53178 ∈ zW := zwC (i := 29) zc_4 rfl rfl
theorem kw_824 : Cond.code yJ7_fill_53178 cJ7_fill_53178 4 none ∈ zW := zwC (i := 30) zc_4 rfl rfl
theorem kw_825 : Cond.methodLink RX3 88 yX3_lawGives ∈ zW := zwC (i := 31) zc_4 rfl rfl
theorem kw_826 : Cond.instanceMethod yX3_lawGives ∈ zW := zwC (i := 32) zc_4 rfl rfl
theorem kw_827 : Cond.selects RX3 yX3_lawGives yX3_lawGives ∈ zW := zwC (i := 33) zc_4 rfl rfl
theorem kw_828 : Cond.code yX3_lawGives cX3_lawGives 3 (some .int) ∈ zW := zwC (i := 34) zc_4 rfl rfl
theorem zh_cX3_isBinding_0 : zck [27, 42, 180, 0, 47, 159, 0, 19, 42, 180, 0, 36, 180, 0, 82, 27, 46, 42, 180, 0, 40, 164] (zdu 0 cX3_isBinding.data.toList) = true := by decide +kernel
theorem dX3_isBinding_0 : decode cX3_isBinding 0 = .ok (.iload_n 1, 1) := zo_27 zh_cX3_isBinding_0 0 rfl
theorem dX3_isBinding_1 : decode cX3_isBinding 1 = .ok (.aload_n 0, 1) := zo_42 zh_cX3_isBinding_0 1 rfl
theorem dX3_isBinding_2 : decode cX3_isBinding 2 = .ok (.getfield 47, 3) := zo_180 zh_cX3_isBinding_0 2 rfl
theorem dX3_isBinding_5 : decode cX3_isBinding 5 = .ok (.if_icmp .eq 19, 3) := zo_p159 zh_cX3_isBinding_0 5 19 rfl rfl
theorem dX3_isBinding_8 : decode cX3_isBinding 8 = .ok (.aload_n 0, 1) := zo_42 zh_cX3_isBinding_0 8 rfl
theorem dX3_isBinding_9 : decode cX3_isBinding 9 = .ok (.getfield 36, 3) := zo_180 zh_cX3_isBinding_0 9 rfl
theorem dX3_isBinding_12 : decode cX3_isBinding 12 = .ok (.getfield 82, 3) := zo_180 zh_cX3_isBinding_0 12 rfl
theorem dX3_isBinding_15 : decode cX3_isBinding 15 = .ok (.iload_n 1, 1) := zo_27 zh_cX3_isBinding_0 15 rfl
theorem dX3_isBinding_16 : decode cX3_isBinding 16 = .ok (.iaload, 1) := zo_46 zh_cX3_isBinding_0 16 rfl
theorem dX3_isBinding_17 : decode cX3_isBinding 17 = .ok (.aload_n 0, 1) := zo_42 zh_cX3_isBinding_0 17 rfl
theorem dX3_isBinding_18 : decode cX3_isBinding 18 = .ok (.getfield 40, 3) := zo_180 zh_cX3_isBinding_0 18 rfl
theorem zh_cX3_isBinding_1 : zck [40, 164, 0, 5, 3, 172, 42, 180, 0, 20, 28, 47, 27, 123, 10, 127, 9, 148, 154, 0, 101, 42] (zdu 20 cX3_isBinding.data.toList) = true := by decide +kernel
theorem dX3_isBinding_21 : decode cX3_isBinding 21 = .ok (.if_icmp .le 5, 3) := zo_p164 zh_cX3_isBinding_1 1 5 rfl rfl
theorem dX3_isBinding_24 : decode cX3_isBinding 24 = .ok (.iconst 0, 1) := zo_3 zh_cX3_isBinding_1 4 rfl
theorem dX3_isBinding_25 : decode cX3_isBinding 25 = .ok (.ireturn, 1) := zo_172 zh_cX3_isBinding_1 5 rfl
theorem dX3_isBinding_26 : decode cX3_isBinding 26 = .ok (.aload_n 0, 1) := zo_42 zh_cX3_isBinding_1 6 rfl
theorem dX3_isBinding_27 : decode cX3_isBinding 27 = .ok (.getfield 20, 3) := zo_180 zh_cX3_isBinding_1 7 rfl
theorem dX3_isBinding_30 : decode cX3_isBinding 30 = .ok (.iload_n 2, 1) := zo_28 zh_cX3_isBinding_1 10 rfl
theorem dX3_isBinding_31 : decode cX3_isBinding 31 = .ok (.laload, 1) := zo_47 zh_cX3_isBinding_1 11 rfl
theorem dX3_isBinding_32 : decode cX3_isBinding 32 = .ok (.iload_n 1, 1) := zo_27 zh_cX3_isBinding_1 12 rfl
theorem zo_123 {c : ByteArray} {s : Nat} {K : List Nat} (h : zck K (zdu s c.data.toList) = true) (k : Nat) (hk : zt1 K k 123 = true) : decode c (s + k) = .ok (.lshr, 1) := zde ((zbd (zu1 (zh1 h hk))).trans rfl)
theorem dX3_isBinding_33 : decode cX3_isBinding 33 = .ok (.lshr, 1) := zo_123 zh_cX3_isBinding_1 13 rfl
theorem dX3_isBinding_34 : decode cX3_isBinding 34 = .ok (.lconst 1, 1) := zo_10 zh_cX3_isBinding_1 14 rfl
theorem dX3_isBinding_35 : decode cX3_isBinding 35 = .ok (.land, 1) := zo_127 zh_cX3_isBinding_1 15 rfl
theorem dX3_isBinding_36 : decode cX3_isBinding 36 = .ok (.lconst 0, 1) := zo_9 zh_cX3_isBinding_1 16 rfl
theorem dX3_isBinding_37 : decode cX3_isBinding 37 = .ok (.lcmp, 1) := zo_148 zh_cX3_isBinding_1 17 rfl
theorem dX3_isBinding_38 : decode cX3_isBinding 38 = .ok (.ifCond .ne 101, 3) := zo_p154 zh_cX3_isBinding_1 18 101 rfl rfl
theorem zh_cX3_isBinding_2 : zck [101, 42, 180, 0, 20, 28, 92, 47, 10, 27, 121, 129, 80, 42, 180, 0, 9, 3, 184, 0, 64, 42] (zdu 40 cX3_isBinding.data.toList) = true := by decide +kernel
theorem dX3_isBinding_41 : decode cX3_isBinding 41 = .ok (.aload_n 0, 1) := zo_42 zh_cX3_isBinding_2 1 rfl
theorem dX3_isBinding_42 : decode cX3_isBinding 42 = .ok (.getfield 20, 3) := zo_180 zh_cX3_isBinding_2 2 rfl
theorem dX3_isBinding_45 : decode cX3_isBinding 45 = .ok (.iload_n 2, 1) := zo_28 zh_cX3_isBinding_2 5 rfl
theorem dX3_isBinding_46 : decode cX3_isBinding 46 = .ok (.dup2, 1) := zo_92 zh_cX3_isBinding_2 6 rfl
theorem dX3_isBinding_47 : decode cX3_isBinding 47 = .ok (.laload, 1) := zo_47 zh_cX3_isBinding_2 7 rfl
theorem dX3_isBinding_48 : decode cX3_isBinding 48 = .ok (.lconst 1, 1) := zo_10 zh_cX3_isBinding_2 8 rfl
theorem dX3_isBinding_49 : decode cX3_isBinding 49 = .ok (.iload_n 1, 1) := zo_27 zh_cX3_isBinding_2 9 rfl
theorem dX3_isBinding_50 : decode cX3_isBinding 50 = .ok (.lshl, 1) := zo_121 zh_cX3_isBinding_2 10 rfl
theorem dX3_isBinding_51 : decode cX3_isBinding 51 = .ok (.lor, 1) := zo_129 zh_cX3_isBinding_2 11 rfl
theorem dX3_isBinding_52 : decode cX3_isBinding 52 = .ok (.lastore, 1) := zo_80 zh_cX3_isBinding_2 12 rfl
theorem dX3_isBinding_53 : decode cX3_isBinding 53 = .ok (.aload_n 0, 1) := zo_42 zh_cX3_isBinding_2 13 rfl
theorem dX3_isBinding_54 : decode cX3_isBinding 54 = .ok (.getfield 9, 3) := zo_180 zh_cX3_isBinding_2 14 rfl
theorem dX3_isBinding_57 : decode cX3_isBinding 57 = .ok (.iconst 0, 1) := zo_3 zh_cX3_isBinding_2 17 rfl
theorem dX3_isBinding_58 : decode cX3_isBinding 58 = .ok (.invokestatic 64, 3) := zo_184 zh_cX3_isBinding_2 18 rfl
theorem zh_cX3_isBinding_3 : zck [64, 42, 180, 0, 9, 16, 6, 42, 180, 0, 36, 180, 0, 85, 27, 46, 79, 42, 180, 0, 9, 16] (zdu 60 cX3_isBinding.data.toList) = true := by decide +kernel
theorem dX3_isBinding_61 : decode cX3_isBinding 61 = .ok (.aload_n 0, 1) := zo_42 zh_cX3_isBinding_3 1 rfl
theorem dX3_isBinding_62 : decode cX3_isBinding 62 = .ok (.getfield 9, 3) := zo_180 zh_cX3_isBinding_3 2 rfl
theorem dX3_isBinding_65 : decode cX3_isBinding 65 = .ok (.bipush 6, 2) := zo_p16 zh_cX3_isBinding_3 5 6 rfl rfl
theorem dX3_isBinding_67 : decode cX3_isBinding 67 = .ok (.aload_n 0, 1) := zo_42 zh_cX3_isBinding_3 7 rfl
theorem dX3_isBinding_68 : decode cX3_isBinding 68 = .ok (.getfield 36, 3) := zo_180 zh_cX3_isBinding_3 8 rfl
theorem dX3_isBinding_71 : decode cX3_isBinding 71 = .ok (.getfield 85, 3) := zo_180 zh_cX3_isBinding_3 11 rfl
theorem dX3_isBinding_74 : decode cX3_isBinding 74 = .ok (.iload_n 1, 1) := zo_27 zh_cX3_isBinding_3 14 rfl
theorem dX3_isBinding_75 : decode cX3_isBinding 75 = .ok (.iaload, 1) := zo_46 zh_cX3_isBinding_3 15 rfl
theorem dX3_isBinding_76 : decode cX3_isBinding 76 = .ok (.iastore, 1) := zo_79 zh_cX3_isBinding_3 16 rfl
theorem dX3_isBinding_77 : decode cX3_isBinding 77 = .ok (.aload_n 0, 1) := zo_42 zh_cX3_isBinding_3 17 rfl
theorem dX3_isBinding_78 : decode cX3_isBinding 78 = .ok (.getfield 9, 3) := zo_180 zh_cX3_isBinding_3 18 rfl
theorem zh_cX3_isBinding_4 : zck [9, 16, 10, 28, 79, 42, 180, 0, 9, 5, 42, 180, 0, 40, 42, 180, 0, 36, 180, 0, 82, 27] (zdu 80 cX3_isBinding.data.toList) = true := by decide +kernel
theorem dX3_isBinding_81 : decode cX3_isBinding 81 = .ok (.bipush 10, 2) := zo_p16 zh_cX3_isBinding_4 1 10 rfl rfl
theorem dX3_isBinding_83 : decode cX3_isBinding 83 = .ok (.iload_n 2, 1) := zo_28 zh_cX3_isBinding_4 3 rfl
theorem dX3_isBinding_84 : decode cX3_isBinding 84 = .ok (.iastore, 1) := zo_79 zh_cX3_isBinding_4 4 rfl
theorem dX3_isBinding_85 : decode cX3_isBinding 85 = .ok (.aload_n 0, 1) := zo_42 zh_cX3_isBinding_4 5 rfl
theorem dX3_isBinding_86 : decode cX3_isBinding 86 = .ok (.getfield 9, 3) := zo_180 zh_cX3_isBinding_4 6 rfl
theorem dX3_isBinding_89 : decode cX3_isBinding 89 = .ok (.iconst 2, 1) := zo_5 zh_cX3_isBinding_4 9 rfl
theorem dX3_isBinding_90 : decode cX3_isBinding 90 = .ok (.aload_n 0, 1) := zo_42 zh_cX3_isBinding_4 10 rfl
theorem dX3_isBinding_91 : decode cX3_isBinding 91 = .ok (.getfield 40, 3) := zo_180 zh_cX3_isBinding_4 11 rfl
theorem dX3_isBinding_94 : decode cX3_isBinding 94 = .ok (.aload_n 0, 1) := zo_42 zh_cX3_isBinding_4 14 rfl
theorem dX3_isBinding_95 : decode cX3_isBinding 95 = .ok (.getfield 36, 3) := zo_180 zh_cX3_isBinding_4 15 rfl
theorem dX3_isBinding_98 : decode cX3_isBinding 98 = .ok (.getfield 82, 3) := zo_180 zh_cX3_isBinding_4 18 rfl
theorem zh_cX3_isBinding_5 : zck [82, 27, 46, 100, 79, 42, 180, 0, 9, 7, 42, 180, 0, 44, 79, 42, 180, 0, 24, 28, 92, 47] (zdu 100 cX3_isBinding.data.toList) = true := by decide +kernel
theorem dX3_isBinding_101 : decode cX3_isBinding 101 = .ok (.iload_n 1, 1) := zo_27 zh_cX3_isBinding_5 1 rfl
theorem dX3_isBinding_102 : decode cX3_isBinding 102 = .ok (.iaload, 1) := zo_46 zh_cX3_isBinding_5 2 rfl
theorem dX3_isBinding_103 : decode cX3_isBinding 103 = .ok (.isub, 1) := zo_100 zh_cX3_isBinding_5 3 rfl
theorem dX3_isBinding_104 : decode cX3_isBinding 104 = .ok (.iastore, 1) := zo_79 zh_cX3_isBinding_5 4 rfl
theorem dX3_isBinding_105 : decode cX3_isBinding 105 = .ok (.aload_n 0, 1) := zo_42 zh_cX3_isBinding_5 5 rfl
theorem dX3_isBinding_106 : decode cX3_isBinding 106 = .ok (.getfield 9, 3) := zo_180 zh_cX3_isBinding_5 6 rfl
theorem dX3_isBinding_109 : decode cX3_isBinding 109 = .ok (.iconst 4, 1) := zo_7 zh_cX3_isBinding_5 9 rfl
theorem dX3_isBinding_110 : decode cX3_isBinding 110 = .ok (.aload_n 0, 1) := zo_42 zh_cX3_isBinding_5 10 rfl
theorem dX3_isBinding_111 : decode cX3_isBinding 111 = .ok (.getfield 44, 3) := zo_180 zh_cX3_isBinding_5 11 rfl
theorem dX3_isBinding_114 : decode cX3_isBinding 114 = .ok (.iastore, 1) := zo_79 zh_cX3_isBinding_5 14 rfl
theorem dX3_isBinding_115 : decode cX3_isBinding 115 = .ok (.aload_n 0, 1) := zo_42 zh_cX3_isBinding_5 15 rfl
theorem dX3_isBinding_116 : decode cX3_isBinding 116 = .ok (.getfield 24, 3) := zo_180 zh_cX3_isBinding_5 16 rfl
theorem dX3_isBinding_119 : decode cX3_isBinding 119 = .ok (.iload_n 2, 1) := zo_28 zh_cX3_isBinding_5 19 rfl
theorem zh_cX3_isBinding_6 : zck [92, 47, 42, 5, 182, 0, 88, 153, 0, 9, 10, 27, 121, 167, 0, 4, 9, 129, 80, 42, 180, 0] (zdu 120 cX3_isBinding.data.toList) = true := by decide +kernel
theorem dX3_isBinding_120 : decode cX3_isBinding 120 = .ok (.dup2, 1) := zo_92 zh_cX3_isBinding_6 0 rfl
theorem dX3_isBinding_121 : decode cX3_isBinding 121 = .ok (.laload, 1) := zo_47 zh_cX3_isBinding_6 1 rfl
theorem dX3_isBinding_122 : decode cX3_isBinding 122 = .ok (.aload_n 0, 1) := zo_42 zh_cX3_isBinding_6 2 rfl
theorem dX3_isBinding_123 : decode cX3_isBinding 123 = .ok (.iconst 2, 1) := zo_5 zh_cX3_isBinding_6 3 rfl
theorem dX3_isBinding_124 : decode cX3_isBinding 124 = .ok (.invokevirtual 88, 3) := zo_182 zh_cX3_isBinding_6 4 rfl
theorem dX3_isBinding_127 : decode cX3_isBinding 127 = .ok (.ifCond .eq 9, 3) := zo_p153 zh_cX3_isBinding_6 7 9 rfl rfl
theorem dX3_isBinding_130 : decode cX3_isBinding 130 = .ok (.lconst 1, 1) := zo_10 zh_cX3_isBinding_6 10 rfl
theorem dX3_isBinding_131 : decode cX3_isBinding 131 = .ok (.iload_n 1, 1) := zo_27 zh_cX3_isBinding_6 11 rfl
theorem dX3_isBinding_132 : decode cX3_isBinding 132 = .ok (.lshl, 1) := zo_121 zh_cX3_isBinding_6 12 rfl
theorem dX3_isBinding_133 : decode cX3_isBinding 133 = .ok (.goto 4, 3) := zo_p167 zh_cX3_isBinding_6 13 4 rfl rfl
theorem dX3_isBinding_136 : decode cX3_isBinding 136 = .ok (.lconst 0, 1) := zo_9 zh_cX3_isBinding_6 16 rfl
theorem dX3_isBinding_137 : decode cX3_isBinding 137 = .ok (.lor, 1) := zo_129 zh_cX3_isBinding_6 17 rfl
theorem dX3_isBinding_138 : decode cX3_isBinding 138 = .ok (.lastore, 1) := zo_80 zh_cX3_isBinding_6 18 rfl
theorem dX3_isBinding_139 : decode cX3_isBinding 139 = .ok (.aload_n 0, 1) := zo_42 zh_cX3_isBinding_6 19 rfl
theorem zh_cX3_isBinding_7 : zck [180, 0, 24, 28, 47, 27, 123, 10, 127, 9, 148, 153, 0, 7, 4, 167, 0, 4, 3, 172] (zdu 140 cX3_isBinding.data.toList) = true := by decide +kernel
theorem dX3_isBinding_140 : decode cX3_isBinding 140 = .ok (.getfield 24, 3) := zo_180 zh_cX3_isBinding_7 0 rfl
theorem dX3_isBinding_143 : decode cX3_isBinding 143 = .ok (.iload_n 2, 1) := zo_28 zh_cX3_isBinding_7 3 rfl
theorem dX3_isBinding_144 : decode cX3_isBinding 144 = .ok (.laload, 1) := zo_47 zh_cX3_isBinding_7 4 rfl
theorem dX3_isBinding_145 : decode cX3_isBinding 145 = .ok (.iload_n 1, 1) := zo_27 zh_cX3_isBinding_7 5 rfl
theorem dX3_isBinding_146 : decode cX3_isBinding 146 = .ok (.lshr, 1) := zo_123 zh_cX3_isBinding_7 6 rfl
theorem dX3_isBinding_147 : decode cX3_isBinding 147 = .ok (.lconst 1, 1) := zo_10 zh_cX3_isBinding_7 7 rfl
theorem dX3_isBinding_148 : decode cX3_isBinding 148 = .ok (.land, 1) := zo_127 zh_cX3_isBinding_7 8 rfl
theorem dX3_isBinding_149 : decode cX3_isBinding 149 = .ok (.lconst 0, 1) := zo_9 zh_cX3_isBinding_7 9 rfl
theorem dX3_isBinding_150 : decode cX3_isBinding 150 = .ok (.lcmp, 1) := zo_148 zh_cX3_isBinding_7 10 rfl
theorem dX3_isBinding_151 : decode cX3_isBinding 151 = .ok (.ifCond .eq 7, 3) := zo_p153 zh_cX3_isBinding_7 11 7 rfl rfl
theorem dX3_isBinding_154 : decode cX3_isBinding 154 = .ok (.iconst 1, 1) := zo_4 zh_cX3_isBinding_7 14 rfl
theorem dX3_isBinding_155 : decode cX3_isBinding 155 = .ok (.goto 4, 3) := zo_p167 zh_cX3_isBinding_7 15 4 rfl rfl
theorem dX3_isBinding_158 : decode cX3_isBinding 158 = .ok (.iconst 0, 1) := zo_3 zh_cX3_isBinding_7 18 rfl
theorem dX3_isBinding_159 : decode cX3_isBinding 159 = .ok (.ireturn, 1) := zo_172 zh_cX3_isBinding_7 19 rfl
abbrev z_X3_isBinding : List Cond := .code yX3_isBinding cX3_isBinding 3 (some .boolean) :: zW
abbrev wx_X3_isBinding (ad : Nat → Nat) (cs : Nat → ClassId) (PL : va_W) (L_a : Nat → Nat) (L_b : Nat → Nat) (court_shoeCount : Int32) (court_claimCount : Int32) (court_suitCount : Int32) (court_shoeSort : Nat → Int32) (court_shoeDay : Nat → Int32) (court_laws : Nat → Option Nat) (inq_day : Int32) (inq_land : Int32) (inq_shoeLeftOut : Int32) (inq_names : Nat → Int32) (inq_stack : Nat → Int32) (inq_judgedShoes : Nat → Int64) (inq_bindingShoes : Nat → Int64) (L_n : Nat → Nat) (L_code : Nat → Nat → Int32) : va_W := [((ad 4), .inr (2, [.ref (ad 5), .ref (ad 6), .ref (ad 7), .ref (ad 8), .ref (ad 9), .ref (ad 10), .ref (ad 11), .ref (ad 12), .ref (ad 13), .ref (ad 14), .int court_shoeCount, .int court_claimCount, .int court_suitCount])), ((ad 7), .inl (cs 0, 40, .inl court_shoeSort)), ((ad 8), .inl (cs 0, 40, .inl court_shoeDay)), ((ad 14), .inl (cs 6, 32, .inr (.inr (.inr (.inr court_laws))))), ((ad 15), .inr (3, [.ref (ad 4), .ref (ad 16), .ref (ad 17), .ref (ad 18), .ref (ad 19), .ref (ad 20), .ref (ad 21), .ref (ad 22), .int inq_day, .int inq_land, .int inq_shoeLeftOut])), ((ad 16), .inl (cs 0, 11, .inl inq_names)), ((ad 17), .inl (cs 0, 36, .inl inq_stack)), ((ad 18), .inl (cs 1, 7, .inr (.inl inq_judgedShoes))), ((ad 19), .inl (cs 1, 7, .inr (.inl inq_bindingShoes)))]
abbrev wl_X3_isBinding (ad : Nat → Nat) (cs : Nat → ClassId) (PL : va_W) (L_a : Nat → Nat) (L_b : Nat → Nat) (court_shoeCount : Int32) (court_claimCount : Int32) (court_suitCount : Int32) (court_shoeSort : Nat → Int32) (court_shoeDay : Nat → Int32) (court_laws : Nat → Option Nat) (inq_day : Int32) (inq_land : Int32) (inq_shoeLeftOut : Int32) (inq_names : Nat → Int32) (inq_stack : Nat → Int32) (inq_judgedShoes : Nat → Int64) (inq_bindingShoes : Nat → Int64) (L_n : Nat → Nat) (L_code : Nat → Nat → Int32) : va_W := wx_X3_isBinding ad cs PL L_a L_b court_shoeCount court_claimCount court_suitCount court_shoeSort court_shoeDay court_laws inq_day inq_land inq_shoeLeftOut inq_names inq_stack inq_judgedShoes inq_bindingShoes L_n L_code ++ PL
def Q_X3_isBinding (D : va_G) (cs : Nat → ClassId) (ad : Nat → Nat) (PL : va_W) (L_a : Nat → Nat) (L_b : Nat → Nat) (court_shoeCount : Int32) (court_claimCount : Int32) (court_suitCount : Int32) (court_shoeSort : Nat → Int32) (court_shoeDay : Nat → Int32) (court_laws : Nat → Option Nat) (inq_day : Int32) (inq_land : Int32) (inq_shoeLeftOut : Int32) (L_n : Nat → Nat) (L_code : Nat → Nat → Int32) (A : Nat → Prop) (R : Int32 × (Nat → Int32) × (Nat → Int32) × (Nat → Int64) × (Nat → Int64)) : Array Value → State → Outcome → State → Prop :=
  va_Qi (fun (r : Int32) (u : (Nat → Int32) × (Nat → Int32) × (Nat → Int64) × (Nat → Int64)) => (r, u) = R) (fun (u : (Nat → Int32) × (Nat → Int32) × (Nat → Int64) × (Nat → Int64)) (t : State) => va_P D classes (wl_X3_isBinding ad cs PL L_a L_b court_shoeCount court_claimCount court_suitCount court_shoeSort court_shoeDay court_laws inq_day inq_land inq_shoeLeftOut u.1 u.2.1 u.2.2.1 u.2.2.2 L_n L_code) t.heap ∧ va_D A (wl_X3_isBinding ad cs PL L_a L_b court_shoeCount court_claimCount court_suitCount court_shoeSort court_shoeDay court_laws inq_day inq_land inq_shoeLeftOut u.1 u.2.1 u.2.2.1 u.2.2.2 L_n L_code)) A
abbrev rm_X3_isBinding : Room := { frames := 3, cells := 0, slots := 0, locals := 70 }
theorem g_X3_64 : GoodIn zW (va_wsS RX3 64 yJ7_fill_53178 z_J7_fill_53178) := zGS kw_822 kw_823 kw_92 kw_824
theorem g_X3_88 : GoodIn zW (wsV RX3 88 RX3 yX3_lawGives z_X3_lawGives) := zGV kw_825 kw_826 kw_827 kw_77 kw_828
theorem hd_J7_fill_53178 : yJ7_fill_53178.cls ≠ "java/lang/invoke/MethodHandle" ∧ yJ7_fill_53178.cls ≠ "java/lang/invoke/VarHandle" ∧ (parseMethodDescriptor yJ7_fill_53178.desc).map (fun d => d.parameters.length) = some 2 := by decide +kernel
theorem hd_X3_lawGives : yX3_lawGives.cls ≠ "java/lang/invoke/MethodHandle" ∧ yX3_lawGives.cls ≠ "java/lang/invoke/VarHandle" ∧ (parseMethodDescriptor yX3_lawGives.desc).map (fun d => d.parameters.length) = some 1 := by decide +kernel
def B_X3_isBinding_139    (court_shoeCount : Int32) (court_claimCount : Int32) (court_suitCount : Int32) (court_shoeSort : Nat → Int32) (court_shoeDay : Nat → Int32) (court_laws : Nat → Option Nat) (inq_day : Int32) (inq_land : Int32) (inq_shoeLeftOut : Int32) (L_n : Nat → Nat) (L_code : Nat → Nat → Int32) (x1 : Int32) (x2 : Int32) (inq_names : Nat → Int32) (inq_stack : Nat → Int32) (inq_judgedShoes : Nat → Int64) (inq_bindingShoes : Nat → Int64) : Option (Int32 × (Nat → Int32) × (Nat → Int32) × (Nat → Int64) × (Nat → Int64)) :=
  (if (x2 < 0 ∨ 7 ≤ x2.toNatClampNeg) then none else (if (lg_cmp (((inq_bindingShoes x2.toNatClampNeg) >>> (x1.toInt64 &&& 63)) &&& (1 : Int64)) (0 : Int64)) = 0 then (some ((0 : Int32), inq_names, inq_stack, inq_judgedShoes, inq_bindingShoes)) else (some ((1 : Int32), inq_names, inq_stack, inq_judgedShoes, inq_bindingShoes))))
def B_X3_isBinding_137    (court_shoeCount : Int32) (court_claimCount : Int32) (court_suitCount : Int32) (court_shoeSort : Nat → Int32) (court_shoeDay : Nat → Int32) (court_laws : Nat → Option Nat) (inq_day : Int32) (inq_land : Int32) (inq_shoeLeftOut : Int32) (L_n : Nat → Nat) (L_code : Nat → Nat → Int32) (x1 : Int32) (x2 : Int32) (s0 : Int64) (s1 : Int64) (s2 : Int32) (inq_names : Nat → Int32) (inq_stack : Nat → Int32) (inq_judgedShoes : Nat → Int64) (inq_bindingShoes : Nat → Int64) : Option (Int32 × (Nat → Int32) × (Nat → Int32) × (Nat → Int64) × (Nat → Int64)) :=
  (zk_let (s1 ||| s0) (fun v_25 => (if (s2 < 0 ∨ 7 ≤ s2.toNatClampNeg) then none else (zk_let (vp_updL inq_bindingShoes s2.toNatClampNeg v_25) (fun f_27 => (B_X3_isBinding_139 court_shoeCount court_claimCount court_suitCount court_shoeSort court_shoeDay court_laws inq_day inq_land inq_shoeLeftOut L_n L_code x1 x2 inq_names inq_stack inq_judgedShoes f_27))))))
def B_X3_isBinding_0    (court_shoeCount : Int32) (court_claimCount : Int32) (court_suitCount : Int32) (court_shoeSort : Nat → Int32) (court_shoeDay : Nat → Int32) (court_laws : Nat → Option Nat) (inq_day : Int32) (inq_land : Int32) (inq_shoeLeftOut : Int32) (L_n : Nat → Nat) (L_code : Nat → Nat → Int32) (x1 : Int32) (x2 : Int32) (inq_names : Nat → Int32) (inq_stack : Nat → Int32) (inq_judgedShoes : Nat → Int64) (inq_bindingShoes : Nat → Int64) : Option (Int32 × (Nat → Int32) × (Nat → Int32) × (Nat → Int64) × (Nat → Int64)) :=
  (if x1 = inq_shoeLeftOut then (some ((0 : Int32), inq_names, inq_stack, inq_judgedShoes, inq_bindingShoes)) else (if (x1 < 0 ∨ 40 ≤ x1.toNatClampNeg) then none else (if (court_shoeDay x1.toNatClampNeg) ≤ inq_day then (if (x2 < 0 ∨ 7 ≤ x2.toNatClampNeg) then none else (if (lg_cmp (((inq_judgedShoes x2.toNatClampNeg) >>> (x1.toInt64 &&& 63)) &&& (1 : Int64)) (0 : Int64)) = 0 then (if (x2 < 0 ∨ 7 ≤ x2.toNatClampNeg) then none else (zk_let ((inq_judgedShoes x2.toNatClampNeg) ||| ((1 : Int64) <<< (x1.toInt64 &&& 63))) (fun v_7 => (if (x2 < 0 ∨ 7 ≤ x2.toNatClampNeg) then none else (zk_let (vp_updL inq_judgedShoes x2.toNatClampNeg v_7) (fun f_9 => (zk_b1 (f_J7_fill_53178 100000 (0 : Int32) inq_names 11) (fun u_10 => (if (x1 < 0 ∨ 40 ≤ x1.toNatClampNeg) then none else (zk_let (court_shoeSort x1.toNatClampNeg) (fun v_13 => (zk_let (upd u_10 (6 : Int32).toNatClampNeg v_13) (fun f_14 => (zk_let (upd f_14 (10 : Int32).toNatClampNeg x2) (fun f_15 => (if (x1 < 0 ∨ 40 ≤ x1.toNatClampNeg) then none else (zk_let (inq_day - (court_shoeDay x1.toNatClampNeg)) (fun v_17 => (zk_let (upd f_15 (2 : Int32).toNatClampNeg v_17) (fun f_18 => (zk_let (upd f_18 (4 : Int32).toNatClampNeg inq_land) (fun f_19 => (if (x2 < 0 ∨ 7 ≤ x2.toNatClampNeg) then none else (zk_b2 (f_X3_lawGives (2 : Int32) court_shoeCount court_claimCount court_suitCount court_laws inq_day inq_land inq_shoeLeftOut f_19 inq_stack L_n L_code) (fun r_21 u_22 => (if r_21 = 0 then (B_X3_isBinding_137 court_shoeCount court_claimCount court_suitCount court_shoeSort court_shoeDay court_laws inq_day inq_land inq_shoeLeftOut L_n L_code x1 x2 (0 : Int64) (inq_bindingShoes x2.toNatClampNeg) x2 f_19 u_22 f_9 inq_bindingShoes) else (B_X3_isBinding_137 court_shoeCount court_claimCount court_suitCount court_shoeSort court_shoeDay court_laws inq_day inq_land inq_shoeLeftOut L_n L_code x1 x2 ((1 : Int64) <<< (x1.toInt64 &&& 63)) (inq_bindingShoes x2.toNatClampNeg) x2 f_19 u_22 f_9 inq_bindingShoes))))))))))))))))))))))))))) else (B_X3_isBinding_139 court_shoeCount court_claimCount court_suitCount court_shoeSort court_shoeDay court_laws inq_day inq_land inq_shoeLeftOut L_n L_code x1 x2 inq_names inq_stack inq_judgedShoes inq_bindingShoes))) else (some ((0 : Int32), inq_names, inq_stack, inq_judgedShoes, inq_bindingShoes)))))
def f_X3_isBinding   (x1 : Int32) (x2 : Int32) (court_shoeCount : Int32) (court_claimCount : Int32) (court_suitCount : Int32) (court_shoeSort : Nat → Int32) (court_shoeDay : Nat → Int32) (court_laws : Nat → Option Nat) (inq_day : Int32) (inq_land : Int32) (inq_shoeLeftOut : Int32) (inq_names : Nat → Int32) (inq_stack : Nat → Int32) (inq_judgedShoes : Nat → Int64) (inq_bindingShoes : Nat → Int64) (L_n : Nat → Nat) (L_code : Nat → Nat → Int32) : Option (Int32 × (Nat → Int32) × (Nat → Int32) × (Nat → Int64) × (Nat → Int64)) := B_X3_isBinding_0   court_shoeCount court_claimCount court_suitCount court_shoeSort court_shoeDay court_laws inq_day inq_land inq_shoeLeftOut L_n L_code x1 x2 inq_names inq_stack inq_judgedShoes inq_bindingShoes
set_option maxHeartbeats 4000000 in
set_option maxRecDepth 100000 in
theorem L_X3_isBinding_139 {p : Program} {l : Launch} {e : Env} {s : State} {m : MethodId} {args : Array Value} {below : List Frame} {meth : Method} {c : Code} {A : Nat → Prop} {D : va_G} {cs : Nat → ClassId} {ad : Nat → Nat} {PL : va_W} {L_a : Nat → Nat} {L_b : Nat → Nat} {court_shoeCount : Int32} {court_claimCount : Int32} {court_suitCount : Int32} {court_shoeSort : Nat → Int32} {court_shoeDay : Nat → Int32} {court_laws : Nat → Option Nat} {inq_day : Int32} {inq_land : Int32} {inq_shoeLeftOut : Int32} {L_n : Nat → Nat} {L_code : Nat → Nat → Int32} {R : Int32 × (Nat → Int32) × (Nat → Int32) × (Nat → Int64) × (Nat → Int64)} (C0 : zC p s m args meth c cX3_isBinding 3 (some .boolean) RX3 zW) (hK : va_K D classes (zT cs) s) (hA : ∀ q : Nat, s.heap.size ≤ q → A q) (hLA : PLa cs PL court_laws L_a L_b L_n L_code) (x1 : Int32) (x2 : Int32) (inq_names : Nat → Int32) (inq_stack : Nat → Int32) (inq_judgedShoes : Nat → Int64) (inq_bindingShoes : Nat → Int64) (h : B_X3_isBinding_139 court_shoeCount court_claimCount court_suitCount court_shoeSort court_shoeDay court_laws inq_day inq_land inq_shoeLeftOut L_n L_code x1 x2 inq_names inq_stack inq_judgedShoes inq_bindingShoes = some R) (H : Heap) (locs : List Loc) (ls : Array Slot) (hP : va_P D classes (wl_X3_isBinding ad cs PL L_a L_b court_shoeCount court_claimCount court_suitCount court_shoeSort court_shoeDay court_laws inq_day inq_land inq_shoeLeftOut inq_names inq_stack inq_judgedShoes inq_bindingShoes L_n L_code) H) (hD : va_D A (wl_X3_isBinding ad cs PL L_a L_b court_shoeCount court_claimCount court_suitCount court_shoeSort court_shoeDay court_laws inq_day inq_land inq_shoeLeftOut inq_names inq_stack inq_judgedShoes inq_bindingShoes L_n L_code)) (hS : va_S A s.heap H locs) (hl : lv_has ls 3 [(0, .ref (ad 15)), (1, .int x1), (2, .int x2)]) : W p l e rm_X3_isBinding s m args below meth c H locs 0 0 (MQ below (Q_X3_isBinding D cs ad PL L_a L_b court_shoeCount court_claimCount court_suitCount court_shoeSort court_shoeDay court_laws inq_day inq_land inq_shoeLeftOut L_n L_code A R) args s 0 0 A) (F0 m 139 ls []) := by
  obtain ⟨hx, hb, hr, hml, hown, ht, hlocks⟩ := id C0
  refine lv_aload_n hx hb dX3_isBinding_139 rfl (lv_at hl 0 rfl) ?_
  refine va_get (D := D) (ci := 3) (v := .ref (ad 19)) (C := RX3) (T := TX3) (N := 11) hx hb ht iX3 hown hK hP 4 rfl rfl 4 (by decide) (ht _ kw_196) (fun _ h9 => h9) rfl dX3_isBinding_140 ?_
  refine lv_iload_n hx hb dX3_isBinding_143 rfl (lv_at hl 2 rfl) ?_
  obtain ⟨g_28, h⟩ := zk_gd h
  refine va_lald hx hb hK hP 8 1 rfl rfl g_28 dX3_isBinding_144 ?_
  refine lv_iload_n hx hb dX3_isBinding_145 rfl (lv_at hl 1 rfl) ?_
  refine lv_lshr (v := (inq_bindingShoes x2.toNatClampNeg) >>> (x1.toInt64 &&& 63)) hx hb dX3_isBinding_146 rfl ?_
  refine lv_lconst (v := (1 : Int64)) hx hb dX3_isBinding_147 (by decide) ?_
  refine lv_land hx hb dX3_isBinding_148 ?_
  refine lv_lconst (v := (0 : Int64)) hx hb dX3_isBinding_149 (by decide) ?_
  refine W.lcmp hx hb dX3_isBinding_150 ?_
  refine lv_if_eq (tgt := 158) hx hb dX3_isBinding_151 (by decide) (fun c_29 => ?_) (fun c_29 => ?_)
  · have h := zk_t c_29 h
    refine lv_iconst (v := (0 : Int32)) hx hb dX3_isBinding_158 (by decide) ?_
    exact W.zret (ty := .boolean) (v := (0 : Int32)) hx hb hr rfl (fun t ht2 hW => ⟨⟨(0 : Int32), (inq_names, inq_stack, inq_judgedShoes, inq_bindingShoes), rfl, Option.some.inj h, by rw [ht2]; exact hP, hD⟩, hS.F ht2⟩) hS.2.2 dX3_isBinding_159 hlocks
  · have h := zk_f c_29 h
    refine lv_iconst (v := (1 : Int32)) hx hb dX3_isBinding_154 (by decide) ?_
    refine lv_goto (tgt := 159) hx hb dX3_isBinding_155 (by decide) ?_
    exact W.zret (ty := .boolean) (v := (1 : Int32)) hx hb hr rfl (fun t ht2 hW => ⟨⟨(1 : Int32), (inq_names, inq_stack, inq_judgedShoes, inq_bindingShoes), rfl, Option.some.inj h, by rw [ht2]; exact hP, hD⟩, hS.F ht2⟩) hS.2.2 dX3_isBinding_159 hlocks
set_option maxHeartbeats 4000000 in
set_option maxRecDepth 100000 in
theorem L_X3_isBinding_137 {p : Program} {l : Launch} {e : Env} {s : State} {m : MethodId} {args : Array Value} {below : List Frame} {meth : Method} {c : Code} {A : Nat → Prop} {D : va_G} {cs : Nat → ClassId} {ad : Nat → Nat} {PL : va_W} {L_a : Nat → Nat} {L_b : Nat → Nat} {court_shoeCount : Int32} {court_claimCount : Int32} {court_suitCount : Int32} {court_shoeSort : Nat → Int32} {court_shoeDay : Nat → Int32} {court_laws : Nat → Option Nat} {inq_day : Int32} {inq_land : Int32} {inq_shoeLeftOut : Int32} {L_n : Nat → Nat} {L_code : Nat → Nat → Int32} {R : Int32 × (Nat → Int32) × (Nat → Int32) × (Nat → Int64) × (Nat → Int64)} (C0 : zC p s m args meth c cX3_isBinding 3 (some .boolean) RX3 zW) (hK : va_K D classes (zT cs) s) (hA : ∀ q : Nat, s.heap.size ≤ q → A q) (hLA : PLa cs PL court_laws L_a L_b L_n L_code) (x1 : Int32) (x2 : Int32) (s0 : Int64) (s1 : Int64) (s2 : Int32) (inq_names : Nat → Int32) (inq_stack : Nat → Int32) (inq_judgedShoes : Nat → Int64) (inq_bindingShoes : Nat → Int64) (h : B_X3_isBinding_137 court_shoeCount court_claimCount court_suitCount court_shoeSort court_shoeDay court_laws inq_day inq_land inq_shoeLeftOut L_n L_code x1 x2 s0 s1 s2 inq_names inq_stack inq_judgedShoes inq_bindingShoes = some R) (H : Heap) (locs : List Loc) (ls : Array Slot) (hP : va_P D classes (wl_X3_isBinding ad cs PL L_a L_b court_shoeCount court_claimCount court_suitCount court_shoeSort court_shoeDay court_laws inq_day inq_land inq_shoeLeftOut inq_names inq_stack inq_judgedShoes inq_bindingShoes L_n L_code) H) (hD : va_D A (wl_X3_isBinding ad cs PL L_a L_b court_shoeCount court_claimCount court_suitCount court_shoeSort court_shoeDay court_laws inq_day inq_land inq_shoeLeftOut inq_names inq_stack inq_judgedShoes inq_bindingShoes L_n L_code)) (hS : va_S A s.heap H locs) (hl : lv_has ls 3 [(0, .ref (ad 15)), (1, .int x1), (2, .int x2)]) : W p l e rm_X3_isBinding s m args below meth c H locs 0 0 (MQ below (Q_X3_isBinding D cs ad PL L_a L_b court_shoeCount court_claimCount court_suitCount court_shoeSort court_shoeDay court_laws inq_day inq_land inq_shoeLeftOut L_n L_code A R) args s 0 0 A) (F0 m 137 ls [.long s0, .long s1, .int s2, .ref (ad 19)]) := by
  obtain ⟨hx, hb, hr, hml, hown, ht, hlocks⟩ := id C0
  refine lv_lor hx hb dX3_isBinding_137 ?_
  obtain ⟨v_25, ev_25, h⟩ := zk_lt h
  refine W.eq (g2 := F0 m 138 ls [.long v_25, .int s2, .ref (ad 19)]) (by rw [ev_25]) ?_
  obtain ⟨g_26, h⟩ := zk_gd h
  obtain ⟨f_27, ef_27, h⟩ := zk_lt h
  refine va_last hx hb hK hP hD hS 8 1 rfl rfl g_26 dX3_isBinding_138 (fun H locs hP hD hS => ?_)
  have hP : va_P D classes (wl_X3_isBinding ad cs PL L_a L_b court_shoeCount court_claimCount court_suitCount court_shoeSort court_shoeDay court_laws inq_day inq_land inq_shoeLeftOut inq_names inq_stack inq_judgedShoes f_27 L_n L_code) H := by rw [ef_27]; exact hP
  have hD : va_D A (wl_X3_isBinding ad cs PL L_a L_b court_shoeCount court_claimCount court_suitCount court_shoeSort court_shoeDay court_laws inq_day inq_land inq_shoeLeftOut inq_names inq_stack inq_judgedShoes f_27 L_n L_code) := by rw [ef_27]; exact hD
  exact L_X3_isBinding_139 C0 hK hA hLA   x1 x2 inq_names inq_stack inq_judgedShoes f_27 h H locs ls hP hD hS (lv_sub hl [0, 1, 2] rfl)
set_option maxHeartbeats 4000000 in
set_option maxRecDepth 100000 in
theorem L_X3_isBinding_0 {p : Program} {l : Launch} {e : Env} {s : State} {m : MethodId} {args : Array Value} {below : List Frame} {meth : Method} {c : Code} {A : Nat → Prop} {D : va_G} {cs : Nat → ClassId} {ad : Nat → Nat} {PL : va_W} {L_a : Nat → Nat} {L_b : Nat → Nat} {court_shoeCount : Int32} {court_claimCount : Int32} {court_suitCount : Int32} {court_shoeSort : Nat → Int32} {court_shoeDay : Nat → Int32} {court_laws : Nat → Option Nat} {inq_day : Int32} {inq_land : Int32} {inq_shoeLeftOut : Int32} {L_n : Nat → Nat} {L_code : Nat → Nat → Int32} {R : Int32 × (Nat → Int32) × (Nat → Int32) × (Nat → Int64) × (Nat → Int64)} (C0 : zC p s m args meth c cX3_isBinding 3 (some .boolean) RX3 zW) (hK : va_K D classes (zT cs) s) (hA : ∀ q : Nat, s.heap.size ≤ q → A q) (hLA : PLa cs PL court_laws L_a L_b L_n L_code) (x1 : Int32) (x2 : Int32) (inq_names : Nat → Int32) (inq_stack : Nat → Int32) (inq_judgedShoes : Nat → Int64) (inq_bindingShoes : Nat → Int64) (h : B_X3_isBinding_0 court_shoeCount court_claimCount court_suitCount court_shoeSort court_shoeDay court_laws inq_day inq_land inq_shoeLeftOut L_n L_code x1 x2 inq_names inq_stack inq_judgedShoes inq_bindingShoes = some R) (H : Heap) (locs : List Loc) (ls : Array Slot) (hP : va_P D classes (wl_X3_isBinding ad cs PL L_a L_b court_shoeCount court_claimCount court_suitCount court_shoeSort court_shoeDay court_laws inq_day inq_land inq_shoeLeftOut inq_names inq_stack inq_judgedShoes inq_bindingShoes L_n L_code) H) (hD : va_D A (wl_X3_isBinding ad cs PL L_a L_b court_shoeCount court_claimCount court_suitCount court_shoeSort court_shoeDay court_laws inq_day inq_land inq_shoeLeftOut inq_names inq_stack inq_judgedShoes inq_bindingShoes L_n L_code)) (hS : va_S A s.heap H locs) (hl : lv_has ls 3 [(0, .ref (ad 15)), (1, .int x1), (2, .int x2)]) : W p l e rm_X3_isBinding s m args below meth c H locs 0 0 (MQ below (Q_X3_isBinding D cs ad PL L_a L_b court_shoeCount court_claimCount court_suitCount court_shoeSort court_shoeDay court_laws inq_day inq_land inq_shoeLeftOut L_n L_code A R) args s 0 0 A) (F0 m 0 ls []) := by
  obtain ⟨hx, hb, hr, hml, hown, ht, hlocks⟩ := id C0
  refine lv_iload_n hx hb dX3_isBinding_0 rfl (lv_at hl 1 rfl) ?_
  refine lv_aload_n hx hb dX3_isBinding_1 rfl (lv_at hl 0 rfl) ?_
  refine va_get (D := D) (ci := 3) (v := .int inq_shoeLeftOut) (C := RX3) (T := TX3) (N := 11) hx hb ht iX3 hown hK hP 4 rfl rfl 10 (by decide) (ht _ kw_204) (fun _ h9 => h9) rfl dX3_isBinding_2 ?_
  refine lv_icmp_eq (tgt := 24) hx hb dX3_isBinding_5 (by decide) (fun c_1 => ?_) (fun c_1 => ?_)
  · have h := zk_t c_1 h
    refine lv_iconst (v := (0 : Int32)) hx hb dX3_isBinding_24 (by decide) ?_
    exact W.zret (ty := .boolean) (v := (0 : Int32)) hx hb hr rfl (fun t ht2 hW => ⟨⟨(0 : Int32), (inq_names, inq_stack, inq_judgedShoes, inq_bindingShoes), rfl, Option.some.inj h, by rw [ht2]; exact hP, hD⟩, hS.F ht2⟩) hS.2.2 dX3_isBinding_25 hlocks
  · have h := zk_f c_1 h
    refine lv_aload_n hx hb dX3_isBinding_8 rfl (lv_at hl 0 rfl) ?_
    refine va_get (D := D) (ci := 3) (v := .ref (ad 4)) (C := RX3) (T := TX3) (N := 11) hx hb ht iX3 hown hK hP 4 rfl rfl 0 (by decide) (ht _ kw_191) (fun _ h9 => h9) rfl dX3_isBinding_9 ?_
    refine va_get (D := D) (ci := 2) (v := .ref (ad 8)) (C := RX2) (T := TX2) (N := 13) hx hb ht iX2 hown hK hP 0 rfl rfl 3 (by decide) (ht _ kw_128) (fun _ h9 => h9) rfl dX3_isBinding_12 ?_
    refine lv_iload_n hx hb dX3_isBinding_15 rfl (lv_at hl 1 rfl) ?_
    obtain ⟨g_2, h⟩ := zk_gd h
    refine va_iald hx hb hK hP 2 0 rfl rfl g_2 dX3_isBinding_16 ?_
    refine lv_aload_n hx hb dX3_isBinding_17 rfl (lv_at hl 0 rfl) ?_
    refine va_get (D := D) (ci := 3) (v := .int inq_day) (C := RX3) (T := TX3) (N := 11) hx hb ht iX3 hown hK hP 4 rfl rfl 8 (by decide) (ht _ kw_201) (fun _ h9 => h9) rfl dX3_isBinding_18 ?_
    refine lv_icmp_le (tgt := 26) hx hb dX3_isBinding_21 (by decide) (fun c_3 => ?_) (fun c_3 => ?_)
    · have h := zk_t c_3 h
      refine lv_aload_n hx hb dX3_isBinding_26 rfl (lv_at hl 0 rfl) ?_
      refine va_get (D := D) (ci := 3) (v := .ref (ad 18)) (C := RX3) (T := TX3) (N := 11) hx hb ht iX3 hown hK hP 4 rfl rfl 3 (by decide) (ht _ kw_195) (fun _ h9 => h9) rfl dX3_isBinding_27 ?_
      refine lv_iload_n hx hb dX3_isBinding_30 rfl (lv_at hl 2 rfl) ?_
      obtain ⟨g_4, h⟩ := zk_gd h
      refine va_lald hx hb hK hP 7 1 rfl rfl g_4 dX3_isBinding_31 ?_
      refine lv_iload_n hx hb dX3_isBinding_32 rfl (lv_at hl 1 rfl) ?_
      refine lv_lshr (v := (inq_judgedShoes x2.toNatClampNeg) >>> (x1.toInt64 &&& 63)) hx hb dX3_isBinding_33 rfl ?_
      refine lv_lconst (v := (1 : Int64)) hx hb dX3_isBinding_34 (by decide) ?_
      refine lv_land hx hb dX3_isBinding_35 ?_
      refine lv_lconst (v := (0 : Int64)) hx hb dX3_isBinding_36 (by decide) ?_
      refine W.lcmp hx hb dX3_isBinding_37 ?_
      refine lv_if_ne (tgt := 139) hx hb dX3_isBinding_38 (by decide) (fun c_5 => ?_) (fun c_5 => ?_)
      · have h := zk_f c_5 h
        exact L_X3_isBinding_139 C0 hK hA hLA   x1 x2 inq_names inq_stack inq_judgedShoes inq_bindingShoes h H locs ls hP hD hS (lv_sub hl [0, 1, 2] rfl)
      · have h := zk_t c_5 h
        refine lv_aload_n hx hb dX3_isBinding_41 rfl (lv_at hl 0 rfl) ?_
        refine va_get (D := D) (ci := 3) (v := .ref (ad 18)) (C := RX3) (T := TX3) (N := 11) hx hb ht iX3 hown hK hP 4 rfl rfl 3 (by decide) (ht _ kw_195) (fun _ h9 => h9) rfl dX3_isBinding_42 ?_
        refine lv_iload_n hx hb dX3_isBinding_45 rfl (lv_at hl 2 rfl) ?_
        refine lv_dup2_11 hx hb dX3_isBinding_46 rfl rfl ?_
        obtain ⟨g_6, h⟩ := zk_gd h
        refine va_lald hx hb hK hP 7 1 rfl rfl g_6 dX3_isBinding_47 ?_
        refine lv_lconst (v := (1 : Int64)) hx hb dX3_isBinding_48 (by decide) ?_
        refine lv_iload_n hx hb dX3_isBinding_49 rfl (lv_at hl 1 rfl) ?_
        refine lv_lshl (v := (1 : Int64) <<< (x1.toInt64 &&& 63)) hx hb dX3_isBinding_50 rfl ?_
        refine lv_lor hx hb dX3_isBinding_51 ?_
        obtain ⟨v_7, ev_7, h⟩ := zk_lt h
        refine W.eq (g2 := F0 m 52 ls [.long v_7, .int x2, .ref (ad 18)]) (by rw [ev_7]) ?_
        obtain ⟨g_8, h⟩ := zk_gd h
        obtain ⟨f_9, ef_9, h⟩ := zk_lt h
        refine va_last hx hb hK hP hD hS 7 1 rfl rfl g_8 dX3_isBinding_52 (fun H locs hP hD hS => ?_)
        have hP : va_P D classes (wl_X3_isBinding ad cs PL L_a L_b court_shoeCount court_claimCount court_suitCount court_shoeSort court_shoeDay court_laws inq_day inq_land inq_shoeLeftOut inq_names inq_stack f_9 inq_bindingShoes L_n L_code) H := by rw [ef_9]; exact hP
        have hD : va_D A (wl_X3_isBinding ad cs PL L_a L_b court_shoeCount court_claimCount court_suitCount court_shoeSort court_shoeDay court_laws inq_day inq_land inq_shoeLeftOut inq_names inq_stack f_9 inq_bindingShoes L_n L_code) := by rw [ef_9]; exact hD
        refine lv_aload_n hx hb dX3_isBinding_53 rfl (lv_at hl 0 rfl) ?_
        refine va_get (D := D) (ci := 3) (v := .ref (ad 16)) (C := RX3) (T := TX3) (N := 11) hx hb ht iX3 hown hK hP 4 rfl rfl 1 (by decide) (ht _ kw_193) (fun _ h9 => h9) rfl dX3_isBinding_54 ?_
        refine lv_iconst (v := (0 : Int32)) hx hb dX3_isBinding_57 (by decide) ?_
        obtain ⟨u_10, hc_11, h⟩ := zk_o1 h
        refine zz_svQ (post := (fun u => u = u_10)) (w1 := fun u => (wl_J7_fill_53178 ad cs (ad 16) u 11)) (As := [.ref (ad 16), .int (0 : Int32)]) (rest := []) (c_J7_fill_53178 l D cs ad (ad 16) H.size 100000 (0 : Int32) inq_names 11 u_10 hc_11) ⟨hx, hb, hml, hown, ht⟩ (va_cwS 2 ht g_X3_64 rfl rfl rfl hd_J7_fill_53178 ⟨Nat.le_of_ble_eq_true rfl, Nat.le_of_ble_eq_true rfl⟩) hP hD hS hK hA [5] rfl rfl [(ad 16)] rfl (fun _ => rfl) rfl hl.1 (Nat.le_of_ble_eq_true rfl) dX3_isBinding_58 ⟨Nat.zero_le _, Nat.zero_le _⟩ (fun u H locs hq hP hS => ?_)
        cases hq
        have hP : va_P D classes (wl_X3_isBinding ad cs PL L_a L_b court_shoeCount court_claimCount court_suitCount court_shoeSort court_shoeDay court_laws inq_day inq_land inq_shoeLeftOut u_10 inq_stack f_9 inq_bindingShoes L_n L_code) H := hP
        have hD : va_D A (wl_X3_isBinding ad cs PL L_a L_b court_shoeCount court_claimCount court_suitCount court_shoeSort court_shoeDay court_laws inq_day inq_land inq_shoeLeftOut u_10 inq_stack f_9 inq_bindingShoes L_n L_code) := zDkp hD [(ad 4), (ad 7), (ad 8), (ad 14), (ad 15), (ad 16), (ad 17), (ad 18), (ad 19)] rfl rfl
        refine lv_aload_n hx hb dX3_isBinding_61 rfl (lv_at hl 0 rfl) ?_
        refine va_get (D := D) (ci := 3) (v := .ref (ad 16)) (C := RX3) (T := TX3) (N := 11) hx hb ht iX3 hown hK hP 4 rfl rfl 1 (by decide) (ht _ kw_193) (fun _ h9 => h9) rfl dX3_isBinding_62 ?_
        refine lv_bipush (v := (6 : Int32)) hx hb dX3_isBinding_65 (by decide) ?_
        refine lv_aload_n hx hb dX3_isBinding_67 rfl (lv_at hl 0 rfl) ?_
        refine va_get (D := D) (ci := 3) (v := .ref (ad 4)) (C := RX3) (T := TX3) (N := 11) hx hb ht iX3 hown hK hP 4 rfl rfl 0 (by decide) (ht _ kw_191) (fun _ h9 => h9) rfl dX3_isBinding_68 ?_
        refine va_get (D := D) (ci := 2) (v := .ref (ad 7)) (C := RX2) (T := TX2) (N := 13) hx hb ht iX2 hown hK hP 0 rfl rfl 2 (by decide) (ht _ kw_124) (fun _ h9 => h9) rfl dX3_isBinding_71 ?_
        refine lv_iload_n hx hb dX3_isBinding_74 rfl (lv_at hl 1 rfl) ?_
        obtain ⟨g_12, h⟩ := zk_gd h
        refine va_iald hx hb hK hP 1 0 rfl rfl g_12 dX3_isBinding_75 ?_
        obtain ⟨v_13, ev_13, h⟩ := zk_lt h
        refine W.eq (g2 := F0 m 76 ls [.int v_13, .int (6 : Int32), .ref (ad 16)]) (by rw [ev_13]) ?_
        obtain ⟨f_14, ef_14, h⟩ := zk_lt h
        refine va_iast hx hb hK hP hD hS 5 0 rfl rfl (by unfold vp_in; decide) dX3_isBinding_76 (fun H locs hP hD hS => ?_)
        have hP : va_P D classes (wl_X3_isBinding ad cs PL L_a L_b court_shoeCount court_claimCount court_suitCount court_shoeSort court_shoeDay court_laws inq_day inq_land inq_shoeLeftOut f_14 inq_stack f_9 inq_bindingShoes L_n L_code) H := by rw [ef_14]; exact hP
        have hD : va_D A (wl_X3_isBinding ad cs PL L_a L_b court_shoeCount court_claimCount court_suitCount court_shoeSort court_shoeDay court_laws inq_day inq_land inq_shoeLeftOut f_14 inq_stack f_9 inq_bindingShoes L_n L_code) := by rw [ef_14]; exact hD
        refine lv_aload_n hx hb dX3_isBinding_77 rfl (lv_at hl 0 rfl) ?_
        refine va_get (D := D) (ci := 3) (v := .ref (ad 16)) (C := RX3) (T := TX3) (N := 11) hx hb ht iX3 hown hK hP 4 rfl rfl 1 (by decide) (ht _ kw_193) (fun _ h9 => h9) rfl dX3_isBinding_78 ?_
        refine lv_bipush (v := (10 : Int32)) hx hb dX3_isBinding_81 (by decide) ?_
        refine lv_iload_n hx hb dX3_isBinding_83 rfl (lv_at hl 2 rfl) ?_
        obtain ⟨f_15, ef_15, h⟩ := zk_lt h
        refine va_iast hx hb hK hP hD hS 5 0 rfl rfl (by unfold vp_in; decide) dX3_isBinding_84 (fun H locs hP hD hS => ?_)
        have hP : va_P D classes (wl_X3_isBinding ad cs PL L_a L_b court_shoeCount court_claimCount court_suitCount court_shoeSort court_shoeDay court_laws inq_day inq_land inq_shoeLeftOut f_15 inq_stack f_9 inq_bindingShoes L_n L_code) H := by rw [ef_15]; exact hP
        have hD : va_D A (wl_X3_isBinding ad cs PL L_a L_b court_shoeCount court_claimCount court_suitCount court_shoeSort court_shoeDay court_laws inq_day inq_land inq_shoeLeftOut f_15 inq_stack f_9 inq_bindingShoes L_n L_code) := by rw [ef_15]; exact hD
        refine lv_aload_n hx hb dX3_isBinding_85 rfl (lv_at hl 0 rfl) ?_
        refine va_get (D := D) (ci := 3) (v := .ref (ad 16)) (C := RX3) (T := TX3) (N := 11) hx hb ht iX3 hown hK hP 4 rfl rfl 1 (by decide) (ht _ kw_193) (fun _ h9 => h9) rfl dX3_isBinding_86 ?_
        refine lv_iconst (v := (2 : Int32)) hx hb dX3_isBinding_89 (by decide) ?_
        refine lv_aload_n hx hb dX3_isBinding_90 rfl (lv_at hl 0 rfl) ?_
        refine va_get (D := D) (ci := 3) (v := .int inq_day) (C := RX3) (T := TX3) (N := 11) hx hb ht iX3 hown hK hP 4 rfl rfl 8 (by decide) (ht _ kw_201) (fun _ h9 => h9) rfl dX3_isBinding_91 ?_
        refine lv_aload_n hx hb dX3_isBinding_94 rfl (lv_at hl 0 rfl) ?_
        refine va_get (D := D) (ci := 3) (v := .ref (ad 4)) (C := RX3) (T := TX3) (N := 11) hx hb ht iX3 hown hK hP 4 rfl rfl 0 (by decide) (ht _ kw_191) (fun _ h9 => h9) rfl dX3_isBinding_95 ?_
        refine va_get (D := D) (ci := 2) (v := .ref (ad 8)) (C := RX2) (T := TX2) (N := 13) hx hb ht iX2 hown hK hP 0 rfl rfl 3 (by decide) (ht _ kw_128) (fun _ h9 => h9) rfl dX3_isBinding_98 ?_
        refine lv_iload_n hx hb dX3_isBinding_101 rfl (lv_at hl 1 rfl) ?_
        obtain ⟨g_16, h⟩ := zk_gd h
        refine va_iald hx hb hK hP 2 0 rfl rfl g_16 dX3_isBinding_102 ?_
        refine lv_isub hx hb dX3_isBinding_103 ?_
        obtain ⟨v_17, ev_17, h⟩ := zk_lt h
        refine W.eq (g2 := F0 m 104 ls [.int v_17, .int (2 : Int32), .ref (ad 16)]) (by rw [ev_17]) ?_
        obtain ⟨f_18, ef_18, h⟩ := zk_lt h
        refine va_iast hx hb hK hP hD hS 5 0 rfl rfl (by unfold vp_in; decide) dX3_isBinding_104 (fun H locs hP hD hS => ?_)
        have hP : va_P D classes (wl_X3_isBinding ad cs PL L_a L_b court_shoeCount court_claimCount court_suitCount court_shoeSort court_shoeDay court_laws inq_day inq_land inq_shoeLeftOut f_18 inq_stack f_9 inq_bindingShoes L_n L_code) H := by rw [ef_18]; exact hP
        have hD : va_D A (wl_X3_isBinding ad cs PL L_a L_b court_shoeCount court_claimCount court_suitCount court_shoeSort court_shoeDay court_laws inq_day inq_land inq_shoeLeftOut f_18 inq_stack f_9 inq_bindingShoes L_n L_code) := by rw [ef_18]; exact hD
        refine lv_aload_n hx hb dX3_isBinding_105 rfl (lv_at hl 0 rfl) ?_
        refine va_get (D := D) (ci := 3) (v := .ref (ad 16)) (C := RX3) (T := TX3) (N := 11) hx hb ht iX3 hown hK hP 4 rfl rfl 1 (by decide) (ht _ kw_193) (fun _ h9 => h9) rfl dX3_isBinding_106 ?_
        refine lv_iconst (v := (4 : Int32)) hx hb dX3_isBinding_109 (by decide) ?_
        refine lv_aload_n hx hb dX3_isBinding_110 rfl (lv_at hl 0 rfl) ?_
        refine va_get (D := D) (ci := 3) (v := .int inq_land) (C := RX3) (T := TX3) (N := 11) hx hb ht iX3 hown hK hP 4 rfl rfl 9 (by decide) (ht _ kw_202) (fun _ h9 => h9) rfl dX3_isBinding_111 ?_
        obtain ⟨f_19, ef_19, h⟩ := zk_lt h
        refine va_iast hx hb hK hP hD hS 5 0 rfl rfl (by unfold vp_in; decide) dX3_isBinding_114 (fun H locs hP hD hS => ?_)
        have hP : va_P D classes (wl_X3_isBinding ad cs PL L_a L_b court_shoeCount court_claimCount court_suitCount court_shoeSort court_shoeDay court_laws inq_day inq_land inq_shoeLeftOut f_19 inq_stack f_9 inq_bindingShoes L_n L_code) H := by rw [ef_19]; exact hP
        have hD : va_D A (wl_X3_isBinding ad cs PL L_a L_b court_shoeCount court_claimCount court_suitCount court_shoeSort court_shoeDay court_laws inq_day inq_land inq_shoeLeftOut f_19 inq_stack f_9 inq_bindingShoes L_n L_code) := by rw [ef_19]; exact hD
        refine lv_aload_n hx hb dX3_isBinding_115 rfl (lv_at hl 0 rfl) ?_
        refine va_get (D := D) (ci := 3) (v := .ref (ad 19)) (C := RX3) (T := TX3) (N := 11) hx hb ht iX3 hown hK hP 4 rfl rfl 4 (by decide) (ht _ kw_196) (fun _ h9 => h9) rfl dX3_isBinding_116 ?_
        refine lv_iload_n hx hb dX3_isBinding_119 rfl (lv_at hl 2 rfl) ?_
        refine lv_dup2_11 hx hb dX3_isBinding_120 rfl rfl ?_
        obtain ⟨g_20, h⟩ := zk_gd h
        refine va_lald hx hb hK hP 8 1 rfl rfl g_20 dX3_isBinding_121 ?_
        refine lv_aload_n hx hb dX3_isBinding_122 rfl (lv_at hl 0 rfl) ?_
        refine lv_iconst (v := (2 : Int32)) hx hb dX3_isBinding_123 (by decide) ?_
        obtain ⟨r_21, u_22, hc_23, h⟩ := zk_o2 h
        refine zz_viP (post := (fun r u => (r, u) = (r_21, u_22))) (w1 := fun u => (wx_X3_lawGives ad cs PL L_a L_b court_shoeCount court_claimCount court_suitCount court_laws inq_day inq_land inq_shoeLeftOut f_19 u L_n L_code)) (PL := PL) (As := [.int (2 : Int32)]) (rest := [.long (inq_bindingShoes x2.toNatClampNeg), .int x2, .ref (ad 19)]) (c_X3_lawGives l D cs ad PL L_a L_b H.size (2 : Int32) court_shoeCount court_claimCount court_suitCount court_laws inq_day inq_land inq_shoeLeftOut f_19 inq_stack L_n L_code hLA (r_21, u_22) hc_23) ⟨hx, hb, hml, hown, ht⟩ (cwV 1 ht g_X3_88 rfl rfl rfl ⟨rfl, hd_X3_lawGives⟩ ⟨Nat.le_of_ble_eq_true rfl, Nat.le_of_ble_eq_true rfl⟩) (va_recv hK hP (ci := 3) (q0 := 4) rfl rfl) hP hD hS hK hA [0, 3, 4, 5, 6] rfl rfl [(ad 4), (ad 14), (ad 15), (ad 16), (ad 17)] rfl (fun _ => rfl) rfl hl.1 (Nat.le_of_ble_eq_true rfl) dX3_isBinding_124 ⟨Nat.zero_le _, Nat.zero_le _⟩ (fun r u H locs hq hP hS => ?_)
        cases hq
        have hP : va_P D classes (wl_X3_isBinding ad cs PL L_a L_b court_shoeCount court_claimCount court_suitCount court_shoeSort court_shoeDay court_laws inq_day inq_land inq_shoeLeftOut f_19 u_22 f_9 inq_bindingShoes L_n L_code) H := hP
        have hD : va_D A (wl_X3_isBinding ad cs PL L_a L_b court_shoeCount court_claimCount court_suitCount court_shoeSort court_shoeDay court_laws inq_day inq_land inq_shoeLeftOut f_19 u_22 f_9 inq_bindingShoes L_n L_code) := zDkp hD [(ad 4), (ad 7), (ad 8), (ad 14), (ad 15), (ad 16), (ad 17), (ad 18), (ad 19)] rfl rfl
        refine lv_if_eq (tgt := 136) hx hb dX3_isBinding_127 (by decide) (fun c_24 => ?_) (fun c_24 => ?_)
        · have h := zk_t c_24 h
          refine lv_lconst (v := (0 : Int64)) hx hb dX3_isBinding_136 (by decide) ?_
          exact L_X3_isBinding_137 C0 hK hA hLA   x1 x2 (0 : Int64) (inq_bindingShoes x2.toNatClampNeg) x2 f_19 u_22 f_9 inq_bindingShoes h H locs ls hP hD hS (lv_sub hl [0, 1, 2] rfl)
        · have h := zk_f c_24 h
          refine lv_lconst (v := (1 : Int64)) hx hb dX3_isBinding_130 (by decide) ?_
          refine lv_iload_n hx hb dX3_isBinding_131 rfl (lv_at hl 1 rfl) ?_
          refine lv_lshl (v := (1 : Int64) <<< (x1.toInt64 &&& 63)) hx hb dX3_isBinding_132 rfl ?_
          refine lv_goto (tgt := 137) hx hb dX3_isBinding_133 (by decide) ?_
          exact L_X3_isBinding_137 C0 hK hA hLA   x1 x2 ((1 : Int64) <<< (x1.toInt64 &&& 63)) (inq_bindingShoes x2.toNatClampNeg) x2 f_19 u_22 f_9 inq_bindingShoes h H locs ls hP hD hS (lv_sub hl [0, 1, 2] rfl)
    · have h := zk_f c_3 h
      refine lv_iconst (v := (0 : Int32)) hx hb dX3_isBinding_24 (by decide) ?_
      exact W.zret (ty := .boolean) (v := (0 : Int32)) hx hb hr rfl (fun t ht2 hW => ⟨⟨(0 : Int32), (inq_names, inq_stack, inq_judgedShoes, inq_bindingShoes), rfl, Option.some.inj h, by rw [ht2]; exact hP, hD⟩, hS.F ht2⟩) hS.2.2 dX3_isBinding_25 hlocks
set_option maxHeartbeats 4000000 in
set_option maxRecDepth 100000 in
theorem c_X3_isBinding (l : Launch) (D : va_G) (cs : Nat → ClassId) (ad : Nat → Nat) (PL : va_W) (L_a : Nat → Nat) (L_b : Nat → Nat) (sz : Nat) (x1 : Int32) (x2 : Int32) (court_shoeCount : Int32) (court_claimCount : Int32) (court_suitCount : Int32) (court_shoeSort : Nat → Int32) (court_shoeDay : Nat → Int32) (court_laws : Nat → Option Nat) (inq_day : Int32) (inq_land : Int32) (inq_shoeLeftOut : Int32) (inq_names : Nat → Int32) (inq_stack : Nat → Int32) (inq_judgedShoes : Nat → Int64) (inq_bindingShoes : Nat → Int64) (L_n : Nat → Nat) (L_code : Nat → Nat → Int32) (hLA : PLa cs PL court_laws L_a L_b L_n L_code) (R : Int32 × (Nat → Int32) × (Nat → Int32) × (Nat → Int64) × (Nat → Int64)) (h : f_X3_isBinding   x1 x2 court_shoeCount court_claimCount court_suitCount court_shoeSort court_shoeDay court_laws inq_day inq_land inq_shoeLeftOut inq_names inq_stack inq_judgedShoes inq_bindingShoes L_n L_code = some R) : Met l yX3_isBinding (z_X3_isBinding) rm_X3_isBinding (va_Pc [.ref (ad 15), .int x1, .int x2] (zPre D cs (wl_X3_isBinding ad cs PL L_a L_b court_shoeCount court_claimCount court_suitCount court_shoeSort court_shoeDay court_laws inq_day inq_land inq_shoeLeftOut inq_names inq_stack inq_judgedShoes inq_bindingShoes L_n L_code) sz)) (Q_X3_isBinding D cs ad PL L_a L_b court_shoeCount court_claimCount court_suitCount court_shoeSort court_shoeDay court_laws inq_day inq_land inq_shoeLeftOut L_n L_code (va_A (wl_X3_isBinding ad cs PL L_a L_b court_shoeCount court_claimCount court_suitCount court_shoeSort court_shoeDay court_laws inq_day inq_land inq_shoeLeftOut inq_names inq_stack inq_judgedShoes inq_bindingShoes L_n L_code) sz) R) 0 0 (va_A (wl_X3_isBinding ad cs PL L_a L_b court_shoeCount court_claimCount court_suitCount court_shoeSort court_shoeDay court_laws inq_day inq_land inq_shoeLeftOut inq_names inq_stack inq_judgedShoes inq_bindingShoes L_n L_code) sz) := by
  refine Met.ofW (cc := cX3_isBinding) (maxL := 3) (ret := (some .boolean)) (by decide) rfl ?_
  intro p e s m args below meth c s₁ B hml hv
  obtain ⟨rfl, hsz, hP, hK, hD0⟩ := hv
  subst hsz
  have hD := hD0.self (sz := s.heap.size)
  have C0 : zC p s m _ meth c cX3_isBinding 3 (some .boolean) RX3 zW := ⟨B.exec, B.bytes, B.returns, hml, findClass_of_methodNamed B.named, fun w hw => atoms_spec (ws := z_X3_isBinding) B.pre w (List.mem_cons_of_mem _ hw), B.notSynchronized⟩
  have hA : ∀ q : Nat, s.heap.size ≤ q → va_A (wl_X3_isBinding ad cs PL L_a L_b court_shoeCount court_claimCount court_suitCount court_shoeSort court_shoeDay court_laws inq_day inq_land inq_shoeLeftOut inq_names inq_stack inq_judgedShoes inq_bindingShoes L_n L_code) s.heap.size q := fun q h => Or.inr h
  have hl := lv_entry ([.ref (ad 15), .int x1, .int x2]) (n := 3) (Nat.le_of_ble_eq_true rfl)
  rw [lg_entry_eq]
  generalize (lg_sl ([.ref (ad 15), .int x1, .int x2]) ++ List.replicate (3 - (lg_sl ([.ref (ad 15), .int x1, .int x2])).length) Slot.unset).toArray = ls at hl ⊢
  exact L_X3_isBinding_0 C0 hK hA hLA   x1 x2 inq_names inq_stack inq_judgedShoes inq_bindingShoes h s.heap [] ls hP hD va_S.rf hl
