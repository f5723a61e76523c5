theorem kw_1341 : Cond.fieldLink RX12 362 "AlreadyJudgedModel" "wished" "I" ∈ zW := zwC (i := 67) zc_6 rfl rfl
theorem kw_1342 : Cond.fieldLink RX12 115 "AlreadyJudgedModel" "wishClaim" "[I" ∈ zW := zwC (i := 68) zc_6 rfl rfl
theorem kw_1343 : Cond.fieldLink RX12 118 "AlreadyJudgedModel" "wishWon" "[I" ∈ zW := zwC (i := 69) zc_6 rfl rfl
theorem zh_cX12_wish_0 : zck [42, 27, 182, 0, 182, 153, 0, 12, 28, 3, 4, 184, 0, 147, 154, 0, 5, 2, 172, 3, 62, 29] (zdu 0 cX12_wish.data.toList) = true := by decide +kernel
theorem dX12_wish_0 : decode cX12_wish 0 = .ok (.aload_n 0, 1) := zo_42 zh_cX12_wish_0 0 rfl
theorem dX12_wish_1 : decode cX12_wish 1 = .ok (.iload_n 1, 1) := zo_27 zh_cX12_wish_0 1 rfl
theorem dX12_wish_2 : decode cX12_wish 2 = .ok (.invokevirtual 182, 3) := zo_182 zh_cX12_wish_0 2 rfl
theorem dX12_wish_5 : decode cX12_wish 5 = .ok (.ifCond .eq 12, 3) := zo_p153 zh_cX12_wish_0 5 12 rfl rfl
theorem dX12_wish_8 : decode cX12_wish 8 = .ok (.iload_n 2, 1) := zo_28 zh_cX12_wish_0 8 rfl
theorem dX12_wish_9 : decode cX12_wish 9 = .ok (.iconst 0, 1) := zo_3 zh_cX12_wish_0 9 rfl
theorem dX12_wish_10 : decode cX12_wish 10 = .ok (.iconst 1, 1) := zo_4 zh_cX12_wish_0 10 rfl
theorem dX12_wish_11 : decode cX12_wish 11 = .ok (.invokestatic 147, 3) := zo_184 zh_cX12_wish_0 11 rfl
theorem dX12_wish_14 : decode cX12_wish 14 = .ok (.ifCond .ne 5, 3) := zo_p154 zh_cX12_wish_0 14 5 rfl rfl
theorem dX12_wish_17 : decode cX12_wish 17 = .ok (.iconst (-1), 1) := zo_2 zh_cX12_wish_0 17 rfl
theorem dX12_wish_18 : decode cX12_wish 18 = .ok (.ireturn, 1) := zo_172 zh_cX12_wish_0 18 rfl
theorem dX12_wish_19 : decode cX12_wish 19 = .ok (.iconst 0, 1) := zo_3 zh_cX12_wish_0 19 rfl
theorem zh_cX12_wish_1 : zck [62, 29, 42, 180, 1, 106, 162, 0, 21, 42, 180, 0, 115, 29, 46, 27, 160, 0, 5, 2, 172, 132] (zdu 20 cX12_wish.data.toList) = true := by decide +kernel
theorem dX12_wish_20 : decode cX12_wish 20 = .ok (.istore_n 3, 1) := zo_62 zh_cX12_wish_1 0 rfl
theorem dX12_wish_21 : decode cX12_wish 21 = .ok (.iload_n 3, 1) := zo_29 zh_cX12_wish_1 1 rfl
theorem dX12_wish_22 : decode cX12_wish 22 = .ok (.aload_n 0, 1) := zo_42 zh_cX12_wish_1 2 rfl
theorem dX12_wish_23 : decode cX12_wish 23 = .ok (.getfield 362, 3) := zo_180 zh_cX12_wish_1 3 rfl
theorem dX12_wish_26 : decode cX12_wish 26 = .ok (.if_icmp .ge 21, 3) := zo_p162 zh_cX12_wish_1 6 21 rfl rfl
theorem dX12_wish_29 : decode cX12_wish 29 = .ok (.aload_n 0, 1) := zo_42 zh_cX12_wish_1 9 rfl
theorem dX12_wish_30 : decode cX12_wish 30 = .ok (.getfield 115, 3) := zo_180 zh_cX12_wish_1 10 rfl
theorem dX12_wish_33 : decode cX12_wish 33 = .ok (.iload_n 3, 1) := zo_29 zh_cX12_wish_1 13 rfl
theorem dX12_wish_34 : decode cX12_wish 34 = .ok (.iaload, 1) := zo_46 zh_cX12_wish_1 14 rfl
theorem dX12_wish_35 : decode cX12_wish 35 = .ok (.iload_n 1, 1) := zo_27 zh_cX12_wish_1 15 rfl
theorem dX12_wish_36 : decode cX12_wish 36 = .ok (.if_icmp .ne 5, 3) := zo_p160 zh_cX12_wish_1 16 5 rfl rfl
theorem dX12_wish_39 : decode cX12_wish 39 = .ok (.iconst (-1), 1) := zo_2 zh_cX12_wish_1 19 rfl
theorem zh_cX12_wish_2 : zck [172, 132, 3, 1, 167, 255, 233, 42, 180, 1, 106, 8, 160, 0, 6, 16, 253, 172, 42, 180, 0, 115] (zdu 40 cX12_wish.data.toList) = true := by decide +kernel
theorem dX12_wish_40 : decode cX12_wish 40 = .ok (.ireturn, 1) := zo_172 zh_cX12_wish_2 0 rfl
theorem dX12_wish_41 : decode cX12_wish 41 = .ok (.iinc 3 1, 3) := zo_p132 zh_cX12_wish_2 1 1 rfl rfl
theorem dX12_wish_44 : decode cX12_wish 44 = .ok (.goto (-23), 3) := zo_n167 zh_cX12_wish_2 4 22 rfl rfl
theorem dX12_wish_47 : decode cX12_wish 47 = .ok (.aload_n 0, 1) := zo_42 zh_cX12_wish_2 7 rfl
theorem dX12_wish_48 : decode cX12_wish 48 = .ok (.getfield 362, 3) := zo_180 zh_cX12_wish_2 8 rfl
theorem dX12_wish_51 : decode cX12_wish 51 = .ok (.iconst 5, 1) := zo_8 zh_cX12_wish_2 11 rfl
theorem dX12_wish_52 : decode cX12_wish 52 = .ok (.if_icmp .ne 6, 3) := zo_p160 zh_cX12_wish_2 12 6 rfl rfl
theorem dX12_wish_55 : decode cX12_wish 55 = .ok (.bipush (-3), 2) := zo_n16 zh_cX12_wish_2 15 2 rfl rfl
theorem dX12_wish_57 : decode cX12_wish 57 = .ok (.ireturn, 1) := zo_172 zh_cX12_wish_2 17 rfl
theorem dX12_wish_58 : decode cX12_wish 58 = .ok (.aload_n 0, 1) := zo_42 zh_cX12_wish_2 18 rfl
theorem dX12_wish_59 : decode cX12_wish 59 = .ok (.getfield 115, 3) := zo_180 zh_cX12_wish_2 19 rfl
theorem zh_cX12_wish_3 : zck [0, 115, 42, 180, 1, 106, 27, 79, 42, 180, 0, 118, 42, 180, 1, 106, 28, 79, 42, 89, 180, 1] (zdu 60 cX12_wish.data.toList) = true := by decide +kernel
theorem dX12_wish_62 : decode cX12_wish 62 = .ok (.aload_n 0, 1) := zo_42 zh_cX12_wish_3 2 rfl
theorem dX12_wish_63 : decode cX12_wish 63 = .ok (.getfield 362, 3) := zo_180 zh_cX12_wish_3 3 rfl
theorem dX12_wish_66 : decode cX12_wish 66 = .ok (.iload_n 1, 1) := zo_27 zh_cX12_wish_3 6 rfl
theorem dX12_wish_67 : decode cX12_wish 67 = .ok (.iastore, 1) := zo_79 zh_cX12_wish_3 7 rfl
theorem dX12_wish_68 : decode cX12_wish 68 = .ok (.aload_n 0, 1) := zo_42 zh_cX12_wish_3 8 rfl
theorem dX12_wish_69 : decode cX12_wish 69 = .ok (.getfield 118, 3) := zo_180 zh_cX12_wish_3 9 rfl
theorem dX12_wish_72 : decode cX12_wish 72 = .ok (.aload_n 0, 1) := zo_42 zh_cX12_wish_3 12 rfl
theorem dX12_wish_73 : decode cX12_wish 73 = .ok (.getfield 362, 3) := zo_180 zh_cX12_wish_3 13 rfl
theorem dX12_wish_76 : decode cX12_wish 76 = .ok (.iload_n 2, 1) := zo_28 zh_cX12_wish_3 16 rfl
theorem dX12_wish_77 : decode cX12_wish 77 = .ok (.iastore, 1) := zo_79 zh_cX12_wish_3 17 rfl
theorem dX12_wish_78 : decode cX12_wish 78 = .ok (.aload_n 0, 1) := zo_42 zh_cX12_wish_3 18 rfl
theorem dX12_wish_79 : decode cX12_wish 79 = .ok (.dup, 1) := zo_89 zh_cX12_wish_3 19 rfl
theorem zh_cX12_wish_4 : zck [180, 1, 106, 4, 96, 181, 1, 106, 42, 180, 1, 106, 172] (zdu 80 cX12_wish.data.toList) = true := by decide +kernel
theorem dX12_wish_80 : decode cX12_wish 80 = .ok (.getfield 362, 3) := zo_180 zh_cX12_wish_4 0 rfl
theorem dX12_wish_83 : decode cX12_wish 83 = .ok (.iconst 1, 1) := zo_4 zh_cX12_wish_4 3 rfl
theorem dX12_wish_84 : decode cX12_wish 84 = .ok (.iadd, 1) := zo_96 zh_cX12_wish_4 4 rfl
theorem dX12_wish_85 : decode cX12_wish 85 = .ok (.putfield 362, 3) := zo_181 zh_cX12_wish_4 5 rfl
theorem dX12_wish_88 : decode cX12_wish 88 = .ok (.aload_n 0, 1) := zo_42 zh_cX12_wish_4 8 rfl
theorem dX12_wish_89 : decode cX12_wish 89 = .ok (.getfield 362, 3) := zo_180 zh_cX12_wish_4 9 rfl
theorem dX12_wish_92 : decode cX12_wish 92 = .ok (.ireturn, 1) := zo_172 zh_cX12_wish_4 12 rfl
abbrev z_X12_wish : List Cond := .code yX12_wish cX12_wish 4 (some .int) :: zW
abbrev wl_X12_wish (ad : Nat → Nat) (cs : Nat → ClassId)  (mod_code : Int32) (mod_shoes : Int32) (mod_claims : Int32) (mod_taped : Int32) (mod_here : Int32) (mod_fault : Int32) (mod_suits : Int32) (mod_doneMany : Int32) (mod_undoneMany : Int32) (mod_open : Int32) (mod_laid : Int32) (mod_isBoth : Int32) (mod_wished : Int32) (mod_bestMany : Int32) (mod_bestRow : Int32) (mod_ringDigits : Int32) (mod_traces : Int32) (mod_wishClaim : Nat → Int32) (mod_wishWon : Nat → Int32) : va_W := [((ad 41), .inr (12, [.int mod_code, .int mod_shoes, .ref (ad 42), .ref (ad 43), .ref (ad 44), .ref (ad 45), .int mod_claims, .ref (ad 46), .ref (ad 47), .ref (ad 48), .ref (ad 49), .ref (ad 50), .int mod_taped, .int mod_here, .int mod_fault, .int mod_suits, .ref (ad 51), .ref (ad 52), .ref (ad 53), .ref (ad 54), .ref (ad 55), .ref (ad 56), .ref (ad 57), .ref (ad 58), .ref (ad 59), .ref (ad 60), .ref (ad 61), .int mod_doneMany, .int mod_undoneMany, .ref (ad 62), .ref (ad 63), .ref (ad 64), .ref (ad 65), .int mod_open, .int mod_laid, .ref (ad 66), .ref (ad 67), .ref (ad 68), .ref (ad 69), .ref (ad 70), .ref (ad 71), .ref (ad 72), .ref (ad 73), .ref (ad 74), .ref (ad 75), .int mod_isBoth, .int mod_wished, .ref (ad 76), .ref (ad 77), .int mod_bestMany, .int mod_bestRow, .ref (ad 78), .ref (ad 79), .int mod_ringDigits, .int mod_traces, .ref (ad 80), .ref (ad 81), .ref (ad 82), .ref (ad 83), .ref (ad 84)])), ((ad 76), .inl (cs 0, 5, .inl mod_wishClaim)), ((ad 77), .inl (cs 0, 5, .inl mod_wishWon))]
def Q_X12_wish (D : va_G) (cs : Nat → ClassId) (ad : Nat → Nat)  (mod_code : Int32) (mod_shoes : Int32) (mod_claims : Int32) (mod_taped : Int32) (mod_here : Int32) (mod_fault : Int32) (mod_suits : Int32) (mod_doneMany : Int32) (mod_undoneMany : Int32) (mod_open : Int32) (mod_laid : Int32) (mod_isBoth : Int32) (mod_bestMany : Int32) (mod_bestRow : Int32) (mod_ringDigits : Int32) (mod_traces : Int32) (A : Nat → Prop) (R : Int32 × Int32 × (Nat → Int32) × (Nat → Int32)) : Array Value → State → Outcome → State → Prop :=
  va_Qi (fun (r : Int32) (u : Int32 × (Nat → Int32) × (Nat → Int32)) => (r, u) = R) (fun (u : Int32 × (Nat → Int32) × (Nat → Int32)) (t : State) => va_P D classes (wl_X12_wish ad cs mod_code mod_shoes mod_claims mod_taped mod_here mod_fault mod_suits mod_doneMany mod_undoneMany mod_open mod_laid mod_isBoth u.1 mod_bestMany mod_bestRow mod_ringDigits mod_traces u.2.1 u.2.2) t.heap ∧ va_D A (wl_X12_wish ad cs mod_code mod_shoes mod_claims mod_taped mod_here mod_fault mod_suits mod_doneMany mod_undoneMany mod_open mod_laid mod_isBoth u.1 mod_bestMany mod_bestRow mod_ringDigits mod_traces u.2.1 u.2.2)) A
abbrev rm_X12_wish : Room := { frames := 2, cells := 0, slots := 0, locals := 43 }
def B_X12_wish_21   (g21 : Int32 → Int32 → Int32 → Int32 → (Nat → Int32) → (Nat → Int32) → (Option (Int32 × Int32 × (Nat → Int32) × (Nat → Int32)))) (mod_code : Int32) (mod_shoes : Int32) (mod_claims : Int32) (mod_taped : Int32) (mod_here : Int32) (mod_fault : Int32) (mod_suits : Int32) (mod_doneMany : Int32) (mod_undoneMany : Int32) (mod_open : Int32) (mod_laid : Int32) (mod_isBoth : Int32) (mod_bestMany : Int32) (mod_bestRow : Int32) (mod_ringDigits : Int32) (mod_traces : Int32) (x1 : Int32) (x2 : Int32) (x3 : Int32) (mod_wished : Int32) (mod_wishClaim : Nat → Int32) (mod_wishWon : Nat → Int32) : Option (Int32 × Int32 × (Nat → Int32) × (Nat → Int32)) :=
  (if mod_wished ≤ x3 then (if mod_wished = (5 : Int32) then (some ((-3 : Int32), mod_wished, mod_wishClaim, mod_wishWon)) else (if (mod_wished < 0 ∨ 5 ≤ mod_wished.toNatClampNeg) then none else (zk_let (upd mod_wishClaim mod_wished.toNatClampNeg x1) (fun f_12 => (if (mod_wished < 0 ∨ 5 ≤ mod_wished.toNatClampNeg) then none else (zk_let (upd mod_wishWon mod_wished.toNatClampNeg x2) (fun f_14 => (zk_let (mod_wished + (1 : Int32)) (fun v_15 => (some (v_15, v_15, f_12, f_14))))))))))) else (if (x3 < 0 ∨ 5 ≤ x3.toNatClampNeg) then none else (if (mod_wishClaim x3.toNatClampNeg) = x1 then (some ((-1 : Int32), mod_wished, mod_wishClaim, mod_wishWon)) else (zk_let (x3 + (1 : Int32)) (fun v_18 => (g21 x1 x2 v_18 mod_wished mod_wishClaim mod_wishWon))))))
def B_X12_wish_0   (g21 : Int32 → Int32 → Int32 → Int32 → (Nat → Int32) → (Nat → Int32) → (Option (Int32 × Int32 × (Nat → Int32) × (Nat → Int32)))) (mod_code : Int32) (mod_shoes : Int32) (mod_claims : Int32) (mod_taped : Int32) (mod_here : Int32) (mod_fault : Int32) (mod_suits : Int32) (mod_doneMany : Int32) (mod_undoneMany : Int32) (mod_open : Int32) (mod_laid : Int32) (mod_isBoth : Int32) (mod_bestMany : Int32) (mod_bestRow : Int32) (mod_ringDigits : Int32) (mod_traces : Int32) (x1 : Int32) (x2 : Int32) (mod_wished : Int32) (mod_wishClaim : Nat → Int32) (mod_wishWon : Nat → Int32) : Option (Int32 × Int32 × (Nat → Int32) × (Nat → Int32)) :=
  (zk_b2 (f_X12_isClaim x1 mod_code mod_shoes mod_claims mod_taped mod_here mod_fault mod_suits mod_doneMany mod_undoneMany mod_open mod_laid mod_isBoth mod_wished mod_bestMany mod_bestRow mod_ringDigits mod_traces) (fun r_1 u_2 => (if r_1 = 0 then (some ((-1 : Int32), mod_wished, mod_wishClaim, mod_wishWon)) else (zk_b2 (f_X12_in x2 (0 : Int32) (1 : Int32)) (fun r_5 u_6 => (if r_5 = 0 then (some ((-1 : Int32), mod_wished, mod_wishClaim, mod_wishWon)) else (g21 x1 x2 (0 : Int32) mod_wished mod_wishClaim mod_wishWon)))))))
def G_X12_wish   (mod_code : Int32) (mod_shoes : Int32) (mod_claims : Int32) (mod_taped : Int32) (mod_here : Int32) (mod_fault : Int32) (mod_suits : Int32) (mod_doneMany : Int32) (mod_undoneMany : Int32) (mod_open : Int32) (mod_laid : Int32) (mod_isBoth : Int32) (mod_bestMany : Int32) (mod_bestRow : Int32) (mod_ringDigits : Int32) (mod_traces : Int32) (n : Nat) : (Int32 → Int32 → Int32 → Int32 → (Nat → Int32) → (Nat → Int32) → (Option (Int32 × Int32 × (Nat → Int32) × (Nat → Int32)))) :=
  Nat.rec (motive := fun _ => (Int32 → Int32 → Int32 → Int32 → (Nat → Int32) → (Nat → Int32) → (Option (Int32 × Int32 × (Nat → Int32) × (Nat → Int32))))) ((fun _ _ _ _ _ _ => none)) (fun _ ih => (B_X12_wish_21   ih mod_code mod_shoes mod_claims mod_taped mod_here mod_fault mod_suits mod_doneMany mod_undoneMany mod_open mod_laid mod_isBoth mod_bestMany mod_bestRow mod_ringDigits mod_traces)) n
def f_X12_wish   (n : Nat) (x1 : Int32) (x2 : Int32) (mod_code : Int32) (mod_shoes : Int32) (mod_claims : Int32) (mod_taped : Int32) (mod_here : Int32) (mod_fault : Int32) (mod_suits : Int32) (mod_doneMany : Int32) (mod_undoneMany : Int32) (mod_open : Int32) (mod_laid : Int32) (mod_isBoth : Int32) (mod_wished : Int32) (mod_bestMany : Int32) (mod_bestRow : Int32) (mod_ringDigits : Int32) (mod_traces : Int32) (mod_wishClaim : Nat → Int32) (mod_wishWon : Nat → Int32) : Option (Int32 × Int32 × (Nat → Int32) × (Nat → Int32)) := B_X12_wish_0   ((G_X12_wish   mod_code mod_shoes mod_claims mod_taped mod_here mod_fault mod_suits mod_doneMany mod_undoneMany mod_open mod_laid mod_isBoth mod_bestMany mod_bestRow mod_ringDigits mod_traces n)) mod_code mod_shoes mod_claims mod_taped mod_here mod_fault mod_suits mod_doneMany mod_undoneMany mod_open mod_laid mod_isBoth mod_bestMany mod_bestRow mod_ringDigits mod_traces x1 x2 mod_wished mod_wishClaim mod_wishWon
set_option maxHeartbeats 4000000 in
set_option maxRecDepth 100000 in
theorem L_X12_wish_21 {p : Program} {l : Launch} {e : Env} {s : State} {m : MethodId} {args : Array Value} {below : List Frame} {meth : Method} {c : Code} {A : Nat → Prop} {D : va_G} {cs : Nat → ClassId} {ad : Nat → Nat} {mod_code : Int32} {mod_shoes : Int32} {mod_claims : Int32} {mod_taped : Int32} {mod_here : Int32} {mod_fault : Int32} {mod_suits : Int32} {mod_doneMany : Int32} {mod_undoneMany : Int32} {mod_open : Int32} {mod_laid : Int32} {mod_isBoth : Int32} {mod_bestMany : Int32} {mod_bestRow : Int32} {mod_ringDigits : Int32} {mod_traces : Int32} {R : Int32 × Int32 × (Nat → Int32) × (Nat → Int32)} {g21 : Int32 → Int32 → Int32 → Int32 → (Nat → Int32) → (Nat → Int32) → (Option (Int32 × Int32 × (Nat → Int32) × (Nat → Int32)))} (C0 : zC p s m args meth c cX12_wish 4 (some .int) RX12 zW) (hK : va_K D classes (zT cs) s) (hA : ∀ q : Nat, s.heap.size ≤ q → A q) (ih21 : ∀ (x1 : Int32) (x2 : Int32) (x3 : Int32) (mod_wished : Int32) (mod_wishClaim : Nat → Int32) (mod_wishWon : Nat → Int32) (h : g21 x1 x2 x3 mod_wished mod_wishClaim mod_wishWon = some R) (H : Heap) (locs : List Loc) (ls : Array Slot) (hP : va_P D classes (wl_X12_wish ad cs mod_code mod_shoes mod_claims mod_taped mod_here mod_fault mod_suits mod_doneMany mod_undoneMany mod_open mod_laid mod_isBoth mod_wished mod_bestMany mod_bestRow mod_ringDigits mod_traces mod_wishClaim mod_wishWon) H) (hD : va_D A (wl_X12_wish ad cs mod_code mod_shoes mod_claims mod_taped mod_here mod_fault mod_suits mod_doneMany mod_undoneMany mod_open mod_laid mod_isBoth mod_wished mod_bestMany mod_bestRow mod_ringDigits mod_traces mod_wishClaim mod_wishWon)) (hS : va_S A s.heap H locs) (hl : lv_has ls 4 [(0, .ref (ad 41)), (1, .int x1), (2, .int x2), (3, .int x3)]), W p l e rm_X12_wish s m args below meth c H locs 0 0 (MQ below (Q_X12_wish D cs ad mod_code mod_shoes mod_claims mod_taped mod_here mod_fault mod_suits mod_doneMany mod_undoneMany mod_open mod_laid mod_isBoth mod_bestMany mod_bestRow mod_ringDigits mod_traces A R) args s 0 0 A) (F0 m 21 ls [])) (x1 : Int32) (x2 : Int32) (x3 : Int32) (mod_wished : Int32) (mod_wishClaim : Nat → Int32) (mod_wishWon : Nat → Int32) (h : B_X12_wish_21 g21 mod_code mod_shoes mod_claims mod_taped mod_here mod_fault mod_suits mod_doneMany mod_undoneMany mod_open mod_laid mod_isBoth mod_bestMany mod_bestRow mod_ringDigits mod_traces x1 x2 x3 mod_wished mod_wishClaim mod_wishWon = some R) (H : Heap) (locs : List Loc) (ls : Array Slot) (hP : va_P D classes (wl_X12_wish ad cs mod_code mod_shoes mod_claims mod_taped mod_here mod_fault mod_suits mod_doneMany mod_undoneMany mod_open mod_laid mod_isBoth mod_wished mod_bestMany mod_bestRow mod_ringDigits mod_traces mod_wishClaim mod_wishWon) H) (hD : va_D A (wl_X12_wish ad cs mod_code mod_shoes mod_claims mod_taped mod_here mod_fault mod_suits mod_doneMany mod_undoneMany mod_open mod_laid mod_isBoth mod_wished mod_bestMany mod_bestRow mod_ringDigits mod_traces mod_wishClaim mod_wishWon)) (hS : va_S A s.heap H locs) (hl : lv_has ls 4 [(0, .ref (ad 41)), (1, .int x1), (2, .int x2), (3, .int x3)]) : W p l e rm_X12_wish s m args below meth c H locs 0 0 (MQ below (Q_X12_wish D cs ad mod_code mod_shoes mod_claims mod_taped mod_here mod_fault mod_suits mod_doneMany mod_undoneMany mod_open mod_laid mod_isBoth mod_bestMany mod_bestRow mod_ringDigits mod_traces A R) args s 0 0 A) (F0 m 21 ls []) := by
  obtain ⟨hx, hb, hr, hml, hown, ht, hlocks⟩ := id C0
  refine lv_iload_n hx hb dX12_wish_21 rfl (lv_at hl 3 rfl) ?_
  refine lv_aload_n hx hb dX12_wish_22 rfl (lv_at hl 0 rfl) ?_
  refine va_get (D := D) (ci := 12) (v := .int mod_wished) (C := RX12) (T := TX12) (N := 60) hx hb ht iX12 hown hK hP 0 rfl rfl 46 (by decide) (ht _ kw_1341) (fun _ h9 => h9) rfl dX12_wish_23 ?_
  refine lv_icmp_ge (tgt := 47) hx hb dX12_wish_26 (by decide) (fun c_9 => ?_) (fun c_9 => ?_)
  · have h := zk_t c_9 h
    refine lv_aload_n hx hb dX12_wish_47 rfl (lv_at hl 0 rfl) ?_
    refine va_get (D := D) (ci := 12) (v := .int mod_wished) (C := RX12) (T := TX12) (N := 60) hx hb ht iX12 hown hK hP 0 rfl rfl 46 (by decide) (ht _ kw_1341) (fun _ h9 => h9) rfl dX12_wish_48 ?_
    refine lv_iconst (v := (5 : Int32)) hx hb dX12_wish_51 (by decide) ?_
    refine lv_icmp_ne (tgt := 58) hx hb dX12_wish_52 (by decide) (fun c_10 => ?_) (fun c_10 => ?_)
    · have h := zk_f c_10 h
      refine lv_aload_n hx hb dX12_wish_58 rfl (lv_at hl 0 rfl) ?_
      refine va_get (D := D) (ci := 12) (v := .ref (ad 76)) (C := RX12) (T := TX12) (N := 60) hx hb ht iX12 hown hK hP 0 rfl rfl 47 (by decide) (ht _ kw_1342) (fun _ h9 => h9) rfl dX12_wish_59 ?_
      refine lv_aload_n hx hb dX12_wish_62 rfl (lv_at hl 0 rfl) ?_
      refine va_get (D := D) (ci := 12) (v := .int mod_wished) (C := RX12) (T := TX12) (N := 60) hx hb ht iX12 hown hK hP 0 rfl rfl 46 (by decide) (ht _ kw_1341) (fun _ h9 => h9) rfl dX12_wish_63 ?_
      refine lv_iload_n hx hb dX12_wish_66 rfl (lv_at hl 1 rfl) ?_
      obtain ⟨g_11, h⟩ := zk_gd h
      obtain ⟨f_12, ef_12, h⟩ := zk_lt h
      refine va_iast hx hb hK hP hD hS 1 0 rfl rfl g_11 dX12_wish_67 (fun H locs hP hD hS => ?_)
      have hP : va_P D classes (wl_X12_wish ad cs mod_code mod_shoes mod_claims mod_taped mod_here mod_fault mod_suits mod_doneMany mod_undoneMany mod_open mod_laid mod_isBoth mod_wished mod_bestMany mod_bestRow mod_ringDigits mod_traces f_12 mod_wishWon) H := by rw [ef_12]; exact hP
      have hD : va_D A (wl_X12_wish ad cs mod_code mod_shoes mod_claims mod_taped mod_here mod_fault mod_suits mod_doneMany mod_undoneMany mod_open mod_laid mod_isBoth mod_wished mod_bestMany mod_bestRow mod_ringDigits mod_traces f_12 mod_wishWon) := by rw [ef_12]; exact hD
      refine lv_aload_n hx hb dX12_wish_68 rfl (lv_at hl 0 rfl) ?_
      refine va_get (D := D) (ci := 12) (v := .ref (ad 77)) (C := RX12) (T := TX12) (N := 60) hx hb ht iX12 hown hK hP 0 rfl rfl 48 (by decide) (ht _ kw_1343) (fun _ h9 => h9) rfl dX12_wish_69 ?_
      refine lv_aload_n hx hb dX12_wish_72 rfl (lv_at hl 0 rfl) ?_
      refine va_get (D := D) (ci := 12) (v := .int mod_wished) (C := RX12) (T := TX12) (N := 60) hx hb ht iX12 hown hK hP 0 rfl rfl 46 (by decide) (ht _ kw_1341) (fun _ h9 => h9) rfl dX12_wish_73 ?_
      refine lv_iload_n hx hb dX12_wish_76 rfl (lv_at hl 2 rfl) ?_
      obtain ⟨g_13, h⟩ := zk_gd h
      obtain ⟨f_14, ef_14, h⟩ := zk_lt h
      refine va_iast hx hb hK hP hD hS 2 0 rfl rfl g_13 dX12_wish_77 (fun H locs hP hD hS => ?_)
      have hP : va_P D classes (wl_X12_wish ad cs mod_code mod_shoes mod_claims mod_taped mod_here mod_fault mod_suits mod_doneMany mod_undoneMany mod_open mod_laid mod_isBoth mod_wished mod_bestMany mod_bestRow mod_ringDigits mod_traces f_12 f_14) H := by rw [ef_14]; exact hP
      have hD : va_D A (wl_X12_wish ad cs mod_code mod_shoes mod_claims mod_taped mod_here mod_fault mod_suits mod_doneMany mod_undoneMany mod_open mod_laid mod_isBoth mod_wished mod_bestMany mod_bestRow mod_ringDigits mod_traces f_12 f_14) := by rw [ef_14]; exact hD
      refine lv_aload_n hx hb dX12_wish_78 rfl (lv_at hl 0 rfl) ?_
      refine lv_dup hx hb dX12_wish_79 rfl ?_
      refine va_get (D := D) (ci := 12) (v := .int mod_wished) (C := RX12) (T := TX12) (N := 60) hx hb ht iX12 hown hK hP 0 rfl rfl 46 (by decide) (ht _ kw_1341) (fun _ h9 => h9) rfl dX12_wish_80 ?_
      refine lv_iconst (v := (1 : Int32)) hx hb dX12_wish_83 (by decide) ?_
      refine lv_iadd hx hb dX12_wish_84 ?_
      obtain ⟨v_15, ev_15, h⟩ := zk_lt h
      refine W.eq (g2 := F0 m 85 ls [.int v_15, .ref (ad 41)]) (by rw [ev_15]) ?_
      refine va_put (D := D) (ci := 12) (v := .int v_15) (ty := .int) (C := RX12) (T := TX12) (N := 60) hx hb ht iX12 tyX12 tyX12_ok nmX12 hown hK hP hD hS 0 rfl rfl 46 (by decide) (ht _ kw_1341) (fun _ h9 => h9) rfl (by decide +kernel) rfl rfl (Nat.le_of_ble_eq_true rfl) dX12_wish_85 (fun H locs hP hD hS => ?_)
      have hP : va_P D classes (wl_X12_wish ad cs mod_code mod_shoes mod_claims mod_taped mod_here mod_fault mod_suits mod_doneMany mod_undoneMany mod_open mod_laid mod_isBoth v_15 mod_bestMany mod_bestRow mod_ringDigits mod_traces f_12 f_14) H := hP
      have hD : va_D A (wl_X12_wish ad cs mod_code mod_shoes mod_claims mod_taped mod_here mod_fault mod_suits mod_doneMany mod_undoneMany mod_open mod_laid mod_isBoth v_15 mod_bestMany mod_bestRow mod_ringDigits mod_traces f_12 f_14) := hD
      refine lv_aload_n hx hb dX12_wish_88 rfl (lv_at hl 0 rfl) ?_
      refine va_get (D := D) (ci := 12) (v := .int v_15) (C := RX12) (T := TX12) (N := 60) hx hb ht iX12 hown hK hP 0 rfl rfl 46 (by decide) (ht _ kw_1341) (fun _ h9 => h9) rfl dX12_wish_89 ?_
      exact W.iret (v := v_15) hx hb hr (fun t ht2 hW => ⟨⟨v_15, (v_15, f_12, f_14), rfl, Option.some.inj h, by rw [ht2]; exact hP, hD⟩, hS.F ht2⟩) hS.2.2 dX12_wish_92 hlocks
    · have h := zk_t c_10 h
      refine lv_bipush (v := (-3 : Int32)) hx hb dX12_wish_55 (by decide) ?_
      exact W.iret (v := (-3 : Int32)) hx hb hr (fun t ht2 hW => ⟨⟨(-3 : Int32), (mod_wished, mod_wishClaim, mod_wishWon), rfl, Option.some.inj h, by rw [ht2]; exact hP, hD⟩, hS.F ht2⟩) hS.2.2 dX12_wish_57 hlocks
  · have h := zk_f c_9 h
    refine lv_aload_n hx hb dX12_wish_29 rfl (lv_at hl 0 rfl) ?_
    refine va_get (D := D) (ci := 12) (v := .ref (ad 76)) (C := RX12) (T := TX12) (N := 60) hx hb ht iX12 hown hK hP 0 rfl rfl 47 (by decide) (ht _ kw_1342) (fun _ h9 => h9) rfl dX12_wish_30 ?_
    refine lv_iload_n hx hb dX12_wish_33 rfl (lv_at hl 3 rfl) ?_
    obtain ⟨g_16, h⟩ := zk_gd h
    refine va_iald hx hb hK hP 1 0 rfl rfl g_16 dX12_wish_34 ?_
    refine lv_iload_n hx hb dX12_wish_35 rfl (lv_at hl 1 rfl) ?_
    refine lv_icmp_ne (tgt := 41) hx hb dX12_wish_36 (by decide) (fun c_17 => ?_) (fun c_17 => ?_)
    · have h := zk_f c_17 h
      obtain ⟨v_18, ev_18, h⟩ := zk_lt h
      refine lv_iinc (v := v_18) (lv' := [(3, .int v_18), (0, .ref (ad 41)), (1, .int x1), (2, .int x2)]) hx hb dX12_wish_41 hl (k := 3) rfl (by rw [ev_18]; rfl) (by decide) rfl (fun ls hl => ?_)
      refine lv_goto (tgt := 21) hx hb dX12_wish_44 (by decide) ?_
      exact ih21 x1 x2 v_18 mod_wished mod_wishClaim mod_wishWon h H locs ls hP hD hS (lv_sub hl [1, 2, 3, 0] rfl)
    · have h := zk_t c_17 h
      refine lv_iconst (v := (-1 : Int32)) hx hb dX12_wish_39 (by decide) ?_
      exact W.iret (v := (-1 : Int32)) hx hb hr (fun t ht2 hW => ⟨⟨(-1 : Int32), (mod_wished, mod_wishClaim, mod_wishWon), rfl, Option.some.inj h, by rw [ht2]; exact hP, hD⟩, hS.F ht2⟩) hS.2.2 dX12_wish_40 hlocks
set_option maxHeartbeats 4000000 in
set_option maxRecDepth 100000 in
theorem L_X12_wish_0 {p : Program} {l : Launch} {e : Env} {s : State} {m : MethodId} {args : Array Value} {below : List Frame} {meth : Method} {c : Code} {A : Nat → Prop} {D : va_G} {cs : Nat → ClassId} {ad : Nat → Nat} {mod_code : Int32} {mod_shoes : Int32} {mod_claims : Int32} {mod_taped : Int32} {mod_here : Int32} {mod_fault : Int32} {mod_suits : Int32} {mod_doneMany : Int32} {mod_undoneMany : Int32} {mod_open : Int32} {mod_laid : Int32} {mod_isBoth : Int32} {mod_bestMany : Int32} {mod_bestRow : Int32} {mod_ringDigits : Int32} {mod_traces : Int32} {R : Int32 × Int32 × (Nat → Int32) × (Nat → Int32)} {g21 : Int32 → Int32 → Int32 → Int32 → (Nat → Int32) → (Nat → Int32) → (Option (Int32 × Int32 × (Nat → Int32) × (Nat → Int32)))} (C0 : zC p s m args meth c cX12_wish 4 (some .int) RX12 zW) (hK : va_K D classes (zT cs) s) (hA : ∀ q : Nat, s.heap.size ≤ q → A q) (ih21 : ∀ (x1 : Int32) (x2 : Int32) (x3 : Int32) (mod_wished : Int32) (mod_wishClaim : Nat → Int32) (mod_wishWon : Nat → Int32) (h : g21 x1 x2 x3 mod_wished mod_wishClaim mod_wishWon = some R) (H : Heap) (locs : List Loc) (ls : Array Slot) (hP : va_P D classes (wl_X12_wish ad cs mod_code mod_shoes mod_claims mod_taped mod_here mod_fault mod_suits mod_doneMany mod_undoneMany mod_open mod_laid mod_isBoth mod_wished mod_bestMany mod_bestRow mod_ringDigits mod_traces mod_wishClaim mod_wishWon) H) (hD : va_D A (wl_X12_wish ad cs mod_code mod_shoes mod_claims mod_taped mod_here mod_fault mod_suits mod_doneMany mod_undoneMany mod_open mod_laid mod_isBoth mod_wished mod_bestMany mod_bestRow mod_ringDigits mod_traces mod_wishClaim mod_wishWon)) (hS : va_S A s.heap H locs) (hl : lv_has ls 4 [(0, .ref (ad 41)), (1, .int x1), (2, .int x2), (3, .int x3)]), W p l e rm_X12_wish s m args below meth c H locs 0 0 (MQ below (Q_X12_wish D cs ad mod_code mod_shoes mod_claims mod_taped mod_here mod_fault mod_suits mod_doneMany mod_undoneMany mod_open mod_laid mod_isBoth mod_bestMany mod_bestRow mod_ringDigits mod_traces A R) args s 0 0 A) (F0 m 21 ls [])) (x1 : Int32) (x2 : Int32) (mod_wished : Int32) (mod_wishClaim : Nat → Int32) (mod_wishWon : Nat → Int32) (h : B_X12_wish_0 g21 mod_code mod_shoes mod_claims mod_taped mod_here mod_fault mod_suits mod_doneMany mod_undoneMany mod_open mod_laid mod_isBoth mod_bestMany mod_bestRow mod_ringDigits mod_traces x1 x2 mod_wished mod_wishClaim mod_wishWon = some R) (H : Heap) (locs : List Loc) (ls : Array Slot) (hP : va_P D classes (wl_X12_wish ad cs mod_code mod_shoes mod_claims mod_taped mod_here mod_fault mod_suits mod_doneMany mod_undoneMany mod_open mod_laid mod_isBoth mod_wished mod_bestMany mod_bestRow mod_ringDigits mod_traces mod_wishClaim mod_wishWon) H) (hD : va_D A (wl_X12_wish ad cs mod_code mod_shoes mod_claims mod_taped mod_here mod_fault mod_suits mod_doneMany mod_undoneMany mod_open mod_laid mod_isBoth mod_wished mod_bestMany mod_bestRow mod_ringDigits mod_traces mod_wishClaim mod_wishWon)) (hS : va_S A s.heap H locs) (hl : lv_has ls 4 [(0, .ref (ad 41)), (1, .int x1), (2, .int x2)]) : W p l e rm_X12_wish s m args below meth c H locs 0 0 (MQ below (Q_X12_wish D cs ad mod_code mod_shoes mod_claims mod_taped mod_here mod_fault mod_suits mod_doneMany mod_undoneMany mod_open mod_laid mod_isBoth mod_bestMany mod_bestRow mod_ringDigits mod_traces A R) args s 0 0 A) (F0 m 0 ls []) := by
  obtain ⟨hx, hb, hr, hml, hown, ht, hlocks⟩ := id C0
  refine lv_aload_n hx hb dX12_wish_0 rfl (lv_at hl 0 rfl) ?_
  refine lv_iload_n hx hb dX12_wish_1 rfl (lv_at hl 1 rfl) ?_
  obtain ⟨r_1, u_2, hc_3, h⟩ := zk_o2 h
  refine zz_vi (post := (fun r u => (r, u) = (r_1, u_2))) (w1 := fun u => (wl_X12_isClaim ad cs mod_code mod_shoes mod_claims mod_taped mod_here mod_fault mod_suits mod_doneMany mod_undoneMany mod_open mod_laid mod_isBoth mod_wished mod_bestMany mod_bestRow mod_ringDigits mod_traces)) (As := [.int x1]) (rest := []) (c_X12_isClaim l D cs ad  H.size x1 mod_code mod_shoes mod_claims mod_taped mod_here mod_fault mod_suits mod_doneMany mod_undoneMany mod_open mod_laid mod_isBoth mod_wished mod_bestMany mod_bestRow mod_ringDigits mod_traces (r_1, u_2) hc_3) ⟨hx, hb, hml, hown, ht⟩ (cwV 1 ht g_X12_182 rfl rfl rfl ⟨rfl, hd_X12_isClaim⟩ ⟨Nat.le_of_ble_eq_true rfl, Nat.le_of_ble_eq_true rfl⟩) (va_recv hK hP (ci := 12) (q0 := 0) rfl rfl) hP hD hS hK hA [0] rfl rfl [(ad 41)] rfl (fun _ => rfl) rfl hl.1 (Nat.le_of_ble_eq_true rfl) dX12_wish_2 ⟨Nat.zero_le _, Nat.zero_le _⟩ (fun r u H locs hq hP hS => ?_)
  cases hq
  have hP : va_P D classes (wl_X12_wish ad cs mod_code mod_shoes mod_claims mod_taped mod_here mod_fault mod_suits mod_doneMany mod_undoneMany mod_open mod_laid mod_isBoth mod_wished mod_bestMany mod_bestRow mod_ringDigits mod_traces mod_wishClaim mod_wishWon) H := hP
  have hD : va_D A (wl_X12_wish ad cs mod_code mod_shoes mod_claims mod_taped mod_here mod_fault mod_suits mod_doneMany mod_undoneMany mod_open mod_laid mod_isBoth mod_wished mod_bestMany mod_bestRow mod_ringDigits mod_traces mod_wishClaim mod_wishWon) := zDk hD [(ad 41), (ad 76), (ad 77)] rfl rfl
  refine lv_if_eq (tgt := 17) hx hb dX12_wish_5 (by decide) (fun c_4 => ?_) (fun c_4 => ?_)
  · have h := zk_t c_4 h
    refine lv_iconst (v := (-1 : Int32)) hx hb dX12_wish_17 (by decide) ?_
    exact W.iret (v := (-1 : Int32)) hx hb hr (fun t ht2 hW => ⟨⟨(-1 : Int32), (mod_wished, mod_wishClaim, mod_wishWon), rfl, Option.some.inj h, by rw [ht2]; exact hP, hD⟩, hS.F ht2⟩) hS.2.2 dX12_wish_18 hlocks
  · have h := zk_f c_4 h
    refine lv_iload_n hx hb dX12_wish_8 rfl (lv_at hl 2 rfl) ?_
    refine lv_iconst (v := (0 : Int32)) hx hb dX12_wish_9 (by decide) ?_
    refine lv_iconst (v := (1 : Int32)) hx hb dX12_wish_10 (by decide) ?_
    obtain ⟨r_5, u_6, hc_7, h⟩ := zk_o2 h
    refine zz_si (post := (fun r u => (r, u) = (r_5, u_6))) (w1 := fun u => (wl_X12_in ad cs )) (As := [.int x2, .int (0 : Int32), .int (1 : Int32)]) (rest := []) (c_X12_in l D cs ad  H.size x2 (0 : Int32) (1 : Int32) (r_5, u_6) hc_7) ⟨hx, hb, hml, hown, ht⟩ (va_cwS 3 ht g_X12_147 rfl rfl rfl hd_X12_in ⟨Nat.le_of_ble_eq_true rfl, Nat.le_of_ble_eq_true rfl⟩) hP hD hS hK hA [] rfl rfl [] rfl (fun _ => rfl) rfl hl.1 (Nat.le_of_ble_eq_true rfl) dX12_wish_11 ⟨Nat.zero_le _, Nat.zero_le _⟩ (fun r u H locs hq hP hS => ?_)
    cases hq
    have hP : va_P D classes (wl_X12_wish ad cs mod_code mod_shoes mod_claims mod_taped mod_here mod_fault mod_suits mod_doneMany mod_undoneMany mod_open mod_laid mod_isBoth mod_wished mod_bestMany mod_bestRow mod_ringDigits mod_traces mod_wishClaim mod_wishWon) H := hP
    refine lv_if_ne (tgt := 19) hx hb dX12_wish_14 (by decide) (fun c_8 => ?_) (fun c_8 => ?_)
    · have h := zk_f c_8 h
      refine lv_iconst (v := (0 : Int32)) hx hb dX12_wish_19 (by decide) ?_
      refine lv_istore_n (lv' := [(3, .int (0 : Int32)), (0, .ref (ad 41)), (1, .int x1), (2, .int x2)]) hx hb dX12_wish_20 rfl hl (by decide) rfl (fun ls hl => ?_)
      exact ih21 x1 x2 (0 : Int32) mod_wished mod_wishClaim mod_wishWon h H locs ls hP hD hS (lv_sub hl [1, 2, 3, 0] rfl)
    · have h := zk_t c_8 h
      refine lv_iconst (v := (-1 : Int32)) hx hb dX12_wish_17 (by decide) ?_
      exact W.iret (v := (-1 : Int32)) hx hb hr (fun t ht2 hW => ⟨⟨(-1 : Int32), (mod_wished, mod_wishClaim, mod_wishWon), rfl, Option.some.inj h, by rw [ht2]; exact hP, hD⟩, hS.F ht2⟩) hS.2.2 dX12_wish_18 hlocks
theorem LG_X12_wish {p : Program} {l : Launch} {e : Env} {s : State} {m : MethodId} {args : Array Value} {below : List Frame} {meth : Method} {c : Code} {A : Nat → Prop} {D : va_G} {cs : Nat → ClassId} {ad : Nat → Nat} {mod_code : Int32} {mod_shoes : Int32} {mod_claims : Int32} {mod_taped : Int32} {mod_here : Int32} {mod_fault : Int32} {mod_suits : Int32} {mod_doneMany : Int32} {mod_undoneMany : Int32} {mod_open : Int32} {mod_laid : Int32} {mod_isBoth : Int32} {mod_bestMany : Int32} {mod_bestRow : Int32} {mod_ringDigits : Int32} {mod_traces : Int32} {R : Int32 × Int32 × (Nat → Int32) × (Nat → Int32)} (C0 : zC p s m args meth c cX12_wish 4 (some .int) RX12 zW) (hK : va_K D classes (zT cs) s) (hA : ∀ q : Nat, s.heap.size ≤ q → A q) : ∀ n : Nat, (∀ (x1 : Int32) (x2 : Int32) (x3 : Int32) (mod_wished : Int32) (mod_wishClaim : Nat → Int32) (mod_wishWon : Nat → Int32) (h : (G_X12_wish   mod_code mod_shoes mod_claims mod_taped mod_here mod_fault mod_suits mod_doneMany mod_undoneMany mod_open mod_laid mod_isBoth mod_bestMany mod_bestRow mod_ringDigits mod_traces n) x1 x2 x3 mod_wished mod_wishClaim mod_wishWon = some R) (H : Heap) (locs : List Loc) (ls : Array Slot) (hP : va_P D classes (wl_X12_wish ad cs mod_code mod_shoes mod_claims mod_taped mod_here mod_fault mod_suits mod_doneMany mod_undoneMany mod_open mod_laid mod_isBoth mod_wished mod_bestMany mod_bestRow mod_ringDigits mod_traces mod_wishClaim mod_wishWon) H) (hD : va_D A (wl_X12_wish ad cs mod_code mod_shoes mod_claims mod_taped mod_here mod_fault mod_suits mod_doneMany mod_undoneMany mod_open mod_laid mod_isBoth mod_wished mod_bestMany mod_bestRow mod_ringDigits mod_traces mod_wishClaim mod_wishWon)) (hS : va_S A s.heap H locs) (hl : lv_has ls 4 [(0, .ref (ad 41)), (1, .int x1), (2, .int x2), (3, .int x3)]), W p l e rm_X12_wish s m args below meth c H locs 0 0 (MQ below (Q_X12_wish D cs ad mod_code mod_shoes mod_claims mod_taped mod_here mod_fault mod_suits mod_doneMany mod_undoneMany mod_open mod_laid mod_isBoth mod_bestMany mod_bestRow mod_ringDigits mod_traces A R) args s 0 0 A) (F0 m 21 ls [])) := by
  intro n
  induction n with
  | zero =>
    refine ?_ <;> (intros; rename_i h _ _ _ _ _ _ _; cases h)
  | succ n ih =>
    exact L_X12_wish_21 C0 hK hA  ih
set_option maxHeartbeats 4000000 in
set_option maxRecDepth 100000 in
theorem c_X12_wish (l : Launch) (D : va_G) (cs : Nat → ClassId) (ad : Nat → Nat) (sz : Nat) (n : Nat) (x1 : Int32) (x2 : Int32) (mod_code : Int32) (mod_shoes : Int32) (mod_claims : Int32) (mod_taped : Int32) (mod_here : Int32) (mod_fault : Int32) (mod_suits : Int32) (mod_doneMany : Int32) (mod_undoneMany : Int32) (mod_open : Int32) (mod_laid : Int32) (mod_isBoth : Int32) (mod_wished : Int32) (mod_bestMany : Int32) (mod_bestRow : Int32) (mod_ringDigits : Int32) (mod_traces : Int32) (mod_wishClaim : Nat → Int32) (mod_wishWon : Nat → Int32) (R : Int32 × Int32 × (Nat → Int32) × (Nat → Int32)) (h : f_X12_wish   n x1 x2 mod_code mod_shoes mod_claims mod_taped mod_here mod_fault mod_suits mod_doneMany mod_undoneMany mod_open mod_laid mod_isBoth mod_wished mod_bestMany mod_bestRow mod_ringDigits mod_traces mod_wishClaim mod_wishWon = some R) : Met l yX12_wish (z_X12_wish) rm_X12_wish (va_Pc [.ref (ad 41), .int x1, .int x2] (zPre D cs (wl_X12_wish ad cs mod_code mod_shoes mod_claims mod_taped mod_here mod_fault mod_suits mod_doneMany mod_undoneMany mod_open mod_laid mod_isBoth mod_wished mod_bestMany mod_bestRow mod_ringDigits mod_traces mod_wishClaim mod_wishWon) sz)) (Q_X12_wish D cs ad mod_code mod_shoes mod_claims mod_taped mod_here mod_fault mod_suits mod_doneMany mod_undoneMany mod_open mod_laid mod_isBoth mod_bestMany mod_bestRow mod_ringDigits mod_traces (va_A (wl_X12_wish ad cs mod_code mod_shoes mod_claims mod_taped mod_here mod_fault mod_suits mod_doneMany mod_undoneMany mod_open mod_laid mod_isBoth mod_wished mod_bestMany mod_bestRow mod_ringDigits mod_traces mod_wishClaim mod_wishWon) sz) R) 0 0 (va_A (wl_X12_wish ad cs mod_code mod_shoes mod_claims mod_taped mod_here mod_fault mod_suits mod_doneMany mod_undoneMany mod_open mod_laid mod_isBoth mod_wished mod_bestMany mod_bestRow mod_ringDigits mod_traces mod_wishClaim mod_wishWon) sz) := by
  refine Met.ofW (cc := cX12_wish) (maxL := 4) (ret := (some .int)) (by decide) rfl ?_
  intro p e s m args below meth c s₁ B hml hv
  obtain ⟨rfl, hsz, hP, hK, hD0⟩ := hv
  subst hsz
  have hD := hD0.self (sz := s.heap.size)
  have C0 : zC p s m _ meth c cX12_wish 4 (some .int) RX12 zW := ⟨B.exec, B.bytes, B.returns, hml, findClass_of_methodNamed B.named, fun w hw => atoms_spec (ws := z_X12_wish) B.pre w (List.mem_cons_of_mem _ hw), B.notSynchronized⟩
  have hA : ∀ q : Nat, s.heap.size ≤ q → va_A (wl_X12_wish ad cs mod_code mod_shoes mod_claims mod_taped mod_here mod_fault mod_suits mod_doneMany mod_undoneMany mod_open mod_laid mod_isBoth mod_wished mod_bestMany mod_bestRow mod_ringDigits mod_traces mod_wishClaim mod_wishWon) s.heap.size q := fun q h => Or.inr h
  have hl := lv_entry ([.ref (ad 41), .int x1, .int x2]) (n := 4) (Nat.le_of_ble_eq_true rfl)
  rw [lg_entry_eq]
  generalize (lg_sl ([.ref (ad 41), .int x1, .int x2]) ++ List.replicate (4 - (lg_sl ([.ref (ad 41), .int x1, .int x2])).length) Slot.unset).toArray = ls at hl ⊢
  exact L_X12_wish_0 C0 hK hA  ((LG_X12_wish C0 hK hA  n)) x1 x2 mod_wished mod_wishClaim mod_wishWon h s.heap [] ls hP hD va_S.rf hl
theorem zh_cX12_unwish_0 : zck [42, 180, 1, 106, 60, 42, 3, 181, 1, 106, 27, 172] (zdu 0 cX12_unwish.data.toList) = true := by decide +kernel
theorem dX12_unwish_0 : decode cX12_unwish 0 = .ok (.aload_n 0, 1) := zo_42 zh_cX12_unwish_0 0 rfl
theorem dX12_unwish_1 : decode cX12_unwish 1 = .ok (.getfield 362, 3) := zo_180 zh_cX12_unwish_0 1 rfl
theorem dX12_unwish_4 : decode cX12_unwish 4 = .ok (.istore_n 1, 1) := zo_60 zh_cX12_unwish_0 4 rfl
theorem dX12_unwish_5 : decode cX12_unwish 5 = .ok (.aload_n 0, 1) := zo_42 zh_cX12_unwish_0 5 rfl
theorem dX12_unwish_6 : decode cX12_unwish 6 = .ok (.iconst 0, 1) := zo_3 zh_cX12_unwish_0 6 rfl
theorem dX12_unwish_7 : decode cX12_unwish 7 = .ok (.putfield 362, 3) := zo_181 zh_cX12_unwish_0 7 rfl
theorem dX12_unwish_10 : decode cX12_unwish 10 = .ok (.iload_n 1, 1) := zo_27 zh_cX12_unwish_0 10 rfl
theorem dX12_unwish_11 : decode cX12_unwish 11 = .ok (.ireturn, 1) := zo_172 zh_cX12_unwish_0 11 rfl
abbrev z_X12_unwish : List Cond := .code yX12_unwish cX12_unwish 2 (some .int) :: zW
abbrev wl_X12_unwish (ad : Nat → Nat) (cs : Nat → ClassId)  (mod_code : Int32) (mod_shoes : Int32) (mod_claims : Int32) (mod_taped : Int32) (mod_here : Int32) (mod_fault : Int32) (mod_suits : Int32) (mod_doneMany : Int32) (mod_undoneMany : Int32) (mod_open : Int32) (mod_laid : Int32) (mod_isBoth : Int32) (mod_wished : Int32) (mod_bestMany : Int32) (mod_bestRow : Int32) (mod_ringDigits : Int32) (mod_traces : Int32) : va_W := [((ad 41), .inr (12, [.int mod_code, .int mod_shoes, .ref (ad 42), .ref (ad 43), .ref (ad 44), .ref (ad 45), .int mod_claims, .ref (ad 46), .ref (ad 47), .ref (ad 48), .ref (ad 49), .ref (ad 50), .int mod_taped, .int mod_here, .int mod_fault, .int mod_suits, .ref (ad 51), .ref (ad 52), .ref (ad 53), .ref (ad 54), .ref (ad 55), .ref (ad 56), .ref (ad 57), .ref (ad 58), .ref (ad 59), .ref (ad 60), .ref (ad 61), .int mod_doneMany, .int mod_undoneMany, .ref (ad 62), .ref (ad 63), .ref (ad 64), .ref (ad 65), .int mod_open, .int mod_laid, .ref (ad 66), .ref (ad 67), .ref (ad 68), .ref (ad 69), .ref (ad 70), .ref (ad 71), .ref (ad 72), .ref (ad 73), .ref (ad 74), .ref (ad 75), .int mod_isBoth, .int mod_wished, .ref (ad 76), .ref (ad 77), .int mod_bestMany, .int mod_bestRow, .ref (ad 78), .ref (ad 79), .int mod_ringDigits, .int mod_traces, .ref (ad 80), .ref (ad 81), .ref (ad 82), .ref (ad 83), .ref (ad 84)]))]
def Q_X12_unwish (D : va_G) (cs : Nat → ClassId) (ad : Nat → Nat)  (mod_code : Int32) (mod_shoes : Int32) (mod_claims : Int32) (mod_taped : Int32) (mod_here : Int32) (mod_fault : Int32) (mod_suits : Int32) (mod_doneMany : Int32) (mod_undoneMany : Int32) (mod_open : Int32) (mod_laid : Int32) (mod_isBoth : Int32) (mod_bestMany : Int32) (mod_bestRow : Int32) (mod_ringDigits : Int32) (mod_traces : Int32) (A : Nat → Prop) (R : Int32 × Int32) : Array Value → State → Outcome → State → Prop :=
  va_Qi (fun (r : Int32) (u : Int32) => (r, u) = R) (fun (u : Int32) (t : State) => va_P D classes (wl_X12_unwish ad cs mod_code mod_shoes mod_claims mod_taped mod_here mod_fault mod_suits mod_doneMany mod_undoneMany mod_open mod_laid mod_isBoth u mod_bestMany mod_bestRow mod_ringDigits mod_traces) t.heap ∧ va_D A (wl_X12_unwish ad cs mod_code mod_shoes mod_claims mod_taped mod_here mod_fault mod_suits mod_doneMany mod_undoneMany mod_open mod_laid mod_isBoth u mod_bestMany mod_bestRow mod_ringDigits mod_traces)) A
abbrev rm_X12_unwish : Room := { frames := 0, cells := 0, slots := 0, locals := 0 }
def B_X12_unwish_0    (mod_code : Int32) (mod_shoes : Int32) (mod_claims : Int32) (mod_taped : Int32) (mod_here : Int32) (mod_fault : Int32) (mod_suits : Int32) (mod_doneMany : Int32) (mod_undoneMany : Int32) (mod_open : Int32) (mod_laid : Int32) (mod_isBoth : Int32) (mod_bestMany : Int32) (mod_bestRow : Int32) (mod_ringDigits : Int32) (mod_traces : Int32) (mod_wished : Int32) : Option (Int32 × Int32) :=
  (some (mod_wished, (0 : Int32)))
def f_X12_unwish    (mod_code : Int32) (mod_shoes : Int32) (mod_claims : Int32) (mod_taped : Int32) (mod_here : Int32) (mod_fault : Int32) (mod_suits : Int32) (mod_doneMany : Int32) (mod_undoneMany : Int32) (mod_open : Int32) (mod_laid : Int32) (mod_isBoth : Int32) (mod_wished : Int32) (mod_bestMany : Int32) (mod_bestRow : Int32) (mod_ringDigits : Int32) (mod_traces : Int32) : Option (Int32 × Int32) := B_X12_unwish_0   mod_code mod_shoes mod_claims mod_taped mod_here mod_fault mod_suits mod_doneMany mod_undoneMany mod_open mod_laid mod_isBoth mod_bestMany mod_bestRow mod_ringDigits mod_traces  mod_wished
set_option maxHeartbeats 4000000 in
set_option maxRecDepth 100000 in
theorem L_X12_unwish_0 {p : Program} {l : Launch} {e : Env} {s : State} {m : MethodId} {args : Array Value} {below : List Frame} {meth : Method} {c : Code} {A : Nat → Prop} {D : va_G} {cs : Nat → ClassId} {ad : Nat → Nat} {mod_code : Int32} {mod_shoes : Int32} {mod_claims : Int32} {mod_taped : Int32} {mod_here : Int32} {mod_fault : Int32} {mod_suits : Int32} {mod_doneMany : Int32} {mod_undoneMany : Int32} {mod_open : Int32} {mod_laid : Int32} {mod_isBoth : Int32} {mod_bestMany : Int32} {mod_bestRow : Int32} {mod_ringDigits : Int32} {mod_traces : Int32} {R : Int32 × Int32} (C0 : zC p s m args meth c cX12_unwish 2 (some .int) RX12 zW) (hK : va_K D classes (zT cs) s) (hA : ∀ q : Nat, s.heap.size ≤ q → A q) (mod_wished : Int32) (h : B_X12_unwish_0 mod_code mod_shoes mod_claims mod_taped mod_here mod_fault mod_suits mod_doneMany mod_undoneMany mod_open mod_laid mod_isBoth mod_bestMany mod_bestRow mod_ringDigits mod_traces mod_wished = some R) (H : Heap) (locs : List Loc) (ls : Array Slot) (hP : va_P D classes (wl_X12_unwish ad cs mod_code mod_shoes mod_claims mod_taped mod_here mod_fault mod_suits mod_doneMany mod_undoneMany mod_open mod_laid mod_isBoth mod_wished mod_bestMany mod_bestRow mod_ringDigits mod_traces) H) (hD : va_D A (wl_X12_unwish ad cs mod_code mod_shoes mod_claims mod_taped mod_here mod_fault mod_suits mod_doneMany mod_undoneMany mod_open mod_laid mod_isBoth mod_wished mod_bestMany mod_bestRow mod_ringDigits mod_traces)) (hS : va_S A s.heap H locs) (hl : lv_has ls 2 [(0, .ref (ad 41))]) : W p l e rm_X12_unwish s m args below meth c H locs 0 0 (MQ below (Q_X12_unwish D cs ad mod_code mod_shoes mod_claims mod_taped mod_here mod_fault mod_suits mod_doneMany mod_undoneMany mod_open mod_laid mod_isBoth mod_bestMany mod_bestRow mod_ringDigits mod_traces A R) args s 0 0 A) (F0 m 0 ls []) := by
  obtain ⟨hx, hb, hr, hml, hown, ht, hlocks⟩ := id C0
  refine lv_aload_n hx hb dX12_unwish_0 rfl (lv_at hl 0 rfl) ?_
  refine va_get (D := D) (ci := 12) (v := .int mod_wished) (C := RX12) (T := TX12) (N := 60) hx hb ht iX12 hown hK hP 0 rfl rfl 46 (by decide) (ht _ kw_1341) (fun _ h9 => h9) rfl dX12_unwish_1 ?_
  refine lv_istore_n (lv' := [(1, .int mod_wished), (0, .ref (ad 41))]) hx hb dX12_unwish_4 rfl hl (by decide) rfl (fun ls hl => ?_)
  refine lv_aload_n hx hb dX12_unwish_5 rfl (lv_at hl 1 rfl) ?_
  refine lv_iconst (v := (0 : Int32)) hx hb dX12_unwish_6 (by decide) ?_
  refine va_put (D := D) (ci := 12) (v := .int (0 : Int32)) (ty := .int) (C := RX12) (T := TX12) (N := 60) hx hb ht iX12 tyX12 tyX12_ok nmX12 hown hK hP hD hS 0 rfl rfl 46 (by decide) (ht _ kw_1341) (fun _ h9 => h9) rfl (by decide +kernel) rfl rfl (Nat.le_of_ble_eq_true rfl) dX12_unwish_7 (fun H locs hP hD hS => ?_)
  have hP : va_P D classes (wl_X12_unwish ad cs mod_code mod_shoes mod_claims mod_taped mod_here mod_fault mod_suits mod_doneMany mod_undoneMany mod_open mod_laid mod_isBoth (0 : Int32) mod_bestMany mod_bestRow mod_ringDigits mod_traces) H := hP
  have hD : va_D A (wl_X12_unwish ad cs mod_code mod_shoes mod_claims mod_taped mod_here mod_fault mod_suits mod_doneMany mod_undoneMany mod_open mod_laid mod_isBoth (0 : Int32) mod_bestMany mod_bestRow mod_ringDigits mod_traces) := hD
  refine lv_iload_n hx hb dX12_unwish_10 rfl (lv_at hl 0 rfl) ?_
  exact W.iret (v := mod_wished) hx hb hr (fun t ht2 hW => ⟨⟨mod_wished, (0 : Int32), rfl, Option.some.inj h, by rw [ht2]; exact hP, hD⟩, hS.F ht2⟩) hS.2.2 dX12_unwish_11 hlocks
set_option maxHeartbeats 4000000 in
set_option maxRecDepth 100000 in
theorem c_X12_unwish (l : Launch) (D : va_G) (cs : Nat → ClassId) (ad : Nat → Nat) (sz : Nat)  (mod_code : Int32) (mod_shoes : Int32) (mod_claims : Int32) (mod_taped : Int32) (mod_here : Int32) (mod_fault : Int32) (mod_suits : Int32) (mod_doneMany : Int32) (mod_undoneMany : Int32) (mod_open : Int32) (mod_laid : Int32) (mod_isBoth : Int32) (mod_wished : Int32) (mod_bestMany : Int32) (mod_bestRow : Int32) (mod_ringDigits : Int32) (mod_traces : Int32) (R : Int32 × Int32) (h : f_X12_unwish    mod_code mod_shoes mod_claims mod_taped mod_here mod_fault mod_suits mod_doneMany mod_undoneMany mod_open mod_laid mod_isBoth mod_wished mod_bestMany mod_bestRow mod_ringDigits mod_traces = some R) : Met l yX12_unwish (z_X12_unwish) rm_X12_unwish (va_Pc [.ref (ad 41)] (zPre D cs (wl_X12_unwish ad cs mod_code mod_shoes mod_claims mod_taped mod_here mod_fault mod_suits mod_doneMany mod_undoneMany mod_open mod_laid mod_isBoth mod_wished mod_bestMany mod_bestRow mod_ringDigits mod_traces) sz)) (Q_X12_unwish D cs ad mod_code mod_shoes mod_claims mod_taped mod_here mod_fault mod_suits mod_doneMany mod_undoneMany mod_open mod_laid mod_isBoth mod_bestMany mod_bestRow mod_ringDigits mod_traces (va_A (wl_X12_unwish ad cs mod_code mod_shoes mod_claims mod_taped mod_here mod_fault mod_suits mod_doneMany mod_undoneMany mod_open mod_laid mod_isBoth mod_wished mod_bestMany mod_bestRow mod_ringDigits mod_traces) sz) R) 0 0 (va_A (wl_X12_unwish ad cs mod_code mod_shoes mod_claims mod_taped mod_here mod_fault mod_suits mod_doneMany mod_undoneMany mod_open mod_laid mod_isBoth mod_wished mod_bestMany mod_bestRow mod_ringDigits mod_traces) sz) := by
  refine Met.ofW (cc := cX12_unwish) (maxL := 2) (ret := (some .int)) (by decide) rfl ?_
  intro p e s m args below meth c s₁ B hml hv
  obtain ⟨rfl, hsz, hP, hK, hD0⟩ := hv
  subst hsz
  have hD := hD0.self (sz := s.heap.size)
  have C0 : zC p s m _ meth c cX12_unwish 2 (some .int) RX12 zW := ⟨B.exec, B.bytes, B.returns, hml, findClass_of_methodNamed B.named, fun w hw => atoms_spec (ws := z_X12_unwish) B.pre w (List.mem_cons_of_mem _ hw), B.notSynchronized⟩
  have hA : ∀ q : Nat, s.heap.size ≤ q → va_A (wl_X12_unwish ad cs mod_code mod_shoes mod_claims mod_taped mod_here mod_fault mod_suits mod_doneMany mod_undoneMany mod_open mod_laid mod_isBoth mod_wished mod_bestMany mod_bestRow mod_ringDigits mod_traces) s.heap.size q := fun q h => Or.inr h
  have hl := lv_entry ([.ref (ad 41)]) (n := 2) (Nat.le_of_ble_eq_true rfl)
  rw [lg_entry_eq]
  generalize (lg_sl ([.ref (ad 41)]) ++ List.replicate (2 - (lg_sl ([.ref (ad 41)])).length) Slot.unset).toArray = ls at hl ⊢
  exact L_X12_unwish_0 C0 hK hA    mod_wished h s.heap [] ls hP hD va_S.rf hl
theorem zh_cX12_tryOut_0 : zck [16, 40, 28, 96, 54, 5, 42, 180, 0, 115, 27, 46, 54, 6, 42, 180, 0, 38, 21, 5, 42, 180] (zdu 0 cX12_tryOut.data.toList) = true := by decide +kernel
theorem dX12_tryOut_0 : decode cX12_tryOut 0 = .ok (.bipush 40, 2) := zo_p16 zh_cX12_tryOut_0 0 40 rfl rfl
theorem dX12_tryOut_2 : decode cX12_tryOut 2 = .ok (.iload_n 2, 1) := zo_28 zh_cX12_tryOut_0 2 rfl
theorem dX12_tryOut_3 : decode cX12_tryOut 3 = .ok (.iadd, 1) := zo_96 zh_cX12_tryOut_0 3 rfl
theorem dX12_tryOut_4 : decode cX12_tryOut 4 = .ok (.istore 5, 2) := zo_54 zh_cX12_tryOut_0 4 rfl
theorem dX12_tryOut_6 : decode cX12_tryOut 6 = .ok (.aload_n 0, 1) := zo_42 zh_cX12_tryOut_0 6 rfl
theorem dX12_tryOut_7 : decode cX12_tryOut 7 = .ok (.getfield 115, 3) := zo_180 zh_cX12_tryOut_0 7 rfl
theorem dX12_tryOut_10 : decode cX12_tryOut 10 = .ok (.iload_n 1, 1) := zo_27 zh_cX12_tryOut_0 10 rfl
theorem dX12_tryOut_11 : decode cX12_tryOut 11 = .ok (.iaload, 1) := zo_46 zh_cX12_tryOut_0 11 rfl
theorem dX12_tryOut_12 : decode cX12_tryOut 12 = .ok (.istore 6, 2) := zo_54 zh_cX12_tryOut_0 12 rfl
theorem dX12_tryOut_14 : decode cX12_tryOut 14 = .ok (.aload_n 0, 1) := zo_42 zh_cX12_tryOut_0 14 rfl
theorem dX12_tryOut_15 : decode cX12_tryOut 15 = .ok (.getfield 38, 3) := zo_180 zh_cX12_tryOut_0 15 rfl
theorem dX12_tryOut_18 : decode cX12_tryOut 18 = .ok (.iload 5, 2) := zo_21 zh_cX12_tryOut_0 18 rfl
theorem zh_cX12_tryOut_1 : zck [42, 180, 0, 22, 21, 6, 46, 79, 42, 180, 0, 41, 21, 5, 42, 180, 0, 25, 21, 6, 46, 79] (zdu 20 cX12_tryOut.data.toList) = true := by decide +kernel
theorem dX12_tryOut_20 : decode cX12_tryOut 20 = .ok (.aload_n 0, 1) := zo_42 zh_cX12_tryOut_1 0 rfl
theorem dX12_tryOut_21 : decode cX12_tryOut 21 = .ok (.getfield 22, 3) := zo_180 zh_cX12_tryOut_1 1 rfl
theorem dX12_tryOut_24 : decode cX12_tryOut 24 = .ok (.iload 6, 2) := zo_21 zh_cX12_tryOut_1 4 rfl
theorem dX12_tryOut_26 : decode cX12_tryOut 26 = .ok (.iaload, 1) := zo_46 zh_cX12_tryOut_1 6 rfl
theorem dX12_tryOut_27 : decode cX12_tryOut 27 = .ok (.iastore, 1) := zo_79 zh_cX12_tryOut_1 7 rfl
theorem dX12_tryOut_28 : decode cX12_tryOut 28 = .ok (.aload_n 0, 1) := zo_42 zh_cX12_tryOut_1 8 rfl
theorem dX12_tryOut_29 : decode cX12_tryOut 29 = .ok (.getfield 41, 3) := zo_180 zh_cX12_tryOut_1 9 rfl
theorem dX12_tryOut_32 : decode cX12_tryOut 32 = .ok (.iload 5, 2) := zo_21 zh_cX12_tryOut_1 12 rfl
theorem dX12_tryOut_34 : decode cX12_tryOut 34 = .ok (.aload_n 0, 1) := zo_42 zh_cX12_tryOut_1 14 rfl
theorem dX12_tryOut_35 : decode cX12_tryOut 35 = .ok (.getfield 25, 3) := zo_180 zh_cX12_tryOut_1 15 rfl
theorem dX12_tryOut_38 : decode cX12_tryOut 38 = .ok (.iload 6, 2) := zo_21 zh_cX12_tryOut_1 18 rfl
theorem zh_cX12_tryOut_2 : zck [46, 79, 42, 180, 0, 44, 21, 5, 4, 79, 42, 180, 0, 47, 21, 5, 42, 180, 0, 118, 27, 46] (zdu 40 cX12_tryOut.data.toList) = true := by decide +kernel
theorem dX12_tryOut_40 : decode cX12_tryOut 40 = .ok (.iaload, 1) := zo_46 zh_cX12_tryOut_2 0 rfl
theorem dX12_tryOut_41 : decode cX12_tryOut 41 = .ok (.iastore, 1) := zo_79 zh_cX12_tryOut_2 1 rfl
theorem dX12_tryOut_42 : decode cX12_tryOut 42 = .ok (.aload_n 0, 1) := zo_42 zh_cX12_tryOut_2 2 rfl
theorem dX12_tryOut_43 : decode cX12_tryOut 43 = .ok (.getfield 44, 3) := zo_180 zh_cX12_tryOut_2 3 rfl
theorem dX12_tryOut_46 : decode cX12_tryOut 46 = .ok (.iload 5, 2) := zo_21 zh_cX12_tryOut_2 6 rfl
theorem dX12_tryOut_48 : decode cX12_tryOut 48 = .ok (.iconst 1, 1) := zo_4 zh_cX12_tryOut_2 8 rfl
theorem dX12_tryOut_49 : decode cX12_tryOut 49 = .ok (.iastore, 1) := zo_79 zh_cX12_tryOut_2 9 rfl
theorem dX12_tryOut_50 : decode cX12_tryOut 50 = .ok (.aload_n 0, 1) := zo_42 zh_cX12_tryOut_2 10 rfl
theorem dX12_tryOut_51 : decode cX12_tryOut 51 = .ok (.getfield 47, 3) := zo_180 zh_cX12_tryOut_2 11 rfl
theorem dX12_tryOut_54 : decode cX12_tryOut 54 = .ok (.iload 5, 2) := zo_21 zh_cX12_tryOut_2 14 rfl
theorem dX12_tryOut_56 : decode cX12_tryOut 56 = .ok (.aload_n 0, 1) := zo_42 zh_cX12_tryOut_2 16 rfl
theorem dX12_tryOut_57 : decode cX12_tryOut 57 = .ok (.getfield 118, 3) := zo_180 zh_cX12_tryOut_2 17 rfl
theorem zh_cX12_tryOut_3 : zck [27, 46, 79, 42, 180, 0, 50, 21, 5, 29, 79, 42, 180, 0, 53, 21, 5, 21, 4, 79, 42, 180] (zdu 60 cX12_tryOut.data.toList) = true := by decide +kernel
theorem dX12_tryOut_60 : decode cX12_tryOut 60 = .ok (.iload_n 1, 1) := zo_27 zh_cX12_tryOut_3 0 rfl
theorem dX12_tryOut_61 : decode cX12_tryOut 61 = .ok (.iaload, 1) := zo_46 zh_cX12_tryOut_3 1 rfl
theorem dX12_tryOut_62 : decode cX12_tryOut 62 = .ok (.iastore, 1) := zo_79 zh_cX12_tryOut_3 2 rfl
theorem dX12_tryOut_63 : decode cX12_tryOut 63 = .ok (.aload_n 0, 1) := zo_42 zh_cX12_tryOut_3 3 rfl
theorem dX12_tryOut_64 : decode cX12_tryOut 64 = .ok (.getfield 50, 3) := zo_180 zh_cX12_tryOut_3 4 rfl
theorem dX12_tryOut_67 : decode cX12_tryOut 67 = .ok (.iload 5, 2) := zo_21 zh_cX12_tryOut_3 7 rfl
theorem dX12_tryOut_69 : decode cX12_tryOut 69 = .ok (.iload_n 3, 1) := zo_29 zh_cX12_tryOut_3 9 rfl
theorem dX12_tryOut_70 : decode cX12_tryOut 70 = .ok (.iastore, 1) := zo_79 zh_cX12_tryOut_3 10 rfl
theorem dX12_tryOut_71 : decode cX12_tryOut 71 = .ok (.aload_n 0, 1) := zo_42 zh_cX12_tryOut_3 11 rfl
theorem dX12_tryOut_72 : decode cX12_tryOut 72 = .ok (.getfield 53, 3) := zo_180 zh_cX12_tryOut_3 12 rfl
theorem dX12_tryOut_75 : decode cX12_tryOut 75 = .ok (.iload 5, 2) := zo_21 zh_cX12_tryOut_3 15 rfl
theorem dX12_tryOut_77 : decode cX12_tryOut 77 = .ok (.iload 4, 2) := zo_21 zh_cX12_tryOut_3 17 rfl
theorem dX12_tryOut_79 : decode cX12_tryOut 79 = .ok (.iastore, 1) := zo_79 zh_cX12_tryOut_3 19 rfl
theorem zh_cX12_tryOut_4 : zck [42, 180, 0, 56, 21, 5, 2, 79, 42, 180, 0, 59, 21, 5, 4, 79, 42, 180, 0, 62, 21, 5] (zdu 80 cX12_tryOut.data.toList) = true := by decide +kernel
theorem dX12_tryOut_80 : decode cX12_tryOut 80 = .ok (.aload_n 0, 1) := zo_42 zh_cX12_tryOut_4 0 rfl
theorem dX12_tryOut_81 : decode cX12_tryOut 81 = .ok (.getfield 56, 3) := zo_180 zh_cX12_tryOut_4 1 rfl
theorem dX12_tryOut_84 : decode cX12_tryOut 84 = .ok (.iload 5, 2) := zo_21 zh_cX12_tryOut_4 4 rfl
theorem dX12_tryOut_86 : decode cX12_tryOut 86 = .ok (.iconst (-1), 1) := zo_2 zh_cX12_tryOut_4 6 rfl
theorem dX12_tryOut_87 : decode cX12_tryOut 87 = .ok (.iastore, 1) := zo_79 zh_cX12_tryOut_4 7 rfl
theorem dX12_tryOut_88 : decode cX12_tryOut 88 = .ok (.aload_n 0, 1) := zo_42 zh_cX12_tryOut_4 8 rfl
theorem dX12_tryOut_89 : decode cX12_tryOut 89 = .ok (.getfield 59, 3) := zo_180 zh_cX12_tryOut_4 9 rfl
theorem dX12_tryOut_92 : decode cX12_tryOut 92 = .ok (.iload 5, 2) := zo_21 zh_cX12_tryOut_4 12 rfl
theorem dX12_tryOut_94 : decode cX12_tryOut 94 = .ok (.iconst 1, 1) := zo_4 zh_cX12_tryOut_4 14 rfl
theorem dX12_tryOut_95 : decode cX12_tryOut 95 = .ok (.iastore, 1) := zo_79 zh_cX12_tryOut_4 15 rfl
theorem dX12_tryOut_96 : decode cX12_tryOut 96 = .ok (.aload_n 0, 1) := zo_42 zh_cX12_tryOut_4 16 rfl
theorem dX12_tryOut_97 : decode cX12_tryOut 97 = .ok (.getfield 62, 3) := zo_180 zh_cX12_tryOut_4 17 rfl
theorem zh_cX12_tryOut_5 : zck [21, 5, 4, 79, 42, 180, 0, 65, 16, 32, 21, 5, 104, 21, 6, 145, 84, 177] (zdu 100 cX12_tryOut.data.toList) = true := by decide +kernel
theorem dX12_tryOut_100 : decode cX12_tryOut 100 = .ok (.iload 5, 2) := zo_21 zh_cX12_tryOut_5 0 rfl
theorem dX12_tryOut_102 : decode cX12_tryOut 102 = .ok (.iconst 1, 1) := zo_4 zh_cX12_tryOut_5 2 rfl
theorem dX12_tryOut_103 : decode cX12_tryOut 103 = .ok (.iastore, 1) := zo_79 zh_cX12_tryOut_5 3 rfl
theorem dX12_tryOut_104 : decode cX12_tryOut 104 = .ok (.aload_n 0, 1) := zo_42 zh_cX12_tryOut_5 4 rfl
theorem dX12_tryOut_105 : decode cX12_tryOut 105 = .ok (.getfield 65, 3) := zo_180 zh_cX12_tryOut_5 5 rfl
theorem dX12_tryOut_108 : decode cX12_tryOut 108 = .ok (.bipush 32, 2) := zo_p16 zh_cX12_tryOut_5 8 32 rfl rfl
theorem dX12_tryOut_110 : decode cX12_tryOut 110 = .ok (.iload 5, 2) := zo_21 zh_cX12_tryOut_5 10 rfl
theorem dX12_tryOut_112 : decode cX12_tryOut 112 = .ok (.imul, 1) := zo_104 zh_cX12_tryOut_5 12 rfl
theorem dX12_tryOut_113 : decode cX12_tryOut 113 = .ok (.iload 6, 2) := zo_21 zh_cX12_tryOut_5 13 rfl
theorem dX12_tryOut_115 : decode cX12_tryOut 115 = .ok (.i2b, 1) := zo_145 zh_cX12_tryOut_5 15 rfl
theorem dX12_tryOut_116 : decode cX12_tryOut 116 = .ok (.bastore, 1) := zo_84 zh_cX12_tryOut_5 16 rfl
theorem dX12_tryOut_117 : decode cX12_tryOut 117 = .ok (.return_, 1) := zo_177 zh_cX12_tryOut_5 17 rfl
abbrev z_X12_tryOut : List Cond := .code yX12_tryOut cX12_tryOut 7 none :: zW
abbrev wl_X12_tryOut (ad : Nat → Nat) (cs : Nat → ClassId)  (mod_code : Int32) (mod_shoes : Int32) (mod_claims : Int32) (mod_taped : Int32) (mod_here : Int32) (mod_fault : Int32) (mod_suits : Int32) (mod_doneMany : Int32) (mod_undoneMany : Int32) (mod_open : Int32) (mod_laid : Int32) (mod_isBoth : Int32) (mod_wished : Int32) (mod_bestMany : Int32) (mod_bestRow : Int32) (mod_ringDigits : Int32) (mod_traces : Int32) (mod_claimBy : Nat → Int32) (mod_claimOn : Nat → Int32) (mod_suedBy : Nat → Int32) (mod_suedOn : Nat → Int32) (mod_endKind : Nat → Int32) (mod_isWon : Nat → Int32) (mod_suitDay : Nat → Int32) (mod_suitLand : Nat → Int32) (mod_undoneFrom : Nat → Int32) (mod_askedMany : Nat → Int32) (mod_firstMany : Nat → Int32) (mod_asked : Nat → Int32) (mod_wishClaim : Nat → Int32) (mod_wishWon : Nat → Int32) : va_W := [((ad 41), .inr (12, [.int mod_code, .int mod_shoes, .ref (ad 42), .ref (ad 43), .ref (ad 44), .ref (ad 45), .int mod_claims, .ref (ad 46), .ref (ad 47), .ref (ad 48), .ref (ad 49), .ref (ad 50), .int mod_taped, .int mod_here, .int mod_fault, .int mod_suits, .ref (ad 51), .ref (ad 52), .ref (ad 53), .ref (ad 54), .ref (ad 55), .ref (ad 56), .ref (ad 57), .ref (ad 58), .ref (ad 59), .ref (ad 60), .ref (ad 61), .int mod_doneMany, .int mod_undoneMany, .ref (ad 62), .ref (ad 63), .ref (ad 64), .ref (ad 65), .int mod_open, .int mod_laid, .ref (ad 66), .ref (ad 67), .ref (ad 68), .ref (ad 69), .ref (ad 70), .ref (ad 71), .ref (ad 72), .ref (ad 73), .ref (ad 74), .ref (ad 75), .int mod_isBoth, .int mod_wished, .ref (ad 76), .ref (ad 77), .int mod_bestMany, .int mod_bestRow, .ref (ad 78), .ref (ad 79), .int mod_ringDigits, .int mod_traces, .ref (ad 80), .ref (ad 81), .ref (ad 82), .ref (ad 83), .ref (ad 84)])), ((ad 46), .inl (cs 0, 32, .inl mod_claimBy)), ((ad 47), .inl (cs 0, 32, .inl mod_claimOn)), ((ad 51), .inl (cs 0, 45, .inl mod_suedBy)), ((ad 52), .inl (cs 0, 45, .inl mod_suedOn)), ((ad 53), .inl (cs 0, 45, .inl mod_endKind)), ((ad 54), .inl (cs 0, 45, .inl mod_isWon)), ((ad 55), .inl (cs 0, 45, .inl mod_suitDay)), ((ad 56), .inl (cs 0, 45, .inl mod_suitLand)), ((ad 57), .inl (cs 0, 45, .inl mod_undoneFrom)), ((ad 58), .inl (cs 0, 45, .inl mod_askedMany)), ((ad 59), .inl (cs 0, 45, .inl mod_firstMany)), ((ad 60), .inl (cs 2, 1440, .inl mod_asked)), ((ad 76), .inl (cs 0, 5, .inl mod_wishClaim)), ((ad 77), .inl (cs 0, 5, .inl mod_wishWon))]
def Q_X12_tryOut (D : va_G) (cs : Nat → ClassId) (ad : Nat → Nat)  (mod_code : Int32) (mod_shoes : Int32) (mod_claims : Int32) (mod_taped : Int32) (mod_here : Int32) (mod_fault : Int32) (mod_suits : Int32) (mod_doneMany : Int32) (mod_undoneMany : Int32) (mod_open : Int32) (mod_laid : Int32) (mod_isBoth : Int32) (mod_wished : Int32) (mod_bestMany : Int32) (mod_bestRow : Int32) (mod_ringDigits : Int32) (mod_traces : Int32) (mod_claimBy : Nat → Int32) (mod_claimOn : Nat → Int32) (mod_wishClaim : Nat → Int32) (mod_wishWon : Nat → Int32) (A : Nat → Prop) (R : (Nat → Int32) × (Nat → Int32) × (Nat → Int32) × (Nat → Int32) × (Nat → Int32) × (Nat → Int32) × (Nat → Int32) × (Nat → Int32) × (Nat → Int32) × (Nat → Int32)) : Array Value → State → Outcome → State → Prop :=
  va_Qv (fun u : (Nat → Int32) × (Nat → Int32) × (Nat → Int32) × (Nat → Int32) × (Nat → Int32) × (Nat → Int32) × (Nat → Int32) × (Nat → Int32) × (Nat → Int32) × (Nat → Int32) => u = R) (fun (u : (Nat → Int32) × (Nat → Int32) × (Nat → Int32) × (Nat → Int32) × (Nat → Int32) × (Nat → Int32) × (Nat → Int32) × (Nat → Int32) × (Nat → Int32) × (Nat → Int32)) (t : State) => va_P D classes (wl_X12_tryOut ad cs mod_code mod_shoes mod_claims mod_taped mod_here mod_fault mod_suits mod_doneMany mod_undoneMany mod_open mod_laid mod_isBoth mod_wished mod_bestMany mod_bestRow mod_ringDigits mod_traces mod_claimBy mod_claimOn u.1 u.2.1 u.2.2.1 u.2.2.2.1 u.2.2.2.2.1 u.2.2.2.2.2.1 u.2.2.2.2.2.2.1 u.2.2.2.2.2.2.2.1 u.2.2.2.2.2.2.2.2.1 u.2.2.2.2.2.2.2.2.2 mod_wishClaim mod_wishWon) t.heap ∧ va_D A (wl_X12_tryOut ad cs mod_code mod_shoes mod_claims mod_taped mod_here mod_fault mod_suits mod_doneMany mod_undoneMany mod_open mod_laid mod_isBoth mod_wished mod_bestMany mod_bestRow mod_ringDigits mod_traces mod_claimBy mod_claimOn u.1 u.2.1 u.2.2.1 u.2.2.2.1 u.2.2.2.2.1 u.2.2.2.2.2.1 u.2.2.2.2.2.2.1 u.2.2.2.2.2.2.2.1 u.2.2.2.2.2.2.2.2.1 u.2.2.2.2.2.2.2.2.2 mod_wishClaim mod_wishWon)) A
abbrev rm_X12_tryOut : Room := { frames := 0, cells := 0, slots := 0, locals := 0 }
def B_X12_tryOut_0    (mod_code : Int32) (mod_shoes : Int32) (mod_claims : Int32) (mod_taped : Int32) (mod_here : Int32) (mod_fault : Int32) (mod_suits : Int32) (mod_doneMany : Int32) (mod_undoneMany : Int32) (mod_open : Int32) (mod_laid : Int32) (mod_isBoth : Int32) (mod_wished : Int32) (mod_bestMany : Int32) (mod_bestRow : Int32) (mod_ringDigits : Int32) (mod_traces : Int32) (mod_claimBy : Nat → Int32) (mod_claimOn : Nat → Int32) (mod_wishClaim : Nat → Int32) (mod_wishWon : Nat → Int32) (x1 : Int32) (x2 : Int32) (x3 : Int32) (x4 : Int32) (mod_suedBy : Nat → Int32) (mod_suedOn : Nat → Int32) (mod_endKind : Nat → Int32) (mod_isWon : Nat → Int32) (mod_suitDay : Nat → Int32) (mod_suitLand : Nat → Int32) (mod_undoneFrom : Nat → Int32) (mod_askedMany : Nat → Int32) (mod_firstMany : Nat → Int32) (mod_asked : Nat → Int32) : Option ((Nat → Int32) × (Nat → Int32) × (Nat → Int32) × (Nat → Int32) × (Nat → Int32) × (Nat → Int32) × (Nat → Int32) × (Nat → Int32) × (Nat → Int32) × (Nat → Int32)) :=
  (zk_let ((40 : Int32) + x2) (fun v_1 => (if (x1 < 0 ∨ 5 ≤ x1.toNatClampNeg) then none else (zk_let (mod_wishClaim x1.toNatClampNeg) (fun v_3 => (if (v_3 < 0 ∨ 32 ≤ v_3.toNatClampNeg) then none else (zk_let (mod_claimBy v_3.toNatClampNeg) (fun v_5 => (if (v_1 < 0 ∨ 45 ≤ v_1.toNatClampNeg) then none else (zk_let (upd mod_suedBy v_1.toNatClampNeg v_5) (fun f_7 => (if (v_3 < 0 ∨ 32 ≤ v_3.toNatClampNeg) then none else (zk_let (mod_claimOn v_3.toNatClampNeg) (fun v_9 => (if (v_1 < 0 ∨ 45 ≤ v_1.toNatClampNeg) then none else (zk_let (upd mod_suedOn v_1.toNatClampNeg v_9) (fun f_11 => (if (v_1 < 0 ∨ 45 ≤ v_1.toNatClampNeg) then none else (zk_let (upd mod_endKind v_1.toNatClampNeg (1 : Int32)) (fun f_13 => (if (x1 < 0 ∨ 5 ≤ x1.toNatClampNeg) then none else (zk_let (mod_wishWon x1.toNatClampNeg) (fun v_15 => (if (v_1 < 0 ∨ 45 ≤ v_1.toNatClampNeg) then none else (zk_let (upd mod_isWon v_1.toNatClampNeg v_15) (fun f_17 => (if (v_1 < 0 ∨ 45 ≤ v_1.toNatClampNeg) then none else (zk_let (upd mod_suitDay v_1.toNatClampNeg x3) (fun f_19 => (if (v_1 < 0 ∨ 45 ≤ v_1.toNatClampNeg) then none else (zk_let (upd mod_suitLand v_1.toNatClampNeg x4) (fun f_21 => (if (v_1 < 0 ∨ 45 ≤ v_1.toNatClampNeg) then none else (zk_let (upd mod_undoneFrom v_1.toNatClampNeg (-1 : Int32)) (fun f_23 => (if (v_1 < 0 ∨ 45 ≤ v_1.toNatClampNeg) then none else (zk_let (upd mod_askedMany v_1.toNatClampNeg (1 : Int32)) (fun f_25 => (if (v_1 < 0 ∨ 45 ≤ v_1.toNatClampNeg) then none else (zk_let (upd mod_firstMany v_1.toNatClampNeg (1 : Int32)) (fun f_27 => (zk_let (v_3.toInt8.toInt32) (fun v_28 => (if (((32 : Int32) * v_1) < 0 ∨ 1440 ≤ ((32 : Int32) * v_1).toNatClampNeg) then none else (zk_let (upd mod_asked ((32 : Int32) * v_1).toNatClampNeg (vp_nar .byte v_28)) (fun f_30 => (some (f_7, f_11, f_13, f_17, f_19, f_21, f_23, f_25, f_27, f_30))))))))))))))))))))))))))))))))))))))))))))))))
def f_X12_tryOut   (x1 : Int32) (x2 : Int32) (x3 : Int32) (x4 : Int32) (mod_code : Int32) (mod_shoes : Int32) (mod_claims : Int32) (mod_taped : Int32) (mod_here : Int32) (mod_fault : Int32) (mod_suits : Int32) (mod_doneMany : Int32) (mod_undoneMany : Int32) (mod_open : Int32) (mod_laid : Int32) (mod_isBoth : Int32) (mod_wished : Int32) (mod_bestMany : Int32) (mod_bestRow : Int32) (mod_ringDigits : Int32) (mod_traces : Int32) (mod_claimBy : Nat → Int32) (mod_claimOn : Nat → Int32) (mod_suedBy : Nat → Int32) (mod_suedOn : Nat → Int32) (mod_endKind : Nat → Int32) (mod_isWon : Nat → Int32) (mod_suitDay : Nat → Int32) (mod_suitLand : Nat → Int32) (mod_undoneFrom : Nat → Int32) (mod_askedMany : Nat → Int32) (mod_firstMany : Nat → Int32) (mod_asked : Nat → Int32) (mod_wishClaim : Nat → Int32) (mod_wishWon : Nat → Int32) : Option ((Nat → Int32) × (Nat → Int32) × (Nat → Int32) × (Nat → Int32) × (Nat → Int32) × (Nat → Int32) × (Nat → Int32) × (Nat → Int32) × (Nat → Int32) × (Nat → Int32)) := B_X12_tryOut_0   mod_code mod_shoes mod_claims mod_taped mod_here mod_fault mod_suits mod_doneMany mod_undoneMany mod_open mod_laid mod_isBoth mod_wished mod_bestMany mod_bestRow mod_ringDigits mod_traces mod_claimBy mod_claimOn mod_wishClaim mod_wishWon x1 x2 x3 x4 mod_suedBy mod_suedOn mod_endKind mod_isWon mod_suitDay mod_suitLand mod_undoneFrom mod_askedMany mod_firstMany mod_asked
set_option maxHeartbeats 4000000 in
set_option maxRecDepth 100000 in
theorem L_X12_tryOut_0 {p : Program} {l : Launch} {e : Env} {s : State} {m : MethodId} {args : Array Value} {below : List Frame} {meth : Method} {c : Code} {A : Nat → Prop} {D : va_G} {cs : Nat → ClassId} {ad : Nat → Nat} {mod_code : Int32} {mod_shoes : Int32} {mod_claims : Int32} {mod_taped : Int32} {mod_here : Int32} {mod_fault : Int32} {mod_suits : Int32} {mod_doneMany : Int32} {mod_undoneMany : Int32} {mod_open : Int32} {mod_laid : Int32} {mod_isBoth : Int32} {mod_wished : Int32} {mod_bestMany : Int32} {mod_bestRow : Int32} {mod_ringDigits : Int32} {mod_traces : Int32} {mod_claimBy : Nat → Int32} {mod_claimOn : Nat → Int32} {mod_wishClaim : Nat → Int32} {mod_wishWon : Nat → Int32} {R : (Nat → Int32) × (Nat → Int32) × (Nat → Int32) × (Nat → Int32) × (Nat → Int32) × (Nat → Int32) × (Nat → Int32) × (Nat → Int32) × (Nat → Int32) × (Nat → Int32)} (C0 : zC p s m args meth c cX12_tryOut 7 none RX12 zW) (hK : va_K D classes (zT cs) s) (hA : ∀ q : Nat, s.heap.size ≤ q → A q) (x1 : Int32) (x2 : Int32) (x3 : Int32) (x4 : Int32) (mod_suedBy : Nat → Int32) (mod_suedOn : Nat → Int32) (mod_endKind : Nat → Int32) (mod_isWon : Nat → Int32) (mod_suitDay : Nat → Int32) (mod_suitLand : Nat → Int32) (mod_undoneFrom : Nat → Int32) (mod_askedMany : Nat → Int32) (mod_firstMany : Nat → Int32) (mod_asked : Nat → Int32) (h : B_X12_tryOut_0 mod_code mod_shoes mod_claims mod_taped mod_here mod_fault mod_suits mod_doneMany mod_undoneMany mod_open mod_laid mod_isBoth mod_wished mod_bestMany mod_bestRow mod_ringDigits mod_traces mod_claimBy mod_claimOn mod_wishClaim mod_wishWon x1 x2 x3 x4 mod_suedBy mod_suedOn mod_endKind mod_isWon mod_suitDay mod_suitLand mod_undoneFrom mod_askedMany mod_firstMany mod_asked = some R) (H : Heap) (locs : List Loc) (ls : Array Slot) (hP : va_P D classes (wl_X12_tryOut ad cs mod_code mod_shoes mod_claims mod_taped mod_here mod_fault mod_suits mod_doneMany mod_undoneMany mod_open mod_laid mod_isBoth mod_wished mod_bestMany mod_bestRow mod_ringDigits mod_traces mod_claimBy mod_claimOn mod_suedBy mod_suedOn mod_endKind mod_isWon mod_suitDay mod_suitLand mod_undoneFrom mod_askedMany mod_firstMany mod_asked mod_wishClaim mod_wishWon) H) (hD : va_D A (wl_X12_tryOut ad cs mod_code mod_shoes mod_claims mod_taped mod_here mod_fault mod_suits mod_doneMany mod_undoneMany mod_open mod_laid mod_isBoth mod_wished mod_bestMany mod_bestRow mod_ringDigits mod_traces mod_claimBy mod_claimOn mod_suedBy mod_suedOn mod_endKind mod_isWon mod_suitDay mod_suitLand mod_undoneFrom mod_askedMany mod_firstMany mod_asked mod_wishClaim mod_wishWon)) (hS : va_S A s.heap H locs) (hl : lv_has ls 7 [(0, .ref (ad 41)), (1, .int x1), (2, .int x2), (3, .int x3), (4, .int x4)]) : W p l e rm_X12_tryOut s m args below meth c H locs 0 0 (MQ below (Q_X12_tryOut D cs ad mod_code mod_shoes mod_claims mod_taped mod_here mod_fault mod_suits mod_doneMany mod_undoneMany mod_open mod_laid mod_isBoth mod_wished mod_bestMany mod_bestRow mod_ringDigits mod_traces mod_claimBy mod_claimOn mod_wishClaim mod_wishWon A R) args s 0 0 A) (F0 m 0 ls []) := by
  obtain ⟨hx, hb, hr, hml, hown, ht, hlocks⟩ := id C0
  refine lv_bipush (v := (40 : Int32)) hx hb dX12_tryOut_0 (by decide) ?_
  refine lv_iload_n hx hb dX12_tryOut_2 rfl (lv_at hl 2 rfl) ?_
  refine lv_iadd hx hb dX12_tryOut_3 ?_
  obtain ⟨v_1, ev_1, h⟩ := zk_lt h
  refine W.eq (g2 := F0 m 4 ls [.int v_1]) (by rw [ev_1]) ?_
  refine lv_istore (lv' := [(5, .int v_1), (0, .ref (ad 41)), (1, .int x1), (2, .int x2), (3, .int x3), (4, .int x4)]) hx hb dX12_tryOut_4 hl (by decide) rfl (fun ls hl => ?_)
  refine lv_aload_n hx hb dX12_tryOut_6 rfl (lv_at hl 1 rfl) ?_
  refine va_get (D := D) (ci := 12) (v := .ref (ad 76)) (C := RX12) (T := TX12) (N := 60) hx hb ht iX12 hown hK hP 0 rfl rfl 47 (by decide) (ht _ kw_1342) (fun _ h9 => h9) rfl dX12_tryOut_7 ?_
  refine lv_iload_n hx hb dX12_tryOut_10 rfl (lv_at hl 2 rfl) ?_
  obtain ⟨g_2, h⟩ := zk_gd h
  refine va_iald hx hb hK hP 13 0 rfl rfl g_2 dX12_tryOut_11 ?_
  obtain ⟨v_3, ev_3, h⟩ := zk_lt h
  refine W.eq (g2 := F0 m 12 ls [.int v_3]) (by rw [ev_3]) ?_
  refine lv_istore (lv' := [(6, .int v_3), (5, .int v_1), (0, .ref (ad 41)), (1, .int x1), (2, .int x2), (3, .int x3), (4, .int x4)]) hx hb dX12_tryOut_12 hl (by decide) rfl (fun ls hl => ?_)
  refine lv_aload_n hx hb dX12_tryOut_14 rfl (lv_at hl 2 rfl) ?_
  refine va_get (D := D) (ci := 12) (v := .ref (ad 51)) (C := RX12) (T := TX12) (N := 60) hx hb ht iX12 hown hK hP 0 rfl rfl 16 (by decide) (ht _ kw_1311) (fun _ h9 => h9) rfl dX12_tryOut_15 ?_
  refine lv_iload hx hb dX12_tryOut_18 (lv_at hl 1 rfl) ?_
  refine lv_aload_n hx hb dX12_tryOut_20 rfl (lv_at hl 2 rfl) ?_
  refine va_get (D := D) (ci := 12) (v := .ref (ad 46)) (C := RX12) (T := TX12) (N := 60) hx hb ht iX12 hown hK hP 0 rfl rfl 7 (by decide) (ht _ kw_1302) (fun _ h9 => h9) rfl dX12_tryOut_21 ?_
  refine lv_iload hx hb dX12_tryOut_24 (lv_at hl 0 rfl) ?_
  obtain ⟨g_4, h⟩ := zk_gd h
  refine va_iald hx hb hK hP 1 0 rfl rfl g_4 dX12_tryOut_26 ?_
  obtain ⟨v_5, ev_5, h⟩ := zk_lt h
  refine W.eq (g2 := F0 m 27 ls [.int v_5, .int v_1, .ref (ad 51)]) (by rw [ev_5]) ?_
  obtain ⟨g_6, h⟩ := zk_gd h
  obtain ⟨f_7, ef_7, h⟩ := zk_lt h
  refine va_iast hx hb hK hP hD hS 3 0 rfl rfl g_6 dX12_tryOut_27 (fun H locs hP hD hS => ?_)
  have hP : va_P D classes (wl_X12_tryOut ad cs mod_code mod_shoes mod_claims mod_taped mod_here mod_fault mod_suits mod_doneMany mod_undoneMany mod_open mod_laid mod_isBoth mod_wished mod_bestMany mod_bestRow mod_ringDigits mod_traces mod_claimBy mod_claimOn f_7 mod_suedOn mod_endKind mod_isWon mod_suitDay mod_suitLand mod_undoneFrom mod_askedMany mod_firstMany mod_asked mod_wishClaim mod_wishWon) H := by rw [ef_7]; exact hP
  have hD : va_D A (wl_X12_tryOut ad cs mod_code mod_shoes mod_claims mod_taped mod_here mod_fault mod_suits mod_doneMany mod_undoneMany mod_open mod_laid mod_isBoth mod_wished mod_bestMany mod_bestRow mod_ringDigits mod_traces mod_claimBy mod_claimOn f_7 mod_suedOn mod_endKind mod_isWon mod_suitDay mod_suitLand mod_undoneFrom mod_askedMany mod_firstMany mod_asked mod_wishClaim mod_wishWon) := by rw [ef_7]; exact hD
  refine lv_aload_n hx hb dX12_tryOut_28 rfl (lv_at hl 2 rfl) ?_
  refine va_get (D := D) (ci := 12) (v := .ref (ad 52)) (C := RX12) (T := TX12) (N := 60) hx hb ht iX12 hown hK hP 0 rfl rfl 17 (by decide) (ht _ kw_1312) (fun _ h9 => h9) rfl dX12_tryOut_29 ?_
  refine lv_iload hx hb dX12_tryOut_32 (lv_at hl 1 rfl) ?_
  refine lv_aload_n hx hb dX12_tryOut_34 rfl (lv_at hl 2 rfl) ?_
  refine va_get (D := D) (ci := 12) (v := .ref (ad 47)) (C := RX12) (T := TX12) (N := 60) hx hb ht iX12 hown hK hP 0 rfl rfl 8 (by decide) (ht _ kw_1303) (fun _ h9 => h9) rfl dX12_tryOut_35 ?_
  refine lv_iload hx hb dX12_tryOut_38 (lv_at hl 0 rfl) ?_
  obtain ⟨g_8, h⟩ := zk_gd h
  refine va_iald hx hb hK hP 2 0 rfl rfl g_8 dX12_tryOut_40 ?_
  obtain ⟨v_9, ev_9, h⟩ := zk_lt h
  refine W.eq (g2 := F0 m 41 ls [.int v_9, .int v_1, .ref (ad 52)]) (by rw [ev_9]) ?_
  obtain ⟨g_10, h⟩ := zk_gd h
  obtain ⟨f_11, ef_11, h⟩ := zk_lt h
  refine va_iast hx hb hK hP hD hS 4 0 rfl rfl g_10 dX12_tryOut_41 (fun H locs hP hD hS => ?_)
  have hP : va_P D classes (wl_X12_tryOut ad cs mod_code mod_shoes mod_claims mod_taped mod_here mod_fault mod_suits mod_doneMany mod_undoneMany mod_open mod_laid mod_isBoth mod_wished mod_bestMany mod_bestRow mod_ringDigits mod_traces mod_claimBy mod_claimOn f_7 f_11 mod_endKind mod_isWon mod_suitDay mod_suitLand mod_undoneFrom mod_askedMany mod_firstMany mod_asked mod_wishClaim mod_wishWon) H := by rw [ef_11]; exact hP
  have hD : va_D A (wl_X12_tryOut ad cs mod_code mod_shoes mod_claims mod_taped mod_here mod_fault mod_suits mod_doneMany mod_undoneMany mod_open mod_laid mod_isBoth mod_wished mod_bestMany mod_bestRow mod_ringDigits mod_traces mod_claimBy mod_claimOn f_7 f_11 mod_endKind mod_isWon mod_suitDay mod_suitLand mod_undoneFrom mod_askedMany mod_firstMany mod_asked mod_wishClaim mod_wishWon) := by rw [ef_11]; exact hD
  refine lv_aload_n hx hb dX12_tryOut_42 rfl (lv_at hl 2 rfl) ?_
  refine va_get (D := D) (ci := 12) (v := .ref (ad 53)) (C := RX12) (T := TX12) (N := 60) hx hb ht iX12 hown hK hP 0 rfl rfl 18 (by decide) (ht _ kw_1313) (fun _ h9 => h9) rfl dX12_tryOut_43 ?_
  refine lv_iload hx hb dX12_tryOut_46 (lv_at hl 1 rfl) ?_
  refine lv_iconst (v := (1 : Int32)) hx hb dX12_tryOut_48 (by decide) ?_
  obtain ⟨g_12, h⟩ := zk_gd h
  obtain ⟨f_13, ef_13, h⟩ := zk_lt h
  refine va_iast hx hb hK hP hD hS 5 0 rfl rfl g_12 dX12_tryOut_49 (fun H locs hP hD hS => ?_)
  have hP : va_P D classes (wl_X12_tryOut ad cs mod_code mod_shoes mod_claims mod_taped mod_here mod_fault mod_suits mod_doneMany mod_undoneMany mod_open mod_laid mod_isBoth mod_wished mod_bestMany mod_bestRow mod_ringDigits mod_traces mod_claimBy mod_claimOn f_7 f_11 f_13 mod_isWon mod_suitDay mod_suitLand mod_undoneFrom mod_askedMany mod_firstMany mod_asked mod_wishClaim mod_wishWon) H := by rw [ef_13]; exact hP
  have hD : va_D A (wl_X12_tryOut ad cs mod_code mod_shoes mod_claims mod_taped mod_here mod_fault mod_suits mod_doneMany mod_undoneMany mod_open mod_laid mod_isBoth mod_wished mod_bestMany mod_bestRow mod_ringDigits mod_traces mod_claimBy mod_claimOn f_7 f_11 f_13 mod_isWon mod_suitDay mod_suitLand mod_undoneFrom mod_askedMany mod_firstMany mod_asked mod_wishClaim mod_wishWon) := by rw [ef_13]; exact hD
  refine lv_aload_n hx hb dX12_tryOut_50 rfl (lv_at hl 2 rfl) ?_
  refine va_get (D := D) (ci := 12) (v := .ref (ad 54)) (C := RX12) (T := TX12) (N := 60) hx hb ht iX12 hown hK hP 0 rfl rfl 19 (by decide) (ht _ kw_1314) (fun _ h9 => h9) rfl dX12_tryOut_51 ?_
  refine lv_iload hx hb dX12_tryOut_54 (lv_at hl 1 rfl) ?_
  refine lv_aload_n hx hb dX12_tryOut_56 rfl (lv_at hl 2 rfl) ?_
  refine va_get (D := D) (ci := 12) (v := .ref (ad 77)) (C := RX12) (T := TX12) (N := 60) hx hb ht iX12 hown hK hP 0 rfl rfl 48 (by decide) (ht _ kw_1343) (fun _ h9 => h9) rfl dX12_tryOut_57 ?_
  refine lv_iload_n hx hb dX12_tryOut_60 rfl (lv_at hl 3 rfl) ?_
  obtain ⟨g_14, h⟩ := zk_gd h
  refine va_iald hx hb hK hP 14 0 rfl rfl g_14 dX12_tryOut_61 ?_
  obtain ⟨v_15, ev_15, h⟩ := zk_lt h
  refine W.eq (g2 := F0 m 62 ls [.int v_15, .int v_1, .ref (ad 54)]) (by rw [ev_15]) ?_
  obtain ⟨g_16, h⟩ := zk_gd h
  obtain ⟨f_17, ef_17, h⟩ := zk_lt h
  refine va_iast hx hb hK hP hD hS 6 0 rfl rfl g_16 dX12_tryOut_62 (fun H locs hP hD hS => ?_)
  have hP : va_P D classes (wl_X12_tryOut ad cs mod_code mod_shoes mod_claims mod_taped mod_here mod_fault mod_suits mod_doneMany mod_undoneMany mod_open mod_laid mod_isBoth mod_wished mod_bestMany mod_bestRow mod_ringDigits mod_traces mod_claimBy mod_claimOn f_7 f_11 f_13 f_17 mod_suitDay mod_suitLand mod_undoneFrom mod_askedMany mod_firstMany mod_asked mod_wishClaim mod_wishWon) H := by rw [ef_17]; exact hP
  have hD : va_D A (wl_X12_tryOut ad cs mod_code mod_shoes mod_claims mod_taped mod_here mod_fault mod_suits mod_doneMany mod_undoneMany mod_open mod_laid mod_isBoth mod_wished mod_bestMany mod_bestRow mod_ringDigits mod_traces mod_claimBy mod_claimOn f_7 f_11 f_13 f_17 mod_suitDay mod_suitLand mod_undoneFrom mod_askedMany mod_firstMany mod_asked mod_wishClaim mod_wishWon) := by rw [ef_17]; exact hD
  refine lv_aload_n hx hb dX12_tryOut_63 rfl (lv_at hl 2 rfl) ?_
  refine va_get (D := D) (ci := 12) (v := .ref (ad 55)) (C := RX12) (T := TX12) (N := 60) hx hb ht iX12 hown hK hP 0 rfl rfl 20 (by decide) (ht _ kw_1315) (fun _ h9 => h9) rfl dX12_tryOut_64 ?_
  refine lv_iload hx hb dX12_tryOut_67 (lv_at hl 1 rfl) ?_
  refine lv_iload_n hx hb dX12_tryOut_69 rfl (lv_at hl 5 rfl) ?_
  obtain ⟨g_18, h⟩ := zk_gd h
  obtain ⟨f_19, ef_19, h⟩ := zk_lt h
  refine va_iast hx hb hK hP hD hS 7 0 rfl rfl g_18 dX12_tryOut_70 (fun H locs hP hD hS => ?_)
  have hP : va_P D classes (wl_X12_tryOut ad cs mod_code mod_shoes mod_claims mod_taped mod_here mod_fault mod_suits mod_doneMany mod_undoneMany mod_open mod_laid mod_isBoth mod_wished mod_bestMany mod_bestRow mod_ringDigits mod_traces mod_claimBy mod_claimOn f_7 f_11 f_13 f_17 f_19 mod_suitLand mod_undoneFrom mod_askedMany mod_firstMany mod_asked mod_wishClaim mod_wishWon) H := by rw [ef_19]; exact hP
  have hD : va_D A (wl_X12_tryOut ad cs mod_code mod_shoes mod_claims mod_taped mod_here mod_fault mod_suits mod_doneMany mod_undoneMany mod_open mod_laid mod_isBoth mod_wished mod_bestMany mod_bestRow mod_ringDigits mod_traces mod_claimBy mod_claimOn f_7 f_11 f_13 f_17 f_19 mod_suitLand mod_undoneFrom mod_askedMany mod_firstMany mod_asked mod_wishClaim mod_wishWon) := by rw [ef_19]; exact hD
  refine lv_aload_n hx hb dX12_tryOut_71 rfl (lv_at hl 2 rfl) ?_
  refine va_get (D := D) (ci := 12) (v := .ref (ad 56)) (C := RX12) (T := TX12) (N := 60) hx hb ht iX12 hown hK hP 0 rfl rfl 21 (by decide) (ht _ kw_1316) (fun _ h9 => h9) rfl dX12_tryOut_72 ?_
  refine lv_iload hx hb dX12_tryOut_75 (lv_at hl 1 rfl) ?_
  refine lv_iload hx hb dX12_tryOut_77 (lv_at hl 6 rfl) ?_
  obtain ⟨g_20, h⟩ := zk_gd h
  obtain ⟨f_21, ef_21, h⟩ := zk_lt h
  refine va_iast hx hb hK hP hD hS 8 0 rfl rfl g_20 dX12_tryOut_79 (fun H locs hP hD hS => ?_)
  have hP : va_P D classes (wl_X12_tryOut ad cs mod_code mod_shoes mod_claims mod_taped mod_here mod_fault mod_suits mod_doneMany mod_undoneMany mod_open mod_laid mod_isBoth mod_wished mod_bestMany mod_bestRow mod_ringDigits mod_traces mod_claimBy mod_claimOn f_7 f_11 f_13 f_17 f_19 f_21 mod_undoneFrom mod_askedMany mod_firstMany mod_asked mod_wishClaim mod_wishWon) H := by rw [ef_21]; exact hP
  have hD : va_D A (wl_X12_tryOut ad cs mod_code mod_shoes mod_claims mod_taped mod_here mod_fault mod_suits mod_doneMany mod_undoneMany mod_open mod_laid mod_isBoth mod_wished mod_bestMany mod_bestRow mod_ringDigits mod_traces mod_claimBy mod_claimOn f_7 f_11 f_13 f_17 f_19 f_21 mod_undoneFrom mod_askedMany mod_firstMany mod_asked mod_wishClaim mod_wishWon) := by rw [ef_21]; exact hD
  refine lv_aload_n hx hb dX12_tryOut_80 rfl (lv_at hl 2 rfl) ?_
  refine va_get (D := D) (ci := 12) (v := .ref (ad 57)) (C := RX12) (T := TX12) (N := 60) hx hb ht iX12 hown hK hP 0 rfl rfl 22 (by decide) (ht _ kw_1317) (fun _ h9 => h9) rfl dX12_tryOut_81 ?_
  refine lv_iload hx hb dX12_tryOut_84 (lv_at hl 1 rfl) ?_
  refine lv_iconst (v := (-1 : Int32)) hx hb dX12_tryOut_86 (by decide) ?_
  obtain ⟨g_22, h⟩ := zk_gd h
  obtain ⟨f_23, ef_23, h⟩ := zk_lt h
  refine va_iast hx hb hK hP hD hS 9 0 rfl rfl g_22 dX12_tryOut_87 (fun H locs hP hD hS => ?_)
  have hP : va_P D classes (wl_X12_tryOut ad cs mod_code mod_shoes mod_claims mod_taped mod_here mod_fault mod_suits mod_doneMany mod_undoneMany mod_open mod_laid mod_isBoth mod_wished mod_bestMany mod_bestRow mod_ringDigits mod_traces mod_claimBy mod_claimOn f_7 f_11 f_13 f_17 f_19 f_21 f_23 mod_askedMany mod_firstMany mod_asked mod_wishClaim mod_wishWon) H := by rw [ef_23]; exact hP
  have hD : va_D A (wl_X12_tryOut ad cs mod_code mod_shoes mod_claims mod_taped mod_here mod_fault mod_suits mod_doneMany mod_undoneMany mod_open mod_laid mod_isBoth mod_wished mod_bestMany mod_bestRow mod_ringDigits mod_traces mod_claimBy mod_claimOn f_7 f_11 f_13 f_17 f_19 f_21 f_23 mod_askedMany mod_firstMany mod_asked mod_wishClaim mod_wishWon) := by rw [ef_23]; exact hD
  refine lv_aload_n hx hb dX12_tryOut_88 rfl (lv_at hl 2 rfl) ?_
  refine va_get (D := D) (ci := 12) (v := .ref (ad 58)) (C := RX12) (T := TX12) (N := 60) hx hb ht iX12 hown hK hP 0 rfl rfl 23 (by decide) (ht _ kw_1318) (fun _ h9 => h9) rfl dX12_tryOut_89 ?_
  refine lv_iload hx hb dX12_tryOut_92 (lv_at hl 1 rfl) ?_
  refine lv_iconst (v := (1 : Int32)) hx hb dX12_tryOut_94 (by decide) ?_
  obtain ⟨g_24, h⟩ := zk_gd h
  obtain ⟨f_25, ef_25, h⟩ := zk_lt h
  refine va_iast hx hb hK hP hD hS 10 0 rfl rfl g_24 dX12_tryOut_95 (fun H locs hP hD hS => ?_)
  have hP : va_P D classes (wl_X12_tryOut ad cs mod_code mod_shoes mod_claims mod_taped mod_here mod_fault mod_suits mod_doneMany mod_undoneMany mod_open mod_laid mod_isBoth mod_wished mod_bestMany mod_bestRow mod_ringDigits mod_traces mod_claimBy mod_claimOn f_7 f_11 f_13 f_17 f_19 f_21 f_23 f_25 mod_firstMany mod_asked mod_wishClaim mod_wishWon) H := by rw [ef_25]; exact hP
  have hD : va_D A (wl_X12_tryOut ad cs mod_code mod_shoes mod_claims mod_taped mod_here mod_fault mod_suits mod_doneMany mod_undoneMany mod_open mod_laid mod_isBoth mod_wished mod_bestMany mod_bestRow mod_ringDigits mod_traces mod_claimBy mod_claimOn f_7 f_11 f_13 f_17 f_19 f_21 f_23 f_25 mod_firstMany mod_asked mod_wishClaim mod_wishWon) := by rw [ef_25]; exact hD
  refine lv_aload_n hx hb dX12_tryOut_96 rfl (lv_at hl 2 rfl) ?_
  refine va_get (D := D) (ci := 12) (v := .ref (ad 59)) (C := RX12) (T := TX12) (N := 60) hx hb ht iX12 hown hK hP 0 rfl rfl 24 (by decide) (ht _ kw_1319) (fun _ h9 => h9) rfl dX12_tryOut_97 ?_
  refine lv_iload hx hb dX12_tryOut_100 (lv_at hl 1 rfl) ?_
  refine lv_iconst (v := (1 : Int32)) hx hb dX12_tryOut_102 (by decide) ?_
  obtain ⟨g_26, h⟩ := zk_gd h
  obtain ⟨f_27, ef_27, h⟩ := zk_lt h
  refine va_iast hx hb hK hP hD hS 11 0 rfl rfl g_26 dX12_tryOut_103 (fun H locs hP hD hS => ?_)
  have hP : va_P D classes (wl_X12_tryOut ad cs mod_code mod_shoes mod_claims mod_taped mod_here mod_fault mod_suits mod_doneMany mod_undoneMany mod_open mod_laid mod_isBoth mod_wished mod_bestMany mod_bestRow mod_ringDigits mod_traces mod_claimBy mod_claimOn f_7 f_11 f_13 f_17 f_19 f_21 f_23 f_25 f_27 mod_asked mod_wishClaim mod_wishWon) H := by rw [ef_27]; exact hP
  have hD : va_D A (wl_X12_tryOut ad cs mod_code mod_shoes mod_claims mod_taped mod_here mod_fault mod_suits mod_doneMany mod_undoneMany mod_open mod_laid mod_isBoth mod_wished mod_bestMany mod_bestRow mod_ringDigits mod_traces mod_claimBy mod_claimOn f_7 f_11 f_13 f_17 f_19 f_21 f_23 f_25 f_27 mod_asked mod_wishClaim mod_wishWon) := by rw [ef_27]; exact hD
  refine lv_aload_n hx hb dX12_tryOut_104 rfl (lv_at hl 2 rfl) ?_
  refine va_get (D := D) (ci := 12) (v := .ref (ad 60)) (C := RX12) (T := TX12) (N := 60) hx hb ht iX12 hown hK hP 0 rfl rfl 25 (by decide) (ht _ kw_1320) (fun _ h9 => h9) rfl dX12_tryOut_105 ?_
  refine lv_bipush (v := (32 : Int32)) hx hb dX12_tryOut_108 (by decide) ?_
  refine lv_iload hx hb dX12_tryOut_110 (lv_at hl 1 rfl) ?_
  refine lv_imul hx hb dX12_tryOut_112 ?_
  refine lv_iload hx hb dX12_tryOut_113 (lv_at hl 0 rfl) ?_
  refine lv_i2b (v := v_3.toInt8.toInt32) hx hb dX12_tryOut_115 rfl ?_
  obtain ⟨v_28, ev_28, h⟩ := zk_lt h
  refine W.eq (g2 := F0 m 116 ls [.int v_28, .int ((32 : Int32) * v_1), .ref (ad 60)]) (by rw [ev_28]) ?_
  obtain ⟨g_29, h⟩ := zk_gd h
  obtain ⟨f_30, ef_30, h⟩ := zk_lt h
  refine va_bast hx hb hK hP hD hS 12 2 rfl rfl g_29 dX12_tryOut_116 (fun H locs hP hD hS => ?_)
  have hP : va_P D classes (wl_X12_tryOut ad cs mod_code mod_shoes mod_claims mod_taped mod_here mod_fault mod_suits mod_doneMany mod_undoneMany mod_open mod_laid mod_isBoth mod_wished mod_bestMany mod_bestRow mod_ringDigits mod_traces mod_claimBy mod_claimOn f_7 f_11 f_13 f_17 f_19 f_21 f_23 f_25 f_27 f_30 mod_wishClaim mod_wishWon) H := by rw [ef_30]; exact hP
  have hD : va_D A (wl_X12_tryOut ad cs mod_code mod_shoes mod_claims mod_taped mod_here mod_fault mod_suits mod_doneMany mod_undoneMany mod_open mod_laid mod_isBoth mod_wished mod_bestMany mod_bestRow mod_ringDigits mod_traces mod_claimBy mod_claimOn f_7 f_11 f_13 f_17 f_19 f_21 f_23 f_25 f_27 f_30 mod_wishClaim mod_wishWon) := by rw [ef_30]; exact hD
  exact W.vret hx hb hr (fun t ht2 hW => ⟨⟨(f_7, f_11, f_13, f_17, f_19, f_21, f_23, f_25, f_27, f_30), rfl, Option.some.inj h, by rw [ht2]; exact hP, hD⟩, hS.F ht2⟩) hS.2.2 dX12_tryOut_117 hlocks
set_option maxHeartbeats 4000000 in
set_option maxRecDepth 100000 in
theorem c_X12_tryOut (l : Launch) (D : va_G) (cs : Nat → ClassId) (ad : Nat → Nat) (sz : Nat) (x1 : Int32) (x2 : Int32) (x3 : Int32) (x4 : Int32) (mod_code : Int32) (mod_shoes : Int32) (mod_claims : Int32) (mod_taped : Int32) (mod_here : Int32) (mod_fault : Int32) (mod_suits : Int32) (mod_doneMany : Int32) (mod_undoneMany : Int32) (mod_open : Int32) (mod_laid : Int32) (mod_isBoth : Int32) (mod_wished : Int32) (mod_bestMany : Int32) (mod_bestRow : Int32) (mod_ringDigits : Int32) (mod_traces : Int32) (mod_claimBy : Nat → Int32) (mod_claimOn : Nat → Int32) (mod_suedBy : Nat → Int32) (mod_suedOn : Nat → Int32) (mod_endKind : Nat → Int32) (mod_isWon : Nat → Int32) (mod_suitDay : Nat → Int32) (mod_suitLand : Nat → Int32) (mod_undoneFrom : Nat → Int32) (mod_askedMany : Nat → Int32) (mod_firstMany : Nat → Int32) (mod_asked : Nat → Int32) (mod_wishClaim : Nat → Int32) (mod_wishWon : Nat → Int32) (R : (Nat → Int32) × (Nat → Int32) × (Nat → Int32) × (Nat → Int32) × (Nat → Int32) × (Nat → Int32) × (Nat → Int32) × (Nat → Int32) × (Nat → Int32) × (Nat → Int32)) (h : f_X12_tryOut   x1 x2 x3 x4 mod_code mod_shoes mod_claims mod_taped mod_here mod_fault mod_suits mod_doneMany mod_undoneMany mod_open mod_laid mod_isBoth mod_wished mod_bestMany mod_bestRow mod_ringDigits mod_traces mod_claimBy mod_claimOn mod_suedBy mod_suedOn mod_endKind mod_isWon mod_suitDay mod_suitLand mod_undoneFrom mod_askedMany mod_firstMany mod_asked mod_wishClaim mod_wishWon = some R) : Met l yX12_tryOut (z_X12_tryOut) rm_X12_tryOut (va_Pc [.ref (ad 41), .int x1, .int x2, .int x3, .int x4] (zPre D cs (wl_X12_tryOut ad cs mod_code mod_shoes mod_claims mod_taped mod_here mod_fault mod_suits mod_doneMany mod_undoneMany mod_open mod_laid mod_isBoth mod_wished mod_bestMany mod_bestRow mod_ringDigits mod_traces mod_claimBy mod_claimOn mod_suedBy mod_suedOn mod_endKind mod_isWon mod_suitDay mod_suitLand mod_undoneFrom mod_askedMany mod_firstMany mod_asked mod_wishClaim mod_wishWon) sz)) (Q_X12_tryOut D cs ad mod_code mod_shoes mod_claims mod_taped mod_here mod_fault mod_suits mod_doneMany mod_undoneMany mod_open mod_laid mod_isBoth mod_wished mod_bestMany mod_bestRow mod_ringDigits mod_traces mod_claimBy mod_claimOn mod_wishClaim mod_wishWon (va_A (wl_X12_tryOut ad cs mod_code mod_shoes mod_claims mod_taped mod_here mod_fault mod_suits mod_doneMany mod_undoneMany mod_open mod_laid mod_isBoth mod_wished mod_bestMany mod_bestRow mod_ringDigits mod_traces mod_claimBy mod_claimOn mod_suedBy mod_suedOn mod_endKind mod_isWon mod_suitDay mod_suitLand mod_undoneFrom mod_askedMany mod_firstMany mod_asked mod_wishClaim mod_wishWon) sz) R) 0 0 (va_A (wl_X12_tryOut ad cs mod_code mod_shoes mod_claims mod_taped mod_here mod_fault mod_suits mod_doneMany mod_undoneMany mod_open mod_laid mod_isBoth mod_wished mod_bestMany mod_bestRow mod_ringDigits mod_traces mod_claimBy mod_claimOn mod_suedBy mod_suedOn mod_endKind mod_isWon mod_suitDay mod_suitLand mod_undoneFrom mod_askedMany mod_firstMany mod_asked mod_wishClaim mod_wishWon) sz) := by
  refine Met.ofW (cc := cX12_tryOut) (maxL := 7) (ret := none) (by decide) rfl ?_
  intro p e s m args below meth c s₁ B hml hv
  obtain ⟨rfl, hsz, hP, hK, hD0⟩ := hv
  subst hsz
  have hD := hD0.self (sz := s.heap.size)
  have C0 : zC p s m _ meth c cX12_tryOut 7 none RX12 zW := ⟨B.exec, B.bytes, B.returns, hml, findClass_of_methodNamed B.named, fun w hw => atoms_spec (ws := z_X12_tryOut) B.pre w (List.mem_cons_of_mem _ hw), B.notSynchronized⟩
  have hA : ∀ q : Nat, s.heap.size ≤ q → va_A (wl_X12_tryOut ad cs mod_code mod_shoes mod_claims mod_taped mod_here mod_fault mod_suits mod_doneMany mod_undoneMany mod_open mod_laid mod_isBoth mod_wished mod_bestMany mod_bestRow mod_ringDigits mod_traces mod_claimBy mod_claimOn mod_suedBy mod_suedOn mod_endKind mod_isWon mod_suitDay mod_suitLand mod_undoneFrom mod_askedMany mod_firstMany mod_asked mod_wishClaim mod_wishWon) s.heap.size q := fun q h => Or.inr h
  have hl := lv_entry ([.ref (ad 41), .int x1, .int x2, .int x3, .int x4]) (n := 7) (Nat.le_of_ble_eq_true rfl)
  rw [lg_entry_eq]
  generalize (lg_sl ([.ref (ad 41), .int x1, .int x2, .int x3, .int x4]) ++ List.replicate (7 - (lg_sl ([.ref (ad 41), .int x1, .int x2, .int x3, .int x4])).length) Slot.unset).toArray = ls at hl ⊢
  exact L_X12_tryOut_0 C0 hK hA   x1 x2 x3 x4 mod_suedBy mod_suedOn mod_endKind mod_isWon mod_suitDay mod_suitLand mod_undoneFrom mod_askedMany mod_firstMany mod_asked h s.heap [] ls hP hD va_S.rf hl
