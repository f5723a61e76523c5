abbrev z_J0_coder_7d493 : List Cond := .code yJ0_coder_7d493 cJ0_coder_7d493 1 (some .byte) :: zW
abbrev wl_J0_coder_7d493 (ad : Nat → Nat) (cs : Nat → ClassId)   : va_W := []
def Q_J0_coder_7d493 (D : va_G) (cs : Nat → ClassId) (ad : Nat → Nat)   (A : Nat → Prop) (R : Int32 × Unit) : Array Value → State → Outcome → State → Prop :=
  va_Qi (fun (r : Int32) (u : Unit) => (r, u) = R) (fun (u : Unit) (t : State) => va_P D classes (wl_J0_coder_7d493 ad cs ) t.heap ∧ va_D A (wl_J0_coder_7d493 ad cs )) A
abbrev rm_J0_coder_7d493 : Room := { frames := 0, cells := 0, slots := 0, locals := 0 }
def B_J0_coder_7d493_0     (i0 : Nat) : Option (Int32 × Unit) :=
  (if ¬ (narrow .byte (.int (0 : Int32)) = .int (0 : Int32)) then none else (some ((0 : Int32), ())))
def f_J0_coder_7d493   (i0 : Nat)  : Option (Int32 × Unit) := B_J0_coder_7d493_0    i0 
set_option maxHeartbeats 4000000 in
set_option maxRecDepth 100000 in
theorem c_J0_coder_7d493 (l : Launch) (D : va_G) (cs : Nat → ClassId) (ad : Nat → Nat) (k : (Nat → Nat) × (Nat → Nat)) (i0 : Nat) (hi0 : i0 < 5) (sz : Nat)   (R : Int32 × Unit) (h : f_J0_coder_7d493   i0  = some R) : Met l yJ0_coder_7d493 (z_J0_coder_7d493) rm_J0_coder_7d493 (va_Pc [.ref (k.1 i0)] (zPreE k D cs (wl_J0_coder_7d493 ad cs ) sz)) (Q_J0_coder_7d493 D cs ad  (va_A (wl_J0_coder_7d493 ad cs ) sz) R) 0 0 (va_A (wl_J0_coder_7d493 ad cs ) sz) := by sorry
abbrev z_J0_isLatin1_aae02 : List Cond := .code yJ0_isLatin1_aae02 cJ0_isLatin1_aae02 1 (some .boolean) :: zW
abbrev wl_J0_isLatin1_aae02 (ad : Nat → Nat) (cs : Nat → ClassId)   : va_W := []
def Q_J0_isLatin1_aae02 (D : va_G) (cs : Nat → ClassId) (ad : Nat → Nat)   (A : Nat → Prop) (R : Int32 × Unit) : Array Value → State → Outcome → State → Prop :=
  va_Qi (fun (r : Int32) (u : Unit) => (r, u) = R) (fun (u : Unit) (t : State) => va_P D classes (wl_J0_isLatin1_aae02 ad cs ) t.heap ∧ va_D A (wl_J0_isLatin1_aae02 ad cs )) A
abbrev rm_J0_isLatin1_aae02 : Room := { frames := 0, cells := 0, slots := 0, locals := 0 }
def B_J0_isLatin1_aae02_0     (i0 : Nat) : Option (Int32 × Unit) :=
  (some ((1 : Int32), ()))
def f_J0_isLatin1_aae02   (i0 : Nat)  : Option (Int32 × Unit) := B_J0_isLatin1_aae02_0    i0 
set_option maxHeartbeats 4000000 in
set_option maxRecDepth 100000 in
theorem c_J0_isLatin1_aae02 (l : Launch) (D : va_G) (cs : Nat → ClassId) (ad : Nat → Nat) (k : (Nat → Nat) × (Nat → Nat)) (i0 : Nat) (hi0 : i0 < 5) (sz : Nat)   (R : Int32 × Unit) (h : f_J0_isLatin1_aae02   i0  = some R) : Met l yJ0_isLatin1_aae02 (z_J0_isLatin1_aae02) rm_J0_isLatin1_aae02 (va_Pc [.ref (k.1 i0)] (zPreE k D cs (wl_J0_isLatin1_aae02 ad cs ) sz)) (Q_J0_isLatin1_aae02 D cs ad  (va_A (wl_J0_isLatin1_aae02 ad cs ) sz) R) 0 0 (va_A (wl_J0_isLatin1_aae02 ad cs ) sz) := by sorry
abbrev z_J0_length_8abf5 : List Cond := .code yJ0_length_8abf5 cJ0_length_8abf5 1 (some .int) :: zW
abbrev wl_J0_length_8abf5 (ad : Nat → Nat) (cs : Nat → ClassId)   : va_W := []
def Q_J0_length_8abf5 (D : va_G) (cs : Nat → ClassId) (ad : Nat → Nat)   (A : Nat → Prop) (R : Int32 × Unit) : Array Value → State → Outcome → State → Prop :=
  va_Qi (fun (r : Int32) (u : Unit) => (r, u) = R) (fun (u : Unit) (t : State) => va_P D classes (wl_J0_length_8abf5 ad cs ) t.heap ∧ va_D A (wl_J0_length_8abf5 ad cs )) A
abbrev rm_J0_length_8abf5 : Room := { frames := 1, cells := 0, slots := 0, locals := 20 }
def B_J0_length_8abf5_0     (i0 : Nat) : Option (Int32 × Unit) :=
  (zk_b2 (f_J0_coder_7d493 i0) (fun r_1 u_2 => (some ((Int32.ofNat (zLen.getD i0 0)) >>> (r_1 &&& 31), ()))))
def f_J0_length_8abf5   (i0 : Nat)  : Option (Int32 × Unit) := B_J0_length_8abf5_0    i0 
set_option maxHeartbeats 4000000 in
set_option maxRecDepth 100000 in
theorem c_J0_length_8abf5 (l : Launch) (D : va_G) (cs : Nat → ClassId) (ad : Nat → Nat) (k : (Nat → Nat) × (Nat → Nat)) (i0 : Nat) (hi0 : i0 < 5) (sz : Nat)   (R : Int32 × Unit) (h : f_J0_length_8abf5   i0  = some R) : Met l yJ0_length_8abf5 (z_J0_length_8abf5) rm_J0_length_8abf5 (va_Pc [.ref (k.1 i0)] (zPreE k D cs (wl_J0_length_8abf5 ad cs ) sz)) (Q_J0_length_8abf5 D cs ad  (va_A (wl_J0_length_8abf5 ad cs ) sz) R) 0 0 (va_A (wl_J0_length_8abf5 ad cs ) sz) := by sorry
abbrev z_J1_charAt_3b067 : List Cond := .code yJ1_charAt_3b067 cJ1_charAt_3b067 2 (some .char) :: zW
abbrev wl_J1_charAt_3b067 (ad : Nat → Nat) (cs : Nat → ClassId)   : va_W := []
def Q_J1_charAt_3b067 (D : va_G) (cs : Nat → ClassId) (ad : Nat → Nat)   (A : Nat → Prop) (R : Int32 × Unit) : Array Value → State → Outcome → State → Prop :=
  va_Qi (fun (r : Int32) (u : Unit) => (r, u) = R) (fun (u : Unit) (t : State) => va_P D classes (wl_J1_charAt_3b067 ad cs ) t.heap ∧ va_D A (wl_J1_charAt_3b067 ad cs )) A
abbrev rm_J1_charAt_3b067 : Room := { frames := 2, cells := 0, slots := 0, locals := 43 }
def B_J1_charAt_3b067_0     (i0 : Nat) (x1 : Int32) : Option (Int32 × Unit) :=
  (if (x1 < 0 ∨ (Int32.ofNat (zLen.getD i0 0)) ≤ x1) then none else (if (x1 < 0 ∨ (zLen.getD i0 0) ≤ x1.toNatClampNeg) then none else (if ¬ (narrow .char (.int (((((zByt.getD i0 []).getD x1.toNatClampNeg 0) &&& (255 : Int32)).toUInt32 % 65536).toInt32)) = .int (((((zByt.getD i0 []).getD x1.toNatClampNeg 0) &&& (255 : Int32)).toUInt32 % 65536).toInt32)) then none else (some (((((zByt.getD i0 []).getD x1.toNatClampNeg 0) &&& (255 : Int32)).toUInt32 % 65536).toInt32, ())))))
def f_J1_charAt_3b067   (i0 : Nat) (x1 : Int32)  : Option (Int32 × Unit) := B_J1_charAt_3b067_0    i0 x1 
set_option maxHeartbeats 4000000 in
set_option maxRecDepth 100000 in
theorem c_J1_charAt_3b067 (l : Launch) (D : va_G) (cs : Nat → ClassId) (ad : Nat → Nat) (k : (Nat → Nat) × (Nat → Nat)) (i0 : Nat) (hi0 : i0 < 5) (sz : Nat) (x1 : Int32)  (R : Int32 × Unit) (h : f_J1_charAt_3b067   i0 x1  = some R) : Met l yJ1_charAt_3b067 (z_J1_charAt_3b067) rm_J1_charAt_3b067 (va_Pc [.ref (k.2 i0), .int x1] (zPreE k D cs (wl_J1_charAt_3b067 ad cs ) sz)) (Q_J1_charAt_3b067 D cs ad  (va_A (wl_J1_charAt_3b067 ad cs ) sz) R) 0 0 (va_A (wl_J1_charAt_3b067 ad cs ) sz) := by sorry
abbrev z_J0_charAt_5068e : List Cond := .code yJ0_charAt_5068e cJ0_charAt_5068e 2 (some .char) :: zW
abbrev wl_J0_charAt_5068e (ad : Nat → Nat) (cs : Nat → ClassId)   : va_W := []
def Q_J0_charAt_5068e (D : va_G) (cs : Nat → ClassId) (ad : Nat → Nat)   (A : Nat → Prop) (R : Int32 × Unit) : Array Value → State → Outcome → State → Prop :=
  va_Qi (fun (r : Int32) (u : Unit) => (r, u) = R) (fun (u : Unit) (t : State) => va_P D classes (wl_J0_charAt_5068e ad cs ) t.heap ∧ va_D A (wl_J0_charAt_5068e ad cs )) A
abbrev rm_J0_charAt_5068e : Room := { frames := 3, cells := 0, slots := 0, locals := 64 }
def B_J0_charAt_5068e_0     (i0 : Nat) (x1 : Int32) : Option (Int32 × Unit) :=
  (zk_b2 (f_J0_isLatin1_aae02 i0) (fun r_1 u_2 => (if r_1 = 0 then none else (zk_b2 (f_J1_charAt_3b067 i0 x1) (fun r_5 u_6 => (if ¬ (narrow .char (.int r_5) = .int r_5) then none else (some (r_5, ()))))))))
def f_J0_charAt_5068e   (i0 : Nat) (x1 : Int32)  : Option (Int32 × Unit) := B_J0_charAt_5068e_0    i0 x1 
set_option maxHeartbeats 4000000 in
set_option maxRecDepth 100000 in
theorem c_J0_charAt_5068e (l : Launch) (D : va_G) (cs : Nat → ClassId) (ad : Nat → Nat) (k : (Nat → Nat) × (Nat → Nat)) (i0 : Nat) (hi0 : i0 < 5) (sz : Nat) (x1 : Int32)  (R : Int32 × Unit) (h : f_J0_charAt_5068e   i0 x1  = some R) : Met l yJ0_charAt_5068e (z_J0_charAt_5068e) rm_J0_charAt_5068e (va_Pc [.ref (k.1 i0), .int x1] (zPreE k D cs (wl_J0_charAt_5068e ad cs ) sz)) (Q_J0_charAt_5068e D cs ad  (va_A (wl_J0_charAt_5068e ad cs ) sz) R) 0 0 (va_A (wl_J0_charAt_5068e ad cs ) sz) := by sorry
abbrev z_J1_canEncode_9a6ad : List Cond := .code yJ1_canEncode_9a6ad cJ1_canEncode_9a6ad 1 (some .boolean) :: zW
abbrev wl_J1_canEncode_9a6ad (ad : Nat → Nat) (cs : Nat → ClassId)   : va_W := []
def Q_J1_canEncode_9a6ad (D : va_G) (cs : Nat → ClassId) (ad : Nat → Nat)   (A : Nat → Prop) (R : Int32 × Unit) : Array Value → State → Outcome → State → Prop :=
  va_Qi (fun (r : Int32) (u : Unit) => (r, u) = R) (fun (u : Unit) (t : State) => va_P D classes (wl_J1_canEncode_9a6ad ad cs ) t.heap ∧ va_D A (wl_J1_canEncode_9a6ad ad cs )) A
abbrev rm_J1_canEncode_9a6ad : Room := { frames := 0, cells := 0, slots := 0, locals := 0 }
def B_J1_canEncode_9a6ad_0     (x0 : Int32) : Option (Int32 × Unit) :=
  (if x0 < 0 then (some ((0 : Int32), ())) else (if (255 : Int32) < x0 then (some ((0 : Int32), ())) else (some ((1 : Int32), ()))))
def f_J1_canEncode_9a6ad   (x0 : Int32)  : Option (Int32 × Unit) := B_J1_canEncode_9a6ad_0    x0 
set_option maxHeartbeats 4000000 in
set_option maxRecDepth 100000 in
theorem c_J1_canEncode_9a6ad (l : Launch) (D : va_G) (cs : Nat → ClassId) (ad : Nat → Nat) (sz : Nat) (x0 : Int32)  (R : Int32 × Unit) (h : f_J1_canEncode_9a6ad   x0  = some R) : Met l yJ1_canEncode_9a6ad (z_J1_canEncode_9a6ad) rm_J1_canEncode_9a6ad (va_Pc [.int x0] (zPre D cs (wl_J1_canEncode_9a6ad ad cs ) sz)) (Q_J1_canEncode_9a6ad D cs ad  (va_A (wl_J1_canEncode_9a6ad ad cs ) sz) R) 0 0 (va_A (wl_J1_canEncode_9a6ad ad cs ) sz) := by sorry
abbrev z_J1_indexOfChar_4cfef : List Cond := .code yJ1_indexOfChar_4cfef cJ1_indexOfChar_4cfef 6 (some .int) :: zW
abbrev wl_J1_indexOfChar_4cfef (ad : Nat → Nat) (cs : Nat → ClassId)   : va_W := []
def Q_J1_indexOfChar_4cfef (D : va_G) (cs : Nat → ClassId) (ad : Nat → Nat)   (A : Nat → Prop) (R : Int32 × Unit) : Array Value → State → Outcome → State → Prop :=
  va_Qi (fun (r : Int32) (u : Unit) => (r, u) = R) (fun (u : Unit) (t : State) => va_P D classes (wl_J1_indexOfChar_4cfef ad cs ) t.heap ∧ va_D A (wl_J1_indexOfChar_4cfef ad cs )) A
abbrev rm_J1_indexOfChar_4cfef : Room := { frames := 0, cells := 0, slots := 0, locals := 0 }
def B_J1_indexOfChar_4cfef_7   (g7 : Nat → Int32 → Int32 → Int32 → (Option (Int32 × Unit)))  (i0 : Nat) (x3 : Int32) (x4 : Int32) (x5 : Int32) : Option (Int32 × Unit) :=
  (if x3 ≤ x5 then (some ((-1 : Int32), ())) else (if (x5 < 0 ∨ (zLen.getD i0 0) ≤ x5.toNatClampNeg) then none else (if ((zByt.getD i0 []).getD x5.toNatClampNeg 0) = x4 then (some (x5, ())) else (zk_let (x5 + (1 : Int32)) (fun v_5 => (g7 i0 x3 x4 v_5))))))
def B_J1_indexOfChar_4cfef_0   (g7 : Nat → Int32 → Int32 → Int32 → (Option (Int32 × Unit)))  (i0 : Nat) (x1 : Int32) (x2 : Int32) (x3 : Int32) : Option (Int32 × Unit) :=
  (zk_let (x1.toInt8.toInt32) (fun v_1 => (g7 i0 x3 v_1 x2)))
def G_J1_indexOfChar_4cfef    (n : Nat) : (Nat → Int32 → Int32 → Int32 → (Option (Int32 × Unit))) :=
  Nat.rec (motive := fun _ => (Nat → Int32 → Int32 → Int32 → (Option (Int32 × Unit)))) ((fun _ _ _ _ => none)) (fun _ ih => (B_J1_indexOfChar_4cfef_7   ih )) n
def f_J1_indexOfChar_4cfef   (n : Nat) (i0 : Nat) (x1 : Int32) (x2 : Int32) (x3 : Int32)  : Option (Int32 × Unit) := B_J1_indexOfChar_4cfef_0   ((G_J1_indexOfChar_4cfef    n))  i0 x1 x2 x3 
set_option maxHeartbeats 4000000 in
set_option maxRecDepth 100000 in
theorem c_J1_indexOfChar_4cfef (l : Launch) (D : va_G) (cs : Nat → ClassId) (ad : Nat → Nat) (k : (Nat → Nat) × (Nat → Nat)) (i0 : Nat) (hi0 : i0 < 5) (sz : Nat) (n : Nat) (x1 : Int32) (x2 : Int32) (x3 : Int32)  (R : Int32 × Unit) (h : f_J1_indexOfChar_4cfef   n i0 x1 x2 x3  = some R) : Met l yJ1_indexOfChar_4cfef (z_J1_indexOfChar_4cfef) rm_J1_indexOfChar_4cfef (va_Pc [.ref (k.2 i0), .int x1, .int x2, .int x3] (zPreE k D cs (wl_J1_indexOfChar_4cfef ad cs ) sz)) (Q_J1_indexOfChar_4cfef D cs ad  (va_A (wl_J1_indexOfChar_4cfef ad cs ) sz) R) 0 0 (va_A (wl_J1_indexOfChar_4cfef ad cs ) sz) := by sorry
abbrev z_J1_indexOf_4cfef : List Cond := .code yJ1_indexOf_4cfef cJ1_indexOf_4cfef 4 (some .int) :: zW
abbrev wl_J1_indexOf_4cfef (ad : Nat → Nat) (cs : Nat → ClassId)   : va_W := []
def Q_J1_indexOf_4cfef (D : va_G) (cs : Nat → ClassId) (ad : Nat → Nat)   (A : Nat → Prop) (R : Int32 × Unit) : Array Value → State → Outcome → State → Prop :=
  va_Qi (fun (r : Int32) (u : Unit) => (r, u) = R) (fun (u : Unit) (t : State) => va_P D classes (wl_J1_indexOf_4cfef ad cs ) t.heap ∧ va_D A (wl_J1_indexOf_4cfef ad cs )) A
abbrev rm_J1_indexOf_4cfef : Room := { frames := 1, cells := 0, slots := 0, locals := 25 }
def B_J1_indexOf_4cfef_0     (i0 : Nat) (x1 : Int32) (x2 : Int32) (x3 : Int32) : Option (Int32 × Unit) :=
  (zk_b2 (f_J1_canEncode_9a6ad x1) (fun r_1 u_2 => (if r_1 = 0 then (some ((-1 : Int32), ())) else (zk_let (if x2 < (0 : Int32) then (0 : Int32) else x2) (fun v_5 => (zk_let (if (Int32.ofNat (zLen.getD i0 0)) < x3 then (Int32.ofNat (zLen.getD i0 0)) else x3) (fun v_6 => (if v_5 < v_6 then (zk_b2 (f_J1_indexOfChar_4cfef 100000 i0 x1 v_5 v_6) (fun r_8 u_9 => (some (r_8, ())))) else (some ((-1 : Int32), ()))))))))))
def f_J1_indexOf_4cfef   (i0 : Nat) (x1 : Int32) (x2 : Int32) (x3 : Int32)  : Option (Int32 × Unit) := B_J1_indexOf_4cfef_0    i0 x1 x2 x3 
set_option maxHeartbeats 4000000 in
set_option maxRecDepth 100000 in
theorem c_J1_indexOf_4cfef (l : Launch) (D : va_G) (cs : Nat → ClassId) (ad : Nat → Nat) (k : (Nat → Nat) × (Nat → Nat)) (i0 : Nat) (hi0 : i0 < 5) (sz : Nat) (x1 : Int32) (x2 : Int32) (x3 : Int32)  (R : Int32 × Unit) (h : f_J1_indexOf_4cfef   i0 x1 x2 x3  = some R) : Met l yJ1_indexOf_4cfef (z_J1_indexOf_4cfef) rm_J1_indexOf_4cfef (va_Pc [.ref (k.2 i0), .int x1, .int x2, .int x3] (zPreE k D cs (wl_J1_indexOf_4cfef ad cs ) sz)) (Q_J1_indexOf_4cfef D cs ad  (va_A (wl_J1_indexOf_4cfef ad cs ) sz) R) 0 0 (va_A (wl_J1_indexOf_4cfef ad cs ) sz) := by sorry
abbrev z_J0_indexOf_7cf53 : List Cond := .code yJ0_indexOf_7cf53 cJ0_indexOf_7cf53 3 (some .int) :: zW
abbrev wl_J0_indexOf_7cf53 (ad : Nat → Nat) (cs : Nat → ClassId)   : va_W := []
def Q_J0_indexOf_7cf53 (D : va_G) (cs : Nat → ClassId) (ad : Nat → Nat)   (A : Nat → Prop) (R : Int32 × Unit) : Array Value → State → Outcome → State → Prop :=
  va_Qi (fun (r : Int32) (u : Unit) => (r, u) = R) (fun (u : Unit) (t : State) => va_P D classes (wl_J0_indexOf_7cf53 ad cs ) t.heap ∧ va_D A (wl_J0_indexOf_7cf53 ad cs )) A
abbrev rm_J0_indexOf_7cf53 : Room := { frames := 2, cells := 0, slots := 0, locals := 48 }
def B_J0_indexOf_7cf53_0     (i0 : Nat) (x1 : Int32) (x2 : Int32) : Option (Int32 × Unit) :=
  (zk_b2 (f_J0_isLatin1_aae02 i0) (fun r_1 u_2 => (if r_1 = 0 then (zk_b2 (f_J0_length_8abf5 i0) (fun r_5 u_6 => none)) else (zk_b2 (f_J0_length_8abf5 i0) (fun r_8 u_9 => (zk_b2 (f_J1_indexOf_4cfef i0 x1 x2 r_8) (fun r_11 u_12 => (some (r_11, ())))))))))
def f_J0_indexOf_7cf53   (i0 : Nat) (x1 : Int32) (x2 : Int32)  : Option (Int32 × Unit) := B_J0_indexOf_7cf53_0    i0 x1 x2 
set_option maxHeartbeats 4000000 in
set_option maxRecDepth 100000 in
theorem c_J0_indexOf_7cf53 (l : Launch) (D : va_G) (cs : Nat → ClassId) (ad : Nat → Nat) (k : (Nat → Nat) × (Nat → Nat)) (i0 : Nat) (hi0 : i0 < 5) (sz : Nat) (x1 : Int32) (x2 : Int32)  (R : Int32 × Unit) (h : f_J0_indexOf_7cf53   i0 x1 x2  = some R) : Met l yJ0_indexOf_7cf53 (z_J0_indexOf_7cf53) rm_J0_indexOf_7cf53 (va_Pc [.ref (k.1 i0), .int x1, .int x2] (zPreE k D cs (wl_J0_indexOf_7cf53 ad cs ) sz)) (Q_J0_indexOf_7cf53 D cs ad  (va_A (wl_J0_indexOf_7cf53 ad cs ) sz) R) 0 0 (va_A (wl_J0_indexOf_7cf53 ad cs ) sz) := by sorry
abbrev z_J0_indexOf_0f7a4 : List Cond := .code yJ0_indexOf_0f7a4 cJ0_indexOf_0f7a4 2 (some .int) :: zW
abbrev wl_J0_indexOf_0f7a4 (ad : Nat → Nat) (cs : Nat → ClassId)   : va_W := []
def Q_J0_indexOf_0f7a4 (D : va_G) (cs : Nat → ClassId) (ad : Nat → Nat)   (A : Nat → Prop) (R : Int32 × Unit) : Array Value → State → Outcome → State → Prop :=
  va_Qi (fun (r : Int32) (u : Unit) => (r, u) = R) (fun (u : Unit) (t : State) => va_P D classes (wl_J0_indexOf_0f7a4 ad cs ) t.heap ∧ va_D A (wl_J0_indexOf_0f7a4 ad cs )) A
abbrev rm_J0_indexOf_0f7a4 : Room := { frames := 3, cells := 0, slots := 0, locals := 70 }
def B_J0_indexOf_0f7a4_0     (i0 : Nat) (x1 : Int32) : Option (Int32 × Unit) :=
  (zk_b2 (f_J0_indexOf_7cf53 i0 x1 (0 : Int32)) (fun r_1 u_2 => (some (r_1, ()))))
def f_J0_indexOf_0f7a4   (i0 : Nat) (x1 : Int32)  : Option (Int32 × Unit) := B_J0_indexOf_0f7a4_0    i0 x1 
set_option maxHeartbeats 4000000 in
set_option maxRecDepth 100000 in
theorem c_J0_indexOf_0f7a4 (l : Launch) (D : va_G) (cs : Nat → ClassId) (ad : Nat → Nat) (k : (Nat → Nat) × (Nat → Nat)) (i0 : Nat) (hi0 : i0 < 5) (sz : Nat) (x1 : Int32)  (R : Int32 × Unit) (h : f_J0_indexOf_0f7a4   i0 x1  = some R) : Met l yJ0_indexOf_0f7a4 (z_J0_indexOf_0f7a4) rm_J0_indexOf_0f7a4 (va_Pc [.ref (k.1 i0), .int x1] (zPreE k D cs (wl_J0_indexOf_0f7a4 ad cs ) sz)) (Q_J0_indexOf_0f7a4 D cs ad  (va_A (wl_J0_indexOf_0f7a4 ad cs ) sz) R) 0 0 (va_A (wl_J0_indexOf_0f7a4 ad cs ) sz) := by sorry
abbrev z_X9_write : List Cond := .code yX9_write cX9_write 3 none :: zW
abbrev wl_X9_write (ad : Nat → Nat) (cs : Nat → ClassId)  (tape_size : Int32) (tape_bytes : Nat → Int32) : va_W := [((ad 23), .inr (9, [.ref (ad 24), .int tape_size])), ((ad 24), .inl (cs 0, 120, .inl tape_bytes))]
def Q_X9_write (D : va_G) (cs : Nat → ClassId) (ad : Nat → Nat)   (A : Nat → Prop) (R : Int32 × (Nat → Int32)) : Array Value → State → Outcome → State → Prop :=
  va_Qv (fun u : Int32 × (Nat → Int32) => u = R) (fun (u : Int32 × (Nat → Int32)) (t : State) => va_P D classes (wl_X9_write ad cs u.1 u.2) t.heap ∧ va_D A (wl_X9_write ad cs u.1 u.2)) A
abbrev rm_X9_write : Room := { frames := 4, cells := 0, slots := 0, locals := 85 }
def B_X9_write_7   (g7 : Nat → Int32 → Int32 → (Nat → Int32) → (Option (Int32 × (Nat → Int32))))  (i0 : Nat) (x2 : Int32) (tape_size : Int32) (tape_bytes : Nat → Int32) : Option (Int32 × (Nat → Int32)) :=
  (zk_b2 (f_J0_length_8abf5 i0) (fun r_1 u_2 => (if r_1 ≤ x2 then (some (tape_size, tape_bytes)) else (zk_b2 (f_J0_charAt_5068e i0 x2) (fun r_5 u_6 => (zk_b2 (f_X9_add r_5 tape_size tape_bytes) (fun u_8 u_9 => (zk_let (x2 + (1 : Int32)) (fun v_11 => (g7 i0 v_11 u_8 u_9))))))))))
def B_X9_write_0   (g7 : Nat → Int32 → Int32 → (Nat → Int32) → (Option (Int32 × (Nat → Int32))))  (i0 : Nat) (tape_size : Int32) (tape_bytes : Nat → Int32) : Option (Int32 × (Nat → Int32)) :=
  (g7 i0 (0 : Int32) (0 : Int32) tape_bytes)
def G_X9_write    (n : Nat) : (Nat → Int32 → Int32 → (Nat → Int32) → (Option (Int32 × (Nat → Int32)))) :=
  Nat.rec (motive := fun _ => (Nat → Int32 → Int32 → (Nat → Int32) → (Option (Int32 × (Nat → Int32))))) ((fun _ _ _ _ => none)) (fun _ ih => (B_X9_write_7   ih )) n
def f_X9_write   (n : Nat) (i0 : Nat) (tape_size : Int32) (tape_bytes : Nat → Int32) : Option (Int32 × (Nat → Int32)) := B_X9_write_0   ((G_X9_write    n))  i0 tape_size tape_bytes
set_option maxHeartbeats 4000000 in
set_option maxRecDepth 100000 in
theorem c_X9_write (l : Launch) (D : va_G) (cs : Nat → ClassId) (ad : Nat → Nat) (k : (Nat → Nat) × (Nat → Nat)) (i0 : Nat) (hi0 : i0 < 5) (sz : Nat) (n : Nat)  (tape_size : Int32) (tape_bytes : Nat → Int32) (R : Int32 × (Nat → Int32)) (h : f_X9_write   n i0 tape_size tape_bytes = some R) : Met l yX9_write (z_X9_write) rm_X9_write (va_Pc [.ref (ad 23), .ref (k.1 i0)] (zPreE k D cs (wl_X9_write ad cs tape_size tape_bytes) sz)) (Q_X9_write D cs ad  (va_A (wl_X9_write ad cs tape_size tape_bytes) sz) R) 0 0 (va_A (wl_X9_write ad cs tape_size tape_bytes) sz) := by sorry
abbrev z_X5_accept : List Cond := .code yX5_accept cX5_accept 2 (some .boolean) :: zW
abbrev wl_X5_accept (ad : Nat → Nat) (cs : Nat → ClassId)  (tape_size : Int32) (tape_bytes : Nat → Int32) (lr_size : Int32) (lr_at : Int32) (lr_fault : Int32) : va_W := [((ad 23), .inr (9, [.ref (ad 24), .int tape_size])), ((ad 24), .inl (cs 0, 120, .inl tape_bytes)), ((ad 26), .inr (5, [.ref (ad 23), .ref (ad 27), .int lr_size, .int lr_at, .int lr_fault]))]
def Q_X5_accept (D : va_G) (cs : Nat → ClassId) (ad : Nat → Nat)  (tape_size : Int32) (tape_bytes : Nat → Int32) (lr_size : Int32) (lr_fault : Int32) (A : Nat → Prop) (R : Int32 × Int32) : Array Value → State → Outcome → State → Prop :=
  va_Qi (fun (r : Int32) (u : Int32) => (r, u) = R) (fun (u : Int32) (t : State) => va_P D classes (wl_X5_accept ad cs tape_size tape_bytes lr_size u lr_fault) t.heap ∧ va_D A (wl_X5_accept ad cs tape_size tape_bytes lr_size u lr_fault)) A
abbrev rm_X5_accept : Room := { frames := 1, cells := 0, slots := 0, locals := 21 }
def B_X5_accept_0    (tape_size : Int32) (tape_bytes : Nat → Int32) (lr_size : Int32) (lr_fault : Int32) (x1 : Int32) (lr_at : Int32) : Option (Int32 × Int32) :=
  (if 0 ≤ lr_fault then (some ((0 : Int32), lr_at)) else (zk_b2 (f_X9_byteAt lr_at tape_size tape_bytes) (fun r_2 u_3 => (if r_2 = x1 then (zk_let (lr_at + (1 : Int32)) (fun v_6 => (some ((1 : Int32), v_6)))) else (some ((0 : Int32), lr_at))))))
def f_X5_accept   (x1 : Int32) (tape_size : Int32) (tape_bytes : Nat → Int32) (lr_size : Int32) (lr_at : Int32) (lr_fault : Int32) : Option (Int32 × Int32) := B_X5_accept_0   tape_size tape_bytes lr_size lr_fault x1 lr_at
set_option maxHeartbeats 4000000 in
set_option maxRecDepth 100000 in
theorem c_X5_accept (l : Launch) (D : va_G) (cs : Nat → ClassId) (ad : Nat → Nat) (sz : Nat) (x1 : Int32) (tape_size : Int32) (tape_bytes : Nat → Int32) (lr_size : Int32) (lr_at : Int32) (lr_fault : Int32) (R : Int32 × Int32) (h : f_X5_accept   x1 tape_size tape_bytes lr_size lr_at lr_fault = some R) : Met l yX5_accept (z_X5_accept) rm_X5_accept (va_Pc [.ref (ad 26), .int x1] (zPre D cs (wl_X5_accept ad cs tape_size tape_bytes lr_size lr_at lr_fault) sz)) (Q_X5_accept D cs ad tape_size tape_bytes lr_size lr_fault (va_A (wl_X5_accept ad cs tape_size tape_bytes lr_size lr_at lr_fault) sz) R) 0 0 (va_A (wl_X5_accept ad cs tape_size tape_bytes lr_size lr_at lr_fault) sz) := by sorry
abbrev z_X5_fail : List Cond := .code yX5_fail cX5_fail 1 none :: zW
abbrev wl_X5_fail (ad : Nat → Nat) (cs : Nat → ClassId)  (lr_size : Int32) (lr_at : Int32) (lr_fault : Int32) : va_W := [((ad 26), .inr (5, [.ref (ad 23), .ref (ad 27), .int lr_size, .int lr_at, .int lr_fault]))]
def Q_X5_fail (D : va_G) (cs : Nat → ClassId) (ad : Nat → Nat)  (lr_size : Int32) (lr_at : Int32) (A : Nat → Prop) (R : Int32) : Array Value → State → Outcome → State → Prop :=
  va_Qv (fun u : Int32 => u = R) (fun (u : Int32) (t : State) => va_P D classes (wl_X5_fail ad cs lr_size lr_at u) t.heap ∧ va_D A (wl_X5_fail ad cs lr_size lr_at u)) A
abbrev rm_X5_fail : Room := { frames := 0, cells := 0, slots := 0, locals := 0 }
def B_X5_fail_0    (lr_size : Int32) (lr_at : Int32) (lr_fault : Int32) : Option (Int32) :=
  (if 0 ≤ lr_fault then (some lr_fault) else (some lr_at))
def f_X5_fail    (lr_size : Int32) (lr_at : Int32) (lr_fault : Int32) : Option (Int32) := B_X5_fail_0   lr_size lr_at  lr_fault
set_option maxHeartbeats 4000000 in
set_option maxRecDepth 100000 in
theorem c_X5_fail (l : Launch) (D : va_G) (cs : Nat → ClassId) (ad : Nat → Nat) (sz : Nat)  (lr_size : Int32) (lr_at : Int32) (lr_fault : Int32) (R : Int32) (h : f_X5_fail    lr_size lr_at lr_fault = some R) : Met l yX5_fail (z_X5_fail) rm_X5_fail (va_Pc [.ref (ad 26)] (zPre D cs (wl_X5_fail ad cs lr_size lr_at lr_fault) sz)) (Q_X5_fail D cs ad lr_size lr_at (va_A (wl_X5_fail ad cs lr_size lr_at lr_fault) sz) R) 0 0 (va_A (wl_X5_fail ad cs lr_size lr_at lr_fault) sz) := by sorry
abbrev z_X5_emit : List Cond := .code yX5_emit cX5_emit 2 none :: zW
abbrev wl_X5_emit (ad : Nat → Nat) (cs : Nat → ClassId)  (lr_size : Int32) (lr_at : Int32) (lr_fault : Int32) (lr_code : Nat → Int32) : va_W := [((ad 26), .inr (5, [.ref (ad 23), .ref (ad 27), .int lr_size, .int lr_at, .int lr_fault])), ((ad 27), .inl (cs 0, 121, .inl lr_code))]
def Q_X5_emit (D : va_G) (cs : Nat → ClassId) (ad : Nat → Nat)  (lr_at : Int32) (lr_fault : Int32) (A : Nat → Prop) (R : Int32 × (Nat → Int32)) : Array Value → State → Outcome → State → Prop :=
  va_Qv (fun u : Int32 × (Nat → Int32) => u = R) (fun (u : Int32 × (Nat → Int32)) (t : State) => va_P D classes (wl_X5_emit ad cs u.1 lr_at lr_fault u.2) t.heap ∧ va_D A (wl_X5_emit ad cs u.1 lr_at lr_fault u.2)) A
abbrev rm_X5_emit : Room := { frames := 0, cells := 0, slots := 0, locals := 0 }
def B_X5_emit_0    (lr_at : Int32) (lr_fault : Int32) (x1 : Int32) (lr_size : Int32) (lr_code : Nat → Int32) : Option (Int32 × (Nat → Int32)) :=
  (if 0 ≤ lr_fault then (some (lr_size, lr_code)) else (if (121 : Int32) ≤ lr_size then (some (lr_size, lr_code)) else (if (lr_size < 0 ∨ 121 ≤ lr_size.toNatClampNeg) then none else (zk_let (upd lr_code lr_size.toNatClampNeg x1) (fun f_4 => (zk_let (lr_size + (1 : Int32)) (fun v_5 => (some (v_5, f_4)))))))))
def f_X5_emit   (x1 : Int32) (lr_size : Int32) (lr_at : Int32) (lr_fault : Int32) (lr_code : Nat → Int32) : Option (Int32 × (Nat → Int32)) := B_X5_emit_0   lr_at lr_fault x1 lr_size lr_code
set_option maxHeartbeats 4000000 in
set_option maxRecDepth 100000 in
theorem c_X5_emit (l : Launch) (D : va_G) (cs : Nat → ClassId) (ad : Nat → Nat) (sz : Nat) (x1 : Int32) (lr_size : Int32) (lr_at : Int32) (lr_fault : Int32) (lr_code : Nat → Int32) (R : Int32 × (Nat → Int32)) (h : f_X5_emit   x1 lr_size lr_at lr_fault lr_code = some R) : Met l yX5_emit (z_X5_emit) rm_X5_emit (va_Pc [.ref (ad 26), .int x1] (zPre D cs (wl_X5_emit ad cs lr_size lr_at lr_fault lr_code) sz)) (Q_X5_emit D cs ad lr_at lr_fault (va_A (wl_X5_emit ad cs lr_size lr_at lr_fault lr_code) sz) R) 0 0 (va_A (wl_X5_emit ad cs lr_size lr_at lr_fault lr_code) sz) := by sorry
abbrev z_X5_mayOpen : List Cond := .code yX5_mayOpen cX5_mayOpen 2 (some .boolean) :: zW
abbrev wl_X5_mayOpen (ad : Nat → Nat) (cs : Nat → ClassId)  (lr_size : Int32) (lr_at : Int32) (lr_fault : Int32) : va_W := [((ad 26), .inr (5, [.ref (ad 23), .ref (ad 27), .int lr_size, .int lr_at, .int lr_fault]))]
def Q_X5_mayOpen (D : va_G) (cs : Nat → ClassId) (ad : Nat → Nat)  (lr_size : Int32) (A : Nat → Prop) (R : Int32 × Int32 × Int32) : Array Value → State → Outcome → State → Prop :=
  va_Qi (fun (r : Int32) (u : Int32 × Int32) => (r, u) = R) (fun (u : Int32 × Int32) (t : State) => va_P D classes (wl_X5_mayOpen ad cs lr_size u.1 u.2) t.heap ∧ va_D A (wl_X5_mayOpen ad cs lr_size u.1 u.2)) A
abbrev rm_X5_mayOpen : Room := { frames := 1, cells := 0, slots := 0, locals := 20 }
def B_X5_mayOpen_0    (lr_size : Int32) (x1 : Int32) (lr_at : Int32) (lr_fault : Int32) : Option (Int32 × Int32 × Int32) :=
  (if x1 < (6 : Int32) then (zk_let (lr_at + (1 : Int32)) (fun v_2 => (some ((1 : Int32), v_2, lr_fault)))) else (zk_b1 (f_X5_fail lr_size lr_at lr_fault) (fun u_3 => (some ((0 : Int32), lr_at, u_3)))))
def f_X5_mayOpen   (x1 : Int32) (lr_size : Int32) (lr_at : Int32) (lr_fault : Int32) : Option (Int32 × Int32 × Int32) := B_X5_mayOpen_0   lr_size x1 lr_at lr_fault
set_option maxHeartbeats 4000000 in
set_option maxRecDepth 100000 in
theorem c_X5_mayOpen (l : Launch) (D : va_G) (cs : Nat → ClassId) (ad : Nat → Nat) (sz : Nat) (x1 : Int32) (lr_size : Int32) (lr_at : Int32) (lr_fault : Int32) (R : Int32 × Int32 × Int32) (h : f_X5_mayOpen   x1 lr_size lr_at lr_fault = some R) : Met l yX5_mayOpen (z_X5_mayOpen) rm_X5_mayOpen (va_Pc [.ref (ad 26), .int x1] (zPre D cs (wl_X5_mayOpen ad cs lr_size lr_at lr_fault) sz)) (Q_X5_mayOpen D cs ad lr_size (va_A (wl_X5_mayOpen ad cs lr_size lr_at lr_fault) sz) R) 0 0 (va_A (wl_X5_mayOpen ad cs lr_size lr_at lr_fault) sz) := by sorry
abbrev z_X5_operatorAt : List Cond := .code yX5_operatorAt cX5_operatorAt 3 (some .int) :: zW
abbrev wl_X5_operatorAt (ad : Nat → Nat) (cs : Nat → ClassId)  (tape_size : Int32) (tape_bytes : Nat → Int32) (lr_size : Int32) (lr_at : Int32) (lr_fault : Int32) : va_W := [((ad 23), .inr (9, [.ref (ad 24), .int tape_size])), ((ad 24), .inl (cs 0, 120, .inl tape_bytes)), ((ad 26), .inr (5, [.ref (ad 23), .ref (ad 27), .int lr_size, .int lr_at, .int lr_fault]))]
def Q_X5_operatorAt (D : va_G) (cs : Nat → ClassId) (ad : Nat → Nat)  (tape_size : Int32) (tape_bytes : Nat → Int32) (lr_size : Int32) (lr_at : Int32) (lr_fault : Int32) (A : Nat → Prop) (R : Int32 × Unit) : Array Value → State → Outcome → State → Prop :=
  va_Qi (fun (r : Int32) (u : Unit) => (r, u) = R) (fun (u : Unit) (t : State) => va_P D classes (wl_X5_operatorAt ad cs tape_size tape_bytes lr_size lr_at lr_fault) t.heap ∧ va_D A (wl_X5_operatorAt ad cs tape_size tape_bytes lr_size lr_at lr_fault)) A
abbrev rm_X5_operatorAt : Room := { frames := 1, cells := 0, slots := 0, locals := 21 }
def B_X5_operatorAt_0    (tape_size : Int32) (tape_bytes : Nat → Int32) (lr_size : Int32) (lr_at : Int32) (lr_fault : Int32) (x1 : Int32) : Option (Int32 × Unit) :=
  (zk_b2 (f_X9_byteAt lr_at tape_size tape_bytes) (fun r_1 u_2 => (if x1 = (0 : Int32) then (if r_1 = (124 : Int32) then (some ((6 : Int32), ())) else (some ((-1 : Int32), ()))) else (if x1 = (1 : Int32) then (if r_1 = (38 : Int32) then (some ((7 : Int32), ())) else (some ((-1 : Int32), ()))) else (if x1 = (2 : Int32) then (if r_1 = (60 : Int32) then (some ((8 : Int32), ())) else (if r_1 = (61 : Int32) then (some ((9 : Int32), ())) else (if r_1 = (62 : Int32) then (some ((10 : Int32), ())) else (some ((-1 : Int32), ()))))) else (if x1 = (3 : Int32) then (if r_1 = (43 : Int32) then (some ((11 : Int32), ())) else (if r_1 = (45 : Int32) then (some ((12 : Int32), ())) else (some ((-1 : Int32), ())))) else (if r_1 = (42 : Int32) then (some ((13 : Int32), ())) else (if r_1 = (47 : Int32) then (some ((14 : Int32), ())) else (if r_1 = (37 : Int32) then (some ((15 : Int32), ())) else (some ((-1 : Int32), ())))))))))))
def f_X5_operatorAt   (x1 : Int32) (tape_size : Int32) (tape_bytes : Nat → Int32) (lr_size : Int32) (lr_at : Int32) (lr_fault : Int32) : Option (Int32 × Unit) := B_X5_operatorAt_0   tape_size tape_bytes lr_size lr_at lr_fault x1 
set_option maxHeartbeats 4000000 in
set_option maxRecDepth 100000 in
theorem c_X5_operatorAt (l : Launch) (D : va_G) (cs : Nat → ClassId) (ad : Nat → Nat) (sz : Nat) (x1 : Int32) (tape_size : Int32) (tape_bytes : Nat → Int32) (lr_size : Int32) (lr_at : Int32) (lr_fault : Int32) (R : Int32 × Unit) (h : f_X5_operatorAt   x1 tape_size tape_bytes lr_size lr_at lr_fault = some R) : Met l yX5_operatorAt (z_X5_operatorAt) rm_X5_operatorAt (va_Pc [.ref (ad 26), .int x1] (zPre D cs (wl_X5_operatorAt ad cs tape_size tape_bytes lr_size lr_at lr_fault) sz)) (Q_X5_operatorAt D cs ad tape_size tape_bytes lr_size lr_at lr_fault (va_A (wl_X5_operatorAt ad cs tape_size tape_bytes lr_size lr_at lr_fault) sz) R) 0 0 (va_A (wl_X5_operatorAt ad cs tape_size tape_bytes lr_size lr_at lr_fault) sz) := by sorry
abbrev z_X5_readNumber : List Cond := .code yX5_readNumber cX5_readNumber 3 none :: zW
abbrev wl_X5_readNumber (ad : Nat → Nat) (cs : Nat → ClassId)  (tape_size : Int32) (tape_bytes : Nat → Int32) (lr_size : Int32) (lr_at : Int32) (lr_fault : Int32) (lr_code : Nat → Int32) : va_W := [((ad 23), .inr (9, [.ref (ad 24), .int tape_size])), ((ad 24), .inl (cs 0, 120, .inl tape_bytes)), ((ad 26), .inr (5, [.ref (ad 23), .ref (ad 27), .int lr_size, .int lr_at, .int lr_fault])), ((ad 27), .inl (cs 0, 121, .inl lr_code))]
def Q_X5_readNumber (D : va_G) (cs : Nat → ClassId) (ad : Nat → Nat)  (tape_size : Int32) (tape_bytes : Nat → Int32) (lr_fault : Int32) (A : Nat → Prop) (R : Int32 × Int32 × (Nat → Int32)) : Array Value → State → Outcome → State → Prop :=
  va_Qv (fun u : Int32 × Int32 × (Nat → Int32) => u = R) (fun (u : Int32 × Int32 × (Nat → Int32)) (t : State) => va_P D classes (wl_X5_readNumber ad cs tape_size tape_bytes u.1 u.2.1 lr_fault u.2.2) t.heap ∧ va_D A (wl_X5_readNumber ad cs tape_size tape_bytes u.1 u.2.1 lr_fault u.2.2)) A
abbrev rm_X5_readNumber : Room := { frames := 2, cells := 0, slots := 0, locals := 43 }
def B_X5_readNumber_59   (g4 : Int32 → Int32 → Int32 → Int32 → (Nat → Int32) → (Option (Int32 × Int32 × (Nat → Int32)))) (tape_size : Int32) (tape_bytes : Nat → Int32) (lr_fault : Int32) (x1 : Int32) (lr_size : Int32) (lr_at : Int32) (lr_code : Nat → Int32) : Option (Int32 × Int32 × (Nat → Int32)) :=
  (zk_b2 (f_X5_emit ((x1 <<< ((5 : Int32) &&& 31)) ||| (0 : Int32)) lr_size lr_at lr_fault lr_code) (fun u_12 u_13 => (some (u_12, lr_at, u_13))))
def B_X5_readNumber_4   (g4 : Int32 → Int32 → Int32 → Int32 → (Nat → Int32) → (Option (Int32 × Int32 × (Nat → Int32)))) (tape_size : Int32) (tape_bytes : Nat → Int32) (lr_fault : Int32) (x1 : Int32) (x2 : Int32) (lr_size : Int32) (lr_at : Int32) (lr_code : Nat → Int32) : Option (Int32 × Int32 × (Nat → Int32)) :=
  (if (4 : Int32) ≤ x2 then (B_X5_readNumber_59 g4 tape_size tape_bytes lr_fault x1 lr_size lr_at lr_code) else (zk_b2 (f_X9_isDigitAt lr_at tape_size tape_bytes) (fun r_2 u_3 => (if r_2 = 0 then (B_X5_readNumber_59 g4 tape_size tape_bytes lr_fault x1 lr_size lr_at lr_code) else (zk_b2 (f_X9_byteAt lr_at tape_size tape_bytes) (fun r_6 u_7 => (zk_let (((x1 * (10 : Int32)) + r_6) - (48 : Int32)) (fun v_9 => (zk_let (lr_at + (1 : Int32)) (fun v_10 => (zk_let (x2 + (1 : Int32)) (fun v_11 => (g4 v_9 v_11 lr_size v_10 lr_code)))))))))))))
def B_X5_readNumber_0   (g4 : Int32 → Int32 → Int32 → Int32 → (Nat → Int32) → (Option (Int32 × Int32 × (Nat → Int32)))) (tape_size : Int32) (tape_bytes : Nat → Int32) (lr_fault : Int32) (lr_size : Int32) (lr_at : Int32) (lr_code : Nat → Int32) : Option (Int32 × Int32 × (Nat → Int32)) :=
  (g4 (0 : Int32) (0 : Int32) lr_size lr_at lr_code)
def G_X5_readNumber   (tape_size : Int32) (tape_bytes : Nat → Int32) (lr_fault : Int32) (n : Nat) : (Int32 → Int32 → Int32 → Int32 → (Nat → Int32) → (Option (Int32 × Int32 × (Nat → Int32)))) :=
  Nat.rec (motive := fun _ => (Int32 → Int32 → Int32 → Int32 → (Nat → Int32) → (Option (Int32 × Int32 × (Nat → Int32))))) ((fun _ _ _ _ _ => none)) (fun _ ih => (B_X5_readNumber_4   ih tape_size tape_bytes lr_fault)) n
def f_X5_readNumber   (n : Nat)  (tape_size : Int32) (tape_bytes : Nat → Int32) (lr_size : Int32) (lr_at : Int32) (lr_fault : Int32) (lr_code : Nat → Int32) : Option (Int32 × Int32 × (Nat → Int32)) := B_X5_readNumber_0   ((G_X5_readNumber   tape_size tape_bytes lr_fault n)) tape_size tape_bytes lr_fault  lr_size lr_at lr_code
set_option maxHeartbeats 4000000 in
set_option maxRecDepth 100000 in
theorem c_X5_readNumber (l : Launch) (D : va_G) (cs : Nat → ClassId) (ad : Nat → Nat) (sz : Nat) (n : Nat)  (tape_size : Int32) (tape_bytes : Nat → Int32) (lr_size : Int32) (lr_at : Int32) (lr_fault : Int32) (lr_code : Nat → Int32) (R : Int32 × Int32 × (Nat → Int32)) (h : f_X5_readNumber   n  tape_size tape_bytes lr_size lr_at lr_fault lr_code = some R) : Met l yX5_readNumber (z_X5_readNumber) rm_X5_readNumber (va_Pc [.ref (ad 26)] (zPre D cs (wl_X5_readNumber ad cs tape_size tape_bytes lr_size lr_at lr_fault lr_code) sz)) (Q_X5_readNumber D cs ad tape_size tape_bytes lr_fault (va_A (wl_X5_readNumber ad cs tape_size tape_bytes lr_size lr_at lr_fault lr_code) sz) R) 0 0 (va_A (wl_X5_readNumber ad cs tape_size tape_bytes lr_size lr_at lr_fault lr_code) sz) := by sorry
abbrev z_X5_readName : List Cond := .code yX5_readName cX5_readName 3 none :: zW
abbrev wl_X5_readName (ad : Nat → Nat) (cs : Nat → ClassId)  (lr_size : Int32) (lr_at : Int32) (lr_fault : Int32) (lr_code : Nat → Int32) : va_W := [((ad 26), .inr (5, [.ref (ad 23), .ref (ad 27), .int lr_size, .int lr_at, .int lr_fault])), ((ad 27), .inl (cs 0, 121, .inl lr_code))]
def Q_X5_readName (D : va_G) (cs : Nat → ClassId) (ad : Nat → Nat)   (A : Nat → Prop) (R : Int32 × Int32 × Int32 × (Nat → Int32)) : Array Value → State → Outcome → State → Prop :=
  va_Qv (fun u : Int32 × Int32 × Int32 × (Nat → Int32) => u = R) (fun (u : Int32 × Int32 × Int32 × (Nat → Int32)) (t : State) => va_P D classes (wl_X5_readName ad cs u.1 u.2.1 u.2.2.1 u.2.2.2) t.heap ∧ va_D A (wl_X5_readName ad cs u.1 u.2.1 u.2.2.1 u.2.2.2)) A
abbrev rm_X5_readName : Room := { frames := 4, cells := 0, slots := 0, locals := 91 }
def B_X5_readName_15     (s0 : Int32) (lr_size : Int32) (lr_at : Int32) (lr_fault : Int32) (lr_code : Nat → Int32) : Option (Int32 × Int32 × Int32 × (Nat → Int32)) :=
  (if 0 ≤ s0 then (zk_let (lr_at + (1 : Int32)) (fun v_6 => (zk_b2 (f_X5_emit ((s0 <<< ((5 : Int32) &&& 31)) ||| (1 : Int32)) lr_size v_6 lr_fault lr_code) (fun u_7 u_8 => (some (u_7, v_6, lr_fault, u_8)))))) else (zk_b1 (f_X5_fail lr_size lr_at lr_fault) (fun u_10 => (some (lr_size, lr_at, u_10, lr_code)))))
def B_X5_readName_0     (x1 : Int32) (lr_size : Int32) (lr_at : Int32) (lr_fault : Int32) (lr_code : Nat → Int32) : Option (Int32 × Int32 × Int32 × (Nat → Int32)) :=
  (if 0 ≤ x1 then (zk_b2 (f_J0_indexOf_0f7a4 4 ((x1.toUInt32 % 65536).toInt32)) (fun r_2 u_3 => (B_X5_readName_15 r_2 lr_size lr_at lr_fault lr_code))) else (B_X5_readName_15 (-1 : Int32) lr_size lr_at lr_fault lr_code))
def f_X5_readName   (x1 : Int32) (lr_size : Int32) (lr_at : Int32) (lr_fault : Int32) (lr_code : Nat → Int32) : Option (Int32 × Int32 × Int32 × (Nat → Int32)) := B_X5_readName_0    x1 lr_size lr_at lr_fault lr_code
set_option maxHeartbeats 4000000 in
set_option maxRecDepth 100000 in
theorem c_X5_readName (l : Launch) (D : va_G) (cs : Nat → ClassId) (ad : Nat → Nat) (k : (Nat → Nat) × (Nat → Nat)) (sz : Nat) (x1 : Int32) (lr_size : Int32) (lr_at : Int32) (lr_fault : Int32) (lr_code : Nat → Int32) (R : Int32 × Int32 × Int32 × (Nat → Int32)) (h : f_X5_readName   x1 lr_size lr_at lr_fault lr_code = some R) : Met l yX5_readName (z_X5_readName) rm_X5_readName (va_Pc [.ref (ad 26), .int x1] (zPreE k D cs (wl_X5_readName ad cs lr_size lr_at lr_fault lr_code) sz)) (Q_X5_readName D cs ad  (va_A (wl_X5_readName ad cs lr_size lr_at lr_fault lr_code) sz) R) 0 0 (va_A (wl_X5_readName ad cs lr_size lr_at lr_fault lr_code) sz) := by sorry
abbrev z_X5_readLevel : List Cond := .code yX5_readLevel cX5_readLevel 5 none :: zW
abbrev wl_X5_readLevel (ad : Nat → Nat) (cs : Nat → ClassId)  (tape_size : Int32) (tape_bytes : Nat → Int32) (lr_size : Int32) (lr_at : Int32) (lr_fault : Int32) (lr_code : Nat → Int32) : va_W := [((ad 23), .inr (9, [.ref (ad 24), .int tape_size])), ((ad 24), .inl (cs 0, 120, .inl tape_bytes)), ((ad 26), .inr (5, [.ref (ad 23), .ref (ad 27), .int lr_size, .int lr_at, .int lr_fault])), ((ad 27), .inl (cs 0, 121, .inl lr_code))]
def Q_X5_readLevel (D : va_G) (cs : Nat → ClassId) (ad : Nat → Nat)  (tape_size : Int32) (tape_bytes : Nat → Int32) (A : Nat → Prop) (R : Int32 × Int32 × Int32 × (Nat → Int32)) : Array Value → State → Outcome → State → Prop :=
  va_Qv (fun u : Int32 × Int32 × Int32 × (Nat → Int32) => u = R) (fun (u : Int32 × Int32 × Int32 × (Nat → Int32)) (t : State) => va_P D classes (wl_X5_readLevel ad cs tape_size tape_bytes u.1 u.2.1 u.2.2.1 u.2.2.2) t.heap ∧ va_D A (wl_X5_readLevel ad cs tape_size tape_bytes u.1 u.2.1 u.2.2.1 u.2.2.2)) A
abbrev z_X5_readOperand : List Cond := .code yX5_readOperand cX5_readOperand 3 none :: zW
abbrev wl_X5_readOperand (ad : Nat → Nat) (cs : Nat → ClassId)  (tape_size : Int32) (tape_bytes : Nat → Int32) (lr_size : Int32) (lr_at : Int32) (lr_fault : Int32) (lr_code : Nat → Int32) : va_W := [((ad 23), .inr (9, [.ref (ad 24), .int tape_size])), ((ad 24), .inl (cs 0, 120, .inl tape_bytes)), ((ad 26), .inr (5, [.ref (ad 23), .ref (ad 27), .int lr_size, .int lr_at, .int lr_fault])), ((ad 27), .inl (cs 0, 121, .inl lr_code))]
def Q_X5_readOperand (D : va_G) (cs : Nat → ClassId) (ad : Nat → Nat)  (tape_size : Int32) (tape_bytes : Nat → Int32) (A : Nat → Prop) (R : Int32 × Int32 × Int32 × (Nat → Int32)) : Array Value → State → Outcome → State → Prop :=
  va_Qv (fun u : Int32 × Int32 × Int32 × (Nat → Int32) => u = R) (fun (u : Int32 × Int32 × Int32 × (Nat → Int32)) (t : State) => va_P D classes (wl_X5_readOperand ad cs tape_size tape_bytes u.1 u.2.1 u.2.2.1 u.2.2.2) t.heap ∧ va_D A (wl_X5_readOperand ad cs tape_size tape_bytes u.1 u.2.1 u.2.2.1 u.2.2.2)) A
def B_X5_readLevel_21  (r_X5_readLevel : Int32 → Int32 → Int32 → (Nat → Int32) → Int32 → Int32 → Int32 → (Nat → Int32) → (Option (Int32 × Int32 × Int32 × (Nat → Int32)))) (r_X5_readOperand : Int32 → Int32 → (Nat → Int32) → Int32 → Int32 → Int32 → (Nat → Int32) → (Option (Int32 × Int32 × Int32 × (Nat → Int32)))) (g21 : Int32 → Int32 → Int32 → Int32 → Int32 → Int32 → (Nat → Int32) → (Option (Int32 × Int32 × Int32 × (Nat → Int32)))) (tape_size : Int32) (tape_bytes : Nat → Int32) (x1 : Int32) (x2 : Int32) (x3 : Int32) (lr_size : Int32) (lr_at : Int32) (lr_fault : Int32) (lr_code : Nat → Int32) : Option (Int32 × Int32 × Int32 × (Nat → Int32)) :=
  (if (120 : Int32) ≤ x3 then (some (lr_size, lr_at, lr_fault, lr_code)) else (if 0 ≤ lr_fault then (some (lr_size, lr_at, lr_fault, lr_code)) else (zk_b2 (f_X5_operatorAt x1 tape_size tape_bytes lr_size lr_at lr_fault) (fun r_14 u_15 => (if 0 ≤ r_14 then (zk_let (lr_at + (1 : Int32)) (fun v_18 => (zk_b4 (r_X5_readLevel (x1 + (1 : Int32)) x2 tape_size tape_bytes lr_size v_18 lr_fault lr_code) (fun u_19 u_20 u_21 u_22 => (zk_b2 (f_X5_emit r_14 u_19 u_20 u_21 u_22) (fun u_24 u_25 => (if x1 = (2 : Int32) then (some (u_24, u_20, u_21, u_25)) else (zk_let (x3 + (1 : Int32)) (fun v_28 => (g21 x1 x2 v_28 u_24 u_20 u_21 u_25)))))))))) else (some (lr_size, lr_at, lr_fault, lr_code)))))))
def B_X5_readLevel_0  (r_X5_readLevel : Int32 → Int32 → Int32 → (Nat → Int32) → Int32 → Int32 → Int32 → (Nat → Int32) → (Option (Int32 × Int32 × Int32 × (Nat → Int32)))) (r_X5_readOperand : Int32 → Int32 → (Nat → Int32) → Int32 → Int32 → Int32 → (Nat → Int32) → (Option (Int32 × Int32 × Int32 × (Nat → Int32)))) (g21 : Int32 → Int32 → Int32 → Int32 → Int32 → Int32 → (Nat → Int32) → (Option (Int32 × Int32 × Int32 × (Nat → Int32)))) (tape_size : Int32) (tape_bytes : Nat → Int32) (x1 : Int32) (x2 : Int32) (lr_size : Int32) (lr_at : Int32) (lr_fault : Int32) (lr_code : Nat → Int32) : Option (Int32 × Int32 × Int32 × (Nat → Int32)) :=
  (if x1 ≤ (4 : Int32) then (zk_b4 (r_X5_readLevel (x1 + (1 : Int32)) x2 tape_size tape_bytes lr_size lr_at lr_fault lr_code) (fun u_2 u_3 u_4 u_5 => (g21 x1 x2 (0 : Int32) u_2 u_3 u_4 u_5))) else (zk_b4 (r_X5_readOperand x2 tape_size tape_bytes lr_size lr_at lr_fault lr_code) (fun u_7 u_8 u_9 u_10 => (some (u_7, u_8, u_9, u_10)))))
def G_X5_readLevel  (r_X5_readLevel : Int32 → Int32 → Int32 → (Nat → Int32) → Int32 → Int32 → Int32 → (Nat → Int32) → (Option (Int32 × Int32 × Int32 × (Nat → Int32)))) (r_X5_readOperand : Int32 → Int32 → (Nat → Int32) → Int32 → Int32 → Int32 → (Nat → Int32) → (Option (Int32 × Int32 × Int32 × (Nat → Int32)))) (tape_size : Int32) (tape_bytes : Nat → Int32) (n : Nat) : (Int32 → Int32 → Int32 → Int32 → Int32 → Int32 → (Nat → Int32) → (Option (Int32 × Int32 × Int32 × (Nat → Int32)))) :=
  Nat.rec (motive := fun _ => (Int32 → Int32 → Int32 → Int32 → Int32 → Int32 → (Nat → Int32) → (Option (Int32 × Int32 × Int32 × (Nat → Int32))))) ((fun _ _ _ _ _ _ _ => none)) (fun _ ih => (B_X5_readLevel_21  r_X5_readLevel r_X5_readOperand ih tape_size tape_bytes)) n
def f_X5_readLevel  (r_X5_readLevel : Int32 → Int32 → Int32 → (Nat → Int32) → Int32 → Int32 → Int32 → (Nat → Int32) → (Option (Int32 × Int32 × Int32 × (Nat → Int32)))) (r_X5_readOperand : Int32 → Int32 → (Nat → Int32) → Int32 → Int32 → Int32 → (Nat → Int32) → (Option (Int32 × Int32 × Int32 × (Nat → Int32)))) (n : Nat) (x1 : Int32) (x2 : Int32) (tape_size : Int32) (tape_bytes : Nat → Int32) (lr_size : Int32) (lr_at : Int32) (lr_fault : Int32) (lr_code : Nat → Int32) : Option (Int32 × Int32 × Int32 × (Nat → Int32)) := B_X5_readLevel_0  r_X5_readLevel r_X5_readOperand ((G_X5_readLevel  r_X5_readLevel r_X5_readOperand tape_size tape_bytes n)) tape_size tape_bytes x1 x2 lr_size lr_at lr_fault lr_code
def B_X5_readOperand_80  (r_X5_readLevel : Int32 → Int32 → Int32 → (Nat → Int32) → Int32 → Int32 → Int32 → (Nat → Int32) → (Option (Int32 × Int32 × Int32 × (Nat → Int32)))) (r_X5_readOperand : Int32 → Int32 → (Nat → Int32) → Int32 → Int32 → Int32 → (Nat → Int32) → (Option (Int32 × Int32 × Int32 × (Nat → Int32))))  (tape_size : Int32) (tape_bytes : Nat → Int32) (s0 : Int32) (lr_size : Int32) (lr_at : Int32) (lr_fault : Int32) (lr_code : Nat → Int32) : Option (Int32 × Int32 × Int32 × (Nat → Int32)) :=
  (zk_b2 (f_X5_emit s0 lr_size lr_at lr_fault lr_code) (fun u_48 u_49 => (some (u_48, lr_at, lr_fault, u_49))))
def B_X5_readOperand_53  (r_X5_readLevel : Int32 → Int32 → Int32 → (Nat → Int32) → Int32 → Int32 → Int32 → (Nat → Int32) → (Option (Int32 × Int32 × Int32 × (Nat → Int32)))) (r_X5_readOperand : Int32 → Int32 → (Nat → Int32) → Int32 → Int32 → Int32 → (Nat → Int32) → (Option (Int32 × Int32 × Int32 × (Nat → Int32))))  (tape_size : Int32) (tape_bytes : Nat → Int32) (x1 : Int32) (x2 : Int32) (lr_size : Int32) (lr_at : Int32) (lr_fault : Int32) (lr_code : Nat → Int32) : Option (Int32 × Int32 × Int32 × (Nat → Int32)) :=
  (zk_b3 (f_X5_mayOpen x1 lr_size lr_at lr_fault) (fun r_37 u_38 u_39 => (if r_37 = 0 then (some (lr_size, u_38, u_39, lr_code)) else (zk_b4 (r_X5_readOperand (x1 + (1 : Int32)) tape_size tape_bytes lr_size u_38 u_39 lr_code) (fun u_42 u_43 u_44 u_45 => (if x2 = (33 : Int32) then (B_X5_readOperand_80 r_X5_readLevel r_X5_readOperand tape_size tape_bytes (4 : Int32) u_42 u_43 u_44 u_45) else (B_X5_readOperand_80 r_X5_readLevel r_X5_readOperand tape_size tape_bytes (5 : Int32) u_42 u_43 u_44 u_45)))))))
def B_X5_readOperand_0  (r_X5_readLevel : Int32 → Int32 → Int32 → (Nat → Int32) → Int32 → Int32 → Int32 → (Nat → Int32) → (Option (Int32 × Int32 × Int32 × (Nat → Int32)))) (r_X5_readOperand : Int32 → Int32 → (Nat → Int32) → Int32 → Int32 → Int32 → (Nat → Int32) → (Option (Int32 × Int32 × Int32 × (Nat → Int32))))  (tape_size : Int32) (tape_bytes : Nat → Int32) (x1 : Int32) (lr_size : Int32) (lr_at : Int32) (lr_fault : Int32) (lr_code : Nat → Int32) : Option (Int32 × Int32 × Int32 × (Nat → Int32)) :=
  (zk_b2 (f_X9_byteAt lr_at tape_size tape_bytes) (fun r_1 u_2 => (if lr_fault < 0 then (zk_b2 (f_X9_isDigitAt lr_at tape_size tape_bytes) (fun r_5 u_6 => (if r_5 = 0 then (if r_1 = (33 : Int32) then (B_X5_readOperand_53 r_X5_readLevel r_X5_readOperand tape_size tape_bytes x1 r_1 lr_size lr_at lr_fault lr_code) else (if r_1 = (45 : Int32) then (B_X5_readOperand_53 r_X5_readLevel r_X5_readOperand tape_size tape_bytes x1 r_1 lr_size lr_at lr_fault lr_code) else (if r_1 = (40 : Int32) then (zk_b3 (f_X5_mayOpen x1 lr_size lr_at lr_fault) (fun r_17 u_18 u_19 => (if r_17 = 0 then (some (lr_size, u_18, u_19, lr_code)) else (zk_b4 (r_X5_readLevel (0 : Int32) (x1 + (1 : Int32)) tape_size tape_bytes lr_size u_18 u_19 lr_code) (fun u_22 u_23 u_24 u_25 => (zk_b2 (f_X5_accept (41 : Int32) tape_size tape_bytes u_22 u_23 u_24) (fun r_27 u_28 => (if r_27 = 0 then (zk_b1 (f_X5_fail u_22 u_28 u_24) (fun u_31 => (some (u_22, u_28, u_31, u_25)))) else (some (u_22, u_28, u_24, u_25)))))))))) else (zk_b4 (f_X5_readName r_1 lr_size lr_at lr_fault lr_code) (fun u_12 u_13 u_14 u_15 => (some (u_12, u_13, u_14, u_15))))))) else (zk_b3 (f_X5_readNumber 100000 tape_size tape_bytes lr_size lr_at lr_fault lr_code) (fun u_33 u_34 u_35 => (some (u_33, u_34, lr_fault, u_35))))))) else (some (lr_size, lr_at, lr_fault, lr_code)))))
def f_X5_readOperand  (r_X5_readLevel : Int32 → Int32 → Int32 → (Nat → Int32) → Int32 → Int32 → Int32 → (Nat → Int32) → (Option (Int32 × Int32 × Int32 × (Nat → Int32)))) (r_X5_readOperand : Int32 → Int32 → (Nat → Int32) → Int32 → Int32 → Int32 → (Nat → Int32) → (Option (Int32 × Int32 × Int32 × (Nat → Int32)))) (x1 : Int32) (tape_size : Int32) (tape_bytes : Nat → Int32) (lr_size : Int32) (lr_at : Int32) (lr_fault : Int32) (lr_code : Nat → Int32) : Option (Int32 × Int32 × Int32 × (Nat → Int32)) := B_X5_readOperand_0  r_X5_readLevel r_X5_readOperand tape_size tape_bytes x1 lr_size lr_at lr_fault lr_code
def grp_lawgrp (n : Nat) : (Int32 → Int32 → Int32 → (Nat → Int32) → Int32 → Int32 → Int32 → (Nat → Int32) → (Option (Int32 × Int32 × Int32 × (Nat → Int32)))) × (Int32 → Int32 → (Nat → Int32) → Int32 → Int32 → Int32 → (Nat → Int32) → (Option (Int32 × Int32 × Int32 × (Nat → Int32)))) :=
  Nat.rec (motive := fun _ => (Int32 → Int32 → Int32 → (Nat → Int32) → Int32 → Int32 → Int32 → (Nat → Int32) → (Option (Int32 × Int32 × Int32 × (Nat → Int32)))) × (Int32 → Int32 → (Nat → Int32) → Int32 → Int32 → Int32 → (Nat → Int32) → (Option (Int32 × Int32 × Int32 × (Nat → Int32))))) ((fun _ _ _ _ _ _ _ _ => none), (fun _ _ _ _ _ _ _ => none)) (fun _ ih => (f_X5_readLevel (ih.1) (ih.2) 100000, f_X5_readOperand (ih.1) (ih.2))) n
set_option maxHeartbeats 4000000 in
set_option maxRecDepth 100000 in
theorem c_X5_readLevel (l : Launch) (D : va_G) (cs : Nat → ClassId) (ad : Nat → Nat) (k : (Nat → Nat) × (Nat → Nat)) {fr lo : Nat} {r_X5_readLevel : Int32 → Int32 → Int32 → (Nat → Int32) → Int32 → Int32 → Int32 → (Nat → Int32) → (Option (Int32 × Int32 × Int32 × (Nat → Int32)))} {r_X5_readOperand : Int32 → Int32 → (Nat → Int32) → Int32 → Int32 → Int32 → (Nat → Int32) → (Option (Int32 × Int32 × Int32 × (Nat → Int32)))} (hr_X5_readLevel : ∀ (D : va_G) (cs : Nat → ClassId) (ad : Nat → Nat) (k : (Nat → Nat) × (Nat → Nat)) (sz : Nat) (x1 : Int32) (x2 : Int32) (tape_size : Int32) (tape_bytes : Nat → Int32) (lr_size : Int32) (lr_at : Int32) (lr_fault : Int32) (lr_code : Nat → Int32) (R : Int32 × Int32 × Int32 × (Nat → Int32)) (h : r_X5_readLevel x1 x2 tape_size tape_bytes lr_size lr_at lr_fault lr_code = some R), Met l yX5_readLevel z_X5_readLevel ({ frames := fr, cells := 0, slots := 0, locals := lo } : Room) (va_Pc [.ref (ad 26), .int x1, .int x2] (zPreE k D cs (wl_X5_readLevel ad cs tape_size tape_bytes lr_size lr_at lr_fault lr_code) sz)) (Q_X5_readLevel D cs ad tape_size tape_bytes (va_A (wl_X5_readLevel ad cs tape_size tape_bytes lr_size lr_at lr_fault lr_code) sz) R) 0 0 (va_A (wl_X5_readLevel ad cs tape_size tape_bytes lr_size lr_at lr_fault lr_code) sz)) (hr_X5_readOperand : ∀ (D : va_G) (cs : Nat → ClassId) (ad : Nat → Nat) (k : (Nat → Nat) × (Nat → Nat)) (sz : Nat) (x1 : Int32) (tape_size : Int32) (tape_bytes : Nat → Int32) (lr_size : Int32) (lr_at : Int32) (lr_fault : Int32) (lr_code : Nat → Int32) (R : Int32 × Int32 × Int32 × (Nat → Int32)) (h : r_X5_readOperand x1 tape_size tape_bytes lr_size lr_at lr_fault lr_code = some R), Met l yX5_readOperand z_X5_readOperand ({ frames := fr, cells := 0, slots := 0, locals := lo } : Room) (va_Pc [.ref (ad 26), .int x1] (zPreE k D cs (wl_X5_readOperand ad cs tape_size tape_bytes lr_size lr_at lr_fault lr_code) sz)) (Q_X5_readOperand D cs ad tape_size tape_bytes (va_A (wl_X5_readOperand ad cs tape_size tape_bytes lr_size lr_at lr_fault lr_code) sz) R) 0 0 (va_A (wl_X5_readOperand ad cs tape_size tape_bytes lr_size lr_at lr_fault lr_code) sz)) (sz : Nat) (n : Nat) (x1 : Int32) (x2 : Int32) (tape_size : Int32) (tape_bytes : Nat → Int32) (lr_size : Int32) (lr_at : Int32) (lr_fault : Int32) (lr_code : Nat → Int32) (R : Int32 × Int32 × Int32 × (Nat → Int32)) (h : f_X5_readLevel  r_X5_readLevel r_X5_readOperand n x1 x2 tape_size tape_bytes lr_size lr_at lr_fault lr_code = some R) : Met l yX5_readLevel (z_X5_readLevel) ({ frames := fr + 5, cells := 0, slots := 0, locals := lo + 113 } : Room) (va_Pc [.ref (ad 26), .int x1, .int x2] (zPreE k D cs (wl_X5_readLevel ad cs tape_size tape_bytes lr_size lr_at lr_fault lr_code) sz)) (Q_X5_readLevel D cs ad tape_size tape_bytes (va_A (wl_X5_readLevel ad cs tape_size tape_bytes lr_size lr_at lr_fault lr_code) sz) R) 0 0 (va_A (wl_X5_readLevel ad cs tape_size tape_bytes lr_size lr_at lr_fault lr_code) sz) := by sorry
set_option maxHeartbeats 4000000 in
set_option maxRecDepth 100000 in
theorem c_X5_readOperand (l : Launch) (D : va_G) (cs : Nat → ClassId) (ad : Nat → Nat) (k : (Nat → Nat) × (Nat → Nat)) {fr lo : Nat} {r_X5_readLevel : Int32 → Int32 → Int32 → (Nat → Int32) → Int32 → Int32 → Int32 → (Nat → Int32) → (Option (Int32 × Int32 × Int32 × (Nat → Int32)))} {r_X5_readOperand : Int32 → Int32 → (Nat → Int32) → Int32 → Int32 → Int32 → (Nat → Int32) → (Option (Int32 × Int32 × Int32 × (Nat → Int32)))} (hr_X5_readLevel : ∀ (D : va_G) (cs : Nat → ClassId) (ad : Nat → Nat) (k : (Nat → Nat) × (Nat → Nat)) (sz : Nat) (x1 : Int32) (x2 : Int32) (tape_size : Int32) (tape_bytes : Nat → Int32) (lr_size : Int32) (lr_at : Int32) (lr_fault : Int32) (lr_code : Nat → Int32) (R : Int32 × Int32 × Int32 × (Nat → Int32)) (h : r_X5_readLevel x1 x2 tape_size tape_bytes lr_size lr_at lr_fault lr_code = some R), Met l yX5_readLevel z_X5_readLevel ({ frames := fr, cells := 0, slots := 0, locals := lo } : Room) (va_Pc [.ref (ad 26), .int x1, .int x2] (zPreE k D cs (wl_X5_readLevel ad cs tape_size tape_bytes lr_size lr_at lr_fault lr_code) sz)) (Q_X5_readLevel D cs ad tape_size tape_bytes (va_A (wl_X5_readLevel ad cs tape_size tape_bytes lr_size lr_at lr_fault lr_code) sz) R) 0 0 (va_A (wl_X5_readLevel ad cs tape_size tape_bytes lr_size lr_at lr_fault lr_code) sz)) (hr_X5_readOperand : ∀ (D : va_G) (cs : Nat → ClassId) (ad : Nat → Nat) (k : (Nat → Nat) × (Nat → Nat)) (sz : Nat) (x1 : Int32) (tape_size : Int32) (tape_bytes : Nat → Int32) (lr_size : Int32) (lr_at : Int32) (lr_fault : Int32) (lr_code : Nat → Int32) (R : Int32 × Int32 × Int32 × (Nat → Int32)) (h : r_X5_readOperand x1 tape_size tape_bytes lr_size lr_at lr_fault lr_code = some R), Met l yX5_readOperand z_X5_readOperand ({ frames := fr, cells := 0, slots := 0, locals := lo } : Room) (va_Pc [.ref (ad 26), .int x1] (zPreE k D cs (wl_X5_readOperand ad cs tape_size tape_bytes lr_size lr_at lr_fault lr_code) sz)) (Q_X5_readOperand D cs ad tape_size tape_bytes (va_A (wl_X5_readOperand ad cs tape_size tape_bytes lr_size lr_at lr_fault lr_code) sz) R) 0 0 (va_A (wl_X5_readOperand ad cs tape_size tape_bytes lr_size lr_at lr_fault lr_code) sz)) (sz : Nat) (x1 : Int32) (tape_size : Int32) (tape_bytes : Nat → Int32) (lr_size : Int32) (lr_at : Int32) (lr_fault : Int32) (lr_code : Nat → Int32) (R : Int32 × Int32 × Int32 × (Nat → Int32)) (h : f_X5_readOperand  r_X5_readLevel r_X5_readOperand x1 tape_size tape_bytes lr_size lr_at lr_fault lr_code = some R) : Met l yX5_readOperand (z_X5_readOperand) ({ frames := fr + 5, cells := 0, slots := 0, locals := lo + 113 } : Room) (va_Pc [.ref (ad 26), .int x1] (zPreE k D cs (wl_X5_readOperand ad cs tape_size tape_bytes lr_size lr_at lr_fault lr_code) sz)) (Q_X5_readOperand D cs ad tape_size tape_bytes (va_A (wl_X5_readOperand ad cs tape_size tape_bytes lr_size lr_at lr_fault lr_code) sz) R) 0 0 (va_A (wl_X5_readOperand ad cs tape_size tape_bytes lr_size lr_at lr_fault lr_code) sz) := by sorry
theorem cg_lawgrp (l : Launch) : ∀ n : Nat, (∀ (D : va_G) (cs : Nat → ClassId) (ad : Nat → Nat) (k : (Nat → Nat) × (Nat → Nat)) (sz : Nat) (x1 : Int32) (x2 : Int32) (tape_size : Int32) (tape_bytes : Nat → Int32) (lr_size : Int32) (lr_at : Int32) (lr_fault : Int32) (lr_code : Nat → Int32) (R : Int32 × Int32 × Int32 × (Nat → Int32)) (h : ((grp_lawgrp n).1) x1 x2 tape_size tape_bytes lr_size lr_at lr_fault lr_code = some R), Met l yX5_readLevel z_X5_readLevel ({ frames := 5 * n, cells := 0, slots := 0, locals := 113 * n } : Room) (va_Pc [.ref (ad 26), .int x1, .int x2] (zPreE k D cs (wl_X5_readLevel ad cs tape_size tape_bytes lr_size lr_at lr_fault lr_code) sz)) (Q_X5_readLevel D cs ad tape_size tape_bytes (va_A (wl_X5_readLevel ad cs tape_size tape_bytes lr_size lr_at lr_fault lr_code) sz) R) 0 0 (va_A (wl_X5_readLevel ad cs tape_size tape_bytes lr_size lr_at lr_fault lr_code) sz)) ∧ (∀ (D : va_G) (cs : Nat → ClassId) (ad : Nat → Nat) (k : (Nat → Nat) × (Nat → Nat)) (sz : Nat) (x1 : Int32) (tape_size : Int32) (tape_bytes : Nat → Int32) (lr_size : Int32) (lr_at : Int32) (lr_fault : Int32) (lr_code : Nat → Int32) (R : Int32 × Int32 × Int32 × (Nat → Int32)) (h : ((grp_lawgrp n).2) x1 tape_size tape_bytes lr_size lr_at lr_fault lr_code = some R), Met l yX5_readOperand z_X5_readOperand ({ frames := 5 * n, cells := 0, slots := 0, locals := 113 * n } : Room) (va_Pc [.ref (ad 26), .int x1] (zPreE k D cs (wl_X5_readOperand ad cs tape_size tape_bytes lr_size lr_at lr_fault lr_code) sz)) (Q_X5_readOperand D cs ad tape_size tape_bytes (va_A (wl_X5_readOperand ad cs tape_size tape_bytes lr_size lr_at lr_fault lr_code) sz) R) 0 0 (va_A (wl_X5_readOperand ad cs tape_size tape_bytes lr_size lr_at lr_fault lr_code) sz)) := by sorry
abbrev z_X5_readLine : List Cond := .code yX5_readLine cX5_readLine 2 none :: zW
abbrev wl_X5_readLine (ad : Nat → Nat) (cs : Nat → ClassId)  (tape_size : Int32) (tape_bytes : Nat → Int32) (lr_size : Int32) (lr_at : Int32) (lr_fault : Int32) (lr_code : Nat → Int32) : va_W := [((ad 23), .inr (9, [.ref (ad 24), .int tape_size])), ((ad 24), .inl (cs 0, 120, .inl tape_bytes)), ((ad 26), .inr (5, [.ref (ad 23), .ref (ad 27), .int lr_size, .int lr_at, .int lr_fault])), ((ad 27), .inl (cs 0, 121, .inl lr_code))]
def Q_X5_readLine (D : va_G) (cs : Nat → ClassId) (ad : Nat → Nat)  (tape_size : Int32) (tape_bytes : Nat → Int32) (A : Nat → Prop) (R : Int32 × Int32 × Int32 × (Nat → Int32)) : Array Value → State → Outcome → State → Prop :=
  va_Qv (fun u : Int32 × Int32 × Int32 × (Nat → Int32) => u = R) (fun (u : Int32 × Int32 × Int32 × (Nat → Int32)) (t : State) => va_P D classes (wl_X5_readLine ad cs tape_size tape_bytes u.1 u.2.1 u.2.2.1 u.2.2.2) t.heap ∧ va_D A (wl_X5_readLine ad cs tape_size tape_bytes u.1 u.2.1 u.2.2.1 u.2.2.2)) A
abbrev rm_X5_readLine : Room := { frames := 301, cells := 0, slots := 0, locals := 6804 }
def B_X5_readLine_59    (tape_size : Int32) (tape_bytes : Nat → Int32) (lr_size : Int32) (lr_at : Int32) (lr_fault : Int32) (lr_code : Nat → Int32) : Option (Int32 × Int32 × Int32 × (Nat → Int32)) :=
  (some (lr_size, lr_at, lr_fault, lr_code))
def B_X5_readLine_0    (tape_size : Int32) (tape_bytes : Nat → Int32) (lr_size : Int32) (lr_at : Int32) (lr_fault : Int32) (lr_code : Nat → Int32) : Option (Int32 × Int32 × Int32 × (Nat → Int32)) :=
  (zk_b4 ((grp_lawgrp 60).1 (0 : Int32) (0 : Int32) tape_size tape_bytes lr_size lr_at lr_fault lr_code) (fun u_1 u_2 u_3 u_4 => (zk_b2 (f_X5_accept (63 : Int32) tape_size tape_bytes u_1 u_2 u_3) (fun r_6 u_7 => (if r_6 = 0 then (zk_b2 (f_X5_emit (2 : Int32) u_1 u_7 u_3 u_4) (fun u_10 u_11 => (some (u_10, u_7, u_3, u_11)))) else (zk_b2 (f_X5_emit (3 : Int32) u_1 u_7 u_3 u_4) (fun u_13 u_14 => (zk_b4 ((grp_lawgrp 60).1 (0 : Int32) (0 : Int32) tape_size tape_bytes u_13 u_7 u_3 u_14) (fun u_16 u_17 u_18 u_19 => (zk_b2 (f_X5_emit (2 : Int32) u_16 u_17 u_18 u_19) (fun u_21 u_22 => (if (121 : Int32) ≤ u_1 then (B_X5_readLine_59 tape_size tape_bytes u_21 u_17 u_18 u_22) else (zk_let ((u_21 <<< ((5 : Int32) &&& 31)) ||| (3 : Int32)) (fun v_25 => (if (u_1 < 0 ∨ 121 ≤ u_1.toNatClampNeg) then none else (zk_let (upd u_22 u_1.toNatClampNeg v_25) (fun f_27 => (B_X5_readLine_59 tape_size tape_bytes u_21 u_17 u_18 f_27))))))))))))))))))
def f_X5_readLine    (tape_size : Int32) (tape_bytes : Nat → Int32) (lr_size : Int32) (lr_at : Int32) (lr_fault : Int32) (lr_code : Nat → Int32) : Option (Int32 × Int32 × Int32 × (Nat → Int32)) := B_X5_readLine_0   tape_size tape_bytes  lr_size lr_at lr_fault lr_code
set_option maxHeartbeats 4000000 in
set_option maxRecDepth 100000 in
theorem c_X5_readLine (l : Launch) (D : va_G) (cs : Nat → ClassId) (ad : Nat → Nat) (k : (Nat → Nat) × (Nat → Nat)) (sz : Nat)  (tape_size : Int32) (tape_bytes : Nat → Int32) (lr_size : Int32) (lr_at : Int32) (lr_fault : Int32) (lr_code : Nat → Int32) (R : Int32 × Int32 × Int32 × (Nat → Int32)) (h : f_X5_readLine    tape_size tape_bytes lr_size lr_at lr_fault lr_code = some R) : Met l yX5_readLine (z_X5_readLine) rm_X5_readLine (va_Pc [.ref (ad 26)] (zPreE k D cs (wl_X5_readLine ad cs tape_size tape_bytes lr_size lr_at lr_fault lr_code) sz)) (Q_X5_readLine D cs ad tape_size tape_bytes (va_A (wl_X5_readLine ad cs tape_size tape_bytes lr_size lr_at lr_fault lr_code) sz) R) 0 0 (va_A (wl_X5_readLine ad cs tape_size tape_bytes lr_size lr_at lr_fault lr_code) sz) := by sorry

def zp {A : Type} (x : Option A) (P : A → Prop) : Prop := ∃ R, x = some R ∧ P R
section ZP
variable {A B : Type} {P : A → Prop} {c : Prop} {x y : Option A}
theorem zp_i {a : A} (h : P a) : zp (some a) P := ⟨a, rfl, h⟩
theorem zp_ite {d : Decidable c} (h1 : c → zp x P) (h2 : ¬ c → zp y P) : zp (@ite _ c d x y) P := by
  by_cases h : c
  · rw [if_pos h]; exact h1 h
  · rw [if_neg h]; exact h2 h
theorem zp_g {d : Decidable c} (h : ¬ c) (h2 : zp y P) : zp (@ite _ c d none y) P := by rw [if_neg h]; exact h2
theorem zp_let {a : B} {k : B → Option A} (h : ∀ v, v = a → zp (k v) P) : zp (zk_let a k) P := h a rfl
theorem zp_w {Q : A → Prop} (h : zp x Q) (hq : ∀ a, Q a → P a) : zp x P := by
  obtain ⟨R, e, h⟩ := h
  exact ⟨R, e, hq R h⟩
theorem zp_b1 {x : Option B} {k : B → Option A} {Q : B → Prop} (h : zp x Q) (hk : ∀ a, Q a → zp (k a) P) : zp (zk_b1 x k) P := by
  obtain ⟨R, e, h⟩ := h
  subst e
  exact hk R h
theorem zp_b2 {A0 A1 : Type} {x : Option (A0 × A1)} {k : A0 → A1 → Option A} {Q : A0 × A1 → Prop} (h : zp x Q) (hk : ∀ a0 a1, Q (a0, a1) → zp (k a0 a1) P) : zp (zk_b2 x k) P := by
  obtain ⟨⟨a0, a1⟩, e, h⟩ := h
  subst e
  exact hk a0 a1 h
theorem zp_b3 {A0 A1 A2 : Type} {x : Option (A0 × A1 × A2)} {k : A0 → A1 → A2 → Option A} {Q : A0 × A1 × A2 → Prop} (h : zp x Q) (hk : ∀ a0 a1 a2, Q (a0, a1, a2) → zp (k a0 a1 a2) P) : zp (zk_b3 x k) P := by
  obtain ⟨⟨a0, a1, a2⟩, e, h⟩ := h
  subst e
  exact hk a0 a1 a2 h
theorem zp_b4 {A0 A1 A2 A3 : Type} {x : Option (A0 × A1 × A2 × A3)} {k : A0 → A1 → A2 → A3 → Option A} {Q : A0 × A1 × A2 × A3 → Prop} (h : zp x Q) (hk : ∀ a0 a1 a2 a3, Q (a0, a1, a2, a3) → zp (k a0 a1 a2 a3) P) : zp (zk_b4 x k) P := by
  obtain ⟨⟨a0, a1, a2, a3⟩, e, h⟩ := h
  subst e
  exact hk a0 a1 a2 a3 h
theorem zp_b5 {A0 A1 A2 A3 A4 : Type} {x : Option (A0 × A1 × A2 × A3 × A4)} {k : A0 → A1 → A2 → A3 → A4 → Option A} {Q : A0 × A1 × A2 × A3 × A4 → Prop} (h : zp x Q) (hk : ∀ a0 a1 a2 a3 a4, Q (a0, a1, a2, a3, a4) → zp (k a0 a1 a2 a3 a4) P) : zp (zk_b5 x k) P := by
  obtain ⟨⟨a0, a1, a2, a3, a4⟩, e, h⟩ := h
  subst e
  exact hk a0 a1 a2 a3 a4 h
theorem zp_b6 {A0 A1 A2 A3 A4 A5 : Type} {x : Option (A0 × A1 × A2 × A3 × A4 × A5)} {k : A0 → A1 → A2 → A3 → A4 → A5 → Option A} {Q : A0 × A1 × A2 × A3 × A4 × A5 → Prop} (h : zp x Q) (hk : ∀ a0 a1 a2 a3 a4 a5, Q (a0, a1, a2, a3, a4, a5) → zp (k a0 a1 a2 a3 a4 a5) P) : zp (zk_b6 x k) P := by
  obtain ⟨⟨a0, a1, a2, a3, a4, a5⟩, e, h⟩ := h
  subst e
  exact hk a0 a1 a2 a3 a4 a5 h
theorem zp_b7 {A0 A1 A2 A3 A4 A5 A6 : Type} {x : Option (A0 × A1 × A2 × A3 × A4 × A5 × A6)} {k : A0 → A1 → A2 → A3 → A4 → A5 → A6 → Option A} {Q : A0 × A1 × A2 × A3 × A4 × A5 × A6 → Prop} (h : zp x Q) (hk : ∀ a0 a1 a2 a3 a4 a5 a6, Q (a0, a1, a2, a3, a4, a5, a6) → zp (k a0 a1 a2 a3 a4 a5 a6) P) : zp (zk_b7 x k) P := by
  obtain ⟨⟨a0, a1, a2, a3, a4, a5, a6⟩, e, h⟩ := h
  subst e
  exact hk a0 a1 a2 a3 a4 a5 a6 h
theorem zp_b8 {A0 A1 A2 A3 A4 A5 A6 A7 : Type} {x : Option (A0 × A1 × A2 × A3 × A4 × A5 × A6 × A7)} {k : A0 → A1 → A2 → A3 → A4 → A5 → A6 → A7 → Option A} {Q : A0 × A1 × A2 × A3 × A4 × A5 × A6 × A7 → Prop} (h : zp x Q) (hk : ∀ a0 a1 a2 a3 a4 a5 a6 a7, Q (a0, a1, a2, a3, a4, a5, a6, a7) → zp (k a0 a1 a2 a3 a4 a5 a6 a7) P) : zp (zk_b8 x k) P := by
  obtain ⟨⟨a0, a1, a2, a3, a4, a5, a6, a7⟩, e, h⟩ := h
  subst e
  exact hk a0 a1 a2 a3 a4 a5 a6 a7 h
theorem zp_b9 {A0 A1 A2 A3 A4 A5 A6 A7 A8 : Type} {x : Option (A0 × A1 × A2 × A3 × A4 × A5 × A6 × A7 × A8)} {k : A0 → A1 → A2 → A3 → A4 → A5 → A6 → A7 → A8 → Option A} {Q : A0 × A1 × A2 × A3 × A4 × A5 × A6 × A7 × A8 → Prop} (h : zp x Q) (hk : ∀ a0 a1 a2 a3 a4 a5 a6 a7 a8, Q (a0, a1, a2, a3, a4, a5, a6, a7, a8) → zp (k a0 a1 a2 a3 a4 a5 a6 a7 a8) P) : zp (zk_b9 x k) P := by
  obtain ⟨⟨a0, a1, a2, a3, a4, a5, a6, a7, a8⟩, e, h⟩ := h
  subst e
  exact hk a0 a1 a2 a3 a4 a5 a6 a7 a8 h
theorem zp_b10 {A0 A1 A2 A3 A4 A5 A6 A7 A8 A9 : Type} {x : Option (A0 × A1 × A2 × A3 × A4 × A5 × A6 × A7 × A8 × A9)} {k : A0 → A1 → A2 → A3 → A4 → A5 → A6 → A7 → A8 → A9 → Option A} {Q : A0 × A1 × A2 × A3 × A4 × A5 × A6 × A7 × A8 × A9 → Prop} (h : zp x Q) (hk : ∀ a0 a1 a2 a3 a4 a5 a6 a7 a8 a9, Q (a0, a1, a2, a3, a4, a5, a6, a7, a8, a9) → zp (k a0 a1 a2 a3 a4 a5 a6 a7 a8 a9) P) : zp (zk_b10 x k) P := by
  obtain ⟨⟨a0, a1, a2, a3, a4, a5, a6, a7, a8, a9⟩, e, h⟩ := h
  subst e
  exact hk a0 a1 a2 a3 a4 a5 a6 a7 a8 a9 h
theorem zp_b11 {A0 A1 A2 A3 A4 A5 A6 A7 A8 A9 A10 : Type} {x : Option (A0 × A1 × A2 × A3 × A4 × A5 × A6 × A7 × A8 × A9 × A10)} {k : A0 → A1 → A2 → A3 → A4 → A5 → A6 → A7 → A8 → A9 → A10 → Option A} {Q : A0 × A1 × A2 × A3 × A4 × A5 × A6 × A7 × A8 × A9 × A10 → Prop} (h : zp x Q) (hk : ∀ a0 a1 a2 a3 a4 a5 a6 a7 a8 a9 a10, Q (a0, a1, a2, a3, a4, a5, a6, a7, a8, a9, a10) → zp (k a0 a1 a2 a3 a4 a5 a6 a7 a8 a9 a10) P) : zp (zk_b11 x k) P := by
  obtain ⟨⟨a0, a1, a2, a3, a4, a5, a6, a7, a8, a9, a10⟩, e, h⟩ := h
  subst e
  exact hk a0 a1 a2 a3 a4 a5 a6 a7 a8 a9 a10 h
theorem zp_b12 {A0 A1 A2 A3 A4 A5 A6 A7 A8 A9 A10 A11 : Type} {x : Option (A0 × A1 × A2 × A3 × A4 × A5 × A6 × A7 × A8 × A9 × A10 × A11)} {k : A0 → A1 → A2 → A3 → A4 → A5 → A6 → A7 → A8 → A9 → A10 → A11 → Option A} {Q : A0 × A1 × A2 × A3 × A4 × A5 × A6 × A7 × A8 × A9 × A10 × A11 → Prop} (h : zp x Q) (hk : ∀ a0 a1 a2 a3 a4 a5 a6 a7 a8 a9 a10 a11, Q (a0, a1, a2, a3, a4, a5, a6, a7, a8, a9, a10, a11) → zp (k a0 a1 a2 a3 a4 a5 a6 a7 a8 a9 a10 a11) P) : zp (zk_b12 x k) P := by
  obtain ⟨⟨a0, a1, a2, a3, a4, a5, a6, a7, a8, a9, a10, a11⟩, e, h⟩ := h
  subst e
  exact hk a0 a1 a2 a3 a4 a5 a6 a7 a8 a9 a10 a11 h
theorem zp_b13 {A0 A1 A2 A3 A4 A5 A6 A7 A8 A9 A10 A11 A12 : Type} {x : Option (A0 × A1 × A2 × A3 × A4 × A5 × A6 × A7 × A8 × A9 × A10 × A11 × A12)} {k : A0 → A1 → A2 → A3 → A4 → A5 → A6 → A7 → A8 → A9 → A10 → A11 → A12 → Option A} {Q : A0 × A1 × A2 × A3 × A4 × A5 × A6 × A7 × A8 × A9 × A10 × A11 × A12 → Prop} (h : zp x Q) (hk : ∀ a0 a1 a2 a3 a4 a5 a6 a7 a8 a9 a10 a11 a12, Q (a0, a1, a2, a3, a4, a5, a6, a7, a8, a9, a10, a11, a12) → zp (k a0 a1 a2 a3 a4 a5 a6 a7 a8 a9 a10 a11 a12) P) : zp (zk_b13 x k) P := by
  obtain ⟨⟨a0, a1, a2, a3, a4, a5, a6, a7, a8, a9, a10, a11, a12⟩, e, h⟩ := h
  subst e
  exact hk a0 a1 a2 a3 a4 a5 a6 a7 a8 a9 a10 a11 a12 h
theorem zp_b14 {A0 A1 A2 A3 A4 A5 A6 A7 A8 A9 A10 A11 A12 A13 : Type} {x : Option (A0 × A1 × A2 × A3 × A4 × A5 × A6 × A7 × A8 × A9 × A10 × A11 × A12 × A13)} {k : A0 → A1 → A2 → A3 → A4 → A5 → A6 → A7 → A8 → A9 → A10 → A11 → A12 → A13 → Option A} {Q : A0 × A1 × A2 × A3 × A4 × A5 × A6 × A7 × A8 × A9 × A10 × A11 × A12 × A13 → Prop} (h : zp x Q) (hk : ∀ a0 a1 a2 a3 a4 a5 a6 a7 a8 a9 a10 a11 a12 a13, Q (a0, a1, a2, a3, a4, a5, a6, a7, a8, a9, a10, a11, a12, a13) → zp (k a0 a1 a2 a3 a4 a5 a6 a7 a8 a9 a10 a11 a12 a13) P) : zp (zk_b14 x k) P := by
  obtain ⟨⟨a0, a1, a2, a3, a4, a5, a6, a7, a8, a9, a10, a11, a12, a13⟩, e, h⟩ := h
  subst e
  exact hk a0 a1 a2 a3 a4 a5 a6 a7 a8 a9 a10 a11 a12 a13 h
theorem zp_b15 {A0 A1 A2 A3 A4 A5 A6 A7 A8 A9 A10 A11 A12 A13 A14 : Type} {x : Option (A0 × A1 × A2 × A3 × A4 × A5 × A6 × A7 × A8 × A9 × A10 × A11 × A12 × A13 × A14)} {k : A0 → A1 → A2 → A3 → A4 → A5 → A6 → A7 → A8 → A9 → A10 → A11 → A12 → A13 → A14 → Option A} {Q : A0 × A1 × A2 × A3 × A4 × A5 × A6 × A7 × A8 × A9 × A10 × A11 × A12 × A13 × A14 → Prop} (h : zp x Q) (hk : ∀ a0 a1 a2 a3 a4 a5 a6 a7 a8 a9 a10 a11 a12 a13 a14, Q (a0, a1, a2, a3, a4, a5, a6, a7, a8, a9, a10, a11, a12, a13, a14) → zp (k a0 a1 a2 a3 a4 a5 a6 a7 a8 a9 a10 a11 a12 a13 a14) P) : zp (zk_b15 x k) P := by
  obtain ⟨⟨a0, a1, a2, a3, a4, a5, a6, a7, a8, a9, a10, a11, a12, a13, a14⟩, e, h⟩ := h
  subst e
  exact hk a0 a1 a2 a3 a4 a5 a6 a7 a8 a9 a10 a11 a12 a13 a14 h
theorem zp_b16 {A0 A1 A2 A3 A4 A5 A6 A7 A8 A9 A10 A11 A12 A13 A14 A15 : Type} {x : Option (A0 × A1 × A2 × A3 × A4 × A5 × A6 × A7 × A8 × A9 × A10 × A11 × A12 × A13 × A14 × A15)} {k : A0 → A1 → A2 → A3 → A4 → A5 → A6 → A7 → A8 → A9 → A10 → A11 → A12 → A13 → A14 → A15 → Option A} {Q : A0 × A1 × A2 × A3 × A4 × A5 × A6 × A7 × A8 × A9 × A10 × A11 × A12 × A13 × A14 × A15 → Prop} (h : zp x Q) (hk : ∀ a0 a1 a2 a3 a4 a5 a6 a7 a8 a9 a10 a11 a12 a13 a14 a15, Q (a0, a1, a2, a3, a4, a5, a6, a7, a8, a9, a10, a11, a12, a13, a14, a15) → zp (k a0 a1 a2 a3 a4 a5 a6 a7 a8 a9 a10 a11 a12 a13 a14 a15) P) : zp (zk_b16 x k) P := by
  obtain ⟨⟨a0, a1, a2, a3, a4, a5, a6, a7, a8, a9, a10, a11, a12, a13, a14, a15⟩, e, h⟩ := h
  subst e
  exact hk a0 a1 a2 a3 a4 a5 a6 a7 a8 a9 a10 a11 a12 a13 a14 a15 h
theorem zp_b17 {A0 A1 A2 A3 A4 A5 A6 A7 A8 A9 A10 A11 A12 A13 A14 A15 A16 : Type} {x : Option (A0 × A1 × A2 × A3 × A4 × A5 × A6 × A7 × A8 × A9 × A10 × A11 × A12 × A13 × A14 × A15 × A16)} {k : A0 → A1 → A2 → A3 → A4 → A5 → A6 → A7 → A8 → A9 → A10 → A11 → A12 → A13 → A14 → A15 → A16 → Option A} {Q : A0 × A1 × A2 × A3 × A4 × A5 × A6 × A7 × A8 × A9 × A10 × A11 × A12 × A13 × A14 × A15 × A16 → Prop} (h : zp x Q) (hk : ∀ a0 a1 a2 a3 a4 a5 a6 a7 a8 a9 a10 a11 a12 a13 a14 a15 a16, Q (a0, a1, a2, a3, a4, a5, a6, a7, a8, a9, a10, a11, a12, a13, a14, a15, a16) → zp (k a0 a1 a2 a3 a4 a5 a6 a7 a8 a9 a10 a11 a12 a13 a14 a15 a16) P) : zp (zk_b17 x k) P := by
  obtain ⟨⟨a0, a1, a2, a3, a4, a5, a6, a7, a8, a9, a10, a11, a12, a13, a14, a15, a16⟩, e, h⟩ := h
  subst e
  exact hk a0 a1 a2 a3 a4 a5 a6 a7 a8 a9 a10 a11 a12 a13 a14 a15 a16 h
theorem zp_b18 {A0 A1 A2 A3 A4 A5 A6 A7 A8 A9 A10 A11 A12 A13 A14 A15 A16 A17 : Type} {x : Option (A0 × A1 × A2 × A3 × A4 × A5 × A6 × A7 × A8 × A9 × A10 × A11 × A12 × A13 × A14 × A15 × A16 × A17)} {k : A0 → A1 → A2 → A3 → A4 → A5 → A6 → A7 → A8 → A9 → A10 → A11 → A12 → A13 → A14 → A15 → A16 → A17 → Option A} {Q : A0 × A1 × A2 × A3 × A4 × A5 × A6 × A7 × A8 × A9 × A10 × A11 × A12 × A13 × A14 × A15 × A16 × A17 → Prop} (h : zp x Q) (hk : ∀ a0 a1 a2 a3 a4 a5 a6 a7 a8 a9 a10 a11 a12 a13 a14 a15 a16 a17, Q (a0, a1, a2, a3, a4, a5, a6, a7, a8, a9, a10, a11, a12, a13, a14, a15, a16, a17) → zp (k a0 a1 a2 a3 a4 a5 a6 a7 a8 a9 a10 a11 a12 a13 a14 a15 a16 a17) P) : zp (zk_b18 x k) P := by
  obtain ⟨⟨a0, a1, a2, a3, a4, a5, a6, a7, a8, a9, a10, a11, a12, a13, a14, a15, a16, a17⟩, e, h⟩ := h
  subst e
  exact hk a0 a1 a2 a3 a4 a5 a6 a7 a8 a9 a10 a11 a12 a13 a14 a15 a16 a17 h
theorem zp_b19 {A0 A1 A2 A3 A4 A5 A6 A7 A8 A9 A10 A11 A12 A13 A14 A15 A16 A17 A18 : Type} {x : Option (A0 × A1 × A2 × A3 × A4 × A5 × A6 × A7 × A8 × A9 × A10 × A11 × A12 × A13 × A14 × A15 × A16 × A17 × A18)} {k : A0 → A1 → A2 → A3 → A4 → A5 → A6 → A7 → A8 → A9 → A10 → A11 → A12 → A13 → A14 → A15 → A16 → A17 → A18 → Option A} {Q : A0 × A1 × A2 × A3 × A4 × A5 × A6 × A7 × A8 × A9 × A10 × A11 × A12 × A13 × A14 × A15 × A16 × A17 × A18 → Prop} (h : zp x Q) (hk : ∀ a0 a1 a2 a3 a4 a5 a6 a7 a8 a9 a10 a11 a12 a13 a14 a15 a16 a17 a18, Q (a0, a1, a2, a3, a4, a5, a6, a7, a8, a9, a10, a11, a12, a13, a14, a15, a16, a17, a18) → zp (k a0 a1 a2 a3 a4 a5 a6 a7 a8 a9 a10 a11 a12 a13 a14 a15 a16 a17 a18) P) : zp (zk_b19 x k) P := by
  obtain ⟨⟨a0, a1, a2, a3, a4, a5, a6, a7, a8, a9, a10, a11, a12, a13, a14, a15, a16, a17, a18⟩, e, h⟩ := h
  subst e
  exact hk a0 a1 a2 a3 a4 a5 a6 a7 a8 a9 a10 a11 a12 a13 a14 a15 a16 a17 a18 h
theorem zp_b20 {A0 A1 A2 A3 A4 A5 A6 A7 A8 A9 A10 A11 A12 A13 A14 A15 A16 A17 A18 A19 : Type} {x : Option (A0 × A1 × A2 × A3 × A4 × A5 × A6 × A7 × A8 × A9 × A10 × A11 × A12 × A13 × A14 × A15 × A16 × A17 × A18 × A19)} {k : A0 → A1 → A2 → A3 → A4 → A5 → A6 → A7 → A8 → A9 → A10 → A11 → A12 → A13 → A14 → A15 → A16 → A17 → A18 → A19 → Option A} {Q : A0 × A1 × A2 × A3 × A4 × A5 × A6 × A7 × A8 × A9 × A10 × A11 × A12 × A13 × A14 × A15 × A16 × A17 × A18 × A19 → Prop} (h : zp x Q) (hk : ∀ a0 a1 a2 a3 a4 a5 a6 a7 a8 a9 a10 a11 a12 a13 a14 a15 a16 a17 a18 a19, Q (a0, a1, a2, a3, a4, a5, a6, a7, a8, a9, a10, a11, a12, a13, a14, a15, a16, a17, a18, a19) → zp (k a0 a1 a2 a3 a4 a5 a6 a7 a8 a9 a10 a11 a12 a13 a14 a15 a16 a17 a18 a19) P) : zp (zk_b20 x k) P := by
  obtain ⟨⟨a0, a1, a2, a3, a4, a5, a6, a7, a8, a9, a10, a11, a12, a13, a14, a15, a16, a17, a18, a19⟩, e, h⟩ := h
  subst e
  exact hk a0 a1 a2 a3 a4 a5 a6 a7 a8 a9 a10 a11 a12 a13 a14 a15 a16 a17 a18 a19 h
theorem zp_b21 {A0 A1 A2 A3 A4 A5 A6 A7 A8 A9 A10 A11 A12 A13 A14 A15 A16 A17 A18 A19 A20 : Type} {x : Option (A0 × A1 × A2 × A3 × A4 × A5 × A6 × A7 × A8 × A9 × A10 × A11 × A12 × A13 × A14 × A15 × A16 × A17 × A18 × A19 × A20)} {k : A0 → A1 → A2 → A3 → A4 → A5 → A6 → A7 → A8 → A9 → A10 → A11 → A12 → A13 → A14 → A15 → A16 → A17 → A18 → A19 → A20 → Option A} {Q : A0 × A1 × A2 × A3 × A4 × A5 × A6 × A7 × A8 × A9 × A10 × A11 × A12 × A13 × A14 × A15 × A16 × A17 × A18 × A19 × A20 → Prop} (h : zp x Q) (hk : ∀ a0 a1 a2 a3 a4 a5 a6 a7 a8 a9 a10 a11 a12 a13 a14 a15 a16 a17 a18 a19 a20, Q (a0, a1, a2, a3, a4, a5, a6, a7, a8, a9, a10, a11, a12, a13, a14, a15, a16, a17, a18, a19, a20) → zp (k a0 a1 a2 a3 a4 a5 a6 a7 a8 a9 a10 a11 a12 a13 a14 a15 a16 a17 a18 a19 a20) P) : zp (zk_b21 x k) P := by
  obtain ⟨⟨a0, a1, a2, a3, a4, a5, a6, a7, a8, a9, a10, a11, a12, a13, a14, a15, a16, a17, a18, a19, a20⟩, e, h⟩ := h
  subst e
  exact hk a0 a1 a2 a3 a4 a5 a6 a7 a8 a9 a10 a11 a12 a13 a14 a15 a16 a17 a18 a19 a20 h
theorem zp_b22 {A0 A1 A2 A3 A4 A5 A6 A7 A8 A9 A10 A11 A12 A13 A14 A15 A16 A17 A18 A19 A20 A21 : Type} {x : Option (A0 × A1 × A2 × A3 × A4 × A5 × A6 × A7 × A8 × A9 × A10 × A11 × A12 × A13 × A14 × A15 × A16 × A17 × A18 × A19 × A20 × A21)} {k : A0 → A1 → A2 → A3 → A4 → A5 → A6 → A7 → A8 → A9 → A10 → A11 → A12 → A13 → A14 → A15 → A16 → A17 → A18 → A19 → A20 → A21 → Option A} {Q : A0 × A1 × A2 × A3 × A4 × A5 × A6 × A7 × A8 × A9 × A10 × A11 × A12 × A13 × A14 × A15 × A16 × A17 × A18 × A19 × A20 × A21 → Prop} (h : zp x Q) (hk : ∀ a0 a1 a2 a3 a4 a5 a6 a7 a8 a9 a10 a11 a12 a13 a14 a15 a16 a17 a18 a19 a20 a21, Q (a0, a1, a2, a3, a4, a5, a6, a7, a8, a9, a10, a11, a12, a13, a14, a15, a16, a17, a18, a19, a20, a21) → zp (k a0 a1 a2 a3 a4 a5 a6 a7 a8 a9 a10 a11 a12 a13 a14 a15 a16 a17 a18 a19 a20 a21) P) : zp (zk_b22 x k) P := by
  obtain ⟨⟨a0, a1, a2, a3, a4, a5, a6, a7, a8, a9, a10, a11, a12, a13, a14, a15, a16, a17, a18, a19, a20, a21⟩, e, h⟩ := h
  subst e
  exact hk a0 a1 a2 a3 a4 a5 a6 a7 a8 a9 a10 a11 a12 a13 a14 a15 a16 a17 a18 a19 a20 a21 h
theorem zp_b23 {A0 A1 A2 A3 A4 A5 A6 A7 A8 A9 A10 A11 A12 A13 A14 A15 A16 A17 A18 A19 A20 A21 A22 : Type} {x : Option (A0 × A1 × A2 × A3 × A4 × A5 × A6 × A7 × A8 × A9 × A10 × A11 × A12 × A13 × A14 × A15 × A16 × A17 × A18 × A19 × A20 × A21 × A22)} {k : A0 → A1 → A2 → A3 → A4 → A5 → A6 → A7 → A8 → A9 → A10 → A11 → A12 → A13 → A14 → A15 → A16 → A17 → A18 → A19 → A20 → A21 → A22 → Option A} {Q : A0 × A1 × A2 × A3 × A4 × A5 × A6 × A7 × A8 × A9 × A10 × A11 × A12 × A13 × A14 × A15 × A16 × A17 × A18 × A19 × A20 × A21 × A22 → Prop} (h : zp x Q) (hk : ∀ a0 a1 a2 a3 a4 a5 a6 a7 a8 a9 a10 a11 a12 a13 a14 a15 a16 a17 a18 a19 a20 a21 a22, Q (a0, a1, a2, a3, a4, a5, a6, a7, a8, a9, a10, a11, a12, a13, a14, a15, a16, a17, a18, a19, a20, a21, a22) → zp (k a0 a1 a2 a3 a4 a5 a6 a7 a8 a9 a10 a11 a12 a13 a14 a15 a16 a17 a18 a19 a20 a21 a22) P) : zp (zk_b23 x k) P := by
  obtain ⟨⟨a0, a1, a2, a3, a4, a5, a6, a7, a8, a9, a10, a11, a12, a13, a14, a15, a16, a17, a18, a19, a20, a21, a22⟩, e, h⟩ := h
  subst e
  exact hk a0 a1 a2 a3 a4 a5 a6 a7 a8 a9 a10 a11 a12 a13 a14 a15 a16 a17 a18 a19 a20 a21 a22 h
end ZP
def st1 (a w : Int32) (e : Nat) : Option Nat := if a.toInt = 1 then some (e + 1) else if a.toInt = 2 then (if 0 ≤ w.toInt ∧ w.toInt ≤ 10 then some (e + 1) else none) else if a.toInt = 3 ∨ a.toInt = 4 then (if 1 ≤ e then some e else none) else (if 2 ≤ e then some (e - 1) else none)
def dp (a w : Nat → Int32) (b : Nat) : Nat → Option Nat
  | 0 => some 0
  | m + 1 => (dp a w b m).bind (st1 (a (b + m)) (w (b + m)))
def SG (a w : Nat → Int32) (p f e : Nat) : Prop := f ≤ e ∧ e ≤ 130 ∧ dp a w (130 * p + f) (e - f) ≠ none
def lE (le : Nat → Int32) (p l : Nat) : Nat := if l = 0 then 0 else (le (61 * p + l - 1)).toInt.toNat
def SEG (a w te le : Nat → Int32) (p l : Nat) : Prop := 0 ≤ (te (61 * p + l)).toInt ∧ 0 ≤ (le (61 * p + l)).toInt ∧ (lE le p l = (te (61 * p + l)).toInt.toNat ∨ SG a w p (lE le p l) (te (61 * p + l)).toInt.toNat) ∧ SG a w p (te (61 * p + l)).toInt.toNat (le (61 * p + l)).toInt.toNat
def LPa (a w lm te le : Nat → Int32) (p : Nat) : Prop := ∀ l, l < (lm p).toInt.toNat → SEG a w te le p l
def LW (act wi lm te le : Nat → Int32) : Prop := ∀ p, p < 32 → LPa act wi lm te le p
def LWx (act wi lm te le : Nat → Int32) (x : Int32) : Prop := ∀ p, p < 32 → p ≠ x.toInt.toNat → LPa act wi lm te le p
def LN (act wi lm te le : Nat → Int32) (L : Int32) : Prop := lE le 32 (lm 32).toInt.toNat = L.toInt.toNat ∧ LPa act wi lm te le 32
def AR (lo hi : Int) (a : Nat → Int32) : Prop := ∀ k, lo ≤ (a k).toInt ∧ (a k).toInt ≤ hi
theorem zp_letA {A : Type} {P : A → Prop} {lo hi : Int} {a : Nat → Int32} {i : Nat} {v : Int32} {k : (Nat → Int32) → Option A} (ha : AR lo hi a) (hv : lo ≤ v.toInt ∧ v.toInt ≤ hi) (h : ∀ f, AR lo hi f → f i = v → zp (k f) P) : zp (zk_let (upd a i v) k) P := by
  refine h _ (fun j => ?_) (by unfold upd; rw [if_pos rfl])
  unfold upd
  by_cases c : j = i
  · rw [if_pos c]; exact hv
  · rw [if_neg c]; exact ha j
def AQ (a : Nat → Int32) : Prop := ∀ k, (0 ≤ (a k).toInt ∧ (a k).toInt ≤ 61) ∧ (40 ≤ k → (a k).toInt ≤ 1)
theorem zp_letAQ {A : Type} {P : A → Prop} {a : Nat → Int32} {i : Nat} {v : Int32} {k : (Nat → Int32) → Option A} (ha : AQ a) (hv : 0 ≤ v.toInt ∧ v.toInt ≤ 61) (hw : 40 ≤ i → v.toInt ≤ 1) (h : ∀ f, AQ f → f i = v → zp (k f) P) : zp (zk_let (upd a i v) k) P := by
  refine h _ (fun j => ?_) (by unfold upd; rw [if_pos rfl])
  unfold upd
  by_cases c : j = i
  · rw [if_pos c, c]; exact ⟨hv, hw⟩
  · rw [if_neg c]; exact ha j
def SL (n : Int32) (a : Nat → Int32) : Prop := ∀ k, k < n.toInt.toNat → 0 ≤ (a k).toInt ∧ (a k).toInt ≤ 7
theorem zp_letSL {A : Type} {P : A → Prop} {n : Int32} {a : Nat → Int32} {i : Nat} {v : Int32} {k : (Nat → Int32) → Option A} (ha : SL n a) (hv : i < n.toInt.toNat → 0 ≤ v.toInt ∧ v.toInt ≤ 7) (h : ∀ f, SL n f → f i = v → zp (k f) P) : zp (zk_let (upd a i v) k) P := by
  refine h _ (fun j hj => ?_) (by unfold upd; rw [if_pos rfl])
  unfold upd
  by_cases c : j = i
  · rw [if_pos c]; exact hv (c ▸ hj)
  · rw [if_neg c]; exact ha j hj
theorem SL_up {n m : Int32} {a : Nat → Int32} (ha : SL n a) (hv : 0 ≤ (a n.toNatClampNeg).toInt ∧ (a n.toNatClampNeg).toInt ≤ 7) (hn : 0 ≤ n.toInt) (hm : m.toInt = n.toInt + 1) : SL m a := by
  intro k hk
  by_cases c : k = n.toInt.toNat
  · rw [c]; exact hv
  · exact ha k (by omega)
theorem zi_bm {e : Int} (h1 : -2147483648 ≤ e) (h2 : e < 2147483648) : Int.bmod e 4294967296 = e := Int.bmod_eq_of_le (by omega) (by omega)
theorem zi_bm2 {e : Int} (h1 : -2147483648 ≤ e) (h2 : e < 2147483648) : Int.bmod e (2 ^ 32) = e := Int.bmod_eq_of_le (by omega) (by omega)
theorem zs_dv100 (x : Int32) : 0 ≤ x.toInt → (x / 100).toInt = x.toInt / 100 := by
  intro h
  have h2 := Int32.toInt_lt x
  have e : (100 : Int32).toInt = 100 := by decide
  rw [Int32.toInt_div, e, Int.tdiv_eq_ediv_of_nonneg h]
  rw [Int.bmod_eq_of_le (by omega) (by omega)]
theorem zs_dv10 (x : Int32) : 0 ≤ x.toInt → (x / 10).toInt = x.toInt / 10 := by
  intro h
  have h2 := Int32.toInt_lt x
  have e : (10 : Int32).toInt = 10 := by decide
  rw [Int32.toInt_div, e, Int.tdiv_eq_ediv_of_nonneg h]
  rw [Int.bmod_eq_of_le (by omega) (by omega)]
theorem zi_bm64 {e : Int} (h1 : -9223372036854775808 ≤ e) (h2 : e < 9223372036854775808) : Int.bmod e (2 ^ 64) = e := Int.bmod_eq_of_le (by omega) (by omega)
theorem zi_bm8 {e : Int} (h1 : -128 ≤ e) (h2 : e < 128) : Int.bmod e (2 ^ 8) = e := Int.bmod_eq_of_le (by omega) (by omega)
theorem zl6_0 : (0 : Int64).toInt = 0 := by decide
theorem zl6_3 : (3 : Int64).toInt = 3 := by decide
theorem zi_cmp (a b : Int64) : ((lg_cmp a b).toInt < 0 ↔ a.toInt < b.toInt) := by
  have e1 : (-1 : Int32).toInt = -1 := by decide
  have e0 : (0 : Int32).toInt = 0 := by decide
  have e2 : (1 : Int32).toInt = 1 := by decide
  unfold lg_cmp
  by_cases h : a > b
  · rw [if_pos h, e2]
    have := Int64.lt_iff_toInt_lt.mp h
    omega
  · rw [if_neg h]
    have h3 : ¬ b.toInt < a.toInt := fun q => h (Int64.lt_iff_toInt_lt.mpr q)
    by_cases h2 : a = b
    · rw [if_pos h2, e0, h2]
      omega
    · rw [if_neg h2, e1]
      have h4 : ¬ a.toInt = b.toInt := fun q => h2 (Int64.toInt_inj.mp q)
      omega
theorem zn_byte {lo hi : Int} {v : Int32} (h : lo ≤ v.toInt ∧ v.toInt ≤ hi) (h2 : -128 ≤ v.toInt ∧ v.toInt ≤ 127) : lo ≤ (vp_nar .byte v).toInt ∧ (vp_nar .byte v).toInt ≤ hi := by
  have e : (vp_nar .byte v).toInt = v.toInt := by
    show (v.toInt8.toInt32).toInt = v.toInt
    rw [Int8.toInt_toInt32, Int32.toInt_toInt8]
    exact Int.bmod_eq_of_le (by omega) (by omega)
  rw [e]
  exact h
theorem zn_byteR (v : Int32) : -128 ≤ (vp_nar .byte v).toInt ∧ (vp_nar .byte v).toInt ≤ 127 := by
  show -128 ≤ (v.toInt8.toInt32).toInt ∧ (v.toInt8.toInt32).toInt ≤ 127
  rw [Int8.toInt_toInt32]
  have h1 := Int8.le_toInt v.toInt8
  have h2 := Int8.toInt_lt v.toInt8
  omega
theorem zi_and (a b : Int32) : 0 ≤ a.toInt → 0 ≤ (a &&& b).toInt ∧ (a &&& b).toInt ≤ a.toInt := by
  intro h
  have ha : a.toInt = (a.toBitVec.toNat : Int) := by
    have h1 := a.toBitVec.isLt
    show a.toBitVec.toInt = _
    rw [BitVec.toInt_eq_toNat_cond]
    have h2 : 0 ≤ a.toBitVec.toInt := h
    rw [BitVec.toInt_eq_toNat_cond] at h2
    split at h2
    · rw [if_pos (by assumption)]
    · omega
  have h3 : a.toBitVec.toNat < 2147483648 := by
    have := Int32.toInt_lt a
    omega
  have h4 : (a &&& b).toBitVec.toNat ≤ a.toBitVec.toNat := by
    rw [Int32.toBitVec_and, BitVec.toNat_and]
    exact Nat.and_le_left
  have h5 : (a &&& b).toInt = ((a &&& b).toBitVec.toNat : Int) := by
    show (a &&& b).toBitVec.toInt = _
    rw [BitVec.toInt_eq_toNat_cond, if_pos (by omega)]
  rw [h5, ha]
  omega
theorem zi_rng (x : Int32) : -2147483648 ≤ x.toInt ∧ x.toInt < 2147483648 := ⟨Int32.le_toInt x, Int32.toInt_lt x⟩
theorem zi_cl (x : Int32) : x.toNatClampNeg = x.toInt.toNat := rfl
theorem zl_m100 : (-100 : Int32).toInt = -100 := by decide
theorem zl_m20 : (-20 : Int32).toInt = -20 := by decide
theorem zl_m19 : (-19 : Int32).toInt = -19 := by decide
theorem zl_m18 : (-18 : Int32).toInt = -18 := by decide
theorem zl_m17 : (-17 : Int32).toInt = -17 := by decide
theorem zl_m16 : (-16 : Int32).toInt = -16 := by decide
theorem zl_m15 : (-15 : Int32).toInt = -15 := by decide
theorem zl_m14 : (-14 : Int32).toInt = -14 := by decide
theorem zl_m13 : (-13 : Int32).toInt = -13 := by decide
theorem zl_m12 : (-12 : Int32).toInt = -12 := by decide
theorem zl_m11 : (-11 : Int32).toInt = -11 := by decide
theorem zl_m10 : (-10 : Int32).toInt = -10 := by decide
theorem zl_m9 : (-9 : Int32).toInt = -9 := by decide
theorem zl_m8 : (-8 : Int32).toInt = -8 := by decide
theorem zl_m7 : (-7 : Int32).toInt = -7 := by decide
theorem zl_m6 : (-6 : Int32).toInt = -6 := by decide
theorem zl_m5 : (-5 : Int32).toInt = -5 := by decide
theorem zl_m4 : (-4 : Int32).toInt = -4 := by decide
theorem zl_m3 : (-3 : Int32).toInt = -3 := by decide
theorem zl_m2 : (-2 : Int32).toInt = -2 := by decide
theorem zl_m1 : (-1 : Int32).toInt = -1 := by decide
theorem zl_0 : (0 : Int32).toInt = 0 := by decide
theorem zl_1 : (1 : Int32).toInt = 1 := by decide
theorem zl_2 : (2 : Int32).toInt = 2 := by decide
theorem zl_3 : (3 : Int32).toInt = 3 := by decide
theorem zl_4 : (4 : Int32).toInt = 4 := by decide
theorem zl_5 : (5 : Int32).toInt = 5 := by decide
theorem zl_6 : (6 : Int32).toInt = 6 := by decide
theorem zl_7 : (7 : Int32).toInt = 7 := by decide
theorem zl_8 : (8 : Int32).toInt = 8 := by decide
theorem zl_9 : (9 : Int32).toInt = 9 := by decide
theorem zl_10 : (10 : Int32).toInt = 10 := by decide
theorem zl_11 : (11 : Int32).toInt = 11 := by decide
theorem zl_12 : (12 : Int32).toInt = 12 := by decide
theorem zl_13 : (13 : Int32).toInt = 13 := by decide
theorem zl_14 : (14 : Int32).toInt = 14 := by decide
theorem zl_15 : (15 : Int32).toInt = 15 := by decide
theorem zl_16 : (16 : Int32).toInt = 16 := by decide
theorem zl_17 : (17 : Int32).toInt = 17 := by decide
theorem zl_18 : (18 : Int32).toInt = 18 := by decide
theorem zl_19 : (19 : Int32).toInt = 19 := by decide
theorem zl_20 : (20 : Int32).toInt = 20 := by decide
theorem zl_21 : (21 : Int32).toInt = 21 := by decide
theorem zl_22 : (22 : Int32).toInt = 22 := by decide
theorem zl_23 : (23 : Int32).toInt = 23 := by decide
theorem zl_24 : (24 : Int32).toInt = 24 := by decide
theorem zl_25 : (25 : Int32).toInt = 25 := by decide
theorem zl_26 : (26 : Int32).toInt = 26 := by decide
theorem zl_27 : (27 : Int32).toInt = 27 := by decide
theorem zl_28 : (28 : Int32).toInt = 28 := by decide
theorem zl_29 : (29 : Int32).toInt = 29 := by decide
theorem zl_30 : (30 : Int32).toInt = 30 := by decide
theorem zl_31 : (31 : Int32).toInt = 31 := by decide
theorem zl_32 : (32 : Int32).toInt = 32 := by decide
theorem zl_33 : (33 : Int32).toInt = 33 := by decide
theorem zl_34 : (34 : Int32).toInt = 34 := by decide
theorem zl_35 : (35 : Int32).toInt = 35 := by decide
theorem zl_36 : (36 : Int32).toInt = 36 := by decide
theorem zl_37 : (37 : Int32).toInt = 37 := by decide
theorem zl_38 : (38 : Int32).toInt = 38 := by decide
theorem zl_39 : (39 : Int32).toInt = 39 := by decide
theorem zl_40 : (40 : Int32).toInt = 40 := by decide
theorem zl_41 : (41 : Int32).toInt = 41 := by decide
theorem zl_42 : (42 : Int32).toInt = 42 := by decide
theorem zl_43 : (43 : Int32).toInt = 43 := by decide
theorem zl_44 : (44 : Int32).toInt = 44 := by decide
theorem zl_45 : (45 : Int32).toInt = 45 := by decide
theorem zl_46 : (46 : Int32).toInt = 46 := by decide
theorem zl_47 : (47 : Int32).toInt = 47 := by decide
theorem zl_48 : (48 : Int32).toInt = 48 := by decide
theorem zl_49 : (49 : Int32).toInt = 49 := by decide
theorem zl_50 : (50 : Int32).toInt = 50 := by decide
theorem zl_51 : (51 : Int32).toInt = 51 := by decide
theorem zl_52 : (52 : Int32).toInt = 52 := by decide
theorem zl_53 : (53 : Int32).toInt = 53 := by decide
theorem zl_54 : (54 : Int32).toInt = 54 := by decide
theorem zl_55 : (55 : Int32).toInt = 55 := by decide
theorem zl_56 : (56 : Int32).toInt = 56 := by decide
theorem zl_57 : (57 : Int32).toInt = 57 := by decide
theorem zl_58 : (58 : Int32).toInt = 58 := by decide
theorem zl_59 : (59 : Int32).toInt = 59 := by decide
theorem zl_60 : (60 : Int32).toInt = 60 := by decide
theorem zl_61 : (61 : Int32).toInt = 61 := by decide
theorem zl_62 : (62 : Int32).toInt = 62 := by decide
theorem zl_63 : (63 : Int32).toInt = 63 := by decide
theorem zl_64 : (64 : Int32).toInt = 64 := by decide
theorem zl_70 : (70 : Int32).toInt = 70 := by decide
theorem zl_71 : (71 : Int32).toInt = 71 := by decide
theorem zl_81 : (81 : Int32).toInt = 81 := by decide
theorem zl_97 : (97 : Int32).toInt = 97 := by decide
theorem zl_98 : (98 : Int32).toInt = 98 := by decide
theorem zl_99 : (99 : Int32).toInt = 99 := by decide
theorem zl_100 : (100 : Int32).toInt = 100 := by decide
theorem zl_101 : (101 : Int32).toInt = 101 := by decide
theorem zl_102 : (102 : Int32).toInt = 102 := by decide
theorem zl_103 : (103 : Int32).toInt = 103 := by decide
theorem zl_104 : (104 : Int32).toInt = 104 := by decide
theorem zl_105 : (105 : Int32).toInt = 105 := by decide
theorem zl_106 : (106 : Int32).toInt = 106 := by decide
theorem zl_107 : (107 : Int32).toInt = 107 := by decide
theorem zl_108 : (108 : Int32).toInt = 108 := by decide
theorem zl_109 : (109 : Int32).toInt = 109 := by decide
theorem zl_110 : (110 : Int32).toInt = 110 := by decide
theorem zl_111 : (111 : Int32).toInt = 111 := by decide
theorem zl_112 : (112 : Int32).toInt = 112 := by decide
theorem zl_113 : (113 : Int32).toInt = 113 := by decide
theorem zl_114 : (114 : Int32).toInt = 114 := by decide
theorem zl_115 : (115 : Int32).toInt = 115 := by decide
theorem zl_116 : (116 : Int32).toInt = 116 := by decide
theorem zl_117 : (117 : Int32).toInt = 117 := by decide
theorem zl_118 : (118 : Int32).toInt = 118 := by decide
theorem zl_119 : (119 : Int32).toInt = 119 := by decide
theorem zl_120 : (120 : Int32).toInt = 120 := by decide
theorem zl_124 : (124 : Int32).toInt = 124 := by decide
theorem zl_130 : (130 : Int32).toInt = 130 := by decide
theorem zl_256 : (256 : Int32).toInt = 256 := by decide
theorem zl_1952 : (1952 : Int32).toInt = 1952 := by decide
theorem zl_4160 : (4160 : Int32).toInt = 4160 := by decide
theorem zl_5120 : (5120 : Int32).toInt = 5120 := by decide
theorem zl_9999 : (9999 : Int32).toInt = 9999 := by decide
theorem zl_10000 : (10000 : Int32).toInt = 10000 := by decide
