
abbrev z_X11_suit : List Cond := .code yX11_suit cX11_suit 2 (some .int) :: zW
abbrev rm_X11_suit : Room := { frames := 310, cells := 2, slots := 47, locals := 9000 }
theorem K_X11_suit (l : Launch) (D : va_G) (cs : Nat → ClassId) (k : (Nat → Nat) × (Nat → Nat)) (sz : Nat) (ad : Nat → Nat) (z : ZT) (hI : IX ad cs z) : ∃ R : Int32 × Unit, Met l yX11_suit z_X11_suit rm_X11_suit (va_Pc [.ref (ad 0)] (zPreE k D cs (WX ad cs z) sz)) (va_Qi (fun (r : Int32) (u : ZT) => r = R.1 ∧ IX ad cs u ∧ KP z u) (fun (u : ZT) (t : State) => va_P D classes (WX ad cs u) t.heap ∧ va_D (va_A (WX ad cs z) sz) (WX ad cs u)) (va_A (WX ad cs z) sz)) 2 47 (va_A (WX ad cs z) sz) := by sorry
