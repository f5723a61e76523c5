
/-- a list taken apart by a mask in one pass, and put together again -/
def zmC {α : Type} : List Bool → List α → List α
  | true :: m, x :: X => x :: zmC m X
  | false :: m, _ :: X => zmC m X
  | _, _ => []
def zmR {α : Type} : List Bool → List α → List α
  | true :: m, _ :: X => zmR m X
  | false :: m, x :: X => x :: zmR m X
  | _, _ => []
def zmP {α : Type} : List Bool → List α → List α → List α
  | true :: m, R, c :: C => c :: zmP m R C
  | false :: m, r :: R, C => r :: zmP m R C
  | _, _, _ => []
def zmI (b : Bool) : List Bool → Nat → List Nat
  | [], _ => []
  | a :: m, n => if a = b then n :: zmI b m (n + 1) else zmI b m (n + 1)
def zmQ : List Bool → Nat → Nat → List Nat
  | [], _, _ => []
  | true :: m, i, j => j :: zmQ m i (j + 1)
  | false :: m, i, j => i :: zmQ m (i + 1) j
theorem zm_get {α : Type} (pre : List α) (x : α) (X : List α) : (pre ++ x :: X)[pre.length]? = some x := by
  rw [List.getElem?_append_right (Nat.le_refl _), Nat.sub_self]
  rfl
theorem zm_C {α : Type} : ∀ (m : List Bool) (X pre : List α), m.length = X.length → (zmI true m pre.length).map (fun i => (pre ++ X)[i]?) = (zmC m X).map some := by
  intro m
  induction m with
  | nil =>
    intro X pre h
    cases X with
    | nil => rfl
    | cons x X => cases h
  | cons a m ih =>
    intro X pre h
    cases X with
    | nil => cases h
    | cons x X =>
      have e := ih X (pre ++ [x]) (Nat.succ.inj h)
      rw [List.length_append, List.append_assoc] at e
      cases a with
      | true =>
        show ((pre ++ x :: X)[pre.length]?) :: (zmI true m (pre.length + 1)).map (fun i => (pre ++ x :: X)[i]?) = some x :: (zmC m X).map some
        rw [zm_get]
        exact congrArg (List.cons (some x)) e
      | false => exact e
theorem zm_R {α : Type} : ∀ (m : List Bool) (X pre : List α), m.length = X.length → (zmI false m pre.length).map (fun i => (pre ++ X)[i]?) = (zmR m X).map some := by
  intro m
  induction m with
  | nil =>
    intro X pre h
    cases X with
    | nil => rfl
    | cons x X => cases h
  | cons a m ih =>
    intro X pre h
    cases X with
    | nil => cases h
    | cons x X =>
      have e := ih X (pre ++ [x]) (Nat.succ.inj h)
      rw [List.length_append, List.append_assoc] at e
      cases a with
      | false =>
        show ((pre ++ x :: X)[pre.length]?) :: (zmI false m (pre.length + 1)).map (fun i => (pre ++ x :: X)[i]?) = some x :: (zmR m X).map some
        rw [zm_get]
        exact congrArg (List.cons (some x)) e
      | true => exact e
theorem zm_Q {α : Type} : ∀ (m : List Bool) (R C r0 c0 : List α) (j : Nat), j = r0.length + R.length + c0.length → (zmP m R C).length = m.length → (zmQ m r0.length j).map (fun k => ((r0 ++ R) ++ (c0 ++ C))[k]?) = (zmP m R C).map some := by
  intro m
  induction m with
  | nil => intro R C r0 c0 j _ _; rfl
  | cons a m ih =>
    intro R C r0 c0 j hj h
    cases a with
    | true =>
      cases C with
      | nil => cases R <;> cases h
      | cons c C =>
        have e := ih R C r0 (c0 ++ [c]) (j + 1) (by rw [List.length_append, hj]; rfl) (Nat.succ.inj h)
        rw [List.append_assoc c0] at e
        show (((r0 ++ R) ++ (c0 ++ c :: C))[j]?) :: (zmQ m r0.length (j + 1)).map (fun k => ((r0 ++ R) ++ (c0 ++ c :: C))[k]?) = some c :: (zmP m R C).map some
        have g : ((r0 ++ R) ++ (c0 ++ c :: C))[j]? = some c := by
          have e2 := zm_get ((r0 ++ R) ++ c0) c C
          rw [List.length_append, List.length_append, ← hj, List.append_assoc] at e2
          exact e2
        rw [g]
        exact congrArg (List.cons (some c)) e
    | false =>
      cases R with
      | nil => cases h
      | cons r R =>
        have e := ih R C (r0 ++ [r]) c0 j (by rw [List.length_append, hj]; show r0.length + (R.length + 1) + c0.length = r0.length + 1 + R.length + c0.length; omega) (Nat.succ.inj h)
        rw [List.length_append, List.append_assoc r0] at e
        show (((r0 ++ r :: R) ++ (c0 ++ C))[r0.length]?) :: (zmQ m (r0.length + 1) j).map (fun k => ((r0 ++ r :: R) ++ (c0 ++ C))[k]?) = some r :: (zmP m R C).map some
        have g : ((r0 ++ r :: R) ++ (c0 ++ C))[r0.length]? = some r := by
          rw [List.append_assoc]
          exact zm_get r0 r (R ++ (c0 ++ C))
        rw [g]
        exact congrArg (List.cons (some r)) e
theorem zm_C0 {α : Type} {X cx : List α} {isC : List Nat} (m : List Bool) (hi : zmI true m 0 = isC) (hl : m.length = X.length) (hc : zmC m X = cx) : isC.map (fun i => X[i]?) = cx.map some := by
  rw [← hi, ← hc]
  exact zm_C m X [] hl
theorem zm_R0 {α : Type} {X : List α} {isR : List Nat} (m : List Bool) (hi : zmI false m 0 = isR) (hl : m.length = X.length) : isR.map (fun i => X[i]?) = (zmR m X).map some := by
  rw [← hi]
  exact zm_R m X [] hl
theorem zm_Q0 {α : Type} {R C Xn : List α} {perm : List Nat} (m : List Bool) (n : Nat) (hp : zmQ m 0 n = perm) (hn : R.length = n) (hl : m.length = Xn.length) (hx : zmP m R C = Xn) : perm.map (fun i => (R ++ C)[i]?) = Xn.map some := by
  rw [← hp, ← hx]
  exact zm_Q m R C [] [] n (by rw [← hn]; show R.length = 0 + R.length + 0; omega) (by rw [hx]; exact hl.symm)

def zc {α : Type} (k n : Nat) (a b : α) : α := cond (Nat.beq k n) a b
theorem zMet_mono {l : Launch} {y : MethodName} {ws : List Cond} {rm : Room} {P P' : Array Value → State → Prop} {Q Q' : Array Value → State → Outcome → State → Prop} {mc ms : Nat} {fr fr' : Addr → Prop} (hM : Met l y ws rm P Q mc ms fr) (h1 : ∀ a U, P' a U → P a U) (h2 : ∀ a st o t, P' a st → Q a st o t → Q' a st o t) (h3 : ∀ q, fr q → fr' q) : Met l y ws rm P' Q' mc ms fr' := by
  intro p e ha hc hk s m args below hf hs hp hK
  obtain ⟨n, o, w1, w2, w3, w4, L, w5, w6⟩ := hM p e ha hc hk s m args below hf hs (h1 _ _ hp) trivial
  exact ⟨n, o, w1, w2, w3, h2 _ _ _ _ hp w4, L, w5, fun q hq => h3 _ (w6 q hq)⟩
theorem zMetE {l : Launch} {y : MethodName} {ws : List Cond} {rm : Room} {av : List Value} {k : (Nat → Nat) × (Nat → Nat)} {D : va_G} {cs : Nat → ClassId} {w : va_W} {sz : Nat} {Q : Array Value → State → Outcome → State → Prop} {mc ms : Nat} {fr : Addr → Prop} (hM : Met l y ws rm (va_Pc av (zPre D cs w sz)) Q mc ms fr) : Met l y ws rm (va_Pc av (zPreE k D cs w sz)) Q mc ms fr := zMet_mono hM (fun _ _ h => ⟨h.1, h.2.1.1⟩) (fun _ _ _ _ _ h => h) (fun _ h => h)
theorem zMetO {l : Launch} {y : MethodName} {ws : List Cond} {rm : Room} {av : List Value} {k : (Nat → Nat) × (Nat → Nat)} {D : va_G} {cs : Nat → ClassId} {w : va_W} {sz : Nat} {Q : Array Value → State → Outcome → State → Prop} {mc ms : Nat} {fr : Addr → Prop} (hM : Met l y ws rm (va_Pc av (zPreO D cs w sz)) Q mc ms fr) : Met l y ws rm (va_Pc av (zPreE k D cs w sz)) Q mc ms fr := zMet_mono hM (fun _ _ h => ⟨h.1, h.2.1⟩) (fun _ _ _ _ _ h => h) (fun _ h => h)
theorem zPreE_sub {k : (Nat → Nat) × (Nat → Nat)} {D : va_G} {cs : Nat → ClassId} {W w : va_W} {sz : Nat} {U : State} (h : zPreE k D cs W sz U) (hP : va_P D classes W U.heap → va_P D classes w U.heap) (hD : va_D (fun _ => True) W → va_D (fun _ => True) w) (hA : ∀ q, va_A w sz q → va_A W sz q) : zPreE k D cs w sz U :=
  ⟨⟨⟨h.1.1.1, hP h.1.1.2.1, h.1.1.2.2.1, hD h.1.1.2.2.2⟩, h.1.2⟩, h.2.1.narrow hA, h.2.2.1, h.2.2.2.1.narrow hA, h.2.2.2.2.1.narrow hA, h.2.2.2.2.2⟩
theorem zA_P {X cx pl : va_W} {sz : Nat} (isC : List Nat) (hC : isC.map (fun i => X[i]?) = cx.map some) : ∀ q, va_A (cx ++ pl) sz q → va_A (X ++ pl) sz q := by
  intro q h
  rcases h with ⟨i, e, h⟩ | h
  · exact Or.inl ⟨_, e, va_part isC hC i _ h⟩
  · exact Or.inr h
theorem zA_l {X pl : va_W} {sz : Nat} : ∀ q, va_A X sz q → va_A (X ++ pl) sz q := by
  intro q h
  rcases h with ⟨i, e, h⟩ | h
  · exact Or.inl ⟨i, e, by rw [List.getElem?_append_left (List.getElem?_eq_some_iff.mp h).1]; exact h⟩
  · exact Or.inr h
theorem zA_Q {X cx pl : va_W} {sz : Nat} (isC : List Nat) (hC : isC.map (fun i => X[i]?) = cx.map some) : ∀ q, va_A cx sz q → va_A (X ++ pl) sz q := fun q h => zA_P isC hC q (zA_l q h)
theorem zPLC {pl : Nat → Option Nat} {ad : Nat → Nat} {b : Nat} (h : ∀ j, j < 6 → pl j = some (ad (b + 2 * j))) {x : Int32} {j : Nat} (hj : j < 6) (hp : (¬ x < 0 ∧ ¬ 6 ≤ x) → x.toNatClampNeg = j) : PLC pl x (ad (b + 2 * j)) := by
  intro h1 h2
  have e0 : (0 : Int32).toInt = 0 := by decide
  have e6 : (6 : Int32).toInt = 6 := by decide
  rw [hp ⟨fun z => by have := Int32.lt_iff_toInt_lt.mp z; omega, fun z => by have := Int32.le_iff_toInt_le.mp z; omega⟩]
  exact h j hj
def yClI : MethodName := ⟨"[I", "clone", "()Ljava/lang/Object;"⟩
def yClO : MethodName := ⟨"java/lang/Object", "clone", "()Ljava/lang/Object;"⟩
theorem zk_rgs (B : va_W) : (List.range B.length).map (fun i => B[i]?) = B.map some := by
  refine List.ext_getElem (by simp) (fun i h1 h2 => ?_)
  have h3 : i < B.length := by simpa using h2
  rw [List.getElem_map, List.getElem_map, List.getElem_range, List.getElem?_eq_getElem h3]
theorem zD_nd {A : Nat → Prop} {w : va_W} : va_D A w ↔ (w.map Prod.fst).Nodup ∧ ∀ q ∈ w, A q.1 := by
  constructor
  · intro h
    refine ⟨List.pairwise_iff_getElem.mpr (fun i j hi hj hij he => ?_), fun q hq => ?_⟩
    · have hi' : i < w.length := by rw [List.length_map] at hi; exact hi
      have hj' : j < w.length := by rw [List.length_map] at hj; exact hj
      rw [List.getElem_map, List.getElem_map] at he
      have := h.1 i j _ _ (List.getElem?_eq_getElem hi') (List.getElem?_eq_getElem hj') he
      omega
    · obtain ⟨i, hi⟩ := List.getElem?_of_mem hq
      exact h.2 i q hi
  · intro h
    refine ⟨fun i j p q hi hj e => ?_, fun i q hi => h.2 q (List.mem_of_getElem? hi)⟩
    have h1 := List.pairwise_iff_getElem.mp h.1
    obtain ⟨li, pi⟩ := List.getElem?_eq_some_iff.mp hi
    obtain ⟨lj, pj⟩ := List.getElem?_eq_some_iff.mp hj
    have li' : i < (w.map Prod.fst).length := by rw [List.length_map]; exact li
    have lj' : j < (w.map Prod.fst).length := by rw [List.length_map]; exact lj
    rcases Nat.lt_trichotomy i j with c | c | c
    · exact absurd (by rw [List.getElem_map, List.getElem_map, pi, pj]; exact e) (h1 i j li' lj' c)
    · exact c
    · exact absurd (by rw [List.getElem_map, List.getElem_map, pi, pj]; exact e.symm) (h1 j i lj' li' c)
theorem zD_perm {A : Nat → Prop} {w w2 : va_W} (hp : w.Perm w2) (h : va_D A w) : va_D A w2 := by
  rw [zD_nd] at h ⊢
  exact ⟨(hp.map Prod.fst).nodup_iff.mp h.1, fun q hq => h.2 q (hp.mem_iff.mpr hq)⟩
theorem zP_perm {D : va_G} {w w2 : va_W} {H : Heap} (hp : w.Perm w2) (h : va_P D classes w H) : va_P D classes w2 H := by
  intro i q hi
  obtain ⟨j, hj⟩ := List.getElem?_of_mem (hp.mem_iff.mpr (List.mem_of_getElem? hi))
  exact h j q hj
theorem zA_perm {w w2 : va_W} {sz : Nat} (hp : w.Perm w2) : ∀ q, va_A w sz q → va_A w2 sz q := by
  intro q h
  rcases h with ⟨i, e, h⟩ | h
  · obtain ⟨j, hj⟩ := List.getElem?_of_mem (hp.mem_iff.mp (List.mem_of_getElem? h))
    exact Or.inl ⟨j, e, hj⟩
  · exact Or.inr h
theorem zMet_S {l : Launch} {y : MethodName} {ws : List Cond} {rm : Room} {av : List Value} {k : (Nat → Nat) × (Nat → Nat)} {D : va_G} {cs : Nat → ClassId} {sz : Nat} {X cx wr pl W0 : va_W} {S S2 : Type} {post : Int32 → S → Prop} {post2 : Int32 → S2 → Prop} {w1 : S → va_W} {w2 : S2 → va_W} {mc ms : Nat}
    (hM : Met l y ws rm (va_Pc av (zPreE k D cs cx sz)) (va_Qi post (fun (u : S) (t : State) => va_P D classes (w1 u) t.heap ∧ va_D (va_A cx sz) (w1 u)) (va_A cx sz)) mc ms (va_A cx sz))
    (isC isR : List Nat) (hC : isC.map (fun i => X[i]?) = cx.map some) (hnC : va_nd isC = true) (hR : isR.map (fun i => X[i]?) = wr.map some) (hn : va_nd isR = true) (hdis : ∀ i ∈ isR, i ∉ isC)
    (h0 : W0.Perm (X ++ pl)) (hQ : ∀ (r : Int32) (u : S), post r u → ∃ v : S2, post2 r v ∧ (∀ H, va_P D classes ((wr ++ w1 u) ++ pl) H → va_P D classes (w2 v) H) ∧ (∀ A, va_D A ((wr ++ w1 u) ++ pl) → va_D A (w2 v))) :
    Met l y ws rm (va_Pc av (zPreE k D cs W0 sz)) (va_Qi post2 (fun (v : S2) (t : State) => va_P D classes (w2 v) t.heap ∧ va_D (va_A W0 sz) (w2 v)) (va_A W0 sz)) mc ms (va_A W0 sz) := by
  have hin : ∀ q, va_A cx sz q → va_A W0 sz q := fun q h => zA_perm h0.symm q (zA_Q isC hC q h)
  refine zMet_mono hM (fun a U h => ⟨h.1, zPreE_sub h.2 (fun z => (zP_l (zP_perm h0 z)).sub isC (zk_fm hC)) (fun z => (zD_l (zD_perm h0 z)).sub isC hnC hC) hin⟩) ?_ hin
  intro a st o t hp hq
  obtain ⟨⟨r, u, ho, hpo, hP1, hD1⟩, hz, hk⟩ := hq
  obtain ⟨-, ⟨⟨hsz, hP, -, hD0⟩, -⟩, -⟩ := hp
  obtain ⟨v, e1, e2, e3⟩ := hQ r u hpo
  subst hsz
  have hD := (zD_perm h0 hD0).self (sz := st.heap.size)
  have hP := zP_perm h0 hP
  obtain ⟨hP2, hD2⟩ := va_joinQ hP hD isC isR hC hR hn hdis (fun q h1 h2 => hk q h1 h2) (zA_Q isC hC) hP1 hD1
  have hD3 : va_D (va_A W0 st.heap.size) ((wr ++ w1 u) ++ pl) := hD2.weaken (fun i q _ h => zA_perm h0.symm _ h)
  exact ⟨⟨r, v, ho, e1, e2 _ hP2, e3 _ hD3⟩, hz, fun q h1 h2 => hk q h1 (fun h => h2 (hin q h))⟩

theorem zKiP {l : Launch} {y : MethodName} {ws : List Cond} {rm : Room} {av : List Value} {k : (Nat → Nat) × (Nat → Nat)} {D : va_G} {cs : Nat → ClassId} {sz : Nat} {X cx wr pl : va_W} {S : Type} {post : Int32 → S → Prop} {w1 pl1 : S → va_W} {mc ms : Nat}
    (hM : Met l y ws rm (va_Pc av (zPreE k D cs (cx ++ pl) sz)) (va_Qi post (fun (u : S) (t : State) => va_P D classes (w1 u ++ pl1 u) t.heap ∧ va_D (va_A (cx ++ pl) sz) (w1 u ++ pl1 u)) (va_A (cx ++ pl) sz)) mc ms (va_A (cx ++ pl) sz))
    (isC isR : List Nat) (hC : isC.map (fun i => X[i]?) = cx.map some) (hnC : va_nd isC = true) (hR : isR.map (fun i => X[i]?) = wr.map some) (hn : va_nd isR = true) (hdis : ∀ i ∈ isR, i ∉ isC)
    (perm : List Nat) (hnp : va_nd perm = true) {r0 : Int32} {Xn pln : va_W} (hQ : ∀ (r : Int32) (u : S), post r u → r = r0 ∧ perm.map (fun i => (wr ++ w1 u)[i]?) = Xn.map some ∧ pl1 u = pln) :
    Met l y ws rm (va_Pc av (zPreE k D cs (X ++ pl) sz)) (va_Qi (fun (r : Int32) (_ : Unit) => r = r0) (fun (_ : Unit) (t : State) => va_P D classes (Xn ++ pln) t.heap ∧ va_D (va_A (X ++ pl) sz) (Xn ++ pln)) (va_A (X ++ pl) sz)) mc ms (va_A (X ++ pl) sz) := by
  have hin : ∀ q, va_A (cx ++ pl) sz q → va_A (X ++ pl) sz q := zA_P isC hC
  refine zMet_mono hM (fun a U h => ⟨h.1, zPreE_sub h.2 (fun z => z.part isC hC) (fun z => z.part isC hnC hC) hin⟩) ?_ hin
  intro a st o t hp hq
  obtain ⟨⟨r, u, ho, hpo, hP1, hD1⟩, hz, hk⟩ := hq
  obtain ⟨-, ⟨⟨hsz, hP, -, hD0⟩, -⟩, -⟩ := hp
  obtain ⟨e1, e2, e3⟩ := hQ r u hpo
  subst hsz
  have hD := hD0.self (sz := st.heap.size)
  obtain ⟨hP2, hD2⟩ := va_joinP hP hD isC isR hC hR hn hdis (fun q h1 h2 => hk q h1 h2) hin hP1 hD1
  rw [e3] at hP2 hD2
  exact ⟨⟨r, (), ho, e1, hP2.part perm e2, hD2.part perm hnp e2⟩, hz, fun q h1 h2 => hk q h1 (fun h => h2 (hin q h))⟩
theorem zKiQ {l : Launch} {y : MethodName} {ws : List Cond} {rm : Room} {av : List Value} {k : (Nat → Nat) × (Nat → Nat)} {D : va_G} {cs : Nat → ClassId} {sz : Nat} {X cx wr pl : va_W} {S : Type} {post : Int32 → S → Prop} {w1 : S → va_W} {mc ms : Nat}
    (hM : Met l y ws rm (va_Pc av (zPreE k D cs cx sz)) (va_Qi post (fun (u : S) (t : State) => va_P D classes (w1 u) t.heap ∧ va_D (va_A cx sz) (w1 u)) (va_A cx sz)) mc ms (va_A cx sz))
    (isC isR : List Nat) (hC : isC.map (fun i => X[i]?) = cx.map some) (hnC : va_nd isC = true) (hR : isR.map (fun i => X[i]?) = wr.map some) (hn : va_nd isR = true) (hdis : ∀ i ∈ isR, i ∉ isC)
    (perm : List Nat) (hnp : va_nd perm = true) {r0 : Int32} {Xn : va_W} (hQ : ∀ (r : Int32) (u : S), post r u → r = r0 ∧ perm.map (fun i => (wr ++ w1 u)[i]?) = Xn.map some) :
    Met l y ws rm (va_Pc av (zPreE k D cs (X ++ pl) sz)) (va_Qi (fun (r : Int32) (_ : Unit) => r = r0) (fun (_ : Unit) (t : State) => va_P D classes (Xn ++ pl) t.heap ∧ va_D (va_A (X ++ pl) sz) (Xn ++ pl)) (va_A (X ++ pl) sz)) mc ms (va_A (X ++ pl) sz) := by
  have hin : ∀ q, va_A cx sz q → va_A (X ++ pl) sz q := zA_Q isC hC
  refine zMet_mono hM (fun a U h => ⟨h.1, zPreE_sub h.2 (fun z => (zP_l z).sub isC (zk_fm hC)) (fun z => (zD_l z).sub isC hnC hC) hin⟩) ?_ hin
  intro a st o t hp hq
  obtain ⟨⟨r, u, ho, hpo, hP1, hD1⟩, hz, hk⟩ := hq
  obtain ⟨-, ⟨⟨hsz, hP, -, hD0⟩, -⟩, -⟩ := hp
  obtain ⟨e1, e2⟩ := hQ r u hpo
  subst hsz
  have hD := hD0.self (sz := st.heap.size)
  obtain ⟨hP2, hD2⟩ := va_joinQ hP hD isC isR hC hR hn hdis (fun q h1 h2 => hk q h1 h2) hin hP1 hD1
  exact ⟨⟨r, (), ho, e1, hP2.part perm e2, hD2.part perm hnp e2⟩, hz, fun q h1 h2 => hk q h1 (fun h => h2 (hin q h))⟩
theorem zKlP {l : Launch} {y : MethodName} {ws : List Cond} {rm : Room} {av : List Value} {k : (Nat → Nat) × (Nat → Nat)} {D : va_G} {cs : Nat → ClassId} {sz : Nat} {X cx wr pl : va_W} {S : Type} {post : Int64 → S → Prop} {w1 pl1 : S → va_W} {mc ms : Nat}
    (hM : Met l y ws rm (va_Pc av (zPreE k D cs (cx ++ pl) sz)) (va_Ql post (fun (u : S) (t : State) => va_P D classes (w1 u ++ pl1 u) t.heap ∧ va_D (va_A (cx ++ pl) sz) (w1 u ++ pl1 u)) (va_A (cx ++ pl) sz)) mc ms (va_A (cx ++ pl) sz))
    (isC isR : List Nat) (hC : isC.map (fun i => X[i]?) = cx.map some) (hnC : va_nd isC = true) (hR : isR.map (fun i => X[i]?) = wr.map some) (hn : va_nd isR = true) (hdis : ∀ i ∈ isR, i ∉ isC)
    (perm : List Nat) (hnp : va_nd perm = true) {r0 : Int64} {Xn pln : va_W} (hQ : ∀ (r : Int64) (u : S), post r u → r = r0 ∧ perm.map (fun i => (wr ++ w1 u)[i]?) = Xn.map some ∧ pl1 u = pln) :
    Met l y ws rm (va_Pc av (zPreE k D cs (X ++ pl) sz)) (va_Ql (fun (r : Int64) (_ : Unit) => r = r0) (fun (_ : Unit) (t : State) => va_P D classes (Xn ++ pln) t.heap ∧ va_D (va_A (X ++ pl) sz) (Xn ++ pln)) (va_A (X ++ pl) sz)) mc ms (va_A (X ++ pl) sz) := by
  have hin : ∀ q, va_A (cx ++ pl) sz q → va_A (X ++ pl) sz q := zA_P isC hC
  refine zMet_mono hM (fun a U h => ⟨h.1, zPreE_sub h.2 (fun z => z.part isC hC) (fun z => z.part isC hnC hC) hin⟩) ?_ hin
  intro a st o t hp hq
  obtain ⟨⟨r, u, ho, hpo, hP1, hD1⟩, hz, hk⟩ := hq
  obtain ⟨-, ⟨⟨hsz, hP, -, hD0⟩, -⟩, -⟩ := hp
  obtain ⟨e1, e2, e3⟩ := hQ r u hpo
  subst hsz
  have hD := hD0.self (sz := st.heap.size)
  obtain ⟨hP2, hD2⟩ := va_joinP hP hD isC isR hC hR hn hdis (fun q h1 h2 => hk q h1 h2) hin hP1 hD1
  rw [e3] at hP2 hD2
  exact ⟨⟨r, (), ho, e1, hP2.part perm e2, hD2.part perm hnp e2⟩, hz, fun q h1 h2 => hk q h1 (fun h => h2 (hin q h))⟩
theorem zKlQ {l : Launch} {y : MethodName} {ws : List Cond} {rm : Room} {av : List Value} {k : (Nat → Nat) × (Nat → Nat)} {D : va_G} {cs : Nat → ClassId} {sz : Nat} {X cx wr pl : va_W} {S : Type} {post : Int64 → S → Prop} {w1 : S → va_W} {mc ms : Nat}
    (hM : Met l y ws rm (va_Pc av (zPreE k D cs cx sz)) (va_Ql post (fun (u : S) (t : State) => va_P D classes (w1 u) t.heap ∧ va_D (va_A cx sz) (w1 u)) (va_A cx sz)) mc ms (va_A cx sz))
    (isC isR : List Nat) (hC : isC.map (fun i => X[i]?) = cx.map some) (hnC : va_nd isC = true) (hR : isR.map (fun i => X[i]?) = wr.map some) (hn : va_nd isR = true) (hdis : ∀ i ∈ isR, i ∉ isC)
    (perm : List Nat) (hnp : va_nd perm = true) {r0 : Int64} {Xn : va_W} (hQ : ∀ (r : Int64) (u : S), post r u → r = r0 ∧ perm.map (fun i => (wr ++ w1 u)[i]?) = Xn.map some) :
    Met l y ws rm (va_Pc av (zPreE k D cs (X ++ pl) sz)) (va_Ql (fun (r : Int64) (_ : Unit) => r = r0) (fun (_ : Unit) (t : State) => va_P D classes (Xn ++ pl) t.heap ∧ va_D (va_A (X ++ pl) sz) (Xn ++ pl)) (va_A (X ++ pl) sz)) mc ms (va_A (X ++ pl) sz) := by
  have hin : ∀ q, va_A cx sz q → va_A (X ++ pl) sz q := zA_Q isC hC
  refine zMet_mono hM (fun a U h => ⟨h.1, zPreE_sub h.2 (fun z => (zP_l z).sub isC (zk_fm hC)) (fun z => (zD_l z).sub isC hnC hC) hin⟩) ?_ hin
  intro a st o t hp hq
  obtain ⟨⟨r, u, ho, hpo, hP1, hD1⟩, hz, hk⟩ := hq
  obtain ⟨-, ⟨⟨hsz, hP, -, hD0⟩, -⟩, -⟩ := hp
  obtain ⟨e1, e2⟩ := hQ r u hpo
  subst hsz
  have hD := hD0.self (sz := st.heap.size)
  obtain ⟨hP2, hD2⟩ := va_joinQ hP hD isC isR hC hR hn hdis (fun q h1 h2 => hk q h1 h2) hin hP1 hD1
  exact ⟨⟨r, (), ho, e1, hP2.part perm e2, hD2.part perm hnp e2⟩, hz, fun q h1 h2 => hk q h1 (fun h => h2 (hin q h))⟩
theorem zKi0 {l : Launch} {y : MethodName} {ws : List Cond} {rm : Room} {av : List Value} {k : (Nat → Nat) × (Nat → Nat)} {D : va_G} {cs : Nat → ClassId} {sz : Nat} {X cx wr : va_W} {S : Type} {post : Int32 → S → Prop} {w1 : S → va_W} {mc ms : Nat}
    (hM : Met l y ws rm (va_Pc av (zPreE k D cs cx sz)) (va_Qi post (fun (u : S) (t : State) => va_P D classes (w1 u) t.heap ∧ va_D (va_A cx sz) (w1 u)) (va_A cx sz)) mc ms (va_A cx sz))
    (isC isR : List Nat) (hC : isC.map (fun i => X[i]?) = cx.map some) (hnC : va_nd isC = true) (hR : isR.map (fun i => X[i]?) = wr.map some) (hn : va_nd isR = true) (hdis : ∀ i ∈ isR, i ∉ isC)
    (perm : List Nat) (hnp : va_nd perm = true) {r0 : Int32} {Xn : va_W} (hQ : ∀ (r : Int32) (u : S), post r u → r = r0 ∧ perm.map (fun i => (wr ++ w1 u)[i]?) = Xn.map some) :
    Met l y ws rm (va_Pc av (zPreE k D cs X sz)) (va_Qi (fun (r : Int32) (_ : Unit) => r = r0) (fun (_ : Unit) (t : State) => va_P D classes Xn t.heap ∧ va_D (va_A X sz) Xn) (va_A X sz)) mc ms (va_A X sz) := by
  have h := zKiQ (pl := []) hM isC isR hC hnC hR hn hdis perm hnp hQ
  simp only [List.append_nil] at h
  exact h
theorem zKl0 {l : Launch} {y : MethodName} {ws : List Cond} {rm : Room} {av : List Value} {k : (Nat → Nat) × (Nat → Nat)} {D : va_G} {cs : Nat → ClassId} {sz : Nat} {X cx wr : va_W} {S : Type} {post : Int64 → S → Prop} {w1 : S → va_W} {mc ms : Nat}
    (hM : Met l y ws rm (va_Pc av (zPreE k D cs cx sz)) (va_Ql post (fun (u : S) (t : State) => va_P D classes (w1 u) t.heap ∧ va_D (va_A cx sz) (w1 u)) (va_A cx sz)) mc ms (va_A cx sz))
    (isC isR : List Nat) (hC : isC.map (fun i => X[i]?) = cx.map some) (hnC : va_nd isC = true) (hR : isR.map (fun i => X[i]?) = wr.map some) (hn : va_nd isR = true) (hdis : ∀ i ∈ isR, i ∉ isC)
    (perm : List Nat) (hnp : va_nd perm = true) {r0 : Int64} {Xn : va_W} (hQ : ∀ (r : Int64) (u : S), post r u → r = r0 ∧ perm.map (fun i => (wr ++ w1 u)[i]?) = Xn.map some) :
    Met l y ws rm (va_Pc av (zPreE k D cs X sz)) (va_Ql (fun (r : Int64) (_ : Unit) => r = r0) (fun (_ : Unit) (t : State) => va_P D classes Xn t.heap ∧ va_D (va_A X sz) Xn) (va_A X sz)) mc ms (va_A X sz) := by
  have h := zKlQ (pl := []) hM isC isR hC hnC hR hn hdis perm hnp hQ
  simp only [List.append_nil] at h
  exact h
theorem zk_ndl : ∀ l : List Nat, l.Nodup → va_nd l = true
  | [], _ => rfl
  | a :: l, h => by
    have h1 := List.nodup_cons.mp h
    show (decide (a ∉ l) && va_nd l) = true
    rw [zk_ndl l h1.2, decide_eq_true h1.1]
    rfl
theorem zk_ndr (n : Nat) : va_nd (List.range n) = true := zk_ndl _ List.nodup_range
theorem zP_r {D : va_G} {X PL : va_W} {H : Heap} (h : va_P D classes (X ++ PL) H) : va_P D classes PL H := fun k q hk => h (X.length + k) q (by rw [List.getElem?_append_right (Nat.le_add_right _ _), Nat.add_sub_cancel_left]; exact hk)
theorem zD_r {A : Nat → Prop} {X PL : va_W} (h : va_D A (X ++ PL)) : va_D A PL := by
  have g : ∀ (k : Nat) (q : Nat × va_E), PL[k]? = some q → (X ++ PL)[X.length + k]? = some q := fun k q hk => by rw [List.getElem?_append_right (Nat.le_add_right _ _), Nat.add_sub_cancel_left]; exact hk
  exact ⟨fun i j p q hi hj e => by have := h.1 _ _ p q (g i p hi) (g j q hj) e; omega, fun k q hk => h.2 _ q (g k q hk)⟩
section ZLR
variable {p : Program} {l : Launch} {e : Env} {R : Room} {s : State} {m : MethodId} {args : Array Value} {below : List Frame} {meth : Method} {c : Code} {H : Heap} {locs : List Loc} {cells slots : Nat} {Q : State → Prop} {ls : Array Slot} {pc : Nat}
variable {A : Nat → Prop} {D : va_G} {cs : Nat → ClassId} {A0 A1 B0 B1 : va_W} {y : MethodName} {wsY : List Cond} {rm : Room} {C own host : String} {index maxL mc ms n nL : Nat} {bytes cc : ByteArray} {ret : Option FieldType} {b : Nat} {As rest : List Value} {k : (Nat → Nat) × (Nat → Nat)}
theorem zk_LXi {r0 : Int32} (hE : zE k A s) (hO : zO s) (hM : Met l y wsY rm (va_Pc (.ref b :: As) (zPreE k D cs A0 H.size)) (va_Qi (fun (r : Int32) (_ : Unit) => r = r0) (fun (_ : Unit) (t : State) => va_P D classes A1 t.heap ∧ va_D (va_A A0 H.size) A1) (va_A A0 H.size)) mc ms (va_A A0 H.size))
    (S0 : CallFix p m c cc nL s args zW own) (cw : CallW R s args own C index y bytes maxL ret wsY rm mc ms n) (hrv : ∃ cellB : Cell, H[b]? = some cellB ∧ cellB.vm.isStatics = false ∧ s.vm.findClass C = some cellB.cls)
    (hP : va_P D classes (B0 ++ A0) H) (hD : va_D A (B0 ++ A0)) (hS : va_S A s.heap H locs) (hK : va_K D classes (zT cs) s) (hA : ∀ q : Nat, s.heap.size ≤ q → A q)
    (hlen : As.length = n) (hsize : ls.size = nL) (hW : (rest.map fun v => v.category).sum ≤ 8) (hdg : decode cc pc = .ok (.invokevirtual index, 3)) (hf : cells + mc ≤ R.cells ∧ slots + ms ≤ R.slots)
    (kk : ∀ (H1 : Heap) (locs1 : List Loc), va_P D classes (B0 ++ A1) H1 → va_D A (B0 ++ A1) → va_S A s.heap H1 locs1 → W p l e R s m args below meth c H1 locs1 (cells + mc) (slots + ms) Q (F0 m (pc + 3) ls (.int r0 :: rest))) :
    W p l e R s m args below meth c H locs cells slots Q (F0 m pc ls (As.reverse ++ .ref b :: rest)) := by
  have hPc : va_P D classes A0 H := zP_r hP
  have hDc : va_D A A0 := zD_r hD
  have hFc : ∀ q, va_A A0 H.size q → A q := fun q h => by
    rcases h with ⟨i, e2, h⟩ | h
    · exact hDc.2 i (q, e2) h
    · exact hA q (Nat.le_trans hS.1 h)
  refine va_calli (va_runV (As := As) (rest := rest) S0 hM cw ⟨zPreE_blind, hrv, fun U hU hW => ⟨rfl, ⟨⟨by rw [hU], by rw [hU]; exact hPc, va_K.moved hW.alike hK, hDc.weaken (fun _ _ _ _ => trivial)⟩, zO.warm hW hO⟩, hE.go hW hU hS hFc⟩⟩ rfl hlen hsize rfl (lv_room hW) hdg hf) hS (fun q _ h => hFc q h) hFc (fun r u t H1 locs1 ht hvm hw hB hz1 hk1 hS1 => ?_)
  have hB : va_P D classes A1 t.heap ∧ va_D (va_A A0 H.size) A1 := hB
  rw [ht] at hB
  have hw : r = r0 := hw
  subst hw
  have hj := va_joinP (X := B0) (cx := []) (wr := B0) (rx := []) (pl := A0) (pl1 := A1) hP hD [] (List.range B0.length) rfl (zk_rgs B0) (zk_ndr _) (fun _ _ h => absurd h List.not_mem_nil) hk1 hFc hB.1 hB.2
  rw [List.append_nil] at hj
  obtain ⟨hP2, hD2⟩ := hj
  exact kk H1 locs1 hP2 hD2 hS1
theorem zk_LMi {r0 : Int32} (hE : zE k A s) (hO : zO s) (hM : Met l y wsY rm (va_Pc (.ref b :: As) (zPreE k D cs B0 H.size)) (va_Qi (fun (r : Int32) (_ : Unit) => r = r0) (fun (_ : Unit) (t : State) => va_P D classes B1 t.heap ∧ va_D (va_A B0 H.size) B1) (va_A B0 H.size)) mc ms (va_A B0 H.size))
    (S0 : CallFix p m c cc nL s args zW own) (cw : CallW R s args own C index y bytes maxL ret wsY rm mc ms n) (hrv : ∃ cellB : Cell, H[b]? = some cellB ∧ cellB.vm.isStatics = false ∧ s.vm.findClass C = some cellB.cls)
    (hP : va_P D classes (B0 ++ A0) H) (hD : va_D A (B0 ++ A0)) (hS : va_S A s.heap H locs) (hK : va_K D classes (zT cs) s) (hA : ∀ q : Nat, s.heap.size ≤ q → A q)
    (hlen : As.length = n) (hsize : ls.size = nL) (hW : (rest.map fun v => v.category).sum ≤ 8) (hdg : decode cc pc = .ok (.invokevirtual index, 3)) (hf : cells + mc ≤ R.cells ∧ slots + ms ≤ R.slots)
    (kk : ∀ (H1 : Heap) (locs1 : List Loc), va_P D classes (B1 ++ A0) H1 → va_D A (B1 ++ A0) → va_S A s.heap H1 locs1 → W p l e R s m args below meth c H1 locs1 (cells + mc) (slots + ms) Q (F0 m (pc + 3) ls (.int r0 :: rest))) :
    W p l e R s m args below meth c H locs cells slots Q (F0 m pc ls (As.reverse ++ .ref b :: rest)) := by
  have hPc : va_P D classes B0 H := zP_l hP
  have hDc : va_D A B0 := zD_l hD
  have hFc : ∀ q, va_A B0 H.size q → A q := fun q h => by
    rcases h with ⟨i, e2, h⟩ | h
    · exact hDc.2 i (q, e2) h
    · exact hA q (Nat.le_trans hS.1 h)
  refine va_calli (va_runV (As := As) (rest := rest) S0 hM cw ⟨zPreE_blind, hrv, fun U hU hW => ⟨rfl, ⟨⟨by rw [hU], by rw [hU]; exact hPc, va_K.moved hW.alike hK, hDc.weaken (fun _ _ _ _ => trivial)⟩, zO.warm hW hO⟩, hE.go hW hU hS hFc⟩⟩ rfl hlen hsize rfl (lv_room hW) hdg hf) hS (fun q _ h => hFc q h) hFc (fun r u t H1 locs1 ht hvm hw hB hz1 hk1 hS1 => ?_)
  have hB : va_P D classes B1 t.heap ∧ va_D (va_A B0 H.size) B1 := hB
  rw [ht] at hB
  have hw : r = r0 := hw
  subst hw
  obtain ⟨hP2, hD2⟩ := va_joinQ (X := B0) (cx := B0) (wr := []) (w1 := B1) (pl := A0) hP hD (List.range B0.length) [] (zk_rgs B0) rfl rfl (fun _ h => absurd h List.not_mem_nil) hk1 hFc hB.1 hB.2
  exact kk H1 locs1 hP2 hD2 hS1
theorem zk_LXl {r0 : Int64} (hE : zE k A s) (hO : zO s) (hM : Met l y wsY rm (va_Pc (.ref b :: As) (zPreE k D cs A0 H.size)) (va_Ql (fun (r : Int64) (_ : Unit) => r = r0) (fun (_ : Unit) (t : State) => va_P D classes A1 t.heap ∧ va_D (va_A A0 H.size) A1) (va_A A0 H.size)) mc ms (va_A A0 H.size))
    (S0 : CallFix p m c cc nL s args zW own) (cw : CallW R s args own C index y bytes maxL ret wsY rm mc ms n) (hrv : ∃ cellB : Cell, H[b]? = some cellB ∧ cellB.vm.isStatics = false ∧ s.vm.findClass C = some cellB.cls)
    (hP : va_P D classes (B0 ++ A0) H) (hD : va_D A (B0 ++ A0)) (hS : va_S A s.heap H locs) (hK : va_K D classes (zT cs) s) (hA : ∀ q : Nat, s.heap.size ≤ q → A q)
    (hlen : As.length = n) (hsize : ls.size = nL) (hW : (rest.map fun v => v.category).sum ≤ 8) (hdg : decode cc pc = .ok (.invokevirtual index, 3)) (hf : cells + mc ≤ R.cells ∧ slots + ms ≤ R.slots)
    (kk : ∀ (H1 : Heap) (locs1 : List Loc), va_P D classes (B0 ++ A1) H1 → va_D A (B0 ++ A1) → va_S A s.heap H1 locs1 → W p l e R s m args below meth c H1 locs1 (cells + mc) (slots + ms) Q (F0 m (pc + 3) ls (.long r0 :: rest))) :
    W p l e R s m args below meth c H locs cells slots Q (F0 m pc ls (As.reverse ++ .ref b :: rest)) := by
  have hPc : va_P D classes A0 H := zP_r hP
  have hDc : va_D A A0 := zD_r hD
  have hFc : ∀ q, va_A A0 H.size q → A q := fun q h => by
    rcases h with ⟨i, e2, h⟩ | h
    · exact hDc.2 i (q, e2) h
    · exact hA q (Nat.le_trans hS.1 h)
  refine va_calll (va_runV (As := As) (rest := rest) S0 hM cw ⟨zPreE_blind, hrv, fun U hU hW => ⟨rfl, ⟨⟨by rw [hU], by rw [hU]; exact hPc, va_K.moved hW.alike hK, hDc.weaken (fun _ _ _ _ => trivial)⟩, zO.warm hW hO⟩, hE.go hW hU hS hFc⟩⟩ rfl hlen hsize rfl (lv_room hW) hdg hf) hS (fun q _ h => hFc q h) hFc (fun r u t H1 locs1 ht hvm hw hB hz1 hk1 hS1 => ?_)
  have hB : va_P D classes A1 t.heap ∧ va_D (va_A A0 H.size) A1 := hB
  rw [ht] at hB
  have hw : r = r0 := hw
  subst hw
  have hj := va_joinP (X := B0) (cx := []) (wr := B0) (rx := []) (pl := A0) (pl1 := A1) hP hD [] (List.range B0.length) rfl (zk_rgs B0) (zk_ndr _) (fun _ _ h => absurd h List.not_mem_nil) hk1 hFc hB.1 hB.2
  rw [List.append_nil] at hj
  obtain ⟨hP2, hD2⟩ := hj
  exact kk H1 locs1 hP2 hD2 hS1
theorem zk_LMl {r0 : Int64} (hE : zE k A s) (hO : zO s) (hM : Met l y wsY rm (va_Pc (.ref b :: As) (zPreE k D cs B0 H.size)) (va_Ql (fun (r : Int64) (_ : Unit) => r = r0) (fun (_ : Unit) (t : State) => va_P D classes B1 t.heap ∧ va_D (va_A B0 H.size) B1) (va_A B0 H.size)) mc ms (va_A B0 H.size))
    (S0 : CallFix p m c cc nL s args zW own) (cw : CallW R s args own C index y bytes maxL ret wsY rm mc ms n) (hrv : ∃ cellB : Cell, H[b]? = some cellB ∧ cellB.vm.isStatics = false ∧ s.vm.findClass C = some cellB.cls)
    (hP : va_P D classes (B0 ++ A0) H) (hD : va_D A (B0 ++ A0)) (hS : va_S A s.heap H locs) (hK : va_K D classes (zT cs) s) (hA : ∀ q : Nat, s.heap.size ≤ q → A q)
    (hlen : As.length = n) (hsize : ls.size = nL) (hW : (rest.map fun v => v.category).sum ≤ 8) (hdg : decode cc pc = .ok (.invokevirtual index, 3)) (hf : cells + mc ≤ R.cells ∧ slots + ms ≤ R.slots)
    (kk : ∀ (H1 : Heap) (locs1 : List Loc), va_P D classes (B1 ++ A0) H1 → va_D A (B1 ++ A0) → va_S A s.heap H1 locs1 → W p l e R s m args below meth c H1 locs1 (cells + mc) (slots + ms) Q (F0 m (pc + 3) ls (.long r0 :: rest))) :
    W p l e R s m args below meth c H locs cells slots Q (F0 m pc ls (As.reverse ++ .ref b :: rest)) := by
  have hPc : va_P D classes B0 H := zP_l hP
  have hDc : va_D A B0 := zD_l hD
  have hFc : ∀ q, va_A B0 H.size q → A q := fun q h => by
    rcases h with ⟨i, e2, h⟩ | h
    · exact hDc.2 i (q, e2) h
    · exact hA q (Nat.le_trans hS.1 h)
  refine va_calll (va_runV (As := As) (rest := rest) S0 hM cw ⟨zPreE_blind, hrv, fun U hU hW => ⟨rfl, ⟨⟨by rw [hU], by rw [hU]; exact hPc, va_K.moved hW.alike hK, hDc.weaken (fun _ _ _ _ => trivial)⟩, zO.warm hW hO⟩, hE.go hW hU hS hFc⟩⟩ rfl hlen hsize rfl (lv_room hW) hdg hf) hS (fun q _ h => hFc q h) hFc (fun r u t H1 locs1 ht hvm hw hB hz1 hk1 hS1 => ?_)
  have hB : va_P D classes B1 t.heap ∧ va_D (va_A B0 H.size) B1 := hB
  rw [ht] at hB
  have hw : r = r0 := hw
  subst hw
  obtain ⟨hP2, hD2⟩ := va_joinQ (X := B0) (cx := B0) (wr := []) (w1 := B1) (pl := A0) hP hD (List.range B0.length) [] (zk_rgs B0) rfl rfl (fun _ h => absurd h List.not_mem_nil) hk1 hFc hB.1 hB.2
  exact kk H1 locs1 hP2 hD2 hS1
theorem zk_LXS {S : Type} {post : Int32 → S → Prop} {A2 : S → va_W} (hE : zE k A s) (hO : zO s) (hM : Met l y wsY rm (va_Pc (.ref b :: As) (zPreE k D cs A0 H.size)) (va_Qi post (fun (u : S) (t : State) => va_P D classes (A2 u) t.heap ∧ va_D (va_A A0 H.size) (A2 u)) (va_A A0 H.size)) mc ms (va_A A0 H.size))
    (S0 : CallFix p m c cc nL s args zW own) (cw : CallW R s args own C index y bytes maxL ret wsY rm mc ms n) (hrv : ∃ cellB : Cell, H[b]? = some cellB ∧ cellB.vm.isStatics = false ∧ s.vm.findClass C = some cellB.cls)
    (hP : va_P D classes (B0 ++ A0) H) (hD : va_D A (B0 ++ A0)) (hS : va_S A s.heap H locs) (hK : va_K D classes (zT cs) s) (hA : ∀ q : Nat, s.heap.size ≤ q → A q)
    (hlen : As.length = n) (hsize : ls.size = nL) (hW : (rest.map fun v => v.category).sum ≤ 8) (hdg : decode cc pc = .ok (.invokevirtual index, 3)) (hf : cells + mc ≤ R.cells ∧ slots + ms ≤ R.slots)
    (kk : ∀ (r : Int32) (u : S) (H1 : Heap) (locs1 : List Loc), post r u → va_P D classes (B0 ++ A2 u) H1 → va_D A (B0 ++ A2 u) → va_S A s.heap H1 locs1 → W p l e R s m args below meth c H1 locs1 (cells + mc) (slots + ms) Q (F0 m (pc + 3) ls (.int r :: rest))) :
    W p l e R s m args below meth c H locs cells slots Q (F0 m pc ls (As.reverse ++ .ref b :: rest)) := by
  have hPc : va_P D classes A0 H := zP_r hP
  have hDc : va_D A A0 := zD_r hD
  have hFc : ∀ q, va_A A0 H.size q → A q := fun q h => by
    rcases h with ⟨i, e2, h⟩ | h
    · exact hDc.2 i (q, e2) h
    · exact hA q (Nat.le_trans hS.1 h)
  refine va_calli (va_runV (As := As) (rest := rest) S0 hM cw ⟨zPreE_blind, hrv, fun U hU hW => ⟨rfl, ⟨⟨by rw [hU], by rw [hU]; exact hPc, va_K.moved hW.alike hK, hDc.weaken (fun _ _ _ _ => trivial)⟩, zO.warm hW hO⟩, hE.go hW hU hS hFc⟩⟩ rfl hlen hsize rfl (lv_room hW) hdg hf) hS (fun q _ h => hFc q h) hFc (fun r u t H1 locs1 ht hvm hw hB hz1 hk1 hS1 => ?_)
  have hB : va_P D classes (A2 u) t.heap ∧ va_D (va_A A0 H.size) (A2 u) := hB
  rw [ht] at hB
  have hj := va_joinP (X := B0) (cx := []) (wr := B0) (rx := []) (pl := A0) (pl1 := A2 u) hP hD [] (List.range B0.length) rfl (zk_rgs B0) (zk_ndr _) (fun _ _ h => absurd h List.not_mem_nil) hk1 hFc hB.1 hB.2
  rw [List.append_nil] at hj
  obtain ⟨hP2, hD2⟩ := hj
  exact kk r u H1 locs1 hw hP2 hD2 hS1
end ZLR

abbrev ZT : Type := (Nat → Int32) × (Nat → Nat → Int32) × (Nat → Nat → Int64) × (Nat → Nat → Option Nat) × (Nat → Nat → Nat) × (Nat → Nat → Nat → Int32) × Option (Nat × Nat) × va_W
abbrev MT : Type := (Nat → Int32) × (Nat → Nat → Int32) × (Nat → Nat → Int64)
def zspV (sp : Option (Nat × Nat)) : Value := match sp with | none => .null | some q => .ref q.1
abbrev zCl (ad : Nat → Nat) (cs : Nat → ClassId) (z : ZT) : va_W := [((ad 0), .inr (11, [.ref (ad 4), .ref (ad 15), .ref (ad 23), .ref (ad 25), .ref (ad 26), .ref (ad 28), .ref (ad 34), .ref (ad 39), .ref (ad 1), .ref (ad 2), .ref (ad 3)])), ((ad 1), .inl (cs 7, 6, .inr (.inr (.inr (.inr (z.2.2.2.1 2)))))), ((ad 2), .inl (cs 0, 256, .inl (z.2.1 0))), ((ad 3), .inl (cs 0, 8, .inl (z.2.1 1))), ((ad 4), .inr (2, [.ref (ad 5), .ref (ad 6), .ref (ad 7), .ref (ad 8), .ref (ad 9), .ref (ad 10), .ref (ad 11), .ref (ad 12), .ref (ad 13), .ref (ad 14), .int (z.1 0), .int (z.1 1), .int (z.1 2)])), ((ad 5), .inl (cs 0, 40, .inl (z.2.1 2))), ((ad 6), .inl (cs 0, 40, .inl (z.2.1 3))), ((ad 7), .inl (cs 0, 40, .inl (z.2.1 4))), ((ad 8), .inl (cs 0, 40, .inl (z.2.1 5))), ((ad 9), .inl (cs 0, 32, .inl (z.2.1 6))), ((ad 10), .inl (cs 0, 32, .inl (z.2.1 7))), ((ad 11), .inl (cs 0, 32, .inl (z.2.1 8))), ((ad 12), .inl (cs 0, 32, .inl (z.2.1 9))), ((ad 13), .inl (cs 5, 40, .inr (.inr (.inr (.inr (z.2.2.2.1 0)))))), ((ad 14), .inl (cs 6, 32, .inr (.inr (.inr (.inr (z.2.2.2.1 1)))))), ((ad 15), .inr (3, [.ref (ad 4), .ref (ad 16), .ref (ad 17), .ref (ad 18), .ref (ad 19), .ref (ad 20), .ref (ad 21), .ref (ad 22), .int (z.1 3), .int (z.1 4), .int (z.1 5)])), ((ad 16), .inl (cs 0, 11, .inl (z.2.1 10))), ((ad 17), .inl (cs 0, 36, .inl (z.2.1 11))), ((ad 18), .inl (cs 1, 7, .inr (.inl (z.2.2.1 0)))), ((ad 19), .inl (cs 1, 7, .inr (.inl (z.2.2.1 1)))), ((ad 20), .inl (cs 0, 20, .inl (z.2.1 12))), ((ad 21), .inl (cs 0, 20, .inl (z.2.1 13))), ((ad 22), .inl (cs 0, 20, .inl (z.2.1 14))), ((ad 23), .inr (9, [.ref (ad 24), .int (z.1 6)])), ((ad 24), .inl (cs 0, 120, .inl (z.2.1 15))), ((ad 25), .inr (8, [.ref (ad 23), (zspV z.2.2.2.2.2.2.1), .int (z.1 7), .int (z.1 8), .int (z.1 9)])), ((ad 26), .inr (5, [.ref (ad 23), .ref (ad 27), .int (z.1 10), .int (z.1 11), .int (z.1 12)])), ((ad 27), .inl (cs 0, 121, .inl (z.2.1 16))), ((ad 28), .inr (10, [.ref (ad 29), .ref (ad 30), .int (z.1 13), .ref (ad 31), .ref (ad 32), .ref (ad 33), .ref (ad 85), .int (z.1 14), .int (z.1 15)])), ((ad 29), .inl (cs 0, 5, .inl (z.2.1 17))), ((ad 30), .inl (cs 0, 5, .inl (z.2.1 18))), ((ad 31), .inl (cs 0, 5, .inl (z.2.1 19))), ((ad 32), .inl (cs 0, 125, .inl (z.2.1 20))), ((ad 33), .inl (cs 0, 5, .inl (z.2.1 21))), ((ad 85), .inr (7, [.int (z.1 16), .int (z.1 17), .int (z.1 18), .int (z.1 19), .int (z.1 20), .int (z.1 21), .int (z.1 22), .ref (ad 86), .int (z.1 23), .int (z.1 24), .int (z.1 25), .int (z.1 26), .int (z.1 27), .int (z.1 28), .int (z.1 29)])), ((ad 86), .inl (cs 0, 32, .inl (z.2.1 22))), ((ad 34), .inr (1, [.ref (ad 4), .ref (ad 35), .ref (ad 36), .ref (ad 37), .ref (ad 38), .int (z.1 30), .int (z.1 31)])), ((ad 35), .inl (cs 0, 40, .inl (z.2.1 23))), ((ad 36), .inl (cs 0, 40, .inl (z.2.1 24))), ((ad 37), .inl (cs 0, 40, .inl (z.2.1 25))), ((ad 38), .inl (cs 0, 40, .inl (z.2.1 26))), ((ad 39), .inr (0, [.ref (ad 40), .int (z.1 32), .int (z.1 33), .int (z.1 34), .int (z.1 35)])), ((ad 40), .inl (cs 0, 24, .inl (z.2.1 27))), ((ad 87), .inr (6, [.int (z.1 36), .int (z.1 37), .int (z.1 38), .ref (ad 88)])), ((ad 88), .inl (cs 1, 60, .inr (.inl (z.2.2.1 2)))), ((ad 89), .inr (6, [.int (z.1 39), .int (z.1 40), .int (z.1 41), .ref (ad 90)])), ((ad 90), .inl (cs 1, 60, .inr (.inl (z.2.2.1 3)))), ((ad 91), .inr (6, [.int (z.1 42), .int (z.1 43), .int (z.1 44), .ref (ad 92)])), ((ad 92), .inl (cs 1, 60, .inr (.inl (z.2.2.1 4)))), ((ad 93), .inr (6, [.int (z.1 45), .int (z.1 46), .int (z.1 47), .ref (ad 94)])), ((ad 94), .inl (cs 1, 60, .inr (.inl (z.2.2.1 5)))), ((ad 95), .inr (6, [.int (z.1 48), .int (z.1 49), .int (z.1 50), .ref (ad 96)])), ((ad 96), .inl (cs 1, 60, .inr (.inl (z.2.2.1 6)))), ((ad 97), .inr (6, [.int (z.1 51), .int (z.1 52), .int (z.1 53), .ref (ad 98)])), ((ad 98), .inl (cs 1, 60, .inr (.inl (z.2.2.1 7))))]
def zSp (cs : Nat → ClassId) (z : ZT) : va_W := match z.2.2.2.2.2.2.1 with | none => [] | some q => [(q.1, .inr (7, [.int (z.1 54), .int (z.1 55), .int (z.1 56), .int (z.1 57), .int (z.1 58), .int (z.1 59), .int (z.1 60), .ref q.2, .int (z.1 61), .int (z.1 62), .int (z.1 63), .int (z.1 64), .int (z.1 65), .int (z.1 66), .int (z.1 67)])), (q.2, .inl (cs 0, 32, .inl (z.2.1 42)))]
abbrev zSZ (cs : Nat → ClassId) (z : ZT) : va_W := zSu cs (z.2.2.2.2.1 0) (z.2.2.2.2.1 1) (z.1 2).toInt.toNat (z.2.1 28) (z.2.1 29) (z.2.1 30) (z.2.1 31) (z.2.1 32) (z.2.1 33) (z.2.1 34) (z.2.2.2.2.2.1 0) (z.2.1 35) (z.2.1 36) (z.2.1 37) (z.2.1 38) (z.2.1 39) (z.2.1 40) (z.2.1 41)
abbrev zPo (cs : Nat → ClassId) (z : ZT) : va_W := zSZ cs z ++ (zSp cs z ++ z.2.2.2.2.2.2.2)
abbrev WX (ad : Nat → Nat) (cs : Nat → ClassId) (z : ZT) : va_W := zCl ad cs z ++ zPo cs z
abbrev WM (am : Nat → Nat) (cs : Nat → ClassId) (w : MT) : va_W := [((am 41), .inr (12, [.int (w.1 0), .int (w.1 1), .ref (am 42), .ref (am 43), .ref (am 44), .ref (am 45), .int (w.1 2), .ref (am 46), .ref (am 47), .ref (am 48), .ref (am 49), .ref (am 50), .int (w.1 3), .int (w.1 4), .int (w.1 5), .int (w.1 6), .ref (am 51), .ref (am 52), .ref (am 53), .ref (am 54), .ref (am 55), .ref (am 56), .ref (am 57), .ref (am 58), .ref (am 59), .ref (am 60), .ref (am 61), .int (w.1 7), .int (w.1 8), .ref (am 62), .ref (am 63), .ref (am 64), .ref (am 65), .int (w.1 9), .int (w.1 10), .ref (am 66), .ref (am 67), .ref (am 68), .ref (am 69), .ref (am 70), .ref (am 71), .ref (am 72), .ref (am 73), .ref (am 74), .ref (am 75), .int (w.1 11), .int (w.1 12), .ref (am 76), .ref (am 77), .int (w.1 13), .int (w.1 14), .ref (am 78), .ref (am 79), .int (w.1 15), .int (w.1 16), .ref (am 80), .ref (am 81), .ref (am 82), .ref (am 83), .ref (am 84)])), ((am 42), .inl (cs 0, 40, .inl (w.2.1 0))), ((am 43), .inl (cs 0, 40, .inl (w.2.1 1))), ((am 44), .inl (cs 0, 40, .inl (w.2.1 2))), ((am 45), .inl (cs 0, 40, .inl (w.2.1 3))), ((am 46), .inl (cs 0, 32, .inl (w.2.1 4))), ((am 47), .inl (cs 0, 32, .inl (w.2.1 5))), ((am 48), .inl (cs 0, 32, .inl (w.2.1 6))), ((am 49), .inl (cs 0, 32, .inl (w.2.1 7))), ((am 50), .inl (cs 2, 120, .inl (w.2.1 8))), ((am 51), .inl (cs 0, 45, .inl (w.2.1 9))), ((am 52), .inl (cs 0, 45, .inl (w.2.1 10))), ((am 53), .inl (cs 0, 45, .inl (w.2.1 11))), ((am 54), .inl (cs 0, 45, .inl (w.2.1 12))), ((am 55), .inl (cs 0, 45, .inl (w.2.1 13))), ((am 56), .inl (cs 0, 45, .inl (w.2.1 14))), ((am 57), .inl (cs 0, 45, .inl (w.2.1 15))), ((am 58), .inl (cs 0, 45, .inl (w.2.1 16))), ((am 59), .inl (cs 0, 45, .inl (w.2.1 17))), ((am 60), .inl (cs 2, 1440, .inl (w.2.1 18))), ((am 61), .inl (cs 2, 1440, .inl (w.2.1 19))), ((am 62), .inl (cs 0, 40, .inl (w.2.1 20))), ((am 63), .inl (cs 0, 40, .inl (w.2.1 21))), ((am 64), .inl (cs 0, 40, .inl (w.2.1 22))), ((am 65), .inl (cs 0, 40, .inl (w.2.1 23))), ((am 66), .inl (cs 2, 4290, .inl (w.2.1 24))), ((am 67), .inl (cs 0, 4290, .inl (w.2.1 25))), ((am 68), .inl (cs 0, 33, .inl (w.2.1 26))), ((am 69), .inl (cs 3, 2013, .inl (w.2.1 27))), ((am 70), .inl (cs 3, 2013, .inl (w.2.1 28))), ((am 71), .inl (cs 0, 11, .inl (w.2.1 29))), ((am 72), .inl (cs 0, 130, .inl (w.2.1 30))), ((am 73), .inl (cs 4, 240, .inl (w.2.1 31))), ((am 74), .inl (cs 0, 20, .inl (w.2.1 32))), ((am 75), .inl (cs 0, 7, .inl (w.2.1 33))), ((am 76), .inl (cs 0, 5, .inl (w.2.1 34))), ((am 77), .inl (cs 0, 5, .inl (w.2.1 35))), ((am 78), .inl (cs 0, 5376, .inl (w.2.1 36))), ((am 79), .inl (cs 0, 20, .inl (w.2.1 37))), ((am 80), .inl (cs 0, 24, .inl (w.2.1 38))), ((am 81), .inl (cs 0, 6, .inl (w.2.1 39))), ((am 82), .inl (cs 0, 6, .inl (w.2.1 40))), ((am 83), .inl (cs 1, 360, .inr (.inl (w.2.2 0)))), ((am 84), .inl (cs 1, 60, .inr (.inl (w.2.2 1))))]
def IX (ad : Nat → Nat) (cs : Nat → ClassId) (z : ZT) : Prop := (0 ≤ (z.1 0).toInt ∧ (z.1 0).toInt ≤ 40) ∧ (0 ≤ (z.1 1).toInt ∧ (z.1 1).toInt ≤ 32) ∧ (0 ≤ (z.1 2).toInt ∧ (z.1 2).toInt ≤ 40) ∧ (0 ≤ (z.1 6).toInt ∧ (z.1 6).toInt ≤ 120) ∧ (0 ≤ (z.1 4).toInt ∧ (z.1 4).toInt ≤ 7) ∧ (0 ≤ (z.1 13).toInt ∧ (z.1 13).toInt ≤ 5) ∧ (0 ≤ (z.1 30).toInt ∧ (z.1 30).toInt ≤ 40) ∧ (0 ≤ (z.1 31).toInt ∧ (z.1 31).toInt ≤ 40) ∧ (0 ≤ (z.1 7).toInt ∧ (z.1 7).toInt ≤ 120) ∧ (-1 ≤ (z.1 9).toInt ∧ (z.1 9).toInt ≤ 120) ∧ (0 ≤ (z.1 8).toInt ∧ (z.1 8).toInt ≤ 120) ∧ (0 ≤ (z.1 38).toInt ∧ (z.1 38).toInt ≤ 60) ∧ (0 ≤ (z.1 41).toInt ∧ (z.1 41).toInt ≤ 60) ∧ (0 ≤ (z.1 44).toInt ∧ (z.1 44).toInt ≤ 60) ∧ (0 ≤ (z.1 47).toInt ∧ (z.1 47).toInt ≤ 60) ∧ (0 ≤ (z.1 50).toInt ∧ (z.1 50).toInt ≤ 60) ∧ (0 ≤ (z.1 53).toInt ∧ (z.1 53).toInt ≤ 60) ∧ (0 ≤ (z.1 16).toInt ∧ (z.1 16).toInt ≤ 19) ∧ (0 ≤ (z.1 17).toInt ∧ (z.1 17).toInt ≤ 19) ∧ (0 ≤ (z.1 21).toInt ∧ (z.1 21).toInt ≤ 7) ∧ (0 ≤ (z.1 18).toInt ∧ (z.1 18).toInt ≤ 6) ∧ (0 ≤ (z.1 23).toInt ∧ (z.1 23).toInt ≤ 32) ∧ (0 ≤ (z.1 33).toInt ∧ (z.1 33).toInt ≤ 6) ∧ (0 ≤ (z.1 11).toInt ∧ (z.1 11).toInt ≤ 120) ∧ (0 ≤ (z.1 10).toInt ∧ (z.1 10).toInt ≤ 121) ∧ (-1 ≤ (z.1 12).toInt ∧ (z.1 12).toInt ≤ 120) ∧ (0 ≤ (z.1 32).toInt ∧ (z.1 32).toInt ≤ 2000) ∧ (0 ≤ (z.1 56).toInt ∧ (z.1 56).toInt ≤ 6) ∧ (0 ≤ (z.1 61).toInt ∧ (z.1 61).toInt ≤ 32) ∧ (-1 ≤ (z.1 60).toInt ∧ (z.1 60).toInt ≤ -1) ∧ (AR (0) (19) (z.2.1 2)) ∧ (AR (0) (19) (z.2.1 3)) ∧ (AR (0) (19) (z.2.1 6)) ∧ (AR (0) (19) (z.2.1 7)) ∧ (AR (0) (19) (z.2.1 28)) ∧ (AR (0) (19) (z.2.1 29)) ∧ (AR (0) (7) (z.2.1 33)) ∧ (AR (0) (6) (z.2.1 30)) ∧ (AR (0) (32) (z.2.1 35)) ∧ (A2 (0) (31) (z.2.2.2.2.2.1 0)) ∧ (AR (0) (31) (z.2.1 22)) ∧ (AR (0) (31) (z.2.1 17)) ∧ (AR (0) (255) (z.2.1 15)) ∧ (A2 (0) (524287) (z.2.2.2.2.2.1 1)) ∧ (AR (0) (524287) (z.2.1 16)) ∧ (AR (0) (31) (z.2.1 42)) ∧ (LB (z.2.2.2.2.1 4)) ∧ (∀ i, i < (z.1 2).toInt.toNat → (z.2.2.2.1 0) i = some ((z.2.2.2.2.1 0) i)) ∧ (PLa cs z.2.2.2.2.2.2.2 (z.2.2.2.1 1) (z.2.2.2.2.1 2) (z.2.2.2.2.1 3) (z.2.2.2.2.1 4) (z.2.2.2.2.2.1 1)) ∧ (∀ j, j < 6 → (z.2.2.2.1 2) j = some (ad (87 + 2 * j)))
theorem ix_0 {ad : Nat → Nat} {cs : Nat → ClassId} {z : ZT} (h : IX ad cs z) : 0 ≤ (z.1 0).toInt ∧ (z.1 0).toInt ≤ 40 := h.1
theorem ix_1 {ad : Nat → Nat} {cs : Nat → ClassId} {z : ZT} (h : IX ad cs z) : 0 ≤ (z.1 1).toInt ∧ (z.1 1).toInt ≤ 32 := h.2.1
theorem ix_2 {ad : Nat → Nat} {cs : Nat → ClassId} {z : ZT} (h : IX ad cs z) : 0 ≤ (z.1 2).toInt ∧ (z.1 2).toInt ≤ 40 := h.2.2.1
theorem ix_3 {ad : Nat → Nat} {cs : Nat → ClassId} {z : ZT} (h : IX ad cs z) : 0 ≤ (z.1 6).toInt ∧ (z.1 6).toInt ≤ 120 := h.2.2.2.1
theorem ix_4 {ad : Nat → Nat} {cs : Nat → ClassId} {z : ZT} (h : IX ad cs z) : 0 ≤ (z.1 4).toInt ∧ (z.1 4).toInt ≤ 7 := h.2.2.2.2.1
theorem ix_5 {ad : Nat → Nat} {cs : Nat → ClassId} {z : ZT} (h : IX ad cs z) : 0 ≤ (z.1 13).toInt ∧ (z.1 13).toInt ≤ 5 := h.2.2.2.2.2.1
theorem ix_6 {ad : Nat → Nat} {cs : Nat → ClassId} {z : ZT} (h : IX ad cs z) : 0 ≤ (z.1 30).toInt ∧ (z.1 30).toInt ≤ 40 := h.2.2.2.2.2.2.1
theorem ix_7 {ad : Nat → Nat} {cs : Nat → ClassId} {z : ZT} (h : IX ad cs z) : 0 ≤ (z.1 31).toInt ∧ (z.1 31).toInt ≤ 40 := h.2.2.2.2.2.2.2.1
theorem ix_8 {ad : Nat → Nat} {cs : Nat → ClassId} {z : ZT} (h : IX ad cs z) : 0 ≤ (z.1 7).toInt ∧ (z.1 7).toInt ≤ 120 := h.2.2.2.2.2.2.2.2.1
theorem ix_9 {ad : Nat → Nat} {cs : Nat → ClassId} {z : ZT} (h : IX ad cs z) : -1 ≤ (z.1 9).toInt ∧ (z.1 9).toInt ≤ 120 := h.2.2.2.2.2.2.2.2.2.1
theorem ix_10 {ad : Nat → Nat} {cs : Nat → ClassId} {z : ZT} (h : IX ad cs z) : 0 ≤ (z.1 8).toInt ∧ (z.1 8).toInt ≤ 120 := h.2.2.2.2.2.2.2.2.2.2.1
theorem ix_11 {ad : Nat → Nat} {cs : Nat → ClassId} {z : ZT} (h : IX ad cs z) : 0 ≤ (z.1 38).toInt ∧ (z.1 38).toInt ≤ 60 := h.2.2.2.2.2.2.2.2.2.2.2.1
theorem ix_12 {ad : Nat → Nat} {cs : Nat → ClassId} {z : ZT} (h : IX ad cs z) : 0 ≤ (z.1 41).toInt ∧ (z.1 41).toInt ≤ 60 := h.2.2.2.2.2.2.2.2.2.2.2.2.1
theorem ix_13 {ad : Nat → Nat} {cs : Nat → ClassId} {z : ZT} (h : IX ad cs z) : 0 ≤ (z.1 44).toInt ∧ (z.1 44).toInt ≤ 60 := h.2.2.2.2.2.2.2.2.2.2.2.2.2.1
theorem ix_14 {ad : Nat → Nat} {cs : Nat → ClassId} {z : ZT} (h : IX ad cs z) : 0 ≤ (z.1 47).toInt ∧ (z.1 47).toInt ≤ 60 := h.2.2.2.2.2.2.2.2.2.2.2.2.2.2.1
theorem ix_15 {ad : Nat → Nat} {cs : Nat → ClassId} {z : ZT} (h : IX ad cs z) : 0 ≤ (z.1 50).toInt ∧ (z.1 50).toInt ≤ 60 := h.2.2.2.2.2.2.2.2.2.2.2.2.2.2.2.1
theorem ix_16 {ad : Nat → Nat} {cs : Nat → ClassId} {z : ZT} (h : IX ad cs z) : 0 ≤ (z.1 53).toInt ∧ (z.1 53).toInt ≤ 60 := h.2.2.2.2.2.2.2.2.2.2.2.2.2.2.2.2.1
theorem ix_17 {ad : Nat → Nat} {cs : Nat → ClassId} {z : ZT} (h : IX ad cs z) : 0 ≤ (z.1 16).toInt ∧ (z.1 16).toInt ≤ 19 := h.2.2.2.2.2.2.2.2.2.2.2.2.2.2.2.2.2.1
theorem ix_18 {ad : Nat → Nat} {cs : Nat → ClassId} {z : ZT} (h : IX ad cs z) : 0 ≤ (z.1 17).toInt ∧ (z.1 17).toInt ≤ 19 := h.2.2.2.2.2.2.2.2.2.2.2.2.2.2.2.2.2.2.1
theorem ix_19 {ad : Nat → Nat} {cs : Nat → ClassId} {z : ZT} (h : IX ad cs z) : 0 ≤ (z.1 21).toInt ∧ (z.1 21).toInt ≤ 7 := h.2.2.2.2.2.2.2.2.2.2.2.2.2.2.2.2.2.2.2.1
theorem ix_20 {ad : Nat → Nat} {cs : Nat → ClassId} {z : ZT} (h : IX ad cs z) : 0 ≤ (z.1 18).toInt ∧ (z.1 18).toInt ≤ 6 := h.2.2.2.2.2.2.2.2.2.2.2.2.2.2.2.2.2.2.2.2.1
theorem ix_21 {ad : Nat → Nat} {cs : Nat → ClassId} {z : ZT} (h : IX ad cs z) : 0 ≤ (z.1 23).toInt ∧ (z.1 23).toInt ≤ 32 := h.2.2.2.2.2.2.2.2.2.2.2.2.2.2.2.2.2.2.2.2.2.1
theorem ix_22 {ad : Nat → Nat} {cs : Nat → ClassId} {z : ZT} (h : IX ad cs z) : 0 ≤ (z.1 33).toInt ∧ (z.1 33).toInt ≤ 6 := h.2.2.2.2.2.2.2.2.2.2.2.2.2.2.2.2.2.2.2.2.2.2.1
theorem ix_23 {ad : Nat → Nat} {cs : Nat → ClassId} {z : ZT} (h : IX ad cs z) : 0 ≤ (z.1 11).toInt ∧ (z.1 11).toInt ≤ 120 := h.2.2.2.2.2.2.2.2.2.2.2.2.2.2.2.2.2.2.2.2.2.2.2.1
theorem ix_24 {ad : Nat → Nat} {cs : Nat → ClassId} {z : ZT} (h : IX ad cs z) : 0 ≤ (z.1 10).toInt ∧ (z.1 10).toInt ≤ 121 := h.2.2.2.2.2.2.2.2.2.2.2.2.2.2.2.2.2.2.2.2.2.2.2.2.1
theorem ix_25 {ad : Nat → Nat} {cs : Nat → ClassId} {z : ZT} (h : IX ad cs z) : -1 ≤ (z.1 12).toInt ∧ (z.1 12).toInt ≤ 120 := h.2.2.2.2.2.2.2.2.2.2.2.2.2.2.2.2.2.2.2.2.2.2.2.2.2.1
theorem ix_26 {ad : Nat → Nat} {cs : Nat → ClassId} {z : ZT} (h : IX ad cs z) : 0 ≤ (z.1 32).toInt ∧ (z.1 32).toInt ≤ 2000 := h.2.2.2.2.2.2.2.2.2.2.2.2.2.2.2.2.2.2.2.2.2.2.2.2.2.2.1
theorem ix_27 {ad : Nat → Nat} {cs : Nat → ClassId} {z : ZT} (h : IX ad cs z) : 0 ≤ (z.1 56).toInt ∧ (z.1 56).toInt ≤ 6 := h.2.2.2.2.2.2.2.2.2.2.2.2.2.2.2.2.2.2.2.2.2.2.2.2.2.2.2.1
theorem ix_28 {ad : Nat → Nat} {cs : Nat → ClassId} {z : ZT} (h : IX ad cs z) : 0 ≤ (z.1 61).toInt ∧ (z.1 61).toInt ≤ 32 := h.2.2.2.2.2.2.2.2.2.2.2.2.2.2.2.2.2.2.2.2.2.2.2.2.2.2.2.2.1
theorem ix_29 {ad : Nat → Nat} {cs : Nat → ClassId} {z : ZT} (h : IX ad cs z) : -1 ≤ (z.1 60).toInt ∧ (z.1 60).toInt ≤ -1 := h.2.2.2.2.2.2.2.2.2.2.2.2.2.2.2.2.2.2.2.2.2.2.2.2.2.2.2.2.2.1
theorem ix_30 {ad : Nat → Nat} {cs : Nat → ClassId} {z : ZT} (h : IX ad cs z) : AR (0) (19) (z.2.1 2) := h.2.2.2.2.2.2.2.2.2.2.2.2.2.2.2.2.2.2.2.2.2.2.2.2.2.2.2.2.2.2.1
theorem ix_31 {ad : Nat → Nat} {cs : Nat → ClassId} {z : ZT} (h : IX ad cs z) : AR (0) (19) (z.2.1 3) := h.2.2.2.2.2.2.2.2.2.2.2.2.2.2.2.2.2.2.2.2.2.2.2.2.2.2.2.2.2.2.2.1
theorem ix_32 {ad : Nat → Nat} {cs : Nat → ClassId} {z : ZT} (h : IX ad cs z) : AR (0) (19) (z.2.1 6) := h.2.2.2.2.2.2.2.2.2.2.2.2.2.2.2.2.2.2.2.2.2.2.2.2.2.2.2.2.2.2.2.2.1
theorem ix_33 {ad : Nat → Nat} {cs : Nat → ClassId} {z : ZT} (h : IX ad cs z) : AR (0) (19) (z.2.1 7) := h.2.2.2.2.2.2.2.2.2.2.2.2.2.2.2.2.2.2.2.2.2.2.2.2.2.2.2.2.2.2.2.2.2.1
theorem ix_34 {ad : Nat → Nat} {cs : Nat → ClassId} {z : ZT} (h : IX ad cs z) : AR (0) (19) (z.2.1 28) := h.2.2.2.2.2.2.2.2.2.2.2.2.2.2.2.2.2.2.2.2.2.2.2.2.2.2.2.2.2.2.2.2.2.2.1
theorem ix_35 {ad : Nat → Nat} {cs : Nat → ClassId} {z : ZT} (h : IX ad cs z) : AR (0) (19) (z.2.1 29) := h.2.2.2.2.2.2.2.2.2.2.2.2.2.2.2.2.2.2.2.2.2.2.2.2.2.2.2.2.2.2.2.2.2.2.2.1
theorem ix_36 {ad : Nat → Nat} {cs : Nat → ClassId} {z : ZT} (h : IX ad cs z) : AR (0) (7) (z.2.1 33) := h.2.2.2.2.2.2.2.2.2.2.2.2.2.2.2.2.2.2.2.2.2.2.2.2.2.2.2.2.2.2.2.2.2.2.2.2.1
theorem ix_37 {ad : Nat → Nat} {cs : Nat → ClassId} {z : ZT} (h : IX ad cs z) : AR (0) (6) (z.2.1 30) := h.2.2.2.2.2.2.2.2.2.2.2.2.2.2.2.2.2.2.2.2.2.2.2.2.2.2.2.2.2.2.2.2.2.2.2.2.2.1
theorem ix_38 {ad : Nat → Nat} {cs : Nat → ClassId} {z : ZT} (h : IX ad cs z) : AR (0) (32) (z.2.1 35) := h.2.2.2.2.2.2.2.2.2.2.2.2.2.2.2.2.2.2.2.2.2.2.2.2.2.2.2.2.2.2.2.2.2.2.2.2.2.2.1
theorem ix_39 {ad : Nat → Nat} {cs : Nat → ClassId} {z : ZT} (h : IX ad cs z) : A2 (0) (31) (z.2.2.2.2.2.1 0) := h.2.2.2.2.2.2.2.2.2.2.2.2.2.2.2.2.2.2.2.2.2.2.2.2.2.2.2.2.2.2.2.2.2.2.2.2.2.2.2.1
theorem ix_40 {ad : Nat → Nat} {cs : Nat → ClassId} {z : ZT} (h : IX ad cs z) : AR (0) (31) (z.2.1 22) := h.2.2.2.2.2.2.2.2.2.2.2.2.2.2.2.2.2.2.2.2.2.2.2.2.2.2.2.2.2.2.2.2.2.2.2.2.2.2.2.2.1
theorem ix_41 {ad : Nat → Nat} {cs : Nat → ClassId} {z : ZT} (h : IX ad cs z) : AR (0) (31) (z.2.1 17) := h.2.2.2.2.2.2.2.2.2.2.2.2.2.2.2.2.2.2.2.2.2.2.2.2.2.2.2.2.2.2.2.2.2.2.2.2.2.2.2.2.2.1
theorem ix_42 {ad : Nat → Nat} {cs : Nat → ClassId} {z : ZT} (h : IX ad cs z) : AR (0) (255) (z.2.1 15) := h.2.2.2.2.2.2.2.2.2.2.2.2.2.2.2.2.2.2.2.2.2.2.2.2.2.2.2.2.2.2.2.2.2.2.2.2.2.2.2.2.2.2.1
theorem ix_43 {ad : Nat → Nat} {cs : Nat → ClassId} {z : ZT} (h : IX ad cs z) : A2 (0) (524287) (z.2.2.2.2.2.1 1) := h.2.2.2.2.2.2.2.2.2.2.2.2.2.2.2.2.2.2.2.2.2.2.2.2.2.2.2.2.2.2.2.2.2.2.2.2.2.2.2.2.2.2.2.1
theorem ix_44 {ad : Nat → Nat} {cs : Nat → ClassId} {z : ZT} (h : IX ad cs z) : AR (0) (524287) (z.2.1 16) := h.2.2.2.2.2.2.2.2.2.2.2.2.2.2.2.2.2.2.2.2.2.2.2.2.2.2.2.2.2.2.2.2.2.2.2.2.2.2.2.2.2.2.2.2.1
theorem ix_45 {ad : Nat → Nat} {cs : Nat → ClassId} {z : ZT} (h : IX ad cs z) : AR (0) (31) (z.2.1 42) := h.2.2.2.2.2.2.2.2.2.2.2.2.2.2.2.2.2.2.2.2.2.2.2.2.2.2.2.2.2.2.2.2.2.2.2.2.2.2.2.2.2.2.2.2.2.1
theorem ix_46 {ad : Nat → Nat} {cs : Nat → ClassId} {z : ZT} (h : IX ad cs z) : LB (z.2.2.2.2.1 4) := h.2.2.2.2.2.2.2.2.2.2.2.2.2.2.2.2.2.2.2.2.2.2.2.2.2.2.2.2.2.2.2.2.2.2.2.2.2.2.2.2.2.2.2.2.2.2.1
theorem ix_47 {ad : Nat → Nat} {cs : Nat → ClassId} {z : ZT} (h : IX ad cs z) : ∀ i, i < (z.1 2).toInt.toNat → (z.2.2.2.1 0) i = some ((z.2.2.2.2.1 0) i) := h.2.2.2.2.2.2.2.2.2.2.2.2.2.2.2.2.2.2.2.2.2.2.2.2.2.2.2.2.2.2.2.2.2.2.2.2.2.2.2.2.2.2.2.2.2.2.2.1
theorem ix_48 {ad : Nat → Nat} {cs : Nat → ClassId} {z : ZT} (h : IX ad cs z) : PLa cs z.2.2.2.2.2.2.2 (z.2.2.2.1 1) (z.2.2.2.2.1 2) (z.2.2.2.2.1 3) (z.2.2.2.2.1 4) (z.2.2.2.2.2.1 1) := h.2.2.2.2.2.2.2.2.2.2.2.2.2.2.2.2.2.2.2.2.2.2.2.2.2.2.2.2.2.2.2.2.2.2.2.2.2.2.2.2.2.2.2.2.2.2.2.2.1
theorem ix_49 {ad : Nat → Nat} {cs : Nat → ClassId} {z : ZT} (h : IX ad cs z) : ∀ j, j < 6 → (z.2.2.2.1 2) j = some (ad (87 + 2 * j)) := h.2.2.2.2.2.2.2.2.2.2.2.2.2.2.2.2.2.2.2.2.2.2.2.2.2.2.2.2.2.2.2.2.2.2.2.2.2.2.2.2.2.2.2.2.2.2.2.2.2
def IM (w : MT) : Prop := (0 ≤ (w.1 1).toInt ∧ (w.1 1).toInt ≤ 40) ∧ (0 ≤ (w.1 2).toInt ∧ (w.1 2).toInt ≤ 32) ∧ (0 ≤ (w.1 3).toInt ∧ (w.1 3).toInt ≤ 120) ∧ (0 ≤ (w.1 4).toInt ∧ (w.1 4).toInt ≤ 120) ∧ (-1 ≤ (w.1 5).toInt ∧ (w.1 5).toInt ≤ 120) ∧ (0 ≤ (w.1 6).toInt ∧ (w.1 6).toInt ≤ 40) ∧ (0 ≤ (w.1 7).toInt ∧ (w.1 7).toInt ≤ 40) ∧ (0 ≤ (w.1 8).toInt ∧ (w.1 8).toInt ≤ 40) ∧ (0 ≤ (w.1 9).toInt ∧ (w.1 9).toInt ≤ 6) ∧ (0 ≤ (w.1 10).toInt ∧ (w.1 10).toInt ≤ 130) ∧ (0 ≤ (w.1 12).toInt ∧ (w.1 12).toInt ≤ 5) ∧ (AR (0) (19) (w.2.1 4)) ∧ (AR (0) (19) (w.2.1 5)) ∧ (AR (0) (31) (w.2.1 18)) ∧ (AQ (w.2.1 16)) ∧ (AR (0) (31) (w.2.1 34)) ∧ (AR (-6) (39) (w.2.1 39)) ∧ (AR (0) (60) (w.2.1 40)) ∧ (AR (0) (39) (w.2.1 21)) ∧ (AR (0) (61) (w.2.1 26)) ∧ (AR (-128) (127) (w.2.1 8)) ∧ (SL (w.1 6) (w.2.1 14)) ∧ (LW (w.2.1 24) (w.2.1 25) (w.2.1 26) (w.2.1 27) (w.2.1 28)) ∧ ((w.1 7).toInt + (w.1 8).toInt ≤ 40)
theorem im_0 {w : MT} (h : IM w) : 0 ≤ (w.1 1).toInt ∧ (w.1 1).toInt ≤ 40 := h.1
theorem im_1 {w : MT} (h : IM w) : 0 ≤ (w.1 2).toInt ∧ (w.1 2).toInt ≤ 32 := h.2.1
theorem im_2 {w : MT} (h : IM w) : 0 ≤ (w.1 3).toInt ∧ (w.1 3).toInt ≤ 120 := h.2.2.1
theorem im_3 {w : MT} (h : IM w) : 0 ≤ (w.1 4).toInt ∧ (w.1 4).toInt ≤ 120 := h.2.2.2.1
theorem im_4 {w : MT} (h : IM w) : -1 ≤ (w.1 5).toInt ∧ (w.1 5).toInt ≤ 120 := h.2.2.2.2.1
theorem im_5 {w : MT} (h : IM w) : 0 ≤ (w.1 6).toInt ∧ (w.1 6).toInt ≤ 40 := h.2.2.2.2.2.1
theorem im_6 {w : MT} (h : IM w) : 0 ≤ (w.1 7).toInt ∧ (w.1 7).toInt ≤ 40 := h.2.2.2.2.2.2.1
theorem im_7 {w : MT} (h : IM w) : 0 ≤ (w.1 8).toInt ∧ (w.1 8).toInt ≤ 40 := h.2.2.2.2.2.2.2.1
theorem im_8 {w : MT} (h : IM w) : 0 ≤ (w.1 9).toInt ∧ (w.1 9).toInt ≤ 6 := h.2.2.2.2.2.2.2.2.1
theorem im_9 {w : MT} (h : IM w) : 0 ≤ (w.1 10).toInt ∧ (w.1 10).toInt ≤ 130 := h.2.2.2.2.2.2.2.2.2.1
theorem im_10 {w : MT} (h : IM w) : 0 ≤ (w.1 12).toInt ∧ (w.1 12).toInt ≤ 5 := h.2.2.2.2.2.2.2.2.2.2.1
theorem im_11 {w : MT} (h : IM w) : AR (0) (19) (w.2.1 4) := h.2.2.2.2.2.2.2.2.2.2.2.1
theorem im_12 {w : MT} (h : IM w) : AR (0) (19) (w.2.1 5) := h.2.2.2.2.2.2.2.2.2.2.2.2.1
theorem im_13 {w : MT} (h : IM w) : AR (0) (31) (w.2.1 18) := h.2.2.2.2.2.2.2.2.2.2.2.2.2.1
theorem im_14 {w : MT} (h : IM w) : AQ (w.2.1 16) := h.2.2.2.2.2.2.2.2.2.2.2.2.2.2.1
theorem im_15 {w : MT} (h : IM w) : AR (0) (31) (w.2.1 34) := h.2.2.2.2.2.2.2.2.2.2.2.2.2.2.2.1
theorem im_16 {w : MT} (h : IM w) : AR (-6) (39) (w.2.1 39) := h.2.2.2.2.2.2.2.2.2.2.2.2.2.2.2.2.1
theorem im_17 {w : MT} (h : IM w) : AR (0) (60) (w.2.1 40) := h.2.2.2.2.2.2.2.2.2.2.2.2.2.2.2.2.2.1
theorem im_18 {w : MT} (h : IM w) : AR (0) (39) (w.2.1 21) := h.2.2.2.2.2.2.2.2.2.2.2.2.2.2.2.2.2.2.1
theorem im_19 {w : MT} (h : IM w) : AR (0) (61) (w.2.1 26) := h.2.2.2.2.2.2.2.2.2.2.2.2.2.2.2.2.2.2.2.1
theorem im_20 {w : MT} (h : IM w) : AR (-128) (127) (w.2.1 8) := h.2.2.2.2.2.2.2.2.2.2.2.2.2.2.2.2.2.2.2.2.1
theorem im_21 {w : MT} (h : IM w) : SL (w.1 6) (w.2.1 14) := h.2.2.2.2.2.2.2.2.2.2.2.2.2.2.2.2.2.2.2.2.2.1
theorem im_22 {w : MT} (h : IM w) : LW (w.2.1 24) (w.2.1 25) (w.2.1 26) (w.2.1 27) (w.2.1 28) := h.2.2.2.2.2.2.2.2.2.2.2.2.2.2.2.2.2.2.2.2.2.2.1
theorem im_23 {w : MT} (h : IM w) : (w.1 7).toInt + (w.1 8).toInt ≤ 40 := h.2.2.2.2.2.2.2.2.2.2.2.2.2.2.2.2.2.2.2.2.2.2.2
