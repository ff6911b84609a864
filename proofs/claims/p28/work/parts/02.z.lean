/-! ===== ONE WORLD FOR THE WHOLE SYSTEM: 66 cells at addresses that are variables; every method's contract speaks of all of them ===== -/
abbrev vwCl : List vw_C := [(RX0, TX0, 1), (RX1, TX1, 4), (RX2, TX2, 1), (RX3, TX3, 2), (RX4, TX4, 4), (RX5, TX5, 1)]
abbrev zT : Type := (Nat → Nat → Int32) × (Nat → Nat → Int64) × (Nat → UInt64)
abbrev zG : Type := va_G × (Nat → ClassId) × (Nat → Nat) × Nat × Nat × Nat × (Nat → Int32)
def zad (g : zG) : Nat → Nat := g.2.2.1
def zA (g : zG) : Nat → Prop := fun q => g.2.2.2.1 ≤ q
def zp (j i : Nat) : Nat := 2 + 16 * j + i
def zi (g : zG) (n : Nat) (f : Nat → Int32) : va_E := .inl (g.2.1 0, n, .inl f)
def zl (g : zG) (n : Nat) (f : Nat → Int64) : va_E := .inl (g.2.1 1, n, .inr (.inl f))
def zd (g : zG) (n : Nat) (f : Nat → UInt64) : va_E := .inl (g.2.1 4, n, .inr (.inr (.inr (.inl f))))
def zq (g : zG) (k n : Nat) (f : Nat → Option Nat) : va_E := .inl (g.2.1 k, n, .inr (.inr (.inr (.inr f))))
def zs (g : zG) (j i : Nat) (f : Nat → Int32) (h : Nat → Int64) : va_E :=
  if i = 0 then .inr (4, [.ref (zad g (zp j 1)), .ref (zad g (zp j 3)), .ref (zad g (zp j 10)), .ref (zad g (zp j 13))])
  else if i = 1 then .inr (2, [.ref (zad g (zp j 2))])
  else if i = 2 then zi g 128 f
  else if i = 3 then zq g 3 3 (fun k => some (zad g (zp j (4 + k))))
  else if i < 7 then .inr (0, [.ref (zad g (zp j (i + 3)))])
  else if i < 10 then zi g 24 f
  else if i = 10 then .inr (3, [.ref (zad g (zp j 11)), .ref (zad g (zp j 12))])
  else if i = 11 then zi g 40 f
  else if i = 12 then zl g 5 h
  else if i = 13 then .inr (1, [.ref (zad g (zp j 14)), .ref (zad g (zp j 15)), .int (f 0), .int (f 1)])
  else zi g 8 f
def zc (g : zG) (k : Nat) (f : Nat → Int32) (h : Nat → Int64) (d : Nat → UInt64) : va_E :=
  if 2 ≤ k then zs g ((k - 2) / 16) ((k - 2) % 16) f h
  else if k = 0 then .inr (5, [.ref (zad g 1)])
  else zq g 2 4 (fun j => some (zad g (zp j 0)))
def zw (g : zG) (x : zT) : va_W := (List.range 66).map (fun k => (zad g k, zc g k (x.1 k) (x.2.1 k) x.2.2))
def xi (x : zT) (k : Nat) (f : Nat → Int32) : zT := (fun q => if q = k then f else x.1 q, x.2)
def xl (x : zT) (k : Nat) (h : Nat → Int64) : zT := (x.1, fun q => if q = k then h else x.2.1 q, x.2.2)
def xd (x : zT) (d : Nat → UInt64) : zT := (x.1, x.2.1, d)
theorem zp_eq (j i : Nat) : zp j i = 2 + 16 * j + i := rfl
theorem zp_lt {j i : Nat} (hj : j < 4) (hi : i < 16) : zp j i < 66 := by unfold zp; omega
theorem zp_ne {j i k i' : Nat} (hi : i < 16) (hi' : i' < 16) (h : j ≠ k ∨ i ≠ i') : zp j i ≠ zp k i' := by unfold zp; omega
theorem zp_ge (j i : Nat) : 2 ≤ zp j i := by unfold zp; omega
theorem zc_p {g : zG} {j i : Nat} {f : Nat → Int32} {h : Nat → Int64} {d : Nat → UInt64} (hi : i < 16) : zc g (zp j i) f h d = zs g j i f h := by
  have e1 : (zp j i - 2) / 16 = j := by unfold zp; omega
  have e2 : (zp j i - 2) % 16 = i := by unfold zp; omega
  unfold zc
  rw [if_pos (zp_ge j i), e1, e2]
theorem xi_s (x : zT) (k : Nat) (f : Nat → Int32) : (xi x k f).1 k = f := if_pos rfl
theorem xi_n {x : zT} {k q : Nat} (f : Nat → Int32) (h : q ≠ k) : (xi x k f).1 q = x.1 q := if_neg h
theorem xl_s (x : zT) (k : Nat) (f : Nat → Int64) : (xl x k f).2.1 k = f := if_pos rfl
theorem xl_n {x : zT} {k q : Nat} (f : Nat → Int64) (h : q ≠ k) : (xl x k f).2.1 q = x.2.1 q := if_neg h
theorem xi_xi (x : zT) (k : Nat) (f f' : Nat → Int32) : xi (xi x k f) k f' = xi x k f' := by
  unfold xi
  refine Prod.ext (funext fun q => ?_) rfl
  by_cases h : q = k
  · simp only [h, if_true]
  · simp only [h, if_false]
theorem xi_comm (x : zT) {k k' : Nat} (h : k ≠ k') (f f' : Nat → Int32) : xi (xi x k f) k' f' = xi (xi x k' f') k f := by
  unfold xi
  refine Prod.ext (funext fun q => ?_) rfl
  by_cases h1 : q = k
  · subst h1; simp [h]
  · simp [h1]
theorem xl_xl (x : zT) (k : Nat) (f f' : Nat → Int64) : xl (xl x k f) k f' = xl x k f' := by
  unfold xl
  refine Prod.ext rfl (Prod.ext (funext fun q => ?_) rfl)
  by_cases h : q = k
  · simp only [h, if_true]
  · simp only [h, if_false]
theorem xi_id (x : zT) (k : Nat) : xi x k (x.1 k) = x := by
  unfold xi
  refine Prod.ext (funext fun q => ?_) rfl
  by_cases h : q = k
  · subst h; simp
  · simp [h]
theorem xl_id (x : zT) (k : Nat) : xl x k (x.2.1 k) = x := by
  unfold xl
  refine Prod.ext rfl (Prod.ext (funext fun q => ?_) rfl)
  by_cases h : q = k
  · subst h; simp
  · simp [h]
theorem xl_comm (x : zT) {k k' : Nat} (h : k ≠ k') (f f' : Nat → Int64) : xl (xl x k f) k' f' = xl (xl x k' f') k f := by
  unfold xl
  refine Prod.ext rfl (Prod.ext (funext fun q => ?_) rfl)
  by_cases h1 : q = k
  · subst h1; simp [h]
  · simp [h1]
theorem xil_comm (x : zT) {k k' : Nat} (h : Nat → Int64) (f : Nat → Int32) : xi (xl x k h) k' f = xl (xi x k' f) k h := rfl
theorem xli_comm (x : zT) {k k' : Nat} (h : Nat → Int64) (f : Nat → Int32) : xl (xi x k' f) k h = xi (xl x k h) k' f := rfl
theorem xc_i (x : zT) (k q : Nat) (h : Nat → Int64) : (xl x k h).1 q = x.1 q := rfl
theorem xc_l (x : zT) (k q : Nat) (f : Nat → Int32) : (xi x k f).2.1 q = x.2.1 q := rfl
theorem xi_idf {x : zT} {k : Nat} {f : Nat → Int32} (h : x.1 k = f) : x = xi x k f := by rw [← h, xi_id]
theorem xl_idf {x : zT} {k : Nat} {f : Nat → Int64} (h : x.2.1 k = f) : x = xl x k f := by rw [← h, xl_id]
theorem zw_get {g : zG} {x : zT} {k : Nat} (h : k < 66) : (zw g x)[k]? = some (zad g k, zc g k (x.1 k) (x.2.1 k) x.2.2) := by
  unfold zw
  rw [List.getElem?_map, List.getElem?_range h]
  rfl
theorem zw_out {g : zG} {x : zT} {k : Nat} (h : ¬ k < 66) : (zw g x)[k]? = none := by
  unfold zw
  rw [List.getElem?_map, List.getElem?_eq_none (by rw [List.length_range]; omega)]
  rfl
theorem zw_set {g : zG} {x y : zT} {k : Nat} {e : va_E} (hk : k < 66) (he : zc g k (y.1 k) (y.2.1 k) y.2.2 = e) (ho : ∀ i, i ≠ k → zc g i (y.1 i) (y.2.1 i) y.2.2 = zc g i (x.1 i) (x.2.1 i) x.2.2) : (zw g x).set k (zad g k, e) = zw g y := by
  apply List.ext_getElem?
  intro i
  by_cases hi : i = k
  · subst hi
    rw [List.getElem?_set_self (by have h := zw_get (g := g) (x := x) hk; exact (List.getElem?_eq_some_iff.mp h).1), zw_get hk, he]
  · rw [List.getElem?_set_ne (Ne.symm hi)]
    by_cases h : i < 66
    · rw [zw_get h, zw_get h, ho i hi]
    · rw [zw_out h, zw_out h]
theorem zw_seti {g : zG} {x : zT} {k : Nat} {f : Nat → Int32} {e : va_E} (hk : k < 66) (he : zc g k f (x.2.1 k) x.2.2 = e) : (zw g x).set k (zad g k, e) = zw g (xi x k f) :=
  zw_set hk (by rw [xi_s]; exact he) (fun i hi => by rw [xi_n f hi]; rfl)
theorem zw_setl {g : zG} {x : zT} {k : Nat} {f : Nat → Int64} {e : va_E} (hk : k < 66) (he : zc g k (x.1 k) f x.2.2 = e) : (zw g x).set k (zad g k, e) = zw g (xl x k f) :=
  zw_set hk (by rw [xl_s]; exact he) (fun i hi => by rw [xl_n f hi]; rfl)
/-- the addresses are apart, and new -/
def zOk (g : zG) : Prop := (∀ i j, i < 66 → j < 66 → zad g i = zad g j → i = j) ∧ ∀ i, i < 66 → g.2.2.2.1 ≤ zad g i
theorem zw_D {g : zG} (h : zOk g) (x : zT) : va_D (zA g) (zw g x) := by
  have key : ∀ (k : Nat) (q : Nat × va_E), (zw g x)[k]? = some q → k < 66 ∧ q.1 = zad g k := by
    intro k q hq
    by_cases hk : k < 66
    · rw [zw_get hk] at hq
      cases hq
      exact ⟨hk, rfl⟩
    · rw [zw_out hk] at hq
      cases hq
  refine ⟨fun i j p q hi hj hpq => ?_, fun k q hq => ?_⟩
  · obtain ⟨h1, h2⟩ := key i p hi
    obtain ⟨h3, h4⟩ := key j q hj
    exact h.1 i j h1 h3 (by rw [← h2, ← h4]; exact hpq)
  · obtain ⟨h1, h2⟩ := key k q hq
    show g.2.2.2.1 ≤ q.1
    rw [h2]
    exact h.2 k h1
abbrev zty (g : zG) : List (ClassId × FieldType) := [(g.2.1 0, .int), (g.2.1 1, .long), (g.2.1 2, .object "Countcote$Stream"), (g.2.1 3, .object "Countcote$CarefulSketch")]
/-! what stands beside the world: the class's constant arrays, the law's script -/
def zsa : List (String × String × List Int32) := [("Countcote$CarefulSketch", "FACTORS", [7, 11, 23]), ("Countcote$CarefulSketch", "SHIFTS", [3, 19, 5]), ("Countcote$SignedSketch", "COLUMN_FACTORS", [5, 9, 14, 27, 33]), ("Countcote$SignedSketch", "COLUMN_SHIFTS", [1, 8, 2, 40, 17]), ("Countcote$SignedSketch", "SIGN_FACTORS", [3, 10, 21, 29, 44]), ("Countcote$SignedSketch", "SIGN_SHIFTS", [7, 0, 13, 5, 30])]
def znf : List (Nat × String × String) := [(120, "used", "I"), (126, "items", "[I"), (133, "away", "I")]
def zSt (g : zG) (U : State) : Prop :=
  (∀ q ∈ zsa, ∃ t, va_Z q.1 q.2.1 "[I" (.ref t) (zA g) U U.heap ∧ va_T .int t q.2.2.length (fun j => .int (q.2.2.getD j 0)) (zA g) U U.heap) ∧
  (∀ q ∈ znf, va_Nw (.fieldLinkNest "Countcote" q.1 "Countcote$FewCounters" q.2.1 q.2.2 "Countcote") U) ∧
  va_X g.2.2.2.2.1 g.2.2.2.2.2.1 g.2.2.2.2.2.2 U U.heap ∧ g.2.2.2.2.1 < U.heap.size ∧ ¬ zA g g.2.2.2.2.1
theorem zSt.go {g : zG} {s U : State} {locs : List Loc} (h : zSt g s) (hW : s.WarmedH U.vm) (hS : va_S (zA g) s.heap U.heap locs) : zSt g U := by
  obtain ⟨h1, h2, h3, h4, h5⟩ := h
  have hq : ∀ a : Nat, a < s.heap.size → ¬ zA g a → U.heap[a]? = s.heap[a]? := hS.2.1
  have hvm := hW.alike
  refine ⟨fun q hq9 => ?_, fun q hq9 => va_Nw.warmF hW (h2 q hq9), (va_X.moved hvm h3).kept (hq _ h4 h5), Nat.lt_of_lt_of_le h4 hS.1, h5⟩
  obtain ⟨t, a1, a2⟩ := h1 q hq9
  exact ⟨t, (va_Z.moved hvm a1).kept hq, (va_T.moved hvm a2).kept hq⟩
/-! ===== contracts ===== -/
def zPre (g : zG) (x : zT) (U : State) : Prop := g.2.2.2.1 ≤ U.heap.size ∧ va_P g.1 vwCl (zw g x) U.heap ∧ va_K g.1 vwCl (zty g) U ∧ zSt g U
def zB (g : zG) (u : zT) (t : State) : Prop := va_P g.1 vwCl (zw g u) t.heap
theorem zPre.blind {g : zG} {x : zT} {U : State} {fr : JFrame} {mk : MethodId} {a : Array Value} (h : zPre g x U) : zPre g x (U.calling fr mk a) := by
  obtain ⟨h1, h2, h3, h4⟩ := h
  exact ⟨h1, h2, va_K.moved (u := U) (U := U.calling fr mk a) (Vm.Alike.refl U.vm) h3, h4⟩
/-- what is fixed in a method's body -/
def zC (p : Program) (s : State) (m : MethodId) (args : Array Value) (meth : Method) (c : Code) (g : zG) (cc : ByteArray) (nL : Nat) (own : String) (Ts : List Cond) : Prop :=
  CallFix p m c cc nL s args Ts own ∧ va_K g.1 vwCl (zty g) s ∧ zOk g ∧ g.2.2.2.1 ≤ s.heap.size ∧ zSt g s ∧ meth.locks = false
/-- from the state at pc with locals lv, stack st, world x the run comes to Q -/
def Z (p : Program) (l : Launch) (e : Env) (R : Room) (s : State) (m : MethodId) (args : Array Value) (below : List Frame) (meth : Method) (c : Code) (g : zG) (nL cells slots : Nat) (Q : State → Prop) (x : zT) (pc : Nat) (lv : List (Nat × Value)) (st : List Value) : Prop :=
  ∀ (H : Heap) (locs : List Loc) (ls : Array Slot), va_P g.1 vwCl (zw g x) H → va_S (zA g) s.heap H locs → lv_has ls nL lv → W p l e R s m args below meth c H locs cells slots Q (F0 m pc ls st)
