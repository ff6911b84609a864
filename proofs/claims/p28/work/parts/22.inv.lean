/-! ===== what holds of every stream: the sketch is never below the counts, the counters keep their bounds ===== -/
theorem zSR_out {x y : zT} {j q : Nat} {c d : Nat → Int32} {L : zCL} {aw : Int32} (hO : zOut j x y) (hq : q ≠ j) (h : zSR x q c d L aw) : zSR y q c d L aw := by
  have k : ∀ i, i < 16 → y.1 (zp q i) = x.1 (zp q i) := fun i hi => (hO.1 (zp q i) (by unfold zp; omega)).1
  obtain ⟨h1, h2, h3, h4, h5, h6⟩ := h
  refine ⟨by rw [k 2 (by omega)]; exact h1, by rw [k (7 + 0) (by omega)]; exact h2, by rw [k (7 + 1) (by omega)]; exact h3, by rw [k (7 + 2) (by omega)]; exact h4, by rw [k 11 (by omega)]; exact h5, ?_⟩
  rw [k 13 (by omega), k 14 (by omega), k 15 (by omega)]
  exact h6
def zSj (S : zS) (j : Nat) (c d : Nat → Int32) (L : zCL) (aw : Int32) : zS := (fun q => if q = j then c else S.1 q, fun q => if q = j then d else S.2.1 q, fun q => if q = j then L else S.2.2.1 q, fun q => if q = j then aw else S.2.2.2 q)
theorem zSj_s {P : (Nat → Int32) → (Nat → Int32) → zCL → Int32 → Prop} {S : zS} {j : Nat} {c d : Nat → Int32} {L : zCL} {aw : Int32} (h : P c d L aw) : P ((zSj S j c d L aw).1 j) ((zSj S j c d L aw).2.1 j) ((zSj S j c d L aw).2.2.1 j) ((zSj S j c d L aw).2.2.2 j) := by
  show P (if j = j then c else S.1 j) (if j = j then d else S.2.1 j) (if j = j then L else S.2.2.1 j) (if j = j then aw else S.2.2.2 j)
  rw [if_pos rfl, if_pos rfl, if_pos rfl, if_pos rfl]
  exact h
theorem zSj_n {P : (Nat → Int32) → (Nat → Int32) → zCL → Int32 → Prop} {S : zS} {j q : Nat} {c d : Nat → Int32} {L : zCL} {aw : Int32} (e : q ≠ j) (h : P (S.1 q) (S.2.1 q) (S.2.2.1 q) (S.2.2.2 q)) : P ((zSj S j c d L aw).1 q) ((zSj S j c d L aw).2.1 q) ((zSj S j c d L aw).2.2.1 q) ((zSj S j c d L aw).2.2.2 q) := by
  show P (if q = j then c else S.1 q) (if q = j then d else S.2.1 q) (if q = j then L else S.2.2.1 q) (if q = j then aw else S.2.2.2 q)
  rw [if_neg e, if_neg e, if_neg e, if_neg e]
  exact h
theorem zAll_j {x y : zT} {S : zS} {j : Nat} {c d : Nat → Int32} {L : zCL} {aw : Int32} (hA : zAll x S) (hO : zOut j x y) (hN : zSR y j c d L aw) : zAll y (zSj S j c d L aw) := fun q hq => by
  by_cases e : q = j
  · subst e
    exact zSj_s (P := zSR y q) hN
  · exact zSj_n (P := zSR y q) e (zSR_out hO e (hA q hq))
theorem zAll_l {x : zT} {S : zS} {k : Nat} {f : Nat → Int64} (hA : zAll x S) : zAll (xl x k f) S := fun j hj => hA j hj
/-! sums of naturals -/
def znr (n : Nat → Nat) (a : Nat) : Nat → Nat
  | 0 => 0
  | k + 1 => znr n a k + n (a + k)
theorem zsum_znr {c : Nat → Int32} {n : Nat → Nat} {a : Nat} : ∀ {m : Nat}, (∀ k, a ≤ k → k < a + m → c k = nI (n k)) → zsum c a m = nI (znr n a m)
  | 0, _ => rfl
  | m + 1, h => by
    show zsum c a m + c (a + m) = nI (znr n a m + n (a + m))
    rw [zsum_znr (m := m) (fun k h1 h2 => h k h1 (by omega)), h (a + m) (by omega) (by omega)]
    exact nI_add _ _
theorem znsum_app (n : Nat → Nat) (a : Nat) : ∀ m, znsum n (a + m) = znsum n a + znr n a m
  | 0 => rfl
  | m + 1 => by
    show znsum n (a + m) + n (a + m) = znsum n a + (znr n a m + n (a + m))
    rw [znsum_app n a m]
    omega
theorem znr_le {n : Nat → Nat} {a m : Nat} (h : a + m ≤ 64) : znr n a m ≤ znsum n 64 := by
  have h1 := znsum_app n a m
  have h2 := znsum_app n (a + m) (64 - (a + m))
  rw [show a + m + (64 - (a + m)) = 64 by omega] at h2
  omega
theorem znr_up {n : Nat → Nat} {i w a : Nat} : ∀ k, znr (fun q => if q = i then n q + w else n q) a k = znr n a k + if a ≤ i ∧ i < a + k then w else 0
  | 0 => by rw [if_neg (by omega)]; rfl
  | k + 1 => by
    have ih := znr_up (n := n) (i := i) (w := w) (a := a) k
    show znr (fun q => if q = i then n q + w else n q) a k + (if a + k = i then n (a + k) + w else n (a + k)) = znr n a k + n (a + k) + _
    rw [ih]
    by_cases e : a + k = i
    · rw [if_pos e, if_neg (by omega), if_pos (by omega)]
      omega
    · rw [if_neg e]
      by_cases e2 : a ≤ i ∧ i < a + k
      · rw [if_pos e2, if_pos (by omega)]; omega
      · rw [if_neg e2, if_neg (by omega)]; omega
theorem znr_add (n m : Nat → Nat) (a : Nat) : ∀ k, znr (fun q => n q + m q) a k = znr n a k + znr m a k
  | 0 => rfl
  | k + 1 => by
    show znr (fun q => n q + m q) a k + (n (a + k) + m (a + k)) = (znr n a k + n (a + k)) + (znr m a k + m (a + k))
    rw [znr_add n m a k]
    omega
theorem znr_app (n : Nat → Nat) (a k : Nat) : ∀ m, znr n a (k + m) = znr n a k + znr n (a + k) m
  | 0 => rfl
  | m + 1 => by
    show znr n a (k + m) + n (a + (k + m)) = znr n a k + (znr n (a + k) m + n (a + k + m))
    rw [znr_app n a k m, Nat.add_assoc a k m]
    omega
/-! the sketch -/
theorem zmin_nat {a b : Nat} (ha : a < 2 ^ 31) (hb : b < 2 ^ 31) : zmin (nI a) (nI b) = nI (min a b) := by
  unfold zmin
  by_cases h : b < a
  · rw [if_pos ((nI_ltI hb ha).mpr h), Nat.min_eq_right (Nat.le_of_lt h)]
  · rw [if_neg (fun z => h ((nI_ltI hb ha).mp z)), Nat.min_eq_left (by omega)]
theorem zmax_nat {a b : Nat} (ha : a < 2 ^ 31) (hb : b < 2 ^ 31) : zmax (nI a) (nI b) = nI (max a b) := by
  unfold zmax
  by_cases h : a < b
  · rw [if_pos ((nI_ltI ha hb).mpr h), Nat.max_eq_right (Nat.le_of_lt h)]
  · rw [if_neg (fun z => h ((nI_ltI ha hb).mp z)), Nat.max_eq_left (by omega)]
def zlN (m : Nat → Nat) (h : Nat) : Nat := min (min (m (zcp 0 h)) (m (zcp 1 h))) (m (zcp 2 h))
def zcN (m : Nat → Nat) (h w : Nat) : Nat → Nat := fun q => if q = zcp 0 h ∨ q = zcp 1 h ∨ q = zcp 2 h then max (m q) (zlN m h + w) else m q
theorem zlN_le0 (m : Nat → Nat) (h : Nat) : zlN m h ≤ m (zcp 0 h) := by unfold zlN; omega
theorem zlN_le1 (m : Nat → Nat) (h : Nat) : zlN m h ≤ m (zcp 1 h) := by unfold zlN; omega
theorem zlN_le2 (m : Nat → Nat) (h : Nat) : zlN m h ≤ m (zcp 2 h) := by unfold zlN; omega
theorem zlN_ge {m : Nat → Nat} {h v : Nat} (hv : ∀ r, r < 3 → v ≤ m (zcp r h)) : v ≤ zlN m h := by
  have h0 := hv 0 (by omega)
  have h1 := hv 1 (by omega)
  have h2 := hv 2 (by omega)
  unfold zlN
  omega
theorem zleast_nat {f : Nat → Int32} {m : Nat → Nat} {T h : Nat} (hT : T < 2 ^ 31) (hf : ∀ q, f q = nI (m q) ∧ m q ≤ T) : zleast f h = nI (zlN m h) := by
  have b := fun q => (hf q).2
  unfold zleast zlN
  rw [(hf (zcp 0 h)).1, (hf (zcp 1 h)).1, (hf (zcp 2 h)).1, zmin_nat (by have := b (zcp 0 h); omega) (by have := b (zcp 1 h); omega), zmin_nat (by have := b (zcp 0 h); omega) (by have := b (zcp 2 h); omega)]
theorem zcput_nat {f : Nat → Int32} {m : Nat → Nat} {T h w : Nat} (hT : T + w < 2 ^ 31) (hf : ∀ q, f q = nI (m q) ∧ m q ≤ T) (q : Nat) : zcput f h (nI w) q = nI (zcN m h w q) ∧ zcN m h w q ≤ T + w := by
  have hl := zlN_le0 m h
  have hb := (hf (zcp 0 h)).2
  have hq := (hf q).2
  unfold zcput zcN
  by_cases e : q = zcp 0 h ∨ q = zcp 1 h ∨ q = zcp 2 h
  · rw [if_pos e, if_pos e, zleast_nat (T := T) (by omega) hf, nI_add, (hf q).1, zmax_nat (by omega) (by omega)]
    exact ⟨rfl, by omega⟩
  · rw [if_neg e, if_neg e]
    exact ⟨(hf q).1, by omega⟩
theorem zcN_ge (m : Nat → Nat) (h w q : Nat) : m q ≤ zcN m h w q := by
  unfold zcN
  by_cases e : q = zcp 0 h ∨ q = zcp 1 h ∨ q = zcp 2 h
  · rw [if_pos e]; omega
  · rw [if_neg e]; exact Nat.le_refl _
theorem zcN_at {m : Nat → Nat} {h w r : Nat} (hr : r < 3) : zlN m h + w ≤ zcN m h w (zcp r h) := by
  unfold zcN
  have e : zcp r h = zcp 0 h ∨ zcp r h = zcp 1 h ∨ zcp r h = zcp 2 h := by
    rcases (show r = 0 ∨ r = 1 ∨ r = 2 by omega) with z | z | z <;> subst z
    · exact Or.inl rfl
    · exact Or.inr (Or.inl rfl)
    · exact Or.inr (Or.inr rfl)
  rw [if_pos e]
  omega
theorem zcN_half {m N : Nat → Nat} {H h0 w : Nat} (hN : ∀ h r, h < H → r < 3 → N h ≤ m (zcp r h)) {h r : Nat} (hh : h < H) (hr : r < 3) : N h + (if h = h0 then w else 0) ≤ zcN m h0 w (zcp r h) := by
  by_cases e : h = h0
  · subst e
    rw [if_pos rfl]
    have h1 := zcN_at (m := m) (h := h) (w := w) hr
    have h2 := zlN_ge (m := m) (h := h) (fun r hr => hN h r hh hr)
    omega
  · rw [if_neg e]
    have h1 := zcN_ge m h0 w (zcp r h)
    have h2 := hN h r hh hr
    omega
def zsk (n : Nat → Nat) (d : Nat → Int32) : Prop := ∃ m : Nat → Nat, (∀ q, d q = nI (m q) ∧ m q ≤ znsum n 64) ∧ ∀ k h r, k < 3 → h < 64 / 2 ^ k → r < 3 → znr n (h * 2 ^ k) (2 ^ k) ≤ m (24 * k + zcp r h)
def zup (n : Nat → Nat) (i w : Nat) : Nat → Nat := fun q => if q = i then n q + w else n q
theorem znsum_zup {n : Nat → Nat} {i w : Nat} (hi : i < 64) : znsum (zup n i w) 64 = znsum n 64 + w := by
  have := znsum_up (n := n) (i := i) (w := w) 64
  rw [if_pos hi] at this
  exact this
theorem znr_zup {n : Nat → Nat} {i w k h : Nat} (hk : k < 3) : znr (zup n i w) (h * 2 ^ k) (2 ^ k) = znr n (h * 2 ^ k) (2 ^ k) + (if h = i / 2 ^ k then w else 0) := by
  have h1 := znr_up (n := n) (i := i) (w := w) (a := h * 2 ^ k) (2 ^ k)
  refine h1.trans ?_
  congr 1
  have e : (h * 2 ^ k ≤ i ∧ i < h * 2 ^ k + 2 ^ k) ↔ h = i / 2 ^ k := by
    rcases (show k = 0 ∨ k = 1 ∨ k = 2 by omega) with z | z | z <;> subst z <;> omega
  by_cases c : h = i / 2 ^ k
  · rw [if_pos c, if_pos (e.mpr c)]
  · rw [if_neg c, if_neg (fun z => c (e.mp z))]
def zdN (m : Nat → Nat) (i w : Nat) : Nat → Nat := fun q => if q < 24 then zcN m (i / 2 ^ 0) w q else if q < 48 then zcN (fun p => m (24 + p)) (i / 2 ^ 1) w (q - 24) else zcN (fun p => m (48 + p)) (i / 2 ^ 2) w (q - 48)
theorem zdN_0 {m : Nat → Nat} {i w q : Nat} (h : q < 24) : zdN m i w q = zcN m (i / 2 ^ 0) w q := if_pos h
theorem zdN_1 {m : Nat → Nat} {i w q : Nat} (h : ¬ q < 24) (h2 : q < 48) : zdN m i w q = zcN (fun p => m (24 + p)) (i / 2 ^ 1) w (q - 24) := (if_neg h).trans (if_pos h2)
theorem zdN_2 {m : Nat → Nat} {i w q : Nat} (h : ¬ q < 24) (h2 : ¬ q < 48) : zdN m i w q = zcN (fun p => m (48 + p)) (i / 2 ^ 2) w (q - 48) := (if_neg h).trans (if_neg h2)
theorem zsk_put {n : Nat → Nat} {d : Nat → Int32} {i w : Nat} (h : zsk n d) (hi : i < 64) (ht : znsum n 64 + w ≤ 1000000) : zsk (zup n i w) (zdput d i (nI w)) := by
  obtain ⟨m, h1, h2⟩ := h
  have hs := znsum_zup (n := n) (w := w) hi
  have B := fun (k q : Nat) => h1 (24 * k + q)
  have P := fun (k : Nat) => zcput_nat (f := fun p => d (24 * k + p)) (m := fun p => m (24 * k + p)) (T := znsum n 64) (h := i / 2 ^ k) (w := w) (by omega) (B k)
  have P0 := zcput_nat (f := d) (m := m) (T := znsum n 64) (h := i / 2 ^ 0) (w := w) (by omega) h1
  refine ⟨zdN m i w, fun q => ?_, fun k h r hk hh hr => ?_⟩
  · rw [hs]
    unfold zdput
    by_cases a : q < 24
    · rw [zdN_0 a, if_pos a]
      exact P0 q
    · rw [if_neg a]
      by_cases b : q < 48
      · rw [zdN_1 a b, if_pos b]
        exact P 1 (q - 24)
      · rw [zdN_2 a b, if_neg b]
        exact P 2 (q - 48)
  · rw [znr_zup hk]
    have hz := zcp_lt h hr
    rcases (show k = 0 ∨ k = 1 ∨ k = 2 by omega) with z | z | z
    · subst z
      have e : zdN m i w (24 * 0 + zcp r h) = zcN m (i / 2 ^ 0) w (zcp r h) := by
        rw [zdN_0 (by omega), show 24 * 0 + zcp r h = zcp r h by omega]
      rw [e]
      exact zcN_half (N := fun h => znr n (h * 2 ^ 0) (2 ^ 0)) (H := 64 / 2 ^ 0) (fun h r hh hr => by have h9 := h2 0 h r (by omega) hh hr; rw [show 24 * 0 + zcp r h = zcp r h by omega] at h9; exact h9) hh hr
    · subst z
      have e : zdN m i w (24 * 1 + zcp r h) = zcN (fun p => m (24 + p)) (i / 2 ^ 1) w (zcp r h) := by
        rw [zdN_1 (by omega) (by omega), show 24 * 1 + zcp r h - 24 = zcp r h by omega]
      rw [e]
      exact zcN_half (m := fun p => m (24 + p)) (N := fun h => znr n (h * 2 ^ 1) (2 ^ 1)) (H := 64 / 2 ^ 1) (fun h r hh hr => h2 1 h r (by omega) hh hr) hh hr
    · subst z
      have e : zdN m i w (24 * 2 + zcp r h) = zcN (fun p => m (48 + p)) (i / 2 ^ 2) w (zcp r h) := by
        rw [zdN_2 (by omega) (by omega), show 24 * 2 + zcp r h - 48 = zcp r h by omega]
      rw [e]
      exact zcN_half (m := fun p => m (48 + p)) (N := fun h => znr n (h * 2 ^ 2) (2 ^ 2)) (H := 64 / 2 ^ 2) (fun h r hh hr => h2 2 h r (by omega) hh hr) hh hr
theorem zsk_add {n n' : Nat → Nat} {d d' : Nat → Int32} (h : zsk n d) (h' : zsk n' d') : zsk (fun q => n q + n' q) (fun q => d q + d' q) := by
  obtain ⟨m, h1, h2⟩ := h
  obtain ⟨m', g1, g2⟩ := h'
  refine ⟨fun q => m q + m' q, fun q => ⟨?_, ?_⟩, fun k h r hk hh hr => ?_⟩
  · show d q + d' q = _
    rw [(h1 q).1, (g1 q).1]
    exact nI_add _ _
  · rw [znsum_add]
    have := (h1 q).2
    have := (g1 q).2
    show m q + m' q ≤ _
    omega
  · rw [znr_add]
    have := h2 k h r hk hh hr
    have := g2 k h r hk hh hr
    show _ ≤ m (24 * k + zcp r h) + m' (24 * k + zcp r h)
    omega
theorem znsum_0 : ∀ k, znsum (fun _ => 0) k = 0
  | 0 => rfl
  | k + 1 => by show znsum (fun _ => 0) k + 0 = 0; rw [znsum_0 k]
theorem znr_0 (a : Nat) : ∀ k, znr (fun _ => 0) a k = 0
  | 0 => rfl
  | k + 1 => by show znr (fun _ => 0) a k + 0 = 0; rw [znr_0 a k]
theorem zsk_0 : zsk (fun _ => 0) (fun _ => 0) := ⟨fun _ => 0, fun q => ⟨rfl, Nat.zero_le _⟩, fun k h r _ _ _ => by rw [znr_0]; exact Nat.le_refl _⟩
