/-- the keys are apart -/
def zND (L : zCL) : Prop := ∀ a b, a < b → b < L.length → (zL L a).1 ≠ (zL L b).1
theorem zND_ix {L : zCL} {v : Int32} {q : Nat} (h : zND L) (hq : q < L.length) (e : (zL L q).1 = v) : zix L v = q :=
  zix_of hq e (fun k hk z => h k q hk hq (z.trans e.symm))
def zgc (f : Nat → Int32) (w : Int32) : Nat → Nat
  | 0 => 0
  | n + 1 => zgc f w n + if w < f n then 1 else 0
theorem zgc_cr2 {f : Nat → Int32} {w w' : Int32} : ∀ n, (∀ q, q < n → w < f q → w' ≤ f q) → zgc f w n ≤ zcr f w' n
  | 0, _ => Nat.le_refl _
  | n + 1, h => by
    have ih := zgc_cr2 (f := f) (w := w) (w' := w') n (fun q hq => h q (by omega))
    show zgc f w n + (if w < f n then 1 else 0) ≤ zcr f w' n + (if w' ≤ f n then 1 else 0)
    by_cases c : w < f n
    · rw [if_pos c, if_pos (h n (by omega) c)]; omega
    · rw [if_neg c]; omega
theorem zleast_ex {f : Nat → Int32} {P : Nat → Prop} : ∀ n, (∃ q, q < n ∧ P q) → ∃ k, k < n ∧ P k ∧ ∀ q, q < n → P q → f k ≤ f q
  | 0, h => by obtain ⟨q, hq, _⟩ := h; exact absurd hq (Nat.not_lt_zero q)
  | n + 1, h => by
    by_cases c : ∃ q, q < n ∧ P q
    · obtain ⟨k, k1, k2, k3⟩ := zleast_ex (f := f) n c
      by_cases c2 : P n ∧ f n < f k
      · refine ⟨n, by omega, c2.1, fun q hq hp => ?_⟩
        by_cases e : q = n
        · subst e; exact Int32.le_refl _
        · exact Int32.le_trans (Int32.le_of_lt c2.2) (k3 q (by omega) hp)
      · refine ⟨k, by omega, k2, fun q hq hp => ?_⟩
        by_cases e : q = n
        · subst e
          exact Int32.not_lt.mp (fun z => c2 ⟨hp, z⟩)
        · exact k3 q (by omega) hp
    · obtain ⟨q, hq, hp⟩ := h
      have e : q = n := by
        by_cases e : q = n
        · exact e
        · exact absurd ⟨q, by omega, hp⟩ c
      subst e
      refine ⟨q, hq, hp, fun q' hq' hp' => ?_⟩
      by_cases e : q' = q
      · subst e; exact Int32.le_refl _
      · exact absurd ⟨q', by omega, hp'⟩ c
theorem zgc_pos {f : Nat → Int32} {w : Int32} : ∀ n, 0 < zgc f w n → ∃ q, q < n ∧ w < f q
  | 0, h => absurd h (Nat.lt_irrefl _)
  | n + 1, h => by
    by_cases c : w < f n
    · exact ⟨n, by omega, c⟩
    · have h2 : 0 < zgc f w n + (if w < f n then 1 else 0) := h
      rw [if_neg c] at h2
      obtain ⟨q, q1, q2⟩ := zgc_pos n h2
      exact ⟨q, by omega, q2⟩
theorem zwr_ge {f : Nat → Int32} {m n : Nat} : ∀ n' k, k < n' → m ≤ zcr f (f k) n → f k ≤ zwr f m n n'
  | 0, k, h, _ => absurd h (Nat.not_lt_zero k)
  | n' + 1, k, h, hm => by
    show f k ≤ if zwr f m n n' < f n' ∧ m ≤ zcr f (f n') n then f n' else zwr f m n n'
    by_cases e : k = n'
    · subst e
      by_cases c : zwr f m n k < f k ∧ m ≤ zcr f (f k) n
      · rw [if_pos c]; exact Int32.le_refl _
      · rw [if_neg c]
        exact Int32.not_lt.mp (fun z => c ⟨z, hm⟩)
    · have ih := zwr_ge (f := f) (m := m) (n := n) n' k (by omega) hm
      by_cases c : zwr f m n n' < f n' ∧ m ≤ zcr f (f n') n
      · rw [if_pos c]; exact Int32.le_trans ih (Int32.le_of_lt c.1)
      · rw [if_neg c]; exact ih
theorem zwr_at {f : Nat → Int32} {m n : Nat} : ∀ n', zwr f m n n' = 0 ∨ ∃ k, k < n' ∧ f k = zwr f m n n' ∧ m ≤ zcr f (f k) n
  | 0 => Or.inl rfl
  | n' + 1 => by
    show (if zwr f m n n' < f n' ∧ m ≤ zcr f (f n') n then f n' else zwr f m n n') = 0 ∨ ∃ k, k < n' + 1 ∧ f k = (if zwr f m n n' < f n' ∧ m ≤ zcr f (f n') n then f n' else zwr f m n n') ∧ m ≤ zcr f (f k) n
    by_cases c : zwr f m n n' < f n' ∧ m ≤ zcr f (f n') n
    · rw [if_pos c]
      exact Or.inr ⟨n', by omega, rfl, c.2⟩
    · rw [if_neg c]
      rcases zwr_at (f := f) (m := m) (n := n) n' with h | ⟨k, k1, k2, k3⟩
      · exact Or.inl h
      · exact Or.inr ⟨k, by omega, k2, k3⟩
theorem zcr_all {f : Nat → Int32} {w : Int32} : ∀ n, (∀ q, q < n → w ≤ f q) → zcr f w n = n
  | 0, _ => rfl
  | n + 1, h => by
    show zcr f w n + (if w ≤ f n then 1 else 0) = n + 1
    rw [if_pos (h n (by omega)), zcr_all n (fun q hq => h q (by omega))]
/-- with five weights above 0 or more the fifth one is among them, and no more than four are greater -/
theorem zwr_5 {f : Nat → Int32} {n : Nat} (h5 : 5 ≤ n) (hp : ∀ q, q < n → 0 < f q) : ∃ k, k < n ∧ f k = zwr f 5 n n ∧ zgc f (f k) n ≤ 4 ∧ 4 < zcr f (f k) n := by
  obtain ⟨k0, a1, -, a3⟩ := zleast_ex (f := f) (P := fun _ => True) n ⟨0, by omega, trivial⟩
  have h0 := zwr_ge (f := f) (m := 5) (n := n) n k0 a1 (by rw [zcr_all n (fun q hq => a3 q hq trivial)]; exact h5)
  rcases zwr_at (f := f) (m := 5) (n := n) n with h | ⟨k, k1, k2, k3⟩
  · rw [h] at h0
    exact absurd (hp k0 a1) (Int32.not_lt.mpr h0)
  · refine ⟨k, k1, k2, Nat.not_lt.mp (fun z => ?_), by omega⟩
    obtain ⟨q, q1, q2, q3⟩ := zleast_ex (f := f) (P := fun q => f k < f q) n (zgc_pos n (by omega))
    have h6 := zgc_cr2 (f := f) (w := f k) (w' := f q) n (fun q' h1 h2 => q3 q' h1 h2)
    have h7 := zwr_ge (f := f) (m := 5) (n := n) n q q1 (by omega)
    rw [← k2] at h7
    exact Int32.not_lt.mpr h7 q2
theorem zmin_le1 (a b : Int32) : zmin a b ≤ a := by
  unfold zmin
  by_cases h : b < a
  · rw [if_pos h]; exact Int32.le_of_lt h
  · rw [if_neg h]; exact Int32.le_refl a
theorem zmin_le2 (a b : Int32) : zmin a b ≤ b := by
  unfold zmin
  by_cases h : b < a
  · rw [if_pos h]; exact Int32.le_refl b
  · rw [if_neg h]; exact Int32.not_lt.mp h
theorem zmin_or (a b : Int32) : zmin a b = a ∨ zmin a b = b := by
  unfold zmin
  by_cases h : b < a
  · rw [if_pos h]; exact Or.inr rfl
  · rw [if_neg h]; exact Or.inl rfl
theorem znat {w : Int32} (h : 0 ≤ w) : ∃ a : Nat, a < 2 ^ 31 ∧ w = nI a := by
  have h1 := Int32.le_iff_toInt_le.mp h
  have h0 : (0 : Int32).toInt = 0 := by decide
  rw [h0] at h1
  have h2 := Int32.toInt_lt w
  refine ⟨w.toInt.toNat, by omega, ?_⟩
  show w = Int32.ofNat w.toInt.toNat
  rw [← Int32.ofInt_eq_ofNat, Int.toNat_of_nonneg h1, Int32.ofInt_toInt]
theorem zix_iff {L : zCL} {v : Int32} : zix L v = L.length ↔ ∀ q, q < L.length → (zL L q).1 ≠ v := ⟨fun h q hq => zix_lt (by omega), zix_none⟩
theorem zND_grow {L : zCL} {v w : Int32} (h : zND L) : zND (zgrow L v w) := by
  unfold zgrow
  by_cases c : zix L v < L.length
  · rw [if_pos c]
    intro a b hab hb
    rw [List.length_set] at hb
    have hk : ∀ q, (zL (L.set (zix L v) (v, (zL L (zix L v)).2 + w)) q).1 = (zL L q).1 := fun q => by
      rw [zL_set c]
      by_cases e : q = zix L v
      · rw [if_pos e, e, zix_at c]
      · rw [if_neg e]
    rw [hk, hk]
    exact h a b hab hb
  · rw [if_neg c]
    by_cases c8 : L.length < 8
    · rw [if_pos c8]
      intro a b hab hb
      rw [List.length_append] at hb
      have hb2 : b < L.length + 1 := hb
      have hv : zix L v = L.length := Nat.le_antisymm (zix_le L v) (Nat.not_lt.mp c)
      by_cases e : b = L.length
      · subst e
        rw [zL_app_e, zL_app_l hab]
        exact zix_iff.mp hv a hab
      · rw [zL_app_l (by omega), zL_app_l (by omega)]
        exact h a b hab (by omega)
    · rw [if_neg c8]
      exact h
theorem zgrow_len {L : zCL} {v w : Int32} : (zgrow L v w).length ≤ L.length + 1 := by
  unfold zgrow
  split
  · rw [List.length_set]; omega
  · split
    · rw [List.length_append]; exact Nat.le_refl _
    · omega
/-! ===== what holds of every stream: counts and weights are no more than the total ===== -/
def znsum (n : Nat → Nat) : Nat → Nat
  | 0 => 0
  | k + 1 => znsum n k + n k
theorem znsum_le (n : Nat → Nat) : ∀ {k i : Nat}, i < k → n i ≤ znsum n k
  | 0, i, h => absurd h (Nat.not_lt_zero i)
  | k + 1, i, h => by
    show n i ≤ znsum n k + n k
    by_cases e : i = k
    · subst e; omega
    · have := znsum_le n (k := k) (i := i) (by omega)
      omega
theorem znsum_up {n : Nat → Nat} {i w : Nat} : ∀ k, znsum (fun q => if q = i then n q + w else n q) k = znsum n k + if i < k then w else 0
  | 0 => by rw [if_neg (Nat.not_lt_zero i)]; rfl
  | k + 1 => by
    have ih := znsum_up (n := n) (i := i) (w := w) k
    show znsum (fun q => if q = i then n q + w else n q) k + (if k = i then n k + w else n k) = znsum n k + n k + _
    rw [ih]
    by_cases e : k = i
    · subst e
      rw [if_pos rfl, if_neg (Nat.lt_irrefl k), if_pos (by omega)]
      omega
    · rw [if_neg e]
      by_cases e2 : i < k
      · rw [if_pos e2, if_pos (by omega)]; omega
      · rw [if_neg e2, if_neg (by omega)]; omega
theorem znsum_add (n m : Nat → Nat) : ∀ k, znsum (fun q => n q + m q) k = znsum n k + znsum m k
  | 0 => rfl
  | k + 1 => by
    have ih := znsum_add n m k
    show znsum (fun q => n q + m q) k + (n k + m k) = znsum n k + n k + (znsum m k + m k)
    rw [ih]
    omega
theorem zsum_nat {c : Nat → Int32} {n : Nat → Nat} : ∀ {k : Nat}, (∀ i, i < k → c i = nI (n i)) → zsum c 0 k = nI (znsum n k)
  | 0, _ => rfl
  | k + 1, h => by
    show zsum c 0 k + c (0 + k) = nI (znsum n k + n k)
    rw [zsum_nat (fun i hi => h i (by omega)), Nat.zero_add, h k (by omega)]
    exact nI_add _ _
theorem zL_get {L : zCL} {i : Nat} (h : i < L.length) : zL L i = L[i] := by
  unfold zL
  rw [List.getD_eq_getElem?_getD, List.getElem?_eq_getElem h]
  rfl
theorem zL_mem {L : zCL} {i : Nat} (h : i < L.length) : zL L i ∈ L := by
  rw [zL_get h]
  exact List.getElem_mem h
def zPW (L : zCL) : Prop := L.Pairwise (fun a b => a.1 ≠ b.1)
theorem zPW_ND {L : zCL} : zPW L ↔ zND L := by
  unfold zPW
  rw [List.pairwise_iff_getElem]
  constructor
  · intro h a b hab hb
    rw [zL_get (by omega), zL_get hb]
    exact h a b (by omega) hb hab
  · intro h i j hi hj hij
    have := h i j hij hj
    rw [zL_get hi, zL_get hj] at this
    exact this
/-- an item and a weight of a counter, within a bound -/
def zEl (n : Nat → Nat) (e : Int32 × Int32) : Prop := ∃ it m : Nat, it < 64 ∧ e.1 = nI it ∧ e.2 = nI m ∧ 0 < m ∧ m ≤ n it
def zBd (n : Nat → Nat) : Prop := ∀ i, n i ≤ 2000000
def zok (n : Nat → Nat) (L : zCL) : Prop := zPW L ∧ ∀ e ∈ L, zEl n e
theorem zEl_mono {n n' : Nat → Nat} (h : ∀ i, n i ≤ n' i) {e : Int32 × Int32} (he : zEl n e) : zEl n' e := by
  obtain ⟨it, m, h1, h2, h3, h4, h5⟩ := he
  exact ⟨it, m, h1, h2, h3, h4, Nat.le_trans h5 (h it)⟩
theorem zok_mono {n n' : Nat → Nat} {L : zCL} (h : ∀ i, n i ≤ n' i) (hk : zok n L) : zok n' L := ⟨hk.1, fun e he => zEl_mono h (hk.2 e he)⟩
theorem zok_grow {n n' : Nat → Nat} {L : zCL} {it wn : Nat} (hk : zok n L) (hit : it < 64) (hw : 0 < wn) (hn : ∀ i, n i ≤ n' i) (hn2 : n it + wn ≤ n' it) (hB : zBd n') : zok n' (zgrow L (nI it) (nI wn)) := by
  refine ⟨zPW_ND.mpr (zND_grow (zPW_ND.mp hk.1)), fun e he => ?_⟩
  unfold zgrow at he
  by_cases c : zix L (nI it) < L.length
  · rw [if_pos c] at he
    rcases List.mem_or_eq_of_mem_set he with h | h
    · exact zEl_mono hn (hk.2 e h)
    · subst h
      obtain ⟨it2, m, h1, h2, h3, h4, h5⟩ := hk.2 _ (zL_mem c)
      rw [zix_at c] at h2
      have e2 : it = it2 := (nI_eq (by omega) (by omega)).mp h2
      subst e2
      refine ⟨it, m + wn, h1, rfl, ?_, by omega, by omega⟩
      show (zL L (zix L (nI it))).2 + nI wn = _
      rw [h3]
      exact nI_add _ _
  · rw [if_neg c] at he
    by_cases c8 : L.length < 8
    · rw [if_pos c8] at he
      rcases List.mem_append.mp he with h | h
      · exact zEl_mono hn (hk.2 e h)
      · have h9 : e = (nI it, nI wn) := by simpa using h
        subst h9
        exact ⟨it, wn, hit, rfl, rfl, hw, by omega⟩
    · rw [if_neg c8] at he
      exact zEl_mono hn (hk.2 e he)
theorem znI_sub {a b : Nat} (ha : a < 2 ^ 31) (hb : b < 2 ^ 31) : 0 < nI a - nI b ↔ b < a := by
  rw [Int32.lt_iff_toInt_lt, Int32.toInt_sub, nI_toInt ha, nI_toInt hb, Int.bmod_eq_of_le (by omega) (by omega)]
  have h0 : (0 : Int32).toInt = 0 := by decide
  rw [h0]
  omega
theorem zok_tk {n : Nat → Nat} {L : zCL} {an : Nat} (hk : zok n L) (hB : zBd n) (ha : an < 2 ^ 31) : zok n (ztk L (nI an)) := by
  refine ⟨?_, fun e he => ?_⟩
  · have h1 := hk.1
    unfold zPW ztk
    rw [List.pairwise_filterMap]
    refine List.Pairwise.imp ?_ h1
    intro a b hab x hx y hy
    by_cases ca : 0 < a.2 - nI an
    · by_cases cb : 0 < b.2 - nI an
      · rw [if_pos ca] at hx
        rw [if_pos cb] at hy
        cases hx
        cases hy
        exact hab
      · rw [if_neg cb] at hy; cases hy
    · rw [if_neg ca] at hx; cases hx
  · unfold ztk at he
    obtain ⟨a, h1, h2⟩ := List.mem_filterMap.mp he
    obtain ⟨it, m, g1, g2, g3, g4, g5⟩ := hk.2 a h1
    have hb := hB it
    by_cases c : 0 < a.2 - nI an
    · rw [if_pos c] at h2
      cases h2
      rw [g3] at c
      have c2 := (znI_sub (by omega) ha).mp c
      exact ⟨it, m - an, g1, g2, by show a.2 - nI an = _; rw [g3]; exact pk_sub (by omega), by omega, by omega⟩
    · rw [if_neg c] at h2
      cases h2
theorem ztk_lt {L : zCL} {a : Int32} (h : ∃ e ∈ L, ¬ 0 < e.2 - a) : (ztk L a).length < L.length := by
  induction L with
  | nil => obtain ⟨e, he, _⟩ := h; cases he
  | cons b l ih =>
    have hz : ztk (b :: l) a = (if 0 < b.2 - a then [(b.1, b.2 - a)] else []) ++ ztk l a := by
      unfold ztk
      by_cases c : 0 < b.2 - a
      · rw [if_pos c, List.filterMap_cons, if_pos c]; rfl
      · rw [if_neg c, List.filterMap_cons, if_neg c]; rfl
    rw [hz]
    by_cases c : 0 < b.2 - a
    · rw [if_pos c]
      obtain ⟨e, he, hn⟩ := h
      rcases List.mem_cons.mp he with h1 | h1
      · subst h1; exact absurd c hn
      · have := ih ⟨e, h1, hn⟩
        show (ztk l a).length + 1 < l.length + 1
        omega
    · rw [if_neg c]
      have := ztk_len l a
      show (ztk l a).length < l.length + 1
      omega
theorem zmn_or (f : Nat → Int32) : ∀ n, ∃ q, q ≤ n ∧ zmn f n = f q
  | 0 => ⟨0, Nat.le_refl _, rfl⟩
  | n + 1 => by
    rcases zmin_or (zmn f n) (f (n + 1)) with h | h
    · obtain ⟨q, h1, h2⟩ := zmn_or f n
      exact ⟨q, by omega, h.trans h2⟩
    · exact ⟨n + 1, Nat.le_refl _, h⟩
theorem zok_pos {n : Nat → Nat} {L : zCL} (hk : zok n L) (hB : zBd n) : ∀ q, q < L.length → 0 < zLw L q := fun q hq => by
  obtain ⟨it, m, h1, h2, h3, h4, h5⟩ := hk.2 _ (zL_mem hq)
  have := hB it
  show 0 < (zL L q).2
  rw [h3]
  exact (nI_ltI (a := 0) (by decide) (by omega)).mpr h4
/-- the list behind an add -/
theorem zok_add {n n' : Nat → Nat} {L : zCL} {it wn : Nat} (hk : zok n L) (h4 : L.length ≤ 4) (hit : it < 64) (hw : 0 < wn) (hn : ∀ i, n i ≤ n' i) (hn2 : n it + wn ≤ n' it) (hB : zBd n') : zok n' (zadd L (nI it) (nI wn)) ∧ (zadd L (nI it) (nI wn)).length ≤ 4 := by
  have hBn : zBd n := fun i => Nat.le_trans (hn i) (hB i)
  have hwB := hB it
  have hpos := zok_pos hk hBn
  unfold zadd
  by_cases c : zix L (nI it) < L.length ∨ L.length < 4
  · rw [if_pos c]
    refine ⟨zok_grow hk hit hw hn hn2 hB, ?_⟩
    unfold zgrow
    by_cases c2 : zix L (nI it) < L.length
    · rw [if_pos c2, List.length_set]; exact h4
    · rw [if_neg c2]
      by_cases c8 : L.length < 8
      · rw [if_pos c8, List.length_append]; show L.length + 1 ≤ 4; omega
      · omega
  · rw [if_neg c]
    have e4 : L.length = 4 := by omega
    have hM : ∃ mn : Nat, zmin (nI wn) (zmn (zLw L) (L.length - 1)) = nI mn ∧ 0 < mn ∧ mn ≤ wn := by
      obtain ⟨q, q1, q2⟩ := zmn_or (zLw L) (L.length - 1)
      obtain ⟨it2, m2, g1, g2, g3, g4, g5⟩ := hk.2 _ (zL_mem (show q < L.length by omega))
      have hb2 := hBn it2
      rw [q2, show zLw L q = nI m2 from g3]
      unfold zmin
      by_cases c9 : nI m2 < nI wn
      · rw [if_pos c9]
        exact ⟨m2, rfl, g4, Nat.le_of_lt ((nI_ltI (by omega) (by omega)).mp c9)⟩
      · rw [if_neg c9]
        exact ⟨wn, rfl, hw, Nat.le_refl _⟩
    obtain ⟨mn, hm, hm0, hmw⟩ := hM
    by_cases c2 : zmin (nI wn) (zmn (zLw L) (L.length - 1)) < nI wn
    · rw [if_pos c2]
      have hmn : zmin (nI wn) (zmn (zLw L) (L.length - 1)) = zmn (zLw L) (L.length - 1) := by
        rcases zmin_or (nI wn) (zmn (zLw L) (L.length - 1)) with h | h
        · rw [h] at c2
          exact absurd c2 Int32.lt_irrefl
        · exact h
      obtain ⟨q, q1, q2⟩ := zmn_or (zLw L) (L.length - 1)
      have hq : q < L.length := by omega
      have hlt : (ztk L (zmin (nI wn) (zmn (zLw L) (L.length - 1)))).length < L.length := by
        refine ztk_lt ⟨zL L q, zL_mem hq, ?_⟩
        rw [hmn, q2, show zLw L q = (zL L q).2 from rfl, Int32.sub_self]
        exact Int32.lt_irrefl
      rw [hm] at c2 hlt ⊢
      have c3 := (nI_ltI (by omega) (by omega)).mp c2
      rw [pk_sub (show mn ≤ wn by omega)]
      refine ⟨zok_grow (zok_tk hk hBn (by omega)) hit (by omega) hn (by omega) hB, ?_⟩
      have := zgrow_len (L := ztk L (nI mn)) (v := nI it) (w := nI (wn - mn))
      omega
    · rw [if_neg c2, hm]
      refine ⟨zok_mono hn (zok_tk hk hBn (by omega)), ?_⟩
      have := ztk_len L (nI mn)
      omega
/-- one list's counters added to another's -/
theorem zok_jn {N : Nat → Nat} (hB : zBd N) : ∀ (K L : zCL) (f : Nat → Nat), zok f L → zPW K → (∀ e ∈ K, ∃ it m : Nat, it < 64 ∧ e.1 = nI it ∧ e.2 = nI m ∧ 0 < m ∧ f it + m ≤ N it) → (∀ i, f i ≤ N i) → zok N (zjn L K)
  | [], L, f, hk, _, _, hf => zok_mono hf hk
  | e :: K, L, f, hk, hp, he, hf => by
    obtain ⟨it, m, h1, h2, h3, h4, h5⟩ := he e List.mem_cons_self
    have hp2 := List.pairwise_cons.mp hp
    have hb := hB it
    refine zok_jn hB K (zgrow L e.1 e.2) (fun i => if i = it then f i + m else f i) ?_ hp2.2 (fun e' he' => ?_) (fun i => ?_)
    · rw [h2, h3]
      refine zok_grow hk h1 h4 (fun i => ?_) ?_ (fun i => ?_)
      · show f i ≤ if i = it then f i + m else f i
        split <;> omega
      · show f it + m ≤ if it = it then f it + m else f it
        rw [if_pos rfl]
        exact Nat.le_refl _
      · show (if i = it then f i + m else f i) ≤ 2000000
        have := hB i
        have := hf i
        by_cases c : i = it
        · subst c; rw [if_pos rfl]; omega
        · rw [if_neg c]; omega
    · obtain ⟨it2, m2, g1, g2, g3, g4, g5⟩ := he e' (List.mem_cons_of_mem _ he')
      have hne := hp2.1 e' he'
      refine ⟨it2, m2, g1, g2, g3, g4, ?_⟩
      show (if it2 = it then f it2 + m else f it2) + m2 ≤ N it2
      rw [if_neg (fun z => hne (by rw [h2, g2, z]))]
      exact g5
    · show (if i = it then f i + m else f i) ≤ N i
      by_cases c : i = it
      · subst c; rw [if_pos rfl]; exact h5
      · rw [if_neg c]; exact hf i
theorem ztk_gc {n : Nat → Nat} {L : zCL} {an : Nat} (hk : zok n L) (hB : zBd n) (ha : an < 2 ^ 31) : ∀ i, i ≤ L.length → (ztk (L.take i) (nI an)).length ≤ zgc (zLw L) (nI an) i
  | 0, _ => Nat.le_refl _
  | i + 1, h => by
    have ih := ztk_gc hk hB ha i (by omega)
    have hi : i < L.length := by omega
    obtain ⟨it, m, h1, h2, h3, h4, h5⟩ := hk.2 _ (zL_mem hi)
    have hb := hB it
    rw [zL_take hi, ztk_app, List.length_append]
    show _ ≤ zgc (zLw L) (nI an) i + (if nI an < (zL L i).2 then 1 else 0)
    by_cases c : 0 < (zL L i).2 - nI an
    · rw [if_pos c]
      rw [h3] at c ⊢
      have c2 := (znI_sub (by omega) ha).mp c
      rw [if_pos ((nI_ltI ha (by omega)).mpr c2)]
      show _ + 1 ≤ _
      omega
    · rw [if_neg c]
      show _ + 0 ≤ _
      omega
theorem zok_mrg {N : Nat → Nat} {L K : zCL} (hJ : zok N (zjn L K)) (hB : zBd N) : zok N (zmrg L K) ∧ (zmrg L K).length ≤ 4 := by
  unfold zmrg
  by_cases c : 4 < (zjn L K).length
  · rw [if_pos c]
    obtain ⟨k, k1, k2, k3, k4⟩ := zwr_5 (f := zLw (zjn L K)) (n := (zjn L K).length) (by omega) (zok_pos hJ hB)
    obtain ⟨it, m, h1, h2, h3, h4, h5⟩ := hJ.2 _ (zL_mem k1)
    have hb := hB it
    have e9 : zwr (zLw (zjn L K)) 5 (zjn L K).length (zjn L K).length = nI m := k2.symm.trans h3
    rw [e9]
    refine ⟨zok_tk hJ hB (by omega), ?_⟩
    have h6 := ztk_gc hJ hB (an := m) (by omega) (zjn L K).length (Nat.le_refl _)
    rw [List.take_length] at h6
    rw [k2, e9] at k3
    omega
  · rw [if_neg c]
    exact ⟨hJ, by omega⟩
/-- a stream's counts and counters -/
def zgd (c : Nat → Int32) (L : zCL) : Prop := ∃ n : Nat → Nat, (∀ i, i < 64 → c i = nI (n i)) ∧ (∀ i, 64 ≤ i → n i = 0) ∧ znsum n 64 ≤ 1000000 ∧ L.length ≤ 4 ∧ zok n L
theorem zgd_bd {n : Nat → Nat} (h0 : ∀ i, 64 ≤ i → n i = 0) (h : znsum n 64 ≤ 1000000) : zBd n := fun i => by
  by_cases c : i < 64
  · exact Nat.le_trans (znsum_le n c) (Nat.le_trans h (by omega))
  · rw [h0 i (by omega)]; omega
theorem zgd_0 : zgd (fun _ => 0) [] := by
  have hz : ∀ k, znsum (fun _ => 0) k = 0 := by
    intro k
    induction k with
    | zero => rfl
    | succ k ih => show znsum (fun _ => 0) k + 0 = 0; omega
  exact ⟨fun _ => 0, fun _ _ => rfl, fun _ _ => rfl, by rw [hz]; omega, Nat.zero_le _, List.Pairwise.nil, fun e h => absurd h List.not_mem_nil⟩
theorem zgd_jn {c c2 : Nat → Int32} {L K : zCL} (h : zgd c L) (h' : zgd c2 K) (ht : ztot c + ztot c2 ≤ nI 1000000) : ∃ N : Nat → Nat, (∀ i, i < 64 → c i + c2 i = nI (N i)) ∧ (∀ i, 64 ≤ i → N i = 0) ∧ znsum N 64 ≤ 1000000 ∧ zok N (zjn L K) := by
  obtain ⟨n, h1, h2, h3, h4, h5⟩ := h
  obtain ⟨m, g1, g2, g3, g4, g5⟩ := h'
  have hs : ztot c = nI (znsum n 64) := zsum_nat h1
  have hs2 : ztot c2 = nI (znsum m 64) := zsum_nat g1
  rw [hs, hs2, nI_add] at ht
  have ht2 := (nI_leI (by omega) (by decide)).mp ht
  have hsum := znsum_add n m 64
  have h0' : ∀ q, 64 ≤ q → (fun q => n q + m q) q = 0 := fun q hq => by show n q + m q = 0; rw [h2 q hq, g2 q hq]
  have hB := zgd_bd h0' (by rw [hsum]; exact ht2)
  refine ⟨fun q => n q + m q, fun i hi => by rw [h1 i hi, g1 i hi]; exact nI_add _ _, h0', by rw [hsum]; exact ht2, ?_⟩
  refine zok_jn hB K L n h5 g5.1 (fun e he => ?_) (fun i => Nat.le_add_right _ _)
  obtain ⟨it, w, e1, e2, e3, e4, e5⟩ := g5.2 e he
  exact ⟨it, w, e1, e2, e3, e4, by show n it + w ≤ n it + m it; omega⟩
theorem zgd_merge {c c2 : Nat → Int32} {L K : zCL} (h : zgd c L) (h' : zgd c2 K) (ht : ztot c + ztot c2 ≤ nI 1000000) : zgd (fun k => c k + c2 k) (zmrg L K) := by
  obtain ⟨N, n1, n2, n3, n4⟩ := zgd_jn h h' ht
  have hz := zok_mrg n4 (zgd_bd n2 n3)
  exact ⟨N, n1, n2, n3, hz.2, hz.1⟩
theorem zgd_pj {c c2 : Nat → Int32} {L K : zCL} (h : zgd c L) (h' : zgd c2 K) : ∀ q, q < (zjn L K).length → 0 < zLw (zjn L K) q := by
  obtain ⟨n, h1, h2, h3, h4, h5⟩ := h
  obtain ⟨m, g1, g2, g3, g4, g5⟩ := h'
  have hB : zBd (fun q => n q + m q) := fun i => by
    show n i + m i ≤ 2000000
    by_cases c : i < 64
    · have a1 := znsum_le n c
      have a2 := znsum_le m c
      omega
    · rw [h2 i (by omega), g2 i (by omega)]; omega
  refine zok_pos (n := fun q => n q + m q) (zok_jn hB K L n h5 g5.1 (fun e he => ?_) (fun i => Nat.le_add_right _ _)) hB
  obtain ⟨it, w, e1, e2, e3, e4, e5⟩ := g5.2 e he
  exact ⟨it, w, e1, e2, e3, e4, by show n it + w ≤ n it + m it; omega⟩
theorem zgd_hG {c : Nat → Int32} {L : zCL} (h : zgd c L) : zND L ∧ L.length ≤ 4 ∧ ∀ q, q < L.length → 0 < zLw L q := by
  obtain ⟨n, h1, h2, h3, h4, h5⟩ := h
  exact ⟨zPW_ND.mp h5.1, h4, zok_pos h5 (zgd_bd h2 h3)⟩
theorem zsg_int (r i : Nat) (v : Nat) : ∃ z : Int, zsg r i * nI v = Int32.ofInt z ∧ -(v : Int) ≤ z ∧ z ≤ v := by
  unfold zsg
  by_cases c : zspar r i = 0
  · rw [if_pos c, Int32.one_mul]
    exact ⟨v, (Int32.ofInt_eq_ofNat (n := v)).symm, by omega, by omega⟩
  · rw [if_neg c, Int32.neg_mul, Int32.one_mul]
    refine ⟨-(v : Int), ?_, by omega, by omega⟩
    rw [Int32.ofInt_neg, show Int32.ofInt (v : Int) = nI v from Int32.ofInt_eq_ofNat]
theorem zscell_int {c : Nat → Int32} {n : Nat → Nat} {r col : Nat} : ∀ {k : Nat}, (∀ i, i < k → c i = nI (n i)) → ∃ z : Int, zsum (fun i => if zscol r i = col then zsg r i * c i else 0) 0 k = Int32.ofInt z ∧ -(znsum n k : Int) ≤ z ∧ z ≤ znsum n k
  | 0, _ => ⟨0, rfl, by show -((0 : Nat) : Int) ≤ 0; omega, by show (0 : Int) ≤ ((0 : Nat) : Int); omega⟩
  | k + 1, h => by
    obtain ⟨z, z1, z2, z3⟩ := zscell_int (k := k) (fun i hi => h i (by omega))
    have e : ((znsum n (k + 1) : Nat) : Int) = (znsum n k : Int) + (n k : Int) := by show ((znsum n k + n k : Nat) : Int) = _; omega
    show ∃ z : Int, zsum (fun i => if zscol r i = col then zsg r i * c i else 0) 0 k + (if zscol r (0 + k) = col then zsg r (0 + k) * c (0 + k) else 0) = Int32.ofInt z ∧ _
    rw [z1, Nat.zero_add]
    by_cases q : zscol r k = col
    · rw [if_pos q, h k (by omega)]
      obtain ⟨y, y1, y2, y3⟩ := zsg_int r k (n k)
      exact ⟨z + y, by rw [y1, Int32.ofInt_add], by omega, by omega⟩
    · rw [if_neg q, Int32.add_zero]
      exact ⟨z, rfl, by omega, by omega⟩
theorem zgd_hB {c : Nat → Int32} {L : zCL} (h : zgd c L) (r col : Nat) : zscell c r col ≠ -2147483648 := by
  obtain ⟨n, h1, h2, h3, h4, h5⟩ := h
  obtain ⟨z, z1, z2, z3⟩ := zscell_int (r := r) (col := col) h1
  intro e
  have e1 : zscell c r col = Int32.ofInt z := z1
  rw [e1] at e
  have e2 := Int32.toInt_ofInt_of_le (n := z) (by omega) (by omega)
  rw [e] at e2
  have e3 : (-2147483648 : Int32).toInt = -2147483648 := by decide
  omega
