/-! the counters -/
theorem zwt_at {L : zCL} {v : Int32} {q : Nat} (h : zND L) (hq : q < L.length) (e : (zL L q).1 = v) : zwt L v = (zL L q).2 := by
  unfold zwt
  rw [zND_ix h hq e, if_pos hq]
theorem zwt_no {L : zCL} {v : Int32} (h : ∀ q, q < L.length → (zL L q).1 ≠ v) : zwt L v = 0 := by
  unfold zwt
  rw [zix_none h, if_neg (Nat.lt_irrefl _)]
theorem zwt_or (L : zCL) (v : Int32) : (∃ q, q < L.length ∧ (zL L q).1 = v ∧ zwt L v = (zL L q).2) ∨ ((∀ q, q < L.length → (zL L q).1 ≠ v) ∧ zwt L v = 0) := by
  by_cases c : zix L v < L.length
  · exact Or.inl ⟨zix L v, c, zix_at c, if_pos c⟩
  · have h : ∀ q, q < L.length → (zL L q).1 ≠ v := zix_iff.mp (Nat.le_antisymm (zix_le L v) (by omega))
    exact Or.inr ⟨h, zwt_no h⟩
theorem zwt_grow {L : zCL} {v w : Int32} (hN : zND L) (hr : zix L v < L.length ∨ L.length < 8) (u : Int32) : zwt (zgrow L v w) u = zwt L u + if u = v then w else 0 := by
  have hN' : zND (zgrow L v w) := zND_grow hN
  unfold zgrow at hN' ⊢
  by_cases c : zix L v < L.length
  · rw [if_pos c] at hN' ⊢
    by_cases e : u = v
    · subst e
      rw [if_pos rfl, zwt_at hN' (q := zix L u) (by rw [List.length_set]; exact c) (by rw [zL_set c, if_pos rfl]), zL_set c, if_pos rfl]
      show (zL L (zix L u)).2 + w = zwt L u + w
      rw [show zwt L u = (zL L (zix L u)).2 from if_pos c]
    · rw [if_neg e, Int32.add_zero]
      rcases zwt_or L u with ⟨q, h1, h2, h3⟩ | ⟨h1, h2⟩
      · have hq : q ≠ zix L v := fun z => by
          rw [z, zix_at c] at h2
          exact e h2.symm
        rw [h3, zwt_at hN' (q := q) (by rw [List.length_set]; exact h1) (by rw [zL_set c, if_neg hq]; exact h2), zL_set c, if_neg hq]
      · rw [h2]
        refine zwt_no (fun q hq => ?_)
        rw [List.length_set] at hq
        rw [zL_set c]
        by_cases a : q = zix L v
        · rw [if_pos a]; exact fun z => e z.symm
        · rw [if_neg a]; exact h1 q hq
  · have h8 : L.length < 8 := hr.resolve_left c
    rw [if_neg c, if_pos h8] at hN' ⊢
    by_cases e : u = v
    · subst e
      rw [if_pos rfl, zwt_at hN' (q := L.length) (by rw [List.length_append]; show L.length < L.length + 1; omega) (by rw [zL_app_e]), zL_app_e, zwt_no (zix_iff.mp (Nat.le_antisymm (zix_le L u) (by omega))), Int32.zero_add]
    · rw [if_neg e, Int32.add_zero]
      rcases zwt_or L u with ⟨q, h1, h2, h3⟩ | ⟨h1, h2⟩
      · rw [h3, zwt_at hN' (q := q) (by rw [List.length_append]; show q < L.length + 1; omega) (by rw [zL_app_l h1]; exact h2), zL_app_l h1]
      · rw [h2]
        refine zwt_no (fun q hq => ?_)
        rw [List.length_append] at hq
        have hq' : q < L.length + 1 := hq
        by_cases a : q < L.length
        · rw [zL_app_l a]; exact h1 q a
        · rw [show q = L.length by omega, zL_app_e]; exact fun z => e z.symm
/-- the sum of the weights -/
def zns : zCL → Nat
  | [] => 0
  | e :: l => e.2.toNatClampNeg + zns l
def zws : zCL → Int32
  | [] => 0
  | e :: l => e.2 + zws l
def zwB (B : Nat) (L : zCL) : Prop := ∀ e ∈ L, ∃ m : Nat, e.2 = nI m ∧ m ≤ B
theorem zws_nat {B : Nat} (hB : B < 2 ^ 31) : ∀ {L : zCL}, zwB B L → zws L = nI (zns L)
  | [], _ => rfl
  | e :: l, h => by
    obtain ⟨m, h1, h2⟩ := h e List.mem_cons_self
    show e.2 + zws l = nI (e.2.toNatClampNeg + zns l)
    rw [zws_nat hB (fun e' he => h e' (List.mem_cons_of_mem _ he)), h1, nI_clamp (by omega)]
    exact nI_add _ _
theorem zns_app (L : zCL) (e : Int32 × Int32) : zns (L ++ [e]) = zns L + e.2.toNatClampNeg := by
  induction L with
  | nil => show e.2.toNatClampNeg + 0 = 0 + e.2.toNatClampNeg; omega
  | cons a l ih => show a.2.toNatClampNeg + zns (l ++ [e]) = a.2.toNatClampNeg + zns l + e.2.toNatClampNeg; rw [ih]; omega
theorem zns_set : ∀ {L : zCL} {i : Nat} {e : Int32 × Int32}, i < L.length → zns (L.set i e) + (zL L i).2.toNatClampNeg = zns L + e.2.toNatClampNeg
  | [], _, _, h => absurd h (Nat.not_lt_zero _)
  | a :: l, 0, e, _ => by
    show e.2.toNatClampNeg + zns l + a.2.toNatClampNeg = a.2.toNatClampNeg + zns l + e.2.toNatClampNeg
    omega
  | a :: l, i + 1, e, h => by
    have ih := zns_set (L := l) (i := i) (e := e) (Nat.lt_of_succ_lt_succ h)
    show a.2.toNatClampNeg + zns (l.set i e) + (zL l i).2.toNatClampNeg = a.2.toNatClampNeg + zns l + e.2.toNatClampNeg
    omega
theorem zns_grow {L : zCL} {v : Int32} {B w : Nat} (hL : zwB B L) (hB : B + w < 2 ^ 31) (hr : zix L v < L.length ∨ L.length < 8) : zns (zgrow L v (nI w)) = zns L + w := by
  unfold zgrow
  by_cases c : zix L v < L.length
  · obtain ⟨m, h1, h2⟩ := hL _ (zL_mem c)
    have h3 := zns_set (e := (v, (zL L (zix L v)).2 + nI w)) c
    rw [if_pos c]
    have h4 : ((zL L (zix L v)).2 + nI w).toNatClampNeg = m + w := by rw [h1, nI_add, nI_clamp (by omega)]
    have h5 : (zL L (zix L v)).2.toNatClampNeg = m := by rw [h1, nI_clamp (by omega)]
    have h6 : zns (L.set (zix L v) (v, (zL L (zix L v)).2 + nI w)) + (zL L (zix L v)).2.toNatClampNeg = zns L + ((zL L (zix L v)).2 + nI w).toNatClampNeg := h3
    rw [h4, h5] at h6
    omega
  · rw [if_neg c, if_pos (hr.resolve_left c), zns_app]
    show zns L + (nI w).toNatClampNeg = zns L + w
    rw [nI_clamp (by omega)]
theorem zwB_grow {L : zCL} {v : Int32} {B w : Nat} (hL : zwB B L) : zwB (B + w) (zgrow L v (nI w)) := fun e he => by
  unfold zgrow at he
  by_cases c : zix L v < L.length
  · rw [if_pos c] at he
    rcases List.mem_or_eq_of_mem_set he with h | h
    · obtain ⟨m, h1, h2⟩ := hL e h
      exact ⟨m, h1, by omega⟩
    · subst h
      obtain ⟨m, h1, h2⟩ := hL _ (zL_mem c)
      exact ⟨m + w, by show (zL L (zix L v)).2 + nI w = _; rw [h1]; exact nI_add _ _, by omega⟩
  · rw [if_neg c] at he
    by_cases c8 : L.length < 8
    · rw [if_pos c8] at he
      rcases List.mem_append.mp he with h | h
      · obtain ⟨m, h1, h2⟩ := hL e h
        exact ⟨m, h1, by omega⟩
      · have h9 : e = (v, nI w) := by simpa using h
        subst h9
        exact ⟨w, rfl, by omega⟩
    · rw [if_neg c8] at he
      obtain ⟨m, h1, h2⟩ := hL e he
      exact ⟨m, h1, by omega⟩
/-- what an amount takes -/
def zcut (a : Nat) : zCL → Nat
  | [] => 0
  | e :: l => min e.2.toNatClampNeg a + zcut a l
theorem zcut_app (a : Nat) (L : zCL) (e : Int32 × Int32) : zcut a (L ++ [e]) = zcut a L + min e.2.toNatClampNeg a := by
  induction L with
  | nil => show min e.2.toNatClampNeg a + 0 = 0 + min e.2.toNatClampNeg a; omega
  | cons b l ih => show min b.2.toNatClampNeg a + zcut a (l ++ [e]) = min b.2.toNatClampNeg a + zcut a l + min e.2.toNatClampNeg a; rw [ih]; omega
theorem zns_tk {B a : Nat} (hB : B < 2 ^ 31) (ha : a < 2 ^ 31) : ∀ {L : zCL}, zwB B L → zns (ztk L (nI a)) + zcut a L = zns L
  | [], _ => rfl
  | b :: l, h => by
    have ih := zns_tk hB ha (L := l) (fun e he => h e (List.mem_cons_of_mem _ he))
    obtain ⟨m, h1, h2⟩ := h b List.mem_cons_self
    have hz : ztk (b :: l) (nI a) = (if 0 < b.2 - nI a then [(b.1, b.2 - nI a)] else []) ++ ztk l (nI a) := by
      unfold ztk
      by_cases c : 0 < b.2 - nI a
      · rw [if_pos c, List.filterMap_cons, if_pos c]; rfl
      · rw [if_neg c, List.filterMap_cons, if_neg c]; rfl
    have e1 : b.2.toNatClampNeg = m := by rw [h1, nI_clamp (by omega)]
    show _ + (min b.2.toNatClampNeg a + zcut a l) = b.2.toNatClampNeg + zns l
    rw [hz, e1]
    by_cases c : 0 < b.2 - nI a
    · rw [if_pos c]
      have c2 : a < m := by
        rw [h1] at c
        exact (znI_sub (by omega) ha).mp c
      show (b.2 - nI a).toNatClampNeg + zns (ztk l (nI a)) + (min m a + zcut a l) = m + zns l
      rw [h1, pk_sub (by omega), nI_clamp (by omega)]
      omega
    · rw [if_neg c]
      have c2 : ¬ a < m := by
        rw [h1] at c
        exact fun z => c ((znI_sub (by omega) ha).mpr z)
      show zns (ztk l (nI a)) + (min m a + zcut a l) = m + zns l
      omega
theorem zcut_cr {B a : Nat} {L : zCL} (hB : B < 2 ^ 31) (ha : a < 2 ^ 31) (h : zwB B L) : ∀ i, i ≤ L.length → a * zcr (zLw L) (nI a) i ≤ zcut a (L.take i)
  | 0, _ => by show a * 0 ≤ _; omega
  | i + 1, hi => by
    have ih := zcut_cr hB ha h i (by omega)
    have hi' : i < L.length := by omega
    obtain ⟨m, h1, h2⟩ := h _ (zL_mem hi')
    rw [zL_take hi', zcut_app, h1, nI_clamp (by omega)]
    show a * (zcr (zLw L) (nI a) i + if nI a ≤ (zL L i).2 then 1 else 0) ≤ _
    rw [h1, Nat.mul_add]
    by_cases c : nI a ≤ nI m
    · rw [if_pos c]
      have c2 := (nI_leI ha (by omega)).mp c
      omega
    · rw [if_neg c]
      omega
theorem zwt_tk {B a : Nat} {L : zCL} (hB : B < 2 ^ 31) (ha : a < 2 ^ 31) (h : zwB B L) (hN : zND L) (hN' : zND (ztk L (nI a))) (v : Int32) : (zwt L v).toNatClampNeg ≤ (zwt (ztk L (nI a)) v).toNatClampNeg + a := by
  rcases zwt_or L v with ⟨q, h1, h2, h3⟩ | ⟨h1, h2⟩
  · obtain ⟨m, g1, g2⟩ := h _ (zL_mem h1)
    rw [h3, g1, nI_clamp (by omega)]
    by_cases c : m ≤ a
    · omega
    · have hc : 0 < (zL L q).2 - nI a := by rw [g1]; exact (znI_sub (by omega) ha).mpr (by omega)
      have hm : ((zL L q).1, (zL L q).2 - nI a) ∈ ztk L (nI a) := by
        unfold ztk
        exact List.mem_filterMap.mpr ⟨zL L q, zL_mem h1, by rw [if_pos hc]⟩
      obtain ⟨i, hi, ei⟩ := List.mem_iff_getElem.mp hm
      rw [zwt_at hN' hi (by rw [zL_get hi, ei]; exact h2), zL_get hi, ei]
      show m ≤ ((zL L q).2 - nI a).toNatClampNeg + a
      rw [g1, pk_sub (by omega), nI_clamp (by omega)]
      omega
  · rw [h2]
    show (0 : Nat) ≤ _
    omega
theorem zmn_le (f : Nat → Int32) : ∀ n q, q ≤ n → zmn f n ≤ f q
  | 0, q, h => by rw [show q = 0 by omega]; exact Int32.le_refl _
  | n + 1, q, h => by
    show zmin (zmn f n) (f (n + 1)) ≤ f q
    by_cases e : q = n + 1
    · subst e; exact zmin_le2 _ _
    · exact Int32.le_trans (zmin_le1 _ _) (zmn_le f n q (by omega))
theorem zcr_all2 {f : Nat → Int32} {w : Int32} : ∀ {n : Nat}, (∀ q, q < n → w ≤ f q) → zcr f w n = n
  | 0, _ => rfl
  | n + 1, h => by
    show zcr f w n + (if w ≤ f n then 1 else 0) = n + 1
    rw [zcr_all2 (n := n) (fun q hq => h q (by omega)), if_pos (h n (by omega))]
/-- n: the counts; L, aw: the counters and the number taken -/
def zfw (n : Nat → Nat) (L : zCL) (aw : Int32) : Prop := ∃ t : Nat, aw = nI t ∧ (∀ i, i < 64 → n i ≤ (zwt L (nI i)).toNatClampNeg + t) ∧ zns L + 5 * t ≤ znsum n 64
theorem zok_wB {n : Nat → Nat} {L : zCL} {B : Nat} (h : zok n L) (hB : ∀ i, n i ≤ B) : zwB B L := fun e he => by
  obtain ⟨it, m, h1, h2, h3, h4, h5⟩ := h.2 e he
  exact ⟨m, h3, Nat.le_trans h5 (hB it)⟩
theorem zwt_nat {B : Nat} {L : zCL} (h : zwB B L) (v : Int32) : ∃ m : Nat, zwt L v = nI m ∧ m ≤ B := by
  rcases zwt_or L v with ⟨q, h1, h2, h3⟩ | ⟨h1, h2⟩
  · obtain ⟨m, g1, g2⟩ := h _ (zL_mem h1)
    exact ⟨m, h3.trans g1, g2⟩
  · exact ⟨0, h2, Nat.zero_le _⟩
theorem znI_eq64 {i k : Nat} (hi : i < 64) (hk : k < 64) : nI i = nI k ↔ i = k := nI_eq (by omega) (by omega)
theorem zwt_growN {L : zCL} {B it w i : Nat} (hN : zND L) (hr : zix L (nI it) < L.length ∨ L.length < 8) (hL : zwB B L) (hB : B + w < 2 ^ 31) (hi : i < 64) (hit : it < 64) : (zwt (zgrow L (nI it) (nI w)) (nI i)).toNatClampNeg = (zwt L (nI i)).toNatClampNeg + if i = it then w else 0 := by
  rw [zwt_grow hN hr]
  obtain ⟨m, h1, h2⟩ := zwt_nat hL (nI i)
  rw [h1, nI_clamp (show m < 2 ^ 31 by omega)]
  by_cases e : i = it
  · rw [if_pos ((znI_eq64 hi hit).mpr e), if_pos e, nI_add, nI_clamp (by omega)]
  · rw [if_neg (fun z => e ((znI_eq64 hi hit).mp z)), if_neg e, Int32.add_zero, nI_clamp (by omega)]
    rfl
theorem zfw_add {n : Nat → Nat} {L : zCL} {aw : Int32} {it wn : Nat} (hk : zok n L) (h4 : L.length ≤ 4) (hf : zfw n L aw) (hB : ∀ i, n i ≤ 1000000) (hT : znsum n 64 + wn ≤ 1000000) (hit : it < 64) (hw : 0 < wn) : zfw (zup n it wn) (zadd L (nI it) (nI wn)) (aw + zaddw L (nI it) (nI wn)) := by
  obtain ⟨t, f1, f2, f3⟩ := hf
  have hBB : zBd n := fun i => by have := hB i; omega
  have hpos := zok_pos hk hBB
  have hwB := zok_wB hk hB
  have hN := zPW_ND.mp hk.1
  have hs := znsum_zup (n := n) (w := wn) hit
  unfold zadd zaddw
  by_cases c : zix L (nI it) < L.length ∨ L.length < 4
  · have hr : zix L (nI it) < L.length ∨ L.length < 8 := c.imp id (fun z => by omega)
    rw [if_pos c, if_pos c, Int32.add_zero]
    refine ⟨t, f1, fun i hi => ?_, ?_⟩
    · rw [zwt_growN hN hr hwB (by omega) hi hit]
      have := f2 i hi
      show (if i = it then n i + wn else n i) ≤ _
      by_cases e : i = it
      · rw [if_pos e, if_pos e]; omega
      · rw [if_neg e, if_neg e]; omega
    · rw [zns_grow hwB (by omega) hr, hs]
      omega
  · rw [if_neg c, if_neg c]
    have e4 : L.length = 4 := by omega
    have hM : ∃ mn : Nat, zmin (nI wn) (zmn (zLw L) (L.length - 1)) = nI mn ∧ 0 < mn ∧ mn ≤ wn ∧ (∀ q, q < L.length → nI mn ≤ zLw L q) := by
      obtain ⟨q, q1, q2⟩ := zmn_or (zLw L) (L.length - 1)
      obtain ⟨it2, m2, g1, g2, g3, g4, g5⟩ := hk.2 _ (zL_mem (show q < L.length by omega))
      have hb2 := hB it2
      have hle : ∀ q, q < L.length → zmin (nI wn) (zmn (zLw L) (L.length - 1)) ≤ zLw L q := fun q hq => Int32.le_trans (zmin_le2 _ _) (zmn_le (zLw L) (L.length - 1) q (by omega))
      rw [q2, show zLw L q = nI m2 from g3] at hle ⊢
      unfold zmin at hle ⊢
      by_cases c9 : nI m2 < nI wn
      · rw [if_pos c9] at hle ⊢
        exact ⟨m2, rfl, g4, Nat.le_of_lt ((nI_ltI (by omega) (by omega)).mp c9), hle⟩
      · rw [if_neg c9] at hle ⊢
        exact ⟨wn, rfl, hw, Nat.le_refl _, hle⟩
    obtain ⟨mn, hm, hm0, hmw, hml⟩ := hM
    rw [hm]
    have hkt := zok_tk hk hBB (an := mn) (by omega)
    have hNt := zPW_ND.mp hkt.1
    have hwBt := zok_wB hkt hB
    have hcut : zns (ztk L (nI mn)) + 4 * mn ≤ zns L := by
      have h1 := zns_tk (a := mn) (by omega) (by omega) hwB
      have h2 := zcut_cr (a := mn) (by omega) (by omega) hwB L.length (Nat.le_refl _)
      rw [List.take_length, zcr_all2 hml, e4] at h2
      omega
    have hn0 : (zwt L (nI it)).toNatClampNeg = 0 := by
      rw [zwt_no (zix_iff.mp (Nat.le_antisymm (zix_le L (nI it)) (by omega)))]
      rfl
    have hit2 := f2 it hit
    rw [hn0] at hit2
    rw [f1, nI_add]
    by_cases c2 : nI mn < nI wn
    · rw [if_pos c2, pk_sub (show mn ≤ wn by omega)]
      have hr : zix (ztk L (nI mn)) (nI it) < (ztk L (nI mn)).length ∨ (ztk L (nI mn)).length < 8 := Or.inr (by have := ztk_len L (nI mn); omega)
      refine ⟨t + mn, rfl, fun i hi => ?_, ?_⟩
      · rw [zwt_growN hNt hr hwBt (by omega) hi hit]
        have h1 := zwt_tk (a := mn) (by omega) (by omega) hwB hN hNt (nI i)
        have h2 := f2 i hi
        show (if i = it then n i + wn else n i) ≤ _
        by_cases e : i = it
        · subst e
          rw [if_pos rfl, if_pos rfl]; omega
        · rw [if_neg e, if_neg e]; omega
      · rw [zns_grow hwBt (by omega) hr, hs]
        omega
    · rw [if_neg c2]
      have e9 : mn = wn := by
        have h9 : ¬ mn < wn := fun z => c2 ((nI_ltI (a := mn) (b := wn) (by omega) (by omega)).mpr z)
        omega
      refine ⟨t + mn, rfl, fun i hi => ?_, ?_⟩
      · have h1 := zwt_tk (a := mn) (by omega) (by omega) hwB hN hNt (nI i)
        have h2 := f2 i hi
        show (if i = it then n i + wn else n i) ≤ _
        by_cases e : i = it
        · subst e
          rw [if_pos rfl]; omega
        · rw [if_neg e]; omega
      · rw [hs]
        omega
/-! two lists in one -/
theorem zjn_facts : ∀ (K L : zCL) (B : Nat), zND L → zPW K → zwB B L → zwB 1000000 K → L.length + K.length ≤ 8 → B + K.length * 1000000 < 2 ^ 31 →
    zns (zjn L K) = zns L + zns K ∧ (∀ u, zwt (zjn L K) u = zwt L u + zwt K u) ∧ zwB (B + K.length * 1000000) (zjn L K) ∧ zND (zjn L K)
  | [], L, B, hN, _, hL, _, _, _ => ⟨rfl, fun u => (Int32.add_zero _).symm, by rw [show B + ([] : zCL).length * 1000000 = B from Nat.add_zero B]; exact hL, hN⟩
  | e :: K, L, B, hN, hP, hL, hK, hlen, hB => by
    have hp2 := List.pairwise_cons.mp hP
    obtain ⟨w, w1, w2⟩ := hK e List.mem_cons_self
    have hl9 : L.length + (K.length + 1) ≤ 8 := hlen
    have hB9 : B + (K.length + 1) * 1000000 < 2 ^ 31 := hB
    have hr : zix L e.1 < L.length ∨ L.length < 8 := Or.inr (by omega)
    have hg := zgrow_len (L := L) (v := e.1) (w := nI w)
    have hwB : zwB (B + 1000000) (zgrow L e.1 (nI w)) := fun e' he' => by
      obtain ⟨m, m1, m2⟩ := zwB_grow (v := e.1) (w := w) hL e' he'
      exact ⟨m, m1, by omega⟩
    obtain ⟨i1, i2, i3, i4⟩ := zjn_facts K (zgrow L e.1 (nI w)) (B + 1000000) (zND_grow hN) hp2.2 hwB (fun e' he' => hK e' (List.mem_cons_of_mem _ he')) (by omega) (by omega)
    have hj : zjn L (e :: K) = zjn (zgrow L e.1 (nI w)) K := by rw [← w1]; rfl
    rw [hj]
    refine ⟨?_, fun u => ?_, ?_, i4⟩
    · rw [i1, zns_grow hL (by omega) hr]
      show zns L + w + zns K = zns L + (e.2.toNatClampNeg + zns K)
      rw [w1, nI_clamp (by omega)]
      omega
    · rw [i2, zwt_grow hN hr]
      have hc : zwt (e :: K) u = if e.1 = u then e.2 else zwt K u := by
        unfold zwt
        show (if (if e.1 = u then 0 else zix K u + 1) < K.length + 1 then (zL (e :: K) (if e.1 = u then 0 else zix K u + 1)).2 else 0) = _
        by_cases c : e.1 = u
        · rw [if_pos c, if_pos c, if_pos (by omega)]; rfl
        · rw [if_neg c, if_neg c]
          by_cases d : zix K u < K.length
          · rw [if_pos (by omega), if_pos d]; rfl
          · rw [if_neg (by omega), if_neg d]
      rw [hc]
      by_cases c : e.1 = u
      · subst c
        rw [if_pos rfl, if_pos rfl, w1]
        have h0 : zwt K e.1 = 0 := zwt_no (fun q hq z => hp2.1 _ (zL_mem hq) z.symm)
        rw [h0, Int32.add_zero]
      · rw [if_neg c, if_neg (fun z => c z.symm), Int32.add_zero]
    · intro e' he'
      obtain ⟨m, m1, m2⟩ := i3 e' he'
      exact ⟨m, m1, by show m ≤ B + (K.length + 1) * 1000000; omega⟩
theorem zfw_mrg {n n' : Nat → Nat} {L K : zCL} {aw ow : Int32} (hk : zok n L) (hk' : zok n' K) (h4 : L.length ≤ 4) (h4' : K.length ≤ 4) (hf : zfw n L aw) (hf' : zfw n' K ow) (hB : ∀ i, n i ≤ 1000000) (hB' : ∀ i, n' i ≤ 1000000) : zfw (fun q => n q + n' q) (zmrg L K) (aw + ow + zmrgw L K) ∧ ∃ z : Nat, zmrgw L K = nI z ∧ z ≤ 5000000 := by
  obtain ⟨t, f1, f2, f3⟩ := hf
  obtain ⟨t', g1, g2, g3⟩ := hf'
  have hN := zPW_ND.mp hk.1
  have hwB := zok_wB hk hB
  have hwB' := zok_wB hk' hB'
  obtain ⟨i1, i2, i3, i4⟩ := zjn_facts K L 1000000 hN hk'.1 hwB hwB' (by omega) (by omega)
  have hBJ : zwB 5000000 (zjn L K) := fun e he => by
    obtain ⟨m, m1, m2⟩ := i3 e he
    exact ⟨m, m1, by omega⟩
  have hs := znsum_add n n' 64
  have hw : ∀ i, (zwt (zjn L K) (nI i)).toNatClampNeg = (zwt L (nI i)).toNatClampNeg + (zwt K (nI i)).toNatClampNeg := fun i => by
    obtain ⟨a, a1, a2⟩ := zwt_nat hwB (nI i)
    obtain ⟨b, b1, b2⟩ := zwt_nat hwB' (nI i)
    rw [i2, a1, b1, nI_add, nI_clamp (by omega), nI_clamp (by omega), nI_clamp (by omega)]
  rw [f1, g1, nI_add]
  unfold zmrg zmrgw
  by_cases c : 4 < (zjn L K).length
  · rw [if_pos c, if_pos c]
    have hp : ∀ q, q < (zjn L K).length → 0 < zLw (zjn L K) q := by
      have hBd : zBd (fun q => n q + n' q) := fun i => by
        have := hB i
        have := hB' i
        show n i + n' i ≤ 2000000
        omega
      refine zok_pos (n := fun q => n q + n' q) (zok_jn hBd K L n hk hk'.1 (fun e he => ?_) (fun i => Nat.le_add_right _ _)) hBd
      obtain ⟨it, w, e1, e2, e3, e4, e5⟩ := hk'.2 e he
      exact ⟨it, w, e1, e2, e3, e4, by show n it + w ≤ n it + n' it; omega⟩
    obtain ⟨k, k1, k2, k3, k4⟩ := zwr_5 (f := zLw (zjn L K)) (n := (zjn L K).length) (by omega) hp
    obtain ⟨m, m1, m2⟩ := hBJ _ (zL_mem k1)
    have e9 : zwr (zLw (zjn L K)) 5 (zjn L K).length (zjn L K).length = nI m := k2.symm.trans m1
    have e8 : zLw (zjn L K) k = nI m := m1
    rw [e8] at k4
    rw [e9]
    have hNt : zND (ztk (zjn L K) (nI m)) := by
      have h1 := zPW_ND.mpr i4
      refine zPW_ND.mp ?_
      unfold zPW ztk
      rw [List.pairwise_filterMap]
      refine List.Pairwise.imp ?_ h1
      intro a b hab x hx y hy
      by_cases ca : 0 < a.2 - nI m
      · by_cases cb : 0 < b.2 - nI m
        · rw [if_pos ca] at hx
          rw [if_pos cb] at hy
          cases hx
          cases hy
          exact hab
        · rw [if_neg cb] at hy; cases hy
      · rw [if_neg ca] at hx; cases hx
    have hcut : zns (ztk (zjn L K) (nI m)) + 5 * m ≤ zns (zjn L K) := by
      have h1 := zns_tk (a := m) (by omega) (by omega) hBJ
      have h2 := zcut_cr (a := m) (by omega) (by omega) hBJ (zjn L K).length (Nat.le_refl _)
      rw [List.take_length] at h2
      have h3 : m * 5 ≤ m * zcr (zLw (zjn L K)) (nI m) (zjn L K).length := Nat.mul_le_mul_left m (by omega)
      omega
    refine ⟨⟨t + t' + m, by rw [nI_add], fun i hi => ?_, ?_⟩, m, rfl, m2⟩
    · have h1 := zwt_tk (a := m) (by omega) (by omega) hBJ i4 hNt (nI i)
      have h2 := f2 i hi
      have h3 := g2 i hi
      have h4 := hw i
      show n i + n' i ≤ _
      omega
    · rw [hs]
      omega
  · rw [if_neg c, if_neg c, Int32.add_zero]
    refine ⟨⟨t + t', rfl, fun i hi => ?_, ?_⟩, 0, rfl, Nat.zero_le _⟩
    · have h2 := f2 i hi
      have h3 := g2 i hi
      have h4 := hw i
      show n i + n' i ≤ _
      omega
    · rw [hs, i1]
      omega
theorem zfw_0 : zfw (fun _ => 0) [] 0 := ⟨0, rfl, fun _ _ => Nat.zero_le _, Nat.zero_le _⟩
