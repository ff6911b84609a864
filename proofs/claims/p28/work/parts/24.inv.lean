/-! all of it -/
def zbs (n : Nat → Nat) (c : Nat → Int32) (L : zCL) : Prop := (∀ i, i < 64 → c i = nI (n i)) ∧ (∀ i, 64 ≤ i → n i = 0) ∧ znsum n 64 ≤ 1000000 ∧ L.length ≤ 4 ∧ zok n L
def zgx (c d : Nat → Int32) (L : zCL) (aw : Int32) : Prop := ∃ n, zbs n c L ∧ zsk n d ∧ zfw n L aw
theorem zbs_le {n : Nat → Nat} {c : Nat → Int32} {L : zCL} (h : zbs n c L) : ∀ i, n i ≤ 1000000 := fun i => by
  by_cases e : i < 64
  · exact Nat.le_trans (znsum_le n e) h.2.2.1
  · rw [h.2.1 i (by omega)]; omega
theorem zbs_tot {n : Nat → Nat} {c : Nat → Int32} {L : zCL} (h : zbs n c L) : ztot c = nI (znsum n 64) := zsum_nat h.1
theorem zgx_0 : zgx (fun _ => 0) (fun _ => 0) [] 0 := ⟨fun _ => 0, ⟨fun _ _ => rfl, fun _ _ => rfl, by rw [znsum_0]; omega, Nat.zero_le _, List.Pairwise.nil, fun e h => absurd h List.not_mem_nil⟩, zsk_0, zfw_0⟩
theorem zgx_add {c d : Nat → Int32} {L : zCL} {aw : Int32} {i w : Nat} (h : zgx c d L aw) (hi : i < 64) (h1 : 1 ≤ w) (h2 : w ≤ 1000) (ht : ztot c + nI w ≤ nI 1000000) : zgx (upd c i (c i + nI w)) (zdput d i (nI w)) (zadd L (nI i) (nI w)) (aw + zaddw L (nI i) (nI w)) := by
  obtain ⟨n, hb, hk, hf⟩ := h
  have hle := zbs_le hb
  rw [zbs_tot hb, nI_add] at ht
  have hT := hb.2.2.1
  have ht2 := (nI_leI (by omega) (by omega)).mp ht
  have hs := znsum_zup (n := n) (w := w) hi
  have hBd : zBd (zup n i w) := fun q => by
    have := hle q
    show (if q = i then n q + w else n q) ≤ 2000000
    split <;> omega
  have hz := zok_add hb.2.2.2.2 hb.2.2.2.1 hi (show 0 < w by omega) (n' := zup n i w) (fun q => by show n q ≤ if q = i then n q + w else n q; split <;> omega) (by show n i + w ≤ if i = i then n i + w else n i; rw [if_pos rfl]; exact Nat.le_refl _) hBd
  refine ⟨zup n i w, ⟨fun q hq => ?_, fun q hq => ?_, by rw [hs]; exact ht2, hz.2, hz.1⟩, zsk_put hk hi ht2, zfw_add hb.2.2.2.2 hb.2.2.2.1 hf hle ht2 hi (by omega)⟩
  · show upd c i (c i + nI w) q = nI (if q = i then n q + w else n q)
    by_cases e : q = i
    · subst e
      rw [pk_us, if_pos rfl, hb.1 q hq]
      exact nI_add _ _
    · rw [pk_un e, if_neg e]
      exact hb.1 q hq
  · show (if q = i then n q + w else n q) = 0
    rw [if_neg (by omega)]
    exact hb.2.1 q hq
theorem zgx_mrg {c d c2 d2 : Nat → Int32} {L K : zCL} {aw ow : Int32} (h : zgx c d L aw) (h' : zgx c2 d2 K ow) (ht : ztot c + ztot c2 ≤ nI 1000000) : zgx (fun k => c k + c2 k) (fun k => d k + d2 k) (zmrg L K) (aw + ow + zmrgw L K) := by
  obtain ⟨n, hb, hk, hf⟩ := h
  obtain ⟨m, gb, gk, gf⟩ := h'
  have hle := zbs_le hb
  have gle := zbs_le gb
  rw [zbs_tot hb, zbs_tot gb, nI_add] at ht
  have hT := hb.2.2.1
  have gT := gb.2.2.1
  have ht2 := (nI_leI (by omega) (by omega)).mp ht
  have hs := znsum_add n m 64
  have hBd : zBd (fun q => n q + m q) := fun i => by
    have := hle i
    have := gle i
    show n i + m i ≤ 2000000
    omega
  have hJ : zok (fun q => n q + m q) (zjn L K) := by
    refine zok_jn hBd K L n hb.2.2.2.2 gb.2.2.2.2.1 (fun e he => ?_) (fun i => Nat.le_add_right _ _)
    obtain ⟨it, w, e1, e2, e3, e4, e5⟩ := gb.2.2.2.2.2 e he
    exact ⟨it, w, e1, e2, e3, e4, by show n it + w ≤ n it + m it; omega⟩
  have hz := zok_mrg hJ hBd
  exact ⟨fun q => n q + m q, ⟨fun i hi => by show c i + c2 i = nI (n i + m i); rw [hb.1 i hi, gb.1 i hi]; exact nI_add _ _, fun i hi => by show n i + m i = 0; rw [hb.2.1 i hi, gb.2.1 i hi], by rw [hs]; exact ht2, hz.2, hz.1⟩, zsk_add hk gk, (zfw_mrg hb.2.2.2.2 gb.2.2.2.2 hb.2.2.2.1 gb.2.2.2.1 hf gf hle gle).1⟩
def zGood (S : zS) : Prop := ∀ j, j < 4 → zgx (S.1 j) (S.2.1 j) (S.2.2.1 j) (S.2.2.2 j)
theorem zGood_j {S : zS} {j : Nat} {c d : Nat → Int32} {L : zCL} {aw : Int32} (h : zGood S) (hz : zgx c d L aw) : zGood (zSj S j c d L aw) := fun q hq => by
  by_cases e : q = j
  · subst e
    exact zSj_s (P := zgx) hz
  · exact zSj_n (P := zgx) e (h q hq)
theorem zGood_0 : zGood (fun _ _ => 0, fun _ _ => 0, fun _ => [], fun _ => 0) := fun j hj => zgx_0
/-! ===== what the law asks of a stream ===== -/
theorem zq_tot {c d : Nat → Int32} {L : zCL} {aw : Int32} (h : zgx c d L aw) : ∃ T : Nat, T ≤ 1000000 ∧ ztot c = nI T := by
  obtain ⟨n, hb, -, -⟩ := h
  exact ⟨_, hb.2.2.1, zbs_tot hb⟩
theorem zpw {lev half : Nat} (hl : lev < 7) (hh : half < 64 / 2 ^ lev) : half * 2 ^ lev + 2 ^ lev ≤ 64 ∧ 1 ≤ 2 ^ lev := by
  rcases (show lev = 0 ∨ lev = 1 ∨ lev = 2 ∨ lev = 3 ∨ lev = 4 ∨ lev = 5 ∨ lev = 6 by omega) with e | e | e | e | e | e | e <;> subst e <;> omega
theorem zq_est {c d : Nat → Int32} {L : zCL} {aw : Int32} (h : zgx c d L aw) : ∃ n : Nat → Nat, znsum n 64 ≤ 1000000 ∧ ztot c = nI (znsum n 64) ∧ (∀ i, i < 64 → c i = nI (n i)) ∧ ∀ lev half, lev < 7 → half < 64 / 2 ^ lev → zsum c (half * 2 ^ lev) (2 ^ lev) = nI (znr n (half * 2 ^ lev) (2 ^ lev)) ∧ ∃ E : Nat, zest c d lev half = nI E ∧ znr n (half * 2 ^ lev) (2 ^ lev) ≤ E ∧ E ≤ znsum n 64 := by
  obtain ⟨n, hb, ⟨m, h1, h2⟩, -⟩ := h
  refine ⟨n, hb.2.2.1, zbs_tot hb, hb.1, fun lev half hl hh => ?_⟩
  obtain ⟨p1, p2⟩ := zpw hl hh
  have e1 : zsum c (half * 2 ^ lev) (2 ^ lev) = nI (znr n (half * 2 ^ lev) (2 ^ lev)) := zsum_znr (fun k h1 h2 => hb.1 k (by omega))
  refine ⟨e1, ?_⟩
  unfold zest
  by_cases c3 : lev < 3
  · rw [if_pos c3]
    have hT := hb.2.2.1
    refine ⟨zlN (fun q => m (24 * lev + q)) half, zleast_nat (T := znsum n 64) (by omega) (fun q => h1 (24 * lev + q)), zlN_ge (fun r hr => h2 lev half r c3 hh hr), ?_⟩
    have := zlN_le0 (fun q => m (24 * lev + q)) half
    have := (h1 (24 * lev + zcp 0 half)).2
    omega
  · rw [if_neg c3]
    exact ⟨_, e1, Nat.le_refl _, znr_le p1⟩
theorem zq_ge {c d : Nat → Int32} {L : zCL} {aw : Int32} (h : zgx c d L aw) {lev half : Nat} (hl : lev < 7) (hh : half < 64 / 2 ^ lev) : ¬ zest c d lev half < zsum c (half * 2 ^ lev) (2 ^ lev) := by
  obtain ⟨n, h1, h2, h3, h4⟩ := zq_est h
  obtain ⟨e1, E, e2, e3, e4⟩ := h4 lev half hl hh
  rw [e1, e2]
  exact fun z => absurd ((nI_ltI (by omega) (by omega)).mp z) (by omega)
theorem zq_le {c d : Nat → Int32} {L : zCL} {aw : Int32} (h : zgx c d L aw) {lev half : Nat} (hl : lev < 7) (hh : half < 64 / 2 ^ lev) : zest c d lev half ≤ ztot c := by
  obtain ⟨n, h1, h2, h3, h4⟩ := zq_est h
  obtain ⟨e1, E, e2, e3, e4⟩ := h4 lev half hl hh
  rw [h2, e2]
  exact (nI_leI (by omega) (by omega)).mpr e4
theorem zq_eq (c d : Nat → Int32) {lev half : Nat} (hl : ¬ lev < 3) : zest c d lev half = zsum c (half * 2 ^ lev) (2 ^ lev) := if_neg hl
theorem zq_cell (c d : Nat → Int32) {lev half : Nat} (hl : lev < 3) : zest c d lev half ≤ d (24 * lev + (0 * 8 + zccol 0 half)) ∧ zest c d lev half ≤ d (24 * lev + (1 * 8 + zccol 1 half)) ∧ zest c d lev half ≤ d (24 * lev + (2 * 8 + zccol 2 half)) ∧ (zest c d lev half = d (24 * lev + (0 * 8 + zccol 0 half)) ∨ zest c d lev half = d (24 * lev + (1 * 8 + zccol 1 half)) ∨ zest c d lev half = d (24 * lev + (2 * 8 + zccol 2 half))) := by
  have e : zest c d lev half = zmin (zmin (d (24 * lev + (0 * 8 + zccol 0 half))) (d (24 * lev + (1 * 8 + zccol 1 half)))) (d (24 * lev + (2 * 8 + zccol 2 half))) := if_pos hl
  rw [e]
  refine ⟨Int32.le_trans (zmin_le1 _ _) (zmin_le1 _ _), Int32.le_trans (zmin_le1 _ _) (zmin_le2 _ _), zmin_le2 _ _, ?_⟩
  rcases zmin_or (zmin (d (24 * lev + (0 * 8 + zccol 0 half))) (d (24 * lev + (1 * 8 + zccol 1 half)))) (d (24 * lev + (2 * 8 + zccol 2 half))) with z | z
  · rw [z]
    rcases zmin_or (d (24 * lev + (0 * 8 + zccol 0 half))) (d (24 * lev + (1 * 8 + zccol 1 half))) with y | y
    · exact Or.inl y
    · exact Or.inr (Or.inl y)
  · exact Or.inr (Or.inr z)
theorem zq_top (c d : Nat → Int32) : zest c d 6 0 = ztot c := if_neg (by omega)
/-! counters -/
theorem zq_len {c d : Nat → Int32} {L : zCL} {aw : Int32} (h : zgx c d L aw) : L.length ≤ 4 := by
  obtain ⟨n, hb, -, -⟩ := h
  exact hb.2.2.2.1
theorem zq_nd {c d : Nat → Int32} {L : zCL} {aw : Int32} (h : zgx c d L aw) : zND L := by
  obtain ⟨n, hb, -, -⟩ := h
  exact zPW_ND.mp hb.2.2.2.2.1
theorem zq_item {c d : Nat → Int32} {L : zCL} {aw : Int32} (h : zgx c d L aw) {q : Nat} (hq : q < L.length) : ∃ it : Nat, it < 64 ∧ (zL L q).1 = nI it := by
  obtain ⟨n, hb, -, -⟩ := h
  obtain ⟨it, m, h1, h2, -⟩ := hb.2.2.2.2.2 _ (zL_mem hq)
  exact ⟨it, h1, h2⟩
theorem zq_wt {c d : Nat → Int32} {L : zCL} {aw : Int32} (h : zgx c d L aw) {q : Nat} (hq : q < L.length) {v : Int32} (e : (zL L q).1 = v) : zwt L v = (zL L q).2 := zwt_at (zq_nd h) hq e
theorem zq_pos {c d : Nat → Int32} {L : zCL} {aw : Int32} (h : zgx c d L aw) {q : Nat} (hq : q < L.length) : ¬ (zL L q).2 ≤ 0 := by
  obtain ⟨n, hb, -, -⟩ := h
  obtain ⟨it, m, h1, h2, h3, h4, h5⟩ := hb.2.2.2.2.2 _ (zL_mem hq)
  have := zbs_le hb it
  rw [h3]
  exact nI_nle h4 (by omega)
theorem zq_few {c d : Nat → Int32} {L : zCL} {aw : Int32} (h : zgx c d L aw) {i : Nat} (hi : i < 64) : zwt L (nI i) ≤ c i ∧ c i ≤ zwt L (nI i) + aw := by
  obtain ⟨n, hb, -, t, f1, f2, f3⟩ := h
  have hle := zbs_le hb
  have hT := hb.2.2.1
  have h2 := f2 i hi
  obtain ⟨m, m1, m2⟩ := zwt_nat (zok_wB hb.2.2.2.2 hle) (nI i)
  rw [m1, nI_clamp (by omega)] at h2
  have hn := hle i
  rw [m1, f1, hb.1 i hi, nI_add]
  refine ⟨(nI_leI (by omega) (by omega)).mpr ?_, (nI_leI (by omega) (by omega)).mpr h2⟩
  rcases zwt_or L (nI i) with ⟨q, q1, q2, q3⟩ | ⟨q1, q2⟩
  · obtain ⟨it, w, g1, g2, g3, g4, g5⟩ := hb.2.2.2.2.2 _ (zL_mem q1)
    have e : it = i := (znI_eq64 g1 hi).mp (g2.symm.trans q2)
    subst e
    have hw := hle it
    have e2 : nI m = nI w := m1.symm.trans (q3.trans g3)
    have e3 := (nI_eq (by omega) (by omega)).mp e2
    omega
  · have e2 : nI m = nI 0 := m1.symm.trans q2
    have e3 := (nI_eq (by omega) (by omega)).mp e2
    omega
theorem zws_take {L : zCL} {q : Nat} (h : q < L.length) : zws (L.take (q + 1)) = zws (L.take q) + (zL L q).2 := by
  rw [zL_take h]
  generalize L.take q = M
  induction M with
  | nil => show (zL L q).2 + 0 = 0 + (zL L q).2; rw [Int32.add_zero, Int32.zero_add]
  | cons a l ih => show a.2 + zws (l ++ [zL L q]) = a.2 + zws l + (zL L q).2; rw [ih, Int32.add_assoc]
theorem zq_sum {c d : Nat → Int32} {L : zCL} {aw : Int32} (h : zgx c d L aw) : zws L + nI 5 * aw ≤ ztot c := by
  obtain ⟨n, hb, -, t, f1, f2, f3⟩ := h
  have hT := hb.2.2.1
  rw [zws_nat (by omega) (zok_wB hb.2.2.2.2 (zbs_le hb)), f1, pk_mul, nI_add, zbs_tot hb]
  exact (nI_leI (by omega) (by omega)).mpr f3
