/-! ===== the model's calls that change a stream ===== -/
def zwd (k : Nat) : Nat := if k = 3 then 64 else if k = 4 then 1 else if k = 5 then 72 else if k = 6 then 1 else if k = 7 then 8 else if k = 8 then 8 else if k = 9 then 1 else 0
/-- no cell but the stream's own has changed -/
def zMF (x u : zT) (j : Nat) : Prop := (∀ k p, p < zwd k * j ∨ zwd k * j + zwd k ≤ p → u.1 k p = x.1 k p) ∧ u.2 = x.2
theorem zMF_rf {x : zT} {j : Nat} : zMF x x j := ⟨fun _ _ _ => rfl, rfl⟩
theorem zMF_t {x y z : zT} {j : Nat} (h : zMF x y j) (h2 : zMF y z j) : zMF x z j := ⟨fun k p hp => (h2.1 k p hp).trans (h.1 k p hp), h2.2.trans h.2⟩
theorem zMF_s {x u : zT} {j k : Nat} {f : Nat → Int32} (h : zMF x u j) (hf : ∀ p, p < zwd k * j ∨ zwd k * j + zwd k ≤ p → f p = u.1 k p) : zMF x (xi u k f) j := by
  refine ⟨fun q p hp => ?_, h.2⟩
  by_cases e : q = k
  · subst e
    rw [xi_s, hf p hp]
    exact h.1 q p hp
  · rw [xi_n f e]
    exact h.1 q p hp
theorem zMF_u {x u : zT} {j k i : Nat} {f : Nat → Int32} {v : Int32} (h : zMF x u j) (e : f = upd (u.1 k) i v) (hi : zwd k * j ≤ i ∧ i < zwd k * j + zwd k) : zMF x (xi u k f) j :=
  zMF_s h (fun p hp => by rw [e]; exact pk_un (by omega))
theorem zMF.M {x u : zT} {j q : Nat} {c d : Nat → Int32} {L : zCL} {aw : Int32} (h : zMF x u j) (hq : q ≠ j) (hM : zM x q c d L aw) : zM u q c d L aw := by
  obtain ⟨h1, h2, h3, h4, h5, h6, h7⟩ := hM
  refine ⟨fun i hi => ?_, ?_, fun i hi => ?_, ?_, ?_, h6, fun i hi => ?_⟩
  · rw [h.1 3 (64 * q + i) (by show _ < 64 * j ∨ 64 * j + 64 ≤ _; omega)]; exact h1 i hi
  · rw [h.1 4 q (by show _ < 1 * j ∨ 1 * j + 1 ≤ _; omega)]; exact h2
  · rw [h.1 5 (72 * q + i) (by show _ < 72 * j ∨ 72 * j + 72 ≤ _; omega)]; exact h3 i hi
  · rw [h.1 6 q (by show _ < 1 * j ∨ 1 * j + 1 ≤ _; omega)]; exact h4
  · rw [h.1 9 q (by show _ < 1 * j ∨ 1 * j + 1 ≤ _; omega)]; exact h5
  · rw [h.1 7 (8 * q + i) (by show _ < 8 * j ∨ 8 * j + 8 ≤ _; omega), h.1 8 (8 * q + i) (by show _ < 8 * j ∨ 8 * j + 8 ≤ _; omega)]
    exact h7 i hi
def zSj (S : zS) (j : Nat) (c d : Nat → Int32) (L : zCL) (aw : Int32) : zS := (fun q => if q = j then c else S.1 q, fun q => if q = j then d else S.2.1 q, fun q => if q = j then L else S.2.2.1 q, fun q => if q = j then aw else S.2.2.2 q)
theorem zSj_s {P : (Nat → Int32) → (Nat → Int32) → zCL → Int32 → Prop} {S : zS} {j : Nat} {c d : Nat → Int32} {L : zCL} {aw : Int32} (h : P c d L aw) : P ((zSj S j c d L aw).1 j) ((zSj S j c d L aw).2.1 j) ((zSj S j c d L aw).2.2.1 j) ((zSj S j c d L aw).2.2.2 j) := by
  show P (if j = j then c else S.1 j) (if j = j then d else S.2.1 j) (if j = j then L else S.2.2.1 j) (if j = j then aw else S.2.2.2 j)
  rw [if_pos rfl, if_pos rfl, if_pos rfl, if_pos rfl]
  exact h
theorem zSj_n {P : (Nat → Int32) → (Nat → Int32) → zCL → Int32 → Prop} {S : zS} {j q : Nat} {c d : Nat → Int32} {L : zCL} {aw : Int32} (hq : q ≠ j) (h : P (S.1 q) (S.2.1 q) (S.2.2.1 q) (S.2.2.2 q)) : P ((zSj S j c d L aw).1 q) ((zSj S j c d L aw).2.1 q) ((zSj S j c d L aw).2.2.1 q) ((zSj S j c d L aw).2.2.2 q) := by
  show P (if q = j then c else S.1 q) (if q = j then d else S.2.1 q) (if q = j then L else S.2.2.1 q) (if q = j then aw else S.2.2.2 q)
  rw [if_neg hq, if_neg hq, if_neg hq, if_neg hq]
  exact h
theorem zMP_j {x u : zT} {S : zS} {f : Nat → Int32} {j : Nat} {c d : Nat → Int32} {L : zCL} {aw : Int32} (hA : zMA x S) (e : f = upd (x.1 2) 0 (nI 0)) (hF : zMF (xi x 2 f) u j) (hN : zM u j c d L aw) : zMP x u (zSj S j c d L aw) 0 := by
  refine ⟨?_, fun q hq => ?_, fun k hk => ⟨?_, by rw [hF.2]; rfl⟩, by rw [hF.2]; rfl⟩
  · rw [hF.1 2 0 (by show _ < 0 * j ∨ 0 * j + 0 ≤ _; omega), xi_s, e, pk_us]
  · by_cases c9 : q = j
    · subst c9
      exact zSj_s (P := zM u q) hN
    · exact zSj_n (P := zM u q) c9 (hF.M c9 (zM_2 (hA q hq)))
  · have e2 : zwd k = 0 := by
      unfold zwd
      rw [if_neg (by omega), if_neg (by omega), if_neg (by omega), if_neg (by omega), if_neg (by omega), if_neg (by omega), if_neg (by omega)]
    funext p
    rw [hF.1 k p (by rw [e2]; omega), xi_n f (by omega)]
theorem zme2 {x u : zT} {S S' : zS} {C k : Nat} {P : Prop} (hC : C = k) (hm : zMP x u (if k = 0 then S' else S) k) (hv : k = 0 → P) : zMP x u (if C = 0 then S' else S) C ∧ (C = 0 → P) := by
  subst hC
  exact ⟨hm, hv⟩
theorem zme2n {x u : zT} {S S' : zS} {C k : Nat} {P : Prop} (hC : C = k) (hk : k ≠ 0) (hm : zMP x u S k) : zMP x u (if C = 0 then S' else S) C ∧ (C = 0 → P) := by
  subst hC
  rw [if_neg hk]
  exact ⟨hm, fun h => absurd h hk⟩
theorem zme2y {x u : zT} {S S' : zS} {C : Nat} {P : Prop} (hC : C = 0) (hm : zMP x u S' 0) (hv : P) : zMP x u (if C = 0 then S' else S) C ∧ (C = 0 → P) := by
  subst hC
  exact ⟨hm, fun _ => hv⟩
theorem ztot_put {c : Nat → Int32} {i : Nat} {w : Int32} (hi : i < 64) : ztot (upd c i (c i + w)) = ztot c + w := by
  unfold ztot
  have e : zsum (fun k => if k = i then w else 0) 0 64 = w := by rw [zsum_one, if_pos hi]
  rw [show zsum c 0 64 + w = zsum c 0 64 + zsum (fun k => if k = i then w else 0) 0 64 by rw [e], ← zsum_add]
  refine zsum_congr (fun k _ _ => ?_)
  by_cases h : k = i
  · subst h
    rw [pk_us, if_pos rfl]
  · rw [pk_un h, if_neg h, Int32.add_zero]
theorem zsh_upd (f : Nat → Int32) (b i : Nat) (v : Int32) : (fun q => upd f (b + i) v (b + q)) = upd (fun q => f (b + q)) i v := by
  funext q
  by_cases h : q = i
  · subst h; rw [pk_us, pk_us]
  · rw [pk_un (by omega), pk_un h]
theorem zM_push {x : zT} {j : Nat} {c d fi fw h : Nat → Int32} {L : zCL} {aw v w : Int32} (hj : j < 4) (hM : zM x j c d L aw) (h8 : L.length < 8) (e1 : fi = upd (x.1 7) (8 * j + L.length) v) (e2 : fw = upd (x.1 8) (8 * j + L.length) w) (e3 : h = upd (x.1 6) j (nI (L.length + 1))) : zMF x (xi (xi (xi x 7 fi) 8 fw) 6 h) j ∧ zM (xi (xi (xi x 7 fi) 8 fw) 6 h) j c d (L ++ [(v, w)]) aw := by
  obtain ⟨m1, m2, m3, m4, m5, m6, m7⟩ := hM
  refine ⟨zMF_u (zMF_u (zMF_u zMF_rf e1 (by show 8 * j ≤ _ ∧ _ < 8 * j + 8; omega)) e2 (by show 8 * j ≤ _ ∧ _ < 8 * j + 8; omega)) e3 (by show 1 * j ≤ _ ∧ _ < 1 * j + 1; omega), m1, m2, m3, ?_, m5, by rw [List.length_append]; show L.length + 1 ≤ 8; omega, fun q hq => ?_⟩
  · rw [xi_s, e3, pk_us, List.length_append]; rfl
  · rw [List.length_append] at hq
    have hq3 : q < L.length + 1 := hq
    show fi (8 * j + q) = _ ∧ fw (8 * j + q) = _
    rw [e1, e2]
    by_cases c : q = L.length
    · subst c
      rw [zL_app_e, pk_us, pk_us]
      exact ⟨rfl, rfl⟩
    · rw [zL_app_l (by omega), pk_un (by omega), pk_un (by omega)]
      exact m7 q (by omega)
theorem zM_grow {x : zT} {j : Nat} {c d fw : Nat → Int32} {L : zCL} {aw v w : Int32} (hj : j < 4) (hM : zM x j c d L aw) (hq : zix L v < L.length) (e : fw = upd (x.1 8) (8 * j + zix L v) (x.1 8 (8 * j + zix L v) + w)) : zMF x (xi x 8 fw) j ∧ zM (xi x 8 fw) j c d (zgrow L v w) aw := by
  obtain ⟨m1, m2, m3, m4, m5, m6, m7⟩ := hM
  unfold zgrow
  rw [if_pos hq]
  refine ⟨zMF_u zMF_rf e (by show 8 * j ≤ _ ∧ _ < 8 * j + 8; omega), m1, m2, m3, by rw [List.length_set]; exact m4, m5, by rw [List.length_set]; exact m6, fun q hq2 => ?_⟩
  rw [List.length_set] at hq2
  show x.1 7 (8 * j + q) = _ ∧ fw (8 * j + q) = _
  rw [zL_set hq, e]
  by_cases c : q = zix L v
  · subst c
    rw [if_pos rfl, pk_us, (m7 _ hq).1, (m7 _ hq).2]
    exact ⟨zix_at hq, rfl⟩
  · rw [if_neg c, pk_un (by omega)]
    exact m7 q hq2
theorem zgrow_n {L : zCL} {v w : Int32} (hq : zix L v = L.length) (h8 : L.length < 8) : zgrow L v w = L ++ [(v, w)] := by
  unfold zgrow
  rw [if_neg (by omega), if_pos h8]
theorem zTK_w {L : zCL} {a : Int32} {i k : Nat} {fi fw : Nat → Int32} (h : zTK L a i k fi fw) (hi : i < L.length) (hp : ¬ 0 < fw i - a) (v w : Int32) : zTK L a (i + 1) k (upd fi k v) (upd fw k w) := by
  have h0 := zTK_n h hi hp
  obtain ⟨h1, h2, h3, h4⟩ := h0
  have hk := h.2.1
  exact ⟨h1, h2, fun q hq => by rw [pk_un (by omega), pk_un (by omega)]; exact h3 q hq, fun q hq hq2 => by rw [pk_un (by omega), pk_un (by omega)]; exact h4 q hq hq2⟩
theorem zM_tk {x : zT} {j k : Nat} {c d fi fw f6 f9 : Nat → Int32} {L : zCL} {aw a : Int32} (hj : j < 4) (hM : zM x j c d L aw) (hO : ∀ p, p < 8 * j ∨ 8 * j + 8 ≤ p → fi p = x.1 7 p ∧ fw p = x.1 8 p) (hT : zTK L a L.length k (fun q => fi (8 * j + q)) (fun q => fw (8 * j + q))) (e6 : f6 = upd (x.1 6) j (nI k)) (e9 : f9 = upd (x.1 9) j (x.1 9 j + a)) : zMF x (xi (xi (xi (xi x 7 fi) 8 fw) 6 f6) 9 f9) j ∧ zM (xi (xi (xi (xi x 7 fi) 8 fw) 6 f6) 9 f9) j c d (ztk L a) (aw + a) := by
  obtain ⟨m1, m2, m3, m4, m5, m6, m7⟩ := hM
  obtain ⟨h1, h2, h3, h4⟩ := hT
  rw [List.take_length] at h1 h3
  refine ⟨zMF_u (zMF_u (zMF_s (zMF_s zMF_rf (fun p hp => (hO p hp).1)) (fun p hp => (hO p hp).2)) e6 (by show 1 * j ≤ _ ∧ _ < 1 * j + 1; omega)) e9 (by show 1 * j ≤ _ ∧ _ < 1 * j + 1; omega), m1, m2, m3, ?_, ?_, by omega, fun q hq => ?_⟩
  · show f6 j = _
    rw [e6, pk_us, h1]
  · show f9 j = _
    rw [e9, pk_us, m5]
  · exact h3 q (by omega)
/-! careful cells -/
def zdp (d : Nat → Int32) (i : Nat) (w : Int32) (lv : Nat) : Nat → Int32 := fun q => if q < 24 * lv then zdput d i w q else d q
def zrw (dd : Nat → Int32) (T : Int32) (lv half row : Nat) : Nat → Int32 := fun q => if (0 < row ∧ q = 24 * lv + zcp 0 half) ∨ (1 < row ∧ q = 24 * lv + zcp 1 half) ∨ (2 < row ∧ q = 24 * lv + zcp 2 half) then zmax (dd q) T else dd q
theorem zrw_0 {dd : Nat → Int32} {T : Int32} {lv half q : Nat} : zrw dd T lv half 0 q = dd q := if_neg (by omega)
theorem zrw_s {dd f f' : Nat → Int32} {T v : Int32} {lv half row j : Nat} (hr : row < 3) (hl : lv < 3) (h : ∀ q, q < 72 → f (72 * j + q) = zrw dd T lv half row q) (e : f' = upd f (72 * j + (24 * lv + zcp row half)) v) (hv : v = zmax (f (72 * j + (24 * lv + zcp row half))) T) : ∀ q, q < 72 → f' (72 * j + q) = zrw dd T lv half (row + 1) q := fun q hq => by
  have n01 : zcp 0 half ≠ zcp 1 half := zcp_ne (by decide)
  have n02 : zcp 0 half ≠ zcp 2 half := zcp_ne (by decide)
  have n12 : zcp 1 half ≠ zcp 2 half := zcp_ne (by decide)
  have hl9 := zcp_lt half hr
  have h9 : row = 0 ∨ row = 1 ∨ row = 2 := by omega
  by_cases c : q = 24 * lv + zcp row half
  · rw [e, hv, h (24 * lv + zcp row half) (by omega), ← c, pk_us]
    unfold zrw
    rcases h9 with e9 | e9 | e9 <;> subst e9
    · rw [if_neg (by omega), if_pos (by omega)]
    · rw [if_neg (by omega), if_pos (by omega)]
    · rw [if_neg (by omega), if_pos (by omega)]
  · rw [e, pk_un (by omega), h q hq]
    unfold zrw
    by_cases c2 : (0 < row ∧ q = 24 * lv + zcp 0 half) ∨ (1 < row ∧ q = 24 * lv + zcp 1 half) ∨ (2 < row ∧ q = 24 * lv + zcp 2 half)
    · rw [if_pos c2, if_pos (by omega)]
    · rw [if_neg c2, if_neg (by rcases h9 with e9 | e9 | e9 <;> subst e9 <;> omega)]
theorem zrw_3 {d : Nat → Int32} {T w : Int32} {lv item q : Nat} (hl : lv < 3) (hT : T = zest (fun _ => 0) (zdp d item w lv) lv (item / 2 ^ lv) + w) : zrw (zdp d item w lv) T lv (item / 2 ^ lv) 3 q = zdp d item w (lv + 1) q := by
  have l0 := zcp_lt (r := 0) (item / 2 ^ lv) (by decide)
  have l1 := zcp_lt (r := 1) (item / 2 ^ lv) (by decide)
  have l2 := zcp_lt (r := 2) (item / 2 ^ lv) (by decide)
  have hT2 : T = zleast (fun p => d (24 * lv + p)) (item / 2 ^ lv) + w := by
    rw [hT]
    unfold zest
    rw [if_pos hl]
    have hz : zleast (fun q => zdp d item w lv (24 * lv + q)) (item / 2 ^ lv) = zleast (fun p => d (24 * lv + p)) (item / 2 ^ lv) := zleast_congr (fun p hp => show (if 24 * lv + p < 24 * lv then zdput d item w (24 * lv + p) else d (24 * lv + p)) = d (24 * lv + p) from if_neg (by omega))
    rw [hz]
  unfold zrw
  by_cases c1 : q < 24 * lv
  · rw [if_neg (by omega)]
    show (if q < 24 * lv then zdput d item w q else d q) = (if q < 24 * (lv + 1) then zdput d item w q else d q)
    rw [if_pos c1, if_pos (by omega)]
  · have e1 : zdp d item w lv q = d q := if_neg c1
    rw [e1]
    by_cases c2 : q < 24 * (lv + 1)
    · have e2 : zdp d item w (lv + 1) q = zdput d item w q := if_pos c2
      have e3 : zdput d item w q = zcput (fun p => d (24 * lv + p)) (item / 2 ^ lv) w (q - 24 * lv) := by
        unfold zdput
        have h9 : lv = 0 ∨ lv = 1 ∨ lv = 2 := by omega
        rcases h9 with e9 | e9 | e9 <;> subst e9
        · rw [if_pos (by omega)]
          simp
        · rw [if_neg (by omega), if_pos (by omega)]
        · rw [if_neg (by omega), if_neg (by omega)]
      rw [e2, e3]
      unfold zcput
      show _ = if q - 24 * lv = zcp 0 (item / 2 ^ lv) ∨ q - 24 * lv = zcp 1 (item / 2 ^ lv) ∨ q - 24 * lv = zcp 2 (item / 2 ^ lv) then zmax (d (24 * lv + (q - 24 * lv))) (zleast (fun p => d (24 * lv + p)) (item / 2 ^ lv) + w) else d (24 * lv + (q - 24 * lv))
      rw [show 24 * lv + (q - 24 * lv) = q by omega, ← hT2]
      by_cases c3 : q - 24 * lv = zcp 0 (item / 2 ^ lv) ∨ q - 24 * lv = zcp 1 (item / 2 ^ lv) ∨ q - 24 * lv = zcp 2 (item / 2 ^ lv)
      · rw [if_pos c3, if_pos (by omega)]
      · rw [if_neg c3, if_neg (by omega)]
    · rw [if_neg (by omega)]
      exact (show zdp d item w (lv + 1) q = d q from if_neg c2).symm
theorem zmax_a {a T : Int32} (h : T < a) : a = zmax a T := (if_neg (fun z => Int32.lt_irrefl (Int32.lt_trans h z))).symm
theorem zmax_b {a T : Int32} (h : ¬ T < a) : T = zmax a T := by
  unfold zmax
  by_cases c : a < T
  · rw [if_pos c]
  · rw [if_neg c]
    exact Int32.le_antisymm (Int32.not_lt.mp c) (Int32.not_lt.mp h)
theorem zest_lo {c c2 d : Nat → Int32} {lv half : Nat} (h : lv < 3) : zest c d lv half = zest c2 d lv half := by
  unfold zest
  rw [if_pos h, if_pos h]
/-! the fifth weight -/
def zgc (f : Nat → Int32) (w : Int32) : Nat → Nat
  | 0 => 0
  | n + 1 => zgc f w n + if w < f n then 1 else 0
def zsc (f : Nat → Int32) (w : Int32) : Nat → Nat
  | 0 => 0
  | n + 1 => zsc f w n + if f n = w then 1 else 0
theorem zgc_le (f : Nat → Int32) (w : Int32) : ∀ n, zgc f w n ≤ n
  | 0 => Nat.le_refl _
  | n + 1 => by
    have := zgc_le f w n
    show zgc f w n + (if w < f n then 1 else 0) ≤ n + 1
    split <;> omega
theorem zsc_le (f : Nat → Int32) (w : Int32) : ∀ n, zsc f w n ≤ n
  | 0 => Nat.le_refl _
  | n + 1 => by
    have := zsc_le f w n
    show zsc f w n + (if f n = w then 1 else 0) ≤ n + 1
    split <;> omega
theorem zgsc (f : Nat → Int32) (w : Int32) : ∀ n, zgc f w n + zsc f w n = zcr f w n
  | 0 => rfl
  | n + 1 => by
    have ih := zgsc f w n
    show zgc f w n + (if w < f n then 1 else 0) + (zsc f w n + (if f n = w then 1 else 0)) = zcr f w n + (if w ≤ f n then 1 else 0)
    by_cases c1 : w < f n
    · rw [if_pos c1, if_neg (fun e => Int32.lt_irrefl (show w < w by rw [e] at c1; exact c1)), if_pos (Int32.le_of_lt c1)]; omega
    · by_cases c2 : f n = w
      · rw [if_neg c1, if_pos c2, if_pos (by rw [c2]; exact Int32.le_refl w)]; omega
      · rw [if_neg c1, if_neg c2, if_neg (fun z => c2 (Int32.le_antisymm (Int32.not_lt.mp c1) z))]; omega
theorem zgc_cr {f : Nat → Int32} {w w' : Int32} (h : w < w') : ∀ n, zcr f w' n ≤ zgc f w n
  | 0 => Nat.le_refl _
  | n + 1 => by
    have ih := zgc_cr (f := f) h n
    show zcr f w' n + (if w' ≤ f n then 1 else 0) ≤ zgc f w n + (if w < f n then 1 else 0)
    by_cases c : w' ≤ f n
    · rw [if_pos c, if_pos (Int32.lt_of_lt_of_le h c)]; omega
    · rw [if_neg c]; omega
theorem zgc_cr2 {f : Nat → Int32} {w w' : Int32} : ∀ n, (∀ q, q < n → w < f q → w' ≤ f q) → zgc f w n ≤ zcr f w' n
  | 0, _ => Nat.le_refl _
  | n + 1, h => by
    have ih := zgc_cr2 (f := f) (w := w) (w' := w') n (fun q hq => h q (by omega))
    show zgc f w n + (if w < f n then 1 else 0) ≤ zcr f w' n + (if w' ≤ f n then 1 else 0)
    by_cases c : w < f n
    · rw [if_pos c, if_pos (h n (by omega) c)]; omega
    · rw [if_neg c]; omega
theorem zleast_ex {f : Nat → Int32} {P : Nat → Prop} : ∀ n, (∃ q, q < n ∧ P q) → ∃ k, k < n ∧ P k ∧ ∀ q, q < n → P q → f k ≤ f q
  | 0, h => by obtain ⟨q, hq, _⟩ := h; exact absurd hq (Nat.not_lt_zero q)
  | n + 1, h => by
    by_cases c : ∃ q, q < n ∧ P q
    · obtain ⟨k, k1, k2, k3⟩ := zleast_ex (f := f) n c
      by_cases c2 : P n ∧ f n < f k
      · refine ⟨n, by omega, c2.1, fun q hq hp => ?_⟩
        by_cases e : q = n
        · subst e; exact Int32.le_refl _
        · exact Int32.le_trans (Int32.le_of_lt c2.2) (k3 q (by omega) hp)
      · refine ⟨k, by omega, k2, fun q hq hp => ?_⟩
        by_cases e : q = n
        · subst e
          exact Int32.not_lt.mp (fun z => c2 ⟨hp, z⟩)
        · exact k3 q (by omega) hp
    · obtain ⟨q, hq, hp⟩ := h
      have e : q = n := by
        by_cases e : q = n
        · exact e
        · exact absurd ⟨q, by omega, hp⟩ c
      subst e
      refine ⟨q, hq, hp, fun q' hq' hp' => ?_⟩
      by_cases e : q' = q
      · subst e; exact Int32.le_refl _
      · exact absurd ⟨q', by omega, hp'⟩ c
theorem zgc_pos {f : Nat → Int32} {w : Int32} : ∀ n, 0 < zgc f w n → ∃ q, q < n ∧ w < f q
  | 0, h => absurd h (Nat.lt_irrefl _)
  | n + 1, h => by
    by_cases c : w < f n
    · exact ⟨n, by omega, c⟩
    · have h2 : 0 < zgc f w n + (if w < f n then 1 else 0) := h
      rw [if_neg c] at h2
      obtain ⟨q, q1, q2⟩ := zgc_pos n h2
      exact ⟨q, by omega, q2⟩
theorem zwr_ge {f : Nat → Int32} {m n : Nat} : ∀ n' k, k < n' → m ≤ zcr f (f k) n → f k ≤ zwr f m n n'
  | 0, k, h, _ => absurd h (Nat.not_lt_zero k)
  | n' + 1, k, h, hm => by
    show f k ≤ if zwr f m n n' < f n' ∧ m ≤ zcr f (f n') n then f n' else zwr f m n n'
    by_cases e : k = n'
    · subst e
      by_cases c : zwr f m n k < f k ∧ m ≤ zcr f (f k) n
      · rw [if_pos c]; exact Int32.le_refl _
      · rw [if_neg c]
        exact Int32.not_lt.mp (fun z => c ⟨z, hm⟩)
    · have ih := zwr_ge (f := f) (m := m) (n := n) n' k (by omega) hm
      by_cases c : zwr f m n n' < f n' ∧ m ≤ zcr f (f n') n
      · rw [if_pos c]; exact Int32.le_trans ih (Int32.le_of_lt c.1)
      · rw [if_neg c]; exact ih
theorem zwr_at {f : Nat → Int32} {m n : Nat} : ∀ n', zwr f m n n' = 0 ∨ ∃ k, k < n' ∧ f k = zwr f m n n' ∧ m ≤ zcr f (f k) n
  | 0 => Or.inl rfl
  | n' + 1 => by
    show (if zwr f m n n' < f n' ∧ m ≤ zcr f (f n') n then f n' else zwr f m n n') = 0 ∨ ∃ k, k < n' + 1 ∧ f k = (if zwr f m n n' < f n' ∧ m ≤ zcr f (f n') n then f n' else zwr f m n n') ∧ m ≤ zcr f (f k) n
    by_cases c : zwr f m n n' < f n' ∧ m ≤ zcr f (f n') n
    · rw [if_pos c]
      exact Or.inr ⟨n', by omega, rfl, c.2⟩
    · rw [if_neg c]
      rcases zwr_at (f := f) (m := m) (n := n) n' with h | ⟨k, k1, k2, k3⟩
      · exact Or.inl h
      · exact Or.inr ⟨k, by omega, k2, k3⟩
theorem zcr_all {f : Nat → Int32} {w : Int32} : ∀ n, (∀ q, q < n → w ≤ f q) → zcr f w n = n
  | 0, _ => rfl
  | n + 1, h => by
    show zcr f w n + (if w ≤ f n then 1 else 0) = n + 1
    rw [if_pos (h n (by omega)), zcr_all n (fun q hq => h q (by omega))]
/-- with five weights above 0 or more the fifth one is among them, and no more than four are greater -/
theorem zwr_5 {f : Nat → Int32} {n : Nat} (h5 : 5 ≤ n) (hp : ∀ q, q < n → 0 < f q) : ∃ k, k < n ∧ f k = zwr f 5 n n ∧ zgc f (f k) n ≤ 4 ∧ 4 < zcr f (f k) n := by
  obtain ⟨k0, a1, -, a3⟩ := zleast_ex (f := f) (P := fun _ => True) n ⟨0, by omega, trivial⟩
  have h0 := zwr_ge (f := f) (m := 5) (n := n) n k0 a1 (by rw [zcr_all n (fun q hq => a3 q hq trivial)]; exact h5)
  rcases zwr_at (f := f) (m := 5) (n := n) n with h | ⟨k, k1, k2, k3⟩
  · rw [h] at h0
    exact absurd (hp k0 a1) (Int32.not_lt.mpr h0)
  · refine ⟨k, k1, k2, Nat.not_lt.mp (fun z => ?_), by omega⟩
    obtain ⟨q, q1, q2, q3⟩ := zleast_ex (f := f) (P := fun q => f k < f q) n (zgc_pos n (by omega))
    have h6 := zgc_cr2 (f := f) (w := f k) (w' := f q) n (fun q' h1 h2 => q3 q' h1 h2)
    have h7 := zwr_ge (f := f) (m := 5) (n := n) n q q1 (by omega)
    rw [← k2] at h7
    exact Int32.not_lt.mpr h7 q2
theorem zfifth {f : Nat → Int32} {n : Nat} {r : Int32} (h5 : 5 ≤ n) (hp : ∀ q, q < n → 0 < f q) (hr : (r = 0 ∧ ∀ k, k < n → ¬ (zgc f (f k) n ≤ 4 ∧ 4 < zcr f (f k) n)) ∨ ∃ k, k < n ∧ r = f k ∧ (zgc f (f k) n ≤ 4 ∧ 4 < zcr f (f k) n)) : r = zwr f 5 n n := by
  obtain ⟨k, k1, k2, k3, k4⟩ := zwr_5 h5 hp
  rcases hr with ⟨-, h⟩ | ⟨q, q1, q2, q3, q4⟩
  · exact absurd ⟨k3, k4⟩ (h k k1)
  · rw [q2]
    have h7 := zwr_ge (f := f) (m := 5) (n := n) n q q1 (by omega)
    rcases Int32.lt_or_eq_of_le h7 with c | c
    · have h8 := zgc_cr (f := f) c n
      rw [← k2] at h8
      omega
    · exact c
theorem zff_s {P : Nat → Prop} {f : Nat → Int32} {i : Nat} {r : Int32} (h : (r = 0 ∧ ∀ k, k < i → ¬ P k) ∨ ∃ k, k < i ∧ r = f k ∧ P k) (hn : ¬ P i) : (r = 0 ∧ ∀ k, k < i + 1 → ¬ P k) ∨ ∃ k, k < i + 1 ∧ r = f k ∧ P k := by
  rcases h with ⟨h1, h2⟩ | ⟨q, h1, h2, h3⟩
  · exact Or.inl ⟨h1, zfq_s h2 hn⟩
  · exact Or.inr ⟨q, by omega, h2, h3⟩
/-! the least weight -/
def zmw (w : Int32) (f : Nat → Int32) : Nat → Int32
  | 0 => w
  | n + 1 => zmin (zmw w f n) (f n)
theorem zmin_assoc (a b c : Int32) : zmin (zmin a b) c = zmin a (zmin b c) := by
  unfold zmin
  by_cases h1 : b < a
  · rw [if_pos h1]
    by_cases h2 : c < b
    · rw [if_pos h2, if_pos (Int32.lt_trans h2 h1)]
    · rw [if_neg h2, if_pos h1]
  · rw [if_neg h1]
    by_cases h2 : c < b
    · rw [if_pos h2]
    · rw [if_neg h2, if_neg h1, if_neg (fun z => h1 (Int32.lt_of_le_of_lt (Int32.not_lt.mp h2) z))]
theorem zmw_mn (w : Int32) (f : Nat → Int32) : ∀ n, zmw w f (n + 1) = zmin w (zmn f n)
  | 0 => rfl
  | n + 1 => by
    show zmin (zmw w f (n + 1)) (f (n + 1)) = zmin w (zmin (zmn f n) (f (n + 1)))
    rw [zmw_mn w f n, zmin_assoc]
theorem zmin_le1 (a b : Int32) : zmin a b ≤ a := by
  unfold zmin
  by_cases h : b < a
  · rw [if_pos h]; exact Int32.le_of_lt h
  · rw [if_neg h]; exact Int32.le_refl a
theorem zmin_le2 (a b : Int32) : zmin a b ≤ b := by
  unfold zmin
  by_cases h : b < a
  · rw [if_pos h]; exact Int32.le_refl b
  · rw [if_neg h]; exact Int32.not_lt.mp h
theorem zmin_or (a b : Int32) : zmin a b = a ∨ zmin a b = b := by
  unfold zmin
  by_cases h : b < a
  · rw [if_pos h]; exact Or.inr rfl
  · rw [if_neg h]; exact Or.inl rfl
theorem zmw_le (w : Int32) (f : Nat → Int32) : ∀ n, zmw w f n ≤ w
  | 0 => Int32.le_refl w
  | n + 1 => Int32.le_trans (zmin_le1 _ _) (zmw_le w f n)
theorem zmw_or (w : Int32) (f : Nat → Int32) : ∀ n, zmw w f n = w ∨ ∃ q, q < n ∧ zmw w f n = f q
  | 0 => Or.inl rfl
  | n + 1 => by
    rcases zmin_or (zmw w f n) (f n) with h | h
    · rcases zmw_or w f n with h2 | ⟨q, h2, h3⟩
      · exact Or.inl (h.trans h2)
      · exact Or.inr ⟨q, by omega, h.trans h3⟩
    · exact Or.inr ⟨n, by omega, h⟩
theorem zmw_pos {w : Int32} {f : Nat → Int32} {n : Nat} (hw : 0 < w) (hf : ∀ q, q < n → 0 < f q) : 0 < zmw w f n := by
  rcases zmw_or w f n with h | ⟨q, h1, h2⟩
  · rw [h]; exact hw
  · rw [h2]; exact hf q h1
theorem znat {w : Int32} (h : 0 ≤ w) : ∃ a : Nat, a < 2 ^ 31 ∧ w = nI a := by
  have h1 := Int32.le_iff_toInt_le.mp h
  have h0 : (0 : Int32).toInt = 0 := by decide
  rw [h0] at h1
  have h2 := Int32.toInt_lt w
  refine ⟨w.toInt.toNat, by omega, ?_⟩
  show w = Int32.ofNat w.toInt.toNat
  rw [← Int32.ofInt_eq_ofNat, Int.toNat_of_nonneg h1, Int32.ofInt_toInt]
theorem zsub_pos {w m : Int32} (hm : 0 < m) (hle : m ≤ w) : 0 < w - m ↔ m < w := by
  obtain ⟨a, ha, rfl⟩ := znat (Int32.le_of_lt (Int32.lt_of_lt_of_le hm hle))
  obtain ⟨b, hb, rfl⟩ := znat (Int32.le_of_lt hm)
  have h1 : b ≤ a := (nI_leI hb ha).mp hle
  rw [pk_sub h1, nI_ltI hb ha, show (0 : Int32) = nI 0 from rfl, nI_ltI (by decide) (by omega)]
  omega
theorem ztk_ix {L : zCL} {a v : Int32} (h : zix L v = L.length) : zix (ztk L a) v = (ztk L a).length := by
  refine zix_none (fun q hq e => ?_)
  have h1 : zL (ztk L a) q ∈ ztk L a := by
    unfold zL
    rw [List.getD_eq_getElem?_getD, List.getElem?_eq_getElem hq]
    exact List.getElem_mem hq
  unfold ztk at h1
  obtain ⟨e9, m1, m2⟩ := List.mem_filterMap.mp h1
  obtain ⟨i, hi, m3⟩ := List.getElem_of_mem m1
  have h3 : zL L i = e9 := by
    unfold zL
    rw [List.getD_eq_getElem?_getD, List.getElem?_eq_getElem hi, m3]
    rfl
  have h4 : (zL L i).1 = v := by
    rw [h3]
    by_cases c : 0 < e9.2 - a
    · rw [if_pos c] at m2
      have m5 := Option.some.inj m2
      rw [← e]
      unfold ztk
      rw [← m5]
    · rw [if_neg c] at m2
      cases m2
  exact absurd h4 (zix_lt (by omega))
/-! keys stay apart -/
theorem zix_iff {L : zCL} {v : Int32} : zix L v = L.length ↔ ∀ q, q < L.length → (zL L q).1 ≠ v := ⟨fun h q hq => zix_lt (by omega), zix_none⟩
theorem zND_grow {L : zCL} {v w : Int32} (h : zND L) : zND (zgrow L v w) := by
  unfold zgrow
  by_cases c : zix L v < L.length
  · rw [if_pos c]
    intro a b hab hb
    rw [List.length_set] at hb
    have hk : ∀ q, (zL (L.set (zix L v) (v, (zL L (zix L v)).2 + w)) q).1 = (zL L q).1 := fun q => by
      rw [zL_set c]
      by_cases e : q = zix L v
      · rw [if_pos e, e, zix_at c]
      · rw [if_neg e]
    rw [hk, hk]
    exact h a b hab hb
  · rw [if_neg c]
    by_cases c8 : L.length < 8
    · rw [if_pos c8]
      intro a b hab hb
      rw [List.length_append] at hb
      have hb2 : b < L.length + 1 := hb
      have hv : zix L v = L.length := Nat.le_antisymm (zix_le L v) (Nat.not_lt.mp c)
      by_cases e : b = L.length
      · subst e
        rw [zL_app_e, zL_app_l hab]
        exact zix_iff.mp hv a hab
      · rw [zL_app_l (by omega), zL_app_l (by omega)]
        exact h a b hab (by omega)
    · rw [if_neg c8]
      exact h
theorem zND_jn {L : zCL} (h : zND L) : ∀ M : zCL, zND (zjn L M) := by
  intro M
  induction M generalizing L with
  | nil => exact h
  | cons a l ih => exact ih (zND_grow h)
theorem zgrow_len {L : zCL} {v w : Int32} : (zgrow L v w).length ≤ L.length + 1 := by
  unfold zgrow
  split
  · rw [List.length_set]; omega
  · split
    · rw [List.length_append]; exact Nat.le_refl _
    · omega
theorem zjn_len : ∀ {L M : zCL}, (zjn L M).length ≤ L.length + M.length := by
  intro L M
  induction M generalizing L with
  | nil => exact Nat.le_refl _
  | cons a l ih =>
    have h1 := ih (L := zgrow L a.1 a.2)
    have h2 := zgrow_len (L := L) (v := a.1) (w := a.2)
    show (zjn (zgrow L a.1 a.2) l).length ≤ L.length + (l.length + 1)
    omega
theorem zTK0 {x : zT} {j : Nat} {c d : Nat → Int32} {L : zCL} {aw a : Int32} (hM : zM x j c d L aw) : zTK L a 0 0 (fun q => x.1 7 (8 * j + q)) (fun q => x.1 8 (8 * j + q)) := ⟨rfl, Nat.le_refl _, fun q hq => absurd hq (Nat.not_lt_zero q), fun q _ h2 => hM.2.2.2.2.2.2 q h2⟩
theorem zTKs_y {L : zCL} {a : Int32} {i k b : Nat} {fi fw f7 f8 : Nat → Int32} (h : zTK L a i k (fun q => fi (b + q)) (fun q => fw (b + q))) (hi : i < L.length) (hp : 0 < fw (b + i) - a) (e7 : f7 = upd fi (b + k) (fi (b + i))) (e8 : f8 = upd fw (b + k) (fw (b + i) - a)) : zTK L a (i + 1) (k + 1) (fun q => f7 (b + q)) (fun q => f8 (b + q)) :=
  zTK_y h hi hp (by rw [e7]; exact zsh_upd _ _ _ _) (by rw [e8]; exact zsh_upd _ _ _ _)
theorem zTKs_n {L : zCL} {a v w : Int32} {i k b : Nat} {fi fw f7 f8 : Nat → Int32} (h : zTK L a i k (fun q => fi (b + q)) (fun q => fw (b + q))) (hi : i < L.length) (hp : ¬ 0 < fw (b + i) - a) (e7 : f7 = upd fi (b + k) v) (e8 : f8 = upd fw (b + k) w) : zTK L a (i + 1) k (fun q => f7 (b + q)) (fun q => f8 (b + q)) := by
  have e1 : (fun q => f7 (b + q)) = upd (fun q => fi (b + q)) k v := by rw [e7]; exact zsh_upd _ _ _ _
  have e2 : (fun q => f8 (b + q)) = upd (fun q => fw (b + q)) k w := by rw [e8]; exact zsh_upd _ _ _ _
  exact Eq.mpr (congr (congrArg (zTK L a (i + 1) k) e1) e2) (zTK_w h hi hp v w)
theorem zjn_lent {L K : zCL} {i : Nat} : (zjn L (K.take i)).length ≤ L.length + i := by
  have h1 := zjn_len (L := L) (M := K.take i)
  rw [List.length_take] at h1
  omega
theorem zM_9 {x : zT} {j : Nat} {c d f9 : Nat → Int32} {L : zCL} {aw ow v : Int32} (hj : j < 4) (hM : zM x j c d L aw) (hv : v = ow) (e : f9 = upd (x.1 9) j (x.1 9 j + v)) : zMF x (xi x 9 f9) j ∧ zM (xi x 9 f9) j c d L (aw + ow) := by
  obtain ⟨m1, m2, m3, m4, m5, m6, m7⟩ := hM
  refine ⟨zMF_u zMF_rf e (by show 1 * j ≤ _ ∧ _ < 1 * j + 1; omega), m1, m2, m3, m4, ?_, m6, m7⟩
  show f9 j = _
  rw [e, pk_us, m5, hv]
theorem zM_put {x : zT} {j i : Nat} {c d f3 f4 : Nat → Int32} {L : zCL} {aw w : Int32} (hj : j < 4) (hi : i < 64) (hM : zM x j c d L aw) (e3 : f3 = upd (x.1 3) (64 * j + i) (x.1 3 (64 * j + i) + w)) (e4 : f4 = upd (x.1 4) j (x.1 4 j + w)) : zMF x (xi (xi x 3 f3) 4 f4) j ∧ zM (xi (xi x 3 f3) 4 f4) j (upd c i (c i + w)) d L aw := by
  obtain ⟨m1, m2, m3, m4, m5, m6, m7⟩ := hM
  refine ⟨zMF_u (zMF_u zMF_rf e3 (by show 64 * j ≤ _ ∧ _ < 64 * j + 64; omega)) e4 (by show 1 * j ≤ _ ∧ _ < 1 * j + 1; omega), fun q hq => ?_, ?_, m3, m4, m5, m6, m7⟩
  · show f3 (64 * j + q) = _
    rw [e3, m1 i hi]
    by_cases h : q = i
    · subst h; rw [pk_us, pk_us]
    · rw [pk_un (by omega), pk_un h]; exact m1 q hq
  · show f4 j = _
    rw [e4, pk_us, m2, ztot_put hi]
theorem zM_join {x : zT} {j o : Nat} {c d c2 d2 f3 f5 f4 : Nat → Int32} {L K : zCL} {aw ow : Int32} (hj : j < 4) (ho : o < 4) (hjo : j ≠ o) (hM : zM x j c d L aw) (hO : zM x o c2 d2 K ow) (e3 : ∀ q, q < 64 → f3 (64 * j + q) = x.1 3 (64 * j + q) + x.1 3 (64 * o + q)) (o3 : ∀ p, p < 64 * j ∨ 64 * j + 64 ≤ p → f3 p = x.1 3 p) (e5 : ∀ q, q < 72 → f5 (72 * j + q) = x.1 5 (72 * j + q) + x.1 5 (72 * o + q)) (o5 : ∀ p, p < 72 * j ∨ 72 * j + 72 ≤ p → f5 p = x.1 5 p) (e4 : f4 = upd (x.1 4) j (x.1 4 j + x.1 4 o)) : zMF x (xi (xi (xi x 3 f3) 5 f5) 4 f4) j ∧ zM (xi (xi (xi x 3 f3) 5 f5) 4 f4) j (fun k => c k + c2 k) (fun k => d k + d2 k) L aw := by
  obtain ⟨m1, m2, m3, m4, m5, m6, m7⟩ := hM
  refine ⟨zMF_u (zMF_s (zMF_s zMF_rf (fun p hp => o3 p hp)) (fun p hp => o5 p hp)) e4 (by show 1 * j ≤ _ ∧ _ < 1 * j + 1; omega), fun q hq => ?_, ?_, fun q hq => ?_, m4, m5, m6, m7⟩
  · show f3 (64 * j + q) = _
    rw [e3 q hq, m1 q hq, hO.1 q hq]
  · show f4 j = _
    rw [e4, pk_us, m2, hO.2.1]
    exact (zsum_add c c2 0 64).symm
  · show f5 (72 * j + q) = _
    rw [e5 q hq, m3 q hq, hO.2.2.1 q hq]
theorem zM_clear {x : zT} {j : Nat} {f3 f5 f4 f6 f9 : Nat → Int32} (hj : j < 4) (e3 : ∀ q, q < 64 → f3 (64 * j + q) = 0) (o3 : ∀ p, p < 64 * j ∨ 64 * j + 64 ≤ p → f3 p = x.1 3 p) (e5 : ∀ q, q < 72 → f5 (72 * j + q) = 0) (o5 : ∀ p, p < 72 * j ∨ 72 * j + 72 ≤ p → f5 p = x.1 5 p) (e4 : f4 = upd (x.1 4) j (nI 0)) (e6 : f6 = upd (x.1 6) j (nI 0)) (e9 : f9 = upd (x.1 9) j (nI 0)) : zMF x (xi (xi (xi (xi (xi x 3 f3) 5 f5) 4 f4) 6 f6) 9 f9) j ∧ zM (xi (xi (xi (xi (xi x 3 f3) 5 f5) 4 f4) 6 f6) 9 f9) j (fun _ => 0) (fun _ => 0) [] 0 := by
  refine ⟨zMF_u (zMF_u (zMF_u (zMF_s (zMF_s zMF_rf (fun p hp => o3 p hp)) (fun p hp => o5 p hp)) e4 (by show 1 * j ≤ _ ∧ _ < 1 * j + 1; omega)) e6 (by show 1 * j ≤ _ ∧ _ < 1 * j + 1; omega)) e9 (by show 1 * j ≤ _ ∧ _ < 1 * j + 1; omega), e3, ?_, e5, ?_, ?_, Nat.zero_le _, fun q hq => absurd hq (Nat.not_lt_zero q)⟩
  · show f4 j = _
    rw [e4, pk_us]
    exact (zsum_0 0 64).symm
  · show f6 j = _
    rw [e6, pk_us]
    rfl
  · show f9 j = _
    rw [e9, pk_us]
    rfl
theorem zfr_s {f f' a : Nat → Int32} {P : Nat → Prop} {i : Nat} {v : Int32} (h : ∀ p, P p → f p = a p) (e : f' = upd f i v) (hi : ¬ P i) : ∀ p, P p → f' p = a p := fun p hp => by
  rw [e, pk_un (fun z => hi (by rw [← z]; exact hp))]
  exact h p hp
/-- one more of a stream's own numbers has been added to -/
theorem zja_s {f f' a : Nat → Int32} {b b2 n i : Nat} (hi : i < n) (h : ∀ q, q < n → f (b + q) = if q < i then a (b + q) + a (b2 + q) else a (b + q)) {v : Int32} (hv : v = a (b2 + i)) (e : f' = upd f (b + i) (f (b + i) + v)) : ∀ q, q < n → f' (b + q) = if q < i + 1 then a (b + q) + a (b2 + q) else a (b + q) := fun q hq => by
  by_cases c : q = i
  · subst c
    rw [e, pk_us, h q hq, if_neg (Nat.lt_irrefl q), if_pos (by omega), hv]
  · rw [e, pk_un (by omega), h q hq]
    by_cases c2 : q < i
    · rw [if_pos c2, if_pos (by omega)]
    · rw [if_neg c2, if_neg (by omega)]
theorem zj0_s {f f' : Nat → Int32} {b i : Nat} (h : ∀ q, q < i → f (b + q) = 0) (e : f' = upd f (b + i) (nI 0)) : ∀ q, q < i + 1 → f' (b + q) = 0 := fun q hq => by
  by_cases c : q = i
  · subst c
    rw [e, pk_us]
    rfl
  · rw [e, pk_un (by omega)]
    exact h q (by omega)
set_option maxHeartbeats 4000000 in
set_option maxRecDepth 100000 in
/-- X6_opens -/
theorem c_X6_opens (l : Launch) {g : zG} (hg : zOk g) (x : zT) (j : Nat) (hj : j < 4) (c d : Nat → Int32) (L : zCL) (aw : Int32) (hM : zM x j c d L aw) (h8' : L.length < 8) (v w : Int32) : Met l yX6_opens wsX6_opens ({ frames := 0, cells := 0, slots := 0, locals := 0 }) (va_Pc [.ref (zad g 2), .int (nI j), .int v, .int w] (zPre g x)) (va_Qv (fun (u : zT) => zMF x u j ∧ zM u j c d (L ++ [(v, w)]) aw) (zB g) (zA g)) 0 0 (zA g) := by
  refine z_met (cc := cX6_opens) (nL := 4) (ret := none) hg (by decide) rfl (Nat.le_of_ble_eq_true rfl) ?_
  intro p_ e_ s_ m_ args_ below_ meth_ c_ C hr
  show Z p_ l e_ _ s_ m_ args_ below_ meth_ c_ g 4 0 0 _ x 0 [(0, .ref (zad g 2)), (1, .int (nI j)), (2, .int v), (3, .int w)] []
  have hw_f22 := C.1.2.2.2.2 (.fieldLink RX6 22 "CountcoteModel" "items" "[I") (by decide +kernel)
  have hinX6 : ∀ w ∈ wsX60, w ∈ wsX6_opens := by decide +kernel
  have hw_f19 := C.1.2.2.2.2 (.fieldLink RX6 19 "CountcoteModel" "counters" "[I") (by decide +kernel)
  have hw_f25 := C.1.2.2.2.2 (.fieldLink RX6 25 "CountcoteModel" "weights" "[I") (by decide +kernel)
  have h8 := hM.2.2.2.2.2.1
  refine z_aload_n 0 C dX6_opens_0 rfl 0 rfl ?_
  refine z_getr 1 C (ref := "CountcoteModel") (T := TX6) (N := 9) (ci := 6) (q := 5) (kR_model (q := 5) (by decide) (by decide)) rfl hinX6 (by decide) rfl hw_f22 dX6_opens_1 ?_
  refine z_bipush (v := nI 8) 4 C dX6_opens_4 rfl ?_
  refine z_iload_n 6 C dX6_opens_6 rfl 1 rfl ?_
  refine z_imul (v := nI (8 * j)) 7 C dX6_opens_7 (pk_mul 8 j) ?_
  refine z_aload_n 8 C dX6_opens_8 rfl 0 rfl ?_
  refine z_getr 9 C (ref := "CountcoteModel") (T := TX6) (N := 9) (ci := 6) (q := 4) (kR_model (q := 4) (by decide) (by decide)) rfl hinX6 (by decide) rfl hw_f19 dX6_opens_9 ?_
  refine z_iload_n 12 C dX6_opens_12 rfl 1 rfl ?_
  refine z_iald (v := nI L.length) 13 C kI_6 (by omega) (by rw [hM.2.2.2.1]) dX6_opens_13 ?_
  refine z_iadd (v := nI ((8 * j) + L.length)) 14 C dX6_opens_14 (nI_add (8 * j) L.length) ?_
  refine z_iload_n 15 C dX6_opens_15 rfl 2 rfl ?_
  obtain ⟨f1, ef1⟩ : ∃ f9 : Nat → Int32, f9 = upd (x.1 7) ((8 * j) + L.length) v := ⟨_, rfl⟩
  refine z_iast (f := f1) 16 C kI_7 (by omega) (by exact ef1.symm) dX6_opens_16 ?_
  refine z_aload_n 17 C dX6_opens_17 rfl 0 rfl ?_
  refine z_getr 18 C (ref := "CountcoteModel") (T := TX6) (N := 9) (ci := 6) (q := 6) (kR_model (q := 6) (by decide) (by decide)) rfl hinX6 (by decide) rfl hw_f25 dX6_opens_18 ?_
  refine z_bipush (v := nI 8) 21 C dX6_opens_21 rfl ?_
  refine z_iload_n 23 C dX6_opens_23 rfl 1 rfl ?_
  refine z_imul (v := nI (8 * j)) 24 C dX6_opens_24 (pk_mul 8 j) ?_
  refine z_aload_n 25 C dX6_opens_25 rfl 0 rfl ?_
  refine z_getr 26 C (ref := "CountcoteModel") (T := TX6) (N := 9) (ci := 6) (q := 4) (kR_model (q := 4) (by decide) (by decide)) rfl hinX6 (by decide) rfl hw_f19 dX6_opens_26 ?_
  refine z_iload_n 29 C dX6_opens_29 rfl 1 rfl ?_
  refine z_iald (v := nI L.length) 30 C kI_6 (by omega) (by rw [xi_n _ (by decide), hM.2.2.2.1]) dX6_opens_30 ?_
  refine z_iadd (v := nI ((8 * j) + L.length)) 31 C dX6_opens_31 (nI_add (8 * j) L.length) ?_
  refine z_iload_n 32 C dX6_opens_32 rfl 3 rfl ?_
  obtain ⟨f2, ef2⟩ : ∃ f9 : Nat → Int32, f9 = upd (x.1 8) ((8 * j) + L.length) w := ⟨_, rfl⟩
  refine z_iast (f := f2) 33 C kI_8 (by omega) (by rw [xi_n _ (by decide)]; exact ef2.symm) dX6_opens_33 ?_
  refine z_aload_n 34 C dX6_opens_34 rfl 0 rfl ?_
  refine z_getr 35 C (ref := "CountcoteModel") (T := TX6) (N := 9) (ci := 6) (q := 4) (kR_model (q := 4) (by decide) (by decide)) rfl hinX6 (by decide) rfl hw_f19 dX6_opens_35 ?_
  refine z_iload_n 38 C dX6_opens_38 rfl 1 rfl ?_
  refine z_dup2 39 C dX6_opens_39 rfl rfl ?_
  refine z_iald (v := nI L.length) 40 C kI_6 (by omega) (by rw [xi_n _ (by decide), xi_n _ (by decide), hM.2.2.2.1]) dX6_opens_40 ?_
  refine z_iconst (v := nI 1) 41 C dX6_opens_41 rfl ?_
  refine z_iadd (v := nI (L.length + 1)) 42 C dX6_opens_42 (nI_add L.length 1) ?_
  obtain ⟨f3, ef3⟩ : ∃ f9 : Nat → Int32, f9 = upd (x.1 6) j (nI (L.length + 1)) := ⟨_, rfl⟩
  refine z_iast (f := f3) 43 C kI_6 (by omega) (by rw [xi_n _ (by decide), xi_n _ (by decide)]; exact ef3.symm) dX6_opens_43 ?_
  exact z_vret 44 C hr (zM_push hj hM h8' ef1 ef2 ef3) dX6_opens_44
set_option maxHeartbeats 4000000 in
set_option maxRecDepth 100000 in
/-- X6_takes -/
theorem c_X6_takes (l : Launch) {g : zG} (hg : zOk g) (x : zT) (j : Nat) (hj : j < 4) (c d : Nat → Int32) (L : zCL) (aw : Int32) (hM : zM x j c d L aw) (a : Int32) : Met l yX6_takes wsX6_takes ({ frames := 0, cells := 0, slots := 0, locals := 0 }) (va_Pc [.ref (zad g 2), .int (nI j), .int a] (zPre g x)) (va_Qv (fun (u : zT) => zMF x u j ∧ zM u j c d (ztk L a) (aw + a)) (zB g) (zA g)) 0 0 (zA g) := by
  refine z_met (cc := cX6_takes) (nL := 6) (ret := none) hg (by decide) rfl (Nat.le_of_ble_eq_true rfl) ?_
  intro p_ e_ s_ m_ args_ below_ meth_ c_ C hr
  show Z p_ l e_ _ s_ m_ args_ below_ meth_ c_ g 6 0 0 _ x 0 [(0, .ref (zad g 2)), (1, .int (nI j)), (2, .int a)] []
  have hw_f19 := C.1.2.2.2.2 (.fieldLink RX6 19 "CountcoteModel" "counters" "[I") (by decide +kernel)
  have hinX6 : ∀ w ∈ wsX60, w ∈ wsX6_takes := by decide +kernel
  have hw_f28 := C.1.2.2.2.2 (.fieldLink RX6 28 "CountcoteModel" "taken" "[I") (by decide +kernel)
  have hw_f25 := C.1.2.2.2.2 (.fieldLink RX6 25 "CountcoteModel" "weights" "[I") (by decide +kernel)
  have hw_f22 := C.1.2.2.2.2 (.fieldLink RX6 22 "CountcoteModel" "items" "[I") (by decide +kernel)
  have h8 := hM.2.2.2.2.2.1
  refine z_iconst (v := nI 0) 0 C dX6_takes_0 rfl ?_
  refine z_istore_n (lv' := [(3, .int (nI 0)), (0, .ref (zad g 2)), (1, .int (nI j)), (2, .int a)]) 1 C dX6_takes_1 rfl (by decide) rfl ?_
  refine z_iconst (v := nI 0) 2 C dX6_takes_2 rfl ?_
  refine z_istore (lv' := [(4, .int (nI 0)), (3, .int (nI 0)), (0, .ref (zad g 2)), (1, .int (nI j)), (2, .int a)]) 3 C dX6_takes_3 (by decide) rfl ?_
  refine z_x (y := (xi x 7 (x.1 7))) (xi_idf rfl) ?_
  refine z_x (y := (xi (xi x 7 (x.1 7)) 8 (x.1 8))) (xi_idf (by rw [xi_n _ (by decide)])) ?_
  have J5 : ∀ (n5 : Nat) (i : Nat) (k : Nat) (fi : Nat → Int32) (fw : Nat → Int32), (i ≤ L.length) → (L.length < i + n5) → (zTK L a i k (fun q => fi (8 * j + q)) (fun q => fw (8 * j + q))) → (∀ p, p < 8 * j ∨ 8 * j + 8 ≤ p → fi p = x.1 7 p ∧ fw p = x.1 8 p) → Z p_ l e_ (headSpec wsX6_takes ({ frames := 0, cells := 0, slots := 0, locals := 0 })).room s_ m_ args_ below_ meth_ c_ g 6 0 0 (MQ below_ (va_Qv (fun (u : zT) => zMF x u j ∧ zM u j c d (ztk L a) (aw + a)) (zB g) (zA g)) args_ s_ 0 0 (zA g)) (xi (xi x 7 fi) 8 fw) 5 [(0, .ref (zad g 2)), (1, .int (nI j)), (2, .int a), (3, .int (nI k)), (4, .int (nI i))] [] := by
    intro n5
    induction n5 with
    | zero => intro i k fi fw hi hn hT hO; exact absurd hn (by omega)
    | succ n5 ih5 =>
      intro i k fi fw hi hn hT hO
      refine z_iload 5 C dX6_takes_5 4 rfl ?_
      refine z_aload_n 7 C dX6_takes_7 rfl 0 rfl ?_
      refine z_getr 8 C (ref := "CountcoteModel") (T := TX6) (N := 9) (ci := 6) (q := 4) (kR_model (q := 4) (by decide) (by decide)) rfl hinX6 (by decide) rfl hw_f19 dX6_takes_8 ?_
      refine z_iload_n 11 C dX6_takes_11 rfl 1 rfl ?_
      refine z_iald (v := nI L.length) 12 C kI_6 (by omega) (by rw [xi_n _ (by decide), xi_n _ (by decide), hM.2.2.2.1]) dX6_takes_12 ?_
      refine z_icmp_geN 13 C 87 dX6_takes_13 (by decide) (by omega) (by omega) (fun h13 => ?_) (fun h13 => ?_)
      · have hk9 := hT.2.1
        refine z_aload_n 87 C dX6_takes_87 rfl 0 rfl ?_
        refine z_getr 88 C (ref := "CountcoteModel") (T := TX6) (N := 9) (ci := 6) (q := 4) (kR_model (q := 4) (by decide) (by decide)) rfl hinX6 (by decide) rfl hw_f19 dX6_takes_88 ?_
        refine z_iload_n 91 C dX6_takes_91 rfl 1 rfl ?_
        refine z_iload_n 92 C dX6_takes_92 rfl 3 rfl ?_
        obtain ⟨f1, ef1⟩ : ∃ f9 : Nat → Int32, f9 = upd (x.1 6) j (nI k) := ⟨_, rfl⟩
        refine z_iast (f := f1) 93 C kI_6 (by omega) (by rw [xi_n _ (by decide), xi_n _ (by decide)]; exact ef1.symm) dX6_takes_93 ?_
        refine z_aload_n 94 C dX6_takes_94 rfl 0 rfl ?_
        refine z_getr 95 C (ref := "CountcoteModel") (T := TX6) (N := 9) (ci := 6) (q := 7) (kR_model (q := 7) (by decide) (by decide)) rfl hinX6 (by decide) rfl hw_f28 dX6_takes_95 ?_
        refine z_iload_n 98 C dX6_takes_98 rfl 1 rfl ?_
        refine z_dup2 99 C dX6_takes_99 rfl rfl ?_
        refine z_iald (v := (x.1 9) j) 100 C kI_9 (by omega) (by rw [xi_n _ (by decide), xi_n _ (by decide), xi_n _ (by decide)]) dX6_takes_100 ?_
        refine z_iload_n 101 C dX6_takes_101 rfl 2 rfl ?_
        refine z_iadd (v := ((x.1 9) j) + a) 102 C dX6_takes_102 rfl ?_
        obtain ⟨f2, ef2⟩ : ∃ f9 : Nat → Int32, f9 = upd (x.1 9) j (((x.1 9) j) + a) := ⟨_, rfl⟩
        refine z_iast (f := f2) 103 C kI_9 (by omega) (by rw [xi_n _ (by decide), xi_n _ (by decide), xi_n _ (by decide)]; exact ef2.symm) dX6_takes_103 ?_
        exact z_vret 104 C hr (zM_tk hj hM hO (by rw [show i = L.length by omega] at hT; exact hT) ef1 ef2) dX6_takes_104
      · have hk9 := hT.2.1
        refine z_aload_n 16 C dX6_takes_16 rfl 0 rfl ?_
        refine z_getr 17 C (ref := "CountcoteModel") (T := TX6) (N := 9) (ci := 6) (q := 6) (kR_model (q := 6) (by decide) (by decide)) rfl hinX6 (by decide) rfl hw_f25 dX6_takes_17 ?_
        refine z_bipush (v := nI 8) 20 C dX6_takes_20 rfl ?_
        refine z_iload_n 22 C dX6_takes_22 rfl 1 rfl ?_
        refine z_imul (v := nI (8 * j)) 23 C dX6_takes_23 (pk_mul 8 j) ?_
        refine z_iload 24 C dX6_takes_24 4 rfl ?_
        refine z_iadd (v := nI ((8 * j) + i)) 26 C dX6_takes_26 (nI_add (8 * j) i) ?_
        refine z_iald (v := fw ((8 * j) + i)) 27 C kI_8 (by omega) (by rw [xi_s]) dX6_takes_27 ?_
        refine z_iload_n 28 C dX6_takes_28 rfl 2 rfl ?_
        refine z_isub (v := (fw ((8 * j) + i)) - a) 29 C dX6_takes_29 rfl ?_
        refine z_istore (lv' := [(5, .int ((fw ((8 * j) + i)) - a)), (0, .ref (zad g 2)), (1, .int (nI j)), (2, .int a), (3, .int (nI k)), (4, .int (nI i))]) 30 C dX6_takes_30 (by decide) rfl ?_
        refine z_aload_n 32 C dX6_takes_32 rfl 1 rfl ?_
        refine z_getr 33 C (ref := "CountcoteModel") (T := TX6) (N := 9) (ci := 6) (q := 5) (kR_model (q := 5) (by decide) (by decide)) rfl hinX6 (by decide) rfl hw_f22 dX6_takes_33 ?_
        refine z_bipush (v := nI 8) 36 C dX6_takes_36 rfl ?_
        refine z_iload_n 38 C dX6_takes_38 rfl 2 rfl ?_
        refine z_imul (v := nI (8 * j)) 39 C dX6_takes_39 (pk_mul 8 j) ?_
        refine z_iload_n 40 C dX6_takes_40 rfl 4 rfl ?_
        refine z_iadd (v := nI ((8 * j) + k)) 41 C dX6_takes_41 (nI_add (8 * j) k) ?_
        refine z_aload_n 42 C dX6_takes_42 rfl 1 rfl ?_
        refine z_getr 43 C (ref := "CountcoteModel") (T := TX6) (N := 9) (ci := 6) (q := 5) (kR_model (q := 5) (by decide) (by decide)) rfl hinX6 (by decide) rfl hw_f22 dX6_takes_43 ?_
        refine z_bipush (v := nI 8) 46 C dX6_takes_46 rfl ?_
        refine z_iload_n 48 C dX6_takes_48 rfl 2 rfl ?_
        refine z_imul (v := nI (8 * j)) 49 C dX6_takes_49 (pk_mul 8 j) ?_
        refine z_iload 50 C dX6_takes_50 5 rfl ?_
        refine z_iadd (v := nI ((8 * j) + i)) 52 C dX6_takes_52 (nI_add (8 * j) i) ?_
        refine z_iald (v := fi ((8 * j) + i)) 53 C kI_7 (by omega) (by rw [xi_n _ (by decide), xi_s]) dX6_takes_53 ?_
        obtain ⟨f3, ef3⟩ : ∃ f9 : Nat → Int32, f9 = upd fi ((8 * j) + k) (fi ((8 * j) + i)) := ⟨_, rfl⟩
        refine z_iast (f := f3) 54 C kI_7 (by omega) (by rw [xi_n _ (by decide), xi_s]; exact ef3.symm) dX6_takes_54 ?_
        refine z_x (y := (xi (xi x 7 f3) 8 fw)) (by rw [xi_comm (k := 8) (k' := 7) _ (by decide), xi_xi]) ?_
        refine z_aload_n 55 C dX6_takes_55 rfl 1 rfl ?_
        refine z_getr 56 C (ref := "CountcoteModel") (T := TX6) (N := 9) (ci := 6) (q := 6) (kR_model (q := 6) (by decide) (by decide)) rfl hinX6 (by decide) rfl hw_f25 dX6_takes_56 ?_
        refine z_bipush (v := nI 8) 59 C dX6_takes_59 rfl ?_
        refine z_iload_n 61 C dX6_takes_61 rfl 2 rfl ?_
        refine z_imul (v := nI (8 * j)) 62 C dX6_takes_62 (pk_mul 8 j) ?_
        refine z_iload_n 63 C dX6_takes_63 rfl 4 rfl ?_
        refine z_iadd (v := nI ((8 * j) + k)) 64 C dX6_takes_64 (nI_add (8 * j) k) ?_
        refine z_iload 65 C dX6_takes_65 0 rfl ?_
        obtain ⟨f4, ef4⟩ : ∃ f9 : Nat → Int32, f9 = upd fw ((8 * j) + k) ((fw ((8 * j) + i)) - a) := ⟨_, rfl⟩
        refine z_iast (f := f4) 67 C kI_8 (by omega) (by rw [xi_s]; exact ef4.symm) dX6_takes_67 ?_
        refine z_x (y := (xi (xi x 7 f3) 8 f4)) (by rw [xi_xi]) ?_
        refine z_iload_n 68 C dX6_takes_68 rfl 4 rfl ?_
        refine z_iload 69 C dX6_takes_69 0 rfl ?_
        refine z_if_le 71 C 78 dX6_takes_71 (by decide) (fun h71 => ?_) (fun h71 => ?_)
        · refine z_iconst (v := nI 0) 78 C dX6_takes_78 rfl ?_
          refine z_iadd (v := nI (k + 0)) 79 C dX6_takes_79 (nI_add k 0) ?_
          refine z_istore_n (lv' := [(3, .int (nI (k + 0))), (5, .int ((fw ((8 * j) + i)) - a)), (0, .ref (zad g 2)), (1, .int (nI j)), (2, .int a), (4, .int (nI i))]) 80 C dX6_takes_80 rfl (by decide) rfl ?_
          refine z_iinc (v' := nI (i + 1)) (lv' := [(4, .int (nI (i + 1))), (3, .int (nI (k + 0))), (5, .int ((fw ((8 * j) + i)) - a)), (0, .ref (zad g 2)), (1, .int (nI j)), (2, .int a)]) 81 C dX6_takes_81 (q := 5) rfl (zn_inc i 1) (by decide) rfl ?_
          refine z_goto 84 C 5 dX6_takes_84 (by decide) ?_
          refine z_lv (lv' := [(0, .ref (zad g 2)), (1, .int (nI j)), (2, .int a), (3, .int (nI (k + 0))), (4, .int (nI (i + 1)))]) [3, 4, 5, 1, 0] rfl ?_
          exact ih5 (i + 1) (k + 0) f3 f4 (by omega) (by omega) (zTKs_n hT h13 (fun z => zn_npos z h71) ef3 ef4) (fun p hp => ⟨by rw [ef3, pk_un (by omega)]; exact (hO p hp).1, by rw [ef4, pk_un (by omega)]; exact (hO p hp).2⟩)
        · refine z_iconst (v := nI 1) 74 C dX6_takes_74 rfl ?_
          refine z_goto 75 C 79 dX6_takes_75 (by decide) ?_
          refine z_iadd (v := nI (k + 1)) 79 C dX6_takes_79 (nI_add k 1) ?_
          refine z_istore_n (lv' := [(3, .int (nI (k + 1))), (5, .int ((fw ((8 * j) + i)) - a)), (0, .ref (zad g 2)), (1, .int (nI j)), (2, .int a), (4, .int (nI i))]) 80 C dX6_takes_80 rfl (by decide) rfl ?_
          refine z_iinc (v' := nI (i + 1)) (lv' := [(4, .int (nI (i + 1))), (3, .int (nI (k + 1))), (5, .int ((fw ((8 * j) + i)) - a)), (0, .ref (zad g 2)), (1, .int (nI j)), (2, .int a)]) 81 C dX6_takes_81 (q := 5) rfl (zn_inc i 1) (by decide) rfl ?_
          refine z_goto 84 C 5 dX6_takes_84 (by decide) ?_
          refine z_lv (lv' := [(0, .ref (zad g 2)), (1, .int (nI j)), (2, .int a), (3, .int (nI (k + 1))), (4, .int (nI (i + 1)))]) [3, 4, 5, 1, 0] rfl ?_
          exact ih5 (i + 1) (k + 1) f3 f4 (by omega) (by omega) (zTKs_y hT h13 (zn_pos h71) ef3 ef4) (fun p hp => ⟨by rw [ef3, pk_un (by omega)]; exact (hO p hp).1, by rw [ef4, pk_un (by omega)]; exact (hO p hp).2⟩)
  refine z_lv (lv' := [(0, .ref (zad g 2)), (1, .int (nI j)), (2, .int a), (3, .int (nI 0)), (4, .int (nI 0))]) [2, 3, 4, 1, 0] rfl ?_
  exact J5 (L.length + 1) 0 0 (x.1 7) (x.1 8) (Nat.zero_le _) (by omega) (zTK0 hM) (fun p _ => ⟨rfl, rfl⟩)
set_option maxHeartbeats 4000000 in
set_option maxRecDepth 100000 in
/-- X6_addsToCounters -/
theorem c_X6_addsToCounters (l : Launch) {g : zG} (hg : zOk g) (x : zT) (j : Nat) (hj : j < 4) (c d : Nat → Int32) (L : zCL) (aw : Int32) (hM : zM x j c d L aw) (hD : zND L) (h4 : L.length ≤ 4) (hP : ∀ q, q < L.length → 0 < zLw L q) (v w : Int32) (hw0 : 0 < w) : Met l yX6_addsToCounters wsX6_addsToCounters ({ frames := 1, cells := 0, slots := 0, locals := 25 }) (va_Pc [.ref (zad g 2), .int (nI j), .int v, .int w] (zPre g x)) (va_Qv (fun (u : zT) => zMF x u j ∧ zM u j c d (zadd L v w) (aw + zaddw L v w)) (zB g) (zA g)) 0 0 (zA g) := by
  refine z_met (cc := cX6_addsToCounters) (nL := 8) (ret := none) hg (by decide) rfl (Nat.le_of_ble_eq_true rfl) ?_
  intro p_ e_ s_ m_ args_ below_ meth_ c_ C hr
  show Z p_ l e_ _ s_ m_ args_ below_ meth_ c_ g 8 0 0 _ x 0 [(0, .ref (zad g 2)), (1, .int (nI j)), (2, .int v), (3, .int w)] []
  have hw_f25 := C.1.2.2.2.2 (.fieldLink RX6 25 "CountcoteModel" "weights" "[I") (by decide +kernel)
  have hinX6 : ∀ w ∈ wsX60, w ∈ wsX6_addsToCounters := by decide +kernel
  have hw_f19 := C.1.2.2.2.2 (.fieldLink RX6 19 "CountcoteModel" "counters" "[I") (by decide +kernel)
  have h8 := hM.2.2.2.2.2.1
  refine z_aload_n 0 C dX6_addsToCounters_0 rfl 0 rfl ?_
  refine z_iload_n 1 C dX6_addsToCounters_1 rfl 1 rfl ?_
  refine z_iload_n 2 C dX6_addsToCounters_2 rfl 2 rfl ?_
  refine z_callVi 3 C (As := [.int (nI j), .int v]) 2 kO_model rfl (c_X6_placeOfCounter l hg x j hj c d L aw hM hD v) (cwV 2 C.1.2.2.2.2 gX6_addsToCounters_X6_placeOfCounter rfl rfl rfl (by decide +kernel) ⟨Nat.le_of_ble_eq_true rfl, Nat.le_of_ble_eq_true rfl⟩) rfl rfl (Nat.le_of_ble_eq_true rfl) ⟨Nat.le_of_ble_eq_true rfl, Nat.le_of_ble_eq_true rfl⟩ dX6_addsToCounters_3 (fun r u hu => ?_)
  obtain ⟨hu1, hu2⟩ := hu
  subst u
  rcases hu2 with ⟨hq, hr9⟩ | ⟨hq, hr9⟩
  · subst r
    refine z_istore (lv' := [(4, .int (nI (zix L v))), (0, .ref (zad g 2)), (1, .int (nI j)), (2, .int v), (3, .int w)]) 6 C dX6_addsToCounters_6 (by decide) rfl ?_
    refine z_iload 8 C dX6_addsToCounters_8 0 rfl ?_
    refine z_iconst (v := (-1)) 10 C dX6_addsToCounters_10 rfl ?_
    refine z_icmp_eq 11 C 31 dX6_addsToCounters_11 (by decide) (fun h11 => absurd h11 (zn_m1 (zix L v) (by omega))) (fun h11 => ?_)
    refine z_aload_n 14 C dX6_addsToCounters_14 rfl 1 rfl ?_
    refine z_getr 15 C (ref := "CountcoteModel") (T := TX6) (N := 9) (ci := 6) (q := 6) (kR_model (q := 6) (by decide) (by decide)) rfl hinX6 (by decide) rfl hw_f25 dX6_addsToCounters_15 ?_
    refine z_bipush (v := nI 8) 18 C dX6_addsToCounters_18 rfl ?_
    refine z_iload_n 20 C dX6_addsToCounters_20 rfl 2 rfl ?_
    refine z_imul (v := nI (8 * j)) 21 C dX6_addsToCounters_21 (pk_mul 8 j) ?_
    refine z_iload 22 C dX6_addsToCounters_22 0 rfl ?_
    refine z_iadd (v := nI ((8 * j) + (zix L v))) 24 C dX6_addsToCounters_24 (nI_add (8 * j) (zix L v)) ?_
    refine z_dup2 25 C dX6_addsToCounters_25 rfl rfl ?_
    refine z_iald (v := (x.1 8) ((8 * j) + (zix L v))) 26 C kI_8 (by omega) rfl dX6_addsToCounters_26 ?_
    refine z_iload_n 27 C dX6_addsToCounters_27 rfl 4 rfl ?_
    refine z_iadd (v := ((x.1 8) ((8 * j) + (zix L v))) + w) 28 C dX6_addsToCounters_28 rfl ?_
    obtain ⟨f1, ef1⟩ : ∃ f9 : Nat → Int32, f9 = upd (x.1 8) ((8 * j) + (zix L v)) (((x.1 8) ((8 * j) + (zix L v))) + w) := ⟨_, rfl⟩
    refine z_iast (f := f1) 29 C kI_8 (by omega) (by exact ef1.symm) dX6_addsToCounters_29 ?_
    exact z_vret 30 C hr (by unfold zadd zaddw; rw [if_pos (show zix L v < L.length ∨ L.length < 4 from Or.inl hq), if_pos (show zix L v < L.length ∨ L.length < 4 from Or.inl hq), Int32.add_zero]; exact zM_grow hj hM hq ef1) dX6_addsToCounters_30
  · subst r
    refine z_istore (lv' := [(4, .int (-1)), (0, .ref (zad g 2)), (1, .int (nI j)), (2, .int v), (3, .int w)]) 6 C dX6_addsToCounters_6 (by decide) rfl ?_
    refine z_iload 8 C dX6_addsToCounters_8 0 rfl ?_
    refine z_iconst (v := (-1)) 10 C dX6_addsToCounters_10 rfl ?_
    refine z_icmp_eq 11 C 31 dX6_addsToCounters_11 (by decide) (fun h11 => ?_) (fun h11 => absurd rfl h11)
    refine z_iload_n 31 C dX6_addsToCounters_31 rfl 4 rfl ?_
    refine z_istore (lv' := [(5, .int w), (4, .int (-1)), (0, .ref (zad g 2)), (1, .int (nI j)), (2, .int v), (3, .int w)]) 32 C dX6_addsToCounters_32 (by decide) rfl ?_
    refine z_aload_n 34 C dX6_addsToCounters_34 rfl 2 rfl ?_
    refine z_getr 35 C (ref := "CountcoteModel") (T := TX6) (N := 9) (ci := 6) (q := 4) (kR_model (q := 4) (by decide) (by decide)) rfl hinX6 (by decide) rfl hw_f19 dX6_addsToCounters_35 ?_
    refine z_iload_n 38 C dX6_addsToCounters_38 rfl 3 rfl ?_
    refine z_iald (v := nI L.length) 39 C kI_6 (by omega) (by rw [hM.2.2.2.1]) dX6_addsToCounters_39 ?_
    refine z_iconst (v := nI 4) 40 C dX6_addsToCounters_40 rfl ?_
    refine z_icmp_neN 41 C 112 dX6_addsToCounters_41 (by decide) (by omega) (by omega) (fun h41 => ?_) (fun h41 => ?_)
    · refine z_iload 112 C dX6_addsToCounters_112 0 rfl ?_
      refine z_if_le 114 C 125 dX6_addsToCounters_114 (by decide) (fun h114 => absurd (Int32.lt_of_lt_of_le hw0 h114) Int32.lt_irrefl) (fun h114 => ?_)
      refine z_aload_n 117 C dX6_addsToCounters_117 rfl 2 rfl ?_
      refine z_iload_n 118 C dX6_addsToCounters_118 rfl 3 rfl ?_
      refine z_iload_n 119 C dX6_addsToCounters_119 rfl 4 rfl ?_
      refine z_iload 120 C dX6_addsToCounters_120 0 rfl ?_
      refine z_callVv 122 C (As := [.int (nI j), .int v, .int w]) 3 kO_model rfl (c_X6_opens l hg x j hj c d L aw hM (by omega) v w) (cwV 3 C.1.2.2.2.2 gX6_addsToCounters_X6_opens rfl rfl rfl (by decide +kernel) ⟨Nat.le_of_ble_eq_true rfl, Nat.le_of_ble_eq_true rfl⟩) rfl rfl (Nat.le_of_ble_eq_true rfl) ⟨Nat.le_of_ble_eq_true rfl, Nat.le_of_ble_eq_true rfl⟩ dX6_addsToCounters_122 (fun y2 hu => ?_)
      obtain ⟨hF3, hN4⟩ := hu
      have h85 := hN4.2.2.2.2.2.1
      have hF6 := zMF_t zMF_rf hF3
      exact z_vret 125 C hr ⟨hF6, by unfold zadd zaddw; rw [if_pos (show zix L v < L.length ∨ L.length < 4 from Or.inr (by omega)), if_pos (show zix L v < L.length ∨ L.length < 4 from Or.inr (by omega)), Int32.add_zero, zgrow_n hq (by omega)]; exact hN4⟩ dX6_addsToCounters_125
    · refine z_iload_n 44 C dX6_addsToCounters_44 rfl 5 rfl ?_
      refine z_istore (lv' := [(6, .int w), (5, .int w), (4, .int (-1)), (0, .ref (zad g 2)), (1, .int (nI j)), (2, .int v), (3, .int w)]) 45 C dX6_addsToCounters_45 (by decide) rfl ?_
      refine z_iconst (v := nI 0) 47 C dX6_addsToCounters_47 rfl ?_
      refine z_istore (lv' := [(7, .int (nI 0)), (6, .int w), (5, .int w), (4, .int (-1)), (0, .ref (zad g 2)), (1, .int (nI j)), (2, .int v), (3, .int w)]) 48 C dX6_addsToCounters_48 (by decide) rfl ?_
      have J50 : ∀ (n50 : Nat) (i : Nat) (m : Int32), (i ≤ 4) → (4 < i + n50) → (m = zmw w (zLw L) i) → Z p_ l e_ (headSpec wsX6_addsToCounters ({ frames := 1, cells := 0, slots := 0, locals := 25 })).room s_ m_ args_ below_ meth_ c_ g 8 0 0 (MQ below_ (va_Qv (fun (u : zT) => zMF x u j ∧ zM u j c d (zadd L v w) (aw + zaddw L v w)) (zB g) (zA g)) args_ s_ 0 0 (zA g)) x 50 [(0, .ref (zad g 2)), (1, .int (nI j)), (2, .int v), (3, .int w), (4, .int (-1)), (5, .int w), (6, .int m), (7, .int (nI i))] [] := by
        intro n50
        induction n50 with
        | zero => intro i m hi hn hm; exact absurd hn (by omega)
        | succ n50 ih50 =>
          intro i m hi hn hm
          refine z_iload 50 C dX6_addsToCounters_50 7 rfl ?_
          refine z_iconst (v := nI 4) 52 C dX6_addsToCounters_52 rfl ?_
          refine z_icmp_geN 53 C 98 dX6_addsToCounters_53 (by decide) (by omega) (by omega) (fun h53 => ?_) (fun h53 => ?_)
          · have hmm : m = zmin w (zmn (zLw L) (L.length - 1)) := by rw [hm, show i = 3 + 1 by omega, zmw_mn, show L.length - 1 = 3 by omega]
            have hmw : m ≤ w := by rw [hmm]; exact zmin_le1 _ _
            have hlt := ztk_len L m
            have hm0 : 0 < m := by rw [hm]; exact zmw_pos hw0 (fun q hq => hP q (by omega))
            refine z_aload_n 98 C dX6_addsToCounters_98 rfl 0 rfl ?_
            refine z_iload_n 99 C dX6_addsToCounters_99 rfl 1 rfl ?_
            refine z_iload 100 C dX6_addsToCounters_100 6 rfl ?_
            refine z_callVv 102 C (As := [.int (nI j), .int m]) 2 kO_model rfl (c_X6_takes l hg x j hj c d L aw hM m) (cwV 2 C.1.2.2.2.2 gX6_addsToCounters_X6_takes rfl rfl rfl (by decide +kernel) ⟨Nat.le_of_ble_eq_true rfl, Nat.le_of_ble_eq_true rfl⟩) rfl rfl (Nat.le_of_ble_eq_true rfl) ⟨Nat.le_of_ble_eq_true rfl, Nat.le_of_ble_eq_true rfl⟩ dX6_addsToCounters_102 (fun y7 hu => ?_)
            obtain ⟨hF8, hN9⟩ := hu
            have h810 := hN9.2.2.2.2.2.1
            have hF11 := zMF_t zMF_rf hF8
            refine z_iload 105 C dX6_addsToCounters_105 5 rfl ?_
            refine z_iload 107 C dX6_addsToCounters_107 6 rfl ?_
            refine z_isub (v := w - m) 109 C dX6_addsToCounters_109 rfl ?_
            refine z_istore (lv' := [(5, .int (w - m)), (0, .ref (zad g 2)), (1, .int (nI j)), (2, .int v), (3, .int w), (4, .int (-1)), (6, .int m), (7, .int (nI i))]) 110 C dX6_addsToCounters_110 (by decide) rfl ?_
            refine z_iload 112 C dX6_addsToCounters_112 0 rfl ?_
            refine z_if_le 114 C 125 dX6_addsToCounters_114 (by decide) (fun h114 => ?_) (fun h114 => ?_)
            · exact z_vret 125 C hr ⟨hF11, by unfold zadd zaddw; rw [if_neg (show ¬ (zix L v < L.length ∨ L.length < 4) by omega), if_neg (show ¬ (zix L v < L.length ∨ L.length < 4) by omega), ← hmm]; rw [if_neg (show ¬ m < w from fun z => zn_npos ((zsub_pos hm0 hmw).mpr z) h114)]; exact hN9⟩ dX6_addsToCounters_125
            · refine z_aload_n 117 C dX6_addsToCounters_117 rfl 1 rfl ?_
              refine z_iload_n 118 C dX6_addsToCounters_118 rfl 2 rfl ?_
              refine z_iload_n 119 C dX6_addsToCounters_119 rfl 3 rfl ?_
              refine z_iload 120 C dX6_addsToCounters_120 0 rfl ?_
              refine z_callVv 122 C (As := [.int (nI j), .int v, .int (w - m)]) 3 kO_model rfl (c_X6_opens l hg y7 j hj c d (ztk L m) (aw + m) hN9 (by omega) v (w - m)) (cwV 3 C.1.2.2.2.2 gX6_addsToCounters_X6_opens rfl rfl rfl (by decide +kernel) ⟨Nat.le_of_ble_eq_true rfl, Nat.le_of_ble_eq_true rfl⟩) rfl rfl (Nat.le_of_ble_eq_true rfl) ⟨Nat.le_of_ble_eq_true rfl, Nat.le_of_ble_eq_true rfl⟩ dX6_addsToCounters_122 (fun y12 hu => ?_)
              obtain ⟨hF13, hN14⟩ := hu
              have h815 := hN14.2.2.2.2.2.1
              have hF16 := zMF_t hF11 hF13
              exact z_vret 125 C hr ⟨hF16, by unfold zadd zaddw; rw [if_neg (show ¬ (zix L v < L.length ∨ L.length < 4) by omega), if_neg (show ¬ (zix L v < L.length ∨ L.length < 4) by omega), ← hmm]; rw [if_pos (show m < w from (zsub_pos hm0 hmw).mp (zn_pos h114)), zgrow_n (ztk_ix hq) (by omega)]; exact hN14⟩ dX6_addsToCounters_125
          · refine z_aload_n 56 C dX6_addsToCounters_56 rfl 0 rfl ?_
            refine z_getr 57 C (ref := "CountcoteModel") (T := TX6) (N := 9) (ci := 6) (q := 6) (kR_model (q := 6) (by decide) (by decide)) rfl hinX6 (by decide) rfl hw_f25 dX6_addsToCounters_57 ?_
            refine z_bipush (v := nI 8) 60 C dX6_addsToCounters_60 rfl ?_
            refine z_iload_n 62 C dX6_addsToCounters_62 rfl 1 rfl ?_
            refine z_imul (v := nI (8 * j)) 63 C dX6_addsToCounters_63 (pk_mul 8 j) ?_
            refine z_iload 64 C dX6_addsToCounters_64 7 rfl ?_
            refine z_iadd (v := nI ((8 * j) + i)) 66 C dX6_addsToCounters_66 (nI_add (8 * j) i) ?_
            refine z_iald (v := (x.1 8) ((8 * j) + i)) 67 C kI_8 (by omega) rfl dX6_addsToCounters_67 ?_
            refine z_iload 68 C dX6_addsToCounters_68 6 rfl ?_
            refine z_icmp_ge 70 C 88 dX6_addsToCounters_70 (by decide) (fun h70 => ?_) (fun h70 => ?_)
            · refine z_iload 88 C dX6_addsToCounters_88 6 rfl ?_
              refine z_istore (lv' := [(6, .int m), (0, .ref (zad g 2)), (1, .int (nI j)), (2, .int v), (3, .int w), (4, .int (-1)), (5, .int w), (7, .int (nI i))]) 90 C dX6_addsToCounters_90 (by decide) rfl ?_
              refine z_iinc (v' := nI (i + 1)) (lv' := [(7, .int (nI (i + 1))), (6, .int m), (0, .ref (zad g 2)), (1, .int (nI j)), (2, .int v), (3, .int w), (4, .int (-1)), (5, .int w)]) 92 C dX6_addsToCounters_92 (q := 7) rfl (zn_inc i 1) (by decide) rfl ?_
              refine z_goto 95 C 50 dX6_addsToCounters_95 (by decide) ?_
              refine z_lv (lv' := [(0, .ref (zad g 2)), (1, .int (nI j)), (2, .int v), (3, .int w), (4, .int (-1)), (5, .int w), (6, .int m), (7, .int (nI (i + 1)))]) [2, 3, 4, 5, 6, 7, 1, 0] rfl ?_
              exact ih50 (i + 1) m (by omega) (by omega) (by show m = zmin (zmw w (zLw L) i) (zLw L i); rw [show zLw L i = _ from (hM.2.2.2.2.2.2 i (by omega)).2.symm, ← hm]; exact (if_neg (Int32.not_lt.mpr h70)).symm)
            · refine z_aload_n 73 C dX6_addsToCounters_73 rfl 0 rfl ?_
              refine z_getr 74 C (ref := "CountcoteModel") (T := TX6) (N := 9) (ci := 6) (q := 6) (kR_model (q := 6) (by decide) (by decide)) rfl hinX6 (by decide) rfl hw_f25 dX6_addsToCounters_74 ?_
              refine z_bipush (v := nI 8) 77 C dX6_addsToCounters_77 rfl ?_
              refine z_iload_n 79 C dX6_addsToCounters_79 rfl 1 rfl ?_
              refine z_imul (v := nI (8 * j)) 80 C dX6_addsToCounters_80 (pk_mul 8 j) ?_
              refine z_iload 81 C dX6_addsToCounters_81 7 rfl ?_
              refine z_iadd (v := nI ((8 * j) + i)) 83 C dX6_addsToCounters_83 (nI_add (8 * j) i) ?_
              refine z_iald (v := (x.1 8) ((8 * j) + i)) 84 C kI_8 (by omega) rfl dX6_addsToCounters_84 ?_
              refine z_goto 85 C 90 dX6_addsToCounters_85 (by decide) ?_
              refine z_istore (lv' := [(6, .int ((x.1 8) ((8 * j) + i))), (0, .ref (zad g 2)), (1, .int (nI j)), (2, .int v), (3, .int w), (4, .int (-1)), (5, .int w), (7, .int (nI i))]) 90 C dX6_addsToCounters_90 (by decide) rfl ?_
              refine z_iinc (v' := nI (i + 1)) (lv' := [(7, .int (nI (i + 1))), (6, .int ((x.1 8) ((8 * j) + i))), (0, .ref (zad g 2)), (1, .int (nI j)), (2, .int v), (3, .int w), (4, .int (-1)), (5, .int w)]) 92 C dX6_addsToCounters_92 (q := 7) rfl (zn_inc i 1) (by decide) rfl ?_
              refine z_goto 95 C 50 dX6_addsToCounters_95 (by decide) ?_
              refine z_lv (lv' := [(0, .ref (zad g 2)), (1, .int (nI j)), (2, .int v), (3, .int w), (4, .int (-1)), (5, .int w), (6, .int ((x.1 8) ((8 * j) + i))), (7, .int (nI (i + 1)))]) [2, 3, 4, 5, 6, 7, 1, 0] rfl ?_
              exact ih50 (i + 1) ((x.1 8) ((8 * j) + i)) (by omega) (by omega) (by show _ = zmin (zmw w (zLw L) i) (zLw L i); rw [show zLw L i = _ from (hM.2.2.2.2.2.2 i (by omega)).2.symm, ← hm]; exact (if_pos (Int32.not_le.mp h70)).symm)
      refine z_lv (lv' := [(0, .ref (zad g 2)), (1, .int (nI j)), (2, .int v), (3, .int w), (4, .int (-1)), (5, .int w), (6, .int w), (7, .int (nI 0))]) [4, 5, 6, 7, 3, 2, 1, 0] rfl ?_
      exact J50 5 0 w (by omega) (by omega) rfl
set_option maxHeartbeats 4000000 in
set_option maxRecDepth 100000 in
/-- X6_fifth -/
theorem c_X6_fifth (l : Launch) {g : zG} (hg : zOk g) (x : zT) (j : Nat) (hj : j < 4) (c d : Nat → Int32) (L : zCL) (aw : Int32) (hM : zM x j c d L aw) (h5 : 5 ≤ L.length) (hP : ∀ q, q < L.length → 0 < zLw L q) : Met l yX6_fifth wsX6_fifth ({ frames := 0, cells := 0, slots := 0, locals := 0 }) (va_Pc [.ref (zad g 2), .int (nI j)] (zPre g x)) (va_Qi (fun (r : Int32) (u : zT) => u = x ∧ r = zwr (zLw L) 5 L.length L.length) (zB g) (zA g)) 0 0 (zA g) := by
  refine z_met (cc := cX6_fifth) (nL := 8) (ret := (some .int)) hg (by decide) rfl (Nat.le_of_ble_eq_true rfl) ?_
  intro p_ e_ s_ m_ args_ below_ meth_ c_ C hr
  show Z p_ l e_ _ s_ m_ args_ below_ meth_ c_ g 8 0 0 _ x 0 [(0, .ref (zad g 2)), (1, .int (nI j))] []
  have hw_f19 := C.1.2.2.2.2 (.fieldLink RX6 19 "CountcoteModel" "counters" "[I") (by decide +kernel)
  have hinX6 : ∀ w ∈ wsX60, w ∈ wsX6_fifth := by decide +kernel
  have hw_f25 := C.1.2.2.2.2 (.fieldLink RX6 25 "CountcoteModel" "weights" "[I") (by decide +kernel)
  have h8 := hM.2.2.2.2.2.1
  refine z_iconst (v := nI 0) 0 C dX6_fifth_0 rfl ?_
  refine z_istore_n (lv' := [(2, .int (nI 0)), (0, .ref (zad g 2)), (1, .int (nI j))]) 1 C dX6_fifth_1 rfl (by decide) rfl ?_
  refine z_iconst (v := nI 0) 2 C dX6_fifth_2 rfl ?_
  refine z_istore_n (lv' := [(3, .int (nI 0)), (2, .int (nI 0)), (0, .ref (zad g 2)), (1, .int (nI j))]) 3 C dX6_fifth_3 rfl (by decide) rfl ?_
  have J4 : ∀ (n4 : Nat) (k : Nat) (t : Int32), (k ≤ L.length) → (L.length < k + n4) → ((t = 0 ∧ ∀ q, q < k → ¬ (zgc (zLw L) (zLw L q) L.length ≤ 4 ∧ 4 < zcr (zLw L) (zLw L q) L.length)) ∨ ∃ q, q < k ∧ t = zLw L q ∧ (zgc (zLw L) (zLw L q) L.length ≤ 4 ∧ 4 < zcr (zLw L) (zLw L q) L.length)) → Z p_ l e_ (headSpec wsX6_fifth ({ frames := 0, cells := 0, slots := 0, locals := 0 })).room s_ m_ args_ below_ meth_ c_ g 8 0 0 (MQ below_ (va_Qi (fun (r : Int32) (u : zT) => u = x ∧ r = zwr (zLw L) 5 L.length L.length) (zB g) (zA g)) args_ s_ 0 0 (zA g)) x 4 [(0, .ref (zad g 2)), (1, .int (nI j)), (2, .int t), (3, .int (nI k))] [] := by
    intro n4
    induction n4 with
    | zero => intro k t hk hn hq; exact absurd hn (by omega)
    | succ n4 ih4 =>
      intro k t hk hn hq
      refine z_iload_n 4 C dX6_fifth_4 rfl 3 rfl ?_
      refine z_aload_n 5 C dX6_fifth_5 rfl 0 rfl ?_
      refine z_getr 6 C (ref := "CountcoteModel") (T := TX6) (N := 9) (ci := 6) (q := 4) (kR_model (q := 4) (by decide) (by decide)) rfl hinX6 (by decide) rfl hw_f19 dX6_fifth_6 ?_
      refine z_iload_n 9 C dX6_fifth_9 rfl 1 rfl ?_
      refine z_iald (v := nI L.length) 10 C kI_6 (by omega) (by rw [hM.2.2.2.1]) dX6_fifth_10 ?_
      refine z_icmp_geN 11 C 135 dX6_fifth_11 (by decide) (by omega) (by omega) (fun h11 => ?_) (fun h11 => ?_)
      · refine z_iload_n 135 C dX6_fifth_135 rfl 2 rfl ?_
        exact z_iret 136 C hr ⟨rfl, zfifth h5 hP (by rw [show k = L.length by omega] at hq; exact hq)⟩ dX6_fifth_136
      · refine z_aload_n 14 C dX6_fifth_14 rfl 0 rfl ?_
        refine z_getr 15 C (ref := "CountcoteModel") (T := TX6) (N := 9) (ci := 6) (q := 6) (kR_model (q := 6) (by decide) (by decide)) rfl hinX6 (by decide) rfl hw_f25 dX6_fifth_15 ?_
        refine z_bipush (v := nI 8) 18 C dX6_fifth_18 rfl ?_
        refine z_iload_n 20 C dX6_fifth_20 rfl 1 rfl ?_
        refine z_imul (v := nI (8 * j)) 21 C dX6_fifth_21 (pk_mul 8 j) ?_
        refine z_iload_n 22 C dX6_fifth_22 rfl 3 rfl ?_
        refine z_iadd (v := nI ((8 * j) + k)) 23 C dX6_fifth_23 (nI_add (8 * j) k) ?_
        refine z_iald (v := (x.1 8) ((8 * j) + k)) 24 C kI_8 (by omega) rfl dX6_fifth_24 ?_
        refine z_istore (lv' := [(4, .int ((x.1 8) ((8 * j) + k))), (0, .ref (zad g 2)), (1, .int (nI j)), (2, .int t), (3, .int (nI k))]) 25 C dX6_fifth_25 (by decide) rfl ?_
        refine z_iconst (v := nI 0) 27 C dX6_fifth_27 rfl ?_
        refine z_istore (lv' := [(5, .int (nI 0)), (4, .int ((x.1 8) ((8 * j) + k))), (0, .ref (zad g 2)), (1, .int (nI j)), (2, .int t), (3, .int (nI k))]) 28 C dX6_fifth_28 (by decide) rfl ?_
        refine z_iconst (v := nI 0) 30 C dX6_fifth_30 rfl ?_
        refine z_istore (lv' := [(6, .int (nI 0)), (5, .int (nI 0)), (4, .int ((x.1 8) ((8 * j) + k))), (0, .ref (zad g 2)), (1, .int (nI j)), (2, .int t), (3, .int (nI k))]) 31 C dX6_fifth_31 (by decide) rfl ?_
        refine z_iconst (v := nI 0) 33 C dX6_fifth_33 rfl ?_
        refine z_istore (lv' := [(7, .int (nI 0)), (6, .int (nI 0)), (5, .int (nI 0)), (4, .int ((x.1 8) ((8 * j) + k))), (0, .ref (zad g 2)), (1, .int (nI j)), (2, .int t), (3, .int (nI k))]) 34 C dX6_fifth_34 (by decide) rfl ?_
        have J36 : ∀ (n36 : Nat) (i : Nat) (a : Nat) (b : Nat), (i ≤ L.length) → (L.length < i + n36) → (a = zgc (zLw L) (x.1 8 (8 * j + k)) i) → (b = zsc (zLw L) (x.1 8 (8 * j + k)) i) → Z p_ l e_ (headSpec wsX6_fifth ({ frames := 0, cells := 0, slots := 0, locals := 0 })).room s_ m_ args_ below_ meth_ c_ g 8 0 0 (MQ below_ (va_Qi (fun (r : Int32) (u : zT) => u = x ∧ r = zwr (zLw L) 5 L.length L.length) (zB g) (zA g)) args_ s_ 0 0 (zA g)) x 36 [(0, .ref (zad g 2)), (1, .int (nI j)), (2, .int t), (3, .int (nI k)), (4, .int ((x.1 8) ((8 * j) + k))), (5, .int (nI a)), (6, .int (nI b)), (7, .int (nI i))] [] := by
          intro n36
          induction n36 with
          | zero => intro i a b hi9 hn ha9 hb9; exact absurd hn (by omega)
          | succ n36 ih36 =>
            intro i a b hi9 hn ha9 hb9
            refine z_iload 36 C dX6_fifth_36 7 rfl ?_
            refine z_aload_n 38 C dX6_fifth_38 rfl 0 rfl ?_
            refine z_getr 39 C (ref := "CountcoteModel") (T := TX6) (N := 9) (ci := 6) (q := 4) (kR_model (q := 4) (by decide) (by decide)) rfl hinX6 (by decide) rfl hw_f19 dX6_fifth_39 ?_
            refine z_iload_n 42 C dX6_fifth_42 rfl 1 rfl ?_
            refine z_iald (v := nI L.length) 43 C kI_6 (by omega) (by rw [hM.2.2.2.1]) dX6_fifth_43 ?_
            refine z_icmp_geN 44 C 107 dX6_fifth_44 (by decide) (by omega) (by omega) (fun h44 => ?_) (fun h44 => ?_)
            · have hb8 := zgc_le (zLw L) (x.1 8 (8 * j + k)) i
              have hb7 := zsc_le (zLw L) (x.1 8 (8 * j + k)) i
              refine z_iload 107 C dX6_fifth_107 5 rfl ?_
              refine z_iconst (v := nI 4) 109 C dX6_fifth_109 rfl ?_
              refine z_icmp_gtN 110 C 127 dX6_fifth_110 (by decide) (by omega) (by omega) (fun h110 => ?_) (fun h110 => ?_)
              · refine z_iload_n 127 C dX6_fifth_127 rfl 2 rfl ?_
                refine z_istore_n (lv' := [(2, .int t), (0, .ref (zad g 2)), (1, .int (nI j)), (3, .int (nI k)), (4, .int ((x.1 8) ((8 * j) + k))), (5, .int (nI a)), (6, .int (nI b)), (7, .int (nI i))]) 128 C dX6_fifth_128 rfl (by decide) rfl ?_
                refine z_iinc (v' := nI (k + 1)) (lv' := [(3, .int (nI (k + 1))), (2, .int t), (0, .ref (zad g 2)), (1, .int (nI j)), (4, .int ((x.1 8) ((8 * j) + k))), (5, .int (nI a)), (6, .int (nI b)), (7, .int (nI i))]) 129 C dX6_fifth_129 (q := 3) rfl (zn_inc k 1) (by decide) rfl ?_
                refine z_goto 132 C 4 dX6_fifth_132 (by decide) ?_
                have he9 := (hM.2.2.2.2.2.2 k h11).2
                rw [show i = L.length by omega, he9] at ha9 hb9
                have hgs := zgsc (zLw L) (zL L k).2 L.length
                have hle := zgc_le (zLw L) (zL L k).2 L.length
                refine z_lv (lv' := [(0, .ref (zad g 2)), (1, .int (nI j)), (2, .int t), (3, .int (nI (k + 1)))]) [2, 3, 1, 0] rfl ?_
                exact ih4 (k + 1) t (by omega) (by omega) (zff_s (P := fun q => (zgc (zLw L) (zLw L q) L.length ≤ 4 ∧ 4 < zcr (zLw L) (zLw L q) L.length)) hq (fun z => by have z1 : zgc (zLw L) (zL L k).2 L.length ≤ 4 := z.1; have z2 : 4 < zcr (zLw L) (zL L k).2 L.length := z.2; omega))
              · refine z_iload 113 C dX6_fifth_113 5 rfl ?_
                refine z_iload 115 C dX6_fifth_115 6 rfl ?_
                refine z_iadd (v := nI (a + b)) 117 C dX6_fifth_117 (nI_add a b) ?_
                refine z_iconst (v := nI 4) 118 C dX6_fifth_118 rfl ?_
                refine z_icmp_leN 119 C 127 dX6_fifth_119 (by decide) (by omega) (by omega) (fun h119 => ?_) (fun h119 => ?_)
                · refine z_iload_n 127 C dX6_fifth_127 rfl 2 rfl ?_
                  refine z_istore_n (lv' := [(2, .int t), (0, .ref (zad g 2)), (1, .int (nI j)), (3, .int (nI k)), (4, .int ((x.1 8) ((8 * j) + k))), (5, .int (nI a)), (6, .int (nI b)), (7, .int (nI i))]) 128 C dX6_fifth_128 rfl (by decide) rfl ?_
                  refine z_iinc (v' := nI (k + 1)) (lv' := [(3, .int (nI (k + 1))), (2, .int t), (0, .ref (zad g 2)), (1, .int (nI j)), (4, .int ((x.1 8) ((8 * j) + k))), (5, .int (nI a)), (6, .int (nI b)), (7, .int (nI i))]) 129 C dX6_fifth_129 (q := 3) rfl (zn_inc k 1) (by decide) rfl ?_
                  refine z_goto 132 C 4 dX6_fifth_132 (by decide) ?_
                  have he9 := (hM.2.2.2.2.2.2 k h11).2
                  rw [show i = L.length by omega, he9] at ha9 hb9
                  have hgs := zgsc (zLw L) (zL L k).2 L.length
                  have hle := zgc_le (zLw L) (zL L k).2 L.length
                  refine z_lv (lv' := [(0, .ref (zad g 2)), (1, .int (nI j)), (2, .int t), (3, .int (nI (k + 1)))]) [2, 3, 1, 0] rfl ?_
                  exact ih4 (k + 1) t (by omega) (by omega) (zff_s (P := fun q => (zgc (zLw L) (zLw L q) L.length ≤ 4 ∧ 4 < zcr (zLw L) (zLw L q) L.length)) hq (fun z => by have z1 : zgc (zLw L) (zL L k).2 L.length ≤ 4 := z.1; have z2 : 4 < zcr (zLw L) (zL L k).2 L.length := z.2; omega))
                · refine z_iload 122 C dX6_fifth_122 4 rfl ?_
                  refine z_goto 124 C 128 dX6_fifth_124 (by decide) ?_
                  refine z_istore_n (lv' := [(2, .int ((x.1 8) ((8 * j) + k))), (0, .ref (zad g 2)), (1, .int (nI j)), (3, .int (nI k)), (4, .int ((x.1 8) ((8 * j) + k))), (5, .int (nI a)), (6, .int (nI b)), (7, .int (nI i))]) 128 C dX6_fifth_128 rfl (by decide) rfl ?_
                  refine z_iinc (v' := nI (k + 1)) (lv' := [(3, .int (nI (k + 1))), (2, .int ((x.1 8) ((8 * j) + k))), (0, .ref (zad g 2)), (1, .int (nI j)), (4, .int ((x.1 8) ((8 * j) + k))), (5, .int (nI a)), (6, .int (nI b)), (7, .int (nI i))]) 129 C dX6_fifth_129 (q := 3) rfl (zn_inc k 1) (by decide) rfl ?_
                  refine z_goto 132 C 4 dX6_fifth_132 (by decide) ?_
                  have he9 := (hM.2.2.2.2.2.2 k h11).2
                  rw [show i = L.length by omega, he9] at ha9 hb9
                  have hgs := zgsc (zLw L) (zL L k).2 L.length
                  have hle := zgc_le (zLw L) (zL L k).2 L.length
                  refine z_lv (lv' := [(0, .ref (zad g 2)), (1, .int (nI j)), (2, .int ((x.1 8) ((8 * j) + k))), (3, .int (nI (k + 1)))]) [2, 3, 1, 0] rfl ?_
                  exact ih4 (k + 1) ((x.1 8) ((8 * j) + k)) (by omega) (by omega) (Or.inr ⟨k, by omega, he9, show zgc (zLw L) (zL L k).2 L.length ≤ 4 by omega, show 4 < zcr (zLw L) (zL L k).2 L.length by omega⟩)
            · have hb8 := zgc_le (zLw L) (x.1 8 (8 * j + k)) i
              have hb7 := zsc_le (zLw L) (x.1 8 (8 * j + k)) i
              refine z_iload 47 C dX6_fifth_47 5 rfl ?_
              refine z_aload_n 49 C dX6_fifth_49 rfl 0 rfl ?_
              refine z_getr 50 C (ref := "CountcoteModel") (T := TX6) (N := 9) (ci := 6) (q := 6) (kR_model (q := 6) (by decide) (by decide)) rfl hinX6 (by decide) rfl hw_f25 dX6_fifth_50 ?_
              refine z_bipush (v := nI 8) 53 C dX6_fifth_53 rfl ?_
              refine z_iload_n 55 C dX6_fifth_55 rfl 1 rfl ?_
              refine z_imul (v := nI (8 * j)) 56 C dX6_fifth_56 (pk_mul 8 j) ?_
              refine z_iload 57 C dX6_fifth_57 7 rfl ?_
              refine z_iadd (v := nI ((8 * j) + i)) 59 C dX6_fifth_59 (nI_add (8 * j) i) ?_
              refine z_iald (v := (x.1 8) ((8 * j) + i)) 60 C kI_8 (by omega) rfl dX6_fifth_60 ?_
              refine z_iload 61 C dX6_fifth_61 4 rfl ?_
              refine z_icmp_le 63 C 70 dX6_fifth_63 (by decide) (fun h63 => ?_) (fun h63 => ?_)
              · refine z_iconst (v := nI 0) 70 C dX6_fifth_70 rfl ?_
                refine z_iadd (v := nI (a + 0)) 71 C dX6_fifth_71 (nI_add a 0) ?_
                refine z_istore (lv' := [(5, .int (nI (a + 0))), (0, .ref (zad g 2)), (1, .int (nI j)), (2, .int t), (3, .int (nI k)), (4, .int ((x.1 8) ((8 * j) + k))), (6, .int (nI b)), (7, .int (nI i))]) 72 C dX6_fifth_72 (by decide) rfl ?_
                refine z_iload 74 C dX6_fifth_74 6 rfl ?_
                refine z_aload_n 76 C dX6_fifth_76 rfl 1 rfl ?_
                refine z_getr 77 C (ref := "CountcoteModel") (T := TX6) (N := 9) (ci := 6) (q := 6) (kR_model (q := 6) (by decide) (by decide)) rfl hinX6 (by decide) rfl hw_f25 dX6_fifth_77 ?_
                refine z_bipush (v := nI 8) 80 C dX6_fifth_80 rfl ?_
                refine z_iload_n 82 C dX6_fifth_82 rfl 2 rfl ?_
                refine z_imul (v := nI (8 * j)) 83 C dX6_fifth_83 (pk_mul 8 j) ?_
                refine z_iload 84 C dX6_fifth_84 7 rfl ?_
                refine z_iadd (v := nI ((8 * j) + i)) 86 C dX6_fifth_86 (nI_add (8 * j) i) ?_
                refine z_iald (v := (x.1 8) ((8 * j) + i)) 87 C kI_8 (by omega) rfl dX6_fifth_87 ?_
                refine z_iload 88 C dX6_fifth_88 5 rfl ?_
                refine z_icmp_ne 90 C 97 dX6_fifth_90 (by decide) (fun h90 => ?_) (fun h90 => ?_)
                · refine z_iconst (v := nI 0) 97 C dX6_fifth_97 rfl ?_
                  refine z_iadd (v := nI (b + 0)) 98 C dX6_fifth_98 (nI_add b 0) ?_
                  refine z_istore (lv' := [(6, .int (nI (b + 0))), (5, .int (nI (a + 0))), (0, .ref (zad g 2)), (1, .int (nI j)), (2, .int t), (3, .int (nI k)), (4, .int ((x.1 8) ((8 * j) + k))), (7, .int (nI i))]) 99 C dX6_fifth_99 (by decide) rfl ?_
                  refine z_iinc (v' := nI (i + 1)) (lv' := [(7, .int (nI (i + 1))), (6, .int (nI (b + 0))), (5, .int (nI (a + 0))), (0, .ref (zad g 2)), (1, .int (nI j)), (2, .int t), (3, .int (nI k)), (4, .int ((x.1 8) ((8 * j) + k)))]) 101 C dX6_fifth_101 (q := 7) rfl (zn_inc i 1) (by decide) rfl ?_
                  refine z_goto 104 C 36 dX6_fifth_104 (by decide) ?_
                  refine z_lv (lv' := [(0, .ref (zad g 2)), (1, .int (nI j)), (2, .int t), (3, .int (nI k)), (4, .int ((x.1 8) ((8 * j) + k))), (5, .int (nI (a + 0))), (6, .int (nI (b + 0))), (7, .int (nI (i + 1)))]) [3, 4, 5, 6, 7, 2, 1, 0] rfl ?_
                  exact ih36 (i + 1) (a + 0) (b + 0) (by omega) (by omega) (by rw [ha9]; show _ = zgc (zLw L) (x.1 8 (8 * j + k)) i + (if (x.1 8 (8 * j + k)) < zLw L i then 1 else 0); rw [show zLw L i = _ from (hM.2.2.2.2.2.2 i h44).2.symm, if_neg (Int32.not_lt.mpr h63)]) (by rw [hb9]; show _ = zsc (zLw L) (x.1 8 (8 * j + k)) i + (if zLw L i = (x.1 8 (8 * j + k)) then 1 else 0); rw [show zLw L i = _ from (hM.2.2.2.2.2.2 i h44).2.symm, if_neg h90])
                · refine z_iconst (v := nI 1) 93 C dX6_fifth_93 rfl ?_
                  refine z_goto 94 C 98 dX6_fifth_94 (by decide) ?_
                  refine z_iadd (v := nI (b + 1)) 98 C dX6_fifth_98 (nI_add b 1) ?_
                  refine z_istore (lv' := [(6, .int (nI (b + 1))), (5, .int (nI (a + 0))), (0, .ref (zad g 2)), (1, .int (nI j)), (2, .int t), (3, .int (nI k)), (4, .int ((x.1 8) ((8 * j) + k))), (7, .int (nI i))]) 99 C dX6_fifth_99 (by decide) rfl ?_
                  refine z_iinc (v' := nI (i + 1)) (lv' := [(7, .int (nI (i + 1))), (6, .int (nI (b + 1))), (5, .int (nI (a + 0))), (0, .ref (zad g 2)), (1, .int (nI j)), (2, .int t), (3, .int (nI k)), (4, .int ((x.1 8) ((8 * j) + k)))]) 101 C dX6_fifth_101 (q := 7) rfl (zn_inc i 1) (by decide) rfl ?_
                  refine z_goto 104 C 36 dX6_fifth_104 (by decide) ?_
                  refine z_lv (lv' := [(0, .ref (zad g 2)), (1, .int (nI j)), (2, .int t), (3, .int (nI k)), (4, .int ((x.1 8) ((8 * j) + k))), (5, .int (nI (a + 0))), (6, .int (nI (b + 1))), (7, .int (nI (i + 1)))]) [3, 4, 5, 6, 7, 2, 1, 0] rfl ?_
                  exact ih36 (i + 1) (a + 0) (b + 1) (by omega) (by omega) (by rw [ha9]; show _ = zgc (zLw L) (x.1 8 (8 * j + k)) i + (if (x.1 8 (8 * j + k)) < zLw L i then 1 else 0); rw [show zLw L i = _ from (hM.2.2.2.2.2.2 i h44).2.symm, if_neg (Int32.not_lt.mpr h63)]) (by rw [hb9]; show _ = zsc (zLw L) (x.1 8 (8 * j + k)) i + (if zLw L i = (x.1 8 (8 * j + k)) then 1 else 0); rw [show zLw L i = _ from (hM.2.2.2.2.2.2 i h44).2.symm, if_pos h90])
              · refine z_iconst (v := nI 1) 66 C dX6_fifth_66 rfl ?_
                refine z_goto 67 C 71 dX6_fifth_67 (by decide) ?_
                refine z_iadd (v := nI (a + 1)) 71 C dX6_fifth_71 (nI_add a 1) ?_
                refine z_istore (lv' := [(5, .int (nI (a + 1))), (0, .ref (zad g 2)), (1, .int (nI j)), (2, .int t), (3, .int (nI k)), (4, .int ((x.1 8) ((8 * j) + k))), (6, .int (nI b)), (7, .int (nI i))]) 72 C dX6_fifth_72 (by decide) rfl ?_
                refine z_iload 74 C dX6_fifth_74 6 rfl ?_
                refine z_aload_n 76 C dX6_fifth_76 rfl 1 rfl ?_
                refine z_getr 77 C (ref := "CountcoteModel") (T := TX6) (N := 9) (ci := 6) (q := 6) (kR_model (q := 6) (by decide) (by decide)) rfl hinX6 (by decide) rfl hw_f25 dX6_fifth_77 ?_
                refine z_bipush (v := nI 8) 80 C dX6_fifth_80 rfl ?_
                refine z_iload_n 82 C dX6_fifth_82 rfl 2 rfl ?_
                refine z_imul (v := nI (8 * j)) 83 C dX6_fifth_83 (pk_mul 8 j) ?_
                refine z_iload 84 C dX6_fifth_84 7 rfl ?_
                refine z_iadd (v := nI ((8 * j) + i)) 86 C dX6_fifth_86 (nI_add (8 * j) i) ?_
                refine z_iald (v := (x.1 8) ((8 * j) + i)) 87 C kI_8 (by omega) rfl dX6_fifth_87 ?_
                refine z_iload 88 C dX6_fifth_88 5 rfl ?_
                refine z_icmp_ne 90 C 97 dX6_fifth_90 (by decide) (fun h90 => ?_) (fun h90 => ?_)
                · refine z_iconst (v := nI 0) 97 C dX6_fifth_97 rfl ?_
                  refine z_iadd (v := nI (b + 0)) 98 C dX6_fifth_98 (nI_add b 0) ?_
                  refine z_istore (lv' := [(6, .int (nI (b + 0))), (5, .int (nI (a + 1))), (0, .ref (zad g 2)), (1, .int (nI j)), (2, .int t), (3, .int (nI k)), (4, .int ((x.1 8) ((8 * j) + k))), (7, .int (nI i))]) 99 C dX6_fifth_99 (by decide) rfl ?_
                  refine z_iinc (v' := nI (i + 1)) (lv' := [(7, .int (nI (i + 1))), (6, .int (nI (b + 0))), (5, .int (nI (a + 1))), (0, .ref (zad g 2)), (1, .int (nI j)), (2, .int t), (3, .int (nI k)), (4, .int ((x.1 8) ((8 * j) + k)))]) 101 C dX6_fifth_101 (q := 7) rfl (zn_inc i 1) (by decide) rfl ?_
                  refine z_goto 104 C 36 dX6_fifth_104 (by decide) ?_
                  refine z_lv (lv' := [(0, .ref (zad g 2)), (1, .int (nI j)), (2, .int t), (3, .int (nI k)), (4, .int ((x.1 8) ((8 * j) + k))), (5, .int (nI (a + 1))), (6, .int (nI (b + 0))), (7, .int (nI (i + 1)))]) [3, 4, 5, 6, 7, 2, 1, 0] rfl ?_
                  exact ih36 (i + 1) (a + 1) (b + 0) (by omega) (by omega) (by rw [ha9]; show _ = zgc (zLw L) (x.1 8 (8 * j + k)) i + (if (x.1 8 (8 * j + k)) < zLw L i then 1 else 0); rw [show zLw L i = _ from (hM.2.2.2.2.2.2 i h44).2.symm, if_pos (Int32.not_le.mp h63)]) (by rw [hb9]; show _ = zsc (zLw L) (x.1 8 (8 * j + k)) i + (if zLw L i = (x.1 8 (8 * j + k)) then 1 else 0); rw [show zLw L i = _ from (hM.2.2.2.2.2.2 i h44).2.symm, if_neg h90])
                · refine z_iconst (v := nI 1) 93 C dX6_fifth_93 rfl ?_
                  refine z_goto 94 C 98 dX6_fifth_94 (by decide) ?_
                  refine z_iadd (v := nI (b + 1)) 98 C dX6_fifth_98 (nI_add b 1) ?_
                  refine z_istore (lv' := [(6, .int (nI (b + 1))), (5, .int (nI (a + 1))), (0, .ref (zad g 2)), (1, .int (nI j)), (2, .int t), (3, .int (nI k)), (4, .int ((x.1 8) ((8 * j) + k))), (7, .int (nI i))]) 99 C dX6_fifth_99 (by decide) rfl ?_
                  refine z_iinc (v' := nI (i + 1)) (lv' := [(7, .int (nI (i + 1))), (6, .int (nI (b + 1))), (5, .int (nI (a + 1))), (0, .ref (zad g 2)), (1, .int (nI j)), (2, .int t), (3, .int (nI k)), (4, .int ((x.1 8) ((8 * j) + k)))]) 101 C dX6_fifth_101 (q := 7) rfl (zn_inc i 1) (by decide) rfl ?_
                  refine z_goto 104 C 36 dX6_fifth_104 (by decide) ?_
                  refine z_lv (lv' := [(0, .ref (zad g 2)), (1, .int (nI j)), (2, .int t), (3, .int (nI k)), (4, .int ((x.1 8) ((8 * j) + k))), (5, .int (nI (a + 1))), (6, .int (nI (b + 1))), (7, .int (nI (i + 1)))]) [3, 4, 5, 6, 7, 2, 1, 0] rfl ?_
                  exact ih36 (i + 1) (a + 1) (b + 1) (by omega) (by omega) (by rw [ha9]; show _ = zgc (zLw L) (x.1 8 (8 * j + k)) i + (if (x.1 8 (8 * j + k)) < zLw L i then 1 else 0); rw [show zLw L i = _ from (hM.2.2.2.2.2.2 i h44).2.symm, if_pos (Int32.not_le.mp h63)]) (by rw [hb9]; show _ = zsc (zLw L) (x.1 8 (8 * j + k)) i + (if zLw L i = (x.1 8 (8 * j + k)) then 1 else 0); rw [show zLw L i = _ from (hM.2.2.2.2.2.2 i h44).2.symm, if_pos h90])
        refine z_lv (lv' := [(0, .ref (zad g 2)), (1, .int (nI j)), (2, .int t), (3, .int (nI k)), (4, .int ((x.1 8) ((8 * j) + k))), (5, .int (nI 0)), (6, .int (nI 0)), (7, .int (nI 0))]) [4, 5, 6, 7, 3, 2, 1, 0] rfl ?_
        exact J36 (L.length + 1) 0 0 0 (Nat.zero_le _) (by omega) rfl rfl
  refine z_lv (lv' := [(0, .ref (zad g 2)), (1, .int (nI j)), (2, .int (nI 0)), (3, .int (nI 0))]) [2, 3, 1, 0] rfl ?_
  exact J4 (L.length + 1) 0 0 (Nat.zero_le _) (by omega) (Or.inl ⟨rfl, fun k h => absurd h (Nat.not_lt_zero k)⟩)
set_option maxHeartbeats 4000000 in
set_option maxRecDepth 100000 in
/-- X6_mergesCounters -/
theorem c_X6_mergesCounters (l : Launch) {g : zG} (hg : zOk g) (x : zT) (j o : Nat) (hj : j < 4) (ho : o < 4) (hjo : j ≠ o) (c d : Nat → Int32) (L : zCL) (aw : Int32) (hM : zM x j c d L aw) (c2 d2 : Nat → Int32) (K : zCL) (ow : Int32) (hMo0 : zM x o c2 d2 K ow) (hD : zND L) (h4 : L.length ≤ 4) (h4' : K.length ≤ 4) (hPj : 4 < (zjn L K).length → ∀ q, q < (zjn L K).length → 0 < zLw (zjn L K) q) : Met l yX6_mergesCounters wsX6_mergesCounters ({ frames := 1, cells := 0, slots := 0, locals := 27 }) (va_Pc [.ref (zad g 2), .int (nI j), .int (nI o)] (zPre g x)) (va_Qv (fun (u : zT) => zMF x u j ∧ zM u j c d (zmrg L K) (aw + ow + zmrgw L K)) (zB g) (zA g)) 0 0 (zA g) := by
  refine z_met (cc := cX6_mergesCounters) (nL := 6) (ret := none) hg (by decide) rfl (Nat.le_of_ble_eq_true rfl) ?_
  intro p_ e_ s_ m_ args_ below_ meth_ c_ C hr
  show Z p_ l e_ _ s_ m_ args_ below_ meth_ c_ g 6 0 0 _ x 0 [(0, .ref (zad g 2)), (1, .int (nI j)), (2, .int (nI o))] []
  have hw_f19 := C.1.2.2.2.2 (.fieldLink RX6 19 "CountcoteModel" "counters" "[I") (by decide +kernel)
  have hinX6 : ∀ w ∈ wsX60, w ∈ wsX6_mergesCounters := by decide +kernel
  have hw_f28 := C.1.2.2.2.2 (.fieldLink RX6 28 "CountcoteModel" "taken" "[I") (by decide +kernel)
  have hw_f22 := C.1.2.2.2.2 (.fieldLink RX6 22 "CountcoteModel" "items" "[I") (by decide +kernel)
  have hw_f25 := C.1.2.2.2.2 (.fieldLink RX6 25 "CountcoteModel" "weights" "[I") (by decide +kernel)
  have h8 := hM.2.2.2.2.2.1
  refine z_iconst (v := nI 0) 0 C dX6_mergesCounters_0 rfl ?_
  refine z_istore_n (lv' := [(3, .int (nI 0)), (0, .ref (zad g 2)), (1, .int (nI j)), (2, .int (nI o))]) 1 C dX6_mergesCounters_1 rfl (by decide) rfl ?_
  have J2 : ∀ (n2 : Nat) (i : Nat) (y : zT), (i ≤ K.length) → (K.length < i + n2) → (zMF x y j) → (zM y j c d (zjn L (K.take i)) aw) → (zM y o c2 d2 K ow) → Z p_ l e_ (headSpec wsX6_mergesCounters ({ frames := 1, cells := 0, slots := 0, locals := 27 })).room s_ m_ args_ below_ meth_ c_ g 6 0 0 (MQ below_ (va_Qv (fun (u : zT) => zMF x u j ∧ zM u j c d (zmrg L K) (aw + ow + zmrgw L K)) (zB g) (zA g)) args_ s_ 0 0 (zA g)) y 2 [(0, .ref (zad g 2)), (1, .int (nI j)), (2, .int (nI o)), (3, .int (nI i))] [] := by
    intro n2
    induction n2 with
    | zero => intro i y hi hn hF hN hMo; exact absurd hn (by omega)
    | succ n2 ih2 =>
      intro i y hi hn hF hN hMo
      refine z_iload_n 2 C dX6_mergesCounters_2 rfl 3 rfl ?_
      refine z_aload_n 3 C dX6_mergesCounters_3 rfl 0 rfl ?_
      refine z_getr 4 C (ref := "CountcoteModel") (T := TX6) (N := 9) (ci := 6) (q := 4) (kR_model (q := 4) (by decide) (by decide)) rfl hinX6 (by decide) rfl hw_f19 dX6_mergesCounters_4 ?_
      refine z_iload_n 7 C dX6_mergesCounters_7 rfl 2 rfl ?_
      refine z_iald (v := nI K.length) 8 C kI_6 (by omega) (by rw [hMo.2.2.2.1]) dX6_mergesCounters_8 ?_
      refine z_icmp_geN 9 C 93 dX6_mergesCounters_9 (by decide) (by omega) (by omega) (fun h9 => ?_) (fun h9 => ?_)
      · rw [show K.take i = K by rw [show i = K.length by omega]; exact List.take_length] at hN
        have h8z := hN.2.2.2.2.2.1
        refine z_aload_n 93 C dX6_mergesCounters_93 rfl 0 rfl ?_
        refine z_getr 94 C (ref := "CountcoteModel") (T := TX6) (N := 9) (ci := 6) (q := 7) (kR_model (q := 7) (by decide) (by decide)) rfl hinX6 (by decide) rfl hw_f28 dX6_mergesCounters_94 ?_
        refine z_iload_n 97 C dX6_mergesCounters_97 rfl 1 rfl ?_
        refine z_dup2 98 C dX6_mergesCounters_98 rfl rfl ?_
        refine z_iald (v := (y.1 9) j) 99 C kI_9 (by omega) rfl dX6_mergesCounters_99 ?_
        refine z_aload_n 100 C dX6_mergesCounters_100 rfl 0 rfl ?_
        refine z_getr 101 C (ref := "CountcoteModel") (T := TX6) (N := 9) (ci := 6) (q := 7) (kR_model (q := 7) (by decide) (by decide)) rfl hinX6 (by decide) rfl hw_f28 dX6_mergesCounters_101 ?_
        refine z_iload_n 104 C dX6_mergesCounters_104 rfl 2 rfl ?_
        refine z_iald (v := (y.1 9) o) 105 C kI_9 (by omega) rfl dX6_mergesCounters_105 ?_
        refine z_iadd (v := ((y.1 9) j) + ((y.1 9) o)) 106 C dX6_mergesCounters_106 rfl ?_
        obtain ⟨f1, ef1⟩ : ∃ f9 : Nat → Int32, f9 = upd (y.1 9) j (((y.1 9) j) + ((y.1 9) o)) := ⟨_, rfl⟩
        refine z_iast (f := f1) 107 C kI_9 (by omega) (by exact ef1.symm) dX6_mergesCounters_107 ?_
        obtain ⟨hFg, hG⟩ := zM_9 hj hN hMo.2.2.2.2.1 ef1
        have hMo9 := hFg.M (Ne.symm hjo) hMo
        have hFh := zMF_t hF hFg
        refine z_aload_n 108 C dX6_mergesCounters_108 rfl 0 rfl ?_
        refine z_getr 109 C (ref := "CountcoteModel") (T := TX6) (N := 9) (ci := 6) (q := 4) (kR_model (q := 4) (by decide) (by decide)) rfl hinX6 (by decide) rfl hw_f19 dX6_mergesCounters_109 ?_
        refine z_iload_n 112 C dX6_mergesCounters_112 rfl 1 rfl ?_
        refine z_iald (v := nI ((zjn L K).length)) 113 C kI_6 (by omega) (by rw [xi_n _ (by decide), hN.2.2.2.1]) dX6_mergesCounters_113 ?_
        refine z_iconst (v := nI 4) 114 C dX6_mergesCounters_114 rfl ?_
        refine z_icmp_leN 115 C 128 dX6_mergesCounters_115 (by decide) (by omega) (by omega) (fun h115 => ?_) (fun h115 => ?_)
        · exact z_vret 128 C hr ⟨hFh, by unfold zmrg zmrgw; rw [if_neg (show ¬ 4 < (zjn L K).length by omega), if_neg (show ¬ 4 < (zjn L K).length by omega), Int32.add_zero]; exact hG⟩ dX6_mergesCounters_128
        · refine z_aload_n 118 C dX6_mergesCounters_118 rfl 0 rfl ?_
          refine z_iload_n 119 C dX6_mergesCounters_119 rfl 1 rfl ?_
          refine z_aload_n 120 C dX6_mergesCounters_120 rfl 0 rfl ?_
          refine z_iload_n 121 C dX6_mergesCounters_121 rfl 1 rfl ?_
          refine z_callVi 122 C (As := [.int (nI j)]) 1 kO_model rfl (c_X6_fifth l hg (xi y 9 f1) j hj c d (zjn L K) (aw + ow) hG (by omega) (hPj (by omega))) (cwV 1 C.1.2.2.2.2 gX6_mergesCounters_X6_fifth rfl rfl rfl (by decide +kernel) ⟨Nat.le_of_ble_eq_true rfl, Nat.le_of_ble_eq_true rfl⟩) rfl rfl (Nat.le_of_ble_eq_true rfl) ⟨Nat.le_of_ble_eq_true rfl, Nat.le_of_ble_eq_true rfl⟩ dX6_mergesCounters_122 (fun r u hu => ?_)
          obtain ⟨hu1, hu2⟩ := hu
          subst u
          subst r
          refine z_callVv 125 C (As := [.int (nI j), .int (zwr (zLw (zjn L K)) 5 (zjn L K).length (zjn L K).length)]) 2 kO_model rfl (c_X6_takes l hg (xi y 9 f1) j hj c d (zjn L K) (aw + ow) hG (zwr (zLw (zjn L K)) 5 (zjn L K).length (zjn L K).length)) (cwV 2 C.1.2.2.2.2 gX6_mergesCounters_X6_takes rfl rfl rfl (by decide +kernel) ⟨Nat.le_of_ble_eq_true rfl, Nat.le_of_ble_eq_true rfl⟩) rfl rfl (Nat.le_of_ble_eq_true rfl) ⟨Nat.le_of_ble_eq_true rfl, Nat.le_of_ble_eq_true rfl⟩ dX6_mergesCounters_125 (fun y2 hu => ?_)
          obtain ⟨hF3, hN4⟩ := hu
          have hM5 := hF3.M (show o ≠ j by omega) hMo9
          have h86 := hN4.2.2.2.2.2.1
          have hF7 := zMF_t hFh hF3
          exact z_vret 128 C hr ⟨hF7, by unfold zmrg zmrgw; rw [if_pos (show 4 < (zjn L K).length by omega), if_pos (show 4 < (zjn L K).length by omega)]; exact hN4⟩ dX6_mergesCounters_128
      · have hl9 := zjn_lent (L := L) (K := K) (i := i)
        refine z_aload_n 12 C dX6_mergesCounters_12 rfl 0 rfl ?_
        refine z_getr 13 C (ref := "CountcoteModel") (T := TX6) (N := 9) (ci := 6) (q := 5) (kR_model (q := 5) (by decide) (by decide)) rfl hinX6 (by decide) rfl hw_f22 dX6_mergesCounters_13 ?_
        refine z_bipush (v := nI 8) 16 C dX6_mergesCounters_16 rfl ?_
        refine z_iload_n 18 C dX6_mergesCounters_18 rfl 2 rfl ?_
        refine z_imul (v := nI (8 * o)) 19 C dX6_mergesCounters_19 (pk_mul 8 o) ?_
        refine z_iload_n 20 C dX6_mergesCounters_20 rfl 3 rfl ?_
        refine z_iadd (v := nI ((8 * o) + i)) 21 C dX6_mergesCounters_21 (nI_add (8 * o) i) ?_
        refine z_iald (v := (y.1 7) ((8 * o) + i)) 22 C kI_7 (by omega) rfl dX6_mergesCounters_22 ?_
        refine z_istore (lv' := [(4, .int ((y.1 7) ((8 * o) + i))), (0, .ref (zad g 2)), (1, .int (nI j)), (2, .int (nI o)), (3, .int (nI i))]) 23 C dX6_mergesCounters_23 (by decide) rfl ?_
        refine z_aload_n 25 C dX6_mergesCounters_25 rfl 1 rfl ?_
        refine z_iload_n 26 C dX6_mergesCounters_26 rfl 2 rfl ?_
        refine z_iload 27 C dX6_mergesCounters_27 0 rfl ?_
        refine z_callVi 29 C (As := [.int (nI j), .int ((y.1 7) ((8 * o) + i))]) 2 kO_model rfl (c_X6_placeOfCounter l hg y j hj c d (zjn L (K.take i)) aw hN (zND_jn hD (K.take i)) ((y.1 7) ((8 * o) + i))) (cwV 2 C.1.2.2.2.2 gX6_mergesCounters_X6_placeOfCounter rfl rfl rfl (by decide +kernel) ⟨Nat.le_of_ble_eq_true rfl, Nat.le_of_ble_eq_true rfl⟩) rfl rfl (Nat.le_of_ble_eq_true rfl) ⟨Nat.le_of_ble_eq_true rfl, Nat.le_of_ble_eq_true rfl⟩ dX6_mergesCounters_29 (fun r u hu => ?_)
        obtain ⟨hu1, hu2⟩ := hu
        subst u
        rcases hu2 with ⟨hq, hr9⟩ | ⟨hq, hr9⟩
        · subst r
          refine z_istore (lv' := [(5, .int (nI (zix (zjn L (K.take i)) ((y.1 7) ((8 * o) + i))))), (4, .int ((y.1 7) ((8 * o) + i))), (0, .ref (zad g 2)), (1, .int (nI j)), (2, .int (nI o)), (3, .int (nI i))]) 32 C dX6_mergesCounters_32 (by decide) rfl ?_
          refine z_iload 34 C dX6_mergesCounters_34 0 rfl ?_
          refine z_iconst (v := (-1)) 36 C dX6_mergesCounters_36 rfl ?_
          refine z_icmp_ne 37 C 61 dX6_mergesCounters_37 (by decide) (fun h37 => ?_) (fun h37 => absurd h37 (zn_m1 (zix (zjn L (K.take i)) ((y.1 7) ((8 * o) + i))) (by omega)))
          refine z_aload_n 61 C dX6_mergesCounters_61 rfl 2 rfl ?_
          refine z_getr 62 C (ref := "CountcoteModel") (T := TX6) (N := 9) (ci := 6) (q := 6) (kR_model (q := 6) (by decide) (by decide)) rfl hinX6 (by decide) rfl hw_f25 dX6_mergesCounters_62 ?_
          refine z_bipush (v := nI 8) 65 C dX6_mergesCounters_65 rfl ?_
          refine z_iload_n 67 C dX6_mergesCounters_67 rfl 3 rfl ?_
          refine z_imul (v := nI (8 * j)) 68 C dX6_mergesCounters_68 (pk_mul 8 j) ?_
          refine z_iload 69 C dX6_mergesCounters_69 0 rfl ?_
          refine z_iadd (v := nI ((8 * j) + (zix (zjn L (K.take i)) ((y.1 7) ((8 * o) + i))))) 71 C dX6_mergesCounters_71 (nI_add (8 * j) (zix (zjn L (K.take i)) ((y.1 7) ((8 * o) + i)))) ?_
          refine z_dup2 72 C dX6_mergesCounters_72 rfl rfl ?_
          refine z_iald (v := (y.1 8) ((8 * j) + (zix (zjn L (K.take i)) ((y.1 7) ((8 * o) + i))))) 73 C kI_8 (by omega) rfl dX6_mergesCounters_73 ?_
          refine z_aload_n 74 C dX6_mergesCounters_74 rfl 2 rfl ?_
          refine z_getr 75 C (ref := "CountcoteModel") (T := TX6) (N := 9) (ci := 6) (q := 6) (kR_model (q := 6) (by decide) (by decide)) rfl hinX6 (by decide) rfl hw_f25 dX6_mergesCounters_75 ?_
          refine z_bipush (v := nI 8) 78 C dX6_mergesCounters_78 rfl ?_
          refine z_iload_n 80 C dX6_mergesCounters_80 rfl 4 rfl ?_
          refine z_imul (v := nI (8 * o)) 81 C dX6_mergesCounters_81 (pk_mul 8 o) ?_
          refine z_iload_n 82 C dX6_mergesCounters_82 rfl 5 rfl ?_
          refine z_iadd (v := nI ((8 * o) + i)) 83 C dX6_mergesCounters_83 (nI_add (8 * o) i) ?_
          refine z_iald (v := (y.1 8) ((8 * o) + i)) 84 C kI_8 (by omega) rfl dX6_mergesCounters_84 ?_
          refine z_iadd (v := ((y.1 8) ((8 * j) + (zix (zjn L (K.take i)) ((y.1 7) ((8 * o) + i))))) + ((y.1 8) ((8 * o) + i))) 85 C dX6_mergesCounters_85 rfl ?_
          obtain ⟨f8, ef8⟩ : ∃ f9 : Nat → Int32, f9 = upd (y.1 8) ((8 * j) + (zix (zjn L (K.take i)) ((y.1 7) ((8 * o) + i)))) (((y.1 8) ((8 * j) + (zix (zjn L (K.take i)) ((y.1 7) ((8 * o) + i))))) + ((y.1 8) ((8 * o) + i))) := ⟨_, rfl⟩
          refine z_iast (f := f8) 86 C kI_8 (by omega) (by exact ef8.symm) dX6_mergesCounters_86 ?_
          refine z_iinc (v' := nI (i + 1)) (lv' := [(3, .int (nI (i + 1))), (5, .int (nI (zix (zjn L (K.take i)) ((y.1 7) ((8 * o) + i))))), (4, .int ((y.1 7) ((8 * o) + i))), (0, .ref (zad g 2)), (1, .int (nI j)), (2, .int (nI o))]) 87 C dX6_mergesCounters_87 (q := 5) rfl (zn_inc i 1) (by decide) rfl ?_
          refine z_goto 90 C 2 dX6_mergesCounters_90 (by decide) ?_
          obtain ⟨hFg, hNg⟩ := zM_grow hj hN hq ef8
          refine z_lv (lv' := [(0, .ref (zad g 2)), (1, .int (nI j)), (2, .int (nI o)), (3, .int (nI (i + 1)))]) [3, 4, 5, 0] rfl ?_
          exact ih2 (i + 1) (xi y 8 f8) (by omega) (by omega) (zMF_t hF hFg) (by rw [zjn_s h9, ← (hMo.2.2.2.2.2.2 i h9).1, ← (hMo.2.2.2.2.2.2 i h9).2]; exact hNg) (hFg.M (Ne.symm hjo) hMo)
        · subst r
          refine z_istore (lv' := [(5, .int (-1)), (4, .int ((y.1 7) ((8 * o) + i))), (0, .ref (zad g 2)), (1, .int (nI j)), (2, .int (nI o)), (3, .int (nI i))]) 32 C dX6_mergesCounters_32 (by decide) rfl ?_
          refine z_iload 34 C dX6_mergesCounters_34 0 rfl ?_
          refine z_iconst (v := (-1)) 36 C dX6_mergesCounters_36 rfl ?_
          refine z_icmp_ne 37 C 61 dX6_mergesCounters_37 (by decide) (fun h37 => absurd rfl h37) (fun h37 => ?_)
          refine z_aload_n 40 C dX6_mergesCounters_40 rfl 2 rfl ?_
          refine z_iload_n 41 C dX6_mergesCounters_41 rfl 3 rfl ?_
          refine z_iload 42 C dX6_mergesCounters_42 1 rfl ?_
          refine z_aload_n 44 C dX6_mergesCounters_44 rfl 2 rfl ?_
          refine z_getr 45 C (ref := "CountcoteModel") (T := TX6) (N := 9) (ci := 6) (q := 6) (kR_model (q := 6) (by decide) (by decide)) rfl hinX6 (by decide) rfl hw_f25 dX6_mergesCounters_45 ?_
          refine z_bipush (v := nI 8) 48 C dX6_mergesCounters_48 rfl ?_
          refine z_iload_n 50 C dX6_mergesCounters_50 rfl 4 rfl ?_
          refine z_imul (v := nI (8 * o)) 51 C dX6_mergesCounters_51 (pk_mul 8 o) ?_
          refine z_iload_n 52 C dX6_mergesCounters_52 rfl 5 rfl ?_
          refine z_iadd (v := nI ((8 * o) + i)) 53 C dX6_mergesCounters_53 (nI_add (8 * o) i) ?_
          refine z_iald (v := (y.1 8) ((8 * o) + i)) 54 C kI_8 (by omega) rfl dX6_mergesCounters_54 ?_
          refine z_callVv 55 C (As := [.int (nI j), .int ((y.1 7) ((8 * o) + i)), .int ((y.1 8) ((8 * o) + i))]) 3 kO_model rfl (c_X6_opens l hg y j hj c d (zjn L (K.take i)) aw hN (by omega) ((y.1 7) ((8 * o) + i)) ((y.1 8) ((8 * o) + i))) (cwV 3 C.1.2.2.2.2 gX6_mergesCounters_X6_opens rfl rfl rfl (by decide +kernel) ⟨Nat.le_of_ble_eq_true rfl, Nat.le_of_ble_eq_true rfl⟩) rfl rfl (Nat.le_of_ble_eq_true rfl) ⟨Nat.le_of_ble_eq_true rfl, Nat.le_of_ble_eq_true rfl⟩ dX6_mergesCounters_55 (fun y9 hu => ?_)
          obtain ⟨hF10, hN11⟩ := hu
          have hM12 := hF10.M (show o ≠ j by omega) hMo
          have h813 := hN11.2.2.2.2.2.1
          have hF14 := zMF_t hF hF10
          refine z_goto 58 C 87 dX6_mergesCounters_58 (by decide) ?_
          refine z_iinc (v' := nI (i + 1)) (lv' := [(3, .int (nI (i + 1))), (5, .int (-1)), (4, .int ((y.1 7) ((8 * o) + i))), (0, .ref (zad g 2)), (1, .int (nI j)), (2, .int (nI o))]) 87 C dX6_mergesCounters_87 (q := 5) rfl (zn_inc i 1) (by decide) rfl ?_
          refine z_goto 90 C 2 dX6_mergesCounters_90 (by decide) ?_
          refine z_lv (lv' := [(0, .ref (zad g 2)), (1, .int (nI j)), (2, .int (nI o)), (3, .int (nI (i + 1)))]) [3, 4, 5, 0] rfl ?_
          exact ih2 (i + 1) y9 (by omega) (by omega) hF14 (by rw [zjn_s h9, ← (hMo.2.2.2.2.2.2 i h9).1, ← (hMo.2.2.2.2.2.2 i h9).2, zgrow_n hq (by omega)]; exact hN11) hM12
  refine z_lv (lv' := [(0, .ref (zad g 2)), (1, .int (nI j)), (2, .int (nI o)), (3, .int (nI 0))]) [1, 2, 3, 0] rfl ?_
  exact J2 (K.length + 1) 0 x (Nat.zero_le _) (by omega) zMF_rf hM hMo0
set_option maxHeartbeats 4000000 in
set_option maxRecDepth 100000 in
/-- X6_addsCarefully -/
theorem c_X6_addsCarefully (l : Launch) {g : zG} (hg : zOk g) (x : zT) (j : Nat) (hj : j < 4) (c d : Nat → Int32) (L : zCL) (aw : Int32) (hM : zM x j c d L aw) (item : Nat) (hitem : item < 64) (w : Int32) : Met l yX6_addsCarefully wsX6_addsCarefully ({ frames := 3, cells := 0, slots := 0, locals := 67 }) (va_Pc [.ref (zad g 2), .int (nI j), .int (nI item), .int w] (zPre g x)) (va_Qv (fun (u : zT) => zMF x u j ∧ zM u j c (zdput d item w) L aw) (zB g) (zA g)) 0 0 (zA g) := by
  refine z_met (cc := cX6_addsCarefully) (nL := 9) (ret := none) hg (by decide) rfl (Nat.le_of_ble_eq_true rfl) ?_
  intro p_ e_ s_ m_ args_ below_ meth_ c_ C hr
  show Z p_ l e_ _ s_ m_ args_ below_ meth_ c_ g 9 0 0 _ x 0 [(0, .ref (zad g 2)), (1, .int (nI j)), (2, .int (nI item)), (3, .int w)] []
  have hw_f16 := C.1.2.2.2.2 (.fieldLink RX6 16 "CountcoteModel" "cells" "[I") (by decide +kernel)
  have hinX6 : ∀ w ∈ wsX60, w ∈ wsX6_addsCarefully := by decide +kernel
  have h8 := hM.2.2.2.2.2.1
  refine z_iconst (v := nI 0) 0 C dX6_addsCarefully_0 rfl ?_
  refine z_istore (lv' := [(4, .int (nI 0)), (0, .ref (zad g 2)), (1, .int (nI j)), (2, .int (nI item)), (3, .int w)]) 1 C dX6_addsCarefully_1 (by decide) rfl ?_
  refine z_x (y := (xi x 5 (x.1 5))) (xi_idf rfl) ?_
  have J3 : ∀ (n3 : Nat) (lev : Nat) (f : Nat → Int32), (lev ≤ 3) → (3 < lev + n3) → (∀ q, q < 72 → f (72 * j + q) = zdp d item w lev q) → (∀ p, p < 72 * j ∨ 72 * j + 72 ≤ p → f p = x.1 5 p) → Z p_ l e_ (headSpec wsX6_addsCarefully ({ frames := 3, cells := 0, slots := 0, locals := 67 })).room s_ m_ args_ below_ meth_ c_ g 9 0 0 (MQ below_ (va_Qv (fun (u : zT) => zMF x u j ∧ zM u j c (zdput d item w) L aw) (zB g) (zA g)) args_ s_ 0 0 (zA g)) (xi x 5 f) 3 [(0, .ref (zad g 2)), (1, .int (nI j)), (2, .int (nI item)), (3, .int w), (4, .int (nI lev))] [] := by
    intro n3
    induction n3 with
    | zero => intro lev f hlv hn hf hO; exact absurd hn (by omega)
    | succ n3 ih3 =>
      intro lev f hlv hn hf hO
      refine z_iload 3 C dX6_addsCarefully_3 4 rfl ?_
      refine z_iconst (v := nI 3) 5 C dX6_addsCarefully_5 rfl ?_
      refine z_icmp_geN 6 C 97 dX6_addsCarefully_6 (by decide) (by omega) (by omega) (fun h6 => ?_) (fun h6 => ?_)
      · exact z_vret 97 C hr ⟨zMF_s zMF_rf (fun p hp => hO p hp), hM.1, hM.2.1, fun q hq => (hf q hq).trans (if_pos (by omega)), hM.2.2.2⟩ dX6_addsCarefully_97
      · refine z_iload_n 9 C dX6_addsCarefully_9 rfl 2 rfl ?_
        refine z_iload 10 C dX6_addsCarefully_10 4 rfl ?_
        refine z_ishr (v := nI (item / 2 ^ lev)) 12 C dX6_addsCarefully_12 (zn_shr item lev (by omega) (by omega)) ?_
        refine z_istore (lv' := [(5, .int (nI (item / 2 ^ lev))), (0, .ref (zad g 2)), (1, .int (nI j)), (2, .int (nI item)), (3, .int w), (4, .int (nI lev))]) 13 C dX6_addsCarefully_13 (by decide) rfl ?_
        refine z_aload_n 15 C dX6_addsCarefully_15 rfl 1 rfl ?_
        refine z_iload_n 16 C dX6_addsCarefully_16 rfl 2 rfl ?_
        refine z_iload 17 C dX6_addsCarefully_17 5 rfl ?_
        refine z_iload 19 C dX6_addsCarefully_19 0 rfl ?_
        have hMl : zM (xi x 5 f) j c (zdp d item w lev) L aw := ⟨hM.1, hM.2.1, hf, hM.2.2.2⟩
        refine z_callVi 21 C (As := [.int (nI j), .int (nI lev), .int (nI (item / 2 ^ lev))]) 3 kO_model rfl (c_X6_estimateOf l hg (xi x 5 f) j lev (item / 2 ^ lev) hj (by omega) (zhalf_lt hitem (by omega))) (cwV 3 C.1.2.2.2.2 gX6_addsCarefully_X6_estimateOf rfl rfl rfl (by decide +kernel) ⟨Nat.le_of_ble_eq_true rfl, Nat.le_of_ble_eq_true rfl⟩) rfl rfl (Nat.le_of_ble_eq_true rfl) ⟨Nat.le_of_ble_eq_true rfl, Nat.le_of_ble_eq_true rfl⟩ dX6_addsCarefully_21 (fun r u hu => ?_)
        obtain ⟨v1, ev1⟩ : ∃ y : Int32, y = zest c (zdp d item w lev) lev (item / 2 ^ lev) := ⟨_, rfl⟩
        obtain ⟨hu1, hu2⟩ : u = (xi x 5 f) ∧ r = v1 := ⟨hu.1, by rw [hu.2, zraw_M hMl (by omega) (zhalf_lt hitem (by omega)), ev1]⟩
        subst u
        subst r
        have hh64 : item / 2 ^ lev < 64 := Nat.lt_of_le_of_lt (Nat.div_le_self _ _) hitem
        refine z_iload_n 24 C dX6_addsCarefully_24 rfl 4 rfl ?_
        refine z_iadd (v := v1 + w) 25 C dX6_addsCarefully_25 rfl ?_
        refine z_istore (lv' := [(6, .int (v1 + w)), (5, .int (nI (item / 2 ^ lev))), (0, .ref (zad g 2)), (1, .int (nI j)), (2, .int (nI item)), (3, .int w), (4, .int (nI lev))]) 26 C dX6_addsCarefully_26 (by decide) rfl ?_
        refine z_iconst (v := nI 0) 28 C dX6_addsCarefully_28 rfl ?_
        refine z_istore (lv' := [(7, .int (nI 0)), (6, .int (v1 + w)), (5, .int (nI (item / 2 ^ lev))), (0, .ref (zad g 2)), (1, .int (nI j)), (2, .int (nI item)), (3, .int w), (4, .int (nI lev))]) 29 C dX6_addsCarefully_29 (by decide) rfl ?_
        have J31 : ∀ (n31 : Nat) (row : Nat) (f1 : Nat → Int32), (row ≤ 3) → (3 < row + n31) → (∀ q, q < 72 → f1 (72 * j + q) = zrw (zdp d item w lev) (v1 + w) lev (item / 2 ^ lev) row q) → (∀ p, p < 72 * j ∨ 72 * j + 72 ≤ p → f1 p = x.1 5 p) → Z p_ l e_ (headSpec wsX6_addsCarefully ({ frames := 3, cells := 0, slots := 0, locals := 67 })).room s_ m_ args_ below_ meth_ c_ g 9 0 0 (MQ below_ (va_Qv (fun (u : zT) => zMF x u j ∧ zM u j c (zdput d item w) L aw) (zB g) (zA g)) args_ s_ 0 0 (zA g)) (xi x 5 f1) 31 [(0, .ref (zad g 2)), (1, .int (nI j)), (2, .int (nI item)), (3, .int w), (4, .int (nI lev)), (5, .int (nI (item / 2 ^ lev))), (6, .int (v1 + w)), (7, .int (nI row))] [] := by
          intro n31
          induction n31 with
          | zero => intro row f1 hrw hn hf1 hO1; exact absurd hn (by omega)
          | succ n31 ih31 =>
            intro row f1 hrw hn hf1 hO1
            refine z_iload 31 C dX6_addsCarefully_31 7 rfl ?_
            refine z_iconst (v := nI 3) 33 C dX6_addsCarefully_33 rfl ?_
            refine z_icmp_geN 34 C 91 dX6_addsCarefully_34 (by decide) (by omega) (by omega) (fun h34 => ?_) (fun h34 => ?_)
            · refine z_iinc (v' := nI (lev + 1)) (lv' := [(4, .int (nI (lev + 1))), (0, .ref (zad g 2)), (1, .int (nI j)), (2, .int (nI item)), (3, .int w), (5, .int (nI (item / 2 ^ lev))), (6, .int (v1 + w)), (7, .int (nI row))]) 91 C dX6_addsCarefully_91 (q := 4) rfl (zn_inc lev 1) (by decide) rfl ?_
              refine z_goto 94 C 3 dX6_addsCarefully_94 (by decide) ?_
              refine z_lv (lv' := [(0, .ref (zad g 2)), (1, .int (nI j)), (2, .int (nI item)), (3, .int w), (4, .int (nI (lev + 1)))]) [1, 2, 3, 4, 0] rfl ?_
              exact ih3 (lev + 1) f1 (by omega) (by omega) (fun q hq => (hf1 q hq).trans (by rw [show row = 3 by omega]; exact zrw_3 h6 (by rw [ev1, zest_lo (c2 := fun _ => 0) h6]))) hO1
            · refine z_iload_n 37 C dX6_addsCarefully_37 rfl 1 rfl ?_
              refine z_iload 38 C dX6_addsCarefully_38 4 rfl ?_
              refine z_iload 40 C dX6_addsCarefully_40 7 rfl ?_
              refine z_iload 42 C dX6_addsCarefully_42 7 rfl ?_
              refine z_iload 44 C dX6_addsCarefully_44 5 rfl ?_
              refine z_callSi 46 C (As := [.int (nI row), .int (nI (item / 2 ^ lev))]) 2 (c_X6_columnOf l hg (xi x 5 f1) row (item / 2 ^ lev) (by first | decide | omega) (by omega)) (va_cwS 2 C.1.2.2.2.2 gX6_addsCarefully_X6_columnOf rfl rfl rfl (by decide +kernel) ⟨Nat.le_of_ble_eq_true rfl, Nat.le_of_ble_eq_true rfl⟩) rfl rfl (Nat.le_of_ble_eq_true rfl) ⟨Nat.le_of_ble_eq_true rfl, Nat.le_of_ble_eq_true rfl⟩ dX6_addsCarefully_46 (fun r u hu => ?_)
              obtain ⟨hu1, hu2⟩ := hu
              subst u
              subst r
              have := zccol_lt row (item / 2 ^ lev)
              refine z_callSi 49 C (As := [.int (nI j), .int (nI lev), .int (nI row), .int (nI (zccol row (item / 2 ^ lev)))]) 4 (c_X6_placeOf l hg (xi x 5 f1) j lev row (zccol row (item / 2 ^ lev))) (va_cwS 4 C.1.2.2.2.2 gX6_addsCarefully_X6_placeOf rfl rfl rfl (by decide +kernel) ⟨Nat.le_of_ble_eq_true rfl, Nat.le_of_ble_eq_true rfl⟩) rfl rfl (Nat.le_of_ble_eq_true rfl) ⟨Nat.le_of_ble_eq_true rfl, Nat.le_of_ble_eq_true rfl⟩ dX6_addsCarefully_49 (fun r u hu => ?_)
              obtain ⟨hu1, hu2⟩ := hu
              subst u
              subst r
              refine z_istore (lv' := [(8, .int (nI (72 * j + 24 * lev + 8 * row + (zccol row (item / 2 ^ lev))))), (0, .ref (zad g 2)), (1, .int (nI j)), (2, .int (nI item)), (3, .int w), (4, .int (nI lev)), (5, .int (nI (item / 2 ^ lev))), (6, .int (v1 + w)), (7, .int (nI row))]) 52 C dX6_addsCarefully_52 (by decide) rfl ?_
              have hpl : 72 * j + 24 * lev + 8 * row + zccol row (item / 2 ^ lev) = 72 * j + (24 * lev + zcp row (item / 2 ^ lev)) := by unfold zcp; omega
              have hzl := zcp_lt (r := row) (item / 2 ^ lev) h34
              refine z_aload_n 54 C dX6_addsCarefully_54 rfl 1 rfl ?_
              refine z_getr 55 C (ref := "CountcoteModel") (T := TX6) (N := 9) (ci := 6) (q := 3) (kR_model (q := 3) (by decide) (by decide)) rfl hinX6 (by decide) rfl hw_f16 dX6_addsCarefully_55 ?_
              refine z_iload 58 C dX6_addsCarefully_58 0 rfl ?_
              refine z_aload_n 60 C dX6_addsCarefully_60 rfl 1 rfl ?_
              refine z_getr 61 C (ref := "CountcoteModel") (T := TX6) (N := 9) (ci := 6) (q := 3) (kR_model (q := 3) (by decide) (by decide)) rfl hinX6 (by decide) rfl hw_f16 dX6_addsCarefully_61 ?_
              refine z_iload 64 C dX6_addsCarefully_64 0 rfl ?_
              refine z_iald (v := f1 (72 * j + 24 * lev + 8 * row + (zccol row (item / 2 ^ lev)))) 66 C kI_5 (by omega) (by rw [xi_s]) dX6_addsCarefully_66 ?_
              refine z_iload 67 C dX6_addsCarefully_67 7 rfl ?_
              refine z_icmp_le 69 C 82 dX6_addsCarefully_69 (by decide) (fun h69 => ?_) (fun h69 => ?_)
              · rw [hpl] at h69
                refine z_iload 82 C dX6_addsCarefully_82 7 rfl ?_
                obtain ⟨f1, ef1⟩ : ∃ f9 : Nat → Int32, f9 = upd f1 (72 * j + 24 * lev + 8 * row + (zccol row (item / 2 ^ lev))) (v1 + w) := ⟨_, rfl⟩
                refine z_iast (f := f1) 84 C kI_5 (by omega) (by rw [xi_s]; exact ef1.symm) dX6_addsCarefully_84 ?_
                refine z_x (y := (xi x 5 f1)) (by rw [xi_xi]) ?_
                rw [hpl] at ef1
                refine z_iinc (v' := nI (row + 1)) (lv' := [(7, .int (nI (row + 1))), (8, .int (nI (72 * j + 24 * lev + 8 * row + (zccol row (item / 2 ^ lev))))), (0, .ref (zad g 2)), (1, .int (nI j)), (2, .int (nI item)), (3, .int w), (4, .int (nI lev)), (5, .int (nI (item / 2 ^ lev))), (6, .int (v1 + w))]) 85 C dX6_addsCarefully_85 (q := 8) rfl (zn_inc row 1) (by decide) rfl ?_
                refine z_goto 88 C 31 dX6_addsCarefully_88 (by decide) ?_
                refine z_lv (lv' := [(0, .ref (zad g 2)), (1, .int (nI j)), (2, .int (nI item)), (3, .int w), (4, .int (nI lev)), (5, .int (nI (item / 2 ^ lev))), (6, .int (v1 + w)), (7, .int (nI (row + 1)))]) [2, 3, 4, 5, 6, 7, 8, 0] rfl ?_
                exact ih31 (row + 1) f1 (by omega) (by omega) (zrw_s h34 h6 hf1 ef1 (zmax_b (Int32.not_lt.mpr h69))) (zfr_s hO1 ef1 (by omega))
              · rw [hpl] at h69
                refine z_aload_n 72 C dX6_addsCarefully_72 rfl 1 rfl ?_
                refine z_getr 73 C (ref := "CountcoteModel") (T := TX6) (N := 9) (ci := 6) (q := 3) (kR_model (q := 3) (by decide) (by decide)) rfl hinX6 (by decide) rfl hw_f16 dX6_addsCarefully_73 ?_
                refine z_iload 76 C dX6_addsCarefully_76 0 rfl ?_
                refine z_iald (v := f1 (72 * j + 24 * lev + 8 * row + (zccol row (item / 2 ^ lev)))) 78 C kI_5 (by omega) (by rw [xi_s]) dX6_addsCarefully_78 ?_
                refine z_goto 79 C 84 dX6_addsCarefully_79 (by decide) ?_
                obtain ⟨f2, ef2⟩ : ∃ f9 : Nat → Int32, f9 = upd f1 (72 * j + 24 * lev + 8 * row + (zccol row (item / 2 ^ lev))) (f1 (72 * j + 24 * lev + 8 * row + (zccol row (item / 2 ^ lev)))) := ⟨_, rfl⟩
                refine z_iast (f := f2) 84 C kI_5 (by omega) (by rw [xi_s]; exact ef2.symm) dX6_addsCarefully_84 ?_
                refine z_x (y := (xi x 5 f2)) (by rw [xi_xi]) ?_
                rw [hpl] at ef2
                refine z_iinc (v' := nI (row + 1)) (lv' := [(7, .int (nI (row + 1))), (8, .int (nI (72 * j + 24 * lev + 8 * row + (zccol row (item / 2 ^ lev))))), (0, .ref (zad g 2)), (1, .int (nI j)), (2, .int (nI item)), (3, .int w), (4, .int (nI lev)), (5, .int (nI (item / 2 ^ lev))), (6, .int (v1 + w))]) 85 C dX6_addsCarefully_85 (q := 8) rfl (zn_inc row 1) (by decide) rfl ?_
                refine z_goto 88 C 31 dX6_addsCarefully_88 (by decide) ?_
                refine z_lv (lv' := [(0, .ref (zad g 2)), (1, .int (nI j)), (2, .int (nI item)), (3, .int w), (4, .int (nI lev)), (5, .int (nI (item / 2 ^ lev))), (6, .int (v1 + w)), (7, .int (nI (row + 1)))]) [2, 3, 4, 5, 6, 7, 8, 0] rfl ?_
                exact ih31 (row + 1) f2 (by omega) (by omega) (zrw_s h34 h6 hf1 ef2 (zmax_a (Int32.not_le.mp h69))) (zfr_s hO1 ef2 (by omega))
        refine z_lv (lv' := [(0, .ref (zad g 2)), (1, .int (nI j)), (2, .int (nI item)), (3, .int w), (4, .int (nI lev)), (5, .int (nI (item / 2 ^ lev))), (6, .int (v1 + w)), (7, .int (nI 0))]) [3, 4, 5, 6, 7, 2, 1, 0] rfl ?_
        exact J31 4 0 f (by omega) (by omega) (fun q hq => (hf q hq).trans zrw_0.symm) hO
  refine z_lv (lv' := [(0, .ref (zad g 2)), (1, .int (nI j)), (2, .int (nI item)), (3, .int w), (4, .int (nI 0))]) [1, 2, 3, 4, 0] rfl ?_
  exact J3 4 0 (x.1 5) (by omega) (by omega) (fun q hq => (hM.2.2.1 q hq).trans (if_neg (by omega)).symm) (fun p _ => rfl)
set_option maxHeartbeats 4000000 in
set_option maxRecDepth 100000 in
/-- X6_clear -/
theorem c_X6_clear (l : Launch) {g : zG} (hg : zOk g) (x : zT) (S : zS) (hA : zMA x S) (p0 : Int32) : Met l yX6_clear wsX6_clear ({ frames := 2, cells := 0, slots := 0, locals := 41 }) (va_Pc [.ref (zad g 2), .int p0] (zPre g x)) (va_Qi (fun (r : Int32) (u : zT) => zMP x u (if zk1 (zinb p0 4) = 0 then zSj S p0.toNatClampNeg (fun _ => 0) (fun _ => 0) [] 0 else S) (zk1 (zinb p0 4)) ∧ (zk1 (zinb p0 4) = 0 → r = ztot (S.1 p0.toNatClampNeg))) (zB g) (zA g)) 0 0 (zA g) := by
  refine z_met (cc := cX6_clear) (nL := 4) (ret := (some .int)) hg (by decide) rfl (Nat.le_of_ble_eq_true rfl) ?_
  intro p_ e_ s_ m_ args_ below_ meth_ c_ C hr
  show Z p_ l e_ _ s_ m_ args_ below_ meth_ c_ g 4 0 0 _ x 0 [(0, .ref (zad g 2)), (1, .int p0)] []
  have hw_f13 := C.1.2.2.2.2 (.fieldLink RX6 13 "CountcoteModel" "totals" "[I") (by decide +kernel)
  have hinX6 : ∀ w ∈ wsX60, w ∈ wsX6_clear := by decide +kernel
  have hw_f19 := C.1.2.2.2.2 (.fieldLink RX6 19 "CountcoteModel" "counters" "[I") (by decide +kernel)
  have hw_f28 := C.1.2.2.2.2 (.fieldLink RX6 28 "CountcoteModel" "taken" "[I") (by decide +kernel)
  have hw_f16 := C.1.2.2.2.2 (.fieldLink RX6 16 "CountcoteModel" "cells" "[I") (by decide +kernel)
  have hw_f7 := C.1.2.2.2.2 (.fieldLink RX6 7 "CountcoteModel" "counts" "[I") (by decide +kernel)
  refine z_aload_n 0 C dX6_clear_0 rfl 0 rfl ?_
  refine z_iload_n 1 C dX6_clear_1 rfl 1 rfl ?_
  refine z_callSi 2 C (As := [.int p0]) 1 (c_X6_isStream l hg x p0) (va_cwS 1 C.1.2.2.2.2 gX6_clear_X6_isStream rfl rfl rfl (by decide +kernel) ⟨Nat.le_of_ble_eq_true rfl, Nat.le_of_ble_eq_true rfl⟩) rfl rfl (Nat.le_of_ble_eq_true rfl) ⟨Nat.le_of_ble_eq_true rfl, Nat.le_of_ble_eq_true rfl⟩ dX6_clear_2 (fun r u hu => ?_)
  obtain ⟨hu1, hu2⟩ := hu
  subst u
  rcases hu2 with ⟨hr9, hz1⟩ | ⟨hr9, hz1⟩
  · subst r
    obtain ⟨j, hj, hp9⟩ := (zinb_t (by omega)).mp hz1
    subst hp9
    have hMj := hA j hj
    have hclj := nI_clamp (n := j) (by omega)
    refine z_if_eqN 5 C 12 dX6_clear_5 (by decide) (by omega) (fun h5 => absurd h5 (by omega)) (fun h5 => ?_)
    refine z_iconst (v := nI 0) 8 C dX6_clear_8 rfl ?_
    refine z_goto 9 C 13 dX6_clear_9 (by decide) ?_
    refine z_callVi 13 C (As := [.int (nI 0)]) 1 kO_model rfl (c_X6_holds l hg x 0 (by decide)) (cwV 1 C.1.2.2.2.2 gX6_clear_X6_holds rfl rfl rfl (by decide +kernel) ⟨Nat.le_of_ble_eq_true rfl, Nat.le_of_ble_eq_true rfl⟩) rfl rfl (Nat.le_of_ble_eq_true rfl) ⟨Nat.le_of_ble_eq_true rfl, Nat.le_of_ble_eq_true rfl⟩ dX6_clear_13 (fun r u hu => ?_)
    obtain ⟨f2, ef2⟩ : ∃ f9 : Nat → Int32, f9 = upd (x.1 2) 0 (nI 0) := ⟨_, rfl⟩
    obtain ⟨hu1, hu2⟩ : u = (xi x 2 f2) ∧ r = nI 1 := ⟨by rw [hu.1, ef2], hu.2⟩
    subst u
    subst r
    refine z_if_neN 16 C 21 dX6_clear_16 (by decide) (by omega) (fun h16 => ?_) (fun h16 => absurd h16 (by omega))
    refine z_aload_n 21 C dX6_clear_21 rfl 0 rfl ?_
    refine z_getr 22 C (ref := "CountcoteModel") (T := TX6) (N := 9) (ci := 6) (q := 2) (kR_model (q := 2) (by decide) (by decide)) rfl hinX6 (by decide) rfl hw_f13 dX6_clear_22 ?_
    refine z_iload_n 25 C dX6_clear_25 rfl 1 rfl ?_
    refine z_iald (v := (x.1 4) j) 26 C kI_4 (by omega) (by rw [xi_n _ (by decide)]) dX6_clear_26 ?_
    refine z_istore_n (lv' := [(2, .int ((x.1 4) j)), (0, .ref (zad g 2)), (1, .int (nI j))]) 27 C dX6_clear_27 rfl (by decide) rfl ?_
    refine z_iconst (v := nI 0) 28 C dX6_clear_28 rfl ?_
    refine z_istore_n (lv' := [(3, .int (nI 0)), (2, .int ((x.1 4) j)), (0, .ref (zad g 2)), (1, .int (nI j))]) 29 C dX6_clear_29 rfl (by decide) rfl ?_
    refine z_x (y := (xi (xi x 2 f2) 3 (x.1 3))) (xi_idf (by rw [xi_n _ (by decide)])) ?_
    have J30 : ∀ (n30 : Nat) (k : Nat) (g3 : Nat → Int32), (k ≤ 64) → (64 < k + n30) → (∀ q, q < k → g3 (64 * j + q) = 0) → (∀ p, p < 64 * j ∨ 64 * j + 64 ≤ p → g3 p = x.1 3 p) → Z p_ l e_ (headSpec wsX6_clear ({ frames := 2, cells := 0, slots := 0, locals := 41 })).room s_ m_ args_ below_ meth_ c_ g 4 0 0 (MQ below_ (va_Qi (fun (r : Int32) (u : zT) => zMP x u (if zk1 (zinb (nI j) 4) = 0 then zSj S (nI j).toNatClampNeg (fun _ => 0) (fun _ => 0) [] 0 else S) (zk1 (zinb (nI j) 4)) ∧ (zk1 (zinb (nI j) 4) = 0 → r = ztot (S.1 (nI j).toNatClampNeg))) (zB g) (zA g)) args_ s_ 0 0 (zA g)) (xi (xi x 2 f2) 3 g3) 30 [(0, .ref (zad g 2)), (1, .int (nI j)), (2, .int ((x.1 4) j)), (3, .int (nI k))] [] := by
      intro n30
      induction n30 with
      | zero => intro k g3 hk hn hg3 og3; exact absurd hn (by omega)
      | succ n30 ih30 =>
        intro k g3 hk hn hg3 og3
        refine z_iload_n 30 C dX6_clear_30 rfl 3 rfl ?_
        refine z_bipush (v := nI 64) 31 C dX6_clear_31 rfl ?_
        refine z_icmp_geN 33 C 54 dX6_clear_33 (by decide) (by omega) (by omega) (fun h33 => ?_) (fun h33 => ?_)
        · rw [show k = 64 by omega] at hg3
          refine z_iconst (v := nI 0) 54 C dX6_clear_54 rfl ?_
          refine z_istore_n (lv' := [(3, .int (nI 0)), (0, .ref (zad g 2)), (1, .int (nI j)), (2, .int ((x.1 4) j))]) 55 C dX6_clear_55 rfl (by decide) rfl ?_
          refine z_x (y := (xi (xi (xi x 2 f2) 3 g3) 5 (x.1 5))) (xi_idf (by rw [xi_n _ (by decide), xi_n _ (by decide)])) ?_
          have J56 : ∀ (n56 : Nat) (k : Nat) (g5 : Nat → Int32), (k ≤ 72) → (72 < k + n56) → (∀ q, q < k → g5 (72 * j + q) = 0) → (∀ p, p < 72 * j ∨ 72 * j + 72 ≤ p → g5 p = x.1 5 p) → Z p_ l e_ (headSpec wsX6_clear ({ frames := 2, cells := 0, slots := 0, locals := 41 })).room s_ m_ args_ below_ meth_ c_ g 4 0 0 (MQ below_ (va_Qi (fun (r : Int32) (u : zT) => zMP x u (if zk1 (zinb (nI j) 4) = 0 then zSj S (nI j).toNatClampNeg (fun _ => 0) (fun _ => 0) [] 0 else S) (zk1 (zinb (nI j) 4)) ∧ (zk1 (zinb (nI j) 4) = 0 → r = ztot (S.1 (nI j).toNatClampNeg))) (zB g) (zA g)) args_ s_ 0 0 (zA g)) (xi (xi (xi x 2 f2) 3 g3) 5 g5) 56 [(0, .ref (zad g 2)), (1, .int (nI j)), (2, .int ((x.1 4) j)), (3, .int (nI k))] [] := by
            intro n56
            induction n56 with
            | zero => intro k g5 hk hn hg5 og5; exact absurd hn (by omega)
            | succ n56 ih56 =>
              intro k g5 hk hn hg5 og5
              refine z_iload_n 56 C dX6_clear_56 rfl 3 rfl ?_
              refine z_bipush (v := nI 72) 57 C dX6_clear_57 rfl ?_
              refine z_icmp_geN 59 C 80 dX6_clear_59 (by decide) (by omega) (by omega) (fun h59 => ?_) (fun h59 => ?_)
              · rw [show k = 72 by omega] at hg5
                refine z_aload_n 80 C dX6_clear_80 rfl 0 rfl ?_
                refine z_getr 81 C (ref := "CountcoteModel") (T := TX6) (N := 9) (ci := 6) (q := 2) (kR_model (q := 2) (by decide) (by decide)) rfl hinX6 (by decide) rfl hw_f13 dX6_clear_81 ?_
                refine z_iload_n 84 C dX6_clear_84 rfl 1 rfl ?_
                refine z_iconst (v := nI 0) 85 C dX6_clear_85 rfl ?_
                obtain ⟨f3, ef3⟩ : ∃ f9 : Nat → Int32, f9 = upd (x.1 4) j (nI 0) := ⟨_, rfl⟩
                refine z_iast (f := f3) 86 C kI_4 (by omega) (by rw [xi_n _ (by decide), xi_n _ (by decide), xi_n _ (by decide)]; exact ef3.symm) dX6_clear_86 ?_
                refine z_aload_n 87 C dX6_clear_87 rfl 0 rfl ?_
                refine z_getr 88 C (ref := "CountcoteModel") (T := TX6) (N := 9) (ci := 6) (q := 4) (kR_model (q := 4) (by decide) (by decide)) rfl hinX6 (by decide) rfl hw_f19 dX6_clear_88 ?_
                refine z_iload_n 91 C dX6_clear_91 rfl 1 rfl ?_
                refine z_iconst (v := nI 0) 92 C dX6_clear_92 rfl ?_
                obtain ⟨f4, ef4⟩ : ∃ f9 : Nat → Int32, f9 = upd (x.1 6) j (nI 0) := ⟨_, rfl⟩
                refine z_iast (f := f4) 93 C kI_6 (by omega) (by rw [xi_n _ (by decide), xi_n _ (by decide), xi_n _ (by decide), xi_n _ (by decide)]; exact ef4.symm) dX6_clear_93 ?_
                refine z_aload_n 94 C dX6_clear_94 rfl 0 rfl ?_
                refine z_getr 95 C (ref := "CountcoteModel") (T := TX6) (N := 9) (ci := 6) (q := 7) (kR_model (q := 7) (by decide) (by decide)) rfl hinX6 (by decide) rfl hw_f28 dX6_clear_95 ?_
                refine z_iload_n 98 C dX6_clear_98 rfl 1 rfl ?_
                refine z_iconst (v := nI 0) 99 C dX6_clear_99 rfl ?_
                obtain ⟨f5, ef5⟩ : ∃ f9 : Nat → Int32, f9 = upd (x.1 9) j (nI 0) := ⟨_, rfl⟩
                refine z_iast (f := f5) 100 C kI_9 (by omega) (by rw [xi_n _ (by decide), xi_n _ (by decide), xi_n _ (by decide), xi_n _ (by decide), xi_n _ (by decide)]; exact ef5.symm) dX6_clear_100 ?_
                refine z_iload_n 101 C dX6_clear_101 rfl 2 rfl ?_
                obtain ⟨hF9, hN9⟩ := zM_clear (x := xi x 2 f2) hj hg3 og3 hg5 og5 ef3 ef4 ef5
                exact z_iret 102 C hr (zme2y (by simp [zk1, zk2, zk3, hz1, hclj]) (by rw [hclj]; exact zMP_j hA ef2 hF9 hN9) ((hMj.2.1).trans (by rw [hclj]))) dX6_clear_102
              · refine z_aload_n 62 C dX6_clear_62 rfl 0 rfl ?_
                refine z_getr 63 C (ref := "CountcoteModel") (T := TX6) (N := 9) (ci := 6) (q := 3) (kR_model (q := 3) (by decide) (by decide)) rfl hinX6 (by decide) rfl hw_f16 dX6_clear_63 ?_
                refine z_bipush (v := nI 72) 66 C dX6_clear_66 rfl ?_
                refine z_iload_n 68 C dX6_clear_68 rfl 1 rfl ?_
                refine z_imul (v := nI (72 * j)) 69 C dX6_clear_69 (pk_mul 72 j) ?_
                refine z_iload_n 70 C dX6_clear_70 rfl 3 rfl ?_
                refine z_iadd (v := nI ((72 * j) + k)) 71 C dX6_clear_71 (nI_add (72 * j) k) ?_
                refine z_iconst (v := nI 0) 72 C dX6_clear_72 rfl ?_
                obtain ⟨f6, ef6⟩ : ∃ f9 : Nat → Int32, f9 = upd g5 ((72 * j) + k) (nI 0) := ⟨_, rfl⟩
                refine z_iast (f := f6) 73 C kI_5 (by omega) (by rw [xi_s]; exact ef6.symm) dX6_clear_73 ?_
                refine z_x (y := (xi (xi (xi x 2 f2) 3 g3) 5 f6)) (by rw [xi_xi]) ?_
                refine z_iinc (v' := nI (k + 1)) (lv' := [(3, .int (nI (k + 1))), (0, .ref (zad g 2)), (1, .int (nI j)), (2, .int ((x.1 4) j))]) 74 C dX6_clear_74 (q := 3) rfl (zn_inc k 1) (by decide) rfl ?_
                refine z_goto 77 C 56 dX6_clear_77 (by decide) ?_
                refine z_lv (lv' := [(0, .ref (zad g 2)), (1, .int (nI j)), (2, .int ((x.1 4) j)), (3, .int (nI (k + 1)))]) [1, 2, 3, 0] rfl ?_
                exact ih56 (k + 1) f6 (by omega) (by omega) (zj0_s hg5 ef6) (zfr_s og5 ef6 (by omega))
          refine z_lv (lv' := [(0, .ref (zad g 2)), (1, .int (nI j)), (2, .int ((x.1 4) j)), (3, .int (nI 0))]) [1, 2, 3, 0] rfl ?_
          exact J56 73 0 (x.1 5) (by omega) (by omega) (fun q h => absurd h (Nat.not_lt_zero q)) (fun p _ => rfl)
        · refine z_aload_n 36 C dX6_clear_36 rfl 0 rfl ?_
          refine z_getr 37 C (ref := "CountcoteModel") (T := TX6) (N := 9) (ci := 6) (q := 1) (kR_model (q := 1) (by decide) (by decide)) rfl hinX6 (by decide) rfl hw_f7 dX6_clear_37 ?_
          refine z_bipush (v := nI 64) 40 C dX6_clear_40 rfl ?_
          refine z_iload_n 42 C dX6_clear_42 rfl 1 rfl ?_
          refine z_imul (v := nI (64 * j)) 43 C dX6_clear_43 (pk_mul 64 j) ?_
          refine z_iload_n 44 C dX6_clear_44 rfl 3 rfl ?_
          refine z_iadd (v := nI ((64 * j) + k)) 45 C dX6_clear_45 (nI_add (64 * j) k) ?_
          refine z_iconst (v := nI 0) 46 C dX6_clear_46 rfl ?_
          obtain ⟨f7, ef7⟩ : ∃ f9 : Nat → Int32, f9 = upd g3 ((64 * j) + k) (nI 0) := ⟨_, rfl⟩
          refine z_iast (f := f7) 47 C kI_3 (by omega) (by rw [xi_s]; exact ef7.symm) dX6_clear_47 ?_
          refine z_x (y := (xi (xi x 2 f2) 3 f7)) (by rw [xi_xi]) ?_
          refine z_iinc (v' := nI (k + 1)) (lv' := [(3, .int (nI (k + 1))), (0, .ref (zad g 2)), (1, .int (nI j)), (2, .int ((x.1 4) j))]) 48 C dX6_clear_48 (q := 3) rfl (zn_inc k 1) (by decide) rfl ?_
          refine z_goto 51 C 30 dX6_clear_51 (by decide) ?_
          refine z_lv (lv' := [(0, .ref (zad g 2)), (1, .int (nI j)), (2, .int ((x.1 4) j)), (3, .int (nI (k + 1)))]) [1, 2, 3, 0] rfl ?_
          exact ih30 (k + 1) f7 (by omega) (by omega) (zj0_s hg3 ef7) (zfr_s og3 ef7 (by omega))
    refine z_lv (lv' := [(0, .ref (zad g 2)), (1, .int (nI j)), (2, .int ((x.1 4) j)), (3, .int (nI 0))]) [2, 3, 1, 0] rfl ?_
    exact J30 65 0 (x.1 3) (by omega) (by omega) (fun q h => absurd h (Nat.not_lt_zero q)) (fun p _ => rfl)
  · subst r
    refine z_if_eqN 5 C 12 dX6_clear_5 (by decide) (by omega) (fun h5 => ?_) (fun h5 => absurd h5 (by omega))
    refine z_iconst (v := nI 1) 12 C dX6_clear_12 rfl ?_
    refine z_callVi 13 C (As := [.int (nI 1)]) 1 kO_model rfl (c_X6_holds l hg x 1 (by decide)) (cwV 1 C.1.2.2.2.2 gX6_clear_X6_holds rfl rfl rfl (by decide +kernel) ⟨Nat.le_of_ble_eq_true rfl, Nat.le_of_ble_eq_true rfl⟩) rfl rfl (Nat.le_of_ble_eq_true rfl) ⟨Nat.le_of_ble_eq_true rfl, Nat.le_of_ble_eq_true rfl⟩ dX6_clear_13 (fun r u hu => ?_)
    obtain ⟨f8, ef8⟩ : ∃ f9 : Nat → Int32, f9 = upd (x.1 2) 0 (nI 1) := ⟨_, rfl⟩
    obtain ⟨hu1, hu2⟩ : u = (xi x 2 f8) ∧ r = nI 0 := ⟨by rw [hu.1, ef8], hu.2⟩
    subst u
    subst r
    refine z_if_neN 16 C 21 dX6_clear_16 (by decide) (by omega) (fun h16 => absurd h16 (by omega)) (fun h16 => ?_)
    refine z_iconst (v := nI 0) 19 C dX6_clear_19 rfl ?_
    exact z_iret 20 C hr (zme2n (by simp [zk1, zk2, zk3, hz1]) (by decide) (zMP_i hA ef8)) dX6_clear_20
set_option maxHeartbeats 4000000 in
set_option maxRecDepth 100000 in
/-- X6_add -/
theorem c_X6_add (l : Launch) {g : zG} (hg : zOk g) (x : zT) (S : zS) (hA : zMA x S) (p0 p1 p2 : Int32) (hG : ∀ j, j < 4 → zND (S.2.2.1 j) ∧ (S.2.2.1 j).length ≤ 4 ∧ ∀ q, q < (S.2.2.1 j).length → 0 < zLw (S.2.2.1 j) q) : Met l yX6_add wsX6_add ({ frames := 4, cells := 0, slots := 0, locals := 95 }) (va_Pc [.ref (zad g 2), .int p0, .int p1, .int p2] (zPre g x)) (va_Qi (fun (r : Int32) (u : zT) => zMP x u (if zk3 (zinb p0 4 && zinb p1 64) (zwib p2 (nI 1) (nI 1000)) (decide (ztot (S.1 p0.toNatClampNeg) + p2 ≤ nI 1000000)) = 0 then zSj S p0.toNatClampNeg (upd (S.1 p0.toNatClampNeg) p1.toNatClampNeg (S.1 p0.toNatClampNeg p1.toNatClampNeg + p2)) (zdput (S.2.1 p0.toNatClampNeg) p1.toNatClampNeg p2) (zadd (S.2.2.1 p0.toNatClampNeg) (nI p1.toNatClampNeg) p2) (S.2.2.2 p0.toNatClampNeg + zaddw (S.2.2.1 p0.toNatClampNeg) (nI p1.toNatClampNeg) p2) else S) (zk3 (zinb p0 4 && zinb p1 64) (zwib p2 (nI 1) (nI 1000)) (decide (ztot (S.1 p0.toNatClampNeg) + p2 ≤ nI 1000000))) ∧ (zk3 (zinb p0 4 && zinb p1 64) (zwib p2 (nI 1) (nI 1000)) (decide (ztot (S.1 p0.toNatClampNeg) + p2 ≤ nI 1000000)) = 0 → r = ztot (upd (S.1 p0.toNatClampNeg) p1.toNatClampNeg (S.1 p0.toNatClampNeg p1.toNatClampNeg + p2)))) (zB g) (zA g)) 0 0 (zA g) := by
  refine z_met (cc := cX6_add) (nL := 5) (ret := (some .int)) hg (by decide) rfl (Nat.le_of_ble_eq_true rfl) ?_
  intro p_ e_ s_ m_ args_ below_ meth_ c_ C hr
  show Z p_ l e_ _ s_ m_ args_ below_ meth_ c_ g 5 0 0 _ x 0 [(0, .ref (zad g 2)), (1, .int p0), (2, .int p1), (3, .int p2)] []
  have hw_f13 := C.1.2.2.2.2 (.fieldLink RX6 13 "CountcoteModel" "totals" "[I") (by decide +kernel)
  have hinX6 : ∀ w ∈ wsX60, w ∈ wsX6_add := by decide +kernel
  have hw_k83 := C.1.2.2.2.2 (.constant RX6 83 1000000) (by decide +kernel)
  have hw_f7 := C.1.2.2.2.2 (.fieldLink RX6 7 "CountcoteModel" "counts" "[I") (by decide +kernel)
  refine z_iload_n 0 C dX6_add_0 rfl 1 rfl ?_
  refine z_callSi 1 C (As := [.int p0]) 1 (c_X6_isStream l hg x p0) (va_cwS 1 C.1.2.2.2.2 gX6_add_X6_isStream rfl rfl rfl (by decide +kernel) ⟨Nat.le_of_ble_eq_true rfl, Nat.le_of_ble_eq_true rfl⟩) rfl rfl (Nat.le_of_ble_eq_true rfl) ⟨Nat.le_of_ble_eq_true rfl, Nat.le_of_ble_eq_true rfl⟩ dX6_add_1 (fun r u hu => ?_)
  obtain ⟨hu1, hu2⟩ := hu
  subst u
  rcases hu2 with ⟨hr9, hz1⟩ | ⟨hr9, hz1⟩
  · subst r
    obtain ⟨j, hj, hp9⟩ := (zinb_t (by omega)).mp hz1
    subst hp9
    have hMj := hA j hj
    have hclj := nI_clamp (n := j) (by omega)
    refine z_if_eqN 4 C 20 dX6_add_4 (by decide) (by omega) (fun h4 => absurd h4 (by omega)) (fun h4 => ?_)
    refine z_iload_n 7 C dX6_add_7 rfl 2 rfl ?_
    refine z_bipush (v := nI 64) 8 C dX6_add_8 rfl ?_
    refine z_callSi 10 C (As := [.int p1, .int (nI 64)]) 2 (c_X6_isIn l hg x p1 64 (by omega)) (va_cwS 2 C.1.2.2.2.2 gX6_add_X6_isIn rfl rfl rfl (by decide +kernel) ⟨Nat.le_of_ble_eq_true rfl, Nat.le_of_ble_eq_true rfl⟩) rfl rfl (Nat.le_of_ble_eq_true rfl) ⟨Nat.le_of_ble_eq_true rfl, Nat.le_of_ble_eq_true rfl⟩ dX6_add_10 (fun r u hu => ?_)
    obtain ⟨hu1, hu2⟩ := hu
    subst u
    rcases hu2 with ⟨hr9, hz2⟩ | ⟨hr9, hz2⟩
    · subst r
      obtain ⟨i, hi, hp9⟩ := (zinb_t (by omega)).mp hz2
      subst hp9
      have hcli := nI_clamp (n := i) (by omega)
      refine z_if_eqN 13 C 20 dX6_add_13 (by decide) (by omega) (fun h13 => absurd h13 (by omega)) (fun h13 => ?_)
      refine z_iconst (v := nI 1) 16 C dX6_add_16 rfl ?_
      refine z_goto 17 C 21 dX6_add_17 (by decide) ?_
      refine z_istore (lv' := [(4, .int (nI 1)), (0, .ref (zad g 2)), (1, .int (nI j)), (2, .int (nI i)), (3, .int p2)]) 21 C dX6_add_21 (by decide) rfl ?_
      refine z_aload_n 23 C dX6_add_23 rfl 1 rfl ?_
      refine z_iload 24 C dX6_add_24 0 rfl ?_
      refine z_if_neN 26 C 33 dX6_add_26 (by decide) (by omega) (fun h26 => ?_) (fun h26 => absurd h26 (by omega))
      refine z_iload_n 33 C dX6_add_33 rfl 4 rfl ?_
      refine z_iconst (v := nI 1) 34 C dX6_add_34 rfl ?_
      refine z_icmp_lt 35 C 45 dX6_add_35 (by decide) (fun h35 => ?_) (fun h35 => ?_)
      · have hw9 : zwib p2 (nI 1) (nI 1000) = false := zwib_f1 h35
        refine z_iconst (v := nI 2) 45 C dX6_add_45 rfl ?_
        refine z_goto 46 C 67 dX6_add_46 (by decide) ?_
        refine z_callVi 67 C (As := [.int (nI 2)]) 1 kO_model rfl (c_X6_holds l hg x 2 (by decide)) (cwV 1 C.1.2.2.2.2 gX6_add_X6_holds rfl rfl rfl (by decide +kernel) ⟨Nat.le_of_ble_eq_true rfl, Nat.le_of_ble_eq_true rfl⟩) rfl rfl (Nat.le_of_ble_eq_true rfl) ⟨Nat.le_of_ble_eq_true rfl, Nat.le_of_ble_eq_true rfl⟩ dX6_add_67 (fun r u hu => ?_)
        obtain ⟨f3, ef3⟩ : ∃ f9 : Nat → Int32, f9 = upd (x.1 2) 0 (nI 2) := ⟨_, rfl⟩
        obtain ⟨hu1, hu2⟩ : u = (xi x 2 f3) ∧ r = nI 0 := ⟨by rw [hu.1, ef3], hu.2⟩
        subst u
        subst r
        refine z_if_neN 70 C 75 dX6_add_70 (by decide) (by omega) (fun h70 => absurd h70 (by omega)) (fun h70 => ?_)
        refine z_iconst (v := nI 0) 73 C dX6_add_73 rfl ?_
        exact z_iret 74 C hr (zme2n (by simp [zk1, zk2, zk3, hz1, hclj, hz2, hcli, hw9]) (by decide) (zMP_i hA ef3)) dX6_add_74
      · refine z_iload_n 38 C dX6_add_38 rfl 4 rfl ?_
        refine z_sipush (v := nI 1000) 39 C dX6_add_39 rfl ?_
        refine z_icmp_le 42 C 49 dX6_add_42 (by decide) (fun h42 => ?_) (fun h42 => ?_)
        · have hw9 : zwib p2 (nI 1) (nI 1000) = true := zwib_y h35 h42
          refine z_aload_n 49 C dX6_add_49 rfl 1 rfl ?_
          refine z_getr 50 C (ref := "CountcoteModel") (T := TX6) (N := 9) (ci := 6) (q := 2) (kR_model (q := 2) (by decide) (by decide)) rfl hinX6 (by decide) rfl hw_f13 dX6_add_50 ?_
          refine z_iload_n 53 C dX6_add_53 rfl 2 rfl ?_
          refine z_iald (v := (x.1 4) j) 54 C kI_4 (by omega) rfl dX6_add_54 ?_
          refine z_iload_n 55 C dX6_add_55 rfl 4 rfl ?_
          refine z_iadd (v := ((x.1 4) j) + p2) 56 C dX6_add_56 rfl ?_
          refine z_ldc 57 C (v := nI 1000000) hw_k83 dX6_add_57 ?_
          refine z_icmp_le 59 C 66 dX6_add_59 (by decide) (fun h59 => ?_) (fun h59 => ?_)
          · have hw8 : decide (ztot (S.1 j) + p2 ≤ nI 1000000) = true := decide_eq_true (by rw [← hMj.2.1]; exact h59)
            refine z_iconst (v := nI 0) 66 C dX6_add_66 rfl ?_
            refine z_callVi 67 C (As := [.int (nI 0)]) 1 kO_model rfl (c_X6_holds l hg x 0 (by decide)) (cwV 1 C.1.2.2.2.2 gX6_add_X6_holds rfl rfl rfl (by decide +kernel) ⟨Nat.le_of_ble_eq_true rfl, Nat.le_of_ble_eq_true rfl⟩) rfl rfl (Nat.le_of_ble_eq_true rfl) ⟨Nat.le_of_ble_eq_true rfl, Nat.le_of_ble_eq_true rfl⟩ dX6_add_67 (fun r u hu => ?_)
            obtain ⟨f4, ef4⟩ : ∃ f9 : Nat → Int32, f9 = upd (x.1 2) 0 (nI 0) := ⟨_, rfl⟩
            obtain ⟨hu1, hu2⟩ : u = (xi x 2 f4) ∧ r = nI 1 := ⟨by rw [hu.1, ef4], hu.2⟩
            subst u
            subst r
            refine z_if_neN 70 C 75 dX6_add_70 (by decide) (by omega) (fun h70 => ?_) (fun h70 => absurd h70 (by omega))
            refine z_aload_n 75 C dX6_add_75 rfl 1 rfl ?_
            refine z_getr 76 C (ref := "CountcoteModel") (T := TX6) (N := 9) (ci := 6) (q := 1) (kR_model (q := 1) (by decide) (by decide)) rfl hinX6 (by decide) rfl hw_f7 dX6_add_76 ?_
            refine z_bipush (v := nI 64) 79 C dX6_add_79 rfl ?_
            refine z_iload_n 81 C dX6_add_81 rfl 2 rfl ?_
            refine z_imul (v := nI (64 * j)) 82 C dX6_add_82 (pk_mul 64 j) ?_
            refine z_iload_n 83 C dX6_add_83 rfl 3 rfl ?_
            refine z_iadd (v := nI ((64 * j) + i)) 84 C dX6_add_84 (nI_add (64 * j) i) ?_
            refine z_dup2 85 C dX6_add_85 rfl rfl ?_
            refine z_iald (v := (x.1 3) ((64 * j) + i)) 86 C kI_3 (by omega) (by rw [xi_n _ (by decide)]) dX6_add_86 ?_
            refine z_iload_n 87 C dX6_add_87 rfl 4 rfl ?_
            refine z_iadd (v := ((x.1 3) ((64 * j) + i)) + p2) 88 C dX6_add_88 rfl ?_
            obtain ⟨f5, ef5⟩ : ∃ f9 : Nat → Int32, f9 = upd (x.1 3) ((64 * j) + i) (((x.1 3) ((64 * j) + i)) + p2) := ⟨_, rfl⟩
            refine z_iast (f := f5) 89 C kI_3 (by omega) (by rw [xi_n _ (by decide)]; exact ef5.symm) dX6_add_89 ?_
            refine z_aload_n 90 C dX6_add_90 rfl 1 rfl ?_
            refine z_getr 91 C (ref := "CountcoteModel") (T := TX6) (N := 9) (ci := 6) (q := 2) (kR_model (q := 2) (by decide) (by decide)) rfl hinX6 (by decide) rfl hw_f13 dX6_add_91 ?_
            refine z_iload_n 94 C dX6_add_94 rfl 2 rfl ?_
            refine z_dup2 95 C dX6_add_95 rfl rfl ?_
            refine z_iald (v := (x.1 4) j) 96 C kI_4 (by omega) (by rw [xi_n _ (by decide), xi_n _ (by decide)]) dX6_add_96 ?_
            refine z_iload_n 97 C dX6_add_97 rfl 4 rfl ?_
            refine z_iadd (v := ((x.1 4) j) + p2) 98 C dX6_add_98 rfl ?_
            obtain ⟨f6, ef6⟩ : ∃ f9 : Nat → Int32, f9 = upd (x.1 4) j (((x.1 4) j) + p2) := ⟨_, rfl⟩
            refine z_iast (f := f6) 99 C kI_4 (by omega) (by rw [xi_n _ (by decide), xi_n _ (by decide)]; exact ef6.symm) dX6_add_99 ?_
            obtain ⟨hF0, hM0⟩ := zM_put (x := xi x 2 f4) hj hi (zM_2 hMj) ef5 ef6
            have hw0 : 0 < p2 := Int32.lt_of_lt_of_le (show (0 : Int32) < nI 1 by decide) (Int32.not_lt.mp h35)
            refine z_aload_n 100 C dX6_add_100 rfl 1 rfl ?_
            refine z_iload_n 101 C dX6_add_101 rfl 2 rfl ?_
            refine z_iload_n 102 C dX6_add_102 rfl 3 rfl ?_
            refine z_iload_n 103 C dX6_add_103 rfl 4 rfl ?_
            refine z_callVv 104 C (As := [.int (nI j), .int (nI i), .int p2]) 3 kO_model rfl (c_X6_addsCarefully l hg (xi (xi (xi x 2 f4) 3 f5) 4 f6) j hj (upd (S.1 j) i (S.1 j i + p2)) (S.2.1 j) (S.2.2.1 j) (S.2.2.2 j) hM0 i (by omega) p2) (cwV 3 C.1.2.2.2.2 gX6_add_X6_addsCarefully rfl rfl rfl (by decide +kernel) ⟨Nat.le_of_ble_eq_true rfl, Nat.le_of_ble_eq_true rfl⟩) rfl rfl (Nat.le_of_ble_eq_true rfl) ⟨Nat.le_of_ble_eq_true rfl, Nat.le_of_ble_eq_true rfl⟩ dX6_add_104 (fun y7 hu => ?_)
            obtain ⟨hF8, hN9⟩ := hu
            have h810 := hN9.2.2.2.2.2.1
            have hF11 := zMF_t hF0 hF8
            refine z_aload_n 107 C dX6_add_107 rfl 1 rfl ?_
            refine z_iload_n 108 C dX6_add_108 rfl 2 rfl ?_
            refine z_iload_n 109 C dX6_add_109 rfl 3 rfl ?_
            refine z_iload_n 110 C dX6_add_110 rfl 4 rfl ?_
            refine z_callVv 111 C (As := [.int (nI j), .int (nI i), .int p2]) 3 kO_model rfl (c_X6_addsToCounters l hg y7 j hj (upd (S.1 j) i (S.1 j i + p2)) (zdput (S.2.1 j) i p2) (S.2.2.1 j) (S.2.2.2 j) hN9 (hG j hj).1 (hG j hj).2.1 (hG j hj).2.2 (nI i) p2 hw0) (cwV 3 C.1.2.2.2.2 gX6_add_X6_addsToCounters rfl rfl rfl (by decide +kernel) ⟨Nat.le_of_ble_eq_true rfl, Nat.le_of_ble_eq_true rfl⟩) rfl rfl (Nat.le_of_ble_eq_true rfl) ⟨Nat.le_of_ble_eq_true rfl, Nat.le_of_ble_eq_true rfl⟩ dX6_add_111 (fun y12 hu => ?_)
            obtain ⟨hF13, hN14⟩ := hu
            have h815 := hN14.2.2.2.2.2.1
            have hF16 := zMF_t hF11 hF13
            refine z_aload_n 114 C dX6_add_114 rfl 1 rfl ?_
            refine z_getr 115 C (ref := "CountcoteModel") (T := TX6) (N := 9) (ci := 6) (q := 2) (kR_model (q := 2) (by decide) (by decide)) rfl hinX6 (by decide) rfl hw_f13 dX6_add_115 ?_
            refine z_iload_n 118 C dX6_add_118 rfl 2 rfl ?_
            refine z_iald (v := (y12.1 4) j) 119 C kI_4 (by omega) rfl dX6_add_119 ?_
            exact z_iret 120 C hr (zme2y (by simp [zk1, zk2, zk3, hz1, hclj, hz2, hcli, hw9, hw8]) (by rw [hclj, hcli]; exact zMP_j hA ef4 hF16 hN14) ((hN14.2.1).trans (by rw [hclj, hcli]))) dX6_add_120
          · have hw8 : decide (ztot (S.1 j) + p2 ≤ nI 1000000) = false := decide_eq_false (by rw [← hMj.2.1]; exact h59)
            refine z_iconst (v := nI 3) 62 C dX6_add_62 rfl ?_
            refine z_goto 63 C 67 dX6_add_63 (by decide) ?_
            refine z_callVi 67 C (As := [.int (nI 3)]) 1 kO_model rfl (c_X6_holds l hg x 3 (by decide)) (cwV 1 C.1.2.2.2.2 gX6_add_X6_holds rfl rfl rfl (by decide +kernel) ⟨Nat.le_of_ble_eq_true rfl, Nat.le_of_ble_eq_true rfl⟩) rfl rfl (Nat.le_of_ble_eq_true rfl) ⟨Nat.le_of_ble_eq_true rfl, Nat.le_of_ble_eq_true rfl⟩ dX6_add_67 (fun r u hu => ?_)
            obtain ⟨f17, ef17⟩ : ∃ f9 : Nat → Int32, f9 = upd (x.1 2) 0 (nI 3) := ⟨_, rfl⟩
            obtain ⟨hu1, hu2⟩ : u = (xi x 2 f17) ∧ r = nI 0 := ⟨by rw [hu.1, ef17], hu.2⟩
            subst u
            subst r
            refine z_if_neN 70 C 75 dX6_add_70 (by decide) (by omega) (fun h70 => absurd h70 (by omega)) (fun h70 => ?_)
            refine z_iconst (v := nI 0) 73 C dX6_add_73 rfl ?_
            exact z_iret 74 C hr (zme2n (by simp [zk1, zk2, zk3, hz1, hclj, hz2, hcli, hw9, hw8]) (by decide) (zMP_i hA ef17)) dX6_add_74
        · have hw9 : zwib p2 (nI 1) (nI 1000) = false := zwib_f2 h42
          refine z_iconst (v := nI 2) 45 C dX6_add_45 rfl ?_
          refine z_goto 46 C 67 dX6_add_46 (by decide) ?_
          refine z_callVi 67 C (As := [.int (nI 2)]) 1 kO_model rfl (c_X6_holds l hg x 2 (by decide)) (cwV 1 C.1.2.2.2.2 gX6_add_X6_holds rfl rfl rfl (by decide +kernel) ⟨Nat.le_of_ble_eq_true rfl, Nat.le_of_ble_eq_true rfl⟩) rfl rfl (Nat.le_of_ble_eq_true rfl) ⟨Nat.le_of_ble_eq_true rfl, Nat.le_of_ble_eq_true rfl⟩ dX6_add_67 (fun r u hu => ?_)
          obtain ⟨f18, ef18⟩ : ∃ f9 : Nat → Int32, f9 = upd (x.1 2) 0 (nI 2) := ⟨_, rfl⟩
          obtain ⟨hu1, hu2⟩ : u = (xi x 2 f18) ∧ r = nI 0 := ⟨by rw [hu.1, ef18], hu.2⟩
          subst u
          subst r
          refine z_if_neN 70 C 75 dX6_add_70 (by decide) (by omega) (fun h70 => absurd h70 (by omega)) (fun h70 => ?_)
          refine z_iconst (v := nI 0) 73 C dX6_add_73 rfl ?_
          exact z_iret 74 C hr (zme2n (by simp [zk1, zk2, zk3, hz1, hclj, hz2, hcli, hw9]) (by decide) (zMP_i hA ef18)) dX6_add_74
    · subst r
      refine z_if_eqN 13 C 20 dX6_add_13 (by decide) (by omega) (fun h13 => ?_) (fun h13 => absurd h13 (by omega))
      refine z_iconst (v := nI 0) 20 C dX6_add_20 rfl ?_
      refine z_istore (lv' := [(4, .int (nI 0)), (0, .ref (zad g 2)), (1, .int (nI j)), (2, .int p1), (3, .int p2)]) 21 C dX6_add_21 (by decide) rfl ?_
      refine z_aload_n 23 C dX6_add_23 rfl 1 rfl ?_
      refine z_iload 24 C dX6_add_24 0 rfl ?_
      refine z_if_neN 26 C 33 dX6_add_26 (by decide) (by omega) (fun h26 => absurd h26 (by omega)) (fun h26 => ?_)
      refine z_iconst (v := nI 1) 29 C dX6_add_29 rfl ?_
      refine z_goto 30 C 67 dX6_add_30 (by decide) ?_
      refine z_callVi 67 C (As := [.int (nI 1)]) 1 kO_model rfl (c_X6_holds l hg x 1 (by decide)) (cwV 1 C.1.2.2.2.2 gX6_add_X6_holds rfl rfl rfl (by decide +kernel) ⟨Nat.le_of_ble_eq_true rfl, Nat.le_of_ble_eq_true rfl⟩) rfl rfl (Nat.le_of_ble_eq_true rfl) ⟨Nat.le_of_ble_eq_true rfl, Nat.le_of_ble_eq_true rfl⟩ dX6_add_67 (fun r u hu => ?_)
      obtain ⟨f19, ef19⟩ : ∃ f9 : Nat → Int32, f9 = upd (x.1 2) 0 (nI 1) := ⟨_, rfl⟩
      obtain ⟨hu1, hu2⟩ : u = (xi x 2 f19) ∧ r = nI 0 := ⟨by rw [hu.1, ef19], hu.2⟩
      subst u
      subst r
      refine z_if_neN 70 C 75 dX6_add_70 (by decide) (by omega) (fun h70 => absurd h70 (by omega)) (fun h70 => ?_)
      refine z_iconst (v := nI 0) 73 C dX6_add_73 rfl ?_
      exact z_iret 74 C hr (zme2n (by simp [zk1, zk2, zk3, hz1, hclj, hz2]) (by decide) (zMP_i hA ef19)) dX6_add_74
  · subst r
    refine z_if_eqN 4 C 20 dX6_add_4 (by decide) (by omega) (fun h4 => ?_) (fun h4 => absurd h4 (by omega))
    refine z_iconst (v := nI 0) 20 C dX6_add_20 rfl ?_
    refine z_istore (lv' := [(4, .int (nI 0)), (0, .ref (zad g 2)), (1, .int p0), (2, .int p1), (3, .int p2)]) 21 C dX6_add_21 (by decide) rfl ?_
    refine z_aload_n 23 C dX6_add_23 rfl 1 rfl ?_
    refine z_iload 24 C dX6_add_24 0 rfl ?_
    refine z_if_neN 26 C 33 dX6_add_26 (by decide) (by omega) (fun h26 => absurd h26 (by omega)) (fun h26 => ?_)
    refine z_iconst (v := nI 1) 29 C dX6_add_29 rfl ?_
    refine z_goto 30 C 67 dX6_add_30 (by decide) ?_
    refine z_callVi 67 C (As := [.int (nI 1)]) 1 kO_model rfl (c_X6_holds l hg x 1 (by decide)) (cwV 1 C.1.2.2.2.2 gX6_add_X6_holds rfl rfl rfl (by decide +kernel) ⟨Nat.le_of_ble_eq_true rfl, Nat.le_of_ble_eq_true rfl⟩) rfl rfl (Nat.le_of_ble_eq_true rfl) ⟨Nat.le_of_ble_eq_true rfl, Nat.le_of_ble_eq_true rfl⟩ dX6_add_67 (fun r u hu => ?_)
    obtain ⟨f20, ef20⟩ : ∃ f9 : Nat → Int32, f9 = upd (x.1 2) 0 (nI 1) := ⟨_, rfl⟩
    obtain ⟨hu1, hu2⟩ : u = (xi x 2 f20) ∧ r = nI 0 := ⟨by rw [hu.1, ef20], hu.2⟩
    subst u
    subst r
    refine z_if_neN 70 C 75 dX6_add_70 (by decide) (by omega) (fun h70 => absurd h70 (by omega)) (fun h70 => ?_)
    refine z_iconst (v := nI 0) 73 C dX6_add_73 rfl ?_
    exact z_iret 74 C hr (zme2n (by simp [zk1, zk2, zk3, hz1]) (by decide) (zMP_i hA ef20)) dX6_add_74
set_option maxHeartbeats 4000000 in
set_option maxRecDepth 100000 in
/-- X6_merge -/
theorem c_X6_merge (l : Launch) {g : zG} (hg : zOk g) (x : zT) (S : zS) (hA : zMA x S) (p0 p1 : Int32) (hG : ∀ j, j < 4 → zND (S.2.2.1 j) ∧ (S.2.2.1 j).length ≤ 4 ∧ ∀ q, q < (S.2.2.1 j).length → 0 < zLw (S.2.2.1 j) q) (hPJ : ∀ j o, j < 4 → o < 4 → j ≠ o → p0 = nI j → p1 = nI o → 4 < (zjn (S.2.2.1 j) (S.2.2.1 o)).length → ∀ q, q < (zjn (S.2.2.1 j) (S.2.2.1 o)).length → 0 < zLw (zjn (S.2.2.1 j) (S.2.2.1 o)) q) : Met l yX6_merge wsX6_merge ({ frames := 2, cells := 0, slots := 0, locals := 52 }) (va_Pc [.ref (zad g 2), .int p0, .int p1] (zPre g x)) (va_Qi (fun (r : Int32) (u : zT) => zMP x u (if zk3 (zinb p0 4 && zinb p1 4) (decide (p0 ≠ p1)) (decide (ztot (S.1 p0.toNatClampNeg) + ztot (S.1 p1.toNatClampNeg) ≤ nI 1000000)) = 0 then zSj S p0.toNatClampNeg (fun k => S.1 p0.toNatClampNeg k + S.1 p1.toNatClampNeg k) (fun k => S.2.1 p0.toNatClampNeg k + S.2.1 p1.toNatClampNeg k) (zmrg (S.2.2.1 p0.toNatClampNeg) (S.2.2.1 p1.toNatClampNeg)) (S.2.2.2 p0.toNatClampNeg + S.2.2.2 p1.toNatClampNeg + zmrgw (S.2.2.1 p0.toNatClampNeg) (S.2.2.1 p1.toNatClampNeg)) else S) (zk3 (zinb p0 4 && zinb p1 4) (decide (p0 ≠ p1)) (decide (ztot (S.1 p0.toNatClampNeg) + ztot (S.1 p1.toNatClampNeg) ≤ nI 1000000))) ∧ (zk3 (zinb p0 4 && zinb p1 4) (decide (p0 ≠ p1)) (decide (ztot (S.1 p0.toNatClampNeg) + ztot (S.1 p1.toNatClampNeg) ≤ nI 1000000)) = 0 → r = ztot (fun k => S.1 p0.toNatClampNeg k + S.1 p1.toNatClampNeg k))) (zB g) (zA g)) 0 0 (zA g) := by
  refine z_met (cc := cX6_merge) (nL := 5) (ret := (some .int)) hg (by decide) rfl (Nat.le_of_ble_eq_true rfl) ?_
  intro p_ e_ s_ m_ args_ below_ meth_ c_ C hr
  show Z p_ l e_ _ s_ m_ args_ below_ meth_ c_ g 5 0 0 _ x 0 [(0, .ref (zad g 2)), (1, .int p0), (2, .int p1)] []
  have hw_f13 := C.1.2.2.2.2 (.fieldLink RX6 13 "CountcoteModel" "totals" "[I") (by decide +kernel)
  have hinX6 : ∀ w ∈ wsX60, w ∈ wsX6_merge := by decide +kernel
  have hw_k83 := C.1.2.2.2.2 (.constant RX6 83 1000000) (by decide +kernel)
  have hw_f16 := C.1.2.2.2.2 (.fieldLink RX6 16 "CountcoteModel" "cells" "[I") (by decide +kernel)
  have hw_f7 := C.1.2.2.2.2 (.fieldLink RX6 7 "CountcoteModel" "counts" "[I") (by decide +kernel)
  refine z_iload_n 0 C dX6_merge_0 rfl 1 rfl ?_
  refine z_callSi 1 C (As := [.int p0]) 1 (c_X6_isStream l hg x p0) (va_cwS 1 C.1.2.2.2.2 gX6_merge_X6_isStream rfl rfl rfl (by decide +kernel) ⟨Nat.le_of_ble_eq_true rfl, Nat.le_of_ble_eq_true rfl⟩) rfl rfl (Nat.le_of_ble_eq_true rfl) ⟨Nat.le_of_ble_eq_true rfl, Nat.le_of_ble_eq_true rfl⟩ dX6_merge_1 (fun r u hu => ?_)
  obtain ⟨hu1, hu2⟩ := hu
  subst u
  rcases hu2 with ⟨hr9, hz1⟩ | ⟨hr9, hz1⟩
  · subst r
    obtain ⟨j, hj, hp9⟩ := (zinb_t (by omega)).mp hz1
    subst hp9
    have hMj := hA j hj
    have hclj := nI_clamp (n := j) (by omega)
    refine z_if_eqN 4 C 18 dX6_merge_4 (by decide) (by omega) (fun h4 => absurd h4 (by omega)) (fun h4 => ?_)
    refine z_iload_n 7 C dX6_merge_7 rfl 2 rfl ?_
    refine z_callSi 8 C (As := [.int p1]) 1 (c_X6_isStream l hg x p1) (va_cwS 1 C.1.2.2.2.2 gX6_merge_X6_isStream rfl rfl rfl (by decide +kernel) ⟨Nat.le_of_ble_eq_true rfl, Nat.le_of_ble_eq_true rfl⟩) rfl rfl (Nat.le_of_ble_eq_true rfl) ⟨Nat.le_of_ble_eq_true rfl, Nat.le_of_ble_eq_true rfl⟩ dX6_merge_8 (fun r u hu => ?_)
    obtain ⟨hu1, hu2⟩ := hu
    subst u
    rcases hu2 with ⟨hr9, hz2⟩ | ⟨hr9, hz2⟩
    · subst r
      obtain ⟨o, ho, hp9⟩ := (zinb_t (by omega)).mp hz2
      subst hp9
      have hMo := hA o ho
      have hclo := nI_clamp (n := o) (by omega)
      refine z_if_eqN 11 C 18 dX6_merge_11 (by decide) (by omega) (fun h11 => absurd h11 (by omega)) (fun h11 => ?_)
      refine z_iconst (v := nI 1) 14 C dX6_merge_14 rfl ?_
      refine z_goto 15 C 19 dX6_merge_15 (by decide) ?_
      refine z_istore_n (lv' := [(3, .int (nI 1)), (0, .ref (zad g 2)), (1, .int (nI j)), (2, .int (nI o))]) 19 C dX6_merge_19 rfl (by decide) rfl ?_
      refine z_aload_n 20 C dX6_merge_20 rfl 1 rfl ?_
      refine z_iload_n 21 C dX6_merge_21 rfl 0 rfl ?_
      refine z_if_neN 22 C 29 dX6_merge_22 (by decide) (by omega) (fun h22 => ?_) (fun h22 => absurd h22 (by omega))
      refine z_iload_n 29 C dX6_merge_29 rfl 2 rfl ?_
      refine z_iload_n 30 C dX6_merge_30 rfl 3 rfl ?_
      refine z_icmp_neN 31 C 38 dX6_merge_31 (by decide) (by omega) (by omega) (fun h31 => ?_) (fun h31 => ?_)
      · have hne9 : decide (nI j ≠ nI o) = true := decide_eq_true (fun e => h31 ((nI_eq (by omega) (by omega)).mp e))
        refine z_aload_n 38 C dX6_merge_38 rfl 1 rfl ?_
        refine z_getr 39 C (ref := "CountcoteModel") (T := TX6) (N := 9) (ci := 6) (q := 2) (kR_model (q := 2) (by decide) (by decide)) rfl hinX6 (by decide) rfl hw_f13 dX6_merge_39 ?_
        refine z_iload_n 42 C dX6_merge_42 rfl 2 rfl ?_
        refine z_iald (v := (x.1 4) j) 43 C kI_4 (by omega) rfl dX6_merge_43 ?_
        refine z_aload_n 44 C dX6_merge_44 rfl 1 rfl ?_
        refine z_getr 45 C (ref := "CountcoteModel") (T := TX6) (N := 9) (ci := 6) (q := 2) (kR_model (q := 2) (by decide) (by decide)) rfl hinX6 (by decide) rfl hw_f13 dX6_merge_45 ?_
        refine z_iload_n 48 C dX6_merge_48 rfl 3 rfl ?_
        refine z_iald (v := (x.1 4) o) 49 C kI_4 (by omega) rfl dX6_merge_49 ?_
        refine z_iadd (v := ((x.1 4) j) + ((x.1 4) o)) 50 C dX6_merge_50 rfl ?_
        refine z_ldc 51 C (v := nI 1000000) hw_k83 dX6_merge_51 ?_
        refine z_icmp_le 53 C 60 dX6_merge_53 (by decide) (fun h53 => ?_) (fun h53 => ?_)
        · have hw8 : decide (ztot (S.1 j) + ztot (S.1 o) ≤ nI 1000000) = true := decide_eq_true (by rw [← hMj.2.1, ← hMo.2.1]; exact h53)
          refine z_iconst (v := nI 0) 60 C dX6_merge_60 rfl ?_
          refine z_callVi 61 C (As := [.int (nI 0)]) 1 kO_model rfl (c_X6_holds l hg x 0 (by decide)) (cwV 1 C.1.2.2.2.2 gX6_merge_X6_holds rfl rfl rfl (by decide +kernel) ⟨Nat.le_of_ble_eq_true rfl, Nat.le_of_ble_eq_true rfl⟩) rfl rfl (Nat.le_of_ble_eq_true rfl) ⟨Nat.le_of_ble_eq_true rfl, Nat.le_of_ble_eq_true rfl⟩ dX6_merge_61 (fun r u hu => ?_)
          obtain ⟨f3, ef3⟩ : ∃ f9 : Nat → Int32, f9 = upd (x.1 2) 0 (nI 0) := ⟨_, rfl⟩
          obtain ⟨hu1, hu2⟩ : u = (xi x 2 f3) ∧ r = nI 1 := ⟨by rw [hu.1, ef3], hu.2⟩
          subst u
          subst r
          refine z_if_neN 64 C 69 dX6_merge_64 (by decide) (by omega) (fun h64 => ?_) (fun h64 => absurd h64 (by omega))
          refine z_iconst (v := nI 0) 69 C dX6_merge_69 rfl ?_
          refine z_istore (lv' := [(4, .int (nI 0)), (3, .int (nI 1)), (0, .ref (zad g 2)), (1, .int (nI j)), (2, .int (nI o))]) 70 C dX6_merge_70 (by decide) rfl ?_
          refine z_x (y := (xi (xi x 2 f3) 3 (x.1 3))) (xi_idf (by rw [xi_n _ (by decide)])) ?_
          have J72 : ∀ (n72 : Nat) (k : Nat) (g3 : Nat → Int32), (k ≤ 64) → (64 < k + n72) → (∀ q, q < 64 → g3 (64 * j + q) = if q < k then x.1 3 (64 * j + q) + x.1 3 (64 * o + q) else x.1 3 (64 * j + q)) → (∀ p, p < 64 * j ∨ 64 * j + 64 ≤ p → g3 p = x.1 3 p) → Z p_ l e_ (headSpec wsX6_merge ({ frames := 2, cells := 0, slots := 0, locals := 52 })).room s_ m_ args_ below_ meth_ c_ g 5 0 0 (MQ below_ (va_Qi (fun (r : Int32) (u : zT) => zMP x u (if zk3 (zinb (nI j) 4 && zinb (nI o) 4) (decide ((nI j) ≠ (nI o))) (decide (ztot (S.1 (nI j).toNatClampNeg) + ztot (S.1 (nI o).toNatClampNeg) ≤ nI 1000000)) = 0 then zSj S (nI j).toNatClampNeg (fun k => S.1 (nI j).toNatClampNeg k + S.1 (nI o).toNatClampNeg k) (fun k => S.2.1 (nI j).toNatClampNeg k + S.2.1 (nI o).toNatClampNeg k) (zmrg (S.2.2.1 (nI j).toNatClampNeg) (S.2.2.1 (nI o).toNatClampNeg)) (S.2.2.2 (nI j).toNatClampNeg + S.2.2.2 (nI o).toNatClampNeg + zmrgw (S.2.2.1 (nI j).toNatClampNeg) (S.2.2.1 (nI o).toNatClampNeg)) else S) (zk3 (zinb (nI j) 4 && zinb (nI o) 4) (decide ((nI j) ≠ (nI o))) (decide (ztot (S.1 (nI j).toNatClampNeg) + ztot (S.1 (nI o).toNatClampNeg) ≤ nI 1000000))) ∧ (zk3 (zinb (nI j) 4 && zinb (nI o) 4) (decide ((nI j) ≠ (nI o))) (decide (ztot (S.1 (nI j).toNatClampNeg) + ztot (S.1 (nI o).toNatClampNeg) ≤ nI 1000000)) = 0 → r = ztot (fun k => S.1 (nI j).toNatClampNeg k + S.1 (nI o).toNatClampNeg k))) (zB g) (zA g)) args_ s_ 0 0 (zA g)) (xi (xi x 2 f3) 3 g3) 72 [(0, .ref (zad g 2)), (1, .int (nI j)), (2, .int (nI o)), (3, .int (nI 1)), (4, .int (nI k))] [] := by
            intro n72
            induction n72 with
            | zero => intro k g3 hk hn hg3 og3; exact absurd hn (by omega)
            | succ n72 ih72 =>
              intro k g3 hk hn hg3 og3
              refine z_iload 72 C dX6_merge_72 4 rfl ?_
              refine z_bipush (v := nI 64) 74 C dX6_merge_74 rfl ?_
              refine z_icmp_geN 76 C 112 dX6_merge_76 (by decide) (by omega) (by omega) (fun h76 => ?_) (fun h76 => ?_)
              · have zg3 : ∀ q, q < 64 → g3 (64 * j + q) = x.1 3 (64 * j + q) + x.1 3 (64 * o + q) := fun q hq => by rw [hg3 q hq, if_pos (by omega)]
                refine z_iconst (v := nI 0) 112 C dX6_merge_112 rfl ?_
                refine z_istore (lv' := [(4, .int (nI 0)), (0, .ref (zad g 2)), (1, .int (nI j)), (2, .int (nI o)), (3, .int (nI 1))]) 113 C dX6_merge_113 (by decide) rfl ?_
                refine z_x (y := (xi (xi (xi x 2 f3) 3 g3) 5 (x.1 5))) (xi_idf (by rw [xi_n _ (by decide), xi_n _ (by decide)])) ?_
                have J115 : ∀ (n115 : Nat) (k : Nat) (g5 : Nat → Int32), (k ≤ 72) → (72 < k + n115) → (∀ q, q < 72 → g5 (72 * j + q) = if q < k then x.1 5 (72 * j + q) + x.1 5 (72 * o + q) else x.1 5 (72 * j + q)) → (∀ p, p < 72 * j ∨ 72 * j + 72 ≤ p → g5 p = x.1 5 p) → Z p_ l e_ (headSpec wsX6_merge ({ frames := 2, cells := 0, slots := 0, locals := 52 })).room s_ m_ args_ below_ meth_ c_ g 5 0 0 (MQ below_ (va_Qi (fun (r : Int32) (u : zT) => zMP x u (if zk3 (zinb (nI j) 4 && zinb (nI o) 4) (decide ((nI j) ≠ (nI o))) (decide (ztot (S.1 (nI j).toNatClampNeg) + ztot (S.1 (nI o).toNatClampNeg) ≤ nI 1000000)) = 0 then zSj S (nI j).toNatClampNeg (fun k => S.1 (nI j).toNatClampNeg k + S.1 (nI o).toNatClampNeg k) (fun k => S.2.1 (nI j).toNatClampNeg k + S.2.1 (nI o).toNatClampNeg k) (zmrg (S.2.2.1 (nI j).toNatClampNeg) (S.2.2.1 (nI o).toNatClampNeg)) (S.2.2.2 (nI j).toNatClampNeg + S.2.2.2 (nI o).toNatClampNeg + zmrgw (S.2.2.1 (nI j).toNatClampNeg) (S.2.2.1 (nI o).toNatClampNeg)) else S) (zk3 (zinb (nI j) 4 && zinb (nI o) 4) (decide ((nI j) ≠ (nI o))) (decide (ztot (S.1 (nI j).toNatClampNeg) + ztot (S.1 (nI o).toNatClampNeg) ≤ nI 1000000))) ∧ (zk3 (zinb (nI j) 4 && zinb (nI o) 4) (decide ((nI j) ≠ (nI o))) (decide (ztot (S.1 (nI j).toNatClampNeg) + ztot (S.1 (nI o).toNatClampNeg) ≤ nI 1000000)) = 0 → r = ztot (fun k => S.1 (nI j).toNatClampNeg k + S.1 (nI o).toNatClampNeg k))) (zB g) (zA g)) args_ s_ 0 0 (zA g)) (xi (xi (xi x 2 f3) 3 g3) 5 g5) 115 [(0, .ref (zad g 2)), (1, .int (nI j)), (2, .int (nI o)), (3, .int (nI 1)), (4, .int (nI k))] [] := by
                  intro n115
                  induction n115 with
                  | zero => intro k g5 hk hn hg5 og5; exact absurd hn (by omega)
                  | succ n115 ih115 =>
                    intro k g5 hk hn hg5 og5
                    refine z_iload 115 C dX6_merge_115 4 rfl ?_
                    refine z_bipush (v := nI 72) 117 C dX6_merge_117 rfl ?_
                    refine z_icmp_geN 119 C 155 dX6_merge_119 (by decide) (by omega) (by omega) (fun h119 => ?_) (fun h119 => ?_)
                    · have zg5 : ∀ q, q < 72 → g5 (72 * j + q) = x.1 5 (72 * j + q) + x.1 5 (72 * o + q) := fun q hq => by rw [hg5 q hq, if_pos (by omega)]
                      refine z_aload_n 155 C dX6_merge_155 rfl 0 rfl ?_
                      refine z_getr 156 C (ref := "CountcoteModel") (T := TX6) (N := 9) (ci := 6) (q := 2) (kR_model (q := 2) (by decide) (by decide)) rfl hinX6 (by decide) rfl hw_f13 dX6_merge_156 ?_
                      refine z_iload_n 159 C dX6_merge_159 rfl 1 rfl ?_
                      refine z_dup2 160 C dX6_merge_160 rfl rfl ?_
                      refine z_iald (v := (x.1 4) j) 161 C kI_4 (by omega) (by rw [xi_n _ (by decide), xi_n _ (by decide), xi_n _ (by decide)]) dX6_merge_161 ?_
                      refine z_aload_n 162 C dX6_merge_162 rfl 0 rfl ?_
                      refine z_getr 163 C (ref := "CountcoteModel") (T := TX6) (N := 9) (ci := 6) (q := 2) (kR_model (q := 2) (by decide) (by decide)) rfl hinX6 (by decide) rfl hw_f13 dX6_merge_163 ?_
                      refine z_iload_n 166 C dX6_merge_166 rfl 2 rfl ?_
                      refine z_iald (v := (x.1 4) o) 167 C kI_4 (by omega) (by rw [xi_n _ (by decide), xi_n _ (by decide), xi_n _ (by decide)]) dX6_merge_167 ?_
                      refine z_iadd (v := ((x.1 4) j) + ((x.1 4) o)) 168 C dX6_merge_168 rfl ?_
                      obtain ⟨f4, ef4⟩ : ∃ f9 : Nat → Int32, f9 = upd (x.1 4) j (((x.1 4) j) + ((x.1 4) o)) := ⟨_, rfl⟩
                      refine z_iast (f := f4) 169 C kI_4 (by omega) (by rw [xi_n _ (by decide), xi_n _ (by decide), xi_n _ (by decide)]; exact ef4.symm) dX6_merge_169 ?_
                      obtain ⟨hF0, hM0⟩ := zM_join (x := xi x 2 f3) hj ho h31 (zM_2 hMj) (zM_2 hMo) zg3 og3 zg5 og5 ef4
                      have hMo0 := hF0.M (Ne.symm h31) (zM_2 hMo)
                      refine z_aload_n 170 C dX6_merge_170 rfl 0 rfl ?_
                      refine z_iload_n 171 C dX6_merge_171 rfl 1 rfl ?_
                      refine z_iload_n 172 C dX6_merge_172 rfl 2 rfl ?_
                      refine z_callVv 173 C (As := [.int (nI j), .int (nI o)]) 2 kO_model rfl (c_X6_mergesCounters l hg (xi (xi (xi (xi x 2 f3) 3 g3) 5 g5) 4 f4) j o hj ho h31 (fun k => S.1 j k + S.1 o k) (fun k => S.2.1 j k + S.2.1 o k) (S.2.2.1 j) (S.2.2.2 j) hM0 (S.1 o) (S.2.1 o) (S.2.2.1 o) (S.2.2.2 o) hMo0 (hG j hj).1 (hG j hj).2.1 (hG o ho).2.1 (hPJ j o hj ho h31 rfl rfl)) (cwV 2 C.1.2.2.2.2 gX6_merge_X6_mergesCounters rfl rfl rfl (by decide +kernel) ⟨Nat.le_of_ble_eq_true rfl, Nat.le_of_ble_eq_true rfl⟩) rfl rfl (Nat.le_of_ble_eq_true rfl) ⟨Nat.le_of_ble_eq_true rfl, Nat.le_of_ble_eq_true rfl⟩ dX6_merge_173 (fun y5 hu => ?_)
                      obtain ⟨hF6, hN7⟩ := hu
                      have h88 := hN7.2.2.2.2.2.1
                      have hF9 := zMF_t hF0 hF6
                      refine z_aload_n 176 C dX6_merge_176 rfl 0 rfl ?_
                      refine z_getr 177 C (ref := "CountcoteModel") (T := TX6) (N := 9) (ci := 6) (q := 2) (kR_model (q := 2) (by decide) (by decide)) rfl hinX6 (by decide) rfl hw_f13 dX6_merge_177 ?_
                      refine z_iload_n 180 C dX6_merge_180 rfl 1 rfl ?_
                      refine z_iald (v := (y5.1 4) j) 181 C kI_4 (by omega) rfl dX6_merge_181 ?_
                      exact z_iret 182 C hr (zme2y (by simp [zk1, zk2, zk3, hz1, hclj, hz2, hclo, hne9, hw8]) (by rw [hclj, hclo]; exact zMP_j hA ef3 hF9 hN7) ((hN7.2.1).trans (by rw [hclj, hclo]))) dX6_merge_182
                    · refine z_aload_n 122 C dX6_merge_122 rfl 0 rfl ?_
                      refine z_getr 123 C (ref := "CountcoteModel") (T := TX6) (N := 9) (ci := 6) (q := 3) (kR_model (q := 3) (by decide) (by decide)) rfl hinX6 (by decide) rfl hw_f16 dX6_merge_123 ?_
                      refine z_bipush (v := nI 72) 126 C dX6_merge_126 rfl ?_
                      refine z_iload_n 128 C dX6_merge_128 rfl 1 rfl ?_
                      refine z_imul (v := nI (72 * j)) 129 C dX6_merge_129 (pk_mul 72 j) ?_
                      refine z_iload 130 C dX6_merge_130 4 rfl ?_
                      refine z_iadd (v := nI ((72 * j) + k)) 132 C dX6_merge_132 (nI_add (72 * j) k) ?_
                      refine z_dup2 133 C dX6_merge_133 rfl rfl ?_
                      refine z_iald (v := g5 ((72 * j) + k)) 134 C kI_5 (by omega) (by rw [xi_s]) dX6_merge_134 ?_
                      refine z_aload_n 135 C dX6_merge_135 rfl 0 rfl ?_
                      refine z_getr 136 C (ref := "CountcoteModel") (T := TX6) (N := 9) (ci := 6) (q := 3) (kR_model (q := 3) (by decide) (by decide)) rfl hinX6 (by decide) rfl hw_f16 dX6_merge_136 ?_
                      refine z_bipush (v := nI 72) 139 C dX6_merge_139 rfl ?_
                      refine z_iload_n 141 C dX6_merge_141 rfl 2 rfl ?_
                      refine z_imul (v := nI (72 * o)) 142 C dX6_merge_142 (pk_mul 72 o) ?_
                      refine z_iload 143 C dX6_merge_143 4 rfl ?_
                      refine z_iadd (v := nI ((72 * o) + k)) 145 C dX6_merge_145 (nI_add (72 * o) k) ?_
                      refine z_iald (v := g5 ((72 * o) + k)) 146 C kI_5 (by omega) (by rw [xi_s]) dX6_merge_146 ?_
                      refine z_iadd (v := (g5 ((72 * j) + k)) + (g5 ((72 * o) + k))) 147 C dX6_merge_147 rfl ?_
                      obtain ⟨f10, ef10⟩ : ∃ f9 : Nat → Int32, f9 = upd g5 ((72 * j) + k) ((g5 ((72 * j) + k)) + (g5 ((72 * o) + k))) := ⟨_, rfl⟩
                      refine z_iast (f := f10) 148 C kI_5 (by omega) (by rw [xi_s]; exact ef10.symm) dX6_merge_148 ?_
                      refine z_x (y := (xi (xi (xi x 2 f3) 3 g3) 5 f10)) (by rw [xi_xi]) ?_
                      refine z_iinc (v' := nI (k + 1)) (lv' := [(4, .int (nI (k + 1))), (0, .ref (zad g 2)), (1, .int (nI j)), (2, .int (nI o)), (3, .int (nI 1))]) 149 C dX6_merge_149 (q := 4) rfl (zn_inc k 1) (by decide) rfl ?_
                      refine z_goto 152 C 115 dX6_merge_152 (by decide) ?_
                      refine z_lv (lv' := [(0, .ref (zad g 2)), (1, .int (nI j)), (2, .int (nI o)), (3, .int (nI 1)), (4, .int (nI (k + 1)))]) [1, 2, 3, 4, 0] rfl ?_
                      exact ih115 (k + 1) f10 (by omega) (by omega) (zja_s (b2 := 72 * o) (by omega) hg5 (og5 _ (by omega)) ef10) (zfr_s og5 ef10 (by omega))
                refine z_lv (lv' := [(0, .ref (zad g 2)), (1, .int (nI j)), (2, .int (nI o)), (3, .int (nI 1)), (4, .int (nI 0))]) [1, 2, 3, 4, 0] rfl ?_
                exact J115 73 0 (x.1 5) (by omega) (by omega) (fun q _ => (if_neg (Nat.not_lt_zero q)).symm) (fun p _ => rfl)
              · refine z_aload_n 79 C dX6_merge_79 rfl 0 rfl ?_
                refine z_getr 80 C (ref := "CountcoteModel") (T := TX6) (N := 9) (ci := 6) (q := 1) (kR_model (q := 1) (by decide) (by decide)) rfl hinX6 (by decide) rfl hw_f7 dX6_merge_80 ?_
                refine z_bipush (v := nI 64) 83 C dX6_merge_83 rfl ?_
                refine z_iload_n 85 C dX6_merge_85 rfl 1 rfl ?_
                refine z_imul (v := nI (64 * j)) 86 C dX6_merge_86 (pk_mul 64 j) ?_
                refine z_iload 87 C dX6_merge_87 4 rfl ?_
                refine z_iadd (v := nI ((64 * j) + k)) 89 C dX6_merge_89 (nI_add (64 * j) k) ?_
                refine z_dup2 90 C dX6_merge_90 rfl rfl ?_
                refine z_iald (v := g3 ((64 * j) + k)) 91 C kI_3 (by omega) (by rw [xi_s]) dX6_merge_91 ?_
                refine z_aload_n 92 C dX6_merge_92 rfl 0 rfl ?_
                refine z_getr 93 C (ref := "CountcoteModel") (T := TX6) (N := 9) (ci := 6) (q := 1) (kR_model (q := 1) (by decide) (by decide)) rfl hinX6 (by decide) rfl hw_f7 dX6_merge_93 ?_
                refine z_bipush (v := nI 64) 96 C dX6_merge_96 rfl ?_
                refine z_iload_n 98 C dX6_merge_98 rfl 2 rfl ?_
                refine z_imul (v := nI (64 * o)) 99 C dX6_merge_99 (pk_mul 64 o) ?_
                refine z_iload 100 C dX6_merge_100 4 rfl ?_
                refine z_iadd (v := nI ((64 * o) + k)) 102 C dX6_merge_102 (nI_add (64 * o) k) ?_
                refine z_iald (v := g3 ((64 * o) + k)) 103 C kI_3 (by omega) (by rw [xi_s]) dX6_merge_103 ?_
                refine z_iadd (v := (g3 ((64 * j) + k)) + (g3 ((64 * o) + k))) 104 C dX6_merge_104 rfl ?_
                obtain ⟨f11, ef11⟩ : ∃ f9 : Nat → Int32, f9 = upd g3 ((64 * j) + k) ((g3 ((64 * j) + k)) + (g3 ((64 * o) + k))) := ⟨_, rfl⟩
                refine z_iast (f := f11) 105 C kI_3 (by omega) (by rw [xi_s]; exact ef11.symm) dX6_merge_105 ?_
                refine z_x (y := (xi (xi x 2 f3) 3 f11)) (by rw [xi_xi]) ?_
                refine z_iinc (v' := nI (k + 1)) (lv' := [(4, .int (nI (k + 1))), (0, .ref (zad g 2)), (1, .int (nI j)), (2, .int (nI o)), (3, .int (nI 1))]) 106 C dX6_merge_106 (q := 4) rfl (zn_inc k 1) (by decide) rfl ?_
                refine z_goto 109 C 72 dX6_merge_109 (by decide) ?_
                refine z_lv (lv' := [(0, .ref (zad g 2)), (1, .int (nI j)), (2, .int (nI o)), (3, .int (nI 1)), (4, .int (nI (k + 1)))]) [1, 2, 3, 4, 0] rfl ?_
                exact ih72 (k + 1) f11 (by omega) (by omega) (zja_s (b2 := 64 * o) (by omega) hg3 (og3 _ (by omega)) ef11) (zfr_s og3 ef11 (by omega))
          refine z_lv (lv' := [(0, .ref (zad g 2)), (1, .int (nI j)), (2, .int (nI o)), (3, .int (nI 1)), (4, .int (nI 0))]) [2, 3, 4, 1, 0] rfl ?_
          exact J72 65 0 (x.1 3) (by omega) (by omega) (fun q _ => (if_neg (Nat.not_lt_zero q)).symm) (fun p _ => rfl)
        · have hw8 : decide (ztot (S.1 j) + ztot (S.1 o) ≤ nI 1000000) = false := decide_eq_false (by rw [← hMj.2.1, ← hMo.2.1]; exact h53)
          refine z_iconst (v := nI 3) 56 C dX6_merge_56 rfl ?_
          refine z_goto 57 C 61 dX6_merge_57 (by decide) ?_
          refine z_callVi 61 C (As := [.int (nI 3)]) 1 kO_model rfl (c_X6_holds l hg x 3 (by decide)) (cwV 1 C.1.2.2.2.2 gX6_merge_X6_holds rfl rfl rfl (by decide +kernel) ⟨Nat.le_of_ble_eq_true rfl, Nat.le_of_ble_eq_true rfl⟩) rfl rfl (Nat.le_of_ble_eq_true rfl) ⟨Nat.le_of_ble_eq_true rfl, Nat.le_of_ble_eq_true rfl⟩ dX6_merge_61 (fun r u hu => ?_)
          obtain ⟨f12, ef12⟩ : ∃ f9 : Nat → Int32, f9 = upd (x.1 2) 0 (nI 3) := ⟨_, rfl⟩
          obtain ⟨hu1, hu2⟩ : u = (xi x 2 f12) ∧ r = nI 0 := ⟨by rw [hu.1, ef12], hu.2⟩
          subst u
          subst r
          refine z_if_neN 64 C 69 dX6_merge_64 (by decide) (by omega) (fun h64 => absurd h64 (by omega)) (fun h64 => ?_)
          refine z_iconst (v := nI 0) 67 C dX6_merge_67 rfl ?_
          exact z_iret 68 C hr (zme2n (by simp [zk1, zk2, zk3, hz1, hclj, hz2, hclo, hne9, hw8]) (by decide) (zMP_i hA ef12)) dX6_merge_68
      · have hne9 : decide (nI j ≠ nI o) = false := decide_eq_false (fun z => z (by rw [h31]))
        refine z_iconst (v := nI 2) 34 C dX6_merge_34 rfl ?_
        refine z_goto 35 C 61 dX6_merge_35 (by decide) ?_
        refine z_callVi 61 C (As := [.int (nI 2)]) 1 kO_model rfl (c_X6_holds l hg x 2 (by decide)) (cwV 1 C.1.2.2.2.2 gX6_merge_X6_holds rfl rfl rfl (by decide +kernel) ⟨Nat.le_of_ble_eq_true rfl, Nat.le_of_ble_eq_true rfl⟩) rfl rfl (Nat.le_of_ble_eq_true rfl) ⟨Nat.le_of_ble_eq_true rfl, Nat.le_of_ble_eq_true rfl⟩ dX6_merge_61 (fun r u hu => ?_)
        obtain ⟨f13, ef13⟩ : ∃ f9 : Nat → Int32, f9 = upd (x.1 2) 0 (nI 2) := ⟨_, rfl⟩
        obtain ⟨hu1, hu2⟩ : u = (xi x 2 f13) ∧ r = nI 0 := ⟨by rw [hu.1, ef13], hu.2⟩
        subst u
        subst r
        refine z_if_neN 64 C 69 dX6_merge_64 (by decide) (by omega) (fun h64 => absurd h64 (by omega)) (fun h64 => ?_)
        refine z_iconst (v := nI 0) 67 C dX6_merge_67 rfl ?_
        exact z_iret 68 C hr (zme2n (by simp [zk1, zk2, zk3, hz1, hclj, hz2, hclo, hne9]) (by decide) (zMP_i hA ef13)) dX6_merge_68
    · subst r
      refine z_if_eqN 11 C 18 dX6_merge_11 (by decide) (by omega) (fun h11 => ?_) (fun h11 => absurd h11 (by omega))
      refine z_iconst (v := nI 0) 18 C dX6_merge_18 rfl ?_
      refine z_istore_n (lv' := [(3, .int (nI 0)), (0, .ref (zad g 2)), (1, .int (nI j)), (2, .int p1)]) 19 C dX6_merge_19 rfl (by decide) rfl ?_
      refine z_aload_n 20 C dX6_merge_20 rfl 1 rfl ?_
      refine z_iload_n 21 C dX6_merge_21 rfl 0 rfl ?_
      refine z_if_neN 22 C 29 dX6_merge_22 (by decide) (by omega) (fun h22 => absurd h22 (by omega)) (fun h22 => ?_)
      refine z_iconst (v := nI 1) 25 C dX6_merge_25 rfl ?_
      refine z_goto 26 C 61 dX6_merge_26 (by decide) ?_
      refine z_callVi 61 C (As := [.int (nI 1)]) 1 kO_model rfl (c_X6_holds l hg x 1 (by decide)) (cwV 1 C.1.2.2.2.2 gX6_merge_X6_holds rfl rfl rfl (by decide +kernel) ⟨Nat.le_of_ble_eq_true rfl, Nat.le_of_ble_eq_true rfl⟩) rfl rfl (Nat.le_of_ble_eq_true rfl) ⟨Nat.le_of_ble_eq_true rfl, Nat.le_of_ble_eq_true rfl⟩ dX6_merge_61 (fun r u hu => ?_)
      obtain ⟨f14, ef14⟩ : ∃ f9 : Nat → Int32, f9 = upd (x.1 2) 0 (nI 1) := ⟨_, rfl⟩
      obtain ⟨hu1, hu2⟩ : u = (xi x 2 f14) ∧ r = nI 0 := ⟨by rw [hu.1, ef14], hu.2⟩
      subst u
      subst r
      refine z_if_neN 64 C 69 dX6_merge_64 (by decide) (by omega) (fun h64 => absurd h64 (by omega)) (fun h64 => ?_)
      refine z_iconst (v := nI 0) 67 C dX6_merge_67 rfl ?_
      exact z_iret 68 C hr (zme2n (by simp [zk1, zk2, zk3, hz1, hclj, hz2]) (by decide) (zMP_i hA ef14)) dX6_merge_68
  · subst r
    refine z_if_eqN 4 C 18 dX6_merge_4 (by decide) (by omega) (fun h4 => ?_) (fun h4 => absurd h4 (by omega))
    refine z_iconst (v := nI 0) 18 C dX6_merge_18 rfl ?_
    refine z_istore_n (lv' := [(3, .int (nI 0)), (0, .ref (zad g 2)), (1, .int p0), (2, .int p1)]) 19 C dX6_merge_19 rfl (by decide) rfl ?_
    refine z_aload_n 20 C dX6_merge_20 rfl 1 rfl ?_
    refine z_iload_n 21 C dX6_merge_21 rfl 0 rfl ?_
    refine z_if_neN 22 C 29 dX6_merge_22 (by decide) (by omega) (fun h22 => absurd h22 (by omega)) (fun h22 => ?_)
    refine z_iconst (v := nI 1) 25 C dX6_merge_25 rfl ?_
    refine z_goto 26 C 61 dX6_merge_26 (by decide) ?_
    refine z_callVi 61 C (As := [.int (nI 1)]) 1 kO_model rfl (c_X6_holds l hg x 1 (by decide)) (cwV 1 C.1.2.2.2.2 gX6_merge_X6_holds rfl rfl rfl (by decide +kernel) ⟨Nat.le_of_ble_eq_true rfl, Nat.le_of_ble_eq_true rfl⟩) rfl rfl (Nat.le_of_ble_eq_true rfl) ⟨Nat.le_of_ble_eq_true rfl, Nat.le_of_ble_eq_true rfl⟩ dX6_merge_61 (fun r u hu => ?_)
    obtain ⟨f15, ef15⟩ : ∃ f9 : Nat → Int32, f9 = upd (x.1 2) 0 (nI 1) := ⟨_, rfl⟩
    obtain ⟨hu1, hu2⟩ : u = (xi x 2 f15) ∧ r = nI 0 := ⟨by rw [hu.1, ef15], hu.2⟩
    subst u
    subst r
    refine z_if_neN 64 C 69 dX6_merge_64 (by decide) (by omega) (fun h64 => absurd h64 (by omega)) (fun h64 => ?_)
    refine z_iconst (v := nI 0) 67 C dX6_merge_67 rfl ?_
    exact z_iret 68 C hr (zme2n (by simp [zk1, zk2, zk3, hz1]) (by decide) (zMP_i hA ef15)) dX6_merge_68
