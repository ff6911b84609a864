/-! ===== few counters: a list of items and weights ===== -/
abbrev zCL : Type := List (Int32 × Int32)
def zL (L : zCL) (q : Nat) : Int32 × Int32 := L.getD q (0, 0)
def zFS (h fi fw : Nat → Int32) (L : zCL) (aw : Int32) : Prop := h 0 = nI L.length ∧ h 1 = aw ∧ L.length ≤ 8 ∧ ∀ q, q < L.length → fi q = (zL L q).1 ∧ fw q = (zL L q).2
theorem zL_set {L : zCL} {i q : Nat} {a : Int32 × Int32} (hi : i < L.length) : zL (L.set i a) q = if q = i then a else zL L q := by
  unfold zL
  rw [List.getD_eq_getElem?_getD, List.getElem?_set, List.getD_eq_getElem?_getD]
  by_cases h : i = q
  · subst h
    rw [if_pos rfl, if_pos hi, if_pos rfl]
    rfl
  · rw [if_neg h, if_neg (fun e => h e.symm)]
theorem zL_app_l {L M : zCL} {q : Nat} (h : q < L.length) : zL (L ++ M) q = zL L q := by
  unfold zL
  rw [List.getD_eq_getElem?_getD, List.getElem?_append_left h, List.getD_eq_getElem?_getD]
theorem zL_app_e {L : zCL} {a : Int32 × Int32} : zL (L ++ [a]) L.length = a := by
  unfold zL
  rw [List.getD_eq_getElem?_getD, List.getElem?_append_right (Nat.le_refl _), Nat.sub_self]
  rfl
theorem zL_cons0 {a : Int32 × Int32} {L : zCL} : zL (a :: L) 0 = a := rfl
theorem zL_conss {a : Int32 × Int32} {L : zCL} {q : Nat} : zL (a :: L) (q + 1) = zL L q := rfl
theorem zL_take {L : zCL} {i : Nat} (h : i < L.length) : L.take (i + 1) = L.take i ++ [zL L i] := by
  rw [List.take_succ, List.getElem?_eq_getElem h]
  unfold zL
  rw [List.getD_eq_getElem?_getD, List.getElem?_eq_getElem h]
  rfl
def zix : zCL → Int32 → Nat
  | [], _ => 0
  | a :: l, v => if a.1 = v then 0 else zix l v + 1
theorem zix_le : ∀ (L : zCL) (v : Int32), zix L v ≤ L.length
  | [], _ => Nat.le_refl _
  | a :: l, v => by
    unfold zix
    have := zix_le l v
    split
    · exact Nat.zero_le _
    · show zix l v + 1 ≤ l.length + 1
      omega
theorem zix_at : ∀ {L : zCL} {v : Int32}, zix L v < L.length → (zL L (zix L v)).1 = v
  | [], _, h => absurd h (Nat.lt_irrefl _)
  | a :: l, v, h => by
    unfold zix at h ⊢
    by_cases e : a.1 = v
    · rw [if_pos e]; exact e
    · rw [if_neg e] at h ⊢
      rw [zL_conss]
      exact zix_at (Nat.lt_of_succ_lt_succ h)
theorem zix_lt : ∀ {L : zCL} {v : Int32} {q : Nat}, q < zix L v → (zL L q).1 ≠ v
  | [], _, _, h => absurd h (Nat.not_lt_zero _)
  | a :: l, v, q, h => by
    unfold zix at h
    by_cases e : a.1 = v
    · rw [if_pos e] at h
      exact absurd h (Nat.not_lt_zero _)
    · rw [if_neg e] at h
      cases q with
      | zero => exact e
      | succ q => rw [zL_conss]; exact zix_lt (Nat.lt_of_succ_lt_succ h)
theorem zix_of {L : zCL} {v : Int32} {i : Nat} (hi : i < L.length) (h1 : (zL L i).1 = v) (h2 : ∀ q, q < i → (zL L q).1 ≠ v) : zix L v = i := by
  rcases Nat.lt_trichotomy (zix L v) i with h | h | h
  · exact absurd (zix_at (by omega)) (h2 _ h)
  · exact h
  · exact absurd h1 (zix_lt h)
theorem zix_none {L : zCL} {v : Int32} (h2 : ∀ q, q < L.length → (zL L q).1 ≠ v) : zix L v = L.length := by
  rcases Nat.lt_or_ge (zix L v) L.length with h | h
  · exact absurd (zix_at h) (h2 _ h)
  · exact Nat.le_antisymm (zix_le L v) h
def zwt (L : zCL) (v : Int32) : Int32 := if zix L v < L.length then (zL L (zix L v)).2 else 0
def zgrow (L : zCL) (v w : Int32) : zCL := if zix L v < L.length then L.set (zix L v) (v, (zL L (zix L v)).2 + w) else if L.length < 8 then L ++ [(v, w)] else L
theorem zgrow_le {L : zCL} {v w : Int32} (h : L.length ≤ 8) : (zgrow L v w).length ≤ 8 := by
  unfold zgrow
  split
  · rw [List.length_set]; exact h
  · split
    · rw [List.length_append]; show L.length + 1 ≤ 8; omega
    · exact h
theorem zFS_set {h fi fw fw' : Nat → Int32} {L : zCL} {aw v w : Int32} (hF : zFS h fi fw L aw) (hq : zix L v < L.length) (e : fw' = upd fw (zix L v) (fw (zix L v) + w)) : zFS h fi fw' (zgrow L v w) aw := by
  unfold zgrow
  rw [if_pos hq]
  obtain ⟨h1, h2, h3, h4⟩ := hF
  refine ⟨by rw [List.length_set]; exact h1, h2, by rw [List.length_set]; exact h3, fun q hq2 => ?_⟩
  rw [List.length_set] at hq2
  rw [zL_set hq, e]
  by_cases c : q = zix L v
  · subst c
    rw [if_pos rfl, pk_us, (h4 _ hq).2, (h4 _ hq).1]
    exact ⟨zix_at hq, rfl⟩
  · rw [if_neg c, pk_un c]
    exact h4 q hq2
theorem zFS_push {h h' fi fi' fw fw' : Nat → Int32} {L : zCL} {aw v w : Int32} (hF : zFS h fi fw L aw) (hq : zix L v = L.length) (h8 : L.length < 8) (e1 : fi' = upd fi L.length v) (e2 : fw' = upd fw L.length w) (e3 : h' = upd h 0 (nI (L.length + 1))) : zFS h' fi' fw' (zgrow L v w) aw := by
  unfold zgrow
  rw [if_neg (by omega), if_pos h8]
  obtain ⟨h1, h2, h3, h4⟩ := hF
  refine ⟨by rw [List.length_append, e3, pk_us]; rfl, by rw [e3, pk_un (by decide)]; exact h2, by rw [List.length_append]; show L.length + 1 ≤ 8; omega, fun q hq2 => ?_⟩
  rw [List.length_append] at hq2
  have hq3 : q < L.length + 1 := hq2
  rw [e1, e2]
  by_cases c : q = L.length
  · subst c
    rw [zL_app_e, pk_us, pk_us]
    exact ⟨rfl, rfl⟩
  · rw [zL_app_l (by omega), pk_un c, pk_un c]
    exact h4 q (by omega)
theorem zFS_full {h fi fw : Nat → Int32} {L : zCL} {aw v w : Int32} (hF : zFS h fi fw L aw) (hq : zix L v = L.length) (h8 : 8 ≤ L.length) : zFS h fi fw (zgrow L v w) aw := by
  unfold zgrow
  rw [if_neg (by omega), if_neg (by omega)]
  exact hF
def ztk (L : zCL) (a : Int32) : zCL := L.filterMap (fun q => if 0 < q.2 - a then some (q.1, q.2 - a) else none)
theorem ztk_app (L : zCL) (b : Int32 × Int32) (a : Int32) : ztk (L ++ [b]) a = ztk L a ++ (if 0 < b.2 - a then [(b.1, b.2 - a)] else []) := by
  unfold ztk
  rw [List.filterMap_append]
  congr 1
  by_cases h : 0 < b.2 - a
  · rw [if_pos h]; simp [h]
  · rw [if_neg h]; simp [h]
theorem ztk_len (L : zCL) (a : Int32) : (ztk L a).length ≤ L.length := List.length_filterMap_le _ _
/-- on the way through the row, i counters looked at, k of them kept -/
def zTK (L : zCL) (a : Int32) (i k : Nat) (fi fw : Nat → Int32) : Prop := k = (ztk (L.take i) a).length ∧ k ≤ i ∧ (∀ q, q < k → fi q = (zL (ztk (L.take i) a) q).1 ∧ fw q = (zL (ztk (L.take i) a) q).2) ∧ ∀ q, i ≤ q → q < L.length → fi q = (zL L q).1 ∧ fw q = (zL L q).2
theorem zTK_0 {L : zCL} {a aw : Int32} {h fi fw : Nat → Int32} (hF : zFS h fi fw L aw) : zTK L a 0 0 fi fw := ⟨rfl, Nat.le_refl _, fun q hq => absurd hq (Nat.not_lt_zero q), fun q _ h2 => hF.2.2.2 q h2⟩
theorem zTK_y {L : zCL} {a : Int32} {i k : Nat} {fi fw fi' fw' : Nat → Int32} (h : zTK L a i k fi fw) (hi : i < L.length) (hp : 0 < fw i - a) (e1 : fi' = upd fi k (fi i)) (e2 : fw' = upd fw k (fw i - a)) : zTK L a (i + 1) (k + 1) fi' fw' := by
  obtain ⟨h1, h2, h3, h4⟩ := h
  have h5 := h4 i (Nat.le_refl _) hi
  have e : ztk (L.take (i + 1)) a = ztk (L.take i) a ++ [((zL L i).1, (zL L i).2 - a)] := by
    rw [zL_take hi, ztk_app, if_pos (by rw [← h5.2]; exact hp)]
  refine ⟨by rw [e, List.length_append, ← h1]; rfl, by omega, fun q hq => ?_, fun q hq hq2 => ?_⟩
  · rw [e, e1, e2]
    by_cases c : q = k
    · subst c
      rw [pk_us, pk_us, h1, zL_app_e, h5.1, h5.2]
      exact ⟨rfl, rfl⟩
    · rw [pk_un c, pk_un c, zL_app_l (by omega)]
      exact h3 q (by omega)
  · rw [e1, e2, pk_un (by omega), pk_un (by omega)]
    exact h4 q (by omega) hq2
theorem zTK_n {L : zCL} {a : Int32} {i k : Nat} {fi fw : Nat → Int32} (h : zTK L a i k fi fw) (hi : i < L.length) (hp : ¬ 0 < fw i - a) : zTK L a (i + 1) k fi fw := by
  obtain ⟨h1, h2, h3, h4⟩ := h
  have h5 := h4 i (Nat.le_refl _) hi
  have e : ztk (L.take (i + 1)) a = ztk (L.take i) a := by
    rw [zL_take hi, ztk_app, if_neg (by rw [← h5.2]; exact hp), List.append_nil]
  refine ⟨by rw [e]; exact h1, by omega, fun q hq => by rw [e]; exact h3 q hq, fun q hq hq2 => h4 q (by omega) hq2⟩
theorem zTK_e {L : zCL} {a aw : Int32} {k : Nat} {h h' fi fw : Nat → Int32} (hT : zTK L a L.length k fi fw) (h8 : L.length ≤ 8) (e : h' 0 = nI k) (e2 : h' 1 = aw) : zFS h' fi fw (ztk L a) aw := by
  obtain ⟨h1, h2, h3, h4⟩ := hT
  rw [List.take_length] at h1 h3
  exact ⟨by rw [e, h1], e2, by omega, fun q hq => h3 q (by omega)⟩
def zmn (f : Nat → Int32) : Nat → Int32
  | 0 => f 0
  | n + 1 => zmin (zmn f n) (f (n + 1))
def zcr (f : Nat → Int32) (w : Int32) : Nat → Nat
  | 0 => 0
  | n + 1 => zcr f w n + if w ≤ f n then 1 else 0
def zwr (f : Nat → Int32) (m n : Nat) : Nat → Int32
  | 0 => 0
  | k + 1 => if zwr f m n k < f k ∧ m ≤ zcr f (f k) n then f k else zwr f m n k
theorem zcr_le (f : Nat → Int32) (w : Int32) : ∀ n, zcr f w n ≤ n
  | 0 => Nat.le_refl _
  | n + 1 => by
    have := zcr_le f w n
    show zcr f w n + (if w ≤ f n then 1 else 0) ≤ n + 1
    split <;> omega
def zLw (L : zCL) (q : Nat) : Int32 := (zL L q).2
theorem zmn_congr {f g : Nat → Int32} : ∀ {n : Nat}, (∀ q, q < n + 1 → f q = g q) → zmn f n = zmn g n
  | 0, h => h 0 (by omega)
  | n + 1, h => by
    show zmin (zmn f n) (f (n + 1)) = zmin (zmn g n) (g (n + 1))
    rw [zmn_congr (n := n) (fun q hq => h q (by omega)), h (n + 1) (by omega)]
theorem zcr_congr {f g : Nat → Int32} {w : Int32} : ∀ {n : Nat}, (∀ q, q < n → f q = g q) → zcr f w n = zcr g w n
  | 0, _ => rfl
  | n + 1, h => by
    show zcr f w n + (if w ≤ f n then 1 else 0) = zcr g w n + (if w ≤ g n then 1 else 0)
    rw [zcr_congr (n := n) (fun q hq => h q (by omega)), h n (by omega)]
theorem zwr_congr {f g : Nat → Int32} {m n : Nat} (h : ∀ q, q < n → f q = g q) : ∀ {k : Nat}, k ≤ n → zwr f m n k = zwr g m n k
  | 0, _ => rfl
  | k + 1, hk => by
    show (if zwr f m n k < f k ∧ m ≤ zcr f (f k) n then f k else zwr f m n k) = (if zwr g m n k < g k ∧ m ≤ zcr g (g k) n then g k else zwr g m n k)
    rw [zwr_congr h (k := k) (by omega), h k (by omega), zcr_congr h]
/-- what the counters are behind an item that is added -/
def zadd (L : zCL) (v w : Int32) : zCL := if zix L v < L.length ∨ L.length < 4 then zgrow L v w else (if zmin w (zmn (zLw L) (L.length - 1)) < w then zgrow (ztk L (zmin w (zmn (zLw L) (L.length - 1)))) v (w - zmin w (zmn (zLw L) (L.length - 1))) else ztk L (zmin w (zmn (zLw L) (L.length - 1))))
def zaddw (L : zCL) (v w : Int32) : Int32 := if zix L v < L.length ∨ L.length < 4 then 0 else zmin w (zmn (zLw L) (L.length - 1))
def zjn (L M : zCL) : zCL := M.foldl (fun l q => zgrow l q.1 q.2) L
def zmrg (L M : zCL) : zCL := if 4 < (zjn L M).length then ztk (zjn L M) (zwr (zLw (zjn L M)) 5 (zjn L M).length (zjn L M).length) else zjn L M
def zmrgw (L M : zCL) : Int32 := if 4 < (zjn L M).length then zwr (zLw (zjn L M)) 5 (zjn L M).length (zjn L M).length else 0
theorem zjn_s {L M : zCL} {i : Nat} (h : i < M.length) : zjn L (M.take (i + 1)) = zgrow (zjn L (M.take i)) (zL M i).1 (zL M i).2 := by
  rw [zL_take h]
  unfold zjn
  rw [List.foldl_append]
  rfl
theorem zjn_le {L : zCL} (h : L.length ≤ 8) : ∀ M : zCL, (zjn L M).length ≤ 8 := by
  intro M
  induction M generalizing L with
  | nil => exact h
  | cons a l ih => exact ih (zgrow_le h)
theorem zF3 (x : zT) {a b c : Nat} (hab : a ≠ b) (hac : a ≠ c) (hbc : b ≠ c) (h0 i0 w0 h i w : Nat → Int32) : xi (xi (xi (xi (xi (xi x a h0) b i0) c w0) a h) b i) c w = xi (xi (xi x a h) b i) c w := by
  rw [xi_comm _ (Ne.symm hac), xi_comm _ (Ne.symm hab), xi_xi, xi_comm _ (Ne.symm hbc), xi_xi, xi_xi]
theorem zps {L : zCL} {v : Int32} {i : Nat} (hp : ∀ q, q < i → (zL L q).1 ≠ v) (h : (zL L i).1 ≠ v) : ∀ q, q < i + 1 → (zL L q).1 ≠ v := fun q hq => by
  by_cases c : q = i
  · subst c; exact h
  · exact hp q (by omega)
set_option maxHeartbeats 4000000 in
set_option maxRecDepth 100000 in
/-- X1_placeOf -/
theorem c_X1_placeOf (l : Launch) {g : zG} (hg : zOk g) (x : zT) (j : Nat) (hj : j < 4) (L : zCL) (aw : Int32) (hL : zFS (x.1 (zp j 13)) (x.1 (zp j 14)) (x.1 (zp j 15)) L aw) (v : Int32) : Met l yX1_placeOf wsX1_placeOf ({ frames := 0, cells := 0, slots := 0, locals := 0 }) (va_Pc [.ref (zad g (zp j 13)), .int v] (zPre g x)) (va_Qi (fun (r : Int32) (u : zT) => u = x ∧ ((zix L v < L.length ∧ r = nI (zix L v)) ∨ (zix L v = L.length ∧ r = (-1)))) (zB g) (zA g)) 0 0 (zA g) := by
  refine z_met (cc := cX1_placeOf) (nL := 3) (ret := (some .int)) hg (by decide) rfl (Nat.le_of_ble_eq_true rfl) ?_
  intro p_ e_ s_ m_ args_ below_ meth_ c_ C hr
  show Z p_ l e_ _ s_ m_ args_ below_ meth_ c_ g 3 0 0 _ x 0 [(0, .ref (zad g (zp j 13))), (1, .int v)] []
  have hw_f22 := C.1.2.2.2.2 (.fieldLink RX1 22 "Countcote$FewCounters" "used" "I") (by decide +kernel)
  have hinX1 : ∀ w ∈ wsX10, w ∈ wsX1_placeOf := by decide +kernel
  have hw_f11 := C.1.2.2.2.2 (.fieldLink RX1 11 "Countcote$FewCounters" "items" "[I") (by decide +kernel)
  have h8 := hL.2.2.1
  refine z_iconst (v := nI 0) 0 C dX1_placeOf_0 rfl ?_
  refine z_istore_n (lv' := [(2, .int (nI 0)), (0, .ref (zad g (zp j 13))), (1, .int v)]) 1 C dX1_placeOf_1 rfl (by decide) rfl ?_
  have J2 : ∀ (n2 : Nat) (i : Nat), (i ≤ L.length) → (L.length < i + n2) → (∀ q, q < i → (zL L q).1 ≠ v) → Z p_ l e_ (headSpec wsX1_placeOf ({ frames := 0, cells := 0, slots := 0, locals := 0 })).room s_ m_ args_ below_ meth_ c_ g 3 0 0 (MQ below_ (va_Qi (fun (r : Int32) (u : zT) => u = x ∧ ((zix L v < L.length ∧ r = nI (zix L v)) ∨ (zix L v = L.length ∧ r = (-1)))) (zB g) (zA g)) args_ s_ 0 0 (zA g)) x 2 [(0, .ref (zad g (zp j 13))), (1, .int v), (2, .int (nI i))] [] := by
    intro n2
    induction n2 with
    | zero => intro i hi hn hp; exact absurd hn (by omega)
    | succ n2 ih2 =>
      intro i hi hn hp
      refine z_iload_n 2 C dX1_placeOf_2 rfl 2 rfl ?_
      refine z_aload_n 3 C dX1_placeOf_3 rfl 0 rfl ?_
      refine z_geti (v := nI L.length) 4 C (ref := "Countcote$FewCounters") (T := TX1) (N := 4) (ci := 1) (q := 2) (kF_used hj) rfl hinX1 (by decide) rfl hw_f22 (by rw [(hL.1)]) dX1_placeOf_4 ?_
      refine z_icmp_geN 7 C 28 dX1_placeOf_7 (by decide) (by omega) (by omega) (fun h7 => ?_) (fun h7 => ?_)
      · refine z_iconst (v := (-1)) 28 C dX1_placeOf_28 rfl ?_
        exact z_iret 29 C hr ⟨rfl, Or.inr ⟨zix_none (fun q hq => hp q (by omega)), rfl⟩⟩ dX1_placeOf_29
      · refine z_aload_n 10 C dX1_placeOf_10 rfl 0 rfl ?_
        refine z_getr 11 C (ref := "Countcote$FewCounters") (T := TX1) (N := 4) (ci := 1) (q := 0) (kR_items hj) rfl hinX1 (by decide) rfl hw_f11 dX1_placeOf_11 ?_
        refine z_iload_n 14 C dX1_placeOf_14 rfl 2 rfl ?_
        refine z_iald (v := (x.1 (zp j 14)) i) 15 C (kI_items hj) (by omega) rfl dX1_placeOf_15 ?_
        refine z_iload_n 16 C dX1_placeOf_16 rfl 1 rfl ?_
        refine z_icmp_ne 17 C 22 dX1_placeOf_17 (by decide) (fun h17 => ?_) (fun h17 => ?_)
        · refine z_iinc (v' := nI (i + 1)) (lv' := [(2, .int (nI (i + 1))), (0, .ref (zad g (zp j 13))), (1, .int v)]) 22 C dX1_placeOf_22 (q := 2) rfl (zn_inc i 1) (by decide) rfl ?_
          refine z_goto 25 C 2 dX1_placeOf_25 (by decide) ?_
          refine z_lv (lv' := [(0, .ref (zad g (zp j 13))), (1, .int v), (2, .int (nI (i + 1)))]) [1, 2, 0] rfl ?_
          exact ih2 (i + 1) (by omega) (by omega) (zps hp (by rw [← (hL.2.2.2 i h7).1]; exact h17))
        · refine z_iload_n 20 C dX1_placeOf_20 rfl 2 rfl ?_
          exact z_iret 21 C hr ⟨rfl, Or.inl (by rw [zix_of h7 ((hL.2.2.2 i h7).1.symm.trans h17) hp]; exact ⟨h7, rfl⟩)⟩ dX1_placeOf_21
  refine z_lv (lv' := [(0, .ref (zad g (zp j 13))), (1, .int v), (2, .int (nI 0))]) [1, 2, 0] rfl ?_
  exact J2 (L.length + 1) 0 (Nat.zero_le _) (by omega) (fun q h => absurd h (Nat.not_lt_zero q))
set_option maxHeartbeats 4000000 in
set_option maxRecDepth 100000 in
/-- X1_weightOf -/
theorem c_X1_weightOf (l : Launch) {g : zG} (hg : zOk g) (x : zT) (j : Nat) (hj : j < 4) (L : zCL) (aw : Int32) (hL : zFS (x.1 (zp j 13)) (x.1 (zp j 14)) (x.1 (zp j 15)) L aw) (v : Int32) : Met l yX1_weightOf wsX1_weightOf ({ frames := 1, cells := 0, slots := 0, locals := 22 }) (va_Pc [.ref (zad g (zp j 13)), .int v] (zPre g x)) (va_Qi (fun (r : Int32) (u : zT) => u = x ∧ r = zwt L v) (zB g) (zA g)) 0 0 (zA g) := by
  refine z_met (cc := cX1_weightOf) (nL := 3) (ret := (some .int)) hg (by decide) rfl (Nat.le_of_ble_eq_true rfl) ?_
  intro p_ e_ s_ m_ args_ below_ meth_ c_ C hr
  show Z p_ l e_ _ s_ m_ args_ below_ meth_ c_ g 3 0 0 _ x 0 [(0, .ref (zad g (zp j 13))), (1, .int v)] []
  have hw_f15 := C.1.2.2.2.2 (.fieldLink RX1 15 "Countcote$FewCounters" "weights" "[I") (by decide +kernel)
  have hinX1 : ∀ w ∈ wsX10, w ∈ wsX1_weightOf := by decide +kernel
  have h8 := hL.2.2.1
  refine z_aload_n 0 C dX1_weightOf_0 rfl 0 rfl ?_
  refine z_iload_n 1 C dX1_weightOf_1 rfl 1 rfl ?_
  refine z_callVi 2 C (As := [.int v]) 1 (kO_few hj) rfl (c_X1_placeOf l hg x j hj L aw hL v) (cwV 1 C.1.2.2.2.2 gX1_weightOf_X1_placeOf rfl rfl rfl (by decide +kernel) ⟨Nat.le_of_ble_eq_true rfl, Nat.le_of_ble_eq_true rfl⟩) rfl rfl (Nat.le_of_ble_eq_true rfl) ⟨Nat.le_of_ble_eq_true rfl, Nat.le_of_ble_eq_true rfl⟩ dX1_weightOf_2 (fun r u hu => ?_)
  obtain ⟨hu1, hu2⟩ := hu
  subst u
  rcases hu2 with ⟨hq, hr9⟩ | ⟨hq, hr9⟩
  · subst r
    refine z_istore_n (lv' := [(2, .int (nI (zix L v))), (0, .ref (zad g (zp j 13))), (1, .int v)]) 5 C dX1_weightOf_5 rfl (by decide) rfl ?_
    refine z_iload_n 6 C dX1_weightOf_6 rfl 0 rfl ?_
    refine z_iconst (v := (-1)) 7 C dX1_weightOf_7 rfl ?_
    refine z_icmp_ne 8 C 15 dX1_weightOf_8 (by decide) (fun h8 => ?_) (fun h8 => absurd h8 (zn_m1 (zix L v) (by omega)))
    refine z_aload_n 15 C dX1_weightOf_15 rfl 1 rfl ?_
    refine z_getr 16 C (ref := "Countcote$FewCounters") (T := TX1) (N := 4) (ci := 1) (q := 1) (kR_wts hj) rfl hinX1 (by decide) rfl hw_f15 dX1_weightOf_16 ?_
    refine z_iload_n 19 C dX1_weightOf_19 rfl 0 rfl ?_
    refine z_iald (v := (x.1 (zp j 15)) (zix L v)) 20 C (kI_wts hj) (by omega) rfl dX1_weightOf_20 ?_
    exact z_iret 21 C hr ⟨rfl, by unfold zwt; rw [if_pos hq]; exact (hL.2.2.2 _ hq).2⟩ dX1_weightOf_21
  · subst r
    refine z_istore_n (lv' := [(2, .int (-1)), (0, .ref (zad g (zp j 13))), (1, .int v)]) 5 C dX1_weightOf_5 rfl (by decide) rfl ?_
    refine z_iload_n 6 C dX1_weightOf_6 rfl 0 rfl ?_
    refine z_iconst (v := (-1)) 7 C dX1_weightOf_7 rfl ?_
    refine z_icmp_ne 8 C 15 dX1_weightOf_8 (by decide) (fun h8 => absurd rfl h8) (fun h8 => ?_)
    refine z_iconst (v := nI 0) 11 C dX1_weightOf_11 rfl ?_
    refine z_goto 12 C 21 dX1_weightOf_12 (by decide) ?_
    exact z_iret 21 C hr ⟨rfl, (if_neg (by omega)).symm⟩ dX1_weightOf_21
set_option maxHeartbeats 4000000 in
set_option maxRecDepth 100000 in
/-- X1_grow -/
theorem c_X1_grow (l : Launch) {g : zG} (hg : zOk g) (x : zT) (j : Nat) (hj : j < 4) (L : zCL) (aw : Int32) (hL : zFS (x.1 (zp j 13)) (x.1 (zp j 14)) (x.1 (zp j 15)) L aw) (v w : Int32) : Met l yX1_grow wsX1_grow ({ frames := 1, cells := 0, slots := 0, locals := 22 }) (va_Pc [.ref (zad g (zp j 13)), .int v, .int w] (zPre g x)) (va_Qv (fun (u : zT) => ∃ h fi fw : Nat → Int32, u = xi (xi (xi x (zp j 13) h) (zp j 14) fi) (zp j 15) fw ∧ zFS h fi fw (zgrow L v w) (aw)) (zB g) (zA g)) 0 0 (zA g) := by
  refine z_met (cc := cX1_grow) (nL := 4) (ret := none) hg (by decide) rfl (Nat.le_of_ble_eq_true rfl) ?_
  intro p_ e_ s_ m_ args_ below_ meth_ c_ C hr
  show Z p_ l e_ _ s_ m_ args_ below_ meth_ c_ g 4 0 0 _ x 0 [(0, .ref (zad g (zp j 13))), (1, .int v), (2, .int w)] []
  have hw_f15 := C.1.2.2.2.2 (.fieldLink RX1 15 "Countcote$FewCounters" "weights" "[I") (by decide +kernel)
  have hinX1 : ∀ w ∈ wsX10, w ∈ wsX1_grow := by decide +kernel
  have hw_f22 := C.1.2.2.2.2 (.fieldLink RX1 22 "Countcote$FewCounters" "used" "I") (by decide +kernel)
  have hw_f11 := C.1.2.2.2.2 (.fieldLink RX1 11 "Countcote$FewCounters" "items" "[I") (by decide +kernel)
  have h8 := hL.2.2.1
  refine z_x (y := (xi x (zp j 13) (x.1 (zp j 13)))) (xi_idf rfl) ?_
  refine z_x (y := (xi (xi x (zp j 13) (x.1 (zp j 13))) (zp j 14) (x.1 (zp j 14)))) (xi_idf (by rw [xi_n _ (by unfold zp; omega)])) ?_
  refine z_x (y := (xi (xi (xi x (zp j 13) (x.1 (zp j 13))) (zp j 14) (x.1 (zp j 14))) (zp j 15) (x.1 (zp j 15)))) (xi_idf (by rw [xi_n _ (by unfold zp; omega), xi_n _ (by unfold zp; omega)])) ?_
  refine z_aload_n 0 C dX1_grow_0 rfl 0 rfl ?_
  refine z_iload_n 1 C dX1_grow_1 rfl 1 rfl ?_
  have q1 : (xi (xi (xi x (zp j 13) (x.1 (zp j 13))) (zp j 14) (x.1 (zp j 14))) (zp j 15) (x.1 (zp j 15))).1 (zp j 13) = x.1 (zp j 13) := by rw [xi_n _ (by unfold zp; omega), xi_n _ (by unfold zp; omega), xi_s]
  have q2 : (xi (xi (xi x (zp j 13) (x.1 (zp j 13))) (zp j 14) (x.1 (zp j 14))) (zp j 15) (x.1 (zp j 15))).1 (zp j 14) = x.1 (zp j 14) := by rw [xi_n _ (by unfold zp; omega), xi_s]
  have q3 : (xi (xi (xi x (zp j 13) (x.1 (zp j 13))) (zp j 14) (x.1 (zp j 14))) (zp j 15) (x.1 (zp j 15))).1 (zp j 15) = x.1 (zp j 15) := by rw [xi_s]
  refine z_callVi 2 C (As := [.int v]) 1 (kO_few hj) rfl (c_X1_placeOf l hg (xi (xi (xi x (zp j 13) (x.1 (zp j 13))) (zp j 14) (x.1 (zp j 14))) (zp j 15) (x.1 (zp j 15))) j hj L aw (by rw [q1, q2, q3]; exact hL) v) (cwV 1 C.1.2.2.2.2 gX1_grow_X1_placeOf rfl rfl rfl (by decide +kernel) ⟨Nat.le_of_ble_eq_true rfl, Nat.le_of_ble_eq_true rfl⟩) rfl rfl (Nat.le_of_ble_eq_true rfl) ⟨Nat.le_of_ble_eq_true rfl, Nat.le_of_ble_eq_true rfl⟩ dX1_grow_2 (fun r u hu => ?_)
  obtain ⟨hu1, hu2⟩ := hu
  subst u
  rcases hu2 with ⟨hq, hr9⟩ | ⟨hq, hr9⟩
  · subst r
    refine z_istore_n (lv' := [(3, .int (nI (zix L v))), (0, .ref (zad g (zp j 13))), (1, .int v), (2, .int w)]) 5 C dX1_grow_5 rfl (by decide) rfl ?_
    refine z_iload_n 6 C dX1_grow_6 rfl 0 rfl ?_
    refine z_iconst (v := (-1)) 7 C dX1_grow_7 rfl ?_
    refine z_icmp_eq 8 C 24 dX1_grow_8 (by decide) (fun h8 => absurd h8 (zn_m1 (zix L v) (by omega))) (fun h8 => ?_)
    refine z_aload_n 11 C dX1_grow_11 rfl 1 rfl ?_
    refine z_getr 12 C (ref := "Countcote$FewCounters") (T := TX1) (N := 4) (ci := 1) (q := 1) (kR_wts hj) rfl hinX1 (by decide) rfl hw_f15 dX1_grow_12 ?_
    refine z_iload_n 15 C dX1_grow_15 rfl 0 rfl ?_
    refine z_dup2 16 C dX1_grow_16 rfl rfl ?_
    refine z_iald (v := (x.1 (zp j 15)) (zix L v)) 17 C (kI_wts hj) (by omega) (by rw [xi_s]) dX1_grow_17 ?_
    refine z_iload_n 18 C dX1_grow_18 rfl 3 rfl ?_
    refine z_iadd (v := ((x.1 (zp j 15)) (zix L v)) + w) 19 C dX1_grow_19 rfl ?_
    obtain ⟨f4, ef4⟩ : ∃ f9 : Nat → Int32, f9 = upd (x.1 (zp j 15)) (zix L v) (((x.1 (zp j 15)) (zix L v)) + w) := ⟨_, rfl⟩
    refine z_iast (f := f4) 20 C (kI_wts hj) (by omega) (by rw [xi_s]; exact ef4.symm) dX1_grow_20 ?_
    refine z_x (y := (xi (xi (xi x (zp j 13) (x.1 (zp j 13))) (zp j 14) (x.1 (zp j 14))) (zp j 15) f4)) (by rw [xi_xi]) ?_
    refine z_goto 21 C 66 dX1_grow_21 (by decide) ?_
    exact z_vret 66 C hr ⟨x.1 (zp j 13), x.1 (zp j 14), f4, rfl, zFS_set hL hq ef4⟩ dX1_grow_66
  · subst r
    refine z_istore_n (lv' := [(3, .int (-1)), (0, .ref (zad g (zp j 13))), (1, .int v), (2, .int w)]) 5 C dX1_grow_5 rfl (by decide) rfl ?_
    refine z_iload_n 6 C dX1_grow_6 rfl 0 rfl ?_
    refine z_iconst (v := (-1)) 7 C dX1_grow_7 rfl ?_
    refine z_icmp_eq 8 C 24 dX1_grow_8 (by decide) (fun h8 => ?_) (fun h8 => absurd rfl h8)
    refine z_aload_n 24 C dX1_grow_24 rfl 1 rfl ?_
    refine z_geti (v := nI L.length) 25 C (ref := "Countcote$FewCounters") (T := TX1) (N := 4) (ci := 1) (q := 2) (kF_used hj) rfl hinX1 (by decide) rfl hw_f22 (by rw [xi_n _ (by unfold zp; omega), xi_n _ (by unfold zp; omega), xi_s, (hL.1)]) dX1_grow_25 ?_
    refine z_aload_n 28 C dX1_grow_28 rfl 1 rfl ?_
    refine z_getr 29 C (ref := "Countcote$FewCounters") (T := TX1) (N := 4) (ci := 1) (q := 0) (kR_items hj) rfl hinX1 (by decide) rfl hw_f11 dX1_grow_29 ?_
    refine z_ialen 32 C (kI_items hj) dX1_grow_32 ?_
    refine z_icmp_geN 33 C 66 dX1_grow_33 (by decide) (by omega) (by omega) (fun h33 => ?_) (fun h33 => ?_)
    · exact z_vret 66 C hr ⟨x.1 (zp j 13), x.1 (zp j 14), x.1 (zp j 15), rfl, zFS_full hL hq (by omega)⟩ dX1_grow_66
    · refine z_aload_n 36 C dX1_grow_36 rfl 1 rfl ?_
      refine z_getr 37 C (ref := "Countcote$FewCounters") (T := TX1) (N := 4) (ci := 1) (q := 0) (kR_items hj) rfl hinX1 (by decide) rfl hw_f11 dX1_grow_37 ?_
      refine z_aload_n 40 C dX1_grow_40 rfl 1 rfl ?_
      refine z_geti (v := nI L.length) 41 C (ref := "Countcote$FewCounters") (T := TX1) (N := 4) (ci := 1) (q := 2) (kF_used hj) rfl hinX1 (by decide) rfl hw_f22 (by rw [xi_n _ (by unfold zp; omega), xi_n _ (by unfold zp; omega), xi_s, (hL.1)]) dX1_grow_41 ?_
      refine z_iload_n 44 C dX1_grow_44 rfl 2 rfl ?_
      obtain ⟨f5, ef5⟩ : ∃ f9 : Nat → Int32, f9 = upd (x.1 (zp j 14)) L.length v := ⟨_, rfl⟩
      refine z_iast (f := f5) 45 C (kI_items hj) (by omega) (by rw [xi_n _ (by unfold zp; omega), xi_s]; exact ef5.symm) dX1_grow_45 ?_
      refine z_x (y := (xi (xi (xi x (zp j 13) (x.1 (zp j 13))) (zp j 14) f5) (zp j 15) (x.1 (zp j 15)))) (by rw [xi_comm (k := zp j 15) (k' := zp j 14) _ (by unfold zp; omega), xi_xi]) ?_
      refine z_aload_n 46 C dX1_grow_46 rfl 1 rfl ?_
      refine z_getr 47 C (ref := "Countcote$FewCounters") (T := TX1) (N := 4) (ci := 1) (q := 1) (kR_wts hj) rfl hinX1 (by decide) rfl hw_f15 dX1_grow_47 ?_
      refine z_aload_n 50 C dX1_grow_50 rfl 1 rfl ?_
      refine z_geti (v := nI L.length) 51 C (ref := "Countcote$FewCounters") (T := TX1) (N := 4) (ci := 1) (q := 2) (kF_used hj) rfl hinX1 (by decide) rfl hw_f22 (by rw [xi_n _ (by unfold zp; omega), xi_n _ (by unfold zp; omega), xi_s, (hL.1)]) dX1_grow_51 ?_
      refine z_iload_n 54 C dX1_grow_54 rfl 3 rfl ?_
      obtain ⟨f6, ef6⟩ : ∃ f9 : Nat → Int32, f9 = upd (x.1 (zp j 15)) L.length w := ⟨_, rfl⟩
      refine z_iast (f := f6) 55 C (kI_wts hj) (by omega) (by rw [xi_s]; exact ef6.symm) dX1_grow_55 ?_
      refine z_x (y := (xi (xi (xi x (zp j 13) (x.1 (zp j 13))) (zp j 14) f5) (zp j 15) f6)) (by rw [xi_xi]) ?_
      refine z_aload_n 56 C dX1_grow_56 rfl 1 rfl ?_
      refine z_dup 57 C dX1_grow_57 rfl ?_
      refine z_geti (v := nI L.length) 58 C (ref := "Countcote$FewCounters") (T := TX1) (N := 4) (ci := 1) (q := 2) (kF_used hj) rfl hinX1 (by decide) rfl hw_f22 (by rw [xi_n _ (by unfold zp; omega), xi_n _ (by unfold zp; omega), xi_s, (hL.1)]) dX1_grow_58 ?_
      refine z_iconst (v := nI 1) 61 C dX1_grow_61 rfl ?_
      refine z_iadd (v := nI (L.length + 1)) 62 C dX1_grow_62 (nI_add L.length 1) ?_
      obtain ⟨f7, ef7⟩ : ∃ f9 : Nat → Int32, f9 = upd (x.1 (zp j 13)) 0 (nI (L.length + 1)) := ⟨_, rfl⟩
      refine z_puti 63 C (ref := "Countcote$FewCounters") (T := TX1) (N := 4) (ci := 1) (q := 2) (f := f7) (kF_used hj) rfl hinX1 tyX1 tyX1_ok nmX1 (by decide) rfl hw_f22 rfl (by decide +kernel) (by rw [xi_n _ (by unfold zp; omega), xi_n _ (by unfold zp; omega), xi_s]; exact ef7.symm) dX1_grow_63 ?_
      refine z_x (y := (xi (xi (xi x (zp j 13) f7) (zp j 14) f5) (zp j 15) f6)) (by rw [xi_comm (k := zp j 15) (k' := zp j 13) _ (by unfold zp; omega), xi_comm (k := zp j 14) (k' := zp j 13) _ (by unfold zp; omega), xi_xi]) ?_
      exact z_vret 66 C hr ⟨f7, f5, f6, rfl, zFS_push hL hq (by omega) ef5 ef6 ef7⟩ dX1_grow_66
theorem zn_pos {a : Int32} (h : ¬ (a ≤ 0)) : 0 < a := Int32.not_le.mp h
theorem zn_npos {a : Int32} (h1 : 0 < a) (h2 : a ≤ 0) : False := Int32.not_le.mpr h1 h2
set_option maxHeartbeats 4000000 in
set_option maxRecDepth 100000 in
/-- X1_takeAway -/
theorem c_X1_takeAway (l : Launch) {g : zG} (hg : zOk g) (x : zT) (j : Nat) (hj : j < 4) (L : zCL) (aw : Int32) (hL : zFS (x.1 (zp j 13)) (x.1 (zp j 14)) (x.1 (zp j 15)) L aw) (a : Int32) : Met l yX1_takeAway wsX1_takeAway ({ frames := 0, cells := 0, slots := 0, locals := 0 }) (va_Pc [.ref (zad g (zp j 13)), .int a] (zPre g x)) (va_Qv (fun (u : zT) => ∃ h fi fw : Nat → Int32, u = xi (xi (xi x (zp j 13) h) (zp j 14) fi) (zp j 15) fw ∧ zFS h fi fw (ztk L a) (aw + a)) (zB g) (zA g)) 0 0 (zA g) := by
  refine z_met (cc := cX1_takeAway) (nL := 5) (ret := none) hg (by decide) rfl (Nat.le_of_ble_eq_true rfl) ?_
  intro p_ e_ s_ m_ args_ below_ meth_ c_ C hr
  show Z p_ l e_ _ s_ m_ args_ below_ meth_ c_ g 5 0 0 _ x 0 [(0, .ref (zad g (zp j 13))), (1, .int a)] []
  have hw_f22 := C.1.2.2.2.2 (.fieldLink RX1 22 "Countcote$FewCounters" "used" "I") (by decide +kernel)
  have hinX1 : ∀ w ∈ wsX10, w ∈ wsX1_takeAway := by decide +kernel
  have hw_f44 := C.1.2.2.2.2 (.fieldLink RX1 44 "Countcote$FewCounters" "away" "I") (by decide +kernel)
  have hw_f15 := C.1.2.2.2.2 (.fieldLink RX1 15 "Countcote$FewCounters" "weights" "[I") (by decide +kernel)
  have hw_f11 := C.1.2.2.2.2 (.fieldLink RX1 11 "Countcote$FewCounters" "items" "[I") (by decide +kernel)
  have h8 := hL.2.2.1
  refine z_x (y := (xi x (zp j 13) (x.1 (zp j 13)))) (xi_idf rfl) ?_
  refine z_x (y := (xi (xi x (zp j 13) (x.1 (zp j 13))) (zp j 14) (x.1 (zp j 14)))) (xi_idf (by rw [xi_n _ (by unfold zp; omega)])) ?_
  refine z_x (y := (xi (xi (xi x (zp j 13) (x.1 (zp j 13))) (zp j 14) (x.1 (zp j 14))) (zp j 15) (x.1 (zp j 15)))) (xi_idf (by rw [xi_n _ (by unfold zp; omega), xi_n _ (by unfold zp; omega)])) ?_
  refine z_iconst (v := nI 0) 0 C dX1_takeAway_0 rfl ?_
  refine z_istore_n (lv' := [(2, .int (nI 0)), (0, .ref (zad g (zp j 13))), (1, .int a)]) 1 C dX1_takeAway_1 rfl (by decide) rfl ?_
  refine z_iconst (v := nI 0) 2 C dX1_takeAway_2 rfl ?_
  refine z_istore_n (lv' := [(3, .int (nI 0)), (2, .int (nI 0)), (0, .ref (zad g (zp j 13))), (1, .int a)]) 3 C dX1_takeAway_3 rfl (by decide) rfl ?_
  have J4 : ∀ (n4 : Nat) (i : Nat) (k : Nat) (fi : Nat → Int32) (fw : Nat → Int32), (i ≤ L.length) → (L.length < i + n4) → (zTK L a i k fi fw) → Z p_ l e_ (headSpec wsX1_takeAway ({ frames := 0, cells := 0, slots := 0, locals := 0 })).room s_ m_ args_ below_ meth_ c_ g 5 0 0 (MQ below_ (va_Qv (fun (u : zT) => ∃ h fi fw : Nat → Int32, u = xi (xi (xi x (zp j 13) h) (zp j 14) fi) (zp j 15) fw ∧ zFS h fi fw (ztk L a) (aw + a)) (zB g) (zA g)) args_ s_ 0 0 (zA g)) (xi (xi (xi x (zp j 13) (x.1 (zp j 13))) (zp j 14) fi) (zp j 15) fw) 4 [(0, .ref (zad g (zp j 13))), (1, .int a), (2, .int (nI k)), (3, .int (nI i))] [] := by
    intro n4
    induction n4 with
    | zero => intro i k fi fw hi hn hT; exact absurd hn (by omega)
    | succ n4 ih4 =>
      intro i k fi fw hi hn hT
      refine z_iload_n 4 C dX1_takeAway_4 rfl 3 rfl ?_
      refine z_aload_n 5 C dX1_takeAway_5 rfl 0 rfl ?_
      refine z_geti (v := nI L.length) 6 C (ref := "Countcote$FewCounters") (T := TX1) (N := 4) (ci := 1) (q := 2) (kF_used hj) rfl hinX1 (by decide) rfl hw_f22 (by rw [xi_n _ (by unfold zp; omega), xi_n _ (by unfold zp; omega), xi_s, (hL.1)]) dX1_takeAway_6 ?_
      refine z_icmp_geN 9 C 56 dX1_takeAway_9 (by decide) (by omega) (by omega) (fun h9 => ?_) (fun h9 => ?_)
      · have hT9 := hT.2.1
        refine z_aload_n 56 C dX1_takeAway_56 rfl 0 rfl ?_
        refine z_iload_n 57 C dX1_takeAway_57 rfl 2 rfl ?_
        obtain ⟨f1, ef1⟩ : ∃ f9 : Nat → Int32, f9 = upd (x.1 (zp j 13)) 0 (nI k) := ⟨_, rfl⟩
        refine z_puti 58 C (ref := "Countcote$FewCounters") (T := TX1) (N := 4) (ci := 1) (q := 2) (f := f1) (kF_used hj) rfl hinX1 tyX1 tyX1_ok nmX1 (by decide) rfl hw_f22 rfl (by decide +kernel) (by rw [xi_n _ (by unfold zp; omega), xi_n _ (by unfold zp; omega), xi_s]; exact ef1.symm) dX1_takeAway_58 ?_
        refine z_x (y := (xi (xi (xi x (zp j 13) f1) (zp j 14) fi) (zp j 15) fw)) (by rw [xi_comm (k := zp j 15) (k' := zp j 13) _ (by unfold zp; omega), xi_comm (k := zp j 14) (k' := zp j 13) _ (by unfold zp; omega), xi_xi]) ?_
        refine z_aload_n 61 C dX1_takeAway_61 rfl 0 rfl ?_
        refine z_dup 62 C dX1_takeAway_62 rfl ?_
        refine z_geti (v := f1 1) 63 C (ref := "Countcote$FewCounters") (T := TX1) (N := 4) (ci := 1) (q := 3) (kF_away hj) rfl hinX1 (by decide) rfl hw_f44 (by rw [xi_n _ (by unfold zp; omega), xi_n _ (by unfold zp; omega), xi_s]) dX1_takeAway_63 ?_
        refine z_iload_n 66 C dX1_takeAway_66 rfl 1 rfl ?_
        refine z_iadd (v := (f1 1) + a) 67 C dX1_takeAway_67 rfl ?_
        obtain ⟨f2, ef2⟩ : ∃ f9 : Nat → Int32, f9 = upd f1 1 ((f1 1) + a) := ⟨_, rfl⟩
        refine z_puti 68 C (ref := "Countcote$FewCounters") (T := TX1) (N := 4) (ci := 1) (q := 3) (f := f2) (kF_away hj) rfl hinX1 tyX1 tyX1_ok nmX1 (by decide) rfl hw_f44 rfl (by decide +kernel) (by rw [xi_n _ (by unfold zp; omega), xi_n _ (by unfold zp; omega), xi_s]; exact ef2.symm) dX1_takeAway_68 ?_
        refine z_x (y := (xi (xi (xi x (zp j 13) f2) (zp j 14) fi) (zp j 15) fw)) (by rw [xi_comm (k := zp j 15) (k' := zp j 13) _ (by unfold zp; omega), xi_comm (k := zp j 14) (k' := zp j 13) _ (by unfold zp; omega), xi_xi]) ?_
        exact z_vret 71 C hr ⟨f2, fi, fw, rfl, zTK_e (h := x.1 (zp j 13)) (k := k) (by rw [show i = L.length by omega] at hT; exact hT) h8 (by rw [ef2, pk_un (by decide), ef1, pk_us]) (by rw [ef2, pk_us, ef1, pk_un (by decide), hL.2.1])⟩ dX1_takeAway_71
      · have hT9 := hT.2.1
        refine z_aload_n 12 C dX1_takeAway_12 rfl 0 rfl ?_
        refine z_getr 13 C (ref := "Countcote$FewCounters") (T := TX1) (N := 4) (ci := 1) (q := 1) (kR_wts hj) rfl hinX1 (by decide) rfl hw_f15 dX1_takeAway_13 ?_
        refine z_iload_n 16 C dX1_takeAway_16 rfl 3 rfl ?_
        refine z_iald (v := fw i) 17 C (kI_wts hj) (by omega) (by rw [xi_s]) dX1_takeAway_17 ?_
        refine z_iload_n 18 C dX1_takeAway_18 rfl 1 rfl ?_
        refine z_isub (v := (fw i) - a) 19 C dX1_takeAway_19 rfl ?_
        refine z_istore (lv' := [(4, .int ((fw i) - a)), (0, .ref (zad g (zp j 13))), (1, .int a), (2, .int (nI k)), (3, .int (nI i))]) 20 C dX1_takeAway_20 (by decide) rfl ?_
        refine z_iload 22 C dX1_takeAway_22 0 rfl ?_
        refine z_if_le 24 C 50 dX1_takeAway_24 (by decide) (fun h24 => ?_) (fun h24 => ?_)
        · refine z_iinc (v' := nI (i + 1)) (lv' := [(3, .int (nI (i + 1))), (4, .int ((fw i) - a)), (0, .ref (zad g (zp j 13))), (1, .int a), (2, .int (nI k))]) 50 C dX1_takeAway_50 (q := 4) rfl (zn_inc i 1) (by decide) rfl ?_
          refine z_goto 53 C 4 dX1_takeAway_53 (by decide) ?_
          refine z_lv (lv' := [(0, .ref (zad g (zp j 13))), (1, .int a), (2, .int (nI k)), (3, .int (nI (i + 1)))]) [2, 3, 4, 0] rfl ?_
          exact ih4 (i + 1) k fi fw (by omega) (by omega) (zTK_n hT h9 (fun z => zn_npos z h24))
        · refine z_aload_n 27 C dX1_takeAway_27 rfl 1 rfl ?_
          refine z_getr 28 C (ref := "Countcote$FewCounters") (T := TX1) (N := 4) (ci := 1) (q := 0) (kR_items hj) rfl hinX1 (by decide) rfl hw_f11 dX1_takeAway_28 ?_
          refine z_iload_n 31 C dX1_takeAway_31 rfl 3 rfl ?_
          refine z_aload_n 32 C dX1_takeAway_32 rfl 1 rfl ?_
          refine z_getr 33 C (ref := "Countcote$FewCounters") (T := TX1) (N := 4) (ci := 1) (q := 0) (kR_items hj) rfl hinX1 (by decide) rfl hw_f11 dX1_takeAway_33 ?_
          refine z_iload_n 36 C dX1_takeAway_36 rfl 4 rfl ?_
          refine z_iald (v := fi i) 37 C (kI_items hj) (by omega) (by rw [xi_n _ (by unfold zp; omega), xi_s]) dX1_takeAway_37 ?_
          obtain ⟨f3, ef3⟩ : ∃ f9 : Nat → Int32, f9 = upd fi k (fi i) := ⟨_, rfl⟩
          refine z_iast (f := f3) 38 C (kI_items hj) (by omega) (by rw [xi_n _ (by unfold zp; omega), xi_s]; exact ef3.symm) dX1_takeAway_38 ?_
          refine z_x (y := (xi (xi (xi x (zp j 13) (x.1 (zp j 13))) (zp j 14) f3) (zp j 15) fw)) (by rw [xi_comm (k := zp j 15) (k' := zp j 14) _ (by unfold zp; omega), xi_xi]) ?_
          refine z_aload_n 39 C dX1_takeAway_39 rfl 1 rfl ?_
          refine z_getr 40 C (ref := "Countcote$FewCounters") (T := TX1) (N := 4) (ci := 1) (q := 1) (kR_wts hj) rfl hinX1 (by decide) rfl hw_f15 dX1_takeAway_40 ?_
          refine z_iload_n 43 C dX1_takeAway_43 rfl 3 rfl ?_
          refine z_iload 44 C dX1_takeAway_44 0 rfl ?_
          obtain ⟨f4, ef4⟩ : ∃ f9 : Nat → Int32, f9 = upd fw k ((fw i) - a) := ⟨_, rfl⟩
          refine z_iast (f := f4) 46 C (kI_wts hj) (by omega) (by rw [xi_s]; exact ef4.symm) dX1_takeAway_46 ?_
          refine z_x (y := (xi (xi (xi x (zp j 13) (x.1 (zp j 13))) (zp j 14) f3) (zp j 15) f4)) (by rw [xi_xi]) ?_
          refine z_iinc (v' := nI (k + 1)) (lv' := [(2, .int (nI (k + 1))), (4, .int ((fw i) - a)), (0, .ref (zad g (zp j 13))), (1, .int a), (3, .int (nI i))]) 47 C dX1_takeAway_47 (q := 3) rfl (zn_inc k 1) (by decide) rfl ?_
          refine z_iinc (v' := nI (i + 1)) (lv' := [(3, .int (nI (i + 1))), (2, .int (nI (k + 1))), (4, .int ((fw i) - a)), (0, .ref (zad g (zp j 13))), (1, .int a)]) 50 C dX1_takeAway_50 (q := 4) rfl (zn_inc i 1) (by decide) rfl ?_
          refine z_goto 53 C 4 dX1_takeAway_53 (by decide) ?_
          refine z_lv (lv' := [(0, .ref (zad g (zp j 13))), (1, .int a), (2, .int (nI (k + 1))), (3, .int (nI (i + 1)))]) [3, 4, 1, 0] rfl ?_
          exact ih4 (i + 1) (k + 1) f3 f4 (by omega) (by omega) (zTK_y hT h9 (zn_pos h24) ef3 ef4)
  refine z_lv (lv' := [(0, .ref (zad g (zp j 13))), (1, .int a), (2, .int (nI 0)), (3, .int (nI 0))]) [2, 3, 1, 0] rfl ?_
  exact J4 (L.length + 1) 0 0 (x.1 (zp j 14)) (x.1 (zp j 15)) (Nat.zero_le _) (by omega) (zTK_0 hL)
set_option maxHeartbeats 4000000 in
set_option maxRecDepth 100000 in
/-- X1_leastWeight -/
theorem c_X1_leastWeight (l : Launch) {g : zG} (hg : zOk g) (x : zT) (j : Nat) (hj : j < 4) (L : zCL) (aw : Int32) (hL : zFS (x.1 (zp j 13)) (x.1 (zp j 14)) (x.1 (zp j 15)) L aw) (h1 : 1 ≤ L.length) : Met l yX1_leastWeight wsX1_leastWeight ({ frames := 1, cells := 0, slots := 0, locals := 13 }) (va_Pc [.ref (zad g (zp j 13))] (zPre g x)) (va_Qi (fun (r : Int32) (u : zT) => u = x ∧ r = zmn (zLw L) (L.length - 1)) (zB g) (zA g)) 0 0 (zA g) := by
  refine z_met (cc := cX1_leastWeight) (nL := 3) (ret := (some .int)) hg (by decide) rfl (Nat.le_of_ble_eq_true rfl) ?_
  intro p_ e_ s_ m_ args_ below_ meth_ c_ C hr
  show Z p_ l e_ _ s_ m_ args_ below_ meth_ c_ g 3 0 0 _ x 0 [(0, .ref (zad g (zp j 13)))] []
  have hw_f15 := C.1.2.2.2.2 (.fieldLink RX1 15 "Countcote$FewCounters" "weights" "[I") (by decide +kernel)
  have hinX1 : ∀ w ∈ wsX10, w ∈ wsX1_leastWeight := by decide +kernel
  have hw_f22 := C.1.2.2.2.2 (.fieldLink RX1 22 "Countcote$FewCounters" "used" "I") (by decide +kernel)
  have hw_m34 := C.1.2.2.2.2 (.methodLink RX1 34 Lib.Math.min.name) (by decide +kernel)
  have hw_smin := C.1.2.2.2.2 (.static Lib.Math.min.name) (by decide +kernel)
  have hw_iM := C.1.2.2.2.2 (.initialized "java/lang/Math") (by decide +kernel)
  have hw_cmin := C.1.2.2.2.2 (.code Lib.Math.min.name Lib.Math.min.code 2 (some .int)) (by decide +kernel)
  have h8 := hL.2.2.1
  refine z_aload_n 0 C dX1_leastWeight_0 rfl 0 rfl ?_
  refine z_getr 1 C (ref := "Countcote$FewCounters") (T := TX1) (N := 4) (ci := 1) (q := 1) (kR_wts hj) rfl hinX1 (by decide) rfl hw_f15 dX1_leastWeight_1 ?_
  refine z_iconst (v := nI 0) 4 C dX1_leastWeight_4 rfl ?_
  refine z_iald (v := (x.1 (zp j 15)) 0) 5 C (kI_wts hj) (by omega) rfl dX1_leastWeight_5 ?_
  refine z_istore_n (lv' := [(1, .int ((x.1 (zp j 15)) 0)), (0, .ref (zad g (zp j 13)))]) 6 C dX1_leastWeight_6 rfl (by decide) rfl ?_
  refine z_iconst (v := nI 1) 7 C dX1_leastWeight_7 rfl ?_
  refine z_istore_n (lv' := [(2, .int (nI 1)), (1, .int ((x.1 (zp j 15)) 0)), (0, .ref (zad g (zp j 13)))]) 8 C dX1_leastWeight_8 rfl (by decide) rfl ?_
  have J9 : ∀ (n9 : Nat) (i : Nat) (m : Int32), (1 ≤ i ∧ i ≤ L.length) → (L.length < i + n9) → (m = zmn (zLw L) (i - 1)) → Z p_ l e_ (headSpec wsX1_leastWeight ({ frames := 1, cells := 0, slots := 0, locals := 13 })).room s_ m_ args_ below_ meth_ c_ g 3 0 0 (MQ below_ (va_Qi (fun (r : Int32) (u : zT) => u = x ∧ r = zmn (zLw L) (L.length - 1)) (zB g) (zA g)) args_ s_ 0 0 (zA g)) x 9 [(0, .ref (zad g (zp j 13))), (1, .int m), (2, .int (nI i))] [] := by
    intro n9
    induction n9 with
    | zero => intro i m hi hn hm; exact absurd hn (by omega)
    | succ n9 ih9 =>
      intro i m hi hn hm
      refine z_iload_n 9 C dX1_leastWeight_9 rfl 2 rfl ?_
      refine z_aload_n 10 C dX1_leastWeight_10 rfl 0 rfl ?_
      refine z_geti (v := nI L.length) 11 C (ref := "Countcote$FewCounters") (T := TX1) (N := 4) (ci := 1) (q := 2) (kF_used hj) rfl hinX1 (by decide) rfl hw_f22 (by rw [(hL.1)]) dX1_leastWeight_11 ?_
      refine z_icmp_geN 14 C 34 dX1_leastWeight_14 (by decide) (by omega) (by omega) (fun h14 => ?_) (fun h14 => ?_)
      · refine z_iload_n 34 C dX1_leastWeight_34 rfl 1 rfl ?_
        exact z_iret 35 C hr ⟨rfl, by rw [hm, show i - 1 = L.length - 1 by omega]⟩ dX1_leastWeight_35
      · refine z_iload_n 17 C dX1_leastWeight_17 rfl 1 rfl ?_
        refine z_aload_n 18 C dX1_leastWeight_18 rfl 0 rfl ?_
        refine z_getr 19 C (ref := "Countcote$FewCounters") (T := TX1) (N := 4) (ci := 1) (q := 1) (kR_wts hj) rfl hinX1 (by decide) rfl hw_f15 dX1_leastWeight_19 ?_
        refine z_iload_n 22 C dX1_leastWeight_22 rfl 2 rfl ?_
        refine z_iald (v := (x.1 (zp j 15)) i) 23 C (kI_wts hj) (by omega) rfl dX1_leastWeight_23 ?_
        obtain ⟨v1, ev1⟩ : ∃ y : Int32, (if (x.1 (zp j 15)) i < m then (x.1 (zp j 15)) i else m) = y := ⟨_, rfl⟩
        refine z_mmin (v := v1) 24 C hw_m34 hw_smin hw_iM hw_cmin (Nat.le_of_ble_eq_true rfl) (Nat.le_of_ble_eq_true rfl) ⟨Nat.le_of_ble_eq_true rfl, Nat.le_of_ble_eq_true rfl⟩ ev1 dX1_leastWeight_24 ?_
        refine z_istore_n (lv' := [(1, .int v1), (0, .ref (zad g (zp j 13))), (2, .int (nI i))]) 27 C dX1_leastWeight_27 rfl (by decide) rfl ?_
        refine z_iinc (v' := nI (i + 1)) (lv' := [(2, .int (nI (i + 1))), (1, .int v1), (0, .ref (zad g (zp j 13)))]) 28 C dX1_leastWeight_28 (q := 2) rfl (zn_inc i 1) (by decide) rfl ?_
        refine z_goto 31 C 9 dX1_leastWeight_31 (by decide) ?_
        refine z_lv (lv' := [(0, .ref (zad g (zp j 13))), (1, .int v1), (2, .int (nI (i + 1)))]) [2, 1, 0] rfl ?_
        exact ih9 (i + 1) v1 (by omega) (by omega) (by rw [← ev1, hm, (hL.2.2.2 i h14).2, show i + 1 - 1 = (i - 1) + 1 by omega]; show _ = zmin (zmn (zLw L) (i - 1)) (zLw L (i - 1 + 1)); rw [show i - 1 + 1 = i by omega]; rfl)
  refine z_lv (lv' := [(0, .ref (zad g (zp j 13))), (1, .int ((x.1 (zp j 15)) 0)), (2, .int (nI 1))]) [2, 1, 0] rfl ?_
  exact J9 (L.length + 1) 1 ((x.1 (zp j 15)) 0) ⟨by omega, by omega⟩ (by omega) (hL.2.2.2 0 (by omega)).2
set_option maxHeartbeats 4000000 in
set_option maxRecDepth 100000 in
/-- X1_countersReaching -/
theorem c_X1_countersReaching (l : Launch) {g : zG} (hg : zOk g) (x : zT) (j : Nat) (hj : j < 4) (L : zCL) (aw : Int32) (hL : zFS (x.1 (zp j 13)) (x.1 (zp j 14)) (x.1 (zp j 15)) L aw) (w : Int32) : Met l yX1_countersReaching wsX1_countersReaching ({ frames := 0, cells := 0, slots := 0, locals := 0 }) (va_Pc [.ref (zad g (zp j 13)), .int w] (zPre g x)) (va_Qi (fun (r : Int32) (u : zT) => u = x ∧ r = nI (zcr (zLw L) w L.length)) (zB g) (zA g)) 0 0 (zA g) := by
  refine z_met (cc := cX1_countersReaching) (nL := 4) (ret := (some .int)) hg (by decide) rfl (Nat.le_of_ble_eq_true rfl) ?_
  intro p_ e_ s_ m_ args_ below_ meth_ c_ C hr
  show Z p_ l e_ _ s_ m_ args_ below_ meth_ c_ g 4 0 0 _ x 0 [(0, .ref (zad g (zp j 13))), (1, .int w)] []
  have hw_f22 := C.1.2.2.2.2 (.fieldLink RX1 22 "Countcote$FewCounters" "used" "I") (by decide +kernel)
  have hinX1 : ∀ w ∈ wsX10, w ∈ wsX1_countersReaching := by decide +kernel
  have hw_f15 := C.1.2.2.2.2 (.fieldLink RX1 15 "Countcote$FewCounters" "weights" "[I") (by decide +kernel)
  have h8 := hL.2.2.1
  refine z_iconst (v := nI 0) 0 C dX1_countersReaching_0 rfl ?_
  refine z_istore_n (lv' := [(2, .int (nI 0)), (0, .ref (zad g (zp j 13))), (1, .int w)]) 1 C dX1_countersReaching_1 rfl (by decide) rfl ?_
  refine z_iconst (v := nI 0) 2 C dX1_countersReaching_2 rfl ?_
  refine z_istore_n (lv' := [(3, .int (nI 0)), (2, .int (nI 0)), (0, .ref (zad g (zp j 13))), (1, .int w)]) 3 C dX1_countersReaching_3 rfl (by decide) rfl ?_
  have J4 : ∀ (n4 : Nat) (i : Nat) (n : Nat), (i ≤ L.length) → (L.length < i + n4) → (n = zcr (zLw L) w i) → Z p_ l e_ (headSpec wsX1_countersReaching ({ frames := 0, cells := 0, slots := 0, locals := 0 })).room s_ m_ args_ below_ meth_ c_ g 4 0 0 (MQ below_ (va_Qi (fun (r : Int32) (u : zT) => u = x ∧ r = nI (zcr (zLw L) w L.length)) (zB g) (zA g)) args_ s_ 0 0 (zA g)) x 4 [(0, .ref (zad g (zp j 13))), (1, .int w), (2, .int (nI n)), (3, .int (nI i))] [] := by
    intro n4
    induction n4 with
    | zero => intro i n hi hn hc; exact absurd hn (by omega)
    | succ n4 ih4 =>
      intro i n hi hn hc
      refine z_iload_n 4 C dX1_countersReaching_4 rfl 3 rfl ?_
      refine z_aload_n 5 C dX1_countersReaching_5 rfl 0 rfl ?_
      refine z_geti (v := nI L.length) 6 C (ref := "Countcote$FewCounters") (T := TX1) (N := 4) (ci := 1) (q := 2) (kF_used hj) rfl hinX1 (by decide) rfl hw_f22 (by rw [(hL.1)]) dX1_countersReaching_6 ?_
      refine z_icmp_geN 9 C 31 dX1_countersReaching_9 (by decide) (by omega) (by omega) (fun h9 => ?_) (fun h9 => ?_)
      · refine z_iload_n 31 C dX1_countersReaching_31 rfl 2 rfl ?_
        exact z_iret 32 C hr ⟨rfl, by rw [hc, show i = L.length by omega]⟩ dX1_countersReaching_32
      · refine z_aload_n 12 C dX1_countersReaching_12 rfl 0 rfl ?_
        refine z_getr 13 C (ref := "Countcote$FewCounters") (T := TX1) (N := 4) (ci := 1) (q := 1) (kR_wts hj) rfl hinX1 (by decide) rfl hw_f15 dX1_countersReaching_13 ?_
        refine z_iload_n 16 C dX1_countersReaching_16 rfl 3 rfl ?_
        refine z_iald (v := (x.1 (zp j 15)) i) 17 C (kI_wts hj) (by omega) rfl dX1_countersReaching_17 ?_
        refine z_iload_n 18 C dX1_countersReaching_18 rfl 1 rfl ?_
        refine z_icmp_lt 19 C 25 dX1_countersReaching_19 (by decide) (fun h19 => ?_) (fun h19 => ?_)
        · refine z_iinc (v' := nI (i + 1)) (lv' := [(3, .int (nI (i + 1))), (0, .ref (zad g (zp j 13))), (1, .int w), (2, .int (nI n))]) 25 C dX1_countersReaching_25 (q := 3) rfl (zn_inc i 1) (by decide) rfl ?_
          refine z_goto 28 C 4 dX1_countersReaching_28 (by decide) ?_
          refine z_lv (lv' := [(0, .ref (zad g (zp j 13))), (1, .int w), (2, .int (nI n)), (3, .int (nI (i + 1)))]) [1, 2, 3, 0] rfl ?_
          exact ih4 (i + 1) n (by omega) (by omega) (by rw [hc]; show zcr (zLw L) w i = zcr (zLw L) w i + (if w ≤ zLw L i then 1 else 0); rw [if_neg (by rw [show zLw L i = _ from (hL.2.2.2 i h9).2.symm]; exact Int32.not_le.mpr h19), Nat.add_zero])
        · refine z_iinc (v' := nI (n + 1)) (lv' := [(2, .int (nI (n + 1))), (0, .ref (zad g (zp j 13))), (1, .int w), (3, .int (nI i))]) 22 C dX1_countersReaching_22 (q := 2) rfl (zn_inc n 1) (by decide) rfl ?_
          refine z_iinc (v' := nI (i + 1)) (lv' := [(3, .int (nI (i + 1))), (2, .int (nI (n + 1))), (0, .ref (zad g (zp j 13))), (1, .int w)]) 25 C dX1_countersReaching_25 (q := 3) rfl (zn_inc i 1) (by decide) rfl ?_
          refine z_goto 28 C 4 dX1_countersReaching_28 (by decide) ?_
          refine z_lv (lv' := [(0, .ref (zad g (zp j 13))), (1, .int w), (2, .int (nI (n + 1))), (3, .int (nI (i + 1)))]) [2, 3, 1, 0] rfl ?_
          exact ih4 (i + 1) (n + 1) (by omega) (by omega) (by rw [hc]; show zcr (zLw L) w i + 1 = zcr (zLw L) w i + (if w ≤ zLw L i then 1 else 0); rw [if_pos (by rw [show zLw L i = _ from (hL.2.2.2 i h9).2.symm]; exact Int32.not_lt.mp h19)])
  refine z_lv (lv' := [(0, .ref (zad g (zp j 13))), (1, .int w), (2, .int (nI 0)), (3, .int (nI 0))]) [2, 3, 1, 0] rfl ?_
  exact J4 (L.length + 1) 0 0 (Nat.zero_le _) (by omega) rfl
set_option maxHeartbeats 4000000 in
set_option maxRecDepth 100000 in
/-- X1_weightReachedBy -/
theorem c_X1_weightReachedBy (l : Launch) {g : zG} (hg : zOk g) (x : zT) (j : Nat) (hj : j < 4) (L : zCL) (aw : Int32) (hL : zFS (x.1 (zp j 13)) (x.1 (zp j 14)) (x.1 (zp j 15)) L aw) (k : Nat) (hk : k < 100) : Met l yX1_weightReachedBy wsX1_weightReachedBy ({ frames := 1, cells := 0, slots := 0, locals := 23 }) (va_Pc [.ref (zad g (zp j 13)), .int (nI k)] (zPre g x)) (va_Qi (fun (r : Int32) (u : zT) => u = x ∧ r = zwr (zLw L) k L.length L.length) (zB g) (zA g)) 0 0 (zA g) := by
  refine z_met (cc := cX1_weightReachedBy) (nL := 4) (ret := (some .int)) hg (by decide) rfl (Nat.le_of_ble_eq_true rfl) ?_
  intro p_ e_ s_ m_ args_ below_ meth_ c_ C hr
  show Z p_ l e_ _ s_ m_ args_ below_ meth_ c_ g 4 0 0 _ x 0 [(0, .ref (zad g (zp j 13))), (1, .int (nI k))] []
  have hw_f22 := C.1.2.2.2.2 (.fieldLink RX1 22 "Countcote$FewCounters" "used" "I") (by decide +kernel)
  have hinX1 : ∀ w ∈ wsX10, w ∈ wsX1_weightReachedBy := by decide +kernel
  have hw_f15 := C.1.2.2.2.2 (.fieldLink RX1 15 "Countcote$FewCounters" "weights" "[I") (by decide +kernel)
  have h8 := hL.2.2.1
  refine z_iconst (v := nI 0) 0 C dX1_weightReachedBy_0 rfl ?_
  refine z_istore_n (lv' := [(2, .int (nI 0)), (0, .ref (zad g (zp j 13))), (1, .int (nI k))]) 1 C dX1_weightReachedBy_1 rfl (by decide) rfl ?_
  refine z_iconst (v := nI 0) 2 C dX1_weightReachedBy_2 rfl ?_
  refine z_istore_n (lv' := [(3, .int (nI 0)), (2, .int (nI 0)), (0, .ref (zad g (zp j 13))), (1, .int (nI k))]) 3 C dX1_weightReachedBy_3 rfl (by decide) rfl ?_
  have J4 : ∀ (n4 : Nat) (i : Nat) (m : Int32), (i ≤ L.length) → (L.length < i + n4) → (m = zwr (zLw L) k L.length i) → Z p_ l e_ (headSpec wsX1_weightReachedBy ({ frames := 1, cells := 0, slots := 0, locals := 23 })).room s_ m_ args_ below_ meth_ c_ g 4 0 0 (MQ below_ (va_Qi (fun (r : Int32) (u : zT) => u = x ∧ r = zwr (zLw L) k L.length L.length) (zB g) (zA g)) args_ s_ 0 0 (zA g)) x 4 [(0, .ref (zad g (zp j 13))), (1, .int (nI k)), (2, .int m), (3, .int (nI i))] [] := by
    intro n4
    induction n4 with
    | zero => intro i m hi hn hm; exact absurd hn (by omega)
    | succ n4 ih4 =>
      intro i m hi hn hm
      refine z_iload_n 4 C dX1_weightReachedBy_4 rfl 3 rfl ?_
      refine z_aload_n 5 C dX1_weightReachedBy_5 rfl 0 rfl ?_
      refine z_geti (v := nI L.length) 6 C (ref := "Countcote$FewCounters") (T := TX1) (N := 4) (ci := 1) (q := 2) (kF_used hj) rfl hinX1 (by decide) rfl hw_f22 (by rw [(hL.1)]) dX1_weightReachedBy_6 ?_
      refine z_icmp_geN 9 C 49 dX1_weightReachedBy_9 (by decide) (by omega) (by omega) (fun h9 => ?_) (fun h9 => ?_)
      · refine z_iload_n 49 C dX1_weightReachedBy_49 rfl 2 rfl ?_
        exact z_iret 50 C hr ⟨rfl, by rw [hm, show i = L.length by omega]⟩ dX1_weightReachedBy_50
      · refine z_aload_n 12 C dX1_weightReachedBy_12 rfl 0 rfl ?_
        refine z_getr 13 C (ref := "Countcote$FewCounters") (T := TX1) (N := 4) (ci := 1) (q := 1) (kR_wts hj) rfl hinX1 (by decide) rfl hw_f15 dX1_weightReachedBy_13 ?_
        refine z_iload_n 16 C dX1_weightReachedBy_16 rfl 3 rfl ?_
        refine z_iald (v := (x.1 (zp j 15)) i) 17 C (kI_wts hj) (by omega) rfl dX1_weightReachedBy_17 ?_
        refine z_iload_n 18 C dX1_weightReachedBy_18 rfl 2 rfl ?_
        refine z_icmp_le 19 C 43 dX1_weightReachedBy_19 (by decide) (fun h19 => ?_) (fun h19 => ?_)
        · refine z_iinc (v' := nI (i + 1)) (lv' := [(3, .int (nI (i + 1))), (0, .ref (zad g (zp j 13))), (1, .int (nI k)), (2, .int m)]) 43 C dX1_weightReachedBy_43 (q := 3) rfl (zn_inc i 1) (by decide) rfl ?_
          refine z_goto 46 C 4 dX1_weightReachedBy_46 (by decide) ?_
          refine z_lv (lv' := [(0, .ref (zad g (zp j 13))), (1, .int (nI k)), (2, .int m), (3, .int (nI (i + 1)))]) [1, 2, 3, 0] rfl ?_
          exact ih4 (i + 1) m (by omega) (by omega) (by show _ = if zwr (zLw L) k L.length i < zLw L i ∧ k ≤ zcr (zLw L) (zLw L i) L.length then zLw L i else zwr (zLw L) k L.length i; rw [show zLw L i = _ from (hL.2.2.2 i h9).2.symm, ← hm, if_neg (fun z => by first | exact Int32.not_lt.mpr h19 z.1 | exact absurd z.2 (by omega))])
        · refine z_aload_n 22 C dX1_weightReachedBy_22 rfl 0 rfl ?_
          refine z_aload_n 23 C dX1_weightReachedBy_23 rfl 0 rfl ?_
          refine z_getr 24 C (ref := "Countcote$FewCounters") (T := TX1) (N := 4) (ci := 1) (q := 1) (kR_wts hj) rfl hinX1 (by decide) rfl hw_f15 dX1_weightReachedBy_24 ?_
          refine z_iload_n 27 C dX1_weightReachedBy_27 rfl 3 rfl ?_
          refine z_iald (v := (x.1 (zp j 15)) i) 28 C (kI_wts hj) (by omega) rfl dX1_weightReachedBy_28 ?_
          refine z_callVi 29 C (As := [.int ((x.1 (zp j 15)) i)]) 1 (kO_few hj) rfl (c_X1_countersReaching l hg x j hj L aw hL ((x.1 (zp j 15)) i)) (cwV 1 C.1.2.2.2.2 gX1_weightReachedBy_X1_countersReaching rfl rfl rfl (by decide +kernel) ⟨Nat.le_of_ble_eq_true rfl, Nat.le_of_ble_eq_true rfl⟩) rfl rfl (Nat.le_of_ble_eq_true rfl) ⟨Nat.le_of_ble_eq_true rfl, Nat.le_of_ble_eq_true rfl⟩ dX1_weightReachedBy_29 (fun r u hu => ?_)
          obtain ⟨hu1, hu2⟩ := hu
          subst u
          subst r
          have hcr := zcr_le (zLw L) ((x.1 (zp j 15)) i) L.length
          refine z_iload_n 32 C dX1_weightReachedBy_32 rfl 1 rfl ?_
          refine z_icmp_ltN 33 C 43 dX1_weightReachedBy_33 (by decide) (by omega) (by omega) (fun h33 => ?_) (fun h33 => ?_)
          · refine z_iinc (v' := nI (i + 1)) (lv' := [(3, .int (nI (i + 1))), (0, .ref (zad g (zp j 13))), (1, .int (nI k)), (2, .int m)]) 43 C dX1_weightReachedBy_43 (q := 3) rfl (zn_inc i 1) (by decide) rfl ?_
            refine z_goto 46 C 4 dX1_weightReachedBy_46 (by decide) ?_
            refine z_lv (lv' := [(0, .ref (zad g (zp j 13))), (1, .int (nI k)), (2, .int m), (3, .int (nI (i + 1)))]) [1, 2, 3, 0] rfl ?_
            exact ih4 (i + 1) m (by omega) (by omega) (by show _ = if zwr (zLw L) k L.length i < zLw L i ∧ k ≤ zcr (zLw L) (zLw L i) L.length then zLw L i else zwr (zLw L) k L.length i; rw [show zLw L i = _ from (hL.2.2.2 i h9).2.symm, ← hm, if_neg (fun z => by first | exact Int32.not_lt.mpr h19 z.1 | exact absurd z.2 (by omega))])
          · refine z_aload_n 36 C dX1_weightReachedBy_36 rfl 0 rfl ?_
            refine z_getr 37 C (ref := "Countcote$FewCounters") (T := TX1) (N := 4) (ci := 1) (q := 1) (kR_wts hj) rfl hinX1 (by decide) rfl hw_f15 dX1_weightReachedBy_37 ?_
            refine z_iload_n 40 C dX1_weightReachedBy_40 rfl 3 rfl ?_
            refine z_iald (v := (x.1 (zp j 15)) i) 41 C (kI_wts hj) (by omega) rfl dX1_weightReachedBy_41 ?_
            refine z_istore_n (lv' := [(2, .int ((x.1 (zp j 15)) i)), (0, .ref (zad g (zp j 13))), (1, .int (nI k)), (3, .int (nI i))]) 42 C dX1_weightReachedBy_42 rfl (by decide) rfl ?_
            refine z_iinc (v' := nI (i + 1)) (lv' := [(3, .int (nI (i + 1))), (2, .int ((x.1 (zp j 15)) i)), (0, .ref (zad g (zp j 13))), (1, .int (nI k))]) 43 C dX1_weightReachedBy_43 (q := 3) rfl (zn_inc i 1) (by decide) rfl ?_
            refine z_goto 46 C 4 dX1_weightReachedBy_46 (by decide) ?_
            refine z_lv (lv' := [(0, .ref (zad g (zp j 13))), (1, .int (nI k)), (2, .int ((x.1 (zp j 15)) i)), (3, .int (nI (i + 1)))]) [2, 3, 1, 0] rfl ?_
            exact ih4 (i + 1) ((x.1 (zp j 15)) i) (by omega) (by omega) (by show _ = if zwr (zLw L) k L.length i < zLw L i ∧ k ≤ zcr (zLw L) (zLw L i) L.length then zLw L i else zwr (zLw L) k L.length i; rw [show zLw L i = _ from (hL.2.2.2 i h9).2.symm, ← hm, if_pos ⟨Int32.not_le.mp h19, h33⟩])
  refine z_lv (lv' := [(0, .ref (zad g (zp j 13))), (1, .int (nI k)), (2, .int (nI 0)), (3, .int (nI 0))]) [2, 3, 1, 0] rfl ?_
  exact J4 (L.length + 1) 0 0 (Nat.zero_le _) (by omega) rfl
set_option maxHeartbeats 4000000 in
set_option maxRecDepth 100000 in
/-- X1_put -/
theorem c_X1_put (l : Launch) {g : zG} (hg : zOk g) (x : zT) (j : Nat) (hj : j < 4) (L : zCL) (aw : Int32) (hL : zFS (x.1 (zp j 13)) (x.1 (zp j 14)) (x.1 (zp j 15)) L aw) (v w : Int32) : Met l yX1_put wsX1_put ({ frames := 2, cells := 0, slots := 0, locals := 45 }) (va_Pc [.ref (zad g (zp j 13)), .int v, .int w] (zPre g x)) (va_Qv (fun (u : zT) => ∃ h fi fw : Nat → Int32, u = xi (xi (xi x (zp j 13) h) (zp j 14) fi) (zp j 15) fw ∧ zFS h fi fw (zadd L v w) (aw + zaddw L v w)) (zB g) (zA g)) 0 0 (zA g) := by
  refine z_met (cc := cX1_put) (nL := 4) (ret := none) hg (by decide) rfl (Nat.le_of_ble_eq_true rfl) ?_
  intro p_ e_ s_ m_ args_ below_ meth_ c_ C hr
  show Z p_ l e_ _ s_ m_ args_ below_ meth_ c_ g 4 0 0 _ x 0 [(0, .ref (zad g (zp j 13))), (1, .int v), (2, .int w)] []
  have hw_f22 := C.1.2.2.2.2 (.fieldLink RX1 22 "Countcote$FewCounters" "used" "I") (by decide +kernel)
  have hinX1 : ∀ w ∈ wsX10, w ∈ wsX1_put := by decide +kernel
  have hw_m34 := C.1.2.2.2.2 (.methodLink RX1 34 Lib.Math.min.name) (by decide +kernel)
  have hw_smin := C.1.2.2.2.2 (.static Lib.Math.min.name) (by decide +kernel)
  have hw_iM := C.1.2.2.2.2 (.initialized "java/lang/Math") (by decide +kernel)
  have hw_cmin := C.1.2.2.2.2 (.code Lib.Math.min.name Lib.Math.min.code 2 (some .int)) (by decide +kernel)
  have h8 := hL.2.2.1
  refine z_x (y := (xi x (zp j 13) (x.1 (zp j 13)))) (xi_idf rfl) ?_
  refine z_x (y := (xi (xi x (zp j 13) (x.1 (zp j 13))) (zp j 14) (x.1 (zp j 14)))) (xi_idf (by rw [xi_n _ (by unfold zp; omega)])) ?_
  refine z_x (y := (xi (xi (xi x (zp j 13) (x.1 (zp j 13))) (zp j 14) (x.1 (zp j 14))) (zp j 15) (x.1 (zp j 15)))) (xi_idf (by rw [xi_n _ (by unfold zp; omega), xi_n _ (by unfold zp; omega)])) ?_
  refine z_aload_n 0 C dX1_put_0 rfl 0 rfl ?_
  refine z_iload_n 1 C dX1_put_1 rfl 1 rfl ?_
  have q1 : (xi (xi (xi x (zp j 13) (x.1 (zp j 13))) (zp j 14) (x.1 (zp j 14))) (zp j 15) (x.1 (zp j 15))).1 (zp j 13) = x.1 (zp j 13) := by rw [xi_n _ (by unfold zp; omega), xi_n _ (by unfold zp; omega), xi_s]
  have q2 : (xi (xi (xi x (zp j 13) (x.1 (zp j 13))) (zp j 14) (x.1 (zp j 14))) (zp j 15) (x.1 (zp j 15))).1 (zp j 14) = x.1 (zp j 14) := by rw [xi_n _ (by unfold zp; omega), xi_s]
  have q3 : (xi (xi (xi x (zp j 13) (x.1 (zp j 13))) (zp j 14) (x.1 (zp j 14))) (zp j 15) (x.1 (zp j 15))).1 (zp j 15) = x.1 (zp j 15) := by rw [xi_s]
  refine z_callVi 2 C (As := [.int v]) 1 (kO_few hj) rfl (c_X1_placeOf l hg (xi (xi (xi x (zp j 13) (x.1 (zp j 13))) (zp j 14) (x.1 (zp j 14))) (zp j 15) (x.1 (zp j 15))) j hj L aw (by rw [q1, q2, q3]; exact hL) v) (cwV 1 C.1.2.2.2.2 gX1_put_X1_placeOf rfl rfl rfl (by decide +kernel) ⟨Nat.le_of_ble_eq_true rfl, Nat.le_of_ble_eq_true rfl⟩) rfl rfl (Nat.le_of_ble_eq_true rfl) ⟨Nat.le_of_ble_eq_true rfl, Nat.le_of_ble_eq_true rfl⟩ dX1_put_2 (fun r u hu => ?_)
  obtain ⟨hu1, hu2⟩ := hu
  subst u
  rcases hu2 with ⟨hq, hr9⟩ | ⟨hq, hr9⟩
  · subst r
    refine z_iconst (v := (-1)) 5 C dX1_put_5 rfl ?_
    refine z_icmp_ne 6 C 17 dX1_put_6 (by decide) (fun h6 => ?_) (fun h6 => absurd h6 (zn_m1 (zix L v) (by omega)))
    refine z_aload_n 17 C dX1_put_17 rfl 0 rfl ?_
    refine z_iload_n 18 C dX1_put_18 rfl 1 rfl ?_
    refine z_iload_n 19 C dX1_put_19 rfl 2 rfl ?_
    have q4 : (xi (xi (xi x (zp j 13) (x.1 (zp j 13))) (zp j 14) (x.1 (zp j 14))) (zp j 15) (x.1 (zp j 15))).1 (zp j 13) = x.1 (zp j 13) := by rw [xi_n _ (by unfold zp; omega), xi_n _ (by unfold zp; omega), xi_s]
    have q5 : (xi (xi (xi x (zp j 13) (x.1 (zp j 13))) (zp j 14) (x.1 (zp j 14))) (zp j 15) (x.1 (zp j 15))).1 (zp j 14) = x.1 (zp j 14) := by rw [xi_n _ (by unfold zp; omega), xi_s]
    have q6 : (xi (xi (xi x (zp j 13) (x.1 (zp j 13))) (zp j 14) (x.1 (zp j 14))) (zp j 15) (x.1 (zp j 15))).1 (zp j 15) = x.1 (zp j 15) := by rw [xi_s]
    refine z_callVv 20 C (As := [.int v, .int w]) 2 (kO_few hj) rfl (c_X1_grow l hg (xi (xi (xi x (zp j 13) (x.1 (zp j 13))) (zp j 14) (x.1 (zp j 14))) (zp j 15) (x.1 (zp j 15))) j hj L aw (by rw [q4, q5, q6]; exact hL) v w) (cwV 2 C.1.2.2.2.2 gX1_put_X1_grow rfl rfl rfl (by decide +kernel) ⟨Nat.le_of_ble_eq_true rfl, Nat.le_of_ble_eq_true rfl⟩) rfl rfl (Nat.le_of_ble_eq_true rfl) ⟨Nat.le_of_ble_eq_true rfl, Nat.le_of_ble_eq_true rfl⟩ dX1_put_20 (fun u hu => ?_)
    obtain ⟨h7, fi8, fw9, rfl, hF10⟩ := hu
    refine z_x (y := (xi (xi (xi x (zp j 13) h7) (zp j 14) fi8) (zp j 15) fw9)) (zF3 _ (by unfold zp; omega) (by unfold zp; omega) (by unfold zp; omega) _ _ _ _ _ _) ?_
    have h8h7 := hF10.2.2.1
    exact z_vret 23 C hr ⟨h7, fi8, fw9, rfl, by unfold zadd zaddw; rw [if_pos (show zix L v < L.length ∨ L.length < 4 from Or.inl hq), if_pos (show zix L v < L.length ∨ L.length < 4 from Or.inl hq), Int32.add_zero]; exact hF10⟩ dX1_put_23
  · subst r
    refine z_iconst (v := (-1)) 5 C dX1_put_5 rfl ?_
    refine z_icmp_ne 6 C 17 dX1_put_6 (by decide) (fun h6 => absurd rfl h6) (fun h6 => ?_)
    refine z_aload_n 9 C dX1_put_9 rfl 0 rfl ?_
    refine z_geti (v := nI L.length) 10 C (ref := "Countcote$FewCounters") (T := TX1) (N := 4) (ci := 1) (q := 2) (kF_used hj) rfl hinX1 (by decide) rfl hw_f22 (by rw [xi_n _ (by unfold zp; omega), xi_n _ (by unfold zp; omega), xi_s, (hL.1)]) dX1_put_10 ?_
    refine z_iconst (v := nI 4) 13 C dX1_put_13 rfl ?_
    refine z_icmp_geN 14 C 24 dX1_put_14 (by decide) (by omega) (by omega) (fun h14 => ?_) (fun h14 => ?_)
    · refine z_iload_n 24 C dX1_put_24 rfl 2 rfl ?_
      refine z_aload_n 25 C dX1_put_25 rfl 0 rfl ?_
      have q11 : (xi (xi (xi x (zp j 13) (x.1 (zp j 13))) (zp j 14) (x.1 (zp j 14))) (zp j 15) (x.1 (zp j 15))).1 (zp j 13) = x.1 (zp j 13) := by rw [xi_n _ (by unfold zp; omega), xi_n _ (by unfold zp; omega), xi_s]
      have q12 : (xi (xi (xi x (zp j 13) (x.1 (zp j 13))) (zp j 14) (x.1 (zp j 14))) (zp j 15) (x.1 (zp j 15))).1 (zp j 14) = x.1 (zp j 14) := by rw [xi_n _ (by unfold zp; omega), xi_s]
      have q13 : (xi (xi (xi x (zp j 13) (x.1 (zp j 13))) (zp j 14) (x.1 (zp j 14))) (zp j 15) (x.1 (zp j 15))).1 (zp j 15) = x.1 (zp j 15) := by rw [xi_s]
      refine z_callVi 26 C (As := []) 0 (kO_few hj) rfl (c_X1_leastWeight l hg (xi (xi (xi x (zp j 13) (x.1 (zp j 13))) (zp j 14) (x.1 (zp j 14))) (zp j 15) (x.1 (zp j 15))) j hj L aw (by rw [q11, q12, q13]; exact hL) (by omega)) (cwV 0 C.1.2.2.2.2 gX1_put_X1_leastWeight rfl rfl rfl (by decide +kernel) ⟨Nat.le_of_ble_eq_true rfl, Nat.le_of_ble_eq_true rfl⟩) rfl rfl (Nat.le_of_ble_eq_true rfl) ⟨Nat.le_of_ble_eq_true rfl, Nat.le_of_ble_eq_true rfl⟩ dX1_put_26 (fun r u hu => ?_)
      obtain ⟨hu1, hu2⟩ := hu
      subst u
      subst r
      obtain ⟨v14, ev14⟩ : ∃ y : Int32, (if zmn (zLw L) (L.length - 1) < w then zmn (zLw L) (L.length - 1) else w) = y := ⟨_, rfl⟩
      refine z_mmin (v := v14) 29 C hw_m34 hw_smin hw_iM hw_cmin (Nat.le_of_ble_eq_true rfl) (Nat.le_of_ble_eq_true rfl) ⟨Nat.le_of_ble_eq_true rfl, Nat.le_of_ble_eq_true rfl⟩ ev14 dX1_put_29 ?_
      refine z_istore_n (lv' := [(3, .int v14), (0, .ref (zad g (zp j 13))), (1, .int v), (2, .int w)]) 32 C dX1_put_32 rfl (by decide) rfl ?_
      refine z_aload_n 33 C dX1_put_33 rfl 1 rfl ?_
      refine z_iload_n 34 C dX1_put_34 rfl 0 rfl ?_
      have q15 : (xi (xi (xi x (zp j 13) (x.1 (zp j 13))) (zp j 14) (x.1 (zp j 14))) (zp j 15) (x.1 (zp j 15))).1 (zp j 13) = x.1 (zp j 13) := by rw [xi_n _ (by unfold zp; omega), xi_n _ (by unfold zp; omega), xi_s]
      have q16 : (xi (xi (xi x (zp j 13) (x.1 (zp j 13))) (zp j 14) (x.1 (zp j 14))) (zp j 15) (x.1 (zp j 15))).1 (zp j 14) = x.1 (zp j 14) := by rw [xi_n _ (by unfold zp; omega), xi_s]
      have q17 : (xi (xi (xi x (zp j 13) (x.1 (zp j 13))) (zp j 14) (x.1 (zp j 14))) (zp j 15) (x.1 (zp j 15))).1 (zp j 15) = x.1 (zp j 15) := by rw [xi_s]
      refine z_callVv 35 C (As := [.int v14]) 1 (kO_few hj) rfl (c_X1_takeAway l hg (xi (xi (xi x (zp j 13) (x.1 (zp j 13))) (zp j 14) (x.1 (zp j 14))) (zp j 15) (x.1 (zp j 15))) j hj L aw (by rw [q15, q16, q17]; exact hL) v14) (cwV 1 C.1.2.2.2.2 gX1_put_X1_takeAway rfl rfl rfl (by decide +kernel) ⟨Nat.le_of_ble_eq_true rfl, Nat.le_of_ble_eq_true rfl⟩) rfl rfl (Nat.le_of_ble_eq_true rfl) ⟨Nat.le_of_ble_eq_true rfl, Nat.le_of_ble_eq_true rfl⟩ dX1_put_35 (fun u hu => ?_)
      obtain ⟨h18, fi19, fw20, rfl, hF21⟩ := hu
      refine z_x (y := (xi (xi (xi x (zp j 13) h18) (zp j 14) fi19) (zp j 15) fw20)) (zF3 _ (by unfold zp; omega) (by unfold zp; omega) (by unfold zp; omega) _ _ _ _ _ _) ?_
      have h8h18 := hF21.2.2.1
      refine z_iload_n 38 C dX1_put_38 rfl 3 rfl ?_
      refine z_iload_n 39 C dX1_put_39 rfl 0 rfl ?_
      refine z_icmp_le 40 C 51 dX1_put_40 (by decide) (fun h40 => ?_) (fun h40 => ?_)
      · exact z_vret 51 C hr ⟨h18, fi19, fw20, rfl, by unfold zadd zaddw; rw [if_neg (show ¬ (zix L v < L.length ∨ L.length < 4) by omega), if_neg (show ¬ (zix L v < L.length ∨ L.length < 4) by omega)]; rw [show zmin w (zmn (zLw L) (L.length - 1)) = _ from ev14, if_neg (Int32.not_lt.mpr h40)]; exact hF21⟩ dX1_put_51
      · refine z_aload_n 43 C dX1_put_43 rfl 1 rfl ?_
        refine z_iload_n 44 C dX1_put_44 rfl 2 rfl ?_
        refine z_iload_n 45 C dX1_put_45 rfl 3 rfl ?_
        refine z_iload_n 46 C dX1_put_46 rfl 0 rfl ?_
        refine z_isub (v := w - v14) 47 C dX1_put_47 rfl ?_
        have q22 : (xi (xi (xi x (zp j 13) h18) (zp j 14) fi19) (zp j 15) fw20).1 (zp j 13) = h18 := by rw [xi_n _ (by unfold zp; omega), xi_n _ (by unfold zp; omega), xi_s]
        have q23 : (xi (xi (xi x (zp j 13) h18) (zp j 14) fi19) (zp j 15) fw20).1 (zp j 14) = fi19 := by rw [xi_n _ (by unfold zp; omega), xi_s]
        have q24 : (xi (xi (xi x (zp j 13) h18) (zp j 14) fi19) (zp j 15) fw20).1 (zp j 15) = fw20 := by rw [xi_s]
        refine z_callVv 48 C (As := [.int v, .int (w - v14)]) 2 (kO_few hj) rfl (c_X1_grow l hg (xi (xi (xi x (zp j 13) h18) (zp j 14) fi19) (zp j 15) fw20) j hj (ztk L v14) (aw + v14) (by rw [q22, q23, q24]; exact hF21) v (w - v14)) (cwV 2 C.1.2.2.2.2 gX1_put_X1_grow rfl rfl rfl (by decide +kernel) ⟨Nat.le_of_ble_eq_true rfl, Nat.le_of_ble_eq_true rfl⟩) rfl rfl (Nat.le_of_ble_eq_true rfl) ⟨Nat.le_of_ble_eq_true rfl, Nat.le_of_ble_eq_true rfl⟩ dX1_put_48 (fun u hu => ?_)
        obtain ⟨h25, fi26, fw27, rfl, hF28⟩ := hu
        refine z_x (y := (xi (xi (xi x (zp j 13) h25) (zp j 14) fi26) (zp j 15) fw27)) (zF3 _ (by unfold zp; omega) (by unfold zp; omega) (by unfold zp; omega) _ _ _ _ _ _) ?_
        have h8h25 := hF28.2.2.1
        exact z_vret 51 C hr ⟨h25, fi26, fw27, rfl, by unfold zadd zaddw; rw [if_neg (show ¬ (zix L v < L.length ∨ L.length < 4) by omega), if_neg (show ¬ (zix L v < L.length ∨ L.length < 4) by omega)]; rw [show zmin w (zmn (zLw L) (L.length - 1)) = _ from ev14, if_pos (Int32.not_le.mp h40)]; exact hF28⟩ dX1_put_51
    · refine z_aload_n 17 C dX1_put_17 rfl 0 rfl ?_
      refine z_iload_n 18 C dX1_put_18 rfl 1 rfl ?_
      refine z_iload_n 19 C dX1_put_19 rfl 2 rfl ?_
      have q29 : (xi (xi (xi x (zp j 13) (x.1 (zp j 13))) (zp j 14) (x.1 (zp j 14))) (zp j 15) (x.1 (zp j 15))).1 (zp j 13) = x.1 (zp j 13) := by rw [xi_n _ (by unfold zp; omega), xi_n _ (by unfold zp; omega), xi_s]
      have q30 : (xi (xi (xi x (zp j 13) (x.1 (zp j 13))) (zp j 14) (x.1 (zp j 14))) (zp j 15) (x.1 (zp j 15))).1 (zp j 14) = x.1 (zp j 14) := by rw [xi_n _ (by unfold zp; omega), xi_s]
      have q31 : (xi (xi (xi x (zp j 13) (x.1 (zp j 13))) (zp j 14) (x.1 (zp j 14))) (zp j 15) (x.1 (zp j 15))).1 (zp j 15) = x.1 (zp j 15) := by rw [xi_s]
      refine z_callVv 20 C (As := [.int v, .int w]) 2 (kO_few hj) rfl (c_X1_grow l hg (xi (xi (xi x (zp j 13) (x.1 (zp j 13))) (zp j 14) (x.1 (zp j 14))) (zp j 15) (x.1 (zp j 15))) j hj L aw (by rw [q29, q30, q31]; exact hL) v w) (cwV 2 C.1.2.2.2.2 gX1_put_X1_grow rfl rfl rfl (by decide +kernel) ⟨Nat.le_of_ble_eq_true rfl, Nat.le_of_ble_eq_true rfl⟩) rfl rfl (Nat.le_of_ble_eq_true rfl) ⟨Nat.le_of_ble_eq_true rfl, Nat.le_of_ble_eq_true rfl⟩ dX1_put_20 (fun u hu => ?_)
      obtain ⟨h32, fi33, fw34, rfl, hF35⟩ := hu
      refine z_x (y := (xi (xi (xi x (zp j 13) h32) (zp j 14) fi33) (zp j 15) fw34)) (zF3 _ (by unfold zp; omega) (by unfold zp; omega) (by unfold zp; omega) _ _ _ _ _ _) ?_
      have h8h32 := hF35.2.2.1
      exact z_vret 23 C hr ⟨h32, fi33, fw34, rfl, by unfold zadd zaddw; rw [if_pos (show zix L v < L.length ∨ L.length < 4 from Or.inr h14), if_pos (show zix L v < L.length ∨ L.length < 4 from Or.inr h14), Int32.add_zero]; exact hF35⟩ dX1_put_23
set_option maxHeartbeats 4000000 in
set_option maxRecDepth 100000 in
/-- X1_join -/
theorem c_X1_join (l : Launch) {g : zG} (hg : zOk g) (x : zT) (j o : Nat) (hj : j < 4) (ho : o < 4) (hjo : j ≠ o) (L : zCL) (aw : Int32) (hL : zFS (x.1 (zp j 13)) (x.1 (zp j 14)) (x.1 (zp j 15)) L aw) (K : zCL) (ow : Int32) (hK : zFS (x.1 (zp o 13)) (x.1 (zp o 14)) (x.1 (zp o 15)) K ow) : Met l yX1_join wsX1_join ({ frames := 2, cells := 0, slots := 0, locals := 46 }) (va_Pc [.ref (zad g (zp j 13)), .ref (zad g (zp o 13))] (zPre g x)) (va_Qv (fun (u : zT) => ∃ h fi fw : Nat → Int32, u = xi (xi (xi x (zp j 13) h) (zp j 14) fi) (zp j 15) fw ∧ zFS h fi fw (zmrg L K) (aw + ow + zmrgw L K)) (zB g) (zA g)) 0 0 (zA g) := by
  refine z_met (cc := cX1_join) (nL := 3) (ret := none) hg (by decide) rfl (Nat.le_of_ble_eq_true rfl) ?_
  intro p_ e_ s_ m_ args_ below_ meth_ c_ C hr
  show Z p_ l e_ _ s_ m_ args_ below_ meth_ c_ g 3 0 0 _ x 0 [(0, .ref (zad g (zp j 13))), (1, .ref (zad g (zp o 13)))] []
  have hw_f22 := C.1.2.2.2.2 (.fieldLink RX1 22 "Countcote$FewCounters" "used" "I") (by decide +kernel)
  have hinX1 : ∀ w ∈ wsX10, w ∈ wsX1_join := by decide +kernel
  have hw_f44 := C.1.2.2.2.2 (.fieldLink RX1 44 "Countcote$FewCounters" "away" "I") (by decide +kernel)
  have hw_f11 := C.1.2.2.2.2 (.fieldLink RX1 11 "Countcote$FewCounters" "items" "[I") (by decide +kernel)
  have hw_f15 := C.1.2.2.2.2 (.fieldLink RX1 15 "Countcote$FewCounters" "weights" "[I") (by decide +kernel)
  have h8 := hL.2.2.1
  refine z_x (y := (xi x (zp j 13) (x.1 (zp j 13)))) (xi_idf rfl) ?_
  refine z_x (y := (xi (xi x (zp j 13) (x.1 (zp j 13))) (zp j 14) (x.1 (zp j 14)))) (xi_idf (by rw [xi_n _ (by unfold zp; omega)])) ?_
  refine z_x (y := (xi (xi (xi x (zp j 13) (x.1 (zp j 13))) (zp j 14) (x.1 (zp j 14))) (zp j 15) (x.1 (zp j 15)))) (xi_idf (by rw [xi_n _ (by unfold zp; omega), xi_n _ (by unfold zp; omega)])) ?_
  have hK8 := hK.2.2.1
  refine z_iconst (v := nI 0) 0 C dX1_join_0 rfl ?_
  refine z_istore_n (lv' := [(2, .int (nI 0)), (0, .ref (zad g (zp j 13))), (1, .ref (zad g (zp o 13)))]) 1 C dX1_join_1 rfl (by decide) rfl ?_
  have J2 : ∀ (n2 : Nat) (i : Nat) (h : Nat → Int32) (fi : Nat → Int32) (fw : Nat → Int32), (i ≤ K.length) → (K.length < i + n2) → (zFS h fi fw (zjn L (K.take i)) aw) → Z p_ l e_ (headSpec wsX1_join ({ frames := 2, cells := 0, slots := 0, locals := 46 })).room s_ m_ args_ below_ meth_ c_ g 3 0 0 (MQ below_ (va_Qv (fun (u : zT) => ∃ h fi fw : Nat → Int32, u = xi (xi (xi x (zp j 13) h) (zp j 14) fi) (zp j 15) fw ∧ zFS h fi fw (zmrg L K) (aw + ow + zmrgw L K)) (zB g) (zA g)) args_ s_ 0 0 (zA g)) (xi (xi (xi x (zp j 13) h) (zp j 14) fi) (zp j 15) fw) 2 [(0, .ref (zad g (zp j 13))), (1, .ref (zad g (zp o 13))), (2, .int (nI i))] [] := by
    intro n2
    induction n2 with
    | zero => intro i h fi fw hi hn hF; exact absurd hn (by omega)
    | succ n2 ih2 =>
      intro i h fi fw hi hn hF
      refine z_iload_n 2 C dX1_join_2 rfl 2 rfl ?_
      refine z_aload_n 3 C dX1_join_3 rfl 1 rfl ?_
      refine z_geti (v := nI K.length) 4 C (ref := "Countcote$FewCounters") (T := TX1) (N := 4) (ci := 1) (q := 2) (kF_used ho) rfl hinX1 (by decide) rfl hw_f22 (by rw [xi_n _ (by unfold zp; omega), xi_n _ (by unfold zp; omega), xi_n _ (by unfold zp; omega), (hK.1)]) dX1_join_4 ?_
      refine z_icmp_geN 7 C 32 dX1_join_7 (by decide) (by omega) (by omega) (fun h7 => ?_) (fun h7 => ?_)
      · rw [show K.take i = K by rw [show i = K.length by omega]; exact List.take_length] at hF
        have hF8 := hF.2.2.1
        refine z_aload_n 32 C dX1_join_32 rfl 0 rfl ?_
        refine z_dup 33 C dX1_join_33 rfl ?_
        refine z_geti (v := h 1) 34 C (ref := "Countcote$FewCounters") (T := TX1) (N := 4) (ci := 1) (q := 3) (kF_away hj) rfl hinX1 (by decide) rfl hw_f44 (by rw [xi_n _ (by unfold zp; omega), xi_n _ (by unfold zp; omega), xi_s]) dX1_join_34 ?_
        refine z_aload_n 37 C dX1_join_37 rfl 1 rfl ?_
        refine z_geti (v := (x.1 (zp o 13)) 1) 38 C (ref := "Countcote$FewCounters") (T := TX1) (N := 4) (ci := 1) (q := 3) (kF_away ho) rfl hinX1 (by decide) rfl hw_f44 (by rw [xi_n _ (by unfold zp; omega), xi_n _ (by unfold zp; omega), xi_n _ (by unfold zp; omega)]) dX1_join_38 ?_
        refine z_iadd (v := (h 1) + ((x.1 (zp o 13)) 1)) 41 C dX1_join_41 rfl ?_
        obtain ⟨f1, ef1⟩ : ∃ f9 : Nat → Int32, f9 = upd h 1 ((h 1) + ((x.1 (zp o 13)) 1)) := ⟨_, rfl⟩
        refine z_puti 42 C (ref := "Countcote$FewCounters") (T := TX1) (N := 4) (ci := 1) (q := 3) (f := f1) (kF_away hj) rfl hinX1 tyX1 tyX1_ok nmX1 (by decide) rfl hw_f44 rfl (by decide +kernel) (by rw [xi_n _ (by unfold zp; omega), xi_n _ (by unfold zp; omega), xi_s]; exact ef1.symm) dX1_join_42 ?_
        refine z_x (y := (xi (xi (xi x (zp j 13) f1) (zp j 14) fi) (zp j 15) fw)) (by rw [xi_comm (k := zp j 15) (k' := zp j 13) _ (by unfold zp; omega), xi_comm (k := zp j 14) (k' := zp j 13) _ (by unfold zp; omega), xi_xi]) ?_
        have hG : zFS f1 fi fw (zjn L K) (aw + ow) := ⟨by rw [ef1, pk_un (by decide)]; exact hF.1, by rw [ef1, pk_us, hF.2.1, hK.2.1], hF.2.2.1, hF.2.2.2⟩
        refine z_aload_n 45 C dX1_join_45 rfl 0 rfl ?_
        refine z_geti (v := nI ((zjn L K).length)) 46 C (ref := "Countcote$FewCounters") (T := TX1) (N := 4) (ci := 1) (q := 2) (kF_used hj) rfl hinX1 (by decide) rfl hw_f22 (by rw [xi_n _ (by unfold zp; omega), xi_n _ (by unfold zp; omega), xi_s, (show f1 0 = nI ((zjn L K).length) by rw [ef1, pk_un (by decide)]; exact (hF.1))]) dX1_join_46 ?_
        refine z_iconst (v := nI 4) 49 C dX1_join_49 rfl ?_
        refine z_icmp_leN 50 C 62 dX1_join_50 (by decide) (by omega) (by omega) (fun h50 => ?_) (fun h50 => ?_)
        · exact z_vret 62 C hr ⟨f1, fi, fw, rfl, by unfold zmrg zmrgw; rw [if_neg (show ¬ 4 < (zjn L K).length by omega), if_neg (show ¬ 4 < (zjn L K).length by omega), Int32.add_zero]; exact hG⟩ dX1_join_62
        · refine z_aload_n 53 C dX1_join_53 rfl 0 rfl ?_
          refine z_aload_n 54 C dX1_join_54 rfl 0 rfl ?_
          refine z_iconst (v := nI 5) 55 C dX1_join_55 rfl ?_
          have q2 : (xi (xi (xi x (zp j 13) f1) (zp j 14) fi) (zp j 15) fw).1 (zp j 13) = f1 := by rw [xi_n _ (by unfold zp; omega), xi_n _ (by unfold zp; omega), xi_s]
          have q3 : (xi (xi (xi x (zp j 13) f1) (zp j 14) fi) (zp j 15) fw).1 (zp j 14) = fi := by rw [xi_n _ (by unfold zp; omega), xi_s]
          have q4 : (xi (xi (xi x (zp j 13) f1) (zp j 14) fi) (zp j 15) fw).1 (zp j 15) = fw := by rw [xi_s]
          refine z_callVi 56 C (As := [.int (nI 5)]) 1 (kO_few hj) rfl (c_X1_weightReachedBy l hg (xi (xi (xi x (zp j 13) f1) (zp j 14) fi) (zp j 15) fw) j hj (zjn L K) (aw + ow) (by rw [q2, q3, q4]; exact hG) 5 (by decide)) (cwV 1 C.1.2.2.2.2 gX1_join_X1_weightReachedBy rfl rfl rfl (by decide +kernel) ⟨Nat.le_of_ble_eq_true rfl, Nat.le_of_ble_eq_true rfl⟩) rfl rfl (Nat.le_of_ble_eq_true rfl) ⟨Nat.le_of_ble_eq_true rfl, Nat.le_of_ble_eq_true rfl⟩ dX1_join_56 (fun r u hu => ?_)
          obtain ⟨hu1, hu2⟩ := hu
          subst u
          subst r
          have q5 : (xi (xi (xi x (zp j 13) f1) (zp j 14) fi) (zp j 15) fw).1 (zp j 13) = f1 := by rw [xi_n _ (by unfold zp; omega), xi_n _ (by unfold zp; omega), xi_s]
          have q6 : (xi (xi (xi x (zp j 13) f1) (zp j 14) fi) (zp j 15) fw).1 (zp j 14) = fi := by rw [xi_n _ (by unfold zp; omega), xi_s]
          have q7 : (xi (xi (xi x (zp j 13) f1) (zp j 14) fi) (zp j 15) fw).1 (zp j 15) = fw := by rw [xi_s]
          refine z_callVv 59 C (As := [.int (zwr (zLw (zjn L K)) 5 (zjn L K).length (zjn L K).length)]) 1 (kO_few hj) rfl (c_X1_takeAway l hg (xi (xi (xi x (zp j 13) f1) (zp j 14) fi) (zp j 15) fw) j hj (zjn L K) (aw + ow) (by rw [q5, q6, q7]; exact hG) (zwr (zLw (zjn L K)) 5 (zjn L K).length (zjn L K).length)) (cwV 1 C.1.2.2.2.2 gX1_join_X1_takeAway rfl rfl rfl (by decide +kernel) ⟨Nat.le_of_ble_eq_true rfl, Nat.le_of_ble_eq_true rfl⟩) rfl rfl (Nat.le_of_ble_eq_true rfl) ⟨Nat.le_of_ble_eq_true rfl, Nat.le_of_ble_eq_true rfl⟩ dX1_join_59 (fun u hu => ?_)
          obtain ⟨h8, fi9, fw10, rfl, hF11⟩ := hu
          refine z_x (y := (xi (xi (xi x (zp j 13) h8) (zp j 14) fi9) (zp j 15) fw10)) (zF3 _ (by unfold zp; omega) (by unfold zp; omega) (by unfold zp; omega) _ _ _ _ _ _) ?_
          have h8h8 := hF11.2.2.1
          exact z_vret 62 C hr ⟨h8, fi9, fw10, rfl, by unfold zmrg zmrgw; rw [if_pos (show 4 < (zjn L K).length from h50), if_pos (show 4 < (zjn L K).length from h50)]; exact hF11⟩ dX1_join_62
      · refine z_aload_n 10 C dX1_join_10 rfl 0 rfl ?_
        refine z_aload_n 11 C dX1_join_11 rfl 1 rfl ?_
        refine z_getr 12 C (ref := "Countcote$FewCounters") (T := TX1) (N := 4) (ci := 1) (q := 0) (kR_items ho) rfl hinX1 (by decide) rfl hw_f11 dX1_join_12 ?_
        refine z_iload_n 15 C dX1_join_15 rfl 2 rfl ?_
        refine z_iald (v := (x.1 (zp o 14)) i) 16 C (kI_items ho) (by omega) (by rw [xi_n _ (by unfold zp; omega), xi_n _ (by unfold zp; omega), xi_n _ (by unfold zp; omega)]) dX1_join_16 ?_
        refine z_aload_n 17 C dX1_join_17 rfl 1 rfl ?_
        refine z_getr 18 C (ref := "Countcote$FewCounters") (T := TX1) (N := 4) (ci := 1) (q := 1) (kR_wts ho) rfl hinX1 (by decide) rfl hw_f15 dX1_join_18 ?_
        refine z_iload_n 21 C dX1_join_21 rfl 2 rfl ?_
        refine z_iald (v := (x.1 (zp o 15)) i) 22 C (kI_wts ho) (by omega) (by rw [xi_n _ (by unfold zp; omega), xi_n _ (by unfold zp; omega), xi_n _ (by unfold zp; omega)]) dX1_join_22 ?_
        have q12 : (xi (xi (xi x (zp j 13) h) (zp j 14) fi) (zp j 15) fw).1 (zp j 13) = h := by rw [xi_n _ (by unfold zp; omega), xi_n _ (by unfold zp; omega), xi_s]
        have q13 : (xi (xi (xi x (zp j 13) h) (zp j 14) fi) (zp j 15) fw).1 (zp j 14) = fi := by rw [xi_n _ (by unfold zp; omega), xi_s]
        have q14 : (xi (xi (xi x (zp j 13) h) (zp j 14) fi) (zp j 15) fw).1 (zp j 15) = fw := by rw [xi_s]
        refine z_callVv 23 C (As := [.int ((x.1 (zp o 14)) i), .int ((x.1 (zp o 15)) i)]) 2 (kO_few hj) rfl (c_X1_grow l hg (xi (xi (xi x (zp j 13) h) (zp j 14) fi) (zp j 15) fw) j hj (zjn L (K.take i)) aw (by rw [q12, q13, q14]; exact hF) ((x.1 (zp o 14)) i) ((x.1 (zp o 15)) i)) (cwV 2 C.1.2.2.2.2 gX1_join_X1_grow rfl rfl rfl (by decide +kernel) ⟨Nat.le_of_ble_eq_true rfl, Nat.le_of_ble_eq_true rfl⟩) rfl rfl (Nat.le_of_ble_eq_true rfl) ⟨Nat.le_of_ble_eq_true rfl, Nat.le_of_ble_eq_true rfl⟩ dX1_join_23 (fun u hu => ?_)
        obtain ⟨h15, fi16, fw17, rfl, hF18⟩ := hu
        refine z_x (y := (xi (xi (xi x (zp j 13) h15) (zp j 14) fi16) (zp j 15) fw17)) (zF3 _ (by unfold zp; omega) (by unfold zp; omega) (by unfold zp; omega) _ _ _ _ _ _) ?_
        have h8h15 := hF18.2.2.1
        refine z_iinc (v' := nI (i + 1)) (lv' := [(2, .int (nI (i + 1))), (0, .ref (zad g (zp j 13))), (1, .ref (zad g (zp o 13)))]) 26 C dX1_join_26 (q := 2) rfl (zn_inc i 1) (by decide) rfl ?_
        refine z_goto 29 C 2 dX1_join_29 (by decide) ?_
        refine z_lv (lv' := [(0, .ref (zad g (zp j 13))), (1, .ref (zad g (zp o 13))), (2, .int (nI (i + 1)))]) [1, 2, 0] rfl ?_
        exact ih2 (i + 1) h15 fi16 fw17 (by omega) (by omega) (by rw [zjn_s h7, ← (hK.2.2.2 i h7).1, ← (hK.2.2.2 i h7).2]; exact hF18)
  refine z_lv (lv' := [(0, .ref (zad g (zp j 13))), (1, .ref (zad g (zp o 13))), (2, .int (nI 0))]) [1, 2, 0] rfl ?_
  exact J2 (K.length + 1) 0 (x.1 (zp j 13)) (x.1 (zp j 14)) (x.1 (zp j 15)) (Nat.zero_le _) (by omega) hL
set_option maxHeartbeats 4000000 in
set_option maxRecDepth 100000 in
/-- X1_empty -/
theorem c_X1_empty (l : Launch) {g : zG} (hg : zOk g) (x : zT) (j : Nat) (hj : j < 4) : Met l yX1_empty wsX1_empty ({ frames := 0, cells := 0, slots := 0, locals := 0 }) (va_Pc [.ref (zad g (zp j 13))] (zPre g x)) (va_Qv (fun (u : zT) => ∃ h fi fw : Nat → Int32, u = xi (xi (xi x (zp j 13) h) (zp j 14) fi) (zp j 15) fw ∧ zFS h fi fw ([]) (0)) (zB g) (zA g)) 0 0 (zA g) := by
  refine z_met (cc := cX1_empty) (nL := 1) (ret := none) hg (by decide) rfl (Nat.le_of_ble_eq_true rfl) ?_
  intro p_ e_ s_ m_ args_ below_ meth_ c_ C hr
  show Z p_ l e_ _ s_ m_ args_ below_ meth_ c_ g 1 0 0 _ x 0 [(0, .ref (zad g (zp j 13)))] []
  have hw_f22 := C.1.2.2.2.2 (.fieldLink RX1 22 "Countcote$FewCounters" "used" "I") (by decide +kernel)
  have hinX1 : ∀ w ∈ wsX10, w ∈ wsX1_empty := by decide +kernel
  have hw_f44 := C.1.2.2.2.2 (.fieldLink RX1 44 "Countcote$FewCounters" "away" "I") (by decide +kernel)
  refine z_x (y := (xi x (zp j 13) (x.1 (zp j 13)))) (xi_idf rfl) ?_
  refine z_x (y := (xi (xi x (zp j 13) (x.1 (zp j 13))) (zp j 14) (x.1 (zp j 14)))) (xi_idf (by rw [xi_n _ (by unfold zp; omega)])) ?_
  refine z_x (y := (xi (xi (xi x (zp j 13) (x.1 (zp j 13))) (zp j 14) (x.1 (zp j 14))) (zp j 15) (x.1 (zp j 15)))) (xi_idf (by rw [xi_n _ (by unfold zp; omega), xi_n _ (by unfold zp; omega)])) ?_
  refine z_aload_n 0 C dX1_empty_0 rfl 0 rfl ?_
  refine z_iconst (v := nI 0) 1 C dX1_empty_1 rfl ?_
  obtain ⟨f1, ef1⟩ : ∃ f9 : Nat → Int32, f9 = upd (x.1 (zp j 13)) 0 (nI 0) := ⟨_, rfl⟩
  refine z_puti 2 C (ref := "Countcote$FewCounters") (T := TX1) (N := 4) (ci := 1) (q := 2) (f := f1) (kF_used hj) rfl hinX1 tyX1 tyX1_ok nmX1 (by decide) rfl hw_f22 rfl (by decide +kernel) (by rw [xi_n _ (by unfold zp; omega), xi_n _ (by unfold zp; omega), xi_s]; exact ef1.symm) dX1_empty_2 ?_
  refine z_x (y := (xi (xi (xi x (zp j 13) f1) (zp j 14) (x.1 (zp j 14))) (zp j 15) (x.1 (zp j 15)))) (by rw [xi_comm (k := zp j 15) (k' := zp j 13) _ (by unfold zp; omega), xi_comm (k := zp j 14) (k' := zp j 13) _ (by unfold zp; omega), xi_xi]) ?_
  refine z_aload_n 5 C dX1_empty_5 rfl 0 rfl ?_
  refine z_iconst (v := nI 0) 6 C dX1_empty_6 rfl ?_
  obtain ⟨f2, ef2⟩ : ∃ f9 : Nat → Int32, f9 = upd f1 1 (nI 0) := ⟨_, rfl⟩
  refine z_puti 7 C (ref := "Countcote$FewCounters") (T := TX1) (N := 4) (ci := 1) (q := 3) (f := f2) (kF_away hj) rfl hinX1 tyX1 tyX1_ok nmX1 (by decide) rfl hw_f44 rfl (by decide +kernel) (by rw [xi_n _ (by unfold zp; omega), xi_n _ (by unfold zp; omega), xi_s]; exact ef2.symm) dX1_empty_7 ?_
  refine z_x (y := (xi (xi (xi x (zp j 13) f2) (zp j 14) (x.1 (zp j 14))) (zp j 15) (x.1 (zp j 15)))) (by rw [xi_comm (k := zp j 15) (k' := zp j 13) _ (by unfold zp; omega), xi_comm (k := zp j 14) (k' := zp j 13) _ (by unfold zp; omega), xi_xi]) ?_
  exact z_vret 10 C hr ⟨f2, x.1 (zp j 14), x.1 (zp j 15), rfl, by rw [ef2, pk_un (by decide), ef1, pk_us] <;> rfl, by rw [ef2, pk_us] <;> rfl, Nat.zero_le _, fun q hq => absurd hq (Nat.not_lt_zero q)⟩ dX1_empty_10
