/-! ===== signed sketches ===== -/
def zsa5 (r : Nat) : Nat := if r = 0 then 5 else if r = 1 then 9 else if r = 2 then 14 else if r = 3 then 27 else 33
def zsb5 (r : Nat) : Nat := if r = 0 then 1 else if r = 1 then 8 else if r = 2 then 2 else if r = 3 then 40 else 17
def zse5 (r : Nat) : Nat := if r = 0 then 3 else if r = 1 then 10 else if r = 2 then 21 else if r = 3 then 29 else 44
def zsf5 (r : Nat) : Nat := if r = 0 then 7 else if r = 1 then 0 else if r = 2 then 13 else if r = 3 then 5 else 30
theorem zsa5_t {r : Nat} (h : r < 5) : ([5, 9, 14, 27, 33] : List Int32).getD r 0 = nI (zsa5 r) := by
  have h9 : r = 0 ∨ r = 1 ∨ r = 2 ∨ r = 3 ∨ r = 4 := by omega
  rcases h9 with e | e | e | e | e <;> subst e <;> rfl
theorem zsb5_t {r : Nat} (h : r < 5) : ([1, 8, 2, 40, 17] : List Int32).getD r 0 = nI (zsb5 r) := by
  have h9 : r = 0 ∨ r = 1 ∨ r = 2 ∨ r = 3 ∨ r = 4 := by omega
  rcases h9 with e | e | e | e | e <;> subst e <;> rfl
theorem zse5_t {r : Nat} (h : r < 5) : ([3, 10, 21, 29, 44] : List Int32).getD r 0 = nI (zse5 r) := by
  have h9 : r = 0 ∨ r = 1 ∨ r = 2 ∨ r = 3 ∨ r = 4 := by omega
  rcases h9 with e | e | e | e | e <;> subst e <;> rfl
theorem zsf5_t {r : Nat} (h : r < 5) : ([7, 0, 13, 5, 30] : List Int32).getD r 0 = nI (zsf5 r) := by
  have h9 : r = 0 ∨ r = 1 ∨ r = 2 ∨ r = 3 ∨ r = 4 := by omega
  rcases h9 with e | e | e | e | e <;> subst e <;> rfl
def zscol (r i : Nat) : Nat := (zsa5 r * i + zsb5 r) % 67 % 8
def zspar (r i : Nat) : Nat := (zse5 r * i + zsf5 r) % 71 % 2
def zsg (r i : Nat) : Int32 := if zspar r i = 0 then 1 else -1
def zsp (r i : Nat) : Nat := r * 8 + zscol r i
theorem zscol_lt (r i : Nat) : zscol r i < 8 := Nat.mod_lt _ (by decide)
theorem zsp_lt {r : Nat} (i : Nat) (h : r < 5) : zsp r i < 40 := by
  have := zscol_lt r i
  unfold zsp
  omega
theorem zsp_div (r i : Nat) : zsp r i / 8 = r := by
  have := zscol_lt r i
  unfold zsp
  omega
theorem zsab_b {r i : Nat} (hr : r < 5) (hi : i < 64) : zsa5 r * i + zsb5 r < 4000 := by
  have h9 : r = 0 ∨ r = 1 ∨ r = 2 ∨ r = 3 ∨ r = 4 := by omega
  rcases h9 with e | e | e | e | e <;> subst e <;> simp [zsa5, zsb5] <;> omega
theorem zsef_b {r i : Nat} (hr : r < 5) (hi : i < 64) : zse5 r * i + zsf5 r < 4000 := by
  have h9 : r = 0 ∨ r = 1 ∨ r = 2 ∨ r = 3 ∨ r = 4 := by omega
  rcases h9 with e | e | e | e | e <;> subst e <;> simp [zse5, zsf5] <;> omega
def zsput (f : Nat → Int32) (i : Nat) (w : Int32) : Nat → Int32 := fun q => if q < 40 ∧ q = zsp (q / 8) i then f q + zsg (q / 8) i * w else f q
theorem zsput_of {f f1 f2 f3 f4 f5 : Nat → Int32} {i : Nat} {w : Int32} (e1 : f1 = upd f (zsp 0 i) (f (zsp 0 i) + zsg 0 i * w)) (e2 : f2 = upd f1 (zsp 1 i) (f1 (zsp 1 i) + zsg 1 i * w)) (e3 : f3 = upd f2 (zsp 2 i) (f2 (zsp 2 i) + zsg 2 i * w)) (e4 : f4 = upd f3 (zsp 3 i) (f3 (zsp 3 i) + zsg 3 i * w)) (e5 : f5 = upd f4 (zsp 4 i) (f4 (zsp 4 i) + zsg 4 i * w)) : f5 = zsput f i w := by
  have key : ∀ (g g' : Nat → Int32) (r q : Nat), g' = upd g (zsp r i) (g (zsp r i) + zsg r i * w) → g' q = if q / 8 = r ∧ q = zsp r i then g q + zsg r i * w else g q := by
    intro g g' r q e
    rw [e]
    by_cases h : q = zsp r i
    · subst h
      rw [pk_us, if_pos ⟨zsp_div r i, rfl⟩]
    · rw [pk_un h, if_neg (fun z => h z.2)]
  funext q
  have k1 := key f f1 0 q e1
  have k2 := key f1 f2 1 q e2
  have k3 := key f2 f3 2 q e3
  have k4 := key f3 f4 3 q e4
  have k5 := key f4 f5 4 q e5
  unfold zsput
  by_cases h40 : q < 40
  · have h9 : q / 8 = 0 ∨ q / 8 = 1 ∨ q / 8 = 2 ∨ q / 8 = 3 ∨ q / 8 = 4 := by omega
    rcases h9 with e | e | e | e | e <;> rw [e] at k1 k2 k3 k4 k5 ⊢ <;> simp at k1 k2 k3 k4 k5 <;> simp [h40, k1, k2, k3, k4, k5]
  · rw [if_neg (fun z => h40 z.1)]
    have n0 : q / 8 ≠ 0 := by omega
    have n1 : q / 8 ≠ 1 := by omega
    have n2 : q / 8 ≠ 2 := by omega
    have n3 : q / 8 ≠ 3 := by omega
    have n4 : q / 8 ≠ 4 := by omega
    rw [k5, if_neg (fun z => n4 z.1), k4, if_neg (fun z => n3 z.1), k3, if_neg (fun z => n2 z.1), k2, if_neg (fun z => n1 z.1), k1, if_neg (fun z => n0 z.1)]
/-! the middle one of five numbers -/
def zb1 (b : Bool) : Nat := if b then 1 else 0
def zc5 (P : Int64 → Bool) (f : Nat → Int64) : Nat := zb1 (P (f 0)) + zb1 (P (f 1)) + zb1 (P (f 2)) + zb1 (P (f 3)) + zb1 (P (f 4))
def zMid (f : Nat → Int64) (r : Int64) : Prop := (∃ k, k < 5 ∧ f k = r) ∧ zc5 (fun v => decide (v < r)) f ≤ 2 ∧ zc5 (fun v => decide (r < v)) f ≤ 2
def zPm (f h : Nat → Int64) : Prop := ∀ P, zc5 P h = zc5 P f
theorem zb1_le (b : Bool) : zb1 b ≤ 1 := by cases b <;> decide
theorem zc5_ex {f : Nat → Int64} {r : Int64} : (∃ k, k < 5 ∧ f k = r) ↔ 1 ≤ zc5 (fun v => decide (v = r)) f := by
  constructor
  · intro ⟨k, hk, h⟩
    have h9 : k = 0 ∨ k = 1 ∨ k = 2 ∨ k = 3 ∨ k = 4 := by omega
    rcases h9 with e | e | e | e | e <;> subst e <;> simp [zc5, h, zb1] <;> omega
  · intro h
    by_cases h0 : f 0 = r
    · exact ⟨0, by decide, h0⟩
    by_cases h1 : f 1 = r
    · exact ⟨1, by decide, h1⟩
    by_cases h2 : f 2 = r
    · exact ⟨2, by decide, h2⟩
    by_cases h3 : f 3 = r
    · exact ⟨3, by decide, h3⟩
    by_cases h4 : f 4 = r
    · exact ⟨4, by decide, h4⟩
    simp [zc5, h0, h1, h2, h3, h4, zb1] at h
theorem zMid_pm {f h : Nat → Int64} {r : Int64} (hp : zPm f h) (hm : zMid h r) : zMid f r := by
  obtain ⟨h1, h2, h3⟩ := hm
  refine ⟨zc5_ex.mpr ?_, ?_, ?_⟩
  · rw [← hp]; exact zc5_ex.mp h1
  · rw [← hp]; exact h2
  · rw [← hp]; exact h3
theorem zMid_congr {f h : Nat → Int64} {r : Int64} (hp : ∀ k, k < 5 → h k = f k) (hm : zMid h r) : zMid f r := by
  refine zMid_pm (fun P => ?_) hm
  unfold zc5
  rw [hp 0 (by decide), hp 1 (by decide), hp 2 (by decide), hp 3 (by decide), hp 4 (by decide)]
theorem zPm_swap {f h : Nat → Int64} {i : Nat} (h0 : 0 < i) (h5 : i < 5) (hp : zPm f h) : zPm f (vp_updL (vp_updL h (i - 1) (h i)) i (h (i - 1))) := by
  intro P
  rw [← hp P]
  have h9 : i = 1 ∨ i = 2 ∨ i = 3 ∨ i = 4 := by omega
  rcases h9 with e | e | e | e <;> subst e <;> simp [zc5, vp_updL] <;> omega
theorem zMid_sorted {h : Nat → Int64} (hs : ∀ a b, a < b → b < 5 → h a ≤ h b) : zMid h (h 2) := by
  have h02 := Int64.le_iff_toInt_le.mp (hs 0 2 (by decide) (by decide))
  have h12 := Int64.le_iff_toInt_le.mp (hs 1 2 (by decide) (by decide))
  have h23 := Int64.le_iff_toInt_le.mp (hs 2 3 (by decide) (by decide))
  have h24 := Int64.le_iff_toInt_le.mp (hs 2 4 (by decide) (by decide))
  have n1 : ¬ h 3 < h 2 := fun z => by have := Int64.lt_iff_toInt_lt.mp z; omega
  have n2 : ¬ h 4 < h 2 := fun z => by have := Int64.lt_iff_toInt_lt.mp z; omega
  have n3 : ¬ h 2 < h 2 := fun z => by have := Int64.lt_iff_toInt_lt.mp z; omega
  have n4 : ¬ h 2 < h 0 := fun z => by have := Int64.lt_iff_toInt_lt.mp z; omega
  have n5 : ¬ h 2 < h 1 := fun z => by have := Int64.lt_iff_toInt_lt.mp z; omega
  refine ⟨⟨2, by decide, rfl⟩, ?_, ?_⟩
  · have a0 := zb1_le (decide (h 0 < h 2))
    have a1 := zb1_le (decide (h 1 < h 2))
    have a2 : zb1 (decide (h 2 < h 2)) = 0 := by simp [zb1, n3]
    have a3 : zb1 (decide (h 3 < h 2)) = 0 := by simp [zb1, n1]
    have a4 : zb1 (decide (h 4 < h 2)) = 0 := by simp [zb1, n2]
    show zb1 (decide (h 0 < h 2)) + zb1 (decide (h 1 < h 2)) + zb1 (decide (h 2 < h 2)) + zb1 (decide (h 3 < h 2)) + zb1 (decide (h 4 < h 2)) ≤ 2
    omega
  · have a3 := zb1_le (decide (h 2 < h 3))
    have a4 := zb1_le (decide (h 2 < h 4))
    have a2 : zb1 (decide (h 2 < h 2)) = 0 := by simp [zb1, n3]
    have a0 : zb1 (decide (h 2 < h 0)) = 0 := by simp [zb1, n4]
    have a1 : zb1 (decide (h 2 < h 1)) = 0 := by simp [zb1, n5]
    show zb1 (decide (h 2 < h 0)) + zb1 (decide (h 2 < h 1)) + zb1 (decide (h 2 < h 2)) + zb1 (decide (h 2 < h 3)) + zb1 (decide (h 2 < h 4)) ≤ 2
    omega
theorem zb1_mono {a b : Bool} (h : a = true → b = true) : zb1 a ≤ zb1 b := by
  cases a <;> cases b <;> simp [zb1] at * 
theorem zMid_uniq {f : Nat → Int64} {r r' : Int64} (h : zMid f r) (h' : zMid f r') : r = r' := by
  have key : ∀ {r r' : Int64}, zMid f r → zMid f r' → ¬ r < r' := by
    intro r r' h h' hlt
    -- every value is at most r or at least r'.. each of the five is counted
    have e : ∀ v : Int64, 1 ≤ zb1 (decide (v < r')) + zb1 (decide (r < v)) := by
      intro v
      by_cases c : v < r'
      · simp [zb1, c]
      · have c2 : r < v := by
          have := Int64.lt_iff_toInt_lt.mp hlt
          have c3 : ¬ v.toInt < r'.toInt := fun z => c (Int64.lt_iff_toInt_lt.mpr z)
          exact Int64.lt_iff_toInt_lt.mpr (by omega)
        simp [zb1, c2]
    have s1 := h'.2.1
    have s2 := h.2.2
    have e0 := e (f 0)
    have e1 := e (f 1)
    have e2 := e (f 2)
    have e3 := e (f 3)
    have e4 := e (f 4)
    unfold zc5 at s1 s2
    dsimp only at s1 s2
    omega
  have k1 := key h h'
  have k2 := key h' h
  have k3 : ¬ r.toInt < r'.toInt := fun z => k1 (Int64.lt_iff_toInt_lt.mpr z)
  have k4 : ¬ r'.toInt < r.toInt := fun z => k2 (Int64.lt_iff_toInt_lt.mpr z)
  exact Int64.toInt_inj.mp (by omega)
theorem zlc_le {a b : Int64} (h : lg_cmp a b ≤ 0) : a ≤ b := by
  unfold lg_cmp at h
  by_cases c : a > b
  · rw [if_pos c] at h
    exact absurd h (by decide)
  · have c2 : ¬ b.toInt < a.toInt := fun z => c (Int64.lt_iff_toInt_lt.mpr z)
    exact Int64.le_iff_toInt_le.mpr (by omega)
theorem zlc_gt {a b : Int64} (h : ¬ lg_cmp a b ≤ 0) : b < a := by
  unfold lg_cmp at h
  by_cases c : a > b
  · exact c
  · rw [if_neg c] at h
    by_cases c2 : a = b
    · rw [if_pos c2] at h
      exact absurd (by decide) h
    · rw [if_neg c2] at h
      exact absurd (by decide) h
/-- sorted up to n, but for the place i, whose number is not above those behind it -/
def zSo (h : Nat → Int64) (n i : Nat) : Prop := (∀ a b, a < b → b ≤ n → a ≠ i → b ≠ i → h a ≤ h b) ∧ ∀ b, i < b → b ≤ n → h i ≤ h b
theorem zSo_0 {h : Nat → Int64} {n : Nat} (hs : ∀ a b, a < b → b < n → h a ≤ h b) : zSo h n n := ⟨fun a b h1 h2 _ h4 => hs a b h1 (by omega), fun b h1 h2 => absurd h1 (by omega)⟩
theorem zSo_e0 {h : Nat → Int64} {n i : Nat} (hs : zSo h n i) (h0 : i ≤ 0) : ∀ a b, a < b → b < n + 1 → h a ≤ h b := fun a b h1 h2 => by
  by_cases e : a = i
  · rw [e]; exact hs.2 b (by omega) (by omega)
  · exact hs.1 a b h1 (by omega) e (by omega)
theorem zSo_e1 {h : Nat → Int64} {n i : Nat} (hs : zSo h n i) (h0 : 0 < i) (hc : h (i - 1) ≤ h i) : ∀ a b, a < b → b < n + 1 → h a ≤ h b := fun a b h1 h2 => by
  by_cases e : a = i
  · rw [e]; exact hs.2 b (by omega) (by omega)
  · by_cases e2 : b = i
    · rw [e2]
      by_cases e3 : a = i - 1
      · rw [e3]; exact hc
      · have k1 := Int64.le_iff_toInt_le.mp (hs.1 a (i - 1) (by omega) (by omega) e (by omega))
        have k2 := Int64.le_iff_toInt_le.mp hc
        exact Int64.le_iff_toInt_le.mpr (by omega)
    · exact hs.1 a b h1 (by omega) e e2
theorem zSo_s {h h1 h2 : Nat → Int64} {n i : Nat} (hs : zSo h n i) (h0 : 0 < i) (hi : i ≤ n) (hc : h i < h (i - 1)) (e1 : h1 = vp_updL h (i - 1) (h i)) (e2 : h2 = vp_updL h1 i (h (i - 1))) : zSo h2 n (i - 1) := by
  have g1 : h2 i = h (i - 1) := by rw [e2, pk_uLs]
  have g2 : h2 (i - 1) = h i := by rw [e2, pk_uLn (by omega), e1, pk_uLs]
  have g3 : ∀ q, q ≠ i → q ≠ i - 1 → h2 q = h q := fun q n1 n2 => by rw [e2, pk_uLn n1, e1, pk_uLn n2]
  refine ⟨fun a b k1 k2 k3 k4 => ?_, fun b k1 k2 => ?_⟩
  · by_cases c1 : b = i
    · rw [c1, g1, g3 a (by omega) k3]
      exact hs.1 a (i - 1) (by omega) (by omega) (by omega) (by omega)
    · by_cases c2 : a = i
      · rw [c2, g1, g3 b c1 k4]
        exact hs.1 (i - 1) b (by omega) k2 (by omega) c1
      · rw [g3 a c2 k3, g3 b c1 k4]
        exact hs.1 a b k1 k2 c2 c1
  · rw [g2]
    by_cases c1 : b = i
    · rw [c1, g1]
      have := Int64.lt_iff_toInt_lt.mp hc
      exact Int64.le_iff_toInt_le.mpr (by omega)
    · rw [g3 b c1 (by omega)]
      exact hs.2 b (by omega) k2
set_option maxHeartbeats 4000000 in
set_option maxRecDepth 100000 in
/-- X3_columnOf -/
theorem c_X3_columnOf (l : Launch) {g : zG} (hg : zOk g) (x : zT) (row item : Nat) (hrow : row < 5) (hitem : item < 64) : Met l yX3_columnOf wsX3_columnOf ({ frames := 0, cells := 0, slots := 0, locals := 0 }) (va_Pc [.int (nI row), .int (nI item)] (zPre g x)) (va_Qi (fun (r : Int32) (u : zT) => u = x ∧ r = nI (zscol row item)) (zB g) (zA g)) 0 0 (zA g) := by
  refine z_met (cc := cX3_columnOf) (nL := 2) (ret := (some .int)) hg (by decide) rfl (Nat.le_of_ble_eq_true rfl) ?_
  intro p_ e_ s_ m_ args_ below_ meth_ c_ C hr
  show Z p_ l e_ _ s_ m_ args_ below_ meth_ c_ g 2 0 0 _ x 0 [(0, .int (nI row)), (1, .int (nI item))] []
  have hw_f17 := C.1.2.2.2.2 (.fieldLink RX3 17 "Countcote$SignedSketch" "COLUMN_FACTORS" "[I") (by decide +kernel)
  have hw_f20 := C.1.2.2.2.2 (.fieldLink RX3 20 "Countcote$SignedSketch" "COLUMN_SHIFTS" "[I") (by decide +kernel)
  have hb9 := zsab_b hrow hitem
  refine z_gets 0 C (n := 2) rfl hw_f17 dX3_columnOf_0 (fun t1 hT2 => ?_)
  refine z_iload_n 3 C dX3_columnOf_3 rfl 0 rfl ?_
  refine z_tld (v := nI (zsa5 row)) 4 C hT2 (show row < 5 from hrow) (by decide) (zsa5_t hrow) dX3_columnOf_4 ?_
  refine z_iload_n 5 C dX3_columnOf_5 rfl 1 rfl ?_
  refine z_imul (v := nI ((zsa5 row) * item)) 6 C dX3_columnOf_6 (pk_mul (zsa5 row) item) ?_
  refine z_gets 7 C (n := 3) rfl hw_f20 dX3_columnOf_7 (fun t3 hT4 => ?_)
  refine z_iload_n 10 C dX3_columnOf_10 rfl 0 rfl ?_
  refine z_tld (v := nI (zsb5 row)) 11 C hT4 (show row < 5 from hrow) (by decide) (zsb5_t hrow) dX3_columnOf_11 ?_
  refine z_iadd (v := nI (((zsa5 row) * item) + (zsb5 row))) 12 C dX3_columnOf_12 (nI_add ((zsa5 row) * item) (zsb5 row)) ?_
  refine z_bipush (v := nI 67) 13 C dX3_columnOf_13 rfl ?_
  refine z_irem (v := nI ((((zsa5 row) * item) + (zsb5 row)) % 67)) 15 C dX3_columnOf_15 (by decide) (pk_rem (by omega) (by omega) (by omega)) ?_
  refine z_bipush (v := nI 8) 16 C dX3_columnOf_16 rfl ?_
  refine z_irem (v := nI (((((zsa5 row) * item) + (zsb5 row)) % 67) % 8)) 18 C dX3_columnOf_18 (by decide) (pk_rem (by omega) (by omega) (by omega)) ?_
  exact z_iret 19 C hr ⟨rfl, rfl⟩ dX3_columnOf_19
set_option maxHeartbeats 4000000 in
set_option maxRecDepth 100000 in
/-- X3_signOf -/
theorem c_X3_signOf (l : Launch) {g : zG} (hg : zOk g) (x : zT) (row item : Nat) (hrow : row < 5) (hitem : item < 64) : Met l yX3_signOf wsX3_signOf ({ frames := 0, cells := 0, slots := 0, locals := 0 }) (va_Pc [.int (nI row), .int (nI item)] (zPre g x)) (va_Qi (fun (r : Int32) (u : zT) => u = x ∧ r = zsg row item) (zB g) (zA g)) 0 0 (zA g) := by
  refine z_met (cc := cX3_signOf) (nL := 2) (ret := (some .int)) hg (by decide) rfl (Nat.le_of_ble_eq_true rfl) ?_
  intro p_ e_ s_ m_ args_ below_ meth_ c_ C hr
  show Z p_ l e_ _ s_ m_ args_ below_ meth_ c_ g 2 0 0 _ x 0 [(0, .int (nI row)), (1, .int (nI item))] []
  have hw_f23 := C.1.2.2.2.2 (.fieldLink RX3 23 "Countcote$SignedSketch" "SIGN_FACTORS" "[I") (by decide +kernel)
  have hw_f26 := C.1.2.2.2.2 (.fieldLink RX3 26 "Countcote$SignedSketch" "SIGN_SHIFTS" "[I") (by decide +kernel)
  have hb9 := zsef_b hrow hitem
  refine z_gets 0 C (n := 4) rfl hw_f23 dX3_signOf_0 (fun t1 hT2 => ?_)
  refine z_iload_n 3 C dX3_signOf_3 rfl 0 rfl ?_
  refine z_tld (v := nI (zse5 row)) 4 C hT2 (show row < 5 from hrow) (by decide) (zse5_t hrow) dX3_signOf_4 ?_
  refine z_iload_n 5 C dX3_signOf_5 rfl 1 rfl ?_
  refine z_imul (v := nI ((zse5 row) * item)) 6 C dX3_signOf_6 (pk_mul (zse5 row) item) ?_
  refine z_gets 7 C (n := 5) rfl hw_f26 dX3_signOf_7 (fun t3 hT4 => ?_)
  refine z_iload_n 10 C dX3_signOf_10 rfl 0 rfl ?_
  refine z_tld (v := nI (zsf5 row)) 11 C hT4 (show row < 5 from hrow) (by decide) (zsf5_t hrow) dX3_signOf_11 ?_
  refine z_iadd (v := nI (((zse5 row) * item) + (zsf5 row))) 12 C dX3_signOf_12 (nI_add ((zse5 row) * item) (zsf5 row)) ?_
  refine z_bipush (v := nI 71) 13 C dX3_signOf_13 rfl ?_
  refine z_irem (v := nI ((((zse5 row) * item) + (zsf5 row)) % 71)) 15 C dX3_signOf_15 (by decide) (pk_rem (by omega) (by omega) (by omega)) ?_
  refine z_iconst (v := nI 2) 16 C dX3_signOf_16 rfl ?_
  refine z_irem (v := nI (((((zse5 row) * item) + (zsf5 row)) % 71) % 2)) 17 C dX3_signOf_17 (by decide) (pk_rem (by omega) (by omega) (by omega)) ?_
  refine z_if_neN 18 C 25 dX3_signOf_18 (by decide) (by omega) (fun h18 => ?_) (fun h18 => ?_)
  · refine z_iconst (v := (-1)) 25 C dX3_signOf_25 rfl ?_
    exact z_iret 26 C hr ⟨rfl, (if_neg (show ¬ zspar row item = 0 from h18)).symm⟩ dX3_signOf_26
  · refine z_iconst (v := nI 1) 21 C dX3_signOf_21 rfl ?_
    refine z_goto 22 C 26 dX3_signOf_22 (by decide) ?_
    exact z_iret 26 C hr ⟨rfl, (if_pos (show zspar row item = 0 from h18)).symm⟩ dX3_signOf_26
set_option maxHeartbeats 4000000 in
set_option maxRecDepth 100000 in
/-- X3_placeOf -/
theorem c_X3_placeOf (l : Launch) {g : zG} (hg : zOk g) (x : zT) (row item : Nat) (hrow : row < 5) (hitem : item < 64) : Met l yX3_placeOf wsX3_placeOf ({ frames := 1, cells := 0, slots := 0, locals := 21 }) (va_Pc [.int (nI row), .int (nI item)] (zPre g x)) (va_Qi (fun (r : Int32) (u : zT) => u = x ∧ r = nI (zsp row item)) (zB g) (zA g)) 0 0 (zA g) := by
  refine z_met (cc := cX3_placeOf) (nL := 2) (ret := (some .int)) hg (by decide) rfl (Nat.le_of_ble_eq_true rfl) ?_
  intro p_ e_ s_ m_ args_ below_ meth_ c_ C hr
  show Z p_ l e_ _ s_ m_ args_ below_ meth_ c_ g 2 0 0 _ x 0 [(0, .int (nI row)), (1, .int (nI item))] []
  refine z_iload_n 0 C dX3_placeOf_0 rfl 0 rfl ?_
  refine z_bipush (v := nI 8) 1 C dX3_placeOf_1 rfl ?_
  refine z_imul (v := nI (row * 8)) 3 C dX3_placeOf_3 (pk_mul row 8) ?_
  refine z_iload_n 4 C dX3_placeOf_4 rfl 0 rfl ?_
  refine z_iload_n 5 C dX3_placeOf_5 rfl 1 rfl ?_
  refine z_callSi 6 C (As := [.int (nI row), .int (nI item)]) 2 (c_X3_columnOf l hg x row item (by first | decide | omega) (by omega)) (va_cwS 2 C.1.2.2.2.2 gX3_placeOf_X3_columnOf rfl rfl rfl (by decide +kernel) ⟨Nat.le_of_ble_eq_true rfl, Nat.le_of_ble_eq_true rfl⟩) rfl rfl (Nat.le_of_ble_eq_true rfl) ⟨Nat.le_of_ble_eq_true rfl, Nat.le_of_ble_eq_true rfl⟩ dX3_placeOf_6 (fun r u hu => ?_)
  obtain ⟨hu1, hu2⟩ := hu
  subst u
  subst r
  have := zscol_lt row item
  refine z_iadd (v := nI ((row * 8) + (zscol row item))) 9 C dX3_placeOf_9 (nI_add (row * 8) (zscol row item)) ?_
  exact z_iret 10 C hr ⟨rfl, rfl⟩ dX3_placeOf_10
set_option maxHeartbeats 4000000 in
set_option maxRecDepth 100000 in
/-- X3_cellAt -/
theorem c_X3_cellAt (l : Launch) {g : zG} (hg : zOk g) (x : zT) (j : Nat) (hj : j < 4) (row col : Nat) (hrow : row < 5) (hcol : col < 8) : Met l yX3_cellAt wsX3_cellAt ({ frames := 0, cells := 0, slots := 0, locals := 0 }) (va_Pc [.ref (zad g (zp j 10)), .int (nI row), .int (nI col)] (zPre g x)) (va_Qi (fun (r : Int32) (u : zT) => u = x ∧ r = x.1 (zp j 11) (row * 8 + col)) (zB g) (zA g)) 0 0 (zA g) := by
  refine z_met (cc := cX3_cellAt) (nL := 3) (ret := (some .int)) hg (by decide) rfl (Nat.le_of_ble_eq_true rfl) ?_
  intro p_ e_ s_ m_ args_ below_ meth_ c_ C hr
  show Z p_ l e_ _ s_ m_ args_ below_ meth_ c_ g 3 0 0 _ x 0 [(0, .ref (zad g (zp j 10))), (1, .int (nI row)), (2, .int (nI col))] []
  have hw_f9 := C.1.2.2.2.2 (.fieldLink RX3 9 "Countcote$SignedSketch" "cells" "[I") (by decide +kernel)
  have hinX3 : ∀ w ∈ wsX30, w ∈ wsX3_cellAt := by decide +kernel
  refine z_aload_n 0 C dX3_cellAt_0 rfl 0 rfl ?_
  refine z_getr 1 C (ref := "Countcote$SignedSketch") (T := TX3) (N := 2) (ci := 3) (q := 0) (kR_scells hj) rfl hinX3 (by decide) rfl hw_f9 dX3_cellAt_1 ?_
  refine z_iload_n 4 C dX3_cellAt_4 rfl 1 rfl ?_
  refine z_bipush (v := nI 8) 5 C dX3_cellAt_5 rfl ?_
  refine z_imul (v := nI (row * 8)) 7 C dX3_cellAt_7 (pk_mul row 8) ?_
  refine z_iload_n 8 C dX3_cellAt_8 rfl 2 rfl ?_
  refine z_iadd (v := nI ((row * 8) + col)) 9 C dX3_cellAt_9 (nI_add (row * 8) col) ?_
  refine z_iald (v := (x.1 (zp j 11)) ((row * 8) + col)) 10 C (kI_scell hj) (by omega) rfl dX3_cellAt_10 ?_
  exact z_iret 11 C hr ⟨rfl, rfl⟩ dX3_cellAt_11
set_option maxHeartbeats 4000000 in
set_option maxRecDepth 100000 in
/-- X3_put -/
theorem c_X3_put (l : Launch) {g : zG} (hg : zOk g) (x : zT) (j : Nat) (hj : j < 4) (item : Nat) (hitem : item < 64) (w : Int32) : Met l yX3_put wsX3_put ({ frames := 2, cells := 0, slots := 0, locals := 42 }) (va_Pc [.ref (zad g (zp j 10)), .int (nI item), .int w] (zPre g x)) (va_Qv (fun (u : zT) => u = xi x (zp j 11) (zsput (x.1 (zp j 11)) item w)) (zB g) (zA g)) 0 0 (zA g) := by
  refine z_met (cc := cX3_put) (nL := 4) (ret := none) hg (by decide) rfl (Nat.le_of_ble_eq_true rfl) ?_
  intro p_ e_ s_ m_ args_ below_ meth_ c_ C hr
  show Z p_ l e_ _ s_ m_ args_ below_ meth_ c_ g 4 0 0 _ x 0 [(0, .ref (zad g (zp j 10))), (1, .int (nI item)), (2, .int w)] []
  have hw_f9 := C.1.2.2.2.2 (.fieldLink RX3 9 "Countcote$SignedSketch" "cells" "[I") (by decide +kernel)
  have hinX3 : ∀ w ∈ wsX30, w ∈ wsX3_put := by decide +kernel
  refine z_iconst (v := nI 0) 0 C dX3_put_0 rfl ?_
  refine z_istore_n (lv' := [(3, .int (nI 0)), (0, .ref (zad g (zp j 10))), (1, .int (nI item)), (2, .int w)]) 1 C dX3_put_1 rfl (by decide) rfl ?_
  refine z_iload_n 2 C dX3_put_2 rfl 0 rfl ?_
  refine z_iconst (v := nI 5) 3 C dX3_put_3 rfl ?_
  refine z_icmp_geN 4 C 33 dX3_put_4 (by decide) (by omega) (by omega) (fun h4 => absurd h4 (by omega)) (fun h4 => ?_)
  refine z_aload_n 7 C dX3_put_7 rfl 1 rfl ?_
  refine z_getr 8 C (ref := "Countcote$SignedSketch") (T := TX3) (N := 2) (ci := 3) (q := 0) (kR_scells hj) rfl hinX3 (by decide) rfl hw_f9 dX3_put_8 ?_
  refine z_iload_n 11 C dX3_put_11 rfl 0 rfl ?_
  refine z_iload_n 12 C dX3_put_12 rfl 2 rfl ?_
  refine z_callSi 13 C (As := [.int (nI 0), .int (nI item)]) 2 (c_X3_placeOf l hg x 0 item (by first | decide | omega) (by omega)) (va_cwS 2 C.1.2.2.2.2 gX3_put_X3_placeOf rfl rfl rfl (by decide +kernel) ⟨Nat.le_of_ble_eq_true rfl, Nat.le_of_ble_eq_true rfl⟩) rfl rfl (Nat.le_of_ble_eq_true rfl) ⟨Nat.le_of_ble_eq_true rfl, Nat.le_of_ble_eq_true rfl⟩ dX3_put_13 (fun r u hu => ?_)
  obtain ⟨hu1, hu2⟩ := hu
  subst u
  subst r
  have := zsp_lt (r := 0) item (by first | decide | omega)
  refine z_dup2 16 C dX3_put_16 rfl rfl ?_
  refine z_iald (v := (x.1 (zp j 11)) (zsp 0 item)) 17 C (kI_scell hj) (by omega) rfl dX3_put_17 ?_
  refine z_iload_n 18 C dX3_put_18 rfl 0 rfl ?_
  refine z_iload_n 19 C dX3_put_19 rfl 2 rfl ?_
  refine z_callSi 20 C (As := [.int (nI 0), .int (nI item)]) 2 (c_X3_signOf l hg x 0 item (by first | decide | omega) (by omega)) (va_cwS 2 C.1.2.2.2.2 gX3_put_X3_signOf rfl rfl rfl (by decide +kernel) ⟨Nat.le_of_ble_eq_true rfl, Nat.le_of_ble_eq_true rfl⟩) rfl rfl (Nat.le_of_ble_eq_true rfl) ⟨Nat.le_of_ble_eq_true rfl, Nat.le_of_ble_eq_true rfl⟩ dX3_put_20 (fun r u hu => ?_)
  obtain ⟨hu1, hu2⟩ := hu
  subst u
  subst r
  refine z_iload_n 23 C dX3_put_23 rfl 3 rfl ?_
  refine z_imul (v := (zsg 0 item) * w) 24 C dX3_put_24 rfl ?_
  refine z_iadd (v := ((x.1 (zp j 11)) (zsp 0 item)) + ((zsg 0 item) * w)) 25 C dX3_put_25 rfl ?_
  obtain ⟨f1, ef1⟩ : ∃ f9 : Nat → Int32, f9 = upd (x.1 (zp j 11)) (zsp 0 item) (((x.1 (zp j 11)) (zsp 0 item)) + ((zsg 0 item) * w)) := ⟨_, rfl⟩
  refine z_iast (f := f1) 26 C (kI_scell hj) (by omega) (by exact ef1.symm) dX3_put_26 ?_
  refine z_iinc (v' := nI 1) (lv' := [(3, .int (nI 1)), (0, .ref (zad g (zp j 10))), (1, .int (nI item)), (2, .int w)]) 27 C dX3_put_27 (q := 0) rfl rfl (by decide) rfl ?_
  refine z_goto 30 C 2 dX3_put_30 (by decide) ?_
  refine z_iload_n 2 C dX3_put_2 rfl 0 rfl ?_
  refine z_iconst (v := nI 5) 3 C dX3_put_3 rfl ?_
  refine z_icmp_geN 4 C 33 dX3_put_4 (by decide) (by omega) (by omega) (fun h4 => absurd h4 (by omega)) (fun h4 => ?_)
  refine z_aload_n 7 C dX3_put_7 rfl 1 rfl ?_
  refine z_getr 8 C (ref := "Countcote$SignedSketch") (T := TX3) (N := 2) (ci := 3) (q := 0) (kR_scells hj) rfl hinX3 (by decide) rfl hw_f9 dX3_put_8 ?_
  refine z_iload_n 11 C dX3_put_11 rfl 0 rfl ?_
  refine z_iload_n 12 C dX3_put_12 rfl 2 rfl ?_
  refine z_callSi 13 C (As := [.int (nI 1), .int (nI item)]) 2 (c_X3_placeOf l hg (xi x (zp j 11) f1) 1 item (by first | decide | omega) (by omega)) (va_cwS 2 C.1.2.2.2.2 gX3_put_X3_placeOf rfl rfl rfl (by decide +kernel) ⟨Nat.le_of_ble_eq_true rfl, Nat.le_of_ble_eq_true rfl⟩) rfl rfl (Nat.le_of_ble_eq_true rfl) ⟨Nat.le_of_ble_eq_true rfl, Nat.le_of_ble_eq_true rfl⟩ dX3_put_13 (fun r u hu => ?_)
  obtain ⟨hu1, hu2⟩ := hu
  subst u
  subst r
  have := zsp_lt (r := 1) item (by first | decide | omega)
  refine z_dup2 16 C dX3_put_16 rfl rfl ?_
  refine z_iald (v := f1 (zsp 1 item)) 17 C (kI_scell hj) (by omega) (by rw [xi_s]) dX3_put_17 ?_
  refine z_iload_n 18 C dX3_put_18 rfl 0 rfl ?_
  refine z_iload_n 19 C dX3_put_19 rfl 2 rfl ?_
  refine z_callSi 20 C (As := [.int (nI 1), .int (nI item)]) 2 (c_X3_signOf l hg (xi x (zp j 11) f1) 1 item (by first | decide | omega) (by omega)) (va_cwS 2 C.1.2.2.2.2 gX3_put_X3_signOf rfl rfl rfl (by decide +kernel) ⟨Nat.le_of_ble_eq_true rfl, Nat.le_of_ble_eq_true rfl⟩) rfl rfl (Nat.le_of_ble_eq_true rfl) ⟨Nat.le_of_ble_eq_true rfl, Nat.le_of_ble_eq_true rfl⟩ dX3_put_20 (fun r u hu => ?_)
  obtain ⟨hu1, hu2⟩ := hu
  subst u
  subst r
  refine z_iload_n 23 C dX3_put_23 rfl 3 rfl ?_
  refine z_imul (v := (zsg 1 item) * w) 24 C dX3_put_24 rfl ?_
  refine z_iadd (v := (f1 (zsp 1 item)) + ((zsg 1 item) * w)) 25 C dX3_put_25 rfl ?_
  obtain ⟨f2, ef2⟩ : ∃ f9 : Nat → Int32, f9 = upd f1 (zsp 1 item) ((f1 (zsp 1 item)) + ((zsg 1 item) * w)) := ⟨_, rfl⟩
  refine z_iast (f := f2) 26 C (kI_scell hj) (by omega) (by rw [xi_s]; exact ef2.symm) dX3_put_26 ?_
  refine z_x (y := (xi x (zp j 11) f2)) (by rw [xi_xi]) ?_
  refine z_iinc (v' := nI 2) (lv' := [(3, .int (nI 2)), (0, .ref (zad g (zp j 10))), (1, .int (nI item)), (2, .int w)]) 27 C dX3_put_27 (q := 0) rfl rfl (by decide) rfl ?_
  refine z_goto 30 C 2 dX3_put_30 (by decide) ?_
  refine z_iload_n 2 C dX3_put_2 rfl 0 rfl ?_
  refine z_iconst (v := nI 5) 3 C dX3_put_3 rfl ?_
  refine z_icmp_geN 4 C 33 dX3_put_4 (by decide) (by omega) (by omega) (fun h4 => absurd h4 (by omega)) (fun h4 => ?_)
  refine z_aload_n 7 C dX3_put_7 rfl 1 rfl ?_
  refine z_getr 8 C (ref := "Countcote$SignedSketch") (T := TX3) (N := 2) (ci := 3) (q := 0) (kR_scells hj) rfl hinX3 (by decide) rfl hw_f9 dX3_put_8 ?_
  refine z_iload_n 11 C dX3_put_11 rfl 0 rfl ?_
  refine z_iload_n 12 C dX3_put_12 rfl 2 rfl ?_
  refine z_callSi 13 C (As := [.int (nI 2), .int (nI item)]) 2 (c_X3_placeOf l hg (xi x (zp j 11) f2) 2 item (by first | decide | omega) (by omega)) (va_cwS 2 C.1.2.2.2.2 gX3_put_X3_placeOf rfl rfl rfl (by decide +kernel) ⟨Nat.le_of_ble_eq_true rfl, Nat.le_of_ble_eq_true rfl⟩) rfl rfl (Nat.le_of_ble_eq_true rfl) ⟨Nat.le_of_ble_eq_true rfl, Nat.le_of_ble_eq_true rfl⟩ dX3_put_13 (fun r u hu => ?_)
  obtain ⟨hu1, hu2⟩ := hu
  subst u
  subst r
  have := zsp_lt (r := 2) item (by first | decide | omega)
  refine z_dup2 16 C dX3_put_16 rfl rfl ?_
  refine z_iald (v := f2 (zsp 2 item)) 17 C (kI_scell hj) (by omega) (by rw [xi_s]) dX3_put_17 ?_
  refine z_iload_n 18 C dX3_put_18 rfl 0 rfl ?_
  refine z_iload_n 19 C dX3_put_19 rfl 2 rfl ?_
  refine z_callSi 20 C (As := [.int (nI 2), .int (nI item)]) 2 (c_X3_signOf l hg (xi x (zp j 11) f2) 2 item (by first | decide | omega) (by omega)) (va_cwS 2 C.1.2.2.2.2 gX3_put_X3_signOf rfl rfl rfl (by decide +kernel) ⟨Nat.le_of_ble_eq_true rfl, Nat.le_of_ble_eq_true rfl⟩) rfl rfl (Nat.le_of_ble_eq_true rfl) ⟨Nat.le_of_ble_eq_true rfl, Nat.le_of_ble_eq_true rfl⟩ dX3_put_20 (fun r u hu => ?_)
  obtain ⟨hu1, hu2⟩ := hu
  subst u
  subst r
  refine z_iload_n 23 C dX3_put_23 rfl 3 rfl ?_
  refine z_imul (v := (zsg 2 item) * w) 24 C dX3_put_24 rfl ?_
  refine z_iadd (v := (f2 (zsp 2 item)) + ((zsg 2 item) * w)) 25 C dX3_put_25 rfl ?_
  obtain ⟨f3, ef3⟩ : ∃ f9 : Nat → Int32, f9 = upd f2 (zsp 2 item) ((f2 (zsp 2 item)) + ((zsg 2 item) * w)) := ⟨_, rfl⟩
  refine z_iast (f := f3) 26 C (kI_scell hj) (by omega) (by rw [xi_s]; exact ef3.symm) dX3_put_26 ?_
  refine z_x (y := (xi x (zp j 11) f3)) (by rw [xi_xi]) ?_
  refine z_iinc (v' := nI 3) (lv' := [(3, .int (nI 3)), (0, .ref (zad g (zp j 10))), (1, .int (nI item)), (2, .int w)]) 27 C dX3_put_27 (q := 0) rfl rfl (by decide) rfl ?_
  refine z_goto 30 C 2 dX3_put_30 (by decide) ?_
  refine z_iload_n 2 C dX3_put_2 rfl 0 rfl ?_
  refine z_iconst (v := nI 5) 3 C dX3_put_3 rfl ?_
  refine z_icmp_geN 4 C 33 dX3_put_4 (by decide) (by omega) (by omega) (fun h4 => absurd h4 (by omega)) (fun h4 => ?_)
  refine z_aload_n 7 C dX3_put_7 rfl 1 rfl ?_
  refine z_getr 8 C (ref := "Countcote$SignedSketch") (T := TX3) (N := 2) (ci := 3) (q := 0) (kR_scells hj) rfl hinX3 (by decide) rfl hw_f9 dX3_put_8 ?_
  refine z_iload_n 11 C dX3_put_11 rfl 0 rfl ?_
  refine z_iload_n 12 C dX3_put_12 rfl 2 rfl ?_
  refine z_callSi 13 C (As := [.int (nI 3), .int (nI item)]) 2 (c_X3_placeOf l hg (xi x (zp j 11) f3) 3 item (by first | decide | omega) (by omega)) (va_cwS 2 C.1.2.2.2.2 gX3_put_X3_placeOf rfl rfl rfl (by decide +kernel) ⟨Nat.le_of_ble_eq_true rfl, Nat.le_of_ble_eq_true rfl⟩) rfl rfl (Nat.le_of_ble_eq_true rfl) ⟨Nat.le_of_ble_eq_true rfl, Nat.le_of_ble_eq_true rfl⟩ dX3_put_13 (fun r u hu => ?_)
  obtain ⟨hu1, hu2⟩ := hu
  subst u
  subst r
  have := zsp_lt (r := 3) item (by first | decide | omega)
  refine z_dup2 16 C dX3_put_16 rfl rfl ?_
  refine z_iald (v := f3 (zsp 3 item)) 17 C (kI_scell hj) (by omega) (by rw [xi_s]) dX3_put_17 ?_
  refine z_iload_n 18 C dX3_put_18 rfl 0 rfl ?_
  refine z_iload_n 19 C dX3_put_19 rfl 2 rfl ?_
  refine z_callSi 20 C (As := [.int (nI 3), .int (nI item)]) 2 (c_X3_signOf l hg (xi x (zp j 11) f3) 3 item (by first | decide | omega) (by omega)) (va_cwS 2 C.1.2.2.2.2 gX3_put_X3_signOf rfl rfl rfl (by decide +kernel) ⟨Nat.le_of_ble_eq_true rfl, Nat.le_of_ble_eq_true rfl⟩) rfl rfl (Nat.le_of_ble_eq_true rfl) ⟨Nat.le_of_ble_eq_true rfl, Nat.le_of_ble_eq_true rfl⟩ dX3_put_20 (fun r u hu => ?_)
  obtain ⟨hu1, hu2⟩ := hu
  subst u
  subst r
  refine z_iload_n 23 C dX3_put_23 rfl 3 rfl ?_
  refine z_imul (v := (zsg 3 item) * w) 24 C dX3_put_24 rfl ?_
  refine z_iadd (v := (f3 (zsp 3 item)) + ((zsg 3 item) * w)) 25 C dX3_put_25 rfl ?_
  obtain ⟨f4, ef4⟩ : ∃ f9 : Nat → Int32, f9 = upd f3 (zsp 3 item) ((f3 (zsp 3 item)) + ((zsg 3 item) * w)) := ⟨_, rfl⟩
  refine z_iast (f := f4) 26 C (kI_scell hj) (by omega) (by rw [xi_s]; exact ef4.symm) dX3_put_26 ?_
  refine z_x (y := (xi x (zp j 11) f4)) (by rw [xi_xi]) ?_
  refine z_iinc (v' := nI 4) (lv' := [(3, .int (nI 4)), (0, .ref (zad g (zp j 10))), (1, .int (nI item)), (2, .int w)]) 27 C dX3_put_27 (q := 0) rfl rfl (by decide) rfl ?_
  refine z_goto 30 C 2 dX3_put_30 (by decide) ?_
  refine z_iload_n 2 C dX3_put_2 rfl 0 rfl ?_
  refine z_iconst (v := nI 5) 3 C dX3_put_3 rfl ?_
  refine z_icmp_geN 4 C 33 dX3_put_4 (by decide) (by omega) (by omega) (fun h4 => absurd h4 (by omega)) (fun h4 => ?_)
  refine z_aload_n 7 C dX3_put_7 rfl 1 rfl ?_
  refine z_getr 8 C (ref := "Countcote$SignedSketch") (T := TX3) (N := 2) (ci := 3) (q := 0) (kR_scells hj) rfl hinX3 (by decide) rfl hw_f9 dX3_put_8 ?_
  refine z_iload_n 11 C dX3_put_11 rfl 0 rfl ?_
  refine z_iload_n 12 C dX3_put_12 rfl 2 rfl ?_
  refine z_callSi 13 C (As := [.int (nI 4), .int (nI item)]) 2 (c_X3_placeOf l hg (xi x (zp j 11) f4) 4 item (by first | decide | omega) (by omega)) (va_cwS 2 C.1.2.2.2.2 gX3_put_X3_placeOf rfl rfl rfl (by decide +kernel) ⟨Nat.le_of_ble_eq_true rfl, Nat.le_of_ble_eq_true rfl⟩) rfl rfl (Nat.le_of_ble_eq_true rfl) ⟨Nat.le_of_ble_eq_true rfl, Nat.le_of_ble_eq_true rfl⟩ dX3_put_13 (fun r u hu => ?_)
  obtain ⟨hu1, hu2⟩ := hu
  subst u
  subst r
  have := zsp_lt (r := 4) item (by first | decide | omega)
  refine z_dup2 16 C dX3_put_16 rfl rfl ?_
  refine z_iald (v := f4 (zsp 4 item)) 17 C (kI_scell hj) (by omega) (by rw [xi_s]) dX3_put_17 ?_
  refine z_iload_n 18 C dX3_put_18 rfl 0 rfl ?_
  refine z_iload_n 19 C dX3_put_19 rfl 2 rfl ?_
  refine z_callSi 20 C (As := [.int (nI 4), .int (nI item)]) 2 (c_X3_signOf l hg (xi x (zp j 11) f4) 4 item (by first | decide | omega) (by omega)) (va_cwS 2 C.1.2.2.2.2 gX3_put_X3_signOf rfl rfl rfl (by decide +kernel) ⟨Nat.le_of_ble_eq_true rfl, Nat.le_of_ble_eq_true rfl⟩) rfl rfl (Nat.le_of_ble_eq_true rfl) ⟨Nat.le_of_ble_eq_true rfl, Nat.le_of_ble_eq_true rfl⟩ dX3_put_20 (fun r u hu => ?_)
  obtain ⟨hu1, hu2⟩ := hu
  subst u
  subst r
  refine z_iload_n 23 C dX3_put_23 rfl 3 rfl ?_
  refine z_imul (v := (zsg 4 item) * w) 24 C dX3_put_24 rfl ?_
  refine z_iadd (v := (f4 (zsp 4 item)) + ((zsg 4 item) * w)) 25 C dX3_put_25 rfl ?_
  obtain ⟨f5, ef5⟩ : ∃ f9 : Nat → Int32, f9 = upd f4 (zsp 4 item) ((f4 (zsp 4 item)) + ((zsg 4 item) * w)) := ⟨_, rfl⟩
  refine z_iast (f := f5) 26 C (kI_scell hj) (by omega) (by rw [xi_s]; exact ef5.symm) dX3_put_26 ?_
  refine z_x (y := (xi x (zp j 11) f5)) (by rw [xi_xi]) ?_
  refine z_iinc (v' := nI 5) (lv' := [(3, .int (nI 5)), (0, .ref (zad g (zp j 10))), (1, .int (nI item)), (2, .int w)]) 27 C dX3_put_27 (q := 0) rfl rfl (by decide) rfl ?_
  refine z_goto 30 C 2 dX3_put_30 (by decide) ?_
  refine z_iload_n 2 C dX3_put_2 rfl 0 rfl ?_
  refine z_iconst (v := nI 5) 3 C dX3_put_3 rfl ?_
  refine z_icmp_geN 4 C 33 dX3_put_4 (by decide) (by omega) (by omega) (fun h4 => ?_) (fun h4 => absurd h4 (by omega))
  exact z_vret 33 C hr (by rw [← zsput_of ef1 ef2 ef3 ef4 ef5]) dX3_put_33
set_option maxHeartbeats 4000000 in
set_option maxRecDepth 100000 in
/-- X3_join -/
theorem c_X3_join (l : Launch) {g : zG} (hg : zOk g) (x : zT) (j o : Nat) (hj : j < 4) (ho : o < 4) (hjo : j ≠ o) : Met l yX3_join wsX3_join ({ frames := 0, cells := 0, slots := 0, locals := 0 }) (va_Pc [.ref (zad g (zp j 10)), .ref (zad g (zp o 10))] (zPre g x)) (va_Qv (fun (u : zT) => ∃ f : Nat → Int32, u = xi x (zp j 11) f ∧ ∀ q, q < 40 → f q = x.1 (zp j 11) q + x.1 (zp o 11) q) (zB g) (zA g)) 0 0 (zA g) := by
  refine z_met (cc := cX3_join) (nL := 3) (ret := none) hg (by decide) rfl (Nat.le_of_ble_eq_true rfl) ?_
  intro p_ e_ s_ m_ args_ below_ meth_ c_ C hr
  show Z p_ l e_ _ s_ m_ args_ below_ meth_ c_ g 3 0 0 _ x 0 [(0, .ref (zad g (zp j 10))), (1, .ref (zad g (zp o 10)))] []
  have hw_f9 := C.1.2.2.2.2 (.fieldLink RX3 9 "Countcote$SignedSketch" "cells" "[I") (by decide +kernel)
  have hinX3 : ∀ w ∈ wsX30, w ∈ wsX3_join := by decide +kernel
  refine z_iconst (v := nI 0) 0 C dX3_join_0 rfl ?_
  refine z_istore_n (lv' := [(2, .int (nI 0)), (0, .ref (zad g (zp j 10))), (1, .ref (zad g (zp o 10)))]) 1 C dX3_join_1 rfl (by decide) rfl ?_
  refine z_x (y := (xi x (zp j 11) (x.1 (zp j 11)))) (xi_idf rfl) ?_
  have J2 : ∀ (n2 : Nat) (i : Nat) (f : Nat → Int32), (i ≤ 40) → (40 < i + n2) → (∀ q, q < 40 → f q = if q < i then x.1 (zp j 11) q + x.1 (zp o 11) q else x.1 (zp j 11) q) → Z p_ l e_ (headSpec wsX3_join ({ frames := 0, cells := 0, slots := 0, locals := 0 })).room s_ m_ args_ below_ meth_ c_ g 3 0 0 (MQ below_ (va_Qv (fun (u : zT) => ∃ f : Nat → Int32, u = xi x (zp j 11) f ∧ ∀ q, q < 40 → f q = x.1 (zp j 11) q + x.1 (zp o 11) q) (zB g) (zA g)) args_ s_ 0 0 (zA g)) (xi x (zp j 11) f) 2 [(0, .ref (zad g (zp j 10))), (1, .ref (zad g (zp o 10))), (2, .int (nI i))] [] := by
    intro n2
    induction n2 with
    | zero => intro i f hi hn hf; exact absurd hn (by omega)
    | succ n2 ih2 =>
      intro i f hi hn hf
      refine z_iload_n 2 C dX3_join_2 rfl 2 rfl ?_
      refine z_aload_n 3 C dX3_join_3 rfl 0 rfl ?_
      refine z_getr 4 C (ref := "Countcote$SignedSketch") (T := TX3) (N := 2) (ci := 3) (q := 0) (kR_scells hj) rfl hinX3 (by decide) rfl hw_f9 dX3_join_4 ?_
      refine z_ialen 7 C (kI_scell hj) dX3_join_7 ?_
      refine z_icmp_geN 8 C 32 dX3_join_8 (by decide) (by omega) (by omega) (fun h8 => ?_) (fun h8 => ?_)
      · exact z_vret 32 C hr ⟨f, rfl, fun q hq => by rw [hf q hq, if_pos (by omega)]⟩ dX3_join_32
      · refine z_aload_n 11 C dX3_join_11 rfl 0 rfl ?_
        refine z_getr 12 C (ref := "Countcote$SignedSketch") (T := TX3) (N := 2) (ci := 3) (q := 0) (kR_scells hj) rfl hinX3 (by decide) rfl hw_f9 dX3_join_12 ?_
        refine z_iload_n 15 C dX3_join_15 rfl 2 rfl ?_
        refine z_dup2 16 C dX3_join_16 rfl rfl ?_
        refine z_iald (v := f i) 17 C (kI_scell hj) (by omega) (by rw [xi_s]) dX3_join_17 ?_
        refine z_aload_n 18 C dX3_join_18 rfl 1 rfl ?_
        refine z_getr 19 C (ref := "Countcote$SignedSketch") (T := TX3) (N := 2) (ci := 3) (q := 0) (kR_scells ho) rfl hinX3 (by decide) rfl hw_f9 dX3_join_19 ?_
        refine z_iload_n 22 C dX3_join_22 rfl 2 rfl ?_
        refine z_iald (v := (x.1 (zp o 11)) i) 23 C (kI_scell ho) (by omega) (by rw [xi_n _ (by unfold zp; omega)]) dX3_join_23 ?_
        refine z_iadd (v := (f i) + ((x.1 (zp o 11)) i)) 24 C dX3_join_24 rfl ?_
        obtain ⟨f1, ef1⟩ : ∃ f9 : Nat → Int32, f9 = upd f i ((f i) + ((x.1 (zp o 11)) i)) := ⟨_, rfl⟩
        refine z_iast (f := f1) 25 C (kI_scell hj) (by omega) (by rw [xi_s]; exact ef1.symm) dX3_join_25 ?_
        refine z_x (y := (xi x (zp j 11) f1)) (by rw [xi_xi]) ?_
        refine z_iinc (v' := nI (i + 1)) (lv' := [(2, .int (nI (i + 1))), (0, .ref (zad g (zp j 10))), (1, .ref (zad g (zp o 10)))]) 26 C dX3_join_26 (q := 2) rfl (zn_inc i 1) (by decide) rfl ?_
        refine z_goto 29 C 2 dX3_join_29 (by decide) ?_
        refine z_lv (lv' := [(0, .ref (zad g (zp j 10))), (1, .ref (zad g (zp o 10))), (2, .int (nI (i + 1)))]) [1, 2, 0] rfl ?_
        exact ih2 (i + 1) f1 (by omega) (by omega) (by rw [ef1]; exact zjoin_s h8 hf)
  refine z_lv (lv' := [(0, .ref (zad g (zp j 10))), (1, .ref (zad g (zp o 10))), (2, .int (nI 0))]) [1, 2, 0] rfl ?_
  exact J2 41 0 (x.1 (zp j 11)) (Nat.zero_le _) (by omega) (fun q _ => by rw [if_neg (Nat.not_lt_zero q)])
set_option maxHeartbeats 4000000 in
set_option maxRecDepth 100000 in
/-- X3_empty -/
theorem c_X3_empty (l : Launch) {g : zG} (hg : zOk g) (x : zT) (j : Nat) (hj : j < 4) : Met l yX3_empty wsX3_empty ({ frames := 1, cells := 0, slots := 0, locals := 23 }) (va_Pc [.ref (zad g (zp j 10))] (zPre g x)) (va_Qv (fun (u : zT) => ∃ f : Nat → Int32, u = xi x (zp j 11) f ∧ ∀ q, q < 40 → f q = 0) (zB g) (zA g)) 0 0 (zA g) := by
  refine z_met (cc := cX3_empty) (nL := 1) (ret := none) hg (by decide) rfl (Nat.le_of_ble_eq_true rfl) ?_
  intro p_ e_ s_ m_ args_ below_ meth_ c_ C hr
  show Z p_ l e_ _ s_ m_ args_ below_ meth_ c_ g 1 0 0 _ x 0 [(0, .ref (zad g (zp j 10)))] []
  have hw_f9 := C.1.2.2.2.2 (.fieldLink RX3 9 "Countcote$SignedSketch" "cells" "[I") (by decide +kernel)
  have hinX3 : ∀ w ∈ wsX30, w ∈ wsX3_empty := by decide +kernel
  refine z_aload_n 0 C dX3_empty_0 rfl 0 rfl ?_
  refine z_getr 1 C (ref := "Countcote$SignedSketch") (T := TX3) (N := 2) (ci := 3) (q := 0) (kR_scells hj) rfl hinX3 (by decide) rfl hw_f9 dX3_empty_1 ?_
  refine z_iconst (v := nI 0) 4 C dX3_empty_4 rfl ?_
  refine z_callSv 5 C (As := [.ref (zad g (zp j 11)), .int (nI 0)]) 2 (c_fill l hg x (zp j 11) 40 (nI 0) (kI_scell hj)) (va_cwS 2 C.1.2.2.2.2 gX3_empty_J7_fill_53178 rfl rfl rfl (by decide +kernel) ⟨Nat.le_of_ble_eq_true rfl, Nat.le_of_ble_eq_true rfl⟩) rfl rfl (Nat.le_of_ble_eq_true rfl) ⟨Nat.le_of_ble_eq_true rfl, Nat.le_of_ble_eq_true rfl⟩ dX3_empty_5 (fun u hu => ?_)
  obtain ⟨f1, rfl, hf2⟩ := hu
  exact z_vret 8 C hr ⟨f1, rfl, hf2⟩ dX3_empty_8
set_option maxHeartbeats 4000000 in
set_option maxRecDepth 100000 in
/-- X3_middleNumber -/
theorem c_X3_middleNumber (l : Launch) {g : zG} (hg : zOk g) (x : zT) (j : Nat) (hj : j < 4) : Met l yX3_middleNumber wsX3_middleNumber ({ frames := 0, cells := 0, slots := 0, locals := 0 }) (va_Pc [.ref (zad g (zp j 10))] (zPre g x)) (va_Ql (fun (r : Int64) (u : zT) => ∃ h : Nat → Int64, u = xl x (zp j 12) h ∧ zMid (x.2.1 (zp j 12)) r) (zB g) (zA g)) 0 0 (zA g) := by
  refine z_met (cc := cX3_middleNumber) (nL := 5) (ret := (some .long)) hg (by decide) rfl (Nat.le_of_ble_eq_true rfl) ?_
  intro p_ e_ s_ m_ args_ below_ meth_ c_ C hr
  show Z p_ l e_ _ s_ m_ args_ below_ meth_ c_ g 5 0 0 _ x 0 [(0, .ref (zad g (zp j 10)))] []
  have hw_f13 := C.1.2.2.2.2 (.fieldLink RX3 13 "Countcote$SignedSketch" "numbers" "[J") (by decide +kernel)
  have hinX3 : ∀ w ∈ wsX30, w ∈ wsX3_middleNumber := by decide +kernel
  refine z_iconst (v := nI 1) 0 C dX3_middleNumber_0 rfl ?_
  refine z_istore_n (lv' := [(1, .int (nI 1)), (0, .ref (zad g (zp j 10)))]) 1 C dX3_middleNumber_1 rfl (by decide) rfl ?_
  refine z_x (y := (xl x (zp j 12) (x.2.1 (zp j 12)))) (xl_idf rfl) ?_
  have J2 : ∀ (n2 : Nat) (n : Nat) (h : Nat → Int64), (1 ≤ n ∧ n ≤ 5) → (5 < n + n2) → (zPm (x.2.1 (zp j 12)) h) → (∀ a b, a < b → b < n → h a ≤ h b) → Z p_ l e_ (headSpec wsX3_middleNumber ({ frames := 0, cells := 0, slots := 0, locals := 0 })).room s_ m_ args_ below_ meth_ c_ g 5 0 0 (MQ below_ (va_Ql (fun (r : Int64) (u : zT) => ∃ h : Nat → Int64, u = xl x (zp j 12) h ∧ zMid (x.2.1 (zp j 12)) r) (zB g) (zA g)) args_ s_ 0 0 (zA g)) (xl x (zp j 12) h) 2 [(0, .ref (zad g (zp j 10))), (1, .int (nI n))] [] := by
    intro n2
    induction n2 with
    | zero => intro n h hi hn hp hs; exact absurd hn (by omega)
    | succ n2 ih2 =>
      intro n h hi hn hp hs
      refine z_iload_n 2 C dX3_middleNumber_2 rfl 1 rfl ?_
      refine z_aload_n 3 C dX3_middleNumber_3 rfl 0 rfl ?_
      refine z_getr 4 C (ref := "Countcote$SignedSketch") (T := TX3) (N := 2) (ci := 3) (q := 1) (kR_snum hj) rfl hinX3 (by decide) rfl hw_f13 dX3_middleNumber_4 ?_
      refine z_lalen 7 C (kL_num hj) dX3_middleNumber_7 ?_
      refine z_icmp_geN 8 C 77 dX3_middleNumber_8 (by decide) (by omega) (by omega) (fun h8 => ?_) (fun h8 => ?_)
      · refine z_aload_n 77 C dX3_middleNumber_77 rfl 0 rfl ?_
        refine z_getr 78 C (ref := "Countcote$SignedSketch") (T := TX3) (N := 2) (ci := 3) (q := 1) (kR_snum hj) rfl hinX3 (by decide) rfl hw_f13 dX3_middleNumber_78 ?_
        refine z_iconst (v := nI 2) 81 C dX3_middleNumber_81 rfl ?_
        refine z_lald (v := h 2) 82 C (kL_num hj) (by omega) (by rw [xl_s]) dX3_middleNumber_82 ?_
        exact z_lret 83 C hr ⟨h, rfl, zMid_pm hp (zMid_sorted (fun a b h1 h2 => hs a b h1 (by omega)))⟩ dX3_middleNumber_83
      · refine z_iload_n 11 C dX3_middleNumber_11 rfl 1 rfl ?_
        refine z_istore_n (lv' := [(2, .int (nI n)), (0, .ref (zad g (zp j 10))), (1, .int (nI n))]) 12 C dX3_middleNumber_12 rfl (by decide) rfl ?_
        have J13 : ∀ (n13 : Nat) (i : Nat) (h2 : Nat → Int64), (i ≤ n) → (i < n13) → (zPm (x.2.1 (zp j 12)) h2) → (zSo h2 n i) → Z p_ l e_ (headSpec wsX3_middleNumber ({ frames := 0, cells := 0, slots := 0, locals := 0 })).room s_ m_ args_ below_ meth_ c_ g 5 0 0 (MQ below_ (va_Ql (fun (r : Int64) (u : zT) => ∃ h : Nat → Int64, u = xl x (zp j 12) h ∧ zMid (x.2.1 (zp j 12)) r) (zB g) (zA g)) args_ s_ 0 0 (zA g)) (xl x (zp j 12) h2) 13 [(0, .ref (zad g (zp j 10))), (1, .int (nI n)), (2, .int (nI i))] [] := by
          intro n13
          induction n13 with
          | zero => intro i h2 hi2 hn2 hp2 hs2; exact absurd hn2 (by omega)
          | succ n13 ih13 =>
            intro i h2 hi2 hn2 hp2 hs2
            refine z_iload_n 13 C dX3_middleNumber_13 rfl 2 rfl ?_
            refine z_if_leN 14 C 71 dX3_middleNumber_14 (by decide) (by omega) (fun h14 => ?_) (fun h14 => ?_)
            · refine z_iinc (v' := nI (n + 1)) (lv' := [(1, .int (nI (n + 1))), (0, .ref (zad g (zp j 10))), (2, .int (nI i))]) 71 C dX3_middleNumber_71 (q := 1) rfl (zn_inc n 1) (by decide) rfl ?_
              refine z_goto 74 C 2 dX3_middleNumber_74 (by decide) ?_
              refine z_lv (lv' := [(0, .ref (zad g (zp j 10))), (1, .int (nI (n + 1)))]) [1, 0] rfl ?_
              exact ih2 (n + 1) h2 ⟨by omega, by omega⟩ (by omega) hp2 (by first | exact zSo_e0 hs2 h14 | exact zSo_e1 hs2 h14 (zlc_le h32))
            · refine z_aload_n 17 C dX3_middleNumber_17 rfl 0 rfl ?_
              refine z_getr 18 C (ref := "Countcote$SignedSketch") (T := TX3) (N := 2) (ci := 3) (q := 1) (kR_snum hj) rfl hinX3 (by decide) rfl hw_f13 dX3_middleNumber_18 ?_
              refine z_iload_n 21 C dX3_middleNumber_21 rfl 2 rfl ?_
              refine z_iconst (v := nI 1) 22 C dX3_middleNumber_22 rfl ?_
              refine z_isub (v := nI (i - 1)) 23 C dX3_middleNumber_23 (pk_sub (by omega)) ?_
              refine z_lald (v := h2 (i - 1)) 24 C (kL_num hj) (by omega) (by rw [xl_s]) dX3_middleNumber_24 ?_
              refine z_aload_n 25 C dX3_middleNumber_25 rfl 0 rfl ?_
              refine z_getr 26 C (ref := "Countcote$SignedSketch") (T := TX3) (N := 2) (ci := 3) (q := 1) (kR_snum hj) rfl hinX3 (by decide) rfl hw_f13 dX3_middleNumber_26 ?_
              refine z_iload_n 29 C dX3_middleNumber_29 rfl 2 rfl ?_
              refine z_lald (v := h2 i) 30 C (kL_num hj) (by omega) (by rw [xl_s]) dX3_middleNumber_30 ?_
              refine z_lcmp (v := lg_cmp (h2 (i - 1)) (h2 i)) 31 C dX3_middleNumber_31 rfl ?_
              refine z_if_le 32 C 71 dX3_middleNumber_32 (by decide) (fun h32 => ?_) (fun h32 => ?_)
              · refine z_iinc (v' := nI (n + 1)) (lv' := [(1, .int (nI (n + 1))), (0, .ref (zad g (zp j 10))), (2, .int (nI i))]) 71 C dX3_middleNumber_71 (q := 1) rfl (zn_inc n 1) (by decide) rfl ?_
                refine z_goto 74 C 2 dX3_middleNumber_74 (by decide) ?_
                refine z_lv (lv' := [(0, .ref (zad g (zp j 10))), (1, .int (nI (n + 1)))]) [1, 0] rfl ?_
                exact ih2 (n + 1) h2 ⟨by omega, by omega⟩ (by omega) hp2 (by first | exact zSo_e0 hs2 h14 | exact zSo_e1 hs2 h14 (zlc_le h32))
              · refine z_aload_n 35 C dX3_middleNumber_35 rfl 0 rfl ?_
                refine z_getr 36 C (ref := "Countcote$SignedSketch") (T := TX3) (N := 2) (ci := 3) (q := 1) (kR_snum hj) rfl hinX3 (by decide) rfl hw_f13 dX3_middleNumber_36 ?_
                refine z_iload_n 39 C dX3_middleNumber_39 rfl 2 rfl ?_
                refine z_iconst (v := nI 1) 40 C dX3_middleNumber_40 rfl ?_
                refine z_isub (v := nI (i - 1)) 41 C dX3_middleNumber_41 (pk_sub (by omega)) ?_
                refine z_lald (v := h2 (i - 1)) 42 C (kL_num hj) (by omega) (by rw [xl_s]) dX3_middleNumber_42 ?_
                refine z_lstore_n (lv' := [(3, .long (h2 (i - 1))), (0, .ref (zad g (zp j 10))), (1, .int (nI n)), (2, .int (nI i))]) 43 C dX3_middleNumber_43 rfl (by decide) rfl ?_
                refine z_aload_n 44 C dX3_middleNumber_44 rfl 1 rfl ?_
                refine z_getr 45 C (ref := "Countcote$SignedSketch") (T := TX3) (N := 2) (ci := 3) (q := 1) (kR_snum hj) rfl hinX3 (by decide) rfl hw_f13 dX3_middleNumber_45 ?_
                refine z_iload_n 48 C dX3_middleNumber_48 rfl 3 rfl ?_
                refine z_iconst (v := nI 1) 49 C dX3_middleNumber_49 rfl ?_
                refine z_isub (v := nI (i - 1)) 50 C dX3_middleNumber_50 (pk_sub (by omega)) ?_
                refine z_aload_n 51 C dX3_middleNumber_51 rfl 1 rfl ?_
                refine z_getr 52 C (ref := "Countcote$SignedSketch") (T := TX3) (N := 2) (ci := 3) (q := 1) (kR_snum hj) rfl hinX3 (by decide) rfl hw_f13 dX3_middleNumber_52 ?_
                refine z_iload_n 55 C dX3_middleNumber_55 rfl 3 rfl ?_
                refine z_lald (v := h2 i) 56 C (kL_num hj) (by omega) (by rw [xl_s]) dX3_middleNumber_56 ?_
                obtain ⟨f1, ef1⟩ : ∃ f9 : Nat → Int64, f9 = vp_updL h2 (i - 1) (h2 i) := ⟨_, rfl⟩
                refine z_last (f := f1) 57 C (kL_num hj) (by omega) (by rw [xl_s]; exact ef1.symm) dX3_middleNumber_57 ?_
                refine z_x (y := (xl x (zp j 12) f1)) (by rw [xl_xl]) ?_
                refine z_aload_n 58 C dX3_middleNumber_58 rfl 1 rfl ?_
                refine z_getr 59 C (ref := "Countcote$SignedSketch") (T := TX3) (N := 2) (ci := 3) (q := 1) (kR_snum hj) rfl hinX3 (by decide) rfl hw_f13 dX3_middleNumber_59 ?_
                refine z_iload_n 62 C dX3_middleNumber_62 rfl 3 rfl ?_
                refine z_lload_n 63 C dX3_middleNumber_63 rfl 0 rfl ?_
                obtain ⟨f2, ef2⟩ : ∃ f9 : Nat → Int64, f9 = vp_updL f1 i (h2 (i - 1)) := ⟨_, rfl⟩
                refine z_last (f := f2) 64 C (kL_num hj) (by omega) (by rw [xl_s]; exact ef2.symm) dX3_middleNumber_64 ?_
                refine z_x (y := (xl x (zp j 12) f2)) (by rw [xl_xl]) ?_
                refine z_iinc (v' := nI (i - 1)) (lv' := [(2, .int (nI (i - 1))), (3, .long (h2 (i - 1))), (0, .ref (zad g (zp j 10))), (1, .int (nI n))]) 65 C dX3_middleNumber_65 (q := 3) rfl (zn_dec i 1 (by omega)) (by decide) rfl ?_
                refine z_goto 68 C 13 dX3_middleNumber_68 (by decide) ?_
                refine z_lv (lv' := [(0, .ref (zad g (zp j 10))), (1, .int (nI n)), (2, .int (nI (i - 1)))]) [2, 3, 0] rfl ?_
                exact ih13 (i - 1) f2 (by omega) (by omega) (by rw [ef2, ef1]; exact zPm_swap (by omega) (by omega) hp2) (zSo_s hs2 h14 hi2 (zlc_gt h32) ef1 ef2)
        refine z_lv (lv' := [(0, .ref (zad g (zp j 10))), (1, .int (nI n)), (2, .int (nI n))]) [1, 2, 0] rfl ?_
        exact J13 (n + 1) n h (Nat.le_refl _) (Nat.lt_succ_self _) hp (zSo_0 hs)
  refine z_lv (lv' := [(0, .ref (zad g (zp j 10))), (1, .int (nI 1))]) [1, 0] rfl ?_
  exact J2 6 1 (x.2.1 (zp j 12)) ⟨by omega, by omega⟩ (by omega) (fun _ => rfl) (fun a b h1 h2 => absurd h2 (by omega))
theorem z5_of {F h0 h1 h2 h3 h4 h5 : Nat → Int64} (e1 : h1 = vp_updL h0 0 (F 0)) (e2 : h2 = vp_updL h1 1 (F 1)) (e3 : h3 = vp_updL h2 2 (F 2)) (e4 : h4 = vp_updL h3 3 (F 3)) (e5 : h5 = vp_updL h4 4 (F 4)) : ∀ k, k < 5 → h5 k = F k := by
  intro k hk
  have h9 : k = 0 ∨ k = 1 ∨ k = 2 ∨ k = 3 ∨ k = 4 := by omega
  subst e1
  subst e2
  subst e3
  subst e4
  subst e5
  rcases h9 with e | e | e | e | e <;> subst e <;> simp [vp_updL]
theorem zsumL_z (f : Nat → Int64) (i : Nat) : zsumL f 0 i + f i = zsumL f 0 (i + 1) := by
  show _ = zsumL f 0 i + f (0 + i)
  rw [Nat.zero_add]
set_option maxHeartbeats 4000000 in
set_option maxRecDepth 100000 in
/-- X3_rowProduct -/
theorem c_X3_rowProduct (l : Launch) {g : zG} (hg : zOk g) (x : zT) (j o : Nat) (hj : j < 4) (ho : o < 4) (row : Nat) (hrow : row < 5) : Met l yX3_rowProduct wsX3_rowProduct ({ frames := 1, cells := 0, slots := 0, locals := 22 }) (va_Pc [.ref (zad g (zp j 10)), .int (nI row), .ref (zad g (zp o 10))] (zPre g x)) (va_Ql (fun (r : Int64) (u : zT) => u = x ∧ r = zsumL (fun c => (x.1 (zp j 11) (row * 8 + c)).toInt64 * (x.1 (zp o 11) (row * 8 + c)).toInt64) 0 8) (zB g) (zA g)) 0 0 (zA g) := by
  refine z_met (cc := cX3_rowProduct) (nL := 6) (ret := (some .long)) hg (by decide) rfl (Nat.le_of_ble_eq_true rfl) ?_
  intro p_ e_ s_ m_ args_ below_ meth_ c_ C hr
  show Z p_ l e_ _ s_ m_ args_ below_ meth_ c_ g 6 0 0 _ x 0 [(0, .ref (zad g (zp j 10))), (1, .int (nI row)), (2, .ref (zad g (zp o 10)))] []
  refine z_lconst (v := 0) 0 C dX3_rowProduct_0 rfl ?_
  refine z_lstore_n (lv' := [(3, .long 0), (0, .ref (zad g (zp j 10))), (1, .int (nI row)), (2, .ref (zad g (zp o 10)))]) 1 C dX3_rowProduct_1 rfl (by decide) rfl ?_
  refine z_iconst (v := nI 0) 2 C dX3_rowProduct_2 rfl ?_
  refine z_istore (lv' := [(5, .int (nI 0)), (3, .long 0), (0, .ref (zad g (zp j 10))), (1, .int (nI row)), (2, .ref (zad g (zp o 10)))]) 3 C dX3_rowProduct_3 (by decide) rfl ?_
  have J5 : ∀ (n5 : Nat) (i : Nat) (t : Int64), (i ≤ 8) → (8 < i + n5) → (t = zsumL (fun c => (x.1 (zp j 11) (row * 8 + c)).toInt64 * (x.1 (zp o 11) (row * 8 + c)).toInt64) 0 i) → Z p_ l e_ (headSpec wsX3_rowProduct ({ frames := 1, cells := 0, slots := 0, locals := 22 })).room s_ m_ args_ below_ meth_ c_ g 6 0 0 (MQ below_ (va_Ql (fun (r : Int64) (u : zT) => u = x ∧ r = zsumL (fun c => (x.1 (zp j 11) (row * 8 + c)).toInt64 * (x.1 (zp o 11) (row * 8 + c)).toInt64) 0 8) (zB g) (zA g)) args_ s_ 0 0 (zA g)) x 5 [(0, .ref (zad g (zp j 10))), (1, .int (nI row)), (2, .ref (zad g (zp o 10))), (3, .long t), (5, .int (nI i))] [] := by
    intro n5
    induction n5 with
    | zero => intro i t hi hn ht; exact absurd hn (by omega)
    | succ n5 ih5 =>
      intro i t hi hn ht
      refine z_iload 5 C dX3_rowProduct_5 4 rfl ?_
      refine z_bipush (v := nI 8) 7 C dX3_rowProduct_7 rfl ?_
      refine z_icmp_geN 9 C 38 dX3_rowProduct_9 (by decide) (by omega) (by omega) (fun h9 => ?_) (fun h9 => ?_)
      · refine z_lload_n 38 C dX3_rowProduct_38 rfl 3 rfl ?_
        exact z_lret 39 C hr ⟨rfl, by rw [ht, show i = 8 by omega]⟩ dX3_rowProduct_39
      · refine z_lload_n 12 C dX3_rowProduct_12 rfl 3 rfl ?_
        refine z_aload_n 13 C dX3_rowProduct_13 rfl 0 rfl ?_
        refine z_iload_n 14 C dX3_rowProduct_14 rfl 1 rfl ?_
        refine z_iload 15 C dX3_rowProduct_15 4 rfl ?_
        refine z_callVi 17 C (As := [.int (nI row), .int (nI i)]) 2 (kO_signed hj) rfl (c_X3_cellAt l hg x j hj row i (by omega) (by omega)) (cwV 2 C.1.2.2.2.2 gX3_rowProduct_X3_cellAt rfl rfl rfl (by decide +kernel) ⟨Nat.le_of_ble_eq_true rfl, Nat.le_of_ble_eq_true rfl⟩) rfl rfl (Nat.le_of_ble_eq_true rfl) ⟨Nat.le_of_ble_eq_true rfl, Nat.le_of_ble_eq_true rfl⟩ dX3_rowProduct_17 (fun r u hu => ?_)
        obtain ⟨hu1, hu2⟩ : u = x ∧ r = (x.1 (zp j 11)) (row * 8 + i) := ⟨hu.1, by rw [hu.2]⟩
        subst u
        subst r
        refine z_i2l (v := ((x.1 (zp j 11)) (row * 8 + i)).toInt64) 20 C dX3_rowProduct_20 rfl ?_
        refine z_aload_n 21 C dX3_rowProduct_21 rfl 2 rfl ?_
        refine z_iload_n 22 C dX3_rowProduct_22 rfl 1 rfl ?_
        refine z_iload 23 C dX3_rowProduct_23 4 rfl ?_
        refine z_callVi 25 C (As := [.int (nI row), .int (nI i)]) 2 (kO_signed ho) rfl (c_X3_cellAt l hg x o ho row i (by omega) (by omega)) (cwV 2 C.1.2.2.2.2 gX3_rowProduct_X3_cellAt rfl rfl rfl (by decide +kernel) ⟨Nat.le_of_ble_eq_true rfl, Nat.le_of_ble_eq_true rfl⟩) rfl rfl (Nat.le_of_ble_eq_true rfl) ⟨Nat.le_of_ble_eq_true rfl, Nat.le_of_ble_eq_true rfl⟩ dX3_rowProduct_25 (fun r u hu => ?_)
        obtain ⟨hu1, hu2⟩ : u = x ∧ r = (x.1 (zp o 11)) (row * 8 + i) := ⟨hu.1, by rw [hu.2]⟩
        subst u
        subst r
        refine z_i2l (v := ((x.1 (zp o 11)) (row * 8 + i)).toInt64) 28 C dX3_rowProduct_28 rfl ?_
        refine z_lmul (v := (((x.1 (zp j 11)) (row * 8 + i)).toInt64) * (((x.1 (zp o 11)) (row * 8 + i)).toInt64)) 29 C dX3_rowProduct_29 rfl ?_
        refine z_ladd (v := t + ((((x.1 (zp j 11)) (row * 8 + i)).toInt64) * (((x.1 (zp o 11)) (row * 8 + i)).toInt64))) 30 C dX3_rowProduct_30 rfl ?_
        refine z_lstore_n (lv' := [(3, .long (t + ((((x.1 (zp j 11)) (row * 8 + i)).toInt64) * (((x.1 (zp o 11)) (row * 8 + i)).toInt64)))), (0, .ref (zad g (zp j 10))), (1, .int (nI row)), (2, .ref (zad g (zp o 10))), (5, .int (nI i))]) 31 C dX3_rowProduct_31 rfl (by decide) rfl ?_
        refine z_iinc (v' := nI (i + 1)) (lv' := [(5, .int (nI (i + 1))), (3, .long (t + ((((x.1 (zp j 11)) (row * 8 + i)).toInt64) * (((x.1 (zp o 11)) (row * 8 + i)).toInt64)))), (0, .ref (zad g (zp j 10))), (1, .int (nI row)), (2, .ref (zad g (zp o 10)))]) 32 C dX3_rowProduct_32 (q := 4) rfl (zn_inc i 1) (by decide) rfl ?_
        refine z_goto 35 C 5 dX3_rowProduct_35 (by decide) ?_
        refine z_lv (lv' := [(0, .ref (zad g (zp j 10))), (1, .int (nI row)), (2, .ref (zad g (zp o 10))), (3, .long (t + ((((x.1 (zp j 11)) (row * 8 + i)).toInt64) * (((x.1 (zp o 11)) (row * 8 + i)).toInt64)))), (5, .int (nI (i + 1)))]) [2, 3, 4, 1, 0] rfl ?_
        exact ih5 (i + 1) (t + ((((x.1 (zp j 11)) (row * 8 + i)).toInt64) * (((x.1 (zp o 11)) (row * 8 + i)).toInt64))) (by omega) (by omega) (by rw [ht, ← Nat.zero_add i]; simp only [Nat.zero_add]; exact zsumL_z _ i)
  refine z_lv (lv' := [(0, .ref (zad g (zp j 10))), (1, .int (nI row)), (2, .ref (zad g (zp o 10))), (3, .long 0), (5, .int (nI 0))]) [2, 3, 4, 1, 0] rfl ?_
  exact J5 9 0 0 (Nat.zero_le _) (by omega) rfl
set_option maxHeartbeats 4000000 in
set_option maxRecDepth 100000 in
/-- X3_middleProduct -/
theorem c_X3_middleProduct (l : Launch) {g : zG} (hg : zOk g) (x : zT) (j o : Nat) (hj : j < 4) (ho : o < 4) : Met l yX3_middleProduct wsX3_middleProduct ({ frames := 2, cells := 0, slots := 0, locals := 47 }) (va_Pc [.ref (zad g (zp j 10)), .ref (zad g (zp o 10))] (zPre g x)) (va_Ql (fun (r : Int64) (u : zT) => ∃ (h : Nat → Int64), u = xl x (zp j 12) h ∧ zMid (fun row => zsumL (fun c => (x.1 (zp j 11) (row * 8 + c)).toInt64 * (x.1 (zp o 11) (row * 8 + c)).toInt64) 0 8) r) (zB g) (zA g)) 0 0 (zA g) := by
  refine z_met (cc := cX3_middleProduct) (nL := 3) (ret := (some .long)) hg (by decide) rfl (Nat.le_of_ble_eq_true rfl) ?_
  intro p_ e_ s_ m_ args_ below_ meth_ c_ C hr
  show Z p_ l e_ _ s_ m_ args_ below_ meth_ c_ g 3 0 0 _ x 0 [(0, .ref (zad g (zp j 10))), (1, .ref (zad g (zp o 10)))] []
  have hw_f13 := C.1.2.2.2.2 (.fieldLink RX3 13 "Countcote$SignedSketch" "numbers" "[J") (by decide +kernel)
  have hinX3 : ∀ w ∈ wsX30, w ∈ wsX3_middleProduct := by decide +kernel
  refine z_iconst (v := nI 0) 0 C dX3_middleProduct_0 rfl ?_
  refine z_istore_n (lv' := [(2, .int (nI 0)), (0, .ref (zad g (zp j 10))), (1, .ref (zad g (zp o 10)))]) 1 C dX3_middleProduct_1 rfl (by decide) rfl ?_
  refine z_iload_n 2 C dX3_middleProduct_2 rfl 0 rfl ?_
  refine z_iconst (v := nI 5) 3 C dX3_middleProduct_3 rfl ?_
  refine z_icmp_geN 4 C 25 dX3_middleProduct_4 (by decide) (by omega) (by omega) (fun h4 => absurd h4 (by omega)) (fun h4 => ?_)
  refine z_aload_n 7 C dX3_middleProduct_7 rfl 1 rfl ?_
  refine z_getr 8 C (ref := "Countcote$SignedSketch") (T := TX3) (N := 2) (ci := 3) (q := 1) (kR_snum hj) rfl hinX3 (by decide) rfl hw_f13 dX3_middleProduct_8 ?_
  refine z_iload_n 11 C dX3_middleProduct_11 rfl 0 rfl ?_
  refine z_aload_n 12 C dX3_middleProduct_12 rfl 1 rfl ?_
  refine z_iload_n 13 C dX3_middleProduct_13 rfl 0 rfl ?_
  refine z_aload_n 14 C dX3_middleProduct_14 rfl 2 rfl ?_
  refine z_callVl 15 C (As := [.int (nI 0), .ref (zad g (zp o 10))]) 2 (kO_signed hj) rfl (c_X3_rowProduct l hg x j o hj ho 0 (by decide)) (cwV 2 C.1.2.2.2.2 gX3_middleProduct_X3_rowProduct rfl rfl rfl (by decide +kernel) ⟨Nat.le_of_ble_eq_true rfl, Nat.le_of_ble_eq_true rfl⟩) rfl rfl (Nat.le_of_ble_eq_true rfl) ⟨Nat.le_of_ble_eq_true rfl, Nat.le_of_ble_eq_true rfl⟩ dX3_middleProduct_15 (fun r u hu => ?_)
  obtain ⟨hu1, hu2⟩ : u = x ∧ r = zsumL (fun c => (x.1 (zp j 11) (0 * 8 + c)).toInt64 * (x.1 (zp o 11) (0 * 8 + c)).toInt64) 0 8 := ⟨hu.1, hu.2⟩
  subst u
  subst r
  obtain ⟨f1, ef1⟩ : ∃ f9 : Nat → Int64, f9 = vp_updL (x.2.1 (zp j 12)) 0 (zsumL (fun c => (x.1 (zp j 11) (0 * 8 + c)).toInt64 * (x.1 (zp o 11) (0 * 8 + c)).toInt64) 0 8) := ⟨_, rfl⟩
  refine z_last (f := f1) 18 C (kL_num hj) (by omega) (by exact ef1.symm) dX3_middleProduct_18 ?_
  refine z_iinc (v' := nI 1) (lv' := [(2, .int (nI 1)), (0, .ref (zad g (zp j 10))), (1, .ref (zad g (zp o 10)))]) 19 C dX3_middleProduct_19 (q := 0) rfl rfl (by decide) rfl ?_
  refine z_goto 22 C 2 dX3_middleProduct_22 (by decide) ?_
  refine z_iload_n 2 C dX3_middleProduct_2 rfl 0 rfl ?_
  refine z_iconst (v := nI 5) 3 C dX3_middleProduct_3 rfl ?_
  refine z_icmp_geN 4 C 25 dX3_middleProduct_4 (by decide) (by omega) (by omega) (fun h4 => absurd h4 (by omega)) (fun h4 => ?_)
  refine z_aload_n 7 C dX3_middleProduct_7 rfl 1 rfl ?_
  refine z_getr 8 C (ref := "Countcote$SignedSketch") (T := TX3) (N := 2) (ci := 3) (q := 1) (kR_snum hj) rfl hinX3 (by decide) rfl hw_f13 dX3_middleProduct_8 ?_
  refine z_iload_n 11 C dX3_middleProduct_11 rfl 0 rfl ?_
  refine z_aload_n 12 C dX3_middleProduct_12 rfl 1 rfl ?_
  refine z_iload_n 13 C dX3_middleProduct_13 rfl 0 rfl ?_
  refine z_aload_n 14 C dX3_middleProduct_14 rfl 2 rfl ?_
  refine z_callVl 15 C (As := [.int (nI 1), .ref (zad g (zp o 10))]) 2 (kO_signed hj) rfl (c_X3_rowProduct l hg (xl x (zp j 12) f1) j o hj ho 1 (by decide)) (cwV 2 C.1.2.2.2.2 gX3_middleProduct_X3_rowProduct rfl rfl rfl (by decide +kernel) ⟨Nat.le_of_ble_eq_true rfl, Nat.le_of_ble_eq_true rfl⟩) rfl rfl (Nat.le_of_ble_eq_true rfl) ⟨Nat.le_of_ble_eq_true rfl, Nat.le_of_ble_eq_true rfl⟩ dX3_middleProduct_15 (fun r u hu => ?_)
  obtain ⟨hu1, hu2⟩ : u = (xl x (zp j 12) f1) ∧ r = zsumL (fun c => (x.1 (zp j 11) (1 * 8 + c)).toInt64 * (x.1 (zp o 11) (1 * 8 + c)).toInt64) 0 8 := ⟨hu.1, hu.2⟩
  subst u
  subst r
  obtain ⟨f2, ef2⟩ : ∃ f9 : Nat → Int64, f9 = vp_updL f1 1 (zsumL (fun c => (x.1 (zp j 11) (1 * 8 + c)).toInt64 * (x.1 (zp o 11) (1 * 8 + c)).toInt64) 0 8) := ⟨_, rfl⟩
  refine z_last (f := f2) 18 C (kL_num hj) (by omega) (by rw [xl_s]; exact ef2.symm) dX3_middleProduct_18 ?_
  refine z_x (y := (xl x (zp j 12) f2)) (by rw [xl_xl]) ?_
  refine z_iinc (v' := nI 2) (lv' := [(2, .int (nI 2)), (0, .ref (zad g (zp j 10))), (1, .ref (zad g (zp o 10)))]) 19 C dX3_middleProduct_19 (q := 0) rfl rfl (by decide) rfl ?_
  refine z_goto 22 C 2 dX3_middleProduct_22 (by decide) ?_
  refine z_iload_n 2 C dX3_middleProduct_2 rfl 0 rfl ?_
  refine z_iconst (v := nI 5) 3 C dX3_middleProduct_3 rfl ?_
  refine z_icmp_geN 4 C 25 dX3_middleProduct_4 (by decide) (by omega) (by omega) (fun h4 => absurd h4 (by omega)) (fun h4 => ?_)
  refine z_aload_n 7 C dX3_middleProduct_7 rfl 1 rfl ?_
  refine z_getr 8 C (ref := "Countcote$SignedSketch") (T := TX3) (N := 2) (ci := 3) (q := 1) (kR_snum hj) rfl hinX3 (by decide) rfl hw_f13 dX3_middleProduct_8 ?_
  refine z_iload_n 11 C dX3_middleProduct_11 rfl 0 rfl ?_
  refine z_aload_n 12 C dX3_middleProduct_12 rfl 1 rfl ?_
  refine z_iload_n 13 C dX3_middleProduct_13 rfl 0 rfl ?_
  refine z_aload_n 14 C dX3_middleProduct_14 rfl 2 rfl ?_
  refine z_callVl 15 C (As := [.int (nI 2), .ref (zad g (zp o 10))]) 2 (kO_signed hj) rfl (c_X3_rowProduct l hg (xl x (zp j 12) f2) j o hj ho 2 (by decide)) (cwV 2 C.1.2.2.2.2 gX3_middleProduct_X3_rowProduct rfl rfl rfl (by decide +kernel) ⟨Nat.le_of_ble_eq_true rfl, Nat.le_of_ble_eq_true rfl⟩) rfl rfl (Nat.le_of_ble_eq_true rfl) ⟨Nat.le_of_ble_eq_true rfl, Nat.le_of_ble_eq_true rfl⟩ dX3_middleProduct_15 (fun r u hu => ?_)
  obtain ⟨hu1, hu2⟩ : u = (xl x (zp j 12) f2) ∧ r = zsumL (fun c => (x.1 (zp j 11) (2 * 8 + c)).toInt64 * (x.1 (zp o 11) (2 * 8 + c)).toInt64) 0 8 := ⟨hu.1, hu.2⟩
  subst u
  subst r
  obtain ⟨f3, ef3⟩ : ∃ f9 : Nat → Int64, f9 = vp_updL f2 2 (zsumL (fun c => (x.1 (zp j 11) (2 * 8 + c)).toInt64 * (x.1 (zp o 11) (2 * 8 + c)).toInt64) 0 8) := ⟨_, rfl⟩
  refine z_last (f := f3) 18 C (kL_num hj) (by omega) (by rw [xl_s]; exact ef3.symm) dX3_middleProduct_18 ?_
  refine z_x (y := (xl x (zp j 12) f3)) (by rw [xl_xl]) ?_
  refine z_iinc (v' := nI 3) (lv' := [(2, .int (nI 3)), (0, .ref (zad g (zp j 10))), (1, .ref (zad g (zp o 10)))]) 19 C dX3_middleProduct_19 (q := 0) rfl rfl (by decide) rfl ?_
  refine z_goto 22 C 2 dX3_middleProduct_22 (by decide) ?_
  refine z_iload_n 2 C dX3_middleProduct_2 rfl 0 rfl ?_
  refine z_iconst (v := nI 5) 3 C dX3_middleProduct_3 rfl ?_
  refine z_icmp_geN 4 C 25 dX3_middleProduct_4 (by decide) (by omega) (by omega) (fun h4 => absurd h4 (by omega)) (fun h4 => ?_)
  refine z_aload_n 7 C dX3_middleProduct_7 rfl 1 rfl ?_
  refine z_getr 8 C (ref := "Countcote$SignedSketch") (T := TX3) (N := 2) (ci := 3) (q := 1) (kR_snum hj) rfl hinX3 (by decide) rfl hw_f13 dX3_middleProduct_8 ?_
  refine z_iload_n 11 C dX3_middleProduct_11 rfl 0 rfl ?_
  refine z_aload_n 12 C dX3_middleProduct_12 rfl 1 rfl ?_
  refine z_iload_n 13 C dX3_middleProduct_13 rfl 0 rfl ?_
  refine z_aload_n 14 C dX3_middleProduct_14 rfl 2 rfl ?_
  refine z_callVl 15 C (As := [.int (nI 3), .ref (zad g (zp o 10))]) 2 (kO_signed hj) rfl (c_X3_rowProduct l hg (xl x (zp j 12) f3) j o hj ho 3 (by decide)) (cwV 2 C.1.2.2.2.2 gX3_middleProduct_X3_rowProduct rfl rfl rfl (by decide +kernel) ⟨Nat.le_of_ble_eq_true rfl, Nat.le_of_ble_eq_true rfl⟩) rfl rfl (Nat.le_of_ble_eq_true rfl) ⟨Nat.le_of_ble_eq_true rfl, Nat.le_of_ble_eq_true rfl⟩ dX3_middleProduct_15 (fun r u hu => ?_)
  obtain ⟨hu1, hu2⟩ : u = (xl x (zp j 12) f3) ∧ r = zsumL (fun c => (x.1 (zp j 11) (3 * 8 + c)).toInt64 * (x.1 (zp o 11) (3 * 8 + c)).toInt64) 0 8 := ⟨hu.1, hu.2⟩
  subst u
  subst r
  obtain ⟨f4, ef4⟩ : ∃ f9 : Nat → Int64, f9 = vp_updL f3 3 (zsumL (fun c => (x.1 (zp j 11) (3 * 8 + c)).toInt64 * (x.1 (zp o 11) (3 * 8 + c)).toInt64) 0 8) := ⟨_, rfl⟩
  refine z_last (f := f4) 18 C (kL_num hj) (by omega) (by rw [xl_s]; exact ef4.symm) dX3_middleProduct_18 ?_
  refine z_x (y := (xl x (zp j 12) f4)) (by rw [xl_xl]) ?_
  refine z_iinc (v' := nI 4) (lv' := [(2, .int (nI 4)), (0, .ref (zad g (zp j 10))), (1, .ref (zad g (zp o 10)))]) 19 C dX3_middleProduct_19 (q := 0) rfl rfl (by decide) rfl ?_
  refine z_goto 22 C 2 dX3_middleProduct_22 (by decide) ?_
  refine z_iload_n 2 C dX3_middleProduct_2 rfl 0 rfl ?_
  refine z_iconst (v := nI 5) 3 C dX3_middleProduct_3 rfl ?_
  refine z_icmp_geN 4 C 25 dX3_middleProduct_4 (by decide) (by omega) (by omega) (fun h4 => absurd h4 (by omega)) (fun h4 => ?_)
  refine z_aload_n 7 C dX3_middleProduct_7 rfl 1 rfl ?_
  refine z_getr 8 C (ref := "Countcote$SignedSketch") (T := TX3) (N := 2) (ci := 3) (q := 1) (kR_snum hj) rfl hinX3 (by decide) rfl hw_f13 dX3_middleProduct_8 ?_
  refine z_iload_n 11 C dX3_middleProduct_11 rfl 0 rfl ?_
  refine z_aload_n 12 C dX3_middleProduct_12 rfl 1 rfl ?_
  refine z_iload_n 13 C dX3_middleProduct_13 rfl 0 rfl ?_
  refine z_aload_n 14 C dX3_middleProduct_14 rfl 2 rfl ?_
  refine z_callVl 15 C (As := [.int (nI 4), .ref (zad g (zp o 10))]) 2 (kO_signed hj) rfl (c_X3_rowProduct l hg (xl x (zp j 12) f4) j o hj ho 4 (by decide)) (cwV 2 C.1.2.2.2.2 gX3_middleProduct_X3_rowProduct rfl rfl rfl (by decide +kernel) ⟨Nat.le_of_ble_eq_true rfl, Nat.le_of_ble_eq_true rfl⟩) rfl rfl (Nat.le_of_ble_eq_true rfl) ⟨Nat.le_of_ble_eq_true rfl, Nat.le_of_ble_eq_true rfl⟩ dX3_middleProduct_15 (fun r u hu => ?_)
  obtain ⟨hu1, hu2⟩ : u = (xl x (zp j 12) f4) ∧ r = zsumL (fun c => (x.1 (zp j 11) (4 * 8 + c)).toInt64 * (x.1 (zp o 11) (4 * 8 + c)).toInt64) 0 8 := ⟨hu.1, hu.2⟩
  subst u
  subst r
  obtain ⟨f5, ef5⟩ : ∃ f9 : Nat → Int64, f9 = vp_updL f4 4 (zsumL (fun c => (x.1 (zp j 11) (4 * 8 + c)).toInt64 * (x.1 (zp o 11) (4 * 8 + c)).toInt64) 0 8) := ⟨_, rfl⟩
  refine z_last (f := f5) 18 C (kL_num hj) (by omega) (by rw [xl_s]; exact ef5.symm) dX3_middleProduct_18 ?_
  refine z_x (y := (xl x (zp j 12) f5)) (by rw [xl_xl]) ?_
  refine z_iinc (v' := nI 5) (lv' := [(2, .int (nI 5)), (0, .ref (zad g (zp j 10))), (1, .ref (zad g (zp o 10)))]) 19 C dX3_middleProduct_19 (q := 0) rfl rfl (by decide) rfl ?_
  refine z_goto 22 C 2 dX3_middleProduct_22 (by decide) ?_
  refine z_iload_n 2 C dX3_middleProduct_2 rfl 0 rfl ?_
  refine z_iconst (v := nI 5) 3 C dX3_middleProduct_3 rfl ?_
  refine z_icmp_geN 4 C 25 dX3_middleProduct_4 (by decide) (by omega) (by omega) (fun h4 => ?_) (fun h4 => absurd h4 (by omega))
  refine z_aload_n 25 C dX3_middleProduct_25 rfl 1 rfl ?_
  refine z_callVl 26 C (As := []) 0 (kO_signed hj) rfl (c_X3_middleNumber l hg (xl x (zp j 12) f5) j hj) (cwV 0 C.1.2.2.2.2 gX3_middleProduct_X3_middleNumber rfl rfl rfl (by decide +kernel) ⟨Nat.le_of_ble_eq_true rfl, Nat.le_of_ble_eq_true rfl⟩) rfl rfl (Nat.le_of_ble_eq_true rfl) ⟨Nat.le_of_ble_eq_true rfl, Nat.le_of_ble_eq_true rfl⟩ dX3_middleProduct_26 (fun r u hu => ?_)
  obtain ⟨hm, rfl, hmid⟩ := hu
  rw [xl_s] at hmid
  refine z_x (y := (xl x (zp j 12) hm)) (by rw [xl_xl]) ?_
  exact z_lret 29 C hr ⟨hm, rfl, zMid_congr (z5_of (F := fun row => zsumL (fun c => (x.1 (zp j 11) (row * 8 + c)).toInt64 * (x.1 (zp o 11) (row * 8 + c)).toInt64) 0 8) ef1 ef2 ef3 ef4 ef5) hmid⟩ dX3_middleProduct_29
