/-! ===== the reference ===== -/
def zM (x : zT) (j : Nat) (c d : Nat → Int32) (L : zCL) (aw : Int32) : Prop :=
  (∀ i, i < 64 → x.1 3 (64 * j + i) = c i) ∧ x.1 4 j = ztot c ∧ (∀ q, q < 72 → x.1 5 (72 * j + q) = d q) ∧ x.1 6 j = nI L.length ∧ x.1 9 j = aw ∧ L.length ≤ 8 ∧ ∀ q, q < L.length → x.1 7 (8 * j + q) = (zL L q).1 ∧ x.1 8 (8 * j + q) = (zL L q).2
def zMA (x : zT) (S : zS) : Prop := ∀ j, j < 4 → zM x j (S.1 j) (S.2.1 j) (S.2.2.1 j) (S.2.2.2 j)
theorem zM_2 {x : zT} {j : Nat} {c d : Nat → Int32} {L : zCL} {aw : Int32} {f : Nat → Int32} (h : zM x j c d L aw) : zM (xi x 2 f) j c d L aw := h
theorem zM_l {x : zT} {j : Nat} {c d : Nat → Int32} {L : zCL} {aw : Int32} {f : Nat → Int64} (h : zM x j c d L aw) : zM (xl x 10 f) j c d L aw := h
theorem zupd2 (f : Nat → Int32) (k : Nat) (a b : Int32) : upd (upd f k a) k b = upd f k b := by
  funext q
  by_cases h : q = k
  · subst h; rw [pk_us, pk_us]
  · rw [pk_un h, pk_un h, pk_un h]
def zraw (x : zT) (j lev half : Nat) : Int32 := if lev < 3 then zleast (fun q => x.1 5 (72 * j + (24 * lev + q))) half else zsum (fun k => x.1 3 (64 * j + k)) (half * 2 ^ lev) (2 ^ lev)
theorem zhb {lev half : Nat} (h6 : lev ≤ 6) (hh : half < 64 / 2 ^ lev) : (half + 1) * 2 ^ lev ≤ 64 := by
  have h9 : lev = 0 ∨ lev = 1 ∨ lev = 2 ∨ lev = 3 ∨ lev = 4 ∨ lev = 5 ∨ lev = 6 := by omega
  rcases h9 with e | e | e | e | e | e | e <;> subst e <;> omega
theorem zraw_M {x : zT} {j lev half : Nat} {c d : Nat → Int32} {L : zCL} {aw : Int32} (h : zM x j c d L aw) (h6 : lev ≤ 6) (hh : half < 64 / 2 ^ lev) : zraw x j lev half = zest c d lev half := by
  have hb := zhb h6 hh
  unfold zraw zest
  by_cases h3 : lev < 3
  · rw [if_pos h3, if_pos h3]
    exact zleast_congr (fun q hq => h.2.2.1 _ (by omega))
  · rw [if_neg h3, if_neg h3]
    refine zsum_congr (fun k h1 h2 => h.1 k ?_)
    rw [Nat.add_mul, Nat.one_mul] at hb
    omega
theorem zmin_t {a b : Int32} (h : b < a) : zmin a b = b := if_pos h
theorem zmin_f {a b : Int32} (h : ¬ b < a) : zmin a b = a := if_neg h
theorem zfit_mod {a b k : Nat} (h1 : a % (1 * 2 ^ k) = 0) (h2 : a + 1 * 2 ^ k - 1 ≤ b) : zfit k a b = true := by
  unfold zfit
  rw [Nat.one_mul] at h1 h2
  have := Nat.one_le_two_pow (n := k)
  rw [decide_eq_true h1, decide_eq_true (by omega)]
  rfl
theorem zfit_nm1 {a b k : Nat} (h1 : a % (1 * 2 ^ k) ≠ 0) : zfit k a b = false := by
  unfold zfit
  rw [Nat.one_mul] at h1
  rw [decide_eq_false h1]
  rfl
theorem zfit_nm2 {a b k : Nat} (h2 : b < a + 1 * 2 ^ k - 1) : zfit k a b = false := by
  unfold zfit
  rw [decide_eq_false (p := a + 2 ^ k ≤ b + 1) (by omega), Bool.and_false]
theorem zfit_k0 {a b k : Nat} (hab : a ≤ b) (h : zfit k a b = false) : 0 < k := by
  cases k with
  | zero => rw [zfit_0 hab] at h; cases h
  | succ k => omega
/-- a signed cell out of the counts as they lie -/
def zscr (x : zT) (j r col n : Nat) : Int32 := zsum (fun i => if zscol r i = col then zsg r i * x.1 3 (64 * j + i) else 0) 0 n
theorem zscr_M {x : zT} {j r col : Nat} {c d : Nat → Int32} {L : zCL} {aw : Int32} (h : zM x j c d L aw) : zscr x j r col 64 = zscell c r col := zsum_congr (fun k _ hk => by rw [h.1 k (by omega)])
theorem zscr_s {x : zT} {j r col i : Nat} : zscr x j r col (i + 1) = zscr x j r col i + (if zscol r i = col then zsg r i * x.1 3 (64 * j + i) else 0) := by
  show _ + (if zscol r (0 + i) = col then zsg r (0 + i) * x.1 3 (64 * j + (0 + i)) else 0) = _
  rw [Nat.zero_add]
  rfl
def zlt (f : Nat → Int64) (v : Int64) : Nat → Nat
  | 0 => 0
  | n + 1 => zlt f v n + zb1 (decide (f n < v))
def zgt (f : Nat → Int64) (v : Int64) : Nat → Nat
  | 0 => 0
  | n + 1 => zgt f v n + zb1 (decide (v < f n))
theorem zlt_le (f : Nat → Int64) (v : Int64) : ∀ n, zlt f v n ≤ n
  | 0 => Nat.le_refl _
  | n + 1 => by
    have h1 := zlt_le f v n
    have h2 := zb1_le (decide (f n < v))
    show zlt f v n + zb1 (decide (f n < v)) ≤ n + 1
    omega
theorem zgt_le (f : Nat → Int64) (v : Int64) : ∀ n, zgt f v n ≤ n
  | 0 => Nat.le_refl _
  | n + 1 => by
    have h1 := zgt_le f v n
    have h2 := zb1_le (decide (v < f n))
    show zgt f v n + zb1 (decide (v < f n)) ≤ n + 1
    omega
theorem zlt_5 (f : Nat → Int64) (v : Int64) : zlt f v 5 = zc5 (fun w => decide (w < v)) f := by
  show 0 + zb1 (decide (f 0 < v)) + zb1 (decide (f 1 < v)) + zb1 (decide (f 2 < v)) + zb1 (decide (f 3 < v)) + zb1 (decide (f 4 < v)) = _
  rw [Nat.zero_add]
  rfl
theorem zgt_5 (f : Nat → Int64) (v : Int64) : zgt f v 5 = zc5 (fun w => decide (v < w)) f := by
  show 0 + zb1 (decide (v < f 0)) + zb1 (decide (v < f 1)) + zb1 (decide (v < f 2)) + zb1 (decide (v < f 3)) + zb1 (decide (v < f 4)) = _
  rw [Nat.zero_add]
  rfl
theorem zlc_lt0 {a b : Int64} (h : lg_cmp a b < 0) : zb1 (decide (a < b)) = 1 := by
  have h1 := zlc_le (Int32.le_of_lt h)
  have h2 : a < b := by
    rcases Int64.lt_or_eq_of_le h1 with c | c
    · exact c
    · subst c
      unfold lg_cmp at h
      rw [if_neg (Int64.lt_irrefl), if_pos rfl] at h
      exact absurd h (by decide)
  rw [decide_eq_true h2]
  rfl
theorem zlc_ge0 {a b : Int64} (h : 0 ≤ lg_cmp a b) : zb1 (decide (a < b)) = 0 := by
  have h2 : ¬ a < b := by
    intro c
    unfold lg_cmp at h
    have c1 : ¬ a > b := fun z => Int64.lt_irrefl (Int64.lt_trans c z)
    have c2 : ¬ a = b := fun z => by rw [z] at c; exact Int64.lt_irrefl c
    rw [if_neg c1, if_neg c2] at h
    exact absurd h (by decide)
  rw [decide_eq_false h2]
  rfl
theorem zlc_le0 {a b : Int64} (h : lg_cmp a b ≤ 0) : zb1 (decide (b < a)) = 0 := by
  have h1 := zlc_le h
  have h2 : ¬ b < a := fun z => Int64.lt_irrefl (Int64.lt_of_lt_of_le z h1)
  rw [decide_eq_false h2]
  rfl
theorem zlc_gt0 {a b : Int64} (h : ¬ lg_cmp a b ≤ 0) : zb1 (decide (b < a)) = 1 := by
  rw [decide_eq_true (zlc_gt h)]
  rfl
theorem zmid_y {f : Nat → Int64} {m : Int64} {k : Nat} (hm : zMid f m) (hk : k < 5) (h1 : zlt f (f k) 5 ≤ 2) (h2 : zgt f (f k) 5 ≤ 2) : f k = m := by
  rw [zlt_5] at h1
  rw [zgt_5] at h2
  exact zMid_uniq ⟨⟨k, hk, rfl⟩, h1, h2⟩ hm
theorem zmid_n {f : Nat → Int64} {m : Int64} {k : Nat} (hm : zMid f m) (h : ¬ (zlt f (f k) 5 ≤ 2 ∧ zgt f (f k) 5 ≤ 2)) : f k ≠ m := fun e => by
  rw [e, zlt_5, zgt_5] at h
  exact h ⟨hm.2.1, hm.2.2⟩
set_option maxHeartbeats 4000000 in
set_option maxRecDepth 100000 in
/-- X6_thrown -/
theorem c_X6_thrown (l : Launch) {g : zG} (hg : zOk g) (x : zT)  : Met l yX6_thrown wsX6_thrown ({ frames := 0, cells := 0, slots := 0, locals := 0 }) (va_Pc [.ref (zad g 2)] (zPre g x)) (va_Qi (fun (r : Int32) (u : zT) => u = x ∧ r = x.1 2 0) (zB g) (zA g)) 0 0 (zA g) := by
  refine z_met (cc := cX6_thrown) (nL := 1) (ret := (some .int)) hg (by decide) rfl (Nat.le_of_ble_eq_true rfl) ?_
  intro p_ e_ s_ m_ args_ below_ meth_ c_ C hr
  show Z p_ l e_ _ s_ m_ args_ below_ meth_ c_ g 1 0 0 _ x 0 [(0, .ref (zad g 2))] []
  have hw_f35 := C.1.2.2.2.2 (.fieldLink RX6 35 "CountcoteModel" "thrown" "I") (by decide +kernel)
  have hinX6 : ∀ w ∈ wsX60, w ∈ wsX6_thrown := by decide +kernel
  refine z_aload_n 0 C dX6_thrown_0 rfl 0 rfl ?_
  refine z_geti (v := (x.1 2) 0) 1 C (ref := "CountcoteModel") (T := TX6) (N := 9) (ci := 6) (q := 0) kF_thrown rfl hinX6 (by decide) rfl hw_f35 rfl dX6_thrown_1 ?_
  exact z_iret 4 C hr ⟨rfl, rfl⟩ dX6_thrown_4
set_option maxHeartbeats 4000000 in
set_option maxRecDepth 100000 in
/-- X6_holds -/
theorem c_X6_holds (l : Launch) {g : zG} (hg : zOk g) (x : zT) (k : Nat) (hk : k < 100) : Met l yX6_holds wsX6_holds ({ frames := 0, cells := 0, slots := 0, locals := 0 }) (va_Pc [.ref (zad g 2), .int (nI k)] (zPre g x)) (va_Qi (fun (r : Int32) (u : zT) => u = xi x 2 (upd (x.1 2) 0 (nI k)) ∧ r = nI (if k = 0 then 1 else 0)) (zB g) (zA g)) 0 0 (zA g) := by
  refine z_met (cc := cX6_holds) (nL := 2) (ret := (some .boolean)) hg (by decide) rfl (Nat.le_of_ble_eq_true rfl) ?_
  intro p_ e_ s_ m_ args_ below_ meth_ c_ C hr
  show Z p_ l e_ _ s_ m_ args_ below_ meth_ c_ g 2 0 0 _ x 0 [(0, .ref (zad g 2)), (1, .int (nI k))] []
  have hw_f35 := C.1.2.2.2.2 (.fieldLink RX6 35 "CountcoteModel" "thrown" "I") (by decide +kernel)
  have hinX6 : ∀ w ∈ wsX60, w ∈ wsX6_holds := by decide +kernel
  refine z_aload_n 0 C dX6_holds_0 rfl 0 rfl ?_
  refine z_iload_n 1 C dX6_holds_1 rfl 1 rfl ?_
  obtain ⟨f1, ef1⟩ : ∃ f9 : Nat → Int32, f9 = upd (x.1 2) 0 (nI k) := ⟨_, rfl⟩
  refine z_puti 2 C (ref := "CountcoteModel") (T := TX6) (N := 9) (ci := 6) (q := 0) (f := f1) kF_thrown rfl hinX6 tyX6 tyX6_ok nmX6 (by decide) rfl hw_f35 rfl (by decide +kernel) (by exact ef1.symm) dX6_holds_2 ?_
  refine z_iload_n 5 C dX6_holds_5 rfl 1 rfl ?_
  refine z_if_neN 6 C 13 dX6_holds_6 (by decide) (by omega) (fun h6 => ?_) (fun h6 => ?_)
  · refine z_iconst (v := nI 0) 13 C dX6_holds_13 rfl ?_
    exact z_zret 14 C hr rfl ⟨by rw [ef1], by rw [if_neg h6]⟩ dX6_holds_14
  · refine z_iconst (v := nI 1) 9 C dX6_holds_9 rfl ?_
    refine z_goto 10 C 14 dX6_holds_10 (by decide) ?_
    exact z_zret 14 C hr rfl ⟨by rw [ef1], by rw [if_pos h6]⟩ dX6_holds_14
set_option maxHeartbeats 4000000 in
set_option maxRecDepth 100000 in
/-- X6_isIn -/
theorem c_X6_isIn (l : Launch) {g : zG} (hg : zOk g) (x : zT) (p : Int32) (n : Nat) (hn : n < 1000) : Met l yX6_isIn wsX6_isIn ({ frames := 0, cells := 0, slots := 0, locals := 0 }) (va_Pc [.int p, .int (nI n)] (zPre g x)) (va_Qi (fun (r : Int32) (u : zT) => u = x ∧ ((r = nI 1 ∧ zinb p n = true) ∨ (r = nI 0 ∧ zinb p n = false))) (zB g) (zA g)) 0 0 (zA g) := by
  refine z_met (cc := cX6_isIn) (nL := 2) (ret := (some .boolean)) hg (by decide) rfl (Nat.le_of_ble_eq_true rfl) ?_
  intro p_ e_ s_ m_ args_ below_ meth_ c_ C hr
  show Z p_ l e_ _ s_ m_ args_ below_ meth_ c_ g 2 0 0 _ x 0 [(0, .int p), (1, .int (nI n))] []
  refine z_iload_n 0 C dX6_isIn_0 rfl 0 rfl ?_
  refine z_if_lt 1 C 13 dX6_isIn_1 (by decide) (fun h1 => ?_) (fun h1 => ?_)
  · refine z_iconst (v := nI 0) 13 C dX6_isIn_13 rfl ?_
    exact z_zret 14 C hr rfl ⟨rfl, Or.inr ⟨rfl, by first | exact zinb_f1 h1 | exact zinb_f2 (Int32.not_lt.mpr h6)⟩⟩ dX6_isIn_14
  · refine z_iload_n 4 C dX6_isIn_4 rfl 0 rfl ?_
    refine z_iload_n 5 C dX6_isIn_5 rfl 1 rfl ?_
    refine z_icmp_ge 6 C 13 dX6_isIn_6 (by decide) (fun h6 => ?_) (fun h6 => ?_)
    · refine z_iconst (v := nI 0) 13 C dX6_isIn_13 rfl ?_
      exact z_zret 14 C hr rfl ⟨rfl, Or.inr ⟨rfl, by first | exact zinb_f1 h1 | exact zinb_f2 (Int32.not_lt.mpr h6)⟩⟩ dX6_isIn_14
    · refine z_iconst (v := nI 1) 9 C dX6_isIn_9 rfl ?_
      refine z_goto 10 C 14 dX6_isIn_10 (by decide) ?_
      exact z_zret 14 C hr rfl ⟨rfl, Or.inl ⟨rfl, zinb_y h1 (Int32.not_le.mp h6)⟩⟩ dX6_isIn_14
set_option maxHeartbeats 4000000 in
set_option maxRecDepth 100000 in
/-- X6_isStream -/
theorem c_X6_isStream (l : Launch) {g : zG} (hg : zOk g) (x : zT) (p : Int32) : Met l yX6_isStream wsX6_isStream ({ frames := 1, cells := 0, slots := 0, locals := 21 }) (va_Pc [.int p] (zPre g x)) (va_Qi (fun (r : Int32) (u : zT) => u = x ∧ ((r = nI 1 ∧ zinb p 4 = true) ∨ (r = nI 0 ∧ zinb p 4 = false))) (zB g) (zA g)) 0 0 (zA g) := by
  refine z_met (cc := cX6_isStream) (nL := 1) (ret := (some .boolean)) hg (by decide) rfl (Nat.le_of_ble_eq_true rfl) ?_
  intro p_ e_ s_ m_ args_ below_ meth_ c_ C hr
  show Z p_ l e_ _ s_ m_ args_ below_ meth_ c_ g 1 0 0 _ x 0 [(0, .int p)] []
  refine z_iload_n 0 C dX6_isStream_0 rfl 0 rfl ?_
  refine z_iconst (v := nI 4) 1 C dX6_isStream_1 rfl ?_
  refine z_callSi 2 C (As := [.int p, .int (nI 4)]) 2 (c_X6_isIn l hg x p 4 (by omega)) (va_cwS 2 C.1.2.2.2.2 gX6_isStream_X6_isIn rfl rfl rfl (by decide +kernel) ⟨Nat.le_of_ble_eq_true rfl, Nat.le_of_ble_eq_true rfl⟩) rfl rfl (Nat.le_of_ble_eq_true rfl) ⟨Nat.le_of_ble_eq_true rfl, Nat.le_of_ble_eq_true rfl⟩ dX6_isStream_2 (fun r u hu => ?_)
  obtain ⟨hu1, hu2⟩ := hu
  subst u
  rcases hu2 with ⟨hr9, hz1⟩ | ⟨hr9, hz1⟩
  · subst r
    exact z_zret 5 C hr rfl ⟨rfl, Or.inl ⟨rfl, hz1⟩⟩ dX6_isStream_5
  · subst r
    exact z_zret 5 C hr rfl ⟨rfl, Or.inr ⟨rfl, hz1⟩⟩ dX6_isStream_5
set_option maxHeartbeats 4000000 in
set_option maxRecDepth 100000 in
/-- X6_isItem -/
theorem c_X6_isItem (l : Launch) {g : zG} (hg : zOk g) (x : zT) (p0 p1 : Int32) : Met l yX6_isItem wsX6_isItem ({ frames := 2, cells := 0, slots := 0, locals := 41 }) (va_Pc [.ref (zad g 2), .int p0, .int p1] (zPre g x)) (va_Qi (fun (r : Int32) (u : zT) => (r = nI 1 ∧ (zinb p0 4 = true ∧ zinb p1 64 = true) ∧ u = xi x 2 (upd (x.1 2) 0 (nI 0))) ∨ (r = nI 0 ∧ (zinb p0 4 && zinb p1 64) = false ∧ u = xi x 2 (upd (x.1 2) 0 (nI 1)))) (zB g) (zA g)) 0 0 (zA g) := by
  refine z_met (cc := cX6_isItem) (nL := 3) (ret := (some .boolean)) hg (by decide) rfl (Nat.le_of_ble_eq_true rfl) ?_
  intro p_ e_ s_ m_ args_ below_ meth_ c_ C hr
  show Z p_ l e_ _ s_ m_ args_ below_ meth_ c_ g 3 0 0 _ x 0 [(0, .ref (zad g 2)), (1, .int p0), (2, .int p1)] []
  refine z_aload_n 0 C dX6_isItem_0 rfl 0 rfl ?_
  refine z_iload_n 1 C dX6_isItem_1 rfl 1 rfl ?_
  refine z_callSi 2 C (As := [.int p0]) 1 (c_X6_isStream l hg x p0) (va_cwS 1 C.1.2.2.2.2 gX6_isItem_X6_isStream rfl rfl rfl (by decide +kernel) ⟨Nat.le_of_ble_eq_true rfl, Nat.le_of_ble_eq_true rfl⟩) rfl rfl (Nat.le_of_ble_eq_true rfl) ⟨Nat.le_of_ble_eq_true rfl, Nat.le_of_ble_eq_true rfl⟩ dX6_isItem_2 (fun r u hu => ?_)
  obtain ⟨hu1, hu2⟩ := hu
  subst u
  rcases hu2 with ⟨hr9, hz1⟩ | ⟨hr9, hz1⟩
  · subst r
    refine z_if_eqN 5 C 21 dX6_isItem_5 (by decide) (by omega) (fun h5 => absurd h5 (by omega)) (fun h5 => ?_)
    refine z_iload_n 8 C dX6_isItem_8 rfl 2 rfl ?_
    refine z_bipush (v := nI 64) 9 C dX6_isItem_9 rfl ?_
    refine z_callSi 11 C (As := [.int p1, .int (nI 64)]) 2 (c_X6_isIn l hg x p1 64 (by omega)) (va_cwS 2 C.1.2.2.2.2 gX6_isItem_X6_isIn rfl rfl rfl (by decide +kernel) ⟨Nat.le_of_ble_eq_true rfl, Nat.le_of_ble_eq_true rfl⟩) rfl rfl (Nat.le_of_ble_eq_true rfl) ⟨Nat.le_of_ble_eq_true rfl, Nat.le_of_ble_eq_true rfl⟩ dX6_isItem_11 (fun r u hu => ?_)
    obtain ⟨hu1, hu2⟩ := hu
    subst u
    rcases hu2 with ⟨hr9, hz2⟩ | ⟨hr9, hz2⟩
    · subst r
      refine z_if_eqN 14 C 21 dX6_isItem_14 (by decide) (by omega) (fun h14 => absurd h14 (by omega)) (fun h14 => ?_)
      refine z_iconst (v := nI 0) 17 C dX6_isItem_17 rfl ?_
      refine z_goto 18 C 22 dX6_isItem_18 (by decide) ?_
      refine z_callVi 22 C (As := [.int (nI 0)]) 1 kO_model rfl (c_X6_holds l hg x 0 (by decide)) (cwV 1 C.1.2.2.2.2 gX6_isItem_X6_holds rfl rfl rfl (by decide +kernel) ⟨Nat.le_of_ble_eq_true rfl, Nat.le_of_ble_eq_true rfl⟩) rfl rfl (Nat.le_of_ble_eq_true rfl) ⟨Nat.le_of_ble_eq_true rfl, Nat.le_of_ble_eq_true rfl⟩ dX6_isItem_22 (fun r u hu => ?_)
      obtain ⟨f3, ef3⟩ : ∃ f9 : Nat → Int32, f9 = upd (x.1 2) 0 (nI 0) := ⟨_, rfl⟩
      obtain ⟨hu1, hu2⟩ : u = (xi x 2 f3) ∧ r = nI 1 := ⟨by rw [hu.1, ef3], hu.2⟩
      subst u
      subst r
      exact z_zret 25 C hr rfl (Or.inl ⟨rfl, ⟨hz1, hz2⟩, by rw [ef3]⟩) dX6_isItem_25
    · subst r
      refine z_if_eqN 14 C 21 dX6_isItem_14 (by decide) (by omega) (fun h14 => ?_) (fun h14 => absurd h14 (by omega))
      refine z_iconst (v := nI 1) 21 C dX6_isItem_21 rfl ?_
      refine z_callVi 22 C (As := [.int (nI 1)]) 1 kO_model rfl (c_X6_holds l hg x 1 (by decide)) (cwV 1 C.1.2.2.2.2 gX6_isItem_X6_holds rfl rfl rfl (by decide +kernel) ⟨Nat.le_of_ble_eq_true rfl, Nat.le_of_ble_eq_true rfl⟩) rfl rfl (Nat.le_of_ble_eq_true rfl) ⟨Nat.le_of_ble_eq_true rfl, Nat.le_of_ble_eq_true rfl⟩ dX6_isItem_22 (fun r u hu => ?_)
      obtain ⟨f4, ef4⟩ : ∃ f9 : Nat → Int32, f9 = upd (x.1 2) 0 (nI 1) := ⟨_, rfl⟩
      obtain ⟨hu1, hu2⟩ : u = (xi x 2 f4) ∧ r = nI 0 := ⟨by rw [hu.1, ef4], hu.2⟩
      subst u
      subst r
      exact z_zret 25 C hr rfl (Or.inr ⟨rfl, by simp [hz1, hz2], by rw [ef4]⟩) dX6_isItem_25
  · subst r
    refine z_if_eqN 5 C 21 dX6_isItem_5 (by decide) (by omega) (fun h5 => ?_) (fun h5 => absurd h5 (by omega))
    refine z_iconst (v := nI 1) 21 C dX6_isItem_21 rfl ?_
    refine z_callVi 22 C (As := [.int (nI 1)]) 1 kO_model rfl (c_X6_holds l hg x 1 (by decide)) (cwV 1 C.1.2.2.2.2 gX6_isItem_X6_holds rfl rfl rfl (by decide +kernel) ⟨Nat.le_of_ble_eq_true rfl, Nat.le_of_ble_eq_true rfl⟩) rfl rfl (Nat.le_of_ble_eq_true rfl) ⟨Nat.le_of_ble_eq_true rfl, Nat.le_of_ble_eq_true rfl⟩ dX6_isItem_22 (fun r u hu => ?_)
    obtain ⟨f5, ef5⟩ : ∃ f9 : Nat → Int32, f9 = upd (x.1 2) 0 (nI 1) := ⟨_, rfl⟩
    obtain ⟨hu1, hu2⟩ : u = (xi x 2 f5) ∧ r = nI 0 := ⟨by rw [hu.1, ef5], hu.2⟩
    subst u
    subst r
    exact z_zret 25 C hr rfl (Or.inr ⟨rfl, by simp [hz1], by rw [ef5]⟩) dX6_isItem_25
set_option maxHeartbeats 4000000 in
set_option maxRecDepth 100000 in
/-- X6_isRange -/
theorem c_X6_isRange (l : Launch) {g : zG} (hg : zOk g) (x : zT) (br : Nat) (hbr : br < 2) (p0 p1 : Int32) : Met l yX6_isRange wsX6_isRange ({ frames := 1, cells := 0, slots := 0, locals := 21 }) (va_Pc [.ref (zad g 2), .int (nI br), .int p0, .int p1] (zPre g x)) (va_Qi (fun (r : Int32) (u : zT) => (r = nI 1 ∧ (zk2 (decide (br = 1) && (zinb p0 64 && zinb p1 64)) (decide (p0 ≤ p1)) = 0 ∧ ∃ aa bb : Nat, aa ≤ bb ∧ bb < 64 ∧ p0 = nI aa ∧ p1 = nI bb) ∧ u = xi x 2 (upd (x.1 2) 0 (nI 0))) ∨ (r = nI 0 ∧ (zk2 (decide (br = 1) && (zinb p0 64 && zinb p1 64)) (decide (p0 ≤ p1)) = 1 ∨ zk2 (decide (br = 1) && (zinb p0 64 && zinb p1 64)) (decide (p0 ≤ p1)) = 2) ∧ u = xi x 2 (upd (x.1 2) 0 (nI (zk2 (decide (br = 1) && (zinb p0 64 && zinb p1 64)) (decide (p0 ≤ p1))))))) (zB g) (zA g)) 0 0 (zA g) := by
  refine z_met (cc := cX6_isRange) (nL := 5) (ret := (some .boolean)) hg (by decide) rfl (Nat.le_of_ble_eq_true rfl) ?_
  intro p_ e_ s_ m_ args_ below_ meth_ c_ C hr
  show Z p_ l e_ _ s_ m_ args_ below_ meth_ c_ g 5 0 0 _ x 0 [(0, .ref (zad g 2)), (1, .int (nI br)), (2, .int p0), (3, .int p1)] []
  refine z_iload_n 0 C dX6_isRange_0 rfl 1 rfl ?_
  refine z_if_eqN 1 C 26 dX6_isRange_1 (by decide) (by omega) (fun h1 => ?_) (fun h1 => ?_)
  · refine z_iconst (v := nI 0) 26 C dX6_isRange_26 rfl ?_
    refine z_istore (lv' := [(4, .int (nI 0)), (0, .ref (zad g 2)), (1, .int (nI br)), (2, .int p0), (3, .int p1)]) 27 C dX6_isRange_27 (by decide) rfl ?_
    refine z_aload_n 29 C dX6_isRange_29 rfl 1 rfl ?_
    refine z_iload 30 C dX6_isRange_30 0 rfl ?_
    refine z_if_neN 32 C 39 dX6_isRange_32 (by decide) (by omega) (fun h32 => absurd h32 (by omega)) (fun h32 => ?_)
    refine z_iconst (v := nI 1) 35 C dX6_isRange_35 rfl ?_
    refine z_goto 36 C 49 dX6_isRange_36 (by decide) ?_
    refine z_callVi 49 C (As := [.int (nI 1)]) 1 kO_model rfl (c_X6_holds l hg x 1 (by decide)) (cwV 1 C.1.2.2.2.2 gX6_isRange_X6_holds rfl rfl rfl (by decide +kernel) ⟨Nat.le_of_ble_eq_true rfl, Nat.le_of_ble_eq_true rfl⟩) rfl rfl (Nat.le_of_ble_eq_true rfl) ⟨Nat.le_of_ble_eq_true rfl, Nat.le_of_ble_eq_true rfl⟩ dX6_isRange_49 (fun r u hu => ?_)
    obtain ⟨f1, ef1⟩ : ∃ f9 : Nat → Int32, f9 = upd (x.1 2) 0 (nI 1) := ⟨_, rfl⟩
    obtain ⟨hu1, hu2⟩ : u = (xi x 2 f1) ∧ r = nI 0 := ⟨by rw [hu.1, ef1], hu.2⟩
    subst u
    subst r
    exact z_zret 52 C hr rfl (Or.inr ⟨rfl, Or.inl (show zk2 (decide (br = 1) && (zinb p0 64 && zinb p1 64)) (decide (p0 ≤ p1)) = 1 by simp [zk2, h1]), by rw [ef1, show zk2 (decide (br = 1) && (zinb p0 64 && zinb p1 64)) (decide (p0 ≤ p1)) = 1 by simp [zk2, h1]]⟩) dX6_isRange_52
  · refine z_iload_n 4 C dX6_isRange_4 rfl 2 rfl ?_
    refine z_bipush (v := nI 64) 5 C dX6_isRange_5 rfl ?_
    refine z_callSi 7 C (As := [.int p0, .int (nI 64)]) 2 (c_X6_isIn l hg x p0 64 (by omega)) (va_cwS 2 C.1.2.2.2.2 gX6_isRange_X6_isIn rfl rfl rfl (by decide +kernel) ⟨Nat.le_of_ble_eq_true rfl, Nat.le_of_ble_eq_true rfl⟩) rfl rfl (Nat.le_of_ble_eq_true rfl) ⟨Nat.le_of_ble_eq_true rfl, Nat.le_of_ble_eq_true rfl⟩ dX6_isRange_7 (fun r u hu => ?_)
    obtain ⟨hu1, hu2⟩ := hu
    subst u
    rcases hu2 with ⟨hr9, hz2⟩ | ⟨hr9, hz2⟩
    · subst r
      obtain ⟨a, ha, hp9⟩ := (zinb_t (by omega)).mp hz2
      subst hp9
      have hcla := nI_clamp (n := a) (by omega)
      refine z_if_eqN 10 C 26 dX6_isRange_10 (by decide) (by omega) (fun h10 => absurd h10 (by omega)) (fun h10 => ?_)
      refine z_iload_n 13 C dX6_isRange_13 rfl 3 rfl ?_
      refine z_bipush (v := nI 64) 14 C dX6_isRange_14 rfl ?_
      refine z_callSi 16 C (As := [.int p1, .int (nI 64)]) 2 (c_X6_isIn l hg x p1 64 (by omega)) (va_cwS 2 C.1.2.2.2.2 gX6_isRange_X6_isIn rfl rfl rfl (by decide +kernel) ⟨Nat.le_of_ble_eq_true rfl, Nat.le_of_ble_eq_true rfl⟩) rfl rfl (Nat.le_of_ble_eq_true rfl) ⟨Nat.le_of_ble_eq_true rfl, Nat.le_of_ble_eq_true rfl⟩ dX6_isRange_16 (fun r u hu => ?_)
      obtain ⟨hu1, hu2⟩ := hu
      subst u
      rcases hu2 with ⟨hr9, hz3⟩ | ⟨hr9, hz3⟩
      · subst r
        obtain ⟨b, hb, hp9⟩ := (zinb_t (by omega)).mp hz3
        subst hp9
        have hclb := nI_clamp (n := b) (by omega)
        refine z_if_eqN 19 C 26 dX6_isRange_19 (by decide) (by omega) (fun h19 => absurd h19 (by omega)) (fun h19 => ?_)
        refine z_iconst (v := nI 1) 22 C dX6_isRange_22 rfl ?_
        refine z_goto 23 C 27 dX6_isRange_23 (by decide) ?_
        refine z_istore (lv' := [(4, .int (nI 1)), (0, .ref (zad g 2)), (1, .int (nI br)), (2, .int (nI a)), (3, .int (nI b))]) 27 C dX6_isRange_27 (by decide) rfl ?_
        refine z_aload_n 29 C dX6_isRange_29 rfl 1 rfl ?_
        refine z_iload 30 C dX6_isRange_30 0 rfl ?_
        refine z_if_neN 32 C 39 dX6_isRange_32 (by decide) (by omega) (fun h32 => ?_) (fun h32 => absurd h32 (by omega))
        refine z_iload_n 39 C dX6_isRange_39 rfl 4 rfl ?_
        refine z_iload_n 40 C dX6_isRange_40 rfl 3 rfl ?_
        refine z_icmp_geN 41 C 48 dX6_isRange_41 (by decide) (by omega) (by omega) (fun h41 => ?_) (fun h41 => ?_)
        · refine z_iconst (v := nI 0) 48 C dX6_isRange_48 rfl ?_
          refine z_callVi 49 C (As := [.int (nI 0)]) 1 kO_model rfl (c_X6_holds l hg x 0 (by decide)) (cwV 1 C.1.2.2.2.2 gX6_isRange_X6_holds rfl rfl rfl (by decide +kernel) ⟨Nat.le_of_ble_eq_true rfl, Nat.le_of_ble_eq_true rfl⟩) rfl rfl (Nat.le_of_ble_eq_true rfl) ⟨Nat.le_of_ble_eq_true rfl, Nat.le_of_ble_eq_true rfl⟩ dX6_isRange_49 (fun r u hu => ?_)
          obtain ⟨f4, ef4⟩ : ∃ f9 : Nat → Int32, f9 = upd (x.1 2) 0 (nI 0) := ⟨_, rfl⟩
          obtain ⟨hu1, hu2⟩ : u = (xi x 2 f4) ∧ r = nI 1 := ⟨by rw [hu.1, ef4], hu.2⟩
          subst u
          subst r
          exact z_zret 52 C hr rfl (Or.inl ⟨rfl, ⟨by simp [zk2, hz2, hcla, hz3, hclb, show br = 1 by omega, decide_eq_true (nI_le h41 (show b < 2 ^ 31 by omega))], a, b, h41, hb, rfl, rfl⟩, by rw [ef4]⟩) dX6_isRange_52
        · refine z_iconst (v := nI 2) 44 C dX6_isRange_44 rfl ?_
          refine z_goto 45 C 49 dX6_isRange_45 (by decide) ?_
          refine z_callVi 49 C (As := [.int (nI 2)]) 1 kO_model rfl (c_X6_holds l hg x 2 (by decide)) (cwV 1 C.1.2.2.2.2 gX6_isRange_X6_holds rfl rfl rfl (by decide +kernel) ⟨Nat.le_of_ble_eq_true rfl, Nat.le_of_ble_eq_true rfl⟩) rfl rfl (Nat.le_of_ble_eq_true rfl) ⟨Nat.le_of_ble_eq_true rfl, Nat.le_of_ble_eq_true rfl⟩ dX6_isRange_49 (fun r u hu => ?_)
          obtain ⟨f5, ef5⟩ : ∃ f9 : Nat → Int32, f9 = upd (x.1 2) 0 (nI 2) := ⟨_, rfl⟩
          obtain ⟨hu1, hu2⟩ : u = (xi x 2 f5) ∧ r = nI 0 := ⟨by rw [hu.1, ef5], hu.2⟩
          subst u
          subst r
          exact z_zret 52 C hr rfl (Or.inr ⟨rfl, Or.inr (show zk2 (decide (br = 1) && (zinb (nI a) 64 && zinb (nI b) 64)) (decide ((nI a) ≤ (nI b))) = 2 by simp [zk2, hz2, hcla, hz3, hclb, show br = 1 by omega]; exact nI_lt h41 (show a < 2 ^ 31 by omega)), by rw [ef5, show zk2 (decide (br = 1) && (zinb (nI a) 64 && zinb (nI b) 64)) (decide ((nI a) ≤ (nI b))) = 2 by simp [zk2, hz2, hcla, hz3, hclb, show br = 1 by omega]; exact nI_lt h41 (show a < 2 ^ 31 by omega)]⟩) dX6_isRange_52
      · subst r
        refine z_if_eqN 19 C 26 dX6_isRange_19 (by decide) (by omega) (fun h19 => ?_) (fun h19 => absurd h19 (by omega))
        refine z_iconst (v := nI 0) 26 C dX6_isRange_26 rfl ?_
        refine z_istore (lv' := [(4, .int (nI 0)), (0, .ref (zad g 2)), (1, .int (nI br)), (2, .int (nI a)), (3, .int p1)]) 27 C dX6_isRange_27 (by decide) rfl ?_
        refine z_aload_n 29 C dX6_isRange_29 rfl 1 rfl ?_
        refine z_iload 30 C dX6_isRange_30 0 rfl ?_
        refine z_if_neN 32 C 39 dX6_isRange_32 (by decide) (by omega) (fun h32 => absurd h32 (by omega)) (fun h32 => ?_)
        refine z_iconst (v := nI 1) 35 C dX6_isRange_35 rfl ?_
        refine z_goto 36 C 49 dX6_isRange_36 (by decide) ?_
        refine z_callVi 49 C (As := [.int (nI 1)]) 1 kO_model rfl (c_X6_holds l hg x 1 (by decide)) (cwV 1 C.1.2.2.2.2 gX6_isRange_X6_holds rfl rfl rfl (by decide +kernel) ⟨Nat.le_of_ble_eq_true rfl, Nat.le_of_ble_eq_true rfl⟩) rfl rfl (Nat.le_of_ble_eq_true rfl) ⟨Nat.le_of_ble_eq_true rfl, Nat.le_of_ble_eq_true rfl⟩ dX6_isRange_49 (fun r u hu => ?_)
        obtain ⟨f6, ef6⟩ : ∃ f9 : Nat → Int32, f9 = upd (x.1 2) 0 (nI 1) := ⟨_, rfl⟩
        obtain ⟨hu1, hu2⟩ : u = (xi x 2 f6) ∧ r = nI 0 := ⟨by rw [hu.1, ef6], hu.2⟩
        subst u
        subst r
        exact z_zret 52 C hr rfl (Or.inr ⟨rfl, Or.inl (show zk2 (decide (br = 1) && (zinb (nI a) 64 && zinb p1 64)) (decide ((nI a) ≤ p1)) = 1 by simp [zk2, hz2, hcla, hz3, h1]), by rw [ef6, show zk2 (decide (br = 1) && (zinb (nI a) 64 && zinb p1 64)) (decide ((nI a) ≤ p1)) = 1 by simp [zk2, hz2, hcla, hz3, h1]]⟩) dX6_isRange_52
    · subst r
      refine z_if_eqN 10 C 26 dX6_isRange_10 (by decide) (by omega) (fun h10 => ?_) (fun h10 => absurd h10 (by omega))
      refine z_iconst (v := nI 0) 26 C dX6_isRange_26 rfl ?_
      refine z_istore (lv' := [(4, .int (nI 0)), (0, .ref (zad g 2)), (1, .int (nI br)), (2, .int p0), (3, .int p1)]) 27 C dX6_isRange_27 (by decide) rfl ?_
      refine z_aload_n 29 C dX6_isRange_29 rfl 1 rfl ?_
      refine z_iload 30 C dX6_isRange_30 0 rfl ?_
      refine z_if_neN 32 C 39 dX6_isRange_32 (by decide) (by omega) (fun h32 => absurd h32 (by omega)) (fun h32 => ?_)
      refine z_iconst (v := nI 1) 35 C dX6_isRange_35 rfl ?_
      refine z_goto 36 C 49 dX6_isRange_36 (by decide) ?_
      refine z_callVi 49 C (As := [.int (nI 1)]) 1 kO_model rfl (c_X6_holds l hg x 1 (by decide)) (cwV 1 C.1.2.2.2.2 gX6_isRange_X6_holds rfl rfl rfl (by decide +kernel) ⟨Nat.le_of_ble_eq_true rfl, Nat.le_of_ble_eq_true rfl⟩) rfl rfl (Nat.le_of_ble_eq_true rfl) ⟨Nat.le_of_ble_eq_true rfl, Nat.le_of_ble_eq_true rfl⟩ dX6_isRange_49 (fun r u hu => ?_)
      obtain ⟨f7, ef7⟩ : ∃ f9 : Nat → Int32, f9 = upd (x.1 2) 0 (nI 1) := ⟨_, rfl⟩
      obtain ⟨hu1, hu2⟩ : u = (xi x 2 f7) ∧ r = nI 0 := ⟨by rw [hu.1, ef7], hu.2⟩
      subst u
      subst r
      exact z_zret 52 C hr rfl (Or.inr ⟨rfl, Or.inl (show zk2 (decide (br = 1) && (zinb p0 64 && zinb p1 64)) (decide (p0 ≤ p1)) = 1 by simp [zk2, hz2, h1]), by rw [ef7, show zk2 (decide (br = 1) && (zinb p0 64 && zinb p1 64)) (decide (p0 ≤ p1)) = 1 by simp [zk2, hz2, h1]]⟩) dX6_isRange_52
set_option maxHeartbeats 4000000 in
set_option maxRecDepth 100000 in
/-- X6_isLeast -/
theorem c_X6_isLeast (l : Launch) {g : zG} (hg : zOk g) (x : zT) (p0 p1 : Int32) : Met l yX6_isLeast wsX6_isLeast ({ frames := 2, cells := 0, slots := 0, locals := 41 }) (va_Pc [.ref (zad g 2), .int p0, .int p1] (zPre g x)) (va_Qi (fun (r : Int32) (u : zT) => (r = nI 1 ∧ (zinb p0 4 = true ∧ zwib p1 (nI 1) (nI 1000000) = true) ∧ u = xi x 2 (upd (x.1 2) 0 (nI 0))) ∨ (r = nI 0 ∧ (zinb p0 4 = false ∧ u = xi x 2 (upd (x.1 2) 0 (nI 1)) ∨ zinb p0 4 = true ∧ zwib p1 (nI 1) (nI 1000000) = false ∧ u = xi x 2 (upd (x.1 2) 0 (nI 2))))) (zB g) (zA g)) 0 0 (zA g) := by
  refine z_met (cc := cX6_isLeast) (nL := 3) (ret := (some .boolean)) hg (by decide) rfl (Nat.le_of_ble_eq_true rfl) ?_
  intro p_ e_ s_ m_ args_ below_ meth_ c_ C hr
  show Z p_ l e_ _ s_ m_ args_ below_ meth_ c_ g 3 0 0 _ x 0 [(0, .ref (zad g 2)), (1, .int p0), (2, .int p1)] []
  have hw_k83 := C.1.2.2.2.2 (.constant RX6 83 1000000) (by decide +kernel)
  refine z_aload_n 0 C dX6_isLeast_0 rfl 0 rfl ?_
  refine z_iload_n 1 C dX6_isLeast_1 rfl 1 rfl ?_
  refine z_callSi 2 C (As := [.int p0]) 1 (c_X6_isStream l hg x p0) (va_cwS 1 C.1.2.2.2.2 gX6_isLeast_X6_isStream rfl rfl rfl (by decide +kernel) ⟨Nat.le_of_ble_eq_true rfl, Nat.le_of_ble_eq_true rfl⟩) rfl rfl (Nat.le_of_ble_eq_true rfl) ⟨Nat.le_of_ble_eq_true rfl, Nat.le_of_ble_eq_true rfl⟩ dX6_isLeast_2 (fun r u hu => ?_)
  obtain ⟨hu1, hu2⟩ := hu
  subst u
  rcases hu2 with ⟨hr9, hz1⟩ | ⟨hr9, hz1⟩
  · subst r
    refine z_if_neN 5 C 12 dX6_isLeast_5 (by decide) (by omega) (fun h5 => ?_) (fun h5 => absurd h5 (by omega))
    refine z_iload_n 12 C dX6_isLeast_12 rfl 2 rfl ?_
    refine z_iconst (v := nI 1) 13 C dX6_isLeast_13 rfl ?_
    refine z_icmp_lt 14 C 27 dX6_isLeast_14 (by decide) (fun h14 => ?_) (fun h14 => ?_)
    · refine z_iconst (v := nI 2) 27 C dX6_isLeast_27 rfl ?_
      refine z_callVi 28 C (As := [.int (nI 2)]) 1 kO_model rfl (c_X6_holds l hg x 2 (by decide)) (cwV 1 C.1.2.2.2.2 gX6_isLeast_X6_holds rfl rfl rfl (by decide +kernel) ⟨Nat.le_of_ble_eq_true rfl, Nat.le_of_ble_eq_true rfl⟩) rfl rfl (Nat.le_of_ble_eq_true rfl) ⟨Nat.le_of_ble_eq_true rfl, Nat.le_of_ble_eq_true rfl⟩ dX6_isLeast_28 (fun r u hu => ?_)
      obtain ⟨f2, ef2⟩ : ∃ f9 : Nat → Int32, f9 = upd (x.1 2) 0 (nI 2) := ⟨_, rfl⟩
      obtain ⟨hu1, hu2⟩ : u = (xi x 2 f2) ∧ r = nI 0 := ⟨by rw [hu.1, ef2], hu.2⟩
      subst u
      subst r
      exact z_zret 31 C hr rfl (Or.inr ⟨rfl, Or.inr ⟨hz1, by first | exact zwib_f1 h14 | exact zwib_f2 (Int32.not_le.mpr h20), by rw [ef2]⟩⟩) dX6_isLeast_31
    · refine z_iload_n 17 C dX6_isLeast_17 rfl 2 rfl ?_
      refine z_ldc 18 C (v := nI 1000000) hw_k83 dX6_isLeast_18 ?_
      refine z_icmp_gt 20 C 27 dX6_isLeast_20 (by decide) (fun h20 => ?_) (fun h20 => ?_)
      · refine z_iconst (v := nI 2) 27 C dX6_isLeast_27 rfl ?_
        refine z_callVi 28 C (As := [.int (nI 2)]) 1 kO_model rfl (c_X6_holds l hg x 2 (by decide)) (cwV 1 C.1.2.2.2.2 gX6_isLeast_X6_holds rfl rfl rfl (by decide +kernel) ⟨Nat.le_of_ble_eq_true rfl, Nat.le_of_ble_eq_true rfl⟩) rfl rfl (Nat.le_of_ble_eq_true rfl) ⟨Nat.le_of_ble_eq_true rfl, Nat.le_of_ble_eq_true rfl⟩ dX6_isLeast_28 (fun r u hu => ?_)
        obtain ⟨f3, ef3⟩ : ∃ f9 : Nat → Int32, f9 = upd (x.1 2) 0 (nI 2) := ⟨_, rfl⟩
        obtain ⟨hu1, hu2⟩ : u = (xi x 2 f3) ∧ r = nI 0 := ⟨by rw [hu.1, ef3], hu.2⟩
        subst u
        subst r
        exact z_zret 31 C hr rfl (Or.inr ⟨rfl, Or.inr ⟨hz1, by first | exact zwib_f1 h14 | exact zwib_f2 (Int32.not_le.mpr h20), by rw [ef3]⟩⟩) dX6_isLeast_31
      · refine z_iconst (v := nI 0) 23 C dX6_isLeast_23 rfl ?_
        refine z_goto 24 C 28 dX6_isLeast_24 (by decide) ?_
        refine z_callVi 28 C (As := [.int (nI 0)]) 1 kO_model rfl (c_X6_holds l hg x 0 (by decide)) (cwV 1 C.1.2.2.2.2 gX6_isLeast_X6_holds rfl rfl rfl (by decide +kernel) ⟨Nat.le_of_ble_eq_true rfl, Nat.le_of_ble_eq_true rfl⟩) rfl rfl (Nat.le_of_ble_eq_true rfl) ⟨Nat.le_of_ble_eq_true rfl, Nat.le_of_ble_eq_true rfl⟩ dX6_isLeast_28 (fun r u hu => ?_)
        obtain ⟨f4, ef4⟩ : ∃ f9 : Nat → Int32, f9 = upd (x.1 2) 0 (nI 0) := ⟨_, rfl⟩
        obtain ⟨hu1, hu2⟩ : u = (xi x 2 f4) ∧ r = nI 1 := ⟨by rw [hu.1, ef4], hu.2⟩
        subst u
        subst r
        exact z_zret 31 C hr rfl (Or.inl ⟨rfl, ⟨hz1, zwib_y h14 (Int32.not_lt.mp h20)⟩, by rw [ef4]⟩) dX6_isLeast_31
  · subst r
    refine z_if_neN 5 C 12 dX6_isLeast_5 (by decide) (by omega) (fun h5 => absurd h5 (by omega)) (fun h5 => ?_)
    refine z_iconst (v := nI 1) 8 C dX6_isLeast_8 rfl ?_
    refine z_goto 9 C 28 dX6_isLeast_9 (by decide) ?_
    refine z_callVi 28 C (As := [.int (nI 1)]) 1 kO_model rfl (c_X6_holds l hg x 1 (by decide)) (cwV 1 C.1.2.2.2.2 gX6_isLeast_X6_holds rfl rfl rfl (by decide +kernel) ⟨Nat.le_of_ble_eq_true rfl, Nat.le_of_ble_eq_true rfl⟩) rfl rfl (Nat.le_of_ble_eq_true rfl) ⟨Nat.le_of_ble_eq_true rfl, Nat.le_of_ble_eq_true rfl⟩ dX6_isLeast_28 (fun r u hu => ?_)
    obtain ⟨f5, ef5⟩ : ∃ f9 : Nat → Int32, f9 = upd (x.1 2) 0 (nI 1) := ⟨_, rfl⟩
    obtain ⟨hu1, hu2⟩ : u = (xi x 2 f5) ∧ r = nI 0 := ⟨by rw [hu.1, ef5], hu.2⟩
    subst u
    subst r
    exact z_zret 31 C hr rfl (Or.inr ⟨rfl, Or.inl ⟨hz1, by rw [ef5]⟩⟩) dX6_isLeast_31
set_option maxHeartbeats 4000000 in
set_option maxRecDepth 100000 in
/-- X6_multiplier -/
theorem c_X6_multiplier (l : Launch) {g : zG} (hg : zOk g) (x : zT) (row : Nat) (hrow : row < 3) : Met l yX6_multiplier wsX6_multiplier ({ frames := 0, cells := 0, slots := 0, locals := 0 }) (va_Pc [.int (nI row)] (zPre g x)) (va_Qi (fun (r : Int32) (u : zT) => u = x ∧ r = nI (zca row)) (zB g) (zA g)) 0 0 (zA g) := by
  refine z_met (cc := cX6_multiplier) (nL := 1) (ret := (some .int)) hg (by decide) rfl (Nat.le_of_ble_eq_true rfl) ?_
  intro p_ e_ s_ m_ args_ below_ meth_ c_ C hr
  show Z p_ l e_ _ s_ m_ args_ below_ meth_ c_ g 1 0 0 _ x 0 [(0, .int (nI row))] []
  have h9 : row = 0 ∨ row = 1 ∨ row = 2 := by omega
  rcases h9 with e | e | e
  · subst e
    refine z_iload_n 0 C dX6_multiplier_0 rfl 0 rfl ?_
    refine z_if_neN 1 C 9 dX6_multiplier_1 (by decide) (by omega) (fun h1 => absurd h1 (by omega)) (fun h1 => ?_)
    refine z_bipush (v := nI 7) 4 C dX6_multiplier_4 rfl ?_
    refine z_goto 6 C 21 dX6_multiplier_6 (by decide) ?_
    exact z_iret 21 C hr ⟨rfl, rfl⟩ dX6_multiplier_21
  · subst e
    refine z_iload_n 0 C dX6_multiplier_0 rfl 0 rfl ?_
    refine z_if_neN 1 C 9 dX6_multiplier_1 (by decide) (by omega) (fun h1 => ?_) (fun h1 => absurd h1 (by omega))
    refine z_iload_n 9 C dX6_multiplier_9 rfl 0 rfl ?_
    refine z_iconst (v := nI 1) 10 C dX6_multiplier_10 rfl ?_
    refine z_icmp_neN 11 C 19 dX6_multiplier_11 (by decide) (by omega) (by omega) (fun h11 => absurd h11 (by omega)) (fun h11 => ?_)
    refine z_bipush (v := nI 11) 14 C dX6_multiplier_14 rfl ?_
    refine z_goto 16 C 21 dX6_multiplier_16 (by decide) ?_
    exact z_iret 21 C hr ⟨rfl, rfl⟩ dX6_multiplier_21
  · subst e
    refine z_iload_n 0 C dX6_multiplier_0 rfl 0 rfl ?_
    refine z_if_neN 1 C 9 dX6_multiplier_1 (by decide) (by omega) (fun h1 => ?_) (fun h1 => absurd h1 (by omega))
    refine z_iload_n 9 C dX6_multiplier_9 rfl 0 rfl ?_
    refine z_iconst (v := nI 1) 10 C dX6_multiplier_10 rfl ?_
    refine z_icmp_neN 11 C 19 dX6_multiplier_11 (by decide) (by omega) (by omega) (fun h11 => ?_) (fun h11 => absurd h11 (by omega))
    refine z_bipush (v := nI 23) 19 C dX6_multiplier_19 rfl ?_
    exact z_iret 21 C hr ⟨rfl, rfl⟩ dX6_multiplier_21
set_option maxHeartbeats 4000000 in
set_option maxRecDepth 100000 in
/-- X6_shift -/
theorem c_X6_shift (l : Launch) {g : zG} (hg : zOk g) (x : zT) (row : Nat) (hrow : row < 3) : Met l yX6_shift wsX6_shift ({ frames := 0, cells := 0, slots := 0, locals := 0 }) (va_Pc [.int (nI row)] (zPre g x)) (va_Qi (fun (r : Int32) (u : zT) => u = x ∧ r = nI (zcb row)) (zB g) (zA g)) 0 0 (zA g) := by
  refine z_met (cc := cX6_shift) (nL := 1) (ret := (some .int)) hg (by decide) rfl (Nat.le_of_ble_eq_true rfl) ?_
  intro p_ e_ s_ m_ args_ below_ meth_ c_ C hr
  show Z p_ l e_ _ s_ m_ args_ below_ meth_ c_ g 1 0 0 _ x 0 [(0, .int (nI row))] []
  have h9 : row = 0 ∨ row = 1 ∨ row = 2 := by omega
  rcases h9 with e | e | e
  · subst e
    refine z_iload_n 0 C dX6_shift_0 rfl 0 rfl ?_
    refine z_if_neN 1 C 8 dX6_shift_1 (by decide) (by omega) (fun h1 => absurd h1 (by omega)) (fun h1 => ?_)
    refine z_iconst (v := nI 3) 4 C dX6_shift_4 rfl ?_
    refine z_goto 5 C 19 dX6_shift_5 (by decide) ?_
    exact z_iret 19 C hr ⟨rfl, rfl⟩ dX6_shift_19
  · subst e
    refine z_iload_n 0 C dX6_shift_0 rfl 0 rfl ?_
    refine z_if_neN 1 C 8 dX6_shift_1 (by decide) (by omega) (fun h1 => ?_) (fun h1 => absurd h1 (by omega))
    refine z_iload_n 8 C dX6_shift_8 rfl 0 rfl ?_
    refine z_iconst (v := nI 1) 9 C dX6_shift_9 rfl ?_
    refine z_icmp_neN 10 C 18 dX6_shift_10 (by decide) (by omega) (by omega) (fun h10 => absurd h10 (by omega)) (fun h10 => ?_)
    refine z_bipush (v := nI 19) 13 C dX6_shift_13 rfl ?_
    refine z_goto 15 C 19 dX6_shift_15 (by decide) ?_
    exact z_iret 19 C hr ⟨rfl, rfl⟩ dX6_shift_19
  · subst e
    refine z_iload_n 0 C dX6_shift_0 rfl 0 rfl ?_
    refine z_if_neN 1 C 8 dX6_shift_1 (by decide) (by omega) (fun h1 => ?_) (fun h1 => absurd h1 (by omega))
    refine z_iload_n 8 C dX6_shift_8 rfl 0 rfl ?_
    refine z_iconst (v := nI 1) 9 C dX6_shift_9 rfl ?_
    refine z_icmp_neN 10 C 18 dX6_shift_10 (by decide) (by omega) (by omega) (fun h10 => ?_) (fun h10 => absurd h10 (by omega))
    refine z_iconst (v := nI 5) 18 C dX6_shift_18 rfl ?_
    exact z_iret 19 C hr ⟨rfl, rfl⟩ dX6_shift_19
set_option maxHeartbeats 4000000 in
set_option maxRecDepth 100000 in
/-- X6_columnOf -/
theorem c_X6_columnOf (l : Launch) {g : zG} (hg : zOk g) (x : zT) (row half : Nat) (hrow : row < 3) (hhalf : half < 64) : Met l yX6_columnOf wsX6_columnOf ({ frames := 1, cells := 0, slots := 0, locals := 20 }) (va_Pc [.int (nI row), .int (nI half)] (zPre g x)) (va_Qi (fun (r : Int32) (u : zT) => u = x ∧ r = nI (zccol row half)) (zB g) (zA g)) 0 0 (zA g) := by
  refine z_met (cc := cX6_columnOf) (nL := 2) (ret := (some .int)) hg (by decide) rfl (Nat.le_of_ble_eq_true rfl) ?_
  intro p_ e_ s_ m_ args_ below_ meth_ c_ C hr
  show Z p_ l e_ _ s_ m_ args_ below_ meth_ c_ g 2 0 0 _ x 0 [(0, .int (nI row)), (1, .int (nI half))] []
  have hb9 := zcab_b (r := row) hhalf
  refine z_iload_n 0 C dX6_columnOf_0 rfl 0 rfl ?_
  refine z_callSi 1 C (As := [.int (nI row)]) 1 (c_X6_multiplier l hg x row (by first | decide | omega)) (va_cwS 1 C.1.2.2.2.2 gX6_columnOf_X6_multiplier rfl rfl rfl (by decide +kernel) ⟨Nat.le_of_ble_eq_true rfl, Nat.le_of_ble_eq_true rfl⟩) rfl rfl (Nat.le_of_ble_eq_true rfl) ⟨Nat.le_of_ble_eq_true rfl, Nat.le_of_ble_eq_true rfl⟩ dX6_columnOf_1 (fun r u hu => ?_)
  obtain ⟨hu1, hu2⟩ := hu
  subst u
  subst r
  refine z_iload_n 4 C dX6_columnOf_4 rfl 1 rfl ?_
  refine z_imul (v := nI ((zca row) * half)) 5 C dX6_columnOf_5 (pk_mul (zca row) half) ?_
  refine z_iload_n 6 C dX6_columnOf_6 rfl 0 rfl ?_
  refine z_callSi 7 C (As := [.int (nI row)]) 1 (c_X6_shift l hg x row (by first | decide | omega)) (va_cwS 1 C.1.2.2.2.2 gX6_columnOf_X6_shift rfl rfl rfl (by decide +kernel) ⟨Nat.le_of_ble_eq_true rfl, Nat.le_of_ble_eq_true rfl⟩) rfl rfl (Nat.le_of_ble_eq_true rfl) ⟨Nat.le_of_ble_eq_true rfl, Nat.le_of_ble_eq_true rfl⟩ dX6_columnOf_7 (fun r u hu => ?_)
  obtain ⟨hu1, hu2⟩ := hu
  subst u
  subst r
  refine z_iadd (v := nI (((zca row) * half) + (zcb row))) 10 C dX6_columnOf_10 (nI_add ((zca row) * half) (zcb row)) ?_
  refine z_bipush (v := nI 61) 11 C dX6_columnOf_11 rfl ?_
  refine z_irem (v := nI ((((zca row) * half) + (zcb row)) % 61)) 13 C dX6_columnOf_13 (by decide) (pk_rem (by omega) (by omega) (by omega)) ?_
  refine z_bipush (v := nI 8) 14 C dX6_columnOf_14 rfl ?_
  refine z_irem (v := nI (((((zca row) * half) + (zcb row)) % 61) % 8)) 16 C dX6_columnOf_16 (by decide) (pk_rem (by omega) (by omega) (by omega)) ?_
  exact z_iret 17 C hr ⟨rfl, rfl⟩ dX6_columnOf_17
set_option maxHeartbeats 4000000 in
set_option maxRecDepth 100000 in
/-- X6_signedColumnOf -/
theorem c_X6_signedColumnOf (l : Launch) {g : zG} (hg : zOk g) (x : zT) (row item : Nat) (hrow : row < 5) (hitem : item < 64) : Met l yX6_signedColumnOf wsX6_signedColumnOf ({ frames := 0, cells := 0, slots := 0, locals := 0 }) (va_Pc [.int (nI row), .int (nI item)] (zPre g x)) (va_Qi (fun (r : Int32) (u : zT) => u = x ∧ r = nI (zscol row item)) (zB g) (zA g)) 0 0 (zA g) := by
  refine z_met (cc := cX6_signedColumnOf) (nL := 4) (ret := (some .int)) hg (by decide) rfl (Nat.le_of_ble_eq_true rfl) ?_
  intro p_ e_ s_ m_ args_ below_ meth_ c_ C hr
  show Z p_ l e_ _ s_ m_ args_ below_ meth_ c_ g 4 0 0 _ x 0 [(0, .int (nI row)), (1, .int (nI item))] []
  have h9 : row = 0 ∨ row = 1 ∨ row = 2 ∨ row = 3 ∨ row = 4 := by omega
  rcases h9 with e | e | e | e | e
  · subst e
    refine z_iload_n 0 C dX6_signedColumnOf_0 rfl 0 rfl ?_
    refine z_if_neN 1 C 8 dX6_signedColumnOf_1 (by decide) (by omega) (fun h1 => absurd h1 (by omega)) (fun h1 => ?_)
    refine z_iconst (v := nI 5) 4 C dX6_signedColumnOf_4 rfl ?_
    refine z_goto 5 C 40 dX6_signedColumnOf_5 (by decide) ?_
    refine z_istore_n (lv' := [(2, .int (nI 5)), (0, .int (nI 0)), (1, .int (nI item))]) 40 C dX6_signedColumnOf_40 rfl (by decide) rfl ?_
    refine z_iload_n 41 C dX6_signedColumnOf_41 rfl 1 rfl ?_
    refine z_if_neN 42 C 49 dX6_signedColumnOf_42 (by decide) (by omega) (fun h42 => absurd h42 (by omega)) (fun h42 => ?_)
    refine z_iconst (v := nI 1) 45 C dX6_signedColumnOf_45 rfl ?_
    refine z_goto 46 C 80 dX6_signedColumnOf_46 (by decide) ?_
    refine z_istore_n (lv' := [(3, .int (nI 1)), (2, .int (nI 5)), (0, .int (nI 0)), (1, .int (nI item))]) 80 C dX6_signedColumnOf_80 rfl (by decide) rfl ?_
    refine z_iload_n 81 C dX6_signedColumnOf_81 rfl 1 rfl ?_
    refine z_iload_n 82 C dX6_signedColumnOf_82 rfl 3 rfl ?_
    refine z_imul (v := nI (5 * item)) 83 C dX6_signedColumnOf_83 (pk_mul 5 item) ?_
    refine z_iload_n 84 C dX6_signedColumnOf_84 rfl 0 rfl ?_
    refine z_iadd (v := nI ((5 * item) + 1)) 85 C dX6_signedColumnOf_85 (nI_add (5 * item) 1) ?_
    refine z_bipush (v := nI 67) 86 C dX6_signedColumnOf_86 rfl ?_
    refine z_irem (v := nI (((5 * item) + 1) % 67)) 88 C dX6_signedColumnOf_88 (by decide) (pk_rem (by omega) (by omega) (by omega)) ?_
    refine z_bipush (v := nI 8) 89 C dX6_signedColumnOf_89 rfl ?_
    refine z_irem (v := nI ((((5 * item) + 1) % 67) % 8)) 91 C dX6_signedColumnOf_91 (by decide) (pk_rem (by omega) (by omega) (by omega)) ?_
    exact z_iret 92 C hr ⟨rfl, rfl⟩ dX6_signedColumnOf_92
  · subst e
    refine z_iload_n 0 C dX6_signedColumnOf_0 rfl 0 rfl ?_
    refine z_if_neN 1 C 8 dX6_signedColumnOf_1 (by decide) (by omega) (fun h1 => ?_) (fun h1 => absurd h1 (by omega))
    refine z_iload_n 8 C dX6_signedColumnOf_8 rfl 0 rfl ?_
    refine z_iconst (v := nI 1) 9 C dX6_signedColumnOf_9 rfl ?_
    refine z_icmp_neN 10 C 18 dX6_signedColumnOf_10 (by decide) (by omega) (by omega) (fun h10 => absurd h10 (by omega)) (fun h10 => ?_)
    refine z_bipush (v := nI 9) 13 C dX6_signedColumnOf_13 rfl ?_
    refine z_goto 15 C 40 dX6_signedColumnOf_15 (by decide) ?_
    refine z_istore_n (lv' := [(2, .int (nI 9)), (0, .int (nI 1)), (1, .int (nI item))]) 40 C dX6_signedColumnOf_40 rfl (by decide) rfl ?_
    refine z_iload_n 41 C dX6_signedColumnOf_41 rfl 1 rfl ?_
    refine z_if_neN 42 C 49 dX6_signedColumnOf_42 (by decide) (by omega) (fun h42 => ?_) (fun h42 => absurd h42 (by omega))
    refine z_iload_n 49 C dX6_signedColumnOf_49 rfl 1 rfl ?_
    refine z_iconst (v := nI 1) 50 C dX6_signedColumnOf_50 rfl ?_
    refine z_icmp_neN 51 C 59 dX6_signedColumnOf_51 (by decide) (by omega) (by omega) (fun h51 => absurd h51 (by omega)) (fun h51 => ?_)
    refine z_bipush (v := nI 8) 54 C dX6_signedColumnOf_54 rfl ?_
    refine z_goto 56 C 80 dX6_signedColumnOf_56 (by decide) ?_
    refine z_istore_n (lv' := [(3, .int (nI 8)), (2, .int (nI 9)), (0, .int (nI 1)), (1, .int (nI item))]) 80 C dX6_signedColumnOf_80 rfl (by decide) rfl ?_
    refine z_iload_n 81 C dX6_signedColumnOf_81 rfl 1 rfl ?_
    refine z_iload_n 82 C dX6_signedColumnOf_82 rfl 3 rfl ?_
    refine z_imul (v := nI (9 * item)) 83 C dX6_signedColumnOf_83 (pk_mul 9 item) ?_
    refine z_iload_n 84 C dX6_signedColumnOf_84 rfl 0 rfl ?_
    refine z_iadd (v := nI ((9 * item) + 8)) 85 C dX6_signedColumnOf_85 (nI_add (9 * item) 8) ?_
    refine z_bipush (v := nI 67) 86 C dX6_signedColumnOf_86 rfl ?_
    refine z_irem (v := nI (((9 * item) + 8) % 67)) 88 C dX6_signedColumnOf_88 (by decide) (pk_rem (by omega) (by omega) (by omega)) ?_
    refine z_bipush (v := nI 8) 89 C dX6_signedColumnOf_89 rfl ?_
    refine z_irem (v := nI ((((9 * item) + 8) % 67) % 8)) 91 C dX6_signedColumnOf_91 (by decide) (pk_rem (by omega) (by omega) (by omega)) ?_
    exact z_iret 92 C hr ⟨rfl, rfl⟩ dX6_signedColumnOf_92
  · subst e
    refine z_iload_n 0 C dX6_signedColumnOf_0 rfl 0 rfl ?_
    refine z_if_neN 1 C 8 dX6_signedColumnOf_1 (by decide) (by omega) (fun h1 => ?_) (fun h1 => absurd h1 (by omega))
    refine z_iload_n 8 C dX6_signedColumnOf_8 rfl 0 rfl ?_
    refine z_iconst (v := nI 1) 9 C dX6_signedColumnOf_9 rfl ?_
    refine z_icmp_neN 10 C 18 dX6_signedColumnOf_10 (by decide) (by omega) (by omega) (fun h10 => ?_) (fun h10 => absurd h10 (by omega))
    refine z_iload_n 18 C dX6_signedColumnOf_18 rfl 0 rfl ?_
    refine z_iconst (v := nI 2) 19 C dX6_signedColumnOf_19 rfl ?_
    refine z_icmp_neN 20 C 28 dX6_signedColumnOf_20 (by decide) (by omega) (by omega) (fun h20 => absurd h20 (by omega)) (fun h20 => ?_)
    refine z_bipush (v := nI 14) 23 C dX6_signedColumnOf_23 rfl ?_
    refine z_goto 25 C 40 dX6_signedColumnOf_25 (by decide) ?_
    refine z_istore_n (lv' := [(2, .int (nI 14)), (0, .int (nI 2)), (1, .int (nI item))]) 40 C dX6_signedColumnOf_40 rfl (by decide) rfl ?_
    refine z_iload_n 41 C dX6_signedColumnOf_41 rfl 1 rfl ?_
    refine z_if_neN 42 C 49 dX6_signedColumnOf_42 (by decide) (by omega) (fun h42 => ?_) (fun h42 => absurd h42 (by omega))
    refine z_iload_n 49 C dX6_signedColumnOf_49 rfl 1 rfl ?_
    refine z_iconst (v := nI 1) 50 C dX6_signedColumnOf_50 rfl ?_
    refine z_icmp_neN 51 C 59 dX6_signedColumnOf_51 (by decide) (by omega) (by omega) (fun h51 => ?_) (fun h51 => absurd h51 (by omega))
    refine z_iload_n 59 C dX6_signedColumnOf_59 rfl 1 rfl ?_
    refine z_iconst (v := nI 2) 60 C dX6_signedColumnOf_60 rfl ?_
    refine z_icmp_neN 61 C 68 dX6_signedColumnOf_61 (by decide) (by omega) (by omega) (fun h61 => absurd h61 (by omega)) (fun h61 => ?_)
    refine z_iconst (v := nI 2) 64 C dX6_signedColumnOf_64 rfl ?_
    refine z_goto 65 C 80 dX6_signedColumnOf_65 (by decide) ?_
    refine z_istore_n (lv' := [(3, .int (nI 2)), (2, .int (nI 14)), (0, .int (nI 2)), (1, .int (nI item))]) 80 C dX6_signedColumnOf_80 rfl (by decide) rfl ?_
    refine z_iload_n 81 C dX6_signedColumnOf_81 rfl 1 rfl ?_
    refine z_iload_n 82 C dX6_signedColumnOf_82 rfl 3 rfl ?_
    refine z_imul (v := nI (14 * item)) 83 C dX6_signedColumnOf_83 (pk_mul 14 item) ?_
    refine z_iload_n 84 C dX6_signedColumnOf_84 rfl 0 rfl ?_
    refine z_iadd (v := nI ((14 * item) + 2)) 85 C dX6_signedColumnOf_85 (nI_add (14 * item) 2) ?_
    refine z_bipush (v := nI 67) 86 C dX6_signedColumnOf_86 rfl ?_
    refine z_irem (v := nI (((14 * item) + 2) % 67)) 88 C dX6_signedColumnOf_88 (by decide) (pk_rem (by omega) (by omega) (by omega)) ?_
    refine z_bipush (v := nI 8) 89 C dX6_signedColumnOf_89 rfl ?_
    refine z_irem (v := nI ((((14 * item) + 2) % 67) % 8)) 91 C dX6_signedColumnOf_91 (by decide) (pk_rem (by omega) (by omega) (by omega)) ?_
    exact z_iret 92 C hr ⟨rfl, rfl⟩ dX6_signedColumnOf_92
  · subst e
    refine z_iload_n 0 C dX6_signedColumnOf_0 rfl 0 rfl ?_
    refine z_if_neN 1 C 8 dX6_signedColumnOf_1 (by decide) (by omega) (fun h1 => ?_) (fun h1 => absurd h1 (by omega))
    refine z_iload_n 8 C dX6_signedColumnOf_8 rfl 0 rfl ?_
    refine z_iconst (v := nI 1) 9 C dX6_signedColumnOf_9 rfl ?_
    refine z_icmp_neN 10 C 18 dX6_signedColumnOf_10 (by decide) (by omega) (by omega) (fun h10 => ?_) (fun h10 => absurd h10 (by omega))
    refine z_iload_n 18 C dX6_signedColumnOf_18 rfl 0 rfl ?_
    refine z_iconst (v := nI 2) 19 C dX6_signedColumnOf_19 rfl ?_
    refine z_icmp_neN 20 C 28 dX6_signedColumnOf_20 (by decide) (by omega) (by omega) (fun h20 => ?_) (fun h20 => absurd h20 (by omega))
    refine z_iload_n 28 C dX6_signedColumnOf_28 rfl 0 rfl ?_
    refine z_iconst (v := nI 3) 29 C dX6_signedColumnOf_29 rfl ?_
    refine z_icmp_neN 30 C 38 dX6_signedColumnOf_30 (by decide) (by omega) (by omega) (fun h30 => absurd h30 (by omega)) (fun h30 => ?_)
    refine z_bipush (v := nI 27) 33 C dX6_signedColumnOf_33 rfl ?_
    refine z_goto 35 C 40 dX6_signedColumnOf_35 (by decide) ?_
    refine z_istore_n (lv' := [(2, .int (nI 27)), (0, .int (nI 3)), (1, .int (nI item))]) 40 C dX6_signedColumnOf_40 rfl (by decide) rfl ?_
    refine z_iload_n 41 C dX6_signedColumnOf_41 rfl 1 rfl ?_
    refine z_if_neN 42 C 49 dX6_signedColumnOf_42 (by decide) (by omega) (fun h42 => ?_) (fun h42 => absurd h42 (by omega))
    refine z_iload_n 49 C dX6_signedColumnOf_49 rfl 1 rfl ?_
    refine z_iconst (v := nI 1) 50 C dX6_signedColumnOf_50 rfl ?_
    refine z_icmp_neN 51 C 59 dX6_signedColumnOf_51 (by decide) (by omega) (by omega) (fun h51 => ?_) (fun h51 => absurd h51 (by omega))
    refine z_iload_n 59 C dX6_signedColumnOf_59 rfl 1 rfl ?_
    refine z_iconst (v := nI 2) 60 C dX6_signedColumnOf_60 rfl ?_
    refine z_icmp_neN 61 C 68 dX6_signedColumnOf_61 (by decide) (by omega) (by omega) (fun h61 => ?_) (fun h61 => absurd h61 (by omega))
    refine z_iload_n 68 C dX6_signedColumnOf_68 rfl 1 rfl ?_
    refine z_iconst (v := nI 3) 69 C dX6_signedColumnOf_69 rfl ?_
    refine z_icmp_neN 70 C 78 dX6_signedColumnOf_70 (by decide) (by omega) (by omega) (fun h70 => absurd h70 (by omega)) (fun h70 => ?_)
    refine z_bipush (v := nI 40) 73 C dX6_signedColumnOf_73 rfl ?_
    refine z_goto 75 C 80 dX6_signedColumnOf_75 (by decide) ?_
    refine z_istore_n (lv' := [(3, .int (nI 40)), (2, .int (nI 27)), (0, .int (nI 3)), (1, .int (nI item))]) 80 C dX6_signedColumnOf_80 rfl (by decide) rfl ?_
    refine z_iload_n 81 C dX6_signedColumnOf_81 rfl 1 rfl ?_
    refine z_iload_n 82 C dX6_signedColumnOf_82 rfl 3 rfl ?_
    refine z_imul (v := nI (27 * item)) 83 C dX6_signedColumnOf_83 (pk_mul 27 item) ?_
    refine z_iload_n 84 C dX6_signedColumnOf_84 rfl 0 rfl ?_
    refine z_iadd (v := nI ((27 * item) + 40)) 85 C dX6_signedColumnOf_85 (nI_add (27 * item) 40) ?_
    refine z_bipush (v := nI 67) 86 C dX6_signedColumnOf_86 rfl ?_
    refine z_irem (v := nI (((27 * item) + 40) % 67)) 88 C dX6_signedColumnOf_88 (by decide) (pk_rem (by omega) (by omega) (by omega)) ?_
    refine z_bipush (v := nI 8) 89 C dX6_signedColumnOf_89 rfl ?_
    refine z_irem (v := nI ((((27 * item) + 40) % 67) % 8)) 91 C dX6_signedColumnOf_91 (by decide) (pk_rem (by omega) (by omega) (by omega)) ?_
    exact z_iret 92 C hr ⟨rfl, rfl⟩ dX6_signedColumnOf_92
  · subst e
    refine z_iload_n 0 C dX6_signedColumnOf_0 rfl 0 rfl ?_
    refine z_if_neN 1 C 8 dX6_signedColumnOf_1 (by decide) (by omega) (fun h1 => ?_) (fun h1 => absurd h1 (by omega))
    refine z_iload_n 8 C dX6_signedColumnOf_8 rfl 0 rfl ?_
    refine z_iconst (v := nI 1) 9 C dX6_signedColumnOf_9 rfl ?_
    refine z_icmp_neN 10 C 18 dX6_signedColumnOf_10 (by decide) (by omega) (by omega) (fun h10 => ?_) (fun h10 => absurd h10 (by omega))
    refine z_iload_n 18 C dX6_signedColumnOf_18 rfl 0 rfl ?_
    refine z_iconst (v := nI 2) 19 C dX6_signedColumnOf_19 rfl ?_
    refine z_icmp_neN 20 C 28 dX6_signedColumnOf_20 (by decide) (by omega) (by omega) (fun h20 => ?_) (fun h20 => absurd h20 (by omega))
    refine z_iload_n 28 C dX6_signedColumnOf_28 rfl 0 rfl ?_
    refine z_iconst (v := nI 3) 29 C dX6_signedColumnOf_29 rfl ?_
    refine z_icmp_neN 30 C 38 dX6_signedColumnOf_30 (by decide) (by omega) (by omega) (fun h30 => ?_) (fun h30 => absurd h30 (by omega))
    refine z_bipush (v := nI 33) 38 C dX6_signedColumnOf_38 rfl ?_
    refine z_istore_n (lv' := [(2, .int (nI 33)), (0, .int (nI 4)), (1, .int (nI item))]) 40 C dX6_signedColumnOf_40 rfl (by decide) rfl ?_
    refine z_iload_n 41 C dX6_signedColumnOf_41 rfl 1 rfl ?_
    refine z_if_neN 42 C 49 dX6_signedColumnOf_42 (by decide) (by omega) (fun h42 => ?_) (fun h42 => absurd h42 (by omega))
    refine z_iload_n 49 C dX6_signedColumnOf_49 rfl 1 rfl ?_
    refine z_iconst (v := nI 1) 50 C dX6_signedColumnOf_50 rfl ?_
    refine z_icmp_neN 51 C 59 dX6_signedColumnOf_51 (by decide) (by omega) (by omega) (fun h51 => ?_) (fun h51 => absurd h51 (by omega))
    refine z_iload_n 59 C dX6_signedColumnOf_59 rfl 1 rfl ?_
    refine z_iconst (v := nI 2) 60 C dX6_signedColumnOf_60 rfl ?_
    refine z_icmp_neN 61 C 68 dX6_signedColumnOf_61 (by decide) (by omega) (by omega) (fun h61 => ?_) (fun h61 => absurd h61 (by omega))
    refine z_iload_n 68 C dX6_signedColumnOf_68 rfl 1 rfl ?_
    refine z_iconst (v := nI 3) 69 C dX6_signedColumnOf_69 rfl ?_
    refine z_icmp_neN 70 C 78 dX6_signedColumnOf_70 (by decide) (by omega) (by omega) (fun h70 => ?_) (fun h70 => absurd h70 (by omega))
    refine z_bipush (v := nI 17) 78 C dX6_signedColumnOf_78 rfl ?_
    refine z_istore_n (lv' := [(3, .int (nI 17)), (2, .int (nI 33)), (0, .int (nI 4)), (1, .int (nI item))]) 80 C dX6_signedColumnOf_80 rfl (by decide) rfl ?_
    refine z_iload_n 81 C dX6_signedColumnOf_81 rfl 1 rfl ?_
    refine z_iload_n 82 C dX6_signedColumnOf_82 rfl 3 rfl ?_
    refine z_imul (v := nI (33 * item)) 83 C dX6_signedColumnOf_83 (pk_mul 33 item) ?_
    refine z_iload_n 84 C dX6_signedColumnOf_84 rfl 0 rfl ?_
    refine z_iadd (v := nI ((33 * item) + 17)) 85 C dX6_signedColumnOf_85 (nI_add (33 * item) 17) ?_
    refine z_bipush (v := nI 67) 86 C dX6_signedColumnOf_86 rfl ?_
    refine z_irem (v := nI (((33 * item) + 17) % 67)) 88 C dX6_signedColumnOf_88 (by decide) (pk_rem (by omega) (by omega) (by omega)) ?_
    refine z_bipush (v := nI 8) 89 C dX6_signedColumnOf_89 rfl ?_
    refine z_irem (v := nI ((((33 * item) + 17) % 67) % 8)) 91 C dX6_signedColumnOf_91 (by decide) (pk_rem (by omega) (by omega) (by omega)) ?_
    exact z_iret 92 C hr ⟨rfl, rfl⟩ dX6_signedColumnOf_92
set_option maxHeartbeats 4000000 in
set_option maxRecDepth 100000 in
/-- X6_signOf -/
theorem c_X6_signOf (l : Launch) {g : zG} (hg : zOk g) (x : zT) (row item : Nat) (hrow : row < 5) (hitem : item < 64) : Met l yX6_signOf wsX6_signOf ({ frames := 0, cells := 0, slots := 0, locals := 0 }) (va_Pc [.int (nI row), .int (nI item)] (zPre g x)) (va_Qi (fun (r : Int32) (u : zT) => u = x ∧ r = zsg row item) (zB g) (zA g)) 0 0 (zA g) := by
  refine z_met (cc := cX6_signOf) (nL := 4) (ret := (some .int)) hg (by decide) rfl (Nat.le_of_ble_eq_true rfl) ?_
  intro p_ e_ s_ m_ args_ below_ meth_ c_ C hr
  show Z p_ l e_ _ s_ m_ args_ below_ meth_ c_ g 4 0 0 _ x 0 [(0, .int (nI row)), (1, .int (nI item))] []
  have h9 : row = 0 ∨ row = 1 ∨ row = 2 ∨ row = 3 ∨ row = 4 := by omega
  rcases h9 with e | e | e | e | e
  · subst e
    refine z_iload_n 0 C dX6_signOf_0 rfl 0 rfl ?_
    refine z_if_neN 1 C 8 dX6_signOf_1 (by decide) (by omega) (fun h1 => absurd h1 (by omega)) (fun h1 => ?_)
    refine z_iconst (v := nI 3) 4 C dX6_signOf_4 rfl ?_
    refine z_goto 5 C 40 dX6_signOf_5 (by decide) ?_
    refine z_istore_n (lv' := [(2, .int (nI 3)), (0, .int (nI 0)), (1, .int (nI item))]) 40 C dX6_signOf_40 rfl (by decide) rfl ?_
    refine z_iload_n 41 C dX6_signOf_41 rfl 1 rfl ?_
    refine z_if_neN 42 C 50 dX6_signOf_42 (by decide) (by omega) (fun h42 => absurd h42 (by omega)) (fun h42 => ?_)
    refine z_bipush (v := nI 7) 45 C dX6_signOf_45 rfl ?_
    refine z_goto 47 C 80 dX6_signOf_47 (by decide) ?_
    refine z_istore_n (lv' := [(3, .int (nI 7)), (2, .int (nI 3)), (0, .int (nI 0)), (1, .int (nI item))]) 80 C dX6_signOf_80 rfl (by decide) rfl ?_
    refine z_iload_n 81 C dX6_signOf_81 rfl 1 rfl ?_
    refine z_iload_n 82 C dX6_signOf_82 rfl 3 rfl ?_
    refine z_imul (v := nI (3 * item)) 83 C dX6_signOf_83 (pk_mul 3 item) ?_
    refine z_iload_n 84 C dX6_signOf_84 rfl 0 rfl ?_
    refine z_iadd (v := nI ((3 * item) + 7)) 85 C dX6_signOf_85 (nI_add (3 * item) 7) ?_
    refine z_bipush (v := nI 71) 86 C dX6_signOf_86 rfl ?_
    refine z_irem (v := nI (((3 * item) + 7) % 71)) 88 C dX6_signOf_88 (by decide) (pk_rem (by omega) (by omega) (by omega)) ?_
    refine z_iconst (v := nI 2) 89 C dX6_signOf_89 rfl ?_
    refine z_irem (v := nI ((((3 * item) + 7) % 71) % 2)) 90 C dX6_signOf_90 (by decide) (pk_rem (by omega) (by omega) (by omega)) ?_
    refine z_if_neN 91 C 98 dX6_signOf_91 (by decide) (by omega) (fun h91 => ?_) (fun h91 => ?_)
    · refine z_iconst (v := (-1)) 98 C dX6_signOf_98 rfl ?_
      exact z_iret 99 C hr ⟨rfl, (if_neg (show ¬ zspar 0 item = 0 from h91)).symm⟩ dX6_signOf_99
    · refine z_iconst (v := nI 1) 94 C dX6_signOf_94 rfl ?_
      refine z_goto 95 C 99 dX6_signOf_95 (by decide) ?_
      exact z_iret 99 C hr ⟨rfl, (if_pos (show zspar 0 item = 0 from h91)).symm⟩ dX6_signOf_99
  · subst e
    refine z_iload_n 0 C dX6_signOf_0 rfl 0 rfl ?_
    refine z_if_neN 1 C 8 dX6_signOf_1 (by decide) (by omega) (fun h1 => ?_) (fun h1 => absurd h1 (by omega))
    refine z_iload_n 8 C dX6_signOf_8 rfl 0 rfl ?_
    refine z_iconst (v := nI 1) 9 C dX6_signOf_9 rfl ?_
    refine z_icmp_neN 10 C 18 dX6_signOf_10 (by decide) (by omega) (by omega) (fun h10 => absurd h10 (by omega)) (fun h10 => ?_)
    refine z_bipush (v := nI 10) 13 C dX6_signOf_13 rfl ?_
    refine z_goto 15 C 40 dX6_signOf_15 (by decide) ?_
    refine z_istore_n (lv' := [(2, .int (nI 10)), (0, .int (nI 1)), (1, .int (nI item))]) 40 C dX6_signOf_40 rfl (by decide) rfl ?_
    refine z_iload_n 41 C dX6_signOf_41 rfl 1 rfl ?_
    refine z_if_neN 42 C 50 dX6_signOf_42 (by decide) (by omega) (fun h42 => ?_) (fun h42 => absurd h42 (by omega))
    refine z_iload_n 50 C dX6_signOf_50 rfl 1 rfl ?_
    refine z_iconst (v := nI 1) 51 C dX6_signOf_51 rfl ?_
    refine z_icmp_neN 52 C 59 dX6_signOf_52 (by decide) (by omega) (by omega) (fun h52 => absurd h52 (by omega)) (fun h52 => ?_)
    refine z_iconst (v := nI 0) 55 C dX6_signOf_55 rfl ?_
    refine z_goto 56 C 80 dX6_signOf_56 (by decide) ?_
    refine z_istore_n (lv' := [(3, .int (nI 0)), (2, .int (nI 10)), (0, .int (nI 1)), (1, .int (nI item))]) 80 C dX6_signOf_80 rfl (by decide) rfl ?_
    refine z_iload_n 81 C dX6_signOf_81 rfl 1 rfl ?_
    refine z_iload_n 82 C dX6_signOf_82 rfl 3 rfl ?_
    refine z_imul (v := nI (10 * item)) 83 C dX6_signOf_83 (pk_mul 10 item) ?_
    refine z_iload_n 84 C dX6_signOf_84 rfl 0 rfl ?_
    refine z_iadd (v := nI ((10 * item) + 0)) 85 C dX6_signOf_85 (nI_add (10 * item) 0) ?_
    refine z_bipush (v := nI 71) 86 C dX6_signOf_86 rfl ?_
    refine z_irem (v := nI (((10 * item) + 0) % 71)) 88 C dX6_signOf_88 (by decide) (pk_rem (by omega) (by omega) (by omega)) ?_
    refine z_iconst (v := nI 2) 89 C dX6_signOf_89 rfl ?_
    refine z_irem (v := nI ((((10 * item) + 0) % 71) % 2)) 90 C dX6_signOf_90 (by decide) (pk_rem (by omega) (by omega) (by omega)) ?_
    refine z_if_neN 91 C 98 dX6_signOf_91 (by decide) (by omega) (fun h91 => ?_) (fun h91 => ?_)
    · refine z_iconst (v := (-1)) 98 C dX6_signOf_98 rfl ?_
      exact z_iret 99 C hr ⟨rfl, (if_neg (show ¬ zspar 1 item = 0 from h91)).symm⟩ dX6_signOf_99
    · refine z_iconst (v := nI 1) 94 C dX6_signOf_94 rfl ?_
      refine z_goto 95 C 99 dX6_signOf_95 (by decide) ?_
      exact z_iret 99 C hr ⟨rfl, (if_pos (show zspar 1 item = 0 from h91)).symm⟩ dX6_signOf_99
  · subst e
    refine z_iload_n 0 C dX6_signOf_0 rfl 0 rfl ?_
    refine z_if_neN 1 C 8 dX6_signOf_1 (by decide) (by omega) (fun h1 => ?_) (fun h1 => absurd h1 (by omega))
    refine z_iload_n 8 C dX6_signOf_8 rfl 0 rfl ?_
    refine z_iconst (v := nI 1) 9 C dX6_signOf_9 rfl ?_
    refine z_icmp_neN 10 C 18 dX6_signOf_10 (by decide) (by omega) (by omega) (fun h10 => ?_) (fun h10 => absurd h10 (by omega))
    refine z_iload_n 18 C dX6_signOf_18 rfl 0 rfl ?_
    refine z_iconst (v := nI 2) 19 C dX6_signOf_19 rfl ?_
    refine z_icmp_neN 20 C 28 dX6_signOf_20 (by decide) (by omega) (by omega) (fun h20 => absurd h20 (by omega)) (fun h20 => ?_)
    refine z_bipush (v := nI 21) 23 C dX6_signOf_23 rfl ?_
    refine z_goto 25 C 40 dX6_signOf_25 (by decide) ?_
    refine z_istore_n (lv' := [(2, .int (nI 21)), (0, .int (nI 2)), (1, .int (nI item))]) 40 C dX6_signOf_40 rfl (by decide) rfl ?_
    refine z_iload_n 41 C dX6_signOf_41 rfl 1 rfl ?_
    refine z_if_neN 42 C 50 dX6_signOf_42 (by decide) (by omega) (fun h42 => ?_) (fun h42 => absurd h42 (by omega))
    refine z_iload_n 50 C dX6_signOf_50 rfl 1 rfl ?_
    refine z_iconst (v := nI 1) 51 C dX6_signOf_51 rfl ?_
    refine z_icmp_neN 52 C 59 dX6_signOf_52 (by decide) (by omega) (by omega) (fun h52 => ?_) (fun h52 => absurd h52 (by omega))
    refine z_iload_n 59 C dX6_signOf_59 rfl 1 rfl ?_
    refine z_iconst (v := nI 2) 60 C dX6_signOf_60 rfl ?_
    refine z_icmp_neN 61 C 69 dX6_signOf_61 (by decide) (by omega) (by omega) (fun h61 => absurd h61 (by omega)) (fun h61 => ?_)
    refine z_bipush (v := nI 13) 64 C dX6_signOf_64 rfl ?_
    refine z_goto 66 C 80 dX6_signOf_66 (by decide) ?_
    refine z_istore_n (lv' := [(3, .int (nI 13)), (2, .int (nI 21)), (0, .int (nI 2)), (1, .int (nI item))]) 80 C dX6_signOf_80 rfl (by decide) rfl ?_
    refine z_iload_n 81 C dX6_signOf_81 rfl 1 rfl ?_
    refine z_iload_n 82 C dX6_signOf_82 rfl 3 rfl ?_
    refine z_imul (v := nI (21 * item)) 83 C dX6_signOf_83 (pk_mul 21 item) ?_
    refine z_iload_n 84 C dX6_signOf_84 rfl 0 rfl ?_
    refine z_iadd (v := nI ((21 * item) + 13)) 85 C dX6_signOf_85 (nI_add (21 * item) 13) ?_
    refine z_bipush (v := nI 71) 86 C dX6_signOf_86 rfl ?_
    refine z_irem (v := nI (((21 * item) + 13) % 71)) 88 C dX6_signOf_88 (by decide) (pk_rem (by omega) (by omega) (by omega)) ?_
    refine z_iconst (v := nI 2) 89 C dX6_signOf_89 rfl ?_
    refine z_irem (v := nI ((((21 * item) + 13) % 71) % 2)) 90 C dX6_signOf_90 (by decide) (pk_rem (by omega) (by omega) (by omega)) ?_
    refine z_if_neN 91 C 98 dX6_signOf_91 (by decide) (by omega) (fun h91 => ?_) (fun h91 => ?_)
    · refine z_iconst (v := (-1)) 98 C dX6_signOf_98 rfl ?_
      exact z_iret 99 C hr ⟨rfl, (if_neg (show ¬ zspar 2 item = 0 from h91)).symm⟩ dX6_signOf_99
    · refine z_iconst (v := nI 1) 94 C dX6_signOf_94 rfl ?_
      refine z_goto 95 C 99 dX6_signOf_95 (by decide) ?_
      exact z_iret 99 C hr ⟨rfl, (if_pos (show zspar 2 item = 0 from h91)).symm⟩ dX6_signOf_99
  · subst e
    refine z_iload_n 0 C dX6_signOf_0 rfl 0 rfl ?_
    refine z_if_neN 1 C 8 dX6_signOf_1 (by decide) (by omega) (fun h1 => ?_) (fun h1 => absurd h1 (by omega))
    refine z_iload_n 8 C dX6_signOf_8 rfl 0 rfl ?_
    refine z_iconst (v := nI 1) 9 C dX6_signOf_9 rfl ?_
    refine z_icmp_neN 10 C 18 dX6_signOf_10 (by decide) (by omega) (by omega) (fun h10 => ?_) (fun h10 => absurd h10 (by omega))
    refine z_iload_n 18 C dX6_signOf_18 rfl 0 rfl ?_
    refine z_iconst (v := nI 2) 19 C dX6_signOf_19 rfl ?_
    refine z_icmp_neN 20 C 28 dX6_signOf_20 (by decide) (by omega) (by omega) (fun h20 => ?_) (fun h20 => absurd h20 (by omega))
    refine z_iload_n 28 C dX6_signOf_28 rfl 0 rfl ?_
    refine z_iconst (v := nI 3) 29 C dX6_signOf_29 rfl ?_
    refine z_icmp_neN 30 C 38 dX6_signOf_30 (by decide) (by omega) (by omega) (fun h30 => absurd h30 (by omega)) (fun h30 => ?_)
    refine z_bipush (v := nI 29) 33 C dX6_signOf_33 rfl ?_
    refine z_goto 35 C 40 dX6_signOf_35 (by decide) ?_
    refine z_istore_n (lv' := [(2, .int (nI 29)), (0, .int (nI 3)), (1, .int (nI item))]) 40 C dX6_signOf_40 rfl (by decide) rfl ?_
    refine z_iload_n 41 C dX6_signOf_41 rfl 1 rfl ?_
    refine z_if_neN 42 C 50 dX6_signOf_42 (by decide) (by omega) (fun h42 => ?_) (fun h42 => absurd h42 (by omega))
    refine z_iload_n 50 C dX6_signOf_50 rfl 1 rfl ?_
    refine z_iconst (v := nI 1) 51 C dX6_signOf_51 rfl ?_
    refine z_icmp_neN 52 C 59 dX6_signOf_52 (by decide) (by omega) (by omega) (fun h52 => ?_) (fun h52 => absurd h52 (by omega))
    refine z_iload_n 59 C dX6_signOf_59 rfl 1 rfl ?_
    refine z_iconst (v := nI 2) 60 C dX6_signOf_60 rfl ?_
    refine z_icmp_neN 61 C 69 dX6_signOf_61 (by decide) (by omega) (by omega) (fun h61 => ?_) (fun h61 => absurd h61 (by omega))
    refine z_iload_n 69 C dX6_signOf_69 rfl 1 rfl ?_
    refine z_iconst (v := nI 3) 70 C dX6_signOf_70 rfl ?_
    refine z_icmp_neN 71 C 78 dX6_signOf_71 (by decide) (by omega) (by omega) (fun h71 => absurd h71 (by omega)) (fun h71 => ?_)
    refine z_iconst (v := nI 5) 74 C dX6_signOf_74 rfl ?_
    refine z_goto 75 C 80 dX6_signOf_75 (by decide) ?_
    refine z_istore_n (lv' := [(3, .int (nI 5)), (2, .int (nI 29)), (0, .int (nI 3)), (1, .int (nI item))]) 80 C dX6_signOf_80 rfl (by decide) rfl ?_
    refine z_iload_n 81 C dX6_signOf_81 rfl 1 rfl ?_
    refine z_iload_n 82 C dX6_signOf_82 rfl 3 rfl ?_
    refine z_imul (v := nI (29 * item)) 83 C dX6_signOf_83 (pk_mul 29 item) ?_
    refine z_iload_n 84 C dX6_signOf_84 rfl 0 rfl ?_
    refine z_iadd (v := nI ((29 * item) + 5)) 85 C dX6_signOf_85 (nI_add (29 * item) 5) ?_
    refine z_bipush (v := nI 71) 86 C dX6_signOf_86 rfl ?_
    refine z_irem (v := nI (((29 * item) + 5) % 71)) 88 C dX6_signOf_88 (by decide) (pk_rem (by omega) (by omega) (by omega)) ?_
    refine z_iconst (v := nI 2) 89 C dX6_signOf_89 rfl ?_
    refine z_irem (v := nI ((((29 * item) + 5) % 71) % 2)) 90 C dX6_signOf_90 (by decide) (pk_rem (by omega) (by omega) (by omega)) ?_
    refine z_if_neN 91 C 98 dX6_signOf_91 (by decide) (by omega) (fun h91 => ?_) (fun h91 => ?_)
    · refine z_iconst (v := (-1)) 98 C dX6_signOf_98 rfl ?_
      exact z_iret 99 C hr ⟨rfl, (if_neg (show ¬ zspar 3 item = 0 from h91)).symm⟩ dX6_signOf_99
    · refine z_iconst (v := nI 1) 94 C dX6_signOf_94 rfl ?_
      refine z_goto 95 C 99 dX6_signOf_95 (by decide) ?_
      exact z_iret 99 C hr ⟨rfl, (if_pos (show zspar 3 item = 0 from h91)).symm⟩ dX6_signOf_99
  · subst e
    refine z_iload_n 0 C dX6_signOf_0 rfl 0 rfl ?_
    refine z_if_neN 1 C 8 dX6_signOf_1 (by decide) (by omega) (fun h1 => ?_) (fun h1 => absurd h1 (by omega))
    refine z_iload_n 8 C dX6_signOf_8 rfl 0 rfl ?_
    refine z_iconst (v := nI 1) 9 C dX6_signOf_9 rfl ?_
    refine z_icmp_neN 10 C 18 dX6_signOf_10 (by decide) (by omega) (by omega) (fun h10 => ?_) (fun h10 => absurd h10 (by omega))
    refine z_iload_n 18 C dX6_signOf_18 rfl 0 rfl ?_
    refine z_iconst (v := nI 2) 19 C dX6_signOf_19 rfl ?_
    refine z_icmp_neN 20 C 28 dX6_signOf_20 (by decide) (by omega) (by omega) (fun h20 => ?_) (fun h20 => absurd h20 (by omega))
    refine z_iload_n 28 C dX6_signOf_28 rfl 0 rfl ?_
    refine z_iconst (v := nI 3) 29 C dX6_signOf_29 rfl ?_
    refine z_icmp_neN 30 C 38 dX6_signOf_30 (by decide) (by omega) (by omega) (fun h30 => ?_) (fun h30 => absurd h30 (by omega))
    refine z_bipush (v := nI 44) 38 C dX6_signOf_38 rfl ?_
    refine z_istore_n (lv' := [(2, .int (nI 44)), (0, .int (nI 4)), (1, .int (nI item))]) 40 C dX6_signOf_40 rfl (by decide) rfl ?_
    refine z_iload_n 41 C dX6_signOf_41 rfl 1 rfl ?_
    refine z_if_neN 42 C 50 dX6_signOf_42 (by decide) (by omega) (fun h42 => ?_) (fun h42 => absurd h42 (by omega))
    refine z_iload_n 50 C dX6_signOf_50 rfl 1 rfl ?_
    refine z_iconst (v := nI 1) 51 C dX6_signOf_51 rfl ?_
    refine z_icmp_neN 52 C 59 dX6_signOf_52 (by decide) (by omega) (by omega) (fun h52 => ?_) (fun h52 => absurd h52 (by omega))
    refine z_iload_n 59 C dX6_signOf_59 rfl 1 rfl ?_
    refine z_iconst (v := nI 2) 60 C dX6_signOf_60 rfl ?_
    refine z_icmp_neN 61 C 69 dX6_signOf_61 (by decide) (by omega) (by omega) (fun h61 => ?_) (fun h61 => absurd h61 (by omega))
    refine z_iload_n 69 C dX6_signOf_69 rfl 1 rfl ?_
    refine z_iconst (v := nI 3) 70 C dX6_signOf_70 rfl ?_
    refine z_icmp_neN 71 C 78 dX6_signOf_71 (by decide) (by omega) (by omega) (fun h71 => ?_) (fun h71 => absurd h71 (by omega))
    refine z_bipush (v := nI 30) 78 C dX6_signOf_78 rfl ?_
    refine z_istore_n (lv' := [(3, .int (nI 30)), (2, .int (nI 44)), (0, .int (nI 4)), (1, .int (nI item))]) 80 C dX6_signOf_80 rfl (by decide) rfl ?_
    refine z_iload_n 81 C dX6_signOf_81 rfl 1 rfl ?_
    refine z_iload_n 82 C dX6_signOf_82 rfl 3 rfl ?_
    refine z_imul (v := nI (44 * item)) 83 C dX6_signOf_83 (pk_mul 44 item) ?_
    refine z_iload_n 84 C dX6_signOf_84 rfl 0 rfl ?_
    refine z_iadd (v := nI ((44 * item) + 30)) 85 C dX6_signOf_85 (nI_add (44 * item) 30) ?_
    refine z_bipush (v := nI 71) 86 C dX6_signOf_86 rfl ?_
    refine z_irem (v := nI (((44 * item) + 30) % 71)) 88 C dX6_signOf_88 (by decide) (pk_rem (by omega) (by omega) (by omega)) ?_
    refine z_iconst (v := nI 2) 89 C dX6_signOf_89 rfl ?_
    refine z_irem (v := nI ((((44 * item) + 30) % 71) % 2)) 90 C dX6_signOf_90 (by decide) (pk_rem (by omega) (by omega) (by omega)) ?_
    refine z_if_neN 91 C 98 dX6_signOf_91 (by decide) (by omega) (fun h91 => ?_) (fun h91 => ?_)
    · refine z_iconst (v := (-1)) 98 C dX6_signOf_98 rfl ?_
      exact z_iret 99 C hr ⟨rfl, (if_neg (show ¬ zspar 4 item = 0 from h91)).symm⟩ dX6_signOf_99
    · refine z_iconst (v := nI 1) 94 C dX6_signOf_94 rfl ?_
      refine z_goto 95 C 99 dX6_signOf_95 (by decide) ?_
      exact z_iret 99 C hr ⟨rfl, (if_pos (show zspar 4 item = 0 from h91)).symm⟩ dX6_signOf_99
set_option maxHeartbeats 4000000 in
set_option maxRecDepth 100000 in
/-- X6_placeOf -/
theorem c_X6_placeOf (l : Launch) {g : zG} (hg : zOk g) (x : zT) (j k a b : Nat) : Met l yX6_placeOf wsX6_placeOf ({ frames := 0, cells := 0, slots := 0, locals := 0 }) (va_Pc [.int (nI j), .int (nI k), .int (nI a), .int (nI b)] (zPre g x)) (va_Qi (fun (r : Int32) (u : zT) => u = x ∧ r = nI (72 * j + 24 * k + 8 * a + b)) (zB g) (zA g)) 0 0 (zA g) := by
  refine z_met (cc := cX6_placeOf) (nL := 4) (ret := (some .int)) hg (by decide) rfl (Nat.le_of_ble_eq_true rfl) ?_
  intro p_ e_ s_ m_ args_ below_ meth_ c_ C hr
  show Z p_ l e_ _ s_ m_ args_ below_ meth_ c_ g 4 0 0 _ x 0 [(0, .int (nI j)), (1, .int (nI k)), (2, .int (nI a)), (3, .int (nI b))] []
  refine z_bipush (v := nI 72) 0 C dX6_placeOf_0 rfl ?_
  refine z_iload_n 2 C dX6_placeOf_2 rfl 0 rfl ?_
  refine z_imul (v := nI (72 * j)) 3 C dX6_placeOf_3 (pk_mul 72 j) ?_
  refine z_bipush (v := nI 24) 4 C dX6_placeOf_4 rfl ?_
  refine z_iload_n 6 C dX6_placeOf_6 rfl 1 rfl ?_
  refine z_imul (v := nI (24 * k)) 7 C dX6_placeOf_7 (pk_mul 24 k) ?_
  refine z_iadd (v := nI ((72 * j) + (24 * k))) 8 C dX6_placeOf_8 (nI_add (72 * j) (24 * k)) ?_
  refine z_bipush (v := nI 8) 9 C dX6_placeOf_9 rfl ?_
  refine z_iload_n 11 C dX6_placeOf_11 rfl 2 rfl ?_
  refine z_imul (v := nI (8 * a)) 12 C dX6_placeOf_12 (pk_mul 8 a) ?_
  refine z_iadd (v := nI (((72 * j) + (24 * k)) + (8 * a))) 13 C dX6_placeOf_13 (nI_add ((72 * j) + (24 * k)) (8 * a)) ?_
  refine z_iload_n 14 C dX6_placeOf_14 rfl 3 rfl ?_
  refine z_iadd (v := nI ((((72 * j) + (24 * k)) + (8 * a)) + b)) 15 C dX6_placeOf_15 (nI_add (((72 * j) + (24 * k)) + (8 * a)) b) ?_
  exact z_iret 16 C hr ⟨rfl, rfl⟩ dX6_placeOf_16
set_option maxHeartbeats 4000000 in
set_option maxRecDepth 100000 in
/-- X6_sum -/
theorem c_X6_sum (l : Launch) {g : zG} (hg : zOk g) (x : zT) (j a b : Nat) (hj : j < 4) (hab : a ≤ b + 1) (hb : b < 64) : Met l yX6_sum wsX6_sum ({ frames := 0, cells := 0, slots := 0, locals := 0 }) (va_Pc [.ref (zad g 2), .int (nI j), .int (nI a), .int (nI b)] (zPre g x)) (va_Qi (fun (r : Int32) (u : zT) => u = x ∧ r = zsum (fun k => x.1 3 (64 * j + k)) a (b + 1 - a)) (zB g) (zA g)) 0 0 (zA g) := by
  refine z_met (cc := cX6_sum) (nL := 6) (ret := (some .int)) hg (by decide) rfl (Nat.le_of_ble_eq_true rfl) ?_
  intro p_ e_ s_ m_ args_ below_ meth_ c_ C hr
  show Z p_ l e_ _ s_ m_ args_ below_ meth_ c_ g 6 0 0 _ x 0 [(0, .ref (zad g 2)), (1, .int (nI j)), (2, .int (nI a)), (3, .int (nI b))] []
  have hw_f7 := C.1.2.2.2.2 (.fieldLink RX6 7 "CountcoteModel" "counts" "[I") (by decide +kernel)
  have hinX6 : ∀ w ∈ wsX60, w ∈ wsX6_sum := by decide +kernel
  refine z_iconst (v := nI 0) 0 C dX6_sum_0 rfl ?_
  refine z_istore (lv' := [(4, .int (nI 0)), (0, .ref (zad g 2)), (1, .int (nI j)), (2, .int (nI a)), (3, .int (nI b))]) 1 C dX6_sum_1 (by decide) rfl ?_
  refine z_iload_n 3 C dX6_sum_3 rfl 3 rfl ?_
  refine z_istore (lv' := [(5, .int (nI a)), (4, .int (nI 0)), (0, .ref (zad g 2)), (1, .int (nI j)), (2, .int (nI a)), (3, .int (nI b))]) 4 C dX6_sum_4 (by decide) rfl ?_
  have J6 : ∀ (n6 : Nat) (i : Nat) (t : Int32), (a ≤ i ∧ i ≤ b + 1) → (b + 1 < i + n6) → (t = zsum (fun k => x.1 3 (64 * j + k)) a (i - a)) → Z p_ l e_ (headSpec wsX6_sum ({ frames := 0, cells := 0, slots := 0, locals := 0 })).room s_ m_ args_ below_ meth_ c_ g 6 0 0 (MQ below_ (va_Qi (fun (r : Int32) (u : zT) => u = x ∧ r = zsum (fun k => x.1 3 (64 * j + k)) a (b + 1 - a)) (zB g) (zA g)) args_ s_ 0 0 (zA g)) x 6 [(0, .ref (zad g 2)), (1, .int (nI j)), (2, .int (nI a)), (3, .int (nI b)), (4, .int t), (5, .int (nI i))] [] := by
    intro n6
    induction n6 with
    | zero => intro i t hi hn ht; exact absurd hn (by omega)
    | succ n6 ih6 =>
      intro i t hi hn ht
      refine z_iload 6 C dX6_sum_6 5 rfl ?_
      refine z_iload_n 8 C dX6_sum_8 rfl 3 rfl ?_
      refine z_icmp_gtN 9 C 35 dX6_sum_9 (by decide) (by omega) (by omega) (fun h9 => ?_) (fun h9 => ?_)
      · refine z_iload 35 C dX6_sum_35 4 rfl ?_
        exact z_iret 37 C hr ⟨rfl, by rw [ht, show i - a = b + 1 - a by omega]⟩ dX6_sum_37
      · refine z_iload 12 C dX6_sum_12 4 rfl ?_
        refine z_aload_n 14 C dX6_sum_14 rfl 0 rfl ?_
        refine z_getr 15 C (ref := "CountcoteModel") (T := TX6) (N := 9) (ci := 6) (q := 1) (kR_model (q := 1) (by decide) (by decide)) rfl hinX6 (by decide) rfl hw_f7 dX6_sum_15 ?_
        refine z_bipush (v := nI 64) 18 C dX6_sum_18 rfl ?_
        refine z_iload_n 20 C dX6_sum_20 rfl 1 rfl ?_
        refine z_imul (v := nI (64 * j)) 21 C dX6_sum_21 (pk_mul 64 j) ?_
        refine z_iload 22 C dX6_sum_22 5 rfl ?_
        refine z_iadd (v := nI ((64 * j) + i)) 24 C dX6_sum_24 (nI_add (64 * j) i) ?_
        refine z_iald (v := (x.1 3) ((64 * j) + i)) 25 C kI_3 (by omega) rfl dX6_sum_25 ?_
        refine z_iadd (v := t + ((x.1 3) ((64 * j) + i))) 26 C dX6_sum_26 rfl ?_
        refine z_istore (lv' := [(4, .int (t + ((x.1 3) ((64 * j) + i)))), (0, .ref (zad g 2)), (1, .int (nI j)), (2, .int (nI a)), (3, .int (nI b)), (5, .int (nI i))]) 27 C dX6_sum_27 (by decide) rfl ?_
        refine z_iinc (v' := nI (i + 1)) (lv' := [(5, .int (nI (i + 1))), (4, .int (t + ((x.1 3) ((64 * j) + i)))), (0, .ref (zad g 2)), (1, .int (nI j)), (2, .int (nI a)), (3, .int (nI b))]) 29 C dX6_sum_29 (q := 5) rfl (zn_inc i 1) (by decide) rfl ?_
        refine z_goto 32 C 6 dX6_sum_32 (by decide) ?_
        refine z_lv (lv' := [(0, .ref (zad g 2)), (1, .int (nI j)), (2, .int (nI a)), (3, .int (nI b)), (4, .int (t + ((x.1 3) ((64 * j) + i)))), (5, .int (nI (i + 1)))]) [2, 3, 4, 5, 1, 0] rfl ?_
        exact ih6 (i + 1) (t + ((x.1 3) ((64 * j) + i))) (by omega) (by omega) (by rw [ht]; exact (zsum_s _ hi.1).symm)
  refine z_lv (lv' := [(0, .ref (zad g 2)), (1, .int (nI j)), (2, .int (nI a)), (3, .int (nI b)), (4, .int (nI 0)), (5, .int (nI a))]) [2, 3, 4, 5, 1, 0] rfl ?_
  exact J6 (b + 2) a 0 ⟨Nat.le_refl _, by omega⟩ (by omega) (by rw [Nat.sub_self]; rfl)
set_option maxHeartbeats 4000000 in
set_option maxRecDepth 100000 in
/-- X6_estimateOf -/
theorem c_X6_estimateOf (l : Launch) {g : zG} (hg : zOk g) (x : zT) (j lev half : Nat) (hj : j < 4) (hlev : lev ≤ 6) (hhalf : half < 64 / 2 ^ lev) : Met l yX6_estimateOf wsX6_estimateOf ({ frames := 2, cells := 0, slots := 0, locals := 41 }) (va_Pc [.ref (zad g 2), .int (nI j), .int (nI lev), .int (nI half)] (zPre g x)) (va_Qi (fun (r : Int32) (u : zT) => u = x ∧ r = zraw x j lev half) (zB g) (zA g)) 0 0 (zA g) := by
  refine z_met (cc := cX6_estimateOf) (nL := 7) (ret := (some .int)) hg (by decide) rfl (Nat.le_of_ble_eq_true rfl) ?_
  intro p_ e_ s_ m_ args_ below_ meth_ c_ C hr
  show Z p_ l e_ _ s_ m_ args_ below_ meth_ c_ g 7 0 0 _ x 0 [(0, .ref (zad g 2)), (1, .int (nI j)), (2, .int (nI lev)), (3, .int (nI half))] []
  have hw_f16 := C.1.2.2.2.2 (.fieldLink RX6 16 "CountcoteModel" "cells" "[I") (by decide +kernel)
  have hinX6 : ∀ w ∈ wsX60, w ∈ wsX6_estimateOf := by decide +kernel
  have hh64 : half < 64 := Nat.lt_of_lt_of_le hhalf (Nat.div_le_self _ _)
  have hb := zhb hlev hhalf
  have hpw := zpow_b hlev
  have hb2 : half * 2 ^ lev + 2 ^ lev ≤ 64 := by rw [← Nat.succ_mul]; exact hb
  have hb3 : (half + 1) * 2 ^ lev = half * 2 ^ lev + 2 ^ lev := Nat.succ_mul _ _
  refine z_iload_n 0 C dX6_estimateOf_0 rfl 2 rfl ?_
  refine z_iconst (v := nI 3) 1 C dX6_estimateOf_1 rfl ?_
  refine z_icmp_ltN 2 C 21 dX6_estimateOf_2 (by decide) (by omega) (by omega) (fun h2 => ?_) (fun h2 => ?_)
  · refine z_aload_n 21 C dX6_estimateOf_21 rfl 0 rfl ?_
    refine z_getr 22 C (ref := "CountcoteModel") (T := TX6) (N := 9) (ci := 6) (q := 3) (kR_model (q := 3) (by decide) (by decide)) rfl hinX6 (by decide) rfl hw_f16 dX6_estimateOf_22 ?_
    refine z_iload_n 25 C dX6_estimateOf_25 rfl 1 rfl ?_
    refine z_iload_n 26 C dX6_estimateOf_26 rfl 2 rfl ?_
    refine z_iconst (v := nI 0) 27 C dX6_estimateOf_27 rfl ?_
    refine z_iconst (v := nI 0) 28 C dX6_estimateOf_28 rfl ?_
    refine z_iload_n 29 C dX6_estimateOf_29 rfl 3 rfl ?_
    refine z_callSi 30 C (As := [.int (nI 0), .int (nI half)]) 2 (c_X6_columnOf l hg x 0 half (by first | decide | omega) (by omega)) (va_cwS 2 C.1.2.2.2.2 gX6_estimateOf_X6_columnOf rfl rfl rfl (by decide +kernel) ⟨Nat.le_of_ble_eq_true rfl, Nat.le_of_ble_eq_true rfl⟩) rfl rfl (Nat.le_of_ble_eq_true rfl) ⟨Nat.le_of_ble_eq_true rfl, Nat.le_of_ble_eq_true rfl⟩ dX6_estimateOf_30 (fun r u hu => ?_)
    obtain ⟨hu1, hu2⟩ := hu
    subst u
    subst r
    have := zccol_lt 0 half
    refine z_callSi 33 C (As := [.int (nI j), .int (nI lev), .int (nI 0), .int (nI (zccol 0 half))]) 4 (c_X6_placeOf l hg x j lev 0 (zccol 0 half)) (va_cwS 4 C.1.2.2.2.2 gX6_estimateOf_X6_placeOf rfl rfl rfl (by decide +kernel) ⟨Nat.le_of_ble_eq_true rfl, Nat.le_of_ble_eq_true rfl⟩) rfl rfl (Nat.le_of_ble_eq_true rfl) ⟨Nat.le_of_ble_eq_true rfl, Nat.le_of_ble_eq_true rfl⟩ dX6_estimateOf_33 (fun r u hu => ?_)
    obtain ⟨hu1, hu2⟩ := hu
    subst u
    subst r
    refine z_iald (v := (x.1 5) (72 * j + 24 * lev + 8 * 0 + (zccol 0 half))) 36 C kI_5 (by omega) rfl dX6_estimateOf_36 ?_
    refine z_istore (lv' := [(4, .int ((x.1 5) (72 * j + 24 * lev + 8 * 0 + (zccol 0 half)))), (0, .ref (zad g 2)), (1, .int (nI j)), (2, .int (nI lev)), (3, .int (nI half))]) 37 C dX6_estimateOf_37 (by decide) rfl ?_
    refine z_iconst (v := nI 1) 39 C dX6_estimateOf_39 rfl ?_
    refine z_istore (lv' := [(5, .int (nI 1)), (4, .int ((x.1 5) (72 * j + 24 * lev + 8 * 0 + (zccol 0 half)))), (0, .ref (zad g 2)), (1, .int (nI j)), (2, .int (nI lev)), (3, .int (nI half))]) 40 C dX6_estimateOf_40 (by decide) rfl ?_
    refine z_iload 42 C dX6_estimateOf_42 0 rfl ?_
    refine z_iconst (v := nI 3) 44 C dX6_estimateOf_44 rfl ?_
    refine z_icmp_geN 45 C 90 dX6_estimateOf_45 (by decide) (by omega) (by omega) (fun h45 => absurd h45 (by omega)) (fun h45 => ?_)
    refine z_aload_n 48 C dX6_estimateOf_48 rfl 2 rfl ?_
    refine z_getr 49 C (ref := "CountcoteModel") (T := TX6) (N := 9) (ci := 6) (q := 3) (kR_model (q := 3) (by decide) (by decide)) rfl hinX6 (by decide) rfl hw_f16 dX6_estimateOf_49 ?_
    refine z_iload_n 52 C dX6_estimateOf_52 rfl 3 rfl ?_
    refine z_iload_n 53 C dX6_estimateOf_53 rfl 4 rfl ?_
    refine z_iload 54 C dX6_estimateOf_54 0 rfl ?_
    refine z_iload 56 C dX6_estimateOf_56 0 rfl ?_
    refine z_iload_n 58 C dX6_estimateOf_58 rfl 5 rfl ?_
    refine z_callSi 59 C (As := [.int (nI 1), .int (nI half)]) 2 (c_X6_columnOf l hg x 1 half (by first | decide | omega) (by omega)) (va_cwS 2 C.1.2.2.2.2 gX6_estimateOf_X6_columnOf rfl rfl rfl (by decide +kernel) ⟨Nat.le_of_ble_eq_true rfl, Nat.le_of_ble_eq_true rfl⟩) rfl rfl (Nat.le_of_ble_eq_true rfl) ⟨Nat.le_of_ble_eq_true rfl, Nat.le_of_ble_eq_true rfl⟩ dX6_estimateOf_59 (fun r u hu => ?_)
    obtain ⟨hu1, hu2⟩ := hu
    subst u
    subst r
    have := zccol_lt 1 half
    refine z_callSi 62 C (As := [.int (nI j), .int (nI lev), .int (nI 1), .int (nI (zccol 1 half))]) 4 (c_X6_placeOf l hg x j lev 1 (zccol 1 half)) (va_cwS 4 C.1.2.2.2.2 gX6_estimateOf_X6_placeOf rfl rfl rfl (by decide +kernel) ⟨Nat.le_of_ble_eq_true rfl, Nat.le_of_ble_eq_true rfl⟩) rfl rfl (Nat.le_of_ble_eq_true rfl) ⟨Nat.le_of_ble_eq_true rfl, Nat.le_of_ble_eq_true rfl⟩ dX6_estimateOf_62 (fun r u hu => ?_)
    obtain ⟨hu1, hu2⟩ := hu
    subst u
    subst r
    refine z_iald (v := (x.1 5) (72 * j + 24 * lev + 8 * 1 + (zccol 1 half))) 65 C kI_5 (by omega) rfl dX6_estimateOf_65 ?_
    refine z_istore (lv' := [(6, .int ((x.1 5) (72 * j + 24 * lev + 8 * 1 + (zccol 1 half)))), (5, .int (nI 1)), (4, .int ((x.1 5) (72 * j + 24 * lev + 8 * 0 + (zccol 0 half)))), (0, .ref (zad g 2)), (1, .int (nI j)), (2, .int (nI lev)), (3, .int (nI half))]) 66 C dX6_estimateOf_66 (by decide) rfl ?_
    refine z_iload 68 C dX6_estimateOf_68 0 rfl ?_
    refine z_iload 70 C dX6_estimateOf_70 2 rfl ?_
    refine z_icmp_geL 72 C 80 dX6_estimateOf_72 (by decide) (fun h72 => ?_) (fun h72 => ?_)
    · have hm1 := h72
      refine z_iload 80 C dX6_estimateOf_80 2 rfl ?_
      refine z_istore (lv' := [(4, .int ((x.1 5) (72 * j + 24 * lev + 8 * 0 + (zccol 0 half)))), (6, .int ((x.1 5) (72 * j + 24 * lev + 8 * 1 + (zccol 1 half)))), (5, .int (nI 1)), (0, .ref (zad g 2)), (1, .int (nI j)), (2, .int (nI lev)), (3, .int (nI half))]) 82 C dX6_estimateOf_82 (by decide) rfl ?_
      refine z_iinc (v' := nI 2) (lv' := [(5, .int (nI 2)), (4, .int ((x.1 5) (72 * j + 24 * lev + 8 * 0 + (zccol 0 half)))), (6, .int ((x.1 5) (72 * j + 24 * lev + 8 * 1 + (zccol 1 half)))), (0, .ref (zad g 2)), (1, .int (nI j)), (2, .int (nI lev)), (3, .int (nI half))]) 84 C dX6_estimateOf_84 (q := 2) rfl rfl (by decide) rfl ?_
      refine z_goto 87 C 42 dX6_estimateOf_87 (by decide) ?_
      refine z_iload 42 C dX6_estimateOf_42 0 rfl ?_
      refine z_iconst (v := nI 3) 44 C dX6_estimateOf_44 rfl ?_
      refine z_icmp_geN 45 C 90 dX6_estimateOf_45 (by decide) (by omega) (by omega) (fun h45 => absurd h45 (by omega)) (fun h45 => ?_)
      refine z_aload_n 48 C dX6_estimateOf_48 rfl 3 rfl ?_
      refine z_getr 49 C (ref := "CountcoteModel") (T := TX6) (N := 9) (ci := 6) (q := 3) (kR_model (q := 3) (by decide) (by decide)) rfl hinX6 (by decide) rfl hw_f16 dX6_estimateOf_49 ?_
      refine z_iload_n 52 C dX6_estimateOf_52 rfl 4 rfl ?_
      refine z_iload_n 53 C dX6_estimateOf_53 rfl 5 rfl ?_
      refine z_iload 54 C dX6_estimateOf_54 0 rfl ?_
      refine z_iload 56 C dX6_estimateOf_56 0 rfl ?_
      refine z_iload_n 58 C dX6_estimateOf_58 rfl 6 rfl ?_
      refine z_callSi 59 C (As := [.int (nI 2), .int (nI half)]) 2 (c_X6_columnOf l hg x 2 half (by first | decide | omega) (by omega)) (va_cwS 2 C.1.2.2.2.2 gX6_estimateOf_X6_columnOf rfl rfl rfl (by decide +kernel) ⟨Nat.le_of_ble_eq_true rfl, Nat.le_of_ble_eq_true rfl⟩) rfl rfl (Nat.le_of_ble_eq_true rfl) ⟨Nat.le_of_ble_eq_true rfl, Nat.le_of_ble_eq_true rfl⟩ dX6_estimateOf_59 (fun r u hu => ?_)
      obtain ⟨hu1, hu2⟩ := hu
      subst u
      subst r
      have := zccol_lt 2 half
      refine z_callSi 62 C (As := [.int (nI j), .int (nI lev), .int (nI 2), .int (nI (zccol 2 half))]) 4 (c_X6_placeOf l hg x j lev 2 (zccol 2 half)) (va_cwS 4 C.1.2.2.2.2 gX6_estimateOf_X6_placeOf rfl rfl rfl (by decide +kernel) ⟨Nat.le_of_ble_eq_true rfl, Nat.le_of_ble_eq_true rfl⟩) rfl rfl (Nat.le_of_ble_eq_true rfl) ⟨Nat.le_of_ble_eq_true rfl, Nat.le_of_ble_eq_true rfl⟩ dX6_estimateOf_62 (fun r u hu => ?_)
      obtain ⟨hu1, hu2⟩ := hu
      subst u
      subst r
      refine z_iald (v := (x.1 5) (72 * j + 24 * lev + 8 * 2 + (zccol 2 half))) 65 C kI_5 (by omega) rfl dX6_estimateOf_65 ?_
      refine z_istore (lv' := [(6, .int ((x.1 5) (72 * j + 24 * lev + 8 * 2 + (zccol 2 half)))), (5, .int (nI 2)), (4, .int ((x.1 5) (72 * j + 24 * lev + 8 * 0 + (zccol 0 half)))), (0, .ref (zad g 2)), (1, .int (nI j)), (2, .int (nI lev)), (3, .int (nI half))]) 66 C dX6_estimateOf_66 (by decide) rfl ?_
      refine z_iload 68 C dX6_estimateOf_68 0 rfl ?_
      refine z_iload 70 C dX6_estimateOf_70 2 rfl ?_
      refine z_icmp_geL 72 C 80 dX6_estimateOf_72 (by decide) (fun h72 => ?_) (fun h72 => ?_)
      · have hm2 := h72
        refine z_iload 80 C dX6_estimateOf_80 2 rfl ?_
        refine z_istore (lv' := [(4, .int ((x.1 5) (72 * j + 24 * lev + 8 * 0 + (zccol 0 half)))), (6, .int ((x.1 5) (72 * j + 24 * lev + 8 * 2 + (zccol 2 half)))), (5, .int (nI 2)), (0, .ref (zad g 2)), (1, .int (nI j)), (2, .int (nI lev)), (3, .int (nI half))]) 82 C dX6_estimateOf_82 (by decide) rfl ?_
        refine z_iinc (v' := nI 3) (lv' := [(5, .int (nI 3)), (4, .int ((x.1 5) (72 * j + 24 * lev + 8 * 0 + (zccol 0 half)))), (6, .int ((x.1 5) (72 * j + 24 * lev + 8 * 2 + (zccol 2 half)))), (0, .ref (zad g 2)), (1, .int (nI j)), (2, .int (nI lev)), (3, .int (nI half))]) 84 C dX6_estimateOf_84 (q := 2) rfl rfl (by decide) rfl ?_
        refine z_goto 87 C 42 dX6_estimateOf_87 (by decide) ?_
        refine z_iload 42 C dX6_estimateOf_42 0 rfl ?_
        refine z_iconst (v := nI 3) 44 C dX6_estimateOf_44 rfl ?_
        refine z_icmp_geN 45 C 90 dX6_estimateOf_45 (by decide) (by omega) (by omega) (fun h45 => ?_) (fun h45 => absurd h45 (by omega))
        refine z_iload 90 C dX6_estimateOf_90 1 rfl ?_
        exact z_iret 92 C hr ⟨rfl, by unfold zraw; rw [if_pos h2]; unfold zleast; simp only [zcp]; rw [show 72 * j + (24 * lev + (0 * 8 + zccol 0 half)) = 72 * j + 24 * lev + 8 * 0 + zccol 0 half by omega, show 72 * j + (24 * lev + (1 * 8 + zccol 1 half)) = 72 * j + 24 * lev + 8 * 1 + zccol 1 half by omega, show 72 * j + (24 * lev + (2 * 8 + zccol 2 half)) = 72 * j + 24 * lev + 8 * 2 + zccol 2 half by omega, zmin_f hm1, zmin_f hm2]⟩ dX6_estimateOf_92
      · have hm2 := h72
        refine z_iload 75 C dX6_estimateOf_75 0 rfl ?_
        refine z_goto 77 C 82 dX6_estimateOf_77 (by decide) ?_
        refine z_istore (lv' := [(4, .int ((x.1 5) (72 * j + 24 * lev + 8 * 2 + (zccol 2 half)))), (6, .int ((x.1 5) (72 * j + 24 * lev + 8 * 2 + (zccol 2 half)))), (5, .int (nI 2)), (0, .ref (zad g 2)), (1, .int (nI j)), (2, .int (nI lev)), (3, .int (nI half))]) 82 C dX6_estimateOf_82 (by decide) rfl ?_
        refine z_iinc (v' := nI 3) (lv' := [(5, .int (nI 3)), (4, .int ((x.1 5) (72 * j + 24 * lev + 8 * 2 + (zccol 2 half)))), (6, .int ((x.1 5) (72 * j + 24 * lev + 8 * 2 + (zccol 2 half)))), (0, .ref (zad g 2)), (1, .int (nI j)), (2, .int (nI lev)), (3, .int (nI half))]) 84 C dX6_estimateOf_84 (q := 2) rfl rfl (by decide) rfl ?_
        refine z_goto 87 C 42 dX6_estimateOf_87 (by decide) ?_
        refine z_iload 42 C dX6_estimateOf_42 0 rfl ?_
        refine z_iconst (v := nI 3) 44 C dX6_estimateOf_44 rfl ?_
        refine z_icmp_geN 45 C 90 dX6_estimateOf_45 (by decide) (by omega) (by omega) (fun h45 => ?_) (fun h45 => absurd h45 (by omega))
        refine z_iload 90 C dX6_estimateOf_90 1 rfl ?_
        exact z_iret 92 C hr ⟨rfl, by unfold zraw; rw [if_pos h2]; unfold zleast; simp only [zcp]; rw [show 72 * j + (24 * lev + (0 * 8 + zccol 0 half)) = 72 * j + 24 * lev + 8 * 0 + zccol 0 half by omega, show 72 * j + (24 * lev + (1 * 8 + zccol 1 half)) = 72 * j + 24 * lev + 8 * 1 + zccol 1 half by omega, show 72 * j + (24 * lev + (2 * 8 + zccol 2 half)) = 72 * j + 24 * lev + 8 * 2 + zccol 2 half by omega, zmin_f hm1, zmin_t hm2]⟩ dX6_estimateOf_92
    · have hm1 := h72
      refine z_iload 75 C dX6_estimateOf_75 0 rfl ?_
      refine z_goto 77 C 82 dX6_estimateOf_77 (by decide) ?_
      refine z_istore (lv' := [(4, .int ((x.1 5) (72 * j + 24 * lev + 8 * 1 + (zccol 1 half)))), (6, .int ((x.1 5) (72 * j + 24 * lev + 8 * 1 + (zccol 1 half)))), (5, .int (nI 1)), (0, .ref (zad g 2)), (1, .int (nI j)), (2, .int (nI lev)), (3, .int (nI half))]) 82 C dX6_estimateOf_82 (by decide) rfl ?_
      refine z_iinc (v' := nI 2) (lv' := [(5, .int (nI 2)), (4, .int ((x.1 5) (72 * j + 24 * lev + 8 * 1 + (zccol 1 half)))), (6, .int ((x.1 5) (72 * j + 24 * lev + 8 * 1 + (zccol 1 half)))), (0, .ref (zad g 2)), (1, .int (nI j)), (2, .int (nI lev)), (3, .int (nI half))]) 84 C dX6_estimateOf_84 (q := 2) rfl rfl (by decide) rfl ?_
      refine z_goto 87 C 42 dX6_estimateOf_87 (by decide) ?_
      refine z_iload 42 C dX6_estimateOf_42 0 rfl ?_
      refine z_iconst (v := nI 3) 44 C dX6_estimateOf_44 rfl ?_
      refine z_icmp_geN 45 C 90 dX6_estimateOf_45 (by decide) (by omega) (by omega) (fun h45 => absurd h45 (by omega)) (fun h45 => ?_)
      refine z_aload_n 48 C dX6_estimateOf_48 rfl 3 rfl ?_
      refine z_getr 49 C (ref := "CountcoteModel") (T := TX6) (N := 9) (ci := 6) (q := 3) (kR_model (q := 3) (by decide) (by decide)) rfl hinX6 (by decide) rfl hw_f16 dX6_estimateOf_49 ?_
      refine z_iload_n 52 C dX6_estimateOf_52 rfl 4 rfl ?_
      refine z_iload_n 53 C dX6_estimateOf_53 rfl 5 rfl ?_
      refine z_iload 54 C dX6_estimateOf_54 0 rfl ?_
      refine z_iload 56 C dX6_estimateOf_56 0 rfl ?_
      refine z_iload_n 58 C dX6_estimateOf_58 rfl 6 rfl ?_
      refine z_callSi 59 C (As := [.int (nI 2), .int (nI half)]) 2 (c_X6_columnOf l hg x 2 half (by first | decide | omega) (by omega)) (va_cwS 2 C.1.2.2.2.2 gX6_estimateOf_X6_columnOf rfl rfl rfl (by decide +kernel) ⟨Nat.le_of_ble_eq_true rfl, Nat.le_of_ble_eq_true rfl⟩) rfl rfl (Nat.le_of_ble_eq_true rfl) ⟨Nat.le_of_ble_eq_true rfl, Nat.le_of_ble_eq_true rfl⟩ dX6_estimateOf_59 (fun r u hu => ?_)
      obtain ⟨hu1, hu2⟩ := hu
      subst u
      subst r
      have := zccol_lt 2 half
      refine z_callSi 62 C (As := [.int (nI j), .int (nI lev), .int (nI 2), .int (nI (zccol 2 half))]) 4 (c_X6_placeOf l hg x j lev 2 (zccol 2 half)) (va_cwS 4 C.1.2.2.2.2 gX6_estimateOf_X6_placeOf rfl rfl rfl (by decide +kernel) ⟨Nat.le_of_ble_eq_true rfl, Nat.le_of_ble_eq_true rfl⟩) rfl rfl (Nat.le_of_ble_eq_true rfl) ⟨Nat.le_of_ble_eq_true rfl, Nat.le_of_ble_eq_true rfl⟩ dX6_estimateOf_62 (fun r u hu => ?_)
      obtain ⟨hu1, hu2⟩ := hu
      subst u
      subst r
      refine z_iald (v := (x.1 5) (72 * j + 24 * lev + 8 * 2 + (zccol 2 half))) 65 C kI_5 (by omega) rfl dX6_estimateOf_65 ?_
      refine z_istore (lv' := [(6, .int ((x.1 5) (72 * j + 24 * lev + 8 * 2 + (zccol 2 half)))), (5, .int (nI 2)), (4, .int ((x.1 5) (72 * j + 24 * lev + 8 * 1 + (zccol 1 half)))), (0, .ref (zad g 2)), (1, .int (nI j)), (2, .int (nI lev)), (3, .int (nI half))]) 66 C dX6_estimateOf_66 (by decide) rfl ?_
      refine z_iload 68 C dX6_estimateOf_68 0 rfl ?_
      refine z_iload 70 C dX6_estimateOf_70 2 rfl ?_
      refine z_icmp_geL 72 C 80 dX6_estimateOf_72 (by decide) (fun h72 => ?_) (fun h72 => ?_)
      · have hm2 := h72
        refine z_iload 80 C dX6_estimateOf_80 2 rfl ?_
        refine z_istore (lv' := [(4, .int ((x.1 5) (72 * j + 24 * lev + 8 * 1 + (zccol 1 half)))), (6, .int ((x.1 5) (72 * j + 24 * lev + 8 * 2 + (zccol 2 half)))), (5, .int (nI 2)), (0, .ref (zad g 2)), (1, .int (nI j)), (2, .int (nI lev)), (3, .int (nI half))]) 82 C dX6_estimateOf_82 (by decide) rfl ?_
        refine z_iinc (v' := nI 3) (lv' := [(5, .int (nI 3)), (4, .int ((x.1 5) (72 * j + 24 * lev + 8 * 1 + (zccol 1 half)))), (6, .int ((x.1 5) (72 * j + 24 * lev + 8 * 2 + (zccol 2 half)))), (0, .ref (zad g 2)), (1, .int (nI j)), (2, .int (nI lev)), (3, .int (nI half))]) 84 C dX6_estimateOf_84 (q := 2) rfl rfl (by decide) rfl ?_
        refine z_goto 87 C 42 dX6_estimateOf_87 (by decide) ?_
        refine z_iload 42 C dX6_estimateOf_42 0 rfl ?_
        refine z_iconst (v := nI 3) 44 C dX6_estimateOf_44 rfl ?_
        refine z_icmp_geN 45 C 90 dX6_estimateOf_45 (by decide) (by omega) (by omega) (fun h45 => ?_) (fun h45 => absurd h45 (by omega))
        refine z_iload 90 C dX6_estimateOf_90 1 rfl ?_
        exact z_iret 92 C hr ⟨rfl, by unfold zraw; rw [if_pos h2]; unfold zleast; simp only [zcp]; rw [show 72 * j + (24 * lev + (0 * 8 + zccol 0 half)) = 72 * j + 24 * lev + 8 * 0 + zccol 0 half by omega, show 72 * j + (24 * lev + (1 * 8 + zccol 1 half)) = 72 * j + 24 * lev + 8 * 1 + zccol 1 half by omega, show 72 * j + (24 * lev + (2 * 8 + zccol 2 half)) = 72 * j + 24 * lev + 8 * 2 + zccol 2 half by omega, zmin_t hm1, zmin_f hm2]⟩ dX6_estimateOf_92
      · have hm2 := h72
        refine z_iload 75 C dX6_estimateOf_75 0 rfl ?_
        refine z_goto 77 C 82 dX6_estimateOf_77 (by decide) ?_
        refine z_istore (lv' := [(4, .int ((x.1 5) (72 * j + 24 * lev + 8 * 2 + (zccol 2 half)))), (6, .int ((x.1 5) (72 * j + 24 * lev + 8 * 2 + (zccol 2 half)))), (5, .int (nI 2)), (0, .ref (zad g 2)), (1, .int (nI j)), (2, .int (nI lev)), (3, .int (nI half))]) 82 C dX6_estimateOf_82 (by decide) rfl ?_
        refine z_iinc (v' := nI 3) (lv' := [(5, .int (nI 3)), (4, .int ((x.1 5) (72 * j + 24 * lev + 8 * 2 + (zccol 2 half)))), (6, .int ((x.1 5) (72 * j + 24 * lev + 8 * 2 + (zccol 2 half)))), (0, .ref (zad g 2)), (1, .int (nI j)), (2, .int (nI lev)), (3, .int (nI half))]) 84 C dX6_estimateOf_84 (q := 2) rfl rfl (by decide) rfl ?_
        refine z_goto 87 C 42 dX6_estimateOf_87 (by decide) ?_
        refine z_iload 42 C dX6_estimateOf_42 0 rfl ?_
        refine z_iconst (v := nI 3) 44 C dX6_estimateOf_44 rfl ?_
        refine z_icmp_geN 45 C 90 dX6_estimateOf_45 (by decide) (by omega) (by omega) (fun h45 => ?_) (fun h45 => absurd h45 (by omega))
        refine z_iload 90 C dX6_estimateOf_90 1 rfl ?_
        exact z_iret 92 C hr ⟨rfl, by unfold zraw; rw [if_pos h2]; unfold zleast; simp only [zcp]; rw [show 72 * j + (24 * lev + (0 * 8 + zccol 0 half)) = 72 * j + 24 * lev + 8 * 0 + zccol 0 half by omega, show 72 * j + (24 * lev + (1 * 8 + zccol 1 half)) = 72 * j + 24 * lev + 8 * 1 + zccol 1 half by omega, show 72 * j + (24 * lev + (2 * 8 + zccol 2 half)) = 72 * j + 24 * lev + 8 * 2 + zccol 2 half by omega, zmin_t hm1, zmin_t hm2]⟩ dX6_estimateOf_92
  · refine z_aload_n 5 C dX6_estimateOf_5 rfl 0 rfl ?_
    refine z_iload_n 6 C dX6_estimateOf_6 rfl 1 rfl ?_
    refine z_iload_n 7 C dX6_estimateOf_7 rfl 3 rfl ?_
    refine z_iload_n 8 C dX6_estimateOf_8 rfl 2 rfl ?_
    refine z_ishl (v := nI (half * 2 ^ lev)) 9 C dX6_estimateOf_9 (zn_shl half lev (by omega)) ?_
    refine z_iload_n 10 C dX6_estimateOf_10 rfl 3 rfl ?_
    refine z_iconst (v := nI 1) 11 C dX6_estimateOf_11 rfl ?_
    refine z_iadd (v := nI (half + 1)) 12 C dX6_estimateOf_12 (nI_add half 1) ?_
    refine z_iload_n 13 C dX6_estimateOf_13 rfl 2 rfl ?_
    refine z_ishl (v := nI ((half + 1) * 2 ^ lev)) 14 C dX6_estimateOf_14 (zn_shl (half + 1) lev (by omega)) ?_
    refine z_iconst (v := nI 1) 15 C dX6_estimateOf_15 rfl ?_
    refine z_isub (v := nI (((half + 1) * 2 ^ lev) - 1)) 16 C dX6_estimateOf_16 (pk_sub (by omega)) ?_
    refine z_callVi 17 C (As := [.int (nI j), .int (nI (half * 2 ^ lev)), .int (nI (((half + 1) * 2 ^ lev) - 1))]) 3 kO_model rfl (c_X6_sum l hg x j (half * 2 ^ lev) (((half + 1) * 2 ^ lev) - 1) (by omega) (by omega) (by omega)) (cwV 3 C.1.2.2.2.2 gX6_estimateOf_X6_sum rfl rfl rfl (by decide +kernel) ⟨Nat.le_of_ble_eq_true rfl, Nat.le_of_ble_eq_true rfl⟩) rfl rfl (Nat.le_of_ble_eq_true rfl) ⟨Nat.le_of_ble_eq_true rfl, Nat.le_of_ble_eq_true rfl⟩ dX6_estimateOf_17 (fun r u hu => ?_)
    obtain ⟨hu1, hu2⟩ := hu
    subst u
    subst r
    exact z_iret 20 C hr ⟨rfl, by unfold zraw; rw [if_neg (show ¬ lev < 3 by omega), show (half + 1) * 2 ^ lev - 1 + 1 - half * 2 ^ lev = 2 ^ lev by rw [Nat.add_mul, Nat.one_mul] at hb ⊢; omega]⟩ dX6_estimateOf_20
set_option maxHeartbeats 4000000 in
set_option maxRecDepth 100000 in
/-- X6_levelAt -/
theorem c_X6_levelAt (l : Launch) {g : zG} (hg : zOk g) (x : zT) (a b : Nat) (hab : a ≤ b) (hb : b < 64) : Met l yX6_levelAt wsX6_levelAt ({ frames := 0, cells := 0, slots := 0, locals := 0 }) (va_Pc [.int (nI a), .int (nI b)] (zPre g x)) (va_Qi (fun (r : Int32) (u : zT) => u = x ∧ r = nI (zlev a b)) (zB g) (zA g)) 0 0 (zA g) := by
  refine z_met (cc := cX6_levelAt) (nL := 3) (ret := (some .int)) hg (by decide) rfl (Nat.le_of_ble_eq_true rfl) ?_
  intro p_ e_ s_ m_ args_ below_ meth_ c_ C hr
  show Z p_ l e_ _ s_ m_ args_ below_ meth_ c_ g 3 0 0 _ x 0 [(0, .int (nI a)), (1, .int (nI b))] []
  refine z_bipush (v := nI 6) 0 C dX6_levelAt_0 rfl ?_
  refine z_istore_n (lv' := [(2, .int (nI 6)), (0, .int (nI a)), (1, .int (nI b))]) 2 C dX6_levelAt_2 rfl (by decide) rfl ?_
  have J3 : ∀ (n3 : Nat) (k : Nat), (k < n3) → (k ≤ 6) → (k = 6 ∨ zfit (k + 1) a b = false) → Z p_ l e_ (headSpec wsX6_levelAt ({ frames := 0, cells := 0, slots := 0, locals := 0 })).room s_ m_ args_ below_ meth_ c_ g 3 0 0 (MQ below_ (va_Qi (fun (r : Int32) (u : zT) => u = x ∧ r = nI (zlev a b)) (zB g) (zA g)) args_ s_ 0 0 (zA g)) x 3 [(0, .int (nI a)), (1, .int (nI b)), (2, .int (nI k))] [] := by
    intro n3
    induction n3 with
    | zero => intro k hn hk hu; exact absurd hn (by omega)
    | succ n3 ih3 =>
      intro k hn hk hu
      refine z_iload_n 3 C dX6_levelAt_3 rfl 0 rfl ?_
      refine z_iconst (v := nI 1) 4 C dX6_levelAt_4 rfl ?_
      have hpw := zpow_b hk
      refine z_iload_n 5 C dX6_levelAt_5 rfl 2 rfl ?_
      refine z_ishl (v := nI (1 * 2 ^ k)) 6 C dX6_levelAt_6 (zn_shl 1 k (by omega)) ?_
      refine z_irem (v := nI (a % (1 * 2 ^ k))) 7 C dX6_levelAt_7 (zn_ne0 (1 * 2 ^ k) (by omega) (by omega)) (pk_rem (by omega) (by omega) (by omega)) ?_
      refine z_if_neN 8 C 22 dX6_levelAt_8 (by decide) (Nat.lt_of_le_of_lt (Nat.mod_le _ _) (by omega)) (fun h8 => ?_) (fun h8 => ?_)
      · have hft : zfit k a b = false := zfit_nm1 h8
        have hk0 := zfit_k0 hab hft
        refine z_iinc (v' := nI (k - 1)) (lv' := [(2, .int (nI (k - 1))), (0, .int (nI a)), (1, .int (nI b))]) 22 C dX6_levelAt_22 (q := 2) rfl (zn_dec k 1 (by omega)) (by decide) rfl ?_
        refine z_goto 25 C 3 dX6_levelAt_25 (by decide) ?_
        refine z_lv (lv' := [(0, .int (nI a)), (1, .int (nI b)), (2, .int (nI (k - 1)))]) [1, 2, 0] rfl ?_
        exact ih3 (k - 1) (by omega) (by omega) (Or.inr (by rw [show k - 1 + 1 = k by omega]; exact hft))
      · refine z_iload_n 11 C dX6_levelAt_11 rfl 0 rfl ?_
        refine z_iconst (v := nI 1) 12 C dX6_levelAt_12 rfl ?_
        refine z_iload_n 13 C dX6_levelAt_13 rfl 2 rfl ?_
        refine z_ishl (v := nI (1 * 2 ^ k)) 14 C dX6_levelAt_14 (zn_shl 1 k (by omega)) ?_
        refine z_iadd (v := nI (a + (1 * 2 ^ k))) 15 C dX6_levelAt_15 (nI_add a (1 * 2 ^ k)) ?_
        refine z_iconst (v := nI 1) 16 C dX6_levelAt_16 rfl ?_
        refine z_isub (v := nI ((a + (1 * 2 ^ k)) - 1)) 17 C dX6_levelAt_17 (pk_sub (by omega)) ?_
        refine z_iload_n 18 C dX6_levelAt_18 rfl 1 rfl ?_
        refine z_icmp_leN 19 C 28 dX6_levelAt_19 (by decide) (by omega) (by omega) (fun h19 => ?_) (fun h19 => ?_)
        · refine z_iload_n 28 C dX6_levelAt_28 rfl 2 rfl ?_
          exact z_iret 29 C hr ⟨rfl, by rw [zlev_eq hk (zfit_mod h8 h19) hu hab]⟩ dX6_levelAt_29
        · have hft : zfit k a b = false := zfit_nm2 h19
          have hk0 := zfit_k0 hab hft
          refine z_iinc (v' := nI (k - 1)) (lv' := [(2, .int (nI (k - 1))), (0, .int (nI a)), (1, .int (nI b))]) 22 C dX6_levelAt_22 (q := 2) rfl (zn_dec k 1 (by omega)) (by decide) rfl ?_
          refine z_goto 25 C 3 dX6_levelAt_25 (by decide) ?_
          refine z_lv (lv' := [(0, .int (nI a)), (1, .int (nI b)), (2, .int (nI (k - 1)))]) [1, 2, 0] rfl ?_
          exact ih3 (k - 1) (by omega) (by omega) (Or.inr (by rw [show k - 1 + 1 = k by omega]; exact hft))
  refine z_lv (lv' := [(0, .int (nI a)), (1, .int (nI b)), (2, .int (nI 6))]) [1, 2, 0] rfl ?_
  exact J3 7 6 (by decide) (by decide) (Or.inl rfl)
set_option maxHeartbeats 4000000 in
set_option maxRecDepth 100000 in
/-- X6_isFrequent -/
theorem c_X6_isFrequent (l : Launch) {g : zG} (hg : zOk g) (x : zT) (j : Nat) (hj : j < 4) (c d : Nat → Int32) (L : zCL) (aw : Int32) (hMj : zM x j c d L aw) (item : Nat) (hitem : item < 64) (least : Int32) : Met l yX6_isFrequent wsX6_isFrequent ({ frames := 3, cells := 0, slots := 0, locals := 67 }) (va_Pc [.ref (zad g 2), .int (nI j), .int (nI item), .int least] (zPre g x)) (va_Qi (fun (r : Int32) (u : zT) => u = x ∧ ((r = nI 1 ∧ zfreq c d item least) ∨ (r = nI 0 ∧ ¬ zfreq c d item least))) (zB g) (zA g)) 0 0 (zA g) := by
  refine z_met (cc := cX6_isFrequent) (nL := 6) (ret := (some .boolean)) hg (by decide) rfl (Nat.le_of_ble_eq_true rfl) ?_
  intro p_ e_ s_ m_ args_ below_ meth_ c_ C hr
  show Z p_ l e_ _ s_ m_ args_ below_ meth_ c_ g 6 0 0 _ x 0 [(0, .ref (zad g 2)), (1, .int (nI j)), (2, .int (nI item)), (3, .int least)] []
  refine z_iconst (v := nI 1) 0 C dX6_isFrequent_0 rfl ?_
  refine z_istore (lv' := [(4, .int (nI 1)), (0, .ref (zad g 2)), (1, .int (nI j)), (2, .int (nI item)), (3, .int least)]) 1 C dX6_isFrequent_1 (by decide) rfl ?_
  refine z_iconst (v := nI 0) 3 C dX6_isFrequent_3 rfl ?_
  refine z_istore (lv' := [(5, .int (nI 0)), (4, .int (nI 1)), (0, .ref (zad g 2)), (1, .int (nI j)), (2, .int (nI item)), (3, .int least)]) 4 C dX6_isFrequent_4 (by decide) rfl ?_
  refine z_iload 6 C dX6_isFrequent_6 0 rfl ?_
  refine z_bipush (v := nI 7) 8 C dX6_isFrequent_8 rfl ?_
  refine z_icmp_geN 10 C 46 dX6_isFrequent_10 (by decide) (by omega) (by omega) (fun h10 => absurd h10 (by omega)) (fun h10 => ?_)
  refine z_iload 13 C dX6_isFrequent_13 1 rfl ?_
  refine z_if_eqN 15 C 37 dX6_isFrequent_15 (by decide) (by omega) (fun h15 => absurd h15 (by omega)) (fun h15 => ?_)
  refine z_aload_n 18 C dX6_isFrequent_18 rfl 2 rfl ?_
  refine z_iload_n 19 C dX6_isFrequent_19 rfl 3 rfl ?_
  refine z_iload 20 C dX6_isFrequent_20 0 rfl ?_
  refine z_iload_n 22 C dX6_isFrequent_22 rfl 4 rfl ?_
  refine z_iload 23 C dX6_isFrequent_23 0 rfl ?_
  refine z_ishr (v := nI (item / 2 ^ 0)) 25 C dX6_isFrequent_25 (zn_shr item 0 (by omega) (by omega)) ?_
  refine z_callVi 26 C (As := [.int (nI j), .int (nI 0), .int (nI (item / 2 ^ 0))]) 3 kO_model rfl (c_X6_estimateOf l hg x j 0 (item / 2 ^ 0) hj (by decide) (zhalf_lt hitem (by decide))) (cwV 3 C.1.2.2.2.2 gX6_isFrequent_X6_estimateOf rfl rfl rfl (by decide +kernel) ⟨Nat.le_of_ble_eq_true rfl, Nat.le_of_ble_eq_true rfl⟩) rfl rfl (Nat.le_of_ble_eq_true rfl) ⟨Nat.le_of_ble_eq_true rfl, Nat.le_of_ble_eq_true rfl⟩ dX6_isFrequent_26 (fun r u hu => ?_)
  obtain ⟨v1, ev1⟩ : ∃ y : Int32, y = zest c d 0 (item / 2 ^ 0) := ⟨_, rfl⟩
  obtain ⟨hu1, hu2⟩ : u = x ∧ r = v1 := ⟨hu.1, by rw [hu.2, zraw_M hMj (by decide) (zhalf_lt hitem (by decide)), ev1]⟩
  subst u
  subst r
  refine z_iload_n 29 C dX6_isFrequent_29 rfl 5 rfl ?_
  refine z_icmp_lt 30 C 37 dX6_isFrequent_30 (by decide) (fun h30 => ?_) (fun h30 => ?_)
  · have hno : ¬ zfreq c d item least := fun z => Int32.not_le.mpr h30 (by rw [ev1]; exact z 0 (by decide))
    refine z_iconst (v := nI 0) 37 C dX6_isFrequent_37 rfl ?_
    refine z_istore (lv' := [(4, .int (nI 0)), (5, .int (nI 0)), (0, .ref (zad g 2)), (1, .int (nI j)), (2, .int (nI item)), (3, .int least)]) 38 C dX6_isFrequent_38 (by decide) rfl ?_
    refine z_iinc (v' := nI 1) (lv' := [(5, .int (nI 1)), (4, .int (nI 0)), (0, .ref (zad g 2)), (1, .int (nI j)), (2, .int (nI item)), (3, .int least)]) 40 C dX6_isFrequent_40 (q := 1) rfl rfl (by decide) rfl ?_
    refine z_goto 43 C 6 dX6_isFrequent_43 (by decide) ?_
    refine z_iload 6 C dX6_isFrequent_6 0 rfl ?_
    refine z_bipush (v := nI 7) 8 C dX6_isFrequent_8 rfl ?_
    refine z_icmp_geN 10 C 46 dX6_isFrequent_10 (by decide) (by omega) (by omega) (fun h10 => absurd h10 (by omega)) (fun h10 => ?_)
    refine z_iload 13 C dX6_isFrequent_13 1 rfl ?_
    refine z_if_eqN 15 C 37 dX6_isFrequent_15 (by decide) (by omega) (fun h15 => ?_) (fun h15 => absurd h15 (by omega))
    refine z_iconst (v := nI 0) 37 C dX6_isFrequent_37 rfl ?_
    refine z_istore (lv' := [(4, .int (nI 0)), (5, .int (nI 1)), (0, .ref (zad g 2)), (1, .int (nI j)), (2, .int (nI item)), (3, .int least)]) 38 C dX6_isFrequent_38 (by decide) rfl ?_
    refine z_iinc (v' := nI 2) (lv' := [(5, .int (nI 2)), (4, .int (nI 0)), (0, .ref (zad g 2)), (1, .int (nI j)), (2, .int (nI item)), (3, .int least)]) 40 C dX6_isFrequent_40 (q := 1) rfl rfl (by decide) rfl ?_
    refine z_goto 43 C 6 dX6_isFrequent_43 (by decide) ?_
    refine z_iload 6 C dX6_isFrequent_6 0 rfl ?_
    refine z_bipush (v := nI 7) 8 C dX6_isFrequent_8 rfl ?_
    refine z_icmp_geN 10 C 46 dX6_isFrequent_10 (by decide) (by omega) (by omega) (fun h10 => absurd h10 (by omega)) (fun h10 => ?_)
    refine z_iload 13 C dX6_isFrequent_13 1 rfl ?_
    refine z_if_eqN 15 C 37 dX6_isFrequent_15 (by decide) (by omega) (fun h15 => ?_) (fun h15 => absurd h15 (by omega))
    refine z_iconst (v := nI 0) 37 C dX6_isFrequent_37 rfl ?_
    refine z_istore (lv' := [(4, .int (nI 0)), (5, .int (nI 2)), (0, .ref (zad g 2)), (1, .int (nI j)), (2, .int (nI item)), (3, .int least)]) 38 C dX6_isFrequent_38 (by decide) rfl ?_
    refine z_iinc (v' := nI 3) (lv' := [(5, .int (nI 3)), (4, .int (nI 0)), (0, .ref (zad g 2)), (1, .int (nI j)), (2, .int (nI item)), (3, .int least)]) 40 C dX6_isFrequent_40 (q := 1) rfl rfl (by decide) rfl ?_
    refine z_goto 43 C 6 dX6_isFrequent_43 (by decide) ?_
    refine z_iload 6 C dX6_isFrequent_6 0 rfl ?_
    refine z_bipush (v := nI 7) 8 C dX6_isFrequent_8 rfl ?_
    refine z_icmp_geN 10 C 46 dX6_isFrequent_10 (by decide) (by omega) (by omega) (fun h10 => absurd h10 (by omega)) (fun h10 => ?_)
    refine z_iload 13 C dX6_isFrequent_13 1 rfl ?_
    refine z_if_eqN 15 C 37 dX6_isFrequent_15 (by decide) (by omega) (fun h15 => ?_) (fun h15 => absurd h15 (by omega))
    refine z_iconst (v := nI 0) 37 C dX6_isFrequent_37 rfl ?_
    refine z_istore (lv' := [(4, .int (nI 0)), (5, .int (nI 3)), (0, .ref (zad g 2)), (1, .int (nI j)), (2, .int (nI item)), (3, .int least)]) 38 C dX6_isFrequent_38 (by decide) rfl ?_
    refine z_iinc (v' := nI 4) (lv' := [(5, .int (nI 4)), (4, .int (nI 0)), (0, .ref (zad g 2)), (1, .int (nI j)), (2, .int (nI item)), (3, .int least)]) 40 C dX6_isFrequent_40 (q := 1) rfl rfl (by decide) rfl ?_
    refine z_goto 43 C 6 dX6_isFrequent_43 (by decide) ?_
    refine z_iload 6 C dX6_isFrequent_6 0 rfl ?_
    refine z_bipush (v := nI 7) 8 C dX6_isFrequent_8 rfl ?_
    refine z_icmp_geN 10 C 46 dX6_isFrequent_10 (by decide) (by omega) (by omega) (fun h10 => absurd h10 (by omega)) (fun h10 => ?_)
    refine z_iload 13 C dX6_isFrequent_13 1 rfl ?_
    refine z_if_eqN 15 C 37 dX6_isFrequent_15 (by decide) (by omega) (fun h15 => ?_) (fun h15 => absurd h15 (by omega))
    refine z_iconst (v := nI 0) 37 C dX6_isFrequent_37 rfl ?_
    refine z_istore (lv' := [(4, .int (nI 0)), (5, .int (nI 4)), (0, .ref (zad g 2)), (1, .int (nI j)), (2, .int (nI item)), (3, .int least)]) 38 C dX6_isFrequent_38 (by decide) rfl ?_
    refine z_iinc (v' := nI 5) (lv' := [(5, .int (nI 5)), (4, .int (nI 0)), (0, .ref (zad g 2)), (1, .int (nI j)), (2, .int (nI item)), (3, .int least)]) 40 C dX6_isFrequent_40 (q := 1) rfl rfl (by decide) rfl ?_
    refine z_goto 43 C 6 dX6_isFrequent_43 (by decide) ?_
    refine z_iload 6 C dX6_isFrequent_6 0 rfl ?_
    refine z_bipush (v := nI 7) 8 C dX6_isFrequent_8 rfl ?_
    refine z_icmp_geN 10 C 46 dX6_isFrequent_10 (by decide) (by omega) (by omega) (fun h10 => absurd h10 (by omega)) (fun h10 => ?_)
    refine z_iload 13 C dX6_isFrequent_13 1 rfl ?_
    refine z_if_eqN 15 C 37 dX6_isFrequent_15 (by decide) (by omega) (fun h15 => ?_) (fun h15 => absurd h15 (by omega))
    refine z_iconst (v := nI 0) 37 C dX6_isFrequent_37 rfl ?_
    refine z_istore (lv' := [(4, .int (nI 0)), (5, .int (nI 5)), (0, .ref (zad g 2)), (1, .int (nI j)), (2, .int (nI item)), (3, .int least)]) 38 C dX6_isFrequent_38 (by decide) rfl ?_
    refine z_iinc (v' := nI 6) (lv' := [(5, .int (nI 6)), (4, .int (nI 0)), (0, .ref (zad g 2)), (1, .int (nI j)), (2, .int (nI item)), (3, .int least)]) 40 C dX6_isFrequent_40 (q := 1) rfl rfl (by decide) rfl ?_
    refine z_goto 43 C 6 dX6_isFrequent_43 (by decide) ?_
    refine z_iload 6 C dX6_isFrequent_6 0 rfl ?_
    refine z_bipush (v := nI 7) 8 C dX6_isFrequent_8 rfl ?_
    refine z_icmp_geN 10 C 46 dX6_isFrequent_10 (by decide) (by omega) (by omega) (fun h10 => absurd h10 (by omega)) (fun h10 => ?_)
    refine z_iload 13 C dX6_isFrequent_13 1 rfl ?_
    refine z_if_eqN 15 C 37 dX6_isFrequent_15 (by decide) (by omega) (fun h15 => ?_) (fun h15 => absurd h15 (by omega))
    refine z_iconst (v := nI 0) 37 C dX6_isFrequent_37 rfl ?_
    refine z_istore (lv' := [(4, .int (nI 0)), (5, .int (nI 6)), (0, .ref (zad g 2)), (1, .int (nI j)), (2, .int (nI item)), (3, .int least)]) 38 C dX6_isFrequent_38 (by decide) rfl ?_
    refine z_iinc (v' := nI 7) (lv' := [(5, .int (nI 7)), (4, .int (nI 0)), (0, .ref (zad g 2)), (1, .int (nI j)), (2, .int (nI item)), (3, .int least)]) 40 C dX6_isFrequent_40 (q := 1) rfl rfl (by decide) rfl ?_
    refine z_goto 43 C 6 dX6_isFrequent_43 (by decide) ?_
    refine z_iload 6 C dX6_isFrequent_6 0 rfl ?_
    refine z_bipush (v := nI 7) 8 C dX6_isFrequent_8 rfl ?_
    refine z_icmp_geN 10 C 46 dX6_isFrequent_10 (by decide) (by omega) (by omega) (fun h10 => ?_) (fun h10 => absurd h10 (by omega))
    refine z_iload 46 C dX6_isFrequent_46 1 rfl ?_
    exact z_zret 48 C hr rfl ⟨rfl, Or.inr ⟨rfl, hno⟩⟩ dX6_isFrequent_48
  · have hz0 := Int32.not_lt.mp h30
    rw [ev1] at hz0
    refine z_iconst (v := nI 1) 33 C dX6_isFrequent_33 rfl ?_
    refine z_goto 34 C 38 dX6_isFrequent_34 (by decide) ?_
    refine z_istore (lv' := [(4, .int (nI 1)), (5, .int (nI 0)), (0, .ref (zad g 2)), (1, .int (nI j)), (2, .int (nI item)), (3, .int least)]) 38 C dX6_isFrequent_38 (by decide) rfl ?_
    refine z_iinc (v' := nI 1) (lv' := [(5, .int (nI 1)), (4, .int (nI 1)), (0, .ref (zad g 2)), (1, .int (nI j)), (2, .int (nI item)), (3, .int least)]) 40 C dX6_isFrequent_40 (q := 1) rfl rfl (by decide) rfl ?_
    refine z_goto 43 C 6 dX6_isFrequent_43 (by decide) ?_
    refine z_iload 6 C dX6_isFrequent_6 0 rfl ?_
    refine z_bipush (v := nI 7) 8 C dX6_isFrequent_8 rfl ?_
    refine z_icmp_geN 10 C 46 dX6_isFrequent_10 (by decide) (by omega) (by omega) (fun h10 => absurd h10 (by omega)) (fun h10 => ?_)
    refine z_iload 13 C dX6_isFrequent_13 1 rfl ?_
    refine z_if_eqN 15 C 37 dX6_isFrequent_15 (by decide) (by omega) (fun h15 => absurd h15 (by omega)) (fun h15 => ?_)
    refine z_aload_n 18 C dX6_isFrequent_18 rfl 2 rfl ?_
    refine z_iload_n 19 C dX6_isFrequent_19 rfl 3 rfl ?_
    refine z_iload 20 C dX6_isFrequent_20 0 rfl ?_
    refine z_iload_n 22 C dX6_isFrequent_22 rfl 4 rfl ?_
    refine z_iload 23 C dX6_isFrequent_23 0 rfl ?_
    refine z_ishr (v := nI (item / 2 ^ 1)) 25 C dX6_isFrequent_25 (zn_shr item 1 (by omega) (by omega)) ?_
    refine z_callVi 26 C (As := [.int (nI j), .int (nI 1), .int (nI (item / 2 ^ 1))]) 3 kO_model rfl (c_X6_estimateOf l hg x j 1 (item / 2 ^ 1) hj (by decide) (zhalf_lt hitem (by decide))) (cwV 3 C.1.2.2.2.2 gX6_isFrequent_X6_estimateOf rfl rfl rfl (by decide +kernel) ⟨Nat.le_of_ble_eq_true rfl, Nat.le_of_ble_eq_true rfl⟩) rfl rfl (Nat.le_of_ble_eq_true rfl) ⟨Nat.le_of_ble_eq_true rfl, Nat.le_of_ble_eq_true rfl⟩ dX6_isFrequent_26 (fun r u hu => ?_)
    obtain ⟨v2, ev2⟩ : ∃ y : Int32, y = zest c d 1 (item / 2 ^ 1) := ⟨_, rfl⟩
    obtain ⟨hu1, hu2⟩ : u = x ∧ r = v2 := ⟨hu.1, by rw [hu.2, zraw_M hMj (by decide) (zhalf_lt hitem (by decide)), ev2]⟩
    subst u
    subst r
    refine z_iload_n 29 C dX6_isFrequent_29 rfl 5 rfl ?_
    refine z_icmp_lt 30 C 37 dX6_isFrequent_30 (by decide) (fun h30 => ?_) (fun h30 => ?_)
    · have hno : ¬ zfreq c d item least := fun z => Int32.not_le.mpr h30 (by rw [ev2]; exact z 1 (by decide))
      refine z_iconst (v := nI 0) 37 C dX6_isFrequent_37 rfl ?_
      refine z_istore (lv' := [(4, .int (nI 0)), (5, .int (nI 1)), (0, .ref (zad g 2)), (1, .int (nI j)), (2, .int (nI item)), (3, .int least)]) 38 C dX6_isFrequent_38 (by decide) rfl ?_
      refine z_iinc (v' := nI 2) (lv' := [(5, .int (nI 2)), (4, .int (nI 0)), (0, .ref (zad g 2)), (1, .int (nI j)), (2, .int (nI item)), (3, .int least)]) 40 C dX6_isFrequent_40 (q := 1) rfl rfl (by decide) rfl ?_
      refine z_goto 43 C 6 dX6_isFrequent_43 (by decide) ?_
      refine z_iload 6 C dX6_isFrequent_6 0 rfl ?_
      refine z_bipush (v := nI 7) 8 C dX6_isFrequent_8 rfl ?_
      refine z_icmp_geN 10 C 46 dX6_isFrequent_10 (by decide) (by omega) (by omega) (fun h10 => absurd h10 (by omega)) (fun h10 => ?_)
      refine z_iload 13 C dX6_isFrequent_13 1 rfl ?_
      refine z_if_eqN 15 C 37 dX6_isFrequent_15 (by decide) (by omega) (fun h15 => ?_) (fun h15 => absurd h15 (by omega))
      refine z_iconst (v := nI 0) 37 C dX6_isFrequent_37 rfl ?_
      refine z_istore (lv' := [(4, .int (nI 0)), (5, .int (nI 2)), (0, .ref (zad g 2)), (1, .int (nI j)), (2, .int (nI item)), (3, .int least)]) 38 C dX6_isFrequent_38 (by decide) rfl ?_
      refine z_iinc (v' := nI 3) (lv' := [(5, .int (nI 3)), (4, .int (nI 0)), (0, .ref (zad g 2)), (1, .int (nI j)), (2, .int (nI item)), (3, .int least)]) 40 C dX6_isFrequent_40 (q := 1) rfl rfl (by decide) rfl ?_
      refine z_goto 43 C 6 dX6_isFrequent_43 (by decide) ?_
      refine z_iload 6 C dX6_isFrequent_6 0 rfl ?_
      refine z_bipush (v := nI 7) 8 C dX6_isFrequent_8 rfl ?_
      refine z_icmp_geN 10 C 46 dX6_isFrequent_10 (by decide) (by omega) (by omega) (fun h10 => absurd h10 (by omega)) (fun h10 => ?_)
      refine z_iload 13 C dX6_isFrequent_13 1 rfl ?_
      refine z_if_eqN 15 C 37 dX6_isFrequent_15 (by decide) (by omega) (fun h15 => ?_) (fun h15 => absurd h15 (by omega))
      refine z_iconst (v := nI 0) 37 C dX6_isFrequent_37 rfl ?_
      refine z_istore (lv' := [(4, .int (nI 0)), (5, .int (nI 3)), (0, .ref (zad g 2)), (1, .int (nI j)), (2, .int (nI item)), (3, .int least)]) 38 C dX6_isFrequent_38 (by decide) rfl ?_
      refine z_iinc (v' := nI 4) (lv' := [(5, .int (nI 4)), (4, .int (nI 0)), (0, .ref (zad g 2)), (1, .int (nI j)), (2, .int (nI item)), (3, .int least)]) 40 C dX6_isFrequent_40 (q := 1) rfl rfl (by decide) rfl ?_
      refine z_goto 43 C 6 dX6_isFrequent_43 (by decide) ?_
      refine z_iload 6 C dX6_isFrequent_6 0 rfl ?_
      refine z_bipush (v := nI 7) 8 C dX6_isFrequent_8 rfl ?_
      refine z_icmp_geN 10 C 46 dX6_isFrequent_10 (by decide) (by omega) (by omega) (fun h10 => absurd h10 (by omega)) (fun h10 => ?_)
      refine z_iload 13 C dX6_isFrequent_13 1 rfl ?_
      refine z_if_eqN 15 C 37 dX6_isFrequent_15 (by decide) (by omega) (fun h15 => ?_) (fun h15 => absurd h15 (by omega))
      refine z_iconst (v := nI 0) 37 C dX6_isFrequent_37 rfl ?_
      refine z_istore (lv' := [(4, .int (nI 0)), (5, .int (nI 4)), (0, .ref (zad g 2)), (1, .int (nI j)), (2, .int (nI item)), (3, .int least)]) 38 C dX6_isFrequent_38 (by decide) rfl ?_
      refine z_iinc (v' := nI 5) (lv' := [(5, .int (nI 5)), (4, .int (nI 0)), (0, .ref (zad g 2)), (1, .int (nI j)), (2, .int (nI item)), (3, .int least)]) 40 C dX6_isFrequent_40 (q := 1) rfl rfl (by decide) rfl ?_
      refine z_goto 43 C 6 dX6_isFrequent_43 (by decide) ?_
      refine z_iload 6 C dX6_isFrequent_6 0 rfl ?_
      refine z_bipush (v := nI 7) 8 C dX6_isFrequent_8 rfl ?_
      refine z_icmp_geN 10 C 46 dX6_isFrequent_10 (by decide) (by omega) (by omega) (fun h10 => absurd h10 (by omega)) (fun h10 => ?_)
      refine z_iload 13 C dX6_isFrequent_13 1 rfl ?_
      refine z_if_eqN 15 C 37 dX6_isFrequent_15 (by decide) (by omega) (fun h15 => ?_) (fun h15 => absurd h15 (by omega))
      refine z_iconst (v := nI 0) 37 C dX6_isFrequent_37 rfl ?_
      refine z_istore (lv' := [(4, .int (nI 0)), (5, .int (nI 5)), (0, .ref (zad g 2)), (1, .int (nI j)), (2, .int (nI item)), (3, .int least)]) 38 C dX6_isFrequent_38 (by decide) rfl ?_
      refine z_iinc (v' := nI 6) (lv' := [(5, .int (nI 6)), (4, .int (nI 0)), (0, .ref (zad g 2)), (1, .int (nI j)), (2, .int (nI item)), (3, .int least)]) 40 C dX6_isFrequent_40 (q := 1) rfl rfl (by decide) rfl ?_
      refine z_goto 43 C 6 dX6_isFrequent_43 (by decide) ?_
      refine z_iload 6 C dX6_isFrequent_6 0 rfl ?_
      refine z_bipush (v := nI 7) 8 C dX6_isFrequent_8 rfl ?_
      refine z_icmp_geN 10 C 46 dX6_isFrequent_10 (by decide) (by omega) (by omega) (fun h10 => absurd h10 (by omega)) (fun h10 => ?_)
      refine z_iload 13 C dX6_isFrequent_13 1 rfl ?_
      refine z_if_eqN 15 C 37 dX6_isFrequent_15 (by decide) (by omega) (fun h15 => ?_) (fun h15 => absurd h15 (by omega))
      refine z_iconst (v := nI 0) 37 C dX6_isFrequent_37 rfl ?_
      refine z_istore (lv' := [(4, .int (nI 0)), (5, .int (nI 6)), (0, .ref (zad g 2)), (1, .int (nI j)), (2, .int (nI item)), (3, .int least)]) 38 C dX6_isFrequent_38 (by decide) rfl ?_
      refine z_iinc (v' := nI 7) (lv' := [(5, .int (nI 7)), (4, .int (nI 0)), (0, .ref (zad g 2)), (1, .int (nI j)), (2, .int (nI item)), (3, .int least)]) 40 C dX6_isFrequent_40 (q := 1) rfl rfl (by decide) rfl ?_
      refine z_goto 43 C 6 dX6_isFrequent_43 (by decide) ?_
      refine z_iload 6 C dX6_isFrequent_6 0 rfl ?_
      refine z_bipush (v := nI 7) 8 C dX6_isFrequent_8 rfl ?_
      refine z_icmp_geN 10 C 46 dX6_isFrequent_10 (by decide) (by omega) (by omega) (fun h10 => ?_) (fun h10 => absurd h10 (by omega))
      refine z_iload 46 C dX6_isFrequent_46 1 rfl ?_
      exact z_zret 48 C hr rfl ⟨rfl, Or.inr ⟨rfl, hno⟩⟩ dX6_isFrequent_48
    · have hz1 := Int32.not_lt.mp h30
      rw [ev2] at hz1
      refine z_iconst (v := nI 1) 33 C dX6_isFrequent_33 rfl ?_
      refine z_goto 34 C 38 dX6_isFrequent_34 (by decide) ?_
      refine z_istore (lv' := [(4, .int (nI 1)), (5, .int (nI 1)), (0, .ref (zad g 2)), (1, .int (nI j)), (2, .int (nI item)), (3, .int least)]) 38 C dX6_isFrequent_38 (by decide) rfl ?_
      refine z_iinc (v' := nI 2) (lv' := [(5, .int (nI 2)), (4, .int (nI 1)), (0, .ref (zad g 2)), (1, .int (nI j)), (2, .int (nI item)), (3, .int least)]) 40 C dX6_isFrequent_40 (q := 1) rfl rfl (by decide) rfl ?_
      refine z_goto 43 C 6 dX6_isFrequent_43 (by decide) ?_
      refine z_iload 6 C dX6_isFrequent_6 0 rfl ?_
      refine z_bipush (v := nI 7) 8 C dX6_isFrequent_8 rfl ?_
      refine z_icmp_geN 10 C 46 dX6_isFrequent_10 (by decide) (by omega) (by omega) (fun h10 => absurd h10 (by omega)) (fun h10 => ?_)
      refine z_iload 13 C dX6_isFrequent_13 1 rfl ?_
      refine z_if_eqN 15 C 37 dX6_isFrequent_15 (by decide) (by omega) (fun h15 => absurd h15 (by omega)) (fun h15 => ?_)
      refine z_aload_n 18 C dX6_isFrequent_18 rfl 2 rfl ?_
      refine z_iload_n 19 C dX6_isFrequent_19 rfl 3 rfl ?_
      refine z_iload 20 C dX6_isFrequent_20 0 rfl ?_
      refine z_iload_n 22 C dX6_isFrequent_22 rfl 4 rfl ?_
      refine z_iload 23 C dX6_isFrequent_23 0 rfl ?_
      refine z_ishr (v := nI (item / 2 ^ 2)) 25 C dX6_isFrequent_25 (zn_shr item 2 (by omega) (by omega)) ?_
      refine z_callVi 26 C (As := [.int (nI j), .int (nI 2), .int (nI (item / 2 ^ 2))]) 3 kO_model rfl (c_X6_estimateOf l hg x j 2 (item / 2 ^ 2) hj (by decide) (zhalf_lt hitem (by decide))) (cwV 3 C.1.2.2.2.2 gX6_isFrequent_X6_estimateOf rfl rfl rfl (by decide +kernel) ⟨Nat.le_of_ble_eq_true rfl, Nat.le_of_ble_eq_true rfl⟩) rfl rfl (Nat.le_of_ble_eq_true rfl) ⟨Nat.le_of_ble_eq_true rfl, Nat.le_of_ble_eq_true rfl⟩ dX6_isFrequent_26 (fun r u hu => ?_)
      obtain ⟨v3, ev3⟩ : ∃ y : Int32, y = zest c d 2 (item / 2 ^ 2) := ⟨_, rfl⟩
      obtain ⟨hu1, hu2⟩ : u = x ∧ r = v3 := ⟨hu.1, by rw [hu.2, zraw_M hMj (by decide) (zhalf_lt hitem (by decide)), ev3]⟩
      subst u
      subst r
      refine z_iload_n 29 C dX6_isFrequent_29 rfl 5 rfl ?_
      refine z_icmp_lt 30 C 37 dX6_isFrequent_30 (by decide) (fun h30 => ?_) (fun h30 => ?_)
      · have hno : ¬ zfreq c d item least := fun z => Int32.not_le.mpr h30 (by rw [ev3]; exact z 2 (by decide))
        refine z_iconst (v := nI 0) 37 C dX6_isFrequent_37 rfl ?_
        refine z_istore (lv' := [(4, .int (nI 0)), (5, .int (nI 2)), (0, .ref (zad g 2)), (1, .int (nI j)), (2, .int (nI item)), (3, .int least)]) 38 C dX6_isFrequent_38 (by decide) rfl ?_
        refine z_iinc (v' := nI 3) (lv' := [(5, .int (nI 3)), (4, .int (nI 0)), (0, .ref (zad g 2)), (1, .int (nI j)), (2, .int (nI item)), (3, .int least)]) 40 C dX6_isFrequent_40 (q := 1) rfl rfl (by decide) rfl ?_
        refine z_goto 43 C 6 dX6_isFrequent_43 (by decide) ?_
        refine z_iload 6 C dX6_isFrequent_6 0 rfl ?_
        refine z_bipush (v := nI 7) 8 C dX6_isFrequent_8 rfl ?_
        refine z_icmp_geN 10 C 46 dX6_isFrequent_10 (by decide) (by omega) (by omega) (fun h10 => absurd h10 (by omega)) (fun h10 => ?_)
        refine z_iload 13 C dX6_isFrequent_13 1 rfl ?_
        refine z_if_eqN 15 C 37 dX6_isFrequent_15 (by decide) (by omega) (fun h15 => ?_) (fun h15 => absurd h15 (by omega))
        refine z_iconst (v := nI 0) 37 C dX6_isFrequent_37 rfl ?_
        refine z_istore (lv' := [(4, .int (nI 0)), (5, .int (nI 3)), (0, .ref (zad g 2)), (1, .int (nI j)), (2, .int (nI item)), (3, .int least)]) 38 C dX6_isFrequent_38 (by decide) rfl ?_
        refine z_iinc (v' := nI 4) (lv' := [(5, .int (nI 4)), (4, .int (nI 0)), (0, .ref (zad g 2)), (1, .int (nI j)), (2, .int (nI item)), (3, .int least)]) 40 C dX6_isFrequent_40 (q := 1) rfl rfl (by decide) rfl ?_
        refine z_goto 43 C 6 dX6_isFrequent_43 (by decide) ?_
        refine z_iload 6 C dX6_isFrequent_6 0 rfl ?_
        refine z_bipush (v := nI 7) 8 C dX6_isFrequent_8 rfl ?_
        refine z_icmp_geN 10 C 46 dX6_isFrequent_10 (by decide) (by omega) (by omega) (fun h10 => absurd h10 (by omega)) (fun h10 => ?_)
        refine z_iload 13 C dX6_isFrequent_13 1 rfl ?_
        refine z_if_eqN 15 C 37 dX6_isFrequent_15 (by decide) (by omega) (fun h15 => ?_) (fun h15 => absurd h15 (by omega))
        refine z_iconst (v := nI 0) 37 C dX6_isFrequent_37 rfl ?_
        refine z_istore (lv' := [(4, .int (nI 0)), (5, .int (nI 4)), (0, .ref (zad g 2)), (1, .int (nI j)), (2, .int (nI item)), (3, .int least)]) 38 C dX6_isFrequent_38 (by decide) rfl ?_
        refine z_iinc (v' := nI 5) (lv' := [(5, .int (nI 5)), (4, .int (nI 0)), (0, .ref (zad g 2)), (1, .int (nI j)), (2, .int (nI item)), (3, .int least)]) 40 C dX6_isFrequent_40 (q := 1) rfl rfl (by decide) rfl ?_
        refine z_goto 43 C 6 dX6_isFrequent_43 (by decide) ?_
        refine z_iload 6 C dX6_isFrequent_6 0 rfl ?_
        refine z_bipush (v := nI 7) 8 C dX6_isFrequent_8 rfl ?_
        refine z_icmp_geN 10 C 46 dX6_isFrequent_10 (by decide) (by omega) (by omega) (fun h10 => absurd h10 (by omega)) (fun h10 => ?_)
        refine z_iload 13 C dX6_isFrequent_13 1 rfl ?_
        refine z_if_eqN 15 C 37 dX6_isFrequent_15 (by decide) (by omega) (fun h15 => ?_) (fun h15 => absurd h15 (by omega))
        refine z_iconst (v := nI 0) 37 C dX6_isFrequent_37 rfl ?_
        refine z_istore (lv' := [(4, .int (nI 0)), (5, .int (nI 5)), (0, .ref (zad g 2)), (1, .int (nI j)), (2, .int (nI item)), (3, .int least)]) 38 C dX6_isFrequent_38 (by decide) rfl ?_
        refine z_iinc (v' := nI 6) (lv' := [(5, .int (nI 6)), (4, .int (nI 0)), (0, .ref (zad g 2)), (1, .int (nI j)), (2, .int (nI item)), (3, .int least)]) 40 C dX6_isFrequent_40 (q := 1) rfl rfl (by decide) rfl ?_
        refine z_goto 43 C 6 dX6_isFrequent_43 (by decide) ?_
        refine z_iload 6 C dX6_isFrequent_6 0 rfl ?_
        refine z_bipush (v := nI 7) 8 C dX6_isFrequent_8 rfl ?_
        refine z_icmp_geN 10 C 46 dX6_isFrequent_10 (by decide) (by omega) (by omega) (fun h10 => absurd h10 (by omega)) (fun h10 => ?_)
        refine z_iload 13 C dX6_isFrequent_13 1 rfl ?_
        refine z_if_eqN 15 C 37 dX6_isFrequent_15 (by decide) (by omega) (fun h15 => ?_) (fun h15 => absurd h15 (by omega))
        refine z_iconst (v := nI 0) 37 C dX6_isFrequent_37 rfl ?_
        refine z_istore (lv' := [(4, .int (nI 0)), (5, .int (nI 6)), (0, .ref (zad g 2)), (1, .int (nI j)), (2, .int (nI item)), (3, .int least)]) 38 C dX6_isFrequent_38 (by decide) rfl ?_
        refine z_iinc (v' := nI 7) (lv' := [(5, .int (nI 7)), (4, .int (nI 0)), (0, .ref (zad g 2)), (1, .int (nI j)), (2, .int (nI item)), (3, .int least)]) 40 C dX6_isFrequent_40 (q := 1) rfl rfl (by decide) rfl ?_
        refine z_goto 43 C 6 dX6_isFrequent_43 (by decide) ?_
        refine z_iload 6 C dX6_isFrequent_6 0 rfl ?_
        refine z_bipush (v := nI 7) 8 C dX6_isFrequent_8 rfl ?_
        refine z_icmp_geN 10 C 46 dX6_isFrequent_10 (by decide) (by omega) (by omega) (fun h10 => ?_) (fun h10 => absurd h10 (by omega))
        refine z_iload 46 C dX6_isFrequent_46 1 rfl ?_
        exact z_zret 48 C hr rfl ⟨rfl, Or.inr ⟨rfl, hno⟩⟩ dX6_isFrequent_48
      · have hz2 := Int32.not_lt.mp h30
        rw [ev3] at hz2
        refine z_iconst (v := nI 1) 33 C dX6_isFrequent_33 rfl ?_
        refine z_goto 34 C 38 dX6_isFrequent_34 (by decide) ?_
        refine z_istore (lv' := [(4, .int (nI 1)), (5, .int (nI 2)), (0, .ref (zad g 2)), (1, .int (nI j)), (2, .int (nI item)), (3, .int least)]) 38 C dX6_isFrequent_38 (by decide) rfl ?_
        refine z_iinc (v' := nI 3) (lv' := [(5, .int (nI 3)), (4, .int (nI 1)), (0, .ref (zad g 2)), (1, .int (nI j)), (2, .int (nI item)), (3, .int least)]) 40 C dX6_isFrequent_40 (q := 1) rfl rfl (by decide) rfl ?_
        refine z_goto 43 C 6 dX6_isFrequent_43 (by decide) ?_
        refine z_iload 6 C dX6_isFrequent_6 0 rfl ?_
        refine z_bipush (v := nI 7) 8 C dX6_isFrequent_8 rfl ?_
        refine z_icmp_geN 10 C 46 dX6_isFrequent_10 (by decide) (by omega) (by omega) (fun h10 => absurd h10 (by omega)) (fun h10 => ?_)
        refine z_iload 13 C dX6_isFrequent_13 1 rfl ?_
        refine z_if_eqN 15 C 37 dX6_isFrequent_15 (by decide) (by omega) (fun h15 => absurd h15 (by omega)) (fun h15 => ?_)
        refine z_aload_n 18 C dX6_isFrequent_18 rfl 2 rfl ?_
        refine z_iload_n 19 C dX6_isFrequent_19 rfl 3 rfl ?_
        refine z_iload 20 C dX6_isFrequent_20 0 rfl ?_
        refine z_iload_n 22 C dX6_isFrequent_22 rfl 4 rfl ?_
        refine z_iload 23 C dX6_isFrequent_23 0 rfl ?_
        refine z_ishr (v := nI (item / 2 ^ 3)) 25 C dX6_isFrequent_25 (zn_shr item 3 (by omega) (by omega)) ?_
        refine z_callVi 26 C (As := [.int (nI j), .int (nI 3), .int (nI (item / 2 ^ 3))]) 3 kO_model rfl (c_X6_estimateOf l hg x j 3 (item / 2 ^ 3) hj (by decide) (zhalf_lt hitem (by decide))) (cwV 3 C.1.2.2.2.2 gX6_isFrequent_X6_estimateOf rfl rfl rfl (by decide +kernel) ⟨Nat.le_of_ble_eq_true rfl, Nat.le_of_ble_eq_true rfl⟩) rfl rfl (Nat.le_of_ble_eq_true rfl) ⟨Nat.le_of_ble_eq_true rfl, Nat.le_of_ble_eq_true rfl⟩ dX6_isFrequent_26 (fun r u hu => ?_)
        obtain ⟨v4, ev4⟩ : ∃ y : Int32, y = zest c d 3 (item / 2 ^ 3) := ⟨_, rfl⟩
        obtain ⟨hu1, hu2⟩ : u = x ∧ r = v4 := ⟨hu.1, by rw [hu.2, zraw_M hMj (by decide) (zhalf_lt hitem (by decide)), ev4]⟩
        subst u
        subst r
        refine z_iload_n 29 C dX6_isFrequent_29 rfl 5 rfl ?_
        refine z_icmp_lt 30 C 37 dX6_isFrequent_30 (by decide) (fun h30 => ?_) (fun h30 => ?_)
        · have hno : ¬ zfreq c d item least := fun z => Int32.not_le.mpr h30 (by rw [ev4]; exact z 3 (by decide))
          refine z_iconst (v := nI 0) 37 C dX6_isFrequent_37 rfl ?_
          refine z_istore (lv' := [(4, .int (nI 0)), (5, .int (nI 3)), (0, .ref (zad g 2)), (1, .int (nI j)), (2, .int (nI item)), (3, .int least)]) 38 C dX6_isFrequent_38 (by decide) rfl ?_
          refine z_iinc (v' := nI 4) (lv' := [(5, .int (nI 4)), (4, .int (nI 0)), (0, .ref (zad g 2)), (1, .int (nI j)), (2, .int (nI item)), (3, .int least)]) 40 C dX6_isFrequent_40 (q := 1) rfl rfl (by decide) rfl ?_
          refine z_goto 43 C 6 dX6_isFrequent_43 (by decide) ?_
          refine z_iload 6 C dX6_isFrequent_6 0 rfl ?_
          refine z_bipush (v := nI 7) 8 C dX6_isFrequent_8 rfl ?_
          refine z_icmp_geN 10 C 46 dX6_isFrequent_10 (by decide) (by omega) (by omega) (fun h10 => absurd h10 (by omega)) (fun h10 => ?_)
          refine z_iload 13 C dX6_isFrequent_13 1 rfl ?_
          refine z_if_eqN 15 C 37 dX6_isFrequent_15 (by decide) (by omega) (fun h15 => ?_) (fun h15 => absurd h15 (by omega))
          refine z_iconst (v := nI 0) 37 C dX6_isFrequent_37 rfl ?_
          refine z_istore (lv' := [(4, .int (nI 0)), (5, .int (nI 4)), (0, .ref (zad g 2)), (1, .int (nI j)), (2, .int (nI item)), (3, .int least)]) 38 C dX6_isFrequent_38 (by decide) rfl ?_
          refine z_iinc (v' := nI 5) (lv' := [(5, .int (nI 5)), (4, .int (nI 0)), (0, .ref (zad g 2)), (1, .int (nI j)), (2, .int (nI item)), (3, .int least)]) 40 C dX6_isFrequent_40 (q := 1) rfl rfl (by decide) rfl ?_
          refine z_goto 43 C 6 dX6_isFrequent_43 (by decide) ?_
          refine z_iload 6 C dX6_isFrequent_6 0 rfl ?_
          refine z_bipush (v := nI 7) 8 C dX6_isFrequent_8 rfl ?_
          refine z_icmp_geN 10 C 46 dX6_isFrequent_10 (by decide) (by omega) (by omega) (fun h10 => absurd h10 (by omega)) (fun h10 => ?_)
          refine z_iload 13 C dX6_isFrequent_13 1 rfl ?_
          refine z_if_eqN 15 C 37 dX6_isFrequent_15 (by decide) (by omega) (fun h15 => ?_) (fun h15 => absurd h15 (by omega))
          refine z_iconst (v := nI 0) 37 C dX6_isFrequent_37 rfl ?_
          refine z_istore (lv' := [(4, .int (nI 0)), (5, .int (nI 5)), (0, .ref (zad g 2)), (1, .int (nI j)), (2, .int (nI item)), (3, .int least)]) 38 C dX6_isFrequent_38 (by decide) rfl ?_
          refine z_iinc (v' := nI 6) (lv' := [(5, .int (nI 6)), (4, .int (nI 0)), (0, .ref (zad g 2)), (1, .int (nI j)), (2, .int (nI item)), (3, .int least)]) 40 C dX6_isFrequent_40 (q := 1) rfl rfl (by decide) rfl ?_
          refine z_goto 43 C 6 dX6_isFrequent_43 (by decide) ?_
          refine z_iload 6 C dX6_isFrequent_6 0 rfl ?_
          refine z_bipush (v := nI 7) 8 C dX6_isFrequent_8 rfl ?_
          refine z_icmp_geN 10 C 46 dX6_isFrequent_10 (by decide) (by omega) (by omega) (fun h10 => absurd h10 (by omega)) (fun h10 => ?_)
          refine z_iload 13 C dX6_isFrequent_13 1 rfl ?_
          refine z_if_eqN 15 C 37 dX6_isFrequent_15 (by decide) (by omega) (fun h15 => ?_) (fun h15 => absurd h15 (by omega))
          refine z_iconst (v := nI 0) 37 C dX6_isFrequent_37 rfl ?_
          refine z_istore (lv' := [(4, .int (nI 0)), (5, .int (nI 6)), (0, .ref (zad g 2)), (1, .int (nI j)), (2, .int (nI item)), (3, .int least)]) 38 C dX6_isFrequent_38 (by decide) rfl ?_
          refine z_iinc (v' := nI 7) (lv' := [(5, .int (nI 7)), (4, .int (nI 0)), (0, .ref (zad g 2)), (1, .int (nI j)), (2, .int (nI item)), (3, .int least)]) 40 C dX6_isFrequent_40 (q := 1) rfl rfl (by decide) rfl ?_
          refine z_goto 43 C 6 dX6_isFrequent_43 (by decide) ?_
          refine z_iload 6 C dX6_isFrequent_6 0 rfl ?_
          refine z_bipush (v := nI 7) 8 C dX6_isFrequent_8 rfl ?_
          refine z_icmp_geN 10 C 46 dX6_isFrequent_10 (by decide) (by omega) (by omega) (fun h10 => ?_) (fun h10 => absurd h10 (by omega))
          refine z_iload 46 C dX6_isFrequent_46 1 rfl ?_
          exact z_zret 48 C hr rfl ⟨rfl, Or.inr ⟨rfl, hno⟩⟩ dX6_isFrequent_48
        · have hz3 := Int32.not_lt.mp h30
          rw [ev4] at hz3
          refine z_iconst (v := nI 1) 33 C dX6_isFrequent_33 rfl ?_
          refine z_goto 34 C 38 dX6_isFrequent_34 (by decide) ?_
          refine z_istore (lv' := [(4, .int (nI 1)), (5, .int (nI 3)), (0, .ref (zad g 2)), (1, .int (nI j)), (2, .int (nI item)), (3, .int least)]) 38 C dX6_isFrequent_38 (by decide) rfl ?_
          refine z_iinc (v' := nI 4) (lv' := [(5, .int (nI 4)), (4, .int (nI 1)), (0, .ref (zad g 2)), (1, .int (nI j)), (2, .int (nI item)), (3, .int least)]) 40 C dX6_isFrequent_40 (q := 1) rfl rfl (by decide) rfl ?_
          refine z_goto 43 C 6 dX6_isFrequent_43 (by decide) ?_
          refine z_iload 6 C dX6_isFrequent_6 0 rfl ?_
          refine z_bipush (v := nI 7) 8 C dX6_isFrequent_8 rfl ?_
          refine z_icmp_geN 10 C 46 dX6_isFrequent_10 (by decide) (by omega) (by omega) (fun h10 => absurd h10 (by omega)) (fun h10 => ?_)
          refine z_iload 13 C dX6_isFrequent_13 1 rfl ?_
          refine z_if_eqN 15 C 37 dX6_isFrequent_15 (by decide) (by omega) (fun h15 => absurd h15 (by omega)) (fun h15 => ?_)
          refine z_aload_n 18 C dX6_isFrequent_18 rfl 2 rfl ?_
          refine z_iload_n 19 C dX6_isFrequent_19 rfl 3 rfl ?_
          refine z_iload 20 C dX6_isFrequent_20 0 rfl ?_
          refine z_iload_n 22 C dX6_isFrequent_22 rfl 4 rfl ?_
          refine z_iload 23 C dX6_isFrequent_23 0 rfl ?_
          refine z_ishr (v := nI (item / 2 ^ 4)) 25 C dX6_isFrequent_25 (zn_shr item 4 (by omega) (by omega)) ?_
          refine z_callVi 26 C (As := [.int (nI j), .int (nI 4), .int (nI (item / 2 ^ 4))]) 3 kO_model rfl (c_X6_estimateOf l hg x j 4 (item / 2 ^ 4) hj (by decide) (zhalf_lt hitem (by decide))) (cwV 3 C.1.2.2.2.2 gX6_isFrequent_X6_estimateOf rfl rfl rfl (by decide +kernel) ⟨Nat.le_of_ble_eq_true rfl, Nat.le_of_ble_eq_true rfl⟩) rfl rfl (Nat.le_of_ble_eq_true rfl) ⟨Nat.le_of_ble_eq_true rfl, Nat.le_of_ble_eq_true rfl⟩ dX6_isFrequent_26 (fun r u hu => ?_)
          obtain ⟨v5, ev5⟩ : ∃ y : Int32, y = zest c d 4 (item / 2 ^ 4) := ⟨_, rfl⟩
          obtain ⟨hu1, hu2⟩ : u = x ∧ r = v5 := ⟨hu.1, by rw [hu.2, zraw_M hMj (by decide) (zhalf_lt hitem (by decide)), ev5]⟩
          subst u
          subst r
          refine z_iload_n 29 C dX6_isFrequent_29 rfl 5 rfl ?_
          refine z_icmp_lt 30 C 37 dX6_isFrequent_30 (by decide) (fun h30 => ?_) (fun h30 => ?_)
          · have hno : ¬ zfreq c d item least := fun z => Int32.not_le.mpr h30 (by rw [ev5]; exact z 4 (by decide))
            refine z_iconst (v := nI 0) 37 C dX6_isFrequent_37 rfl ?_
            refine z_istore (lv' := [(4, .int (nI 0)), (5, .int (nI 4)), (0, .ref (zad g 2)), (1, .int (nI j)), (2, .int (nI item)), (3, .int least)]) 38 C dX6_isFrequent_38 (by decide) rfl ?_
            refine z_iinc (v' := nI 5) (lv' := [(5, .int (nI 5)), (4, .int (nI 0)), (0, .ref (zad g 2)), (1, .int (nI j)), (2, .int (nI item)), (3, .int least)]) 40 C dX6_isFrequent_40 (q := 1) rfl rfl (by decide) rfl ?_
            refine z_goto 43 C 6 dX6_isFrequent_43 (by decide) ?_
            refine z_iload 6 C dX6_isFrequent_6 0 rfl ?_
            refine z_bipush (v := nI 7) 8 C dX6_isFrequent_8 rfl ?_
            refine z_icmp_geN 10 C 46 dX6_isFrequent_10 (by decide) (by omega) (by omega) (fun h10 => absurd h10 (by omega)) (fun h10 => ?_)
            refine z_iload 13 C dX6_isFrequent_13 1 rfl ?_
            refine z_if_eqN 15 C 37 dX6_isFrequent_15 (by decide) (by omega) (fun h15 => ?_) (fun h15 => absurd h15 (by omega))
            refine z_iconst (v := nI 0) 37 C dX6_isFrequent_37 rfl ?_
            refine z_istore (lv' := [(4, .int (nI 0)), (5, .int (nI 5)), (0, .ref (zad g 2)), (1, .int (nI j)), (2, .int (nI item)), (3, .int least)]) 38 C dX6_isFrequent_38 (by decide) rfl ?_
            refine z_iinc (v' := nI 6) (lv' := [(5, .int (nI 6)), (4, .int (nI 0)), (0, .ref (zad g 2)), (1, .int (nI j)), (2, .int (nI item)), (3, .int least)]) 40 C dX6_isFrequent_40 (q := 1) rfl rfl (by decide) rfl ?_
            refine z_goto 43 C 6 dX6_isFrequent_43 (by decide) ?_
            refine z_iload 6 C dX6_isFrequent_6 0 rfl ?_
            refine z_bipush (v := nI 7) 8 C dX6_isFrequent_8 rfl ?_
            refine z_icmp_geN 10 C 46 dX6_isFrequent_10 (by decide) (by omega) (by omega) (fun h10 => absurd h10 (by omega)) (fun h10 => ?_)
            refine z_iload 13 C dX6_isFrequent_13 1 rfl ?_
            refine z_if_eqN 15 C 37 dX6_isFrequent_15 (by decide) (by omega) (fun h15 => ?_) (fun h15 => absurd h15 (by omega))
            refine z_iconst (v := nI 0) 37 C dX6_isFrequent_37 rfl ?_
            refine z_istore (lv' := [(4, .int (nI 0)), (5, .int (nI 6)), (0, .ref (zad g 2)), (1, .int (nI j)), (2, .int (nI item)), (3, .int least)]) 38 C dX6_isFrequent_38 (by decide) rfl ?_
            refine z_iinc (v' := nI 7) (lv' := [(5, .int (nI 7)), (4, .int (nI 0)), (0, .ref (zad g 2)), (1, .int (nI j)), (2, .int (nI item)), (3, .int least)]) 40 C dX6_isFrequent_40 (q := 1) rfl rfl (by decide) rfl ?_
            refine z_goto 43 C 6 dX6_isFrequent_43 (by decide) ?_
            refine z_iload 6 C dX6_isFrequent_6 0 rfl ?_
            refine z_bipush (v := nI 7) 8 C dX6_isFrequent_8 rfl ?_
            refine z_icmp_geN 10 C 46 dX6_isFrequent_10 (by decide) (by omega) (by omega) (fun h10 => ?_) (fun h10 => absurd h10 (by omega))
            refine z_iload 46 C dX6_isFrequent_46 1 rfl ?_
            exact z_zret 48 C hr rfl ⟨rfl, Or.inr ⟨rfl, hno⟩⟩ dX6_isFrequent_48
          · have hz4 := Int32.not_lt.mp h30
            rw [ev5] at hz4
            refine z_iconst (v := nI 1) 33 C dX6_isFrequent_33 rfl ?_
            refine z_goto 34 C 38 dX6_isFrequent_34 (by decide) ?_
            refine z_istore (lv' := [(4, .int (nI 1)), (5, .int (nI 4)), (0, .ref (zad g 2)), (1, .int (nI j)), (2, .int (nI item)), (3, .int least)]) 38 C dX6_isFrequent_38 (by decide) rfl ?_
            refine z_iinc (v' := nI 5) (lv' := [(5, .int (nI 5)), (4, .int (nI 1)), (0, .ref (zad g 2)), (1, .int (nI j)), (2, .int (nI item)), (3, .int least)]) 40 C dX6_isFrequent_40 (q := 1) rfl rfl (by decide) rfl ?_
            refine z_goto 43 C 6 dX6_isFrequent_43 (by decide) ?_
            refine z_iload 6 C dX6_isFrequent_6 0 rfl ?_
            refine z_bipush (v := nI 7) 8 C dX6_isFrequent_8 rfl ?_
            refine z_icmp_geN 10 C 46 dX6_isFrequent_10 (by decide) (by omega) (by omega) (fun h10 => absurd h10 (by omega)) (fun h10 => ?_)
            refine z_iload 13 C dX6_isFrequent_13 1 rfl ?_
            refine z_if_eqN 15 C 37 dX6_isFrequent_15 (by decide) (by omega) (fun h15 => absurd h15 (by omega)) (fun h15 => ?_)
            refine z_aload_n 18 C dX6_isFrequent_18 rfl 2 rfl ?_
            refine z_iload_n 19 C dX6_isFrequent_19 rfl 3 rfl ?_
            refine z_iload 20 C dX6_isFrequent_20 0 rfl ?_
            refine z_iload_n 22 C dX6_isFrequent_22 rfl 4 rfl ?_
            refine z_iload 23 C dX6_isFrequent_23 0 rfl ?_
            refine z_ishr (v := nI (item / 2 ^ 5)) 25 C dX6_isFrequent_25 (zn_shr item 5 (by omega) (by omega)) ?_
            refine z_callVi 26 C (As := [.int (nI j), .int (nI 5), .int (nI (item / 2 ^ 5))]) 3 kO_model rfl (c_X6_estimateOf l hg x j 5 (item / 2 ^ 5) hj (by decide) (zhalf_lt hitem (by decide))) (cwV 3 C.1.2.2.2.2 gX6_isFrequent_X6_estimateOf rfl rfl rfl (by decide +kernel) ⟨Nat.le_of_ble_eq_true rfl, Nat.le_of_ble_eq_true rfl⟩) rfl rfl (Nat.le_of_ble_eq_true rfl) ⟨Nat.le_of_ble_eq_true rfl, Nat.le_of_ble_eq_true rfl⟩ dX6_isFrequent_26 (fun r u hu => ?_)
            obtain ⟨v6, ev6⟩ : ∃ y : Int32, y = zest c d 5 (item / 2 ^ 5) := ⟨_, rfl⟩
            obtain ⟨hu1, hu2⟩ : u = x ∧ r = v6 := ⟨hu.1, by rw [hu.2, zraw_M hMj (by decide) (zhalf_lt hitem (by decide)), ev6]⟩
            subst u
            subst r
            refine z_iload_n 29 C dX6_isFrequent_29 rfl 5 rfl ?_
            refine z_icmp_lt 30 C 37 dX6_isFrequent_30 (by decide) (fun h30 => ?_) (fun h30 => ?_)
            · have hno : ¬ zfreq c d item least := fun z => Int32.not_le.mpr h30 (by rw [ev6]; exact z 5 (by decide))
              refine z_iconst (v := nI 0) 37 C dX6_isFrequent_37 rfl ?_
              refine z_istore (lv' := [(4, .int (nI 0)), (5, .int (nI 5)), (0, .ref (zad g 2)), (1, .int (nI j)), (2, .int (nI item)), (3, .int least)]) 38 C dX6_isFrequent_38 (by decide) rfl ?_
              refine z_iinc (v' := nI 6) (lv' := [(5, .int (nI 6)), (4, .int (nI 0)), (0, .ref (zad g 2)), (1, .int (nI j)), (2, .int (nI item)), (3, .int least)]) 40 C dX6_isFrequent_40 (q := 1) rfl rfl (by decide) rfl ?_
              refine z_goto 43 C 6 dX6_isFrequent_43 (by decide) ?_
              refine z_iload 6 C dX6_isFrequent_6 0 rfl ?_
              refine z_bipush (v := nI 7) 8 C dX6_isFrequent_8 rfl ?_
              refine z_icmp_geN 10 C 46 dX6_isFrequent_10 (by decide) (by omega) (by omega) (fun h10 => absurd h10 (by omega)) (fun h10 => ?_)
              refine z_iload 13 C dX6_isFrequent_13 1 rfl ?_
              refine z_if_eqN 15 C 37 dX6_isFrequent_15 (by decide) (by omega) (fun h15 => ?_) (fun h15 => absurd h15 (by omega))
              refine z_iconst (v := nI 0) 37 C dX6_isFrequent_37 rfl ?_
              refine z_istore (lv' := [(4, .int (nI 0)), (5, .int (nI 6)), (0, .ref (zad g 2)), (1, .int (nI j)), (2, .int (nI item)), (3, .int least)]) 38 C dX6_isFrequent_38 (by decide) rfl ?_
              refine z_iinc (v' := nI 7) (lv' := [(5, .int (nI 7)), (4, .int (nI 0)), (0, .ref (zad g 2)), (1, .int (nI j)), (2, .int (nI item)), (3, .int least)]) 40 C dX6_isFrequent_40 (q := 1) rfl rfl (by decide) rfl ?_
              refine z_goto 43 C 6 dX6_isFrequent_43 (by decide) ?_
              refine z_iload 6 C dX6_isFrequent_6 0 rfl ?_
              refine z_bipush (v := nI 7) 8 C dX6_isFrequent_8 rfl ?_
              refine z_icmp_geN 10 C 46 dX6_isFrequent_10 (by decide) (by omega) (by omega) (fun h10 => ?_) (fun h10 => absurd h10 (by omega))
              refine z_iload 46 C dX6_isFrequent_46 1 rfl ?_
              exact z_zret 48 C hr rfl ⟨rfl, Or.inr ⟨rfl, hno⟩⟩ dX6_isFrequent_48
            · have hz5 := Int32.not_lt.mp h30
              rw [ev6] at hz5
              refine z_iconst (v := nI 1) 33 C dX6_isFrequent_33 rfl ?_
              refine z_goto 34 C 38 dX6_isFrequent_34 (by decide) ?_
              refine z_istore (lv' := [(4, .int (nI 1)), (5, .int (nI 5)), (0, .ref (zad g 2)), (1, .int (nI j)), (2, .int (nI item)), (3, .int least)]) 38 C dX6_isFrequent_38 (by decide) rfl ?_
              refine z_iinc (v' := nI 6) (lv' := [(5, .int (nI 6)), (4, .int (nI 1)), (0, .ref (zad g 2)), (1, .int (nI j)), (2, .int (nI item)), (3, .int least)]) 40 C dX6_isFrequent_40 (q := 1) rfl rfl (by decide) rfl ?_
              refine z_goto 43 C 6 dX6_isFrequent_43 (by decide) ?_
              refine z_iload 6 C dX6_isFrequent_6 0 rfl ?_
              refine z_bipush (v := nI 7) 8 C dX6_isFrequent_8 rfl ?_
              refine z_icmp_geN 10 C 46 dX6_isFrequent_10 (by decide) (by omega) (by omega) (fun h10 => absurd h10 (by omega)) (fun h10 => ?_)
              refine z_iload 13 C dX6_isFrequent_13 1 rfl ?_
              refine z_if_eqN 15 C 37 dX6_isFrequent_15 (by decide) (by omega) (fun h15 => absurd h15 (by omega)) (fun h15 => ?_)
              refine z_aload_n 18 C dX6_isFrequent_18 rfl 2 rfl ?_
              refine z_iload_n 19 C dX6_isFrequent_19 rfl 3 rfl ?_
              refine z_iload 20 C dX6_isFrequent_20 0 rfl ?_
              refine z_iload_n 22 C dX6_isFrequent_22 rfl 4 rfl ?_
              refine z_iload 23 C dX6_isFrequent_23 0 rfl ?_
              refine z_ishr (v := nI (item / 2 ^ 6)) 25 C dX6_isFrequent_25 (zn_shr item 6 (by omega) (by omega)) ?_
              refine z_callVi 26 C (As := [.int (nI j), .int (nI 6), .int (nI (item / 2 ^ 6))]) 3 kO_model rfl (c_X6_estimateOf l hg x j 6 (item / 2 ^ 6) hj (by decide) (zhalf_lt hitem (by decide))) (cwV 3 C.1.2.2.2.2 gX6_isFrequent_X6_estimateOf rfl rfl rfl (by decide +kernel) ⟨Nat.le_of_ble_eq_true rfl, Nat.le_of_ble_eq_true rfl⟩) rfl rfl (Nat.le_of_ble_eq_true rfl) ⟨Nat.le_of_ble_eq_true rfl, Nat.le_of_ble_eq_true rfl⟩ dX6_isFrequent_26 (fun r u hu => ?_)
              obtain ⟨v7, ev7⟩ : ∃ y : Int32, y = zest c d 6 (item / 2 ^ 6) := ⟨_, rfl⟩
              obtain ⟨hu1, hu2⟩ : u = x ∧ r = v7 := ⟨hu.1, by rw [hu.2, zraw_M hMj (by decide) (zhalf_lt hitem (by decide)), ev7]⟩
              subst u
              subst r
              refine z_iload_n 29 C dX6_isFrequent_29 rfl 5 rfl ?_
              refine z_icmp_lt 30 C 37 dX6_isFrequent_30 (by decide) (fun h30 => ?_) (fun h30 => ?_)
              · have hno : ¬ zfreq c d item least := fun z => Int32.not_le.mpr h30 (by rw [ev7]; exact z 6 (by decide))
                refine z_iconst (v := nI 0) 37 C dX6_isFrequent_37 rfl ?_
                refine z_istore (lv' := [(4, .int (nI 0)), (5, .int (nI 6)), (0, .ref (zad g 2)), (1, .int (nI j)), (2, .int (nI item)), (3, .int least)]) 38 C dX6_isFrequent_38 (by decide) rfl ?_
                refine z_iinc (v' := nI 7) (lv' := [(5, .int (nI 7)), (4, .int (nI 0)), (0, .ref (zad g 2)), (1, .int (nI j)), (2, .int (nI item)), (3, .int least)]) 40 C dX6_isFrequent_40 (q := 1) rfl rfl (by decide) rfl ?_
                refine z_goto 43 C 6 dX6_isFrequent_43 (by decide) ?_
                refine z_iload 6 C dX6_isFrequent_6 0 rfl ?_
                refine z_bipush (v := nI 7) 8 C dX6_isFrequent_8 rfl ?_
                refine z_icmp_geN 10 C 46 dX6_isFrequent_10 (by decide) (by omega) (by omega) (fun h10 => ?_) (fun h10 => absurd h10 (by omega))
                refine z_iload 46 C dX6_isFrequent_46 1 rfl ?_
                exact z_zret 48 C hr rfl ⟨rfl, Or.inr ⟨rfl, hno⟩⟩ dX6_isFrequent_48
              · have hz6 := Int32.not_lt.mp h30
                rw [ev7] at hz6
                refine z_iconst (v := nI 1) 33 C dX6_isFrequent_33 rfl ?_
                refine z_goto 34 C 38 dX6_isFrequent_34 (by decide) ?_
                refine z_istore (lv' := [(4, .int (nI 1)), (5, .int (nI 6)), (0, .ref (zad g 2)), (1, .int (nI j)), (2, .int (nI item)), (3, .int least)]) 38 C dX6_isFrequent_38 (by decide) rfl ?_
                refine z_iinc (v' := nI 7) (lv' := [(5, .int (nI 7)), (4, .int (nI 1)), (0, .ref (zad g 2)), (1, .int (nI j)), (2, .int (nI item)), (3, .int least)]) 40 C dX6_isFrequent_40 (q := 1) rfl rfl (by decide) rfl ?_
                refine z_goto 43 C 6 dX6_isFrequent_43 (by decide) ?_
                refine z_iload 6 C dX6_isFrequent_6 0 rfl ?_
                refine z_bipush (v := nI 7) 8 C dX6_isFrequent_8 rfl ?_
                refine z_icmp_geN 10 C 46 dX6_isFrequent_10 (by decide) (by omega) (by omega) (fun h10 => ?_) (fun h10 => absurd h10 (by omega))
                refine z_iload 46 C dX6_isFrequent_46 1 rfl ?_
                exact z_zret 48 C hr rfl ⟨rfl, Or.inl ⟨rfl, zfreq_of hz0 hz1 hz2 hz3 hz4 hz5 hz6⟩⟩ dX6_isFrequent_48
