/-! ===== all streams ===== -/
abbrev zS : Type := (Nat → Nat → Int32) × (Nat → Nat → Int32) × (Nat → zCL) × (Nat → Int32)
def zAll (x : zT) (S : zS) : Prop := ∀ j, j < 4 → zSR x j (S.1 j) (S.2.1 j) (S.2.2.1 j) (S.2.2.2 j)
def ztot (c : Nat → Int32) : Int32 := zsum c 0 64
theorem zSR_tot {x : zT} {j : Nat} {c d : Nat → Int32} {L : zCL} {aw : Int32} (h : zSR x j c d L aw) : x.1 (zp j 2) 1 = ztot c := zTree_half h.1 6 0 (by decide) (by decide)
theorem zSR_cnt {x : zT} {j : Nat} {c d : Nat → Int32} {L : zCL} {aw : Int32} (h : zSR x j c d L aw) {i : Nat} (hi : i < 64) : x.1 (zp j 2) (64 / 2 ^ 0 + i) = c i := h.1.1 i hi
theorem zSR_rng {x : zT} {j : Nat} {c d : Nat → Int32} {L : zCL} {aw : Int32} (h : zSR x j c d L aw) {a b : Nat} (hab : a ≤ b) (hb : b < 64) : zsum (fun k => x.1 (zp j 2) (64 + k)) a (b + 1 - a) = zsum c a (b + 1 - a) := zsum_congr (fun k h1 h2 => h.1.1 k (by omega))
theorem zsumL_sh (f : Nat → Int64) (m : Nat) : ∀ n : Nat, zsumL f m n = zsumL (fun k => f (m + k)) 0 n
  | 0 => rfl
  | n + 1 => by
    show zsumL f m n + f (m + n) = zsumL (fun k => f (m + k)) 0 n + f (m + (0 + n))
    rw [zsumL_sh f m n, Nat.zero_add]
def zprod (c c2 : Nat → Int32) : Int64 := zsumL (fun k => (c k).toInt64 * (c2 k).toInt64) 0 64
theorem zSR_prod {x : zT} {j o : Nat} {c d c2 d2 : Nat → Int32} {L K : zCL} {aw ow : Int32} (h : zSR x j c d L aw) (h2 : zSR x o c2 d2 K ow) : zsumL (fun k => (x.1 (zp j 2) k).toInt64 * (x.1 (zp o 2) k).toInt64) 64 64 = zprod c c2 := by
  rw [zsumL_sh]
  refine zsumL_congr (fun k _ hk => ?_)
  show (x.1 (zp j 2) (64 + k)).toInt64 * (x.1 (zp o 2) (64 + k)).toInt64 = _
  rw [h.1.1 k (by omega), h2.1.1 k (by omega)]
def zsest (c : Nat → Int32) (i : Nat) (m : Int64) : Prop := zMid (fun row => (zsg row i * zscell c row (zscol row i)).toInt64) m
def zsprod (c c2 : Nat → Int32) (m : Int64) : Prop := zMid (fun row => zsumL (fun col => (zscell c row col).toInt64 * (zscell c2 row col).toInt64) 0 8) m
theorem zSR_sc {x : zT} {j : Nat} {c d : Nat → Int32} {L : zCL} {aw : Int32} (h : zSR x j c d L aw) {row col : Nat} (hr : row < 5) (hc : col < 8) : x.1 (zp j 11) (row * 8 + col) = zscell c row col := by
  rw [h.2.2.2.2.1 _ (by omega), show (row * 8 + col) / 8 = row by omega, show (row * 8 + col) % 8 = col by omega]
theorem zSR_sest {x : zT} {j : Nat} {c d : Nat → Int32} {L : zCL} {aw : Int32} (h : zSR x j c d L aw) {i : Nat} {m : Int64} (hm : zMid (fun row => (zsg row i * x.1 (zp j 11) (zsp row i)).toInt64) m) : zsest c i m := by
  refine zMid_congr (fun row hr => ?_) hm
  show (zsg row i * x.1 (zp j 11) (zsp row i)).toInt64 = (zsg row i * zscell c row (zscol row i)).toInt64
  rw [show x.1 (zp j 11) (zsp row i) = _ from zSR_sc h hr (zscol_lt row i)]
theorem zSR_sprod {x : zT} {j o : Nat} {c d c2 d2 : Nat → Int32} {L K : zCL} {aw ow : Int32} (h : zSR x j c d L aw) (h2 : zSR x o c2 d2 K ow) {m : Int64} (hm : zMid (fun row => zsumL (fun c => (x.1 (zp j 11) (row * 8 + c)).toInt64 * (x.1 (zp o 11) (row * 8 + c)).toInt64) 0 8) m) : zsprod c c2 m := by
  refine zMid_congr (fun row hr => ?_) hm
  refine zsumL_congr (fun k _ hk => ?_)
  rw [zSR_sc h hr (by omega), zSR_sc h2 hr (by omega)]
/-! the halves that a range is made of -/
def zfit (lev a b : Nat) : Bool := decide (a % 2 ^ lev = 0) && decide (a + 2 ^ lev ≤ b + 1)
def zlevN : Nat → Nat → Nat → Nat
  | 0, _, _ => 0
  | n + 1, a, b => if zfit (n + 1) a b then n + 1 else zlevN n a b
/-- the greatest level with a half that begins with a and ends up to b -/
def zlev (a b : Nat) : Nat := zlevN 6 a b
theorem zlevN_le : ∀ n a b : Nat, zlevN n a b ≤ n
  | 0, _, _ => Nat.le_refl _
  | n + 1, a, b => by
    have := zlevN_le n a b
    show (if zfit (n + 1) a b then n + 1 else zlevN n a b) ≤ n + 1
    split <;> omega
theorem zfit_down {n a b : Nat} (h : zfit (n + 1) a b = true) : zfit n a b = true := by
  unfold zfit at h ⊢
  simp only [Bool.and_eq_true, decide_eq_true_eq] at h ⊢
  have e : 2 ^ (n + 1) = 2 ^ n * 2 := Nat.pow_succ 2 n
  refine ⟨Nat.mod_eq_zero_of_dvd (Nat.dvd_trans ⟨2, e⟩ (Nat.dvd_of_mod_eq_zero h.1)), ?_⟩
  have := h.2
  omega
theorem zfit_0 {a b : Nat} (h : a ≤ b) : zfit 0 a b = true := by
  unfold zfit
  simp only [Bool.and_eq_true, decide_eq_true_eq]
  exact ⟨Nat.mod_one a, by show a + 1 ≤ b + 1; omega⟩
theorem zlevN_fit : ∀ {n a b : Nat}, a ≤ b → zfit (zlevN n a b) a b = true
  | 0, a, b, h => zfit_0 h
  | n + 1, a, b, h => by
    show zfit (if zfit (n + 1) a b then n + 1 else zlevN n a b) a b = true
    by_cases c : zfit (n + 1) a b = true
    · rw [if_pos c]; exact c
    · rw [if_neg c]; exact zlevN_fit h
theorem zlevN_max : ∀ {n k a b : Nat}, k ≤ n → zlevN n a b < k → zfit k a b = false
  | 0, k, a, b, h, h2 => absurd h2 (by omega)
  | n + 1, k, a, b, h, h2 => by
    by_cases c : zfit (n + 1) a b = true
    · have h3 : (if zfit (n + 1) a b then n + 1 else zlevN n a b) < k := h2
      rw [if_pos c] at h3
      exact absurd h3 (by omega)
    · have h3 : (if zfit (n + 1) a b then n + 1 else zlevN n a b) < k := h2
      rw [if_neg c] at h3
      by_cases e : k = n + 1
      · subst e
        exact Bool.eq_false_iff.mpr c
      · exact zlevN_max (by omega) h3
theorem zlev_eq {a b k : Nat} (h6 : k ≤ 6) (h : zfit k a b = true) (h2 : k = 6 ∨ zfit (k + 1) a b = false) (hab : a ≤ b) : zlev a b = k := by
  rcases Nat.lt_trichotomy (zlev a b) k with c | c | c
  · have := zlevN_max (n := 6) h6 c
    rw [this] at h
    cases h
  · exact c
  · have hle := zlevN_le 6 a b
    have down : ∀ m q : Nat, zfit (q + m) a b = true → zfit q a b = true := by
      intro m
      induction m with
      | zero => exact fun q z => z
      | succ m ih => exact fun q z => ih q (zfit_down z)
    have h3 : zfit (k + 1) a b = true := down (zlev a b - (k + 1)) (k + 1) (by rw [show k + 1 + (zlev a b - (k + 1)) = zlev a b by omega]; exact zlevN_fit hab)
    rcases h2 with e | e
    · exact absurd (show zlev a b ≤ 6 from hle) (by omega)
    · rw [e] at h3
      cases h3
theorem zlev_le (a b : Nat) : zlev a b ≤ 6 := zlevN_le 6 a b
theorem zlev_pos (a b : Nat) : 1 ≤ 2 ^ zlev a b := Nat.one_le_two_pow
theorem zlev_fit {a b : Nat} (h : a ≤ b) : a % 2 ^ zlev a b = 0 ∧ a + 2 ^ zlev a b ≤ b + 1 := by
  have := zlevN_fit (n := 6) h
  unfold zfit at this
  simp only [Bool.and_eq_true, decide_eq_true_eq] at this
  exact this
def zparts : Nat → Nat → Nat → Nat
  | 0, _, _ => 0
  | n + 1, a, b => if a ≤ b then zparts n (a + 2 ^ zlev a b) b + 1 else 0
def zestR (c d : Nat → Int32) : Nat → Nat → Nat → Int32
  | 0, _, _ => 0
  | n + 1, a, b => if a ≤ b then zest c d (zlev a b) (a / 2 ^ zlev a b) + zestR c d n (a + 2 ^ zlev a b) b else 0
theorem zparts_s {n a b : Nat} (h : a ≤ b) : zparts (n + 1) a b = zparts n (a + 2 ^ zlev a b) b + 1 := if_pos h
theorem zparts_e {n a b : Nat} (h : b < a) : zparts n a b = 0 := by
  cases n with
  | zero => rfl
  | succ n => exact if_neg (by omega)
theorem zestR_s {c d : Nat → Int32} {n a b : Nat} (h : a ≤ b) : zestR c d (n + 1) a b = zest c d (zlev a b) (a / 2 ^ zlev a b) + zestR c d n (a + 2 ^ zlev a b) b := if_pos h
theorem zestR_e {c d : Nat → Int32} {n a b : Nat} (h : b < a) : zestR c d n a b = 0 := by
  cases n with
  | zero => rfl
  | succ n => exact if_neg (by omega)
theorem zparts_le : ∀ n a b : Nat, zparts n a b ≤ n
  | 0, _, _ => Nat.le_refl _
  | n + 1, a, b => by
    have := zparts_le n (a + 2 ^ zlev a b) b
    show (if a ≤ b then zparts n (a + 2 ^ zlev a b) b + 1 else 0) ≤ n + 1
    split <;> omega
theorem zparts_fuel : ∀ {n m a b : Nat}, b < a + n → n ≤ m → zparts n a b = zparts m a b
  | 0, m, a, b, h, _ => (zparts_e (by omega)).symm
  | n + 1, m, a, b, h, hm => by
    by_cases c : a ≤ b
    · have hp := zlev_pos a b
      rw [zparts_s c, show m = (m - 1) + 1 by omega, zparts_s c, zparts_fuel (n := n) (m := m - 1) (by omega) (by omega)]
    · rw [zparts_e (by omega), zparts_e (by omega)]
theorem zestR_fuel {c d : Nat → Int32} : ∀ {n m a b : Nat}, b < a + n → n ≤ m → zestR c d n a b = zestR c d m a b
  | 0, m, a, b, h, _ => (zestR_e (by omega)).symm
  | n + 1, m, a, b, h, hm => by
    by_cases e : a ≤ b
    · have hp := zlev_pos a b
      rw [zestR_s e, show m = (m - 1) + 1 by omega, zestR_s e, zestR_fuel (n := n) (m := m - 1) (by omega) (by omega)]
    · rw [zestR_e (by omega), zestR_e (by omega)]
/-! frequent items, ranks -/
noncomputable def zfrb (c d : Nat → Int32) (least : Int32) (i : Nat) : Nat := @ite Nat (zfreq c d i least) (Classical.propDecidable _) 1 0
noncomputable def zfrn (c d : Nat → Int32) (least : Int32) : Nat → Nat
  | 0 => 0
  | n + 1 => zfrn c d least n + zfrb c d least n
theorem zfrb_y {c d : Nat → Int32} {least : Int32} {i : Nat} (h : zfreq c d i least) : zfrb c d least i = 1 := if_pos h
theorem zfrb_n {c d : Nat → Int32} {least : Int32} {i : Nat} (h : ¬ zfreq c d i least) : zfrb c d least i = 0 := if_neg h
theorem zfrn_le (c d : Nat → Int32) (least : Int32) : ∀ n : Nat, zfrn c d least n ≤ n
  | 0 => Nat.le_refl _
  | n + 1 => by
    have := zfrn_le c d least n
    show zfrn c d least n + zfrb c d least n ≤ n + 1
    by_cases h : zfreq c d n least
    · rw [zfrb_y h]; omega
    · rw [zfrb_n h]; omega
/-- the item i is the frequent one at that place -/
def zfrat (c d : Nat → Int32) (least : Int32) (place : Int32) (i : Nat) : Prop := i < 64 ∧ zfreq c d i least ∧ place = nI (zfrn c d least i)
def zrank (c d : Nat → Int32) : Nat → Int32 → Nat → Nat
  | 0, _, h => h
  | n + 1, left, h => if left ≤ zest c d n (2 * h) then zrank c d n left (2 * h) else zrank c d n (left - zest c d n (2 * h)) (2 * h + 1)
set_option maxHeartbeats 4000000 in
set_option maxRecDepth 100000 in
/-- X5_requirePlace -/
theorem c_X5_requirePlace (l : Launch) {g : zG} (hg : zOk g) (x : zT) (p n : Nat) (hp : p < n) (hn : n < 1000) : Met l yX5_requirePlace wsX5_requirePlace ({ frames := 0, cells := 0, slots := 0, locals := 0 }) (va_Pc [.int (nI p), .int (nI n)] (zPre g x)) (va_Qv (fun u : zT => u = x) (zB g) (zA g)) 0 0 (zA g) := by
  refine z_met (cc := cX5_requirePlace) (nL := 2) (ret := none) hg (by decide) rfl (Nat.le_of_ble_eq_true rfl) ?_
  intro p_ e_ s_ m_ args_ below_ meth_ c_ C hr
  show Z p_ l e_ _ s_ m_ args_ below_ meth_ c_ g 2 0 0 _ x 0 [(0, .int (nI p)), (1, .int (nI n))] []
  refine z_iload_n 0 C dX5_requirePlace_0 rfl 0 rfl ?_
  refine z_if_ltN 1 C 9 dX5_requirePlace_1 (by decide) (by omega) (fun h1 => absurd h1 (by omega)) (fun h1 => ?_)
  refine z_iload_n 4 C dX5_requirePlace_4 rfl 0 rfl ?_
  refine z_iload_n 5 C dX5_requirePlace_5 rfl 1 rfl ?_
  refine z_icmp_ltN 6 C 19 dX5_requirePlace_6 (by decide) (by omega) (by omega) (fun h6 => ?_) (fun h6 => absurd h6 (by omega))
  exact z_vret 19 C hr rfl dX5_requirePlace_19
set_option maxHeartbeats 4000000 in
set_option maxRecDepth 100000 in
/-- X5_requireWithin -/
theorem c_X5_requireWithin (l : Launch) {g : zG} (hg : zOk g) (x : zT) (p a b : Int32) (hx1 : ¬ p < a) (hx2 : p ≤ b) : Met l yX5_requireWithin wsX5_requireWithin ({ frames := 0, cells := 0, slots := 0, locals := 0 }) (va_Pc [.int p, .int a, .int b] (zPre g x)) (va_Qv (fun u : zT => u = x) (zB g) (zA g)) 0 0 (zA g) := by
  refine z_met (cc := cX5_requireWithin) (nL := 3) (ret := none) hg (by decide) rfl (Nat.le_of_ble_eq_true rfl) ?_
  intro p_ e_ s_ m_ args_ below_ meth_ c_ C hr
  show Z p_ l e_ _ s_ m_ args_ below_ meth_ c_ g 3 0 0 _ x 0 [(0, .int p), (1, .int a), (2, .int b)] []
  refine z_iload_n 0 C dX5_requireWithin_0 rfl 0 rfl ?_
  refine z_iload_n 1 C dX5_requireWithin_1 rfl 1 rfl ?_
  refine z_icmp_lt 2 C 10 dX5_requireWithin_2 (by decide) (fun h2 => absurd h2 hx1) (fun h2 => ?_)
  refine z_iload_n 5 C dX5_requireWithin_5 rfl 0 rfl ?_
  refine z_iload_n 6 C dX5_requireWithin_6 rfl 2 rfl ?_
  refine z_icmp_le 7 C 20 dX5_requireWithin_7 (by decide) (fun h7 => ?_) (fun h7 => absurd hx2 h7)
  exact z_vret 20 C hr rfl dX5_requireWithin_20
set_option maxHeartbeats 4000000 in
set_option maxRecDepth 100000 in
/-- X5_requireRoom -/
theorem c_X5_requireRoom (l : Launch) {g : zG} (hg : zOk g) (x : zT) (p : Int32) (hx1 : p ≤ nI 1000000) : Met l yX5_requireRoom wsX5_requireRoom ({ frames := 0, cells := 0, slots := 0, locals := 0 }) (va_Pc [.int p] (zPre g x)) (va_Qv (fun u : zT => u = x) (zB g) (zA g)) 0 0 (zA g) := by
  refine z_met (cc := cX5_requireRoom) (nL := 1) (ret := none) hg (by decide) rfl (Nat.le_of_ble_eq_true rfl) ?_
  intro p_ e_ s_ m_ args_ below_ meth_ c_ C hr
  show Z p_ l e_ _ s_ m_ args_ below_ meth_ c_ g 1 0 0 _ x 0 [(0, .int p)] []
  have hw_k87 := C.1.2.2.2.2 (.constant RX5 87 1000000) (by decide +kernel)
  refine z_iload_n 0 C dX5_requireRoom_0 rfl 0 rfl ?_
  refine z_ldc 1 C (v := nI 1000000) hw_k87 dX5_requireRoom_1 ?_
  refine z_icmp_le 3 C 16 dX5_requireRoom_3 (by decide) (fun h3 => ?_) (fun h3 => absurd hx1 h3)
  exact z_vret 16 C hr rfl dX5_requireRoom_16
set_option maxHeartbeats 4000000 in
set_option maxRecDepth 100000 in
/-- X5_requireRange -/
theorem c_X5_requireRange (l : Launch) {g : zG} (hg : zOk g) (x : zT) (a b : Nat) (hab : a ≤ b) (hb : b < 64) : Met l yX5_requireRange wsX5_requireRange ({ frames := 1, cells := 0, slots := 0, locals := 21 }) (va_Pc [.int (nI a), .int (nI b)] (zPre g x)) (va_Qv (fun u : zT => u = x) (zB g) (zA g)) 0 0 (zA g) := by
  refine z_met (cc := cX5_requireRange) (nL := 2) (ret := none) hg (by decide) rfl (Nat.le_of_ble_eq_true rfl) ?_
  intro p_ e_ s_ m_ args_ below_ meth_ c_ C hr
  show Z p_ l e_ _ s_ m_ args_ below_ meth_ c_ g 2 0 0 _ x 0 [(0, .int (nI a)), (1, .int (nI b))] []
  refine z_iload_n 0 C dX5_requireRange_0 rfl 0 rfl ?_
  refine z_bipush (v := nI 64) 1 C dX5_requireRange_1 rfl ?_
  refine z_callSv 3 C (As := [.int (nI a), .int (nI 64)]) 2 (c_X5_requirePlace l hg x a 64 (by omega) (by omega)) (va_cwS 2 C.1.2.2.2.2 gX5_requireRange_X5_requirePlace rfl rfl rfl (by decide +kernel) ⟨Nat.le_of_ble_eq_true rfl, Nat.le_of_ble_eq_true rfl⟩) rfl rfl (Nat.le_of_ble_eq_true rfl) ⟨Nat.le_of_ble_eq_true rfl, Nat.le_of_ble_eq_true rfl⟩ dX5_requireRange_3 (fun u hu => ?_)
  subst u
  refine z_iload_n 6 C dX5_requireRange_6 rfl 1 rfl ?_
  refine z_bipush (v := nI 64) 7 C dX5_requireRange_7 rfl ?_
  refine z_callSv 9 C (As := [.int (nI b), .int (nI 64)]) 2 (c_X5_requirePlace l hg x b 64 (by omega) (by omega)) (va_cwS 2 C.1.2.2.2.2 gX5_requireRange_X5_requirePlace rfl rfl rfl (by decide +kernel) ⟨Nat.le_of_ble_eq_true rfl, Nat.le_of_ble_eq_true rfl⟩) rfl rfl (Nat.le_of_ble_eq_true rfl) ⟨Nat.le_of_ble_eq_true rfl, Nat.le_of_ble_eq_true rfl⟩ dX5_requireRange_9 (fun u hu => ?_)
  subst u
  refine z_iload_n 12 C dX5_requireRange_12 rfl 1 rfl ?_
  refine z_iload_n 13 C dX5_requireRange_13 rfl 0 rfl ?_
  refine z_icmp_geN 14 C 27 dX5_requireRange_14 (by decide) (by omega) (by omega) (fun h14 => ?_) (fun h14 => absurd h14 (by omega))
  exact z_vret 27 C hr rfl dX5_requireRange_27
set_option maxHeartbeats 4000000 in
set_option maxRecDepth 100000 in
/-- X5_total -/
theorem c_X5_total (l : Launch) {g : zG} (hg : zOk g) (x : zT) (S : zS) (hA : zAll x S) (j : Nat) (hj : j < 4) : Met l yX5_total wsX5_total ({ frames := 1, cells := 0, slots := 0, locals := 21 }) (va_Pc [.ref (zad g 0), .int (nI j)] (zPre g x)) (va_Qi (fun (r : Int32) (u : zT) => u = x ∧ r = ztot (S.1 j)) (zB g) (zA g)) 0 0 (zA g) := by
  refine z_met (cc := cX5_total) (nL := 2) (ret := (some .int)) hg (by decide) rfl (Nat.le_of_ble_eq_true rfl) ?_
  intro p_ e_ s_ m_ args_ below_ meth_ c_ C hr
  show Z p_ l e_ _ s_ m_ args_ below_ meth_ c_ g 2 0 0 _ x 0 [(0, .ref (zad g 0)), (1, .int (nI j))] []
  have hw_f11 := C.1.2.2.2.2 (.fieldLink RX5 11 "Countcote" "streams" "[LCountcote$Stream;") (by decide +kernel)
  have hinX5 : ∀ w ∈ wsX50, w ∈ wsX5_total := by decide +kernel
  have hw_f24 := C.1.2.2.2.2 (.fieldLink RX5 24 "Countcote$Stream" "plain" "LCountcote$PlainCounts;") (by decide +kernel)
  have hinX4 : ∀ w ∈ wsX40, w ∈ wsX5_total := by decide +kernel
  have hRj := hA j hj
  refine z_iload_n 0 C dX5_total_0 rfl 1 rfl ?_
  refine z_iconst (v := nI 4) 1 C dX5_total_1 rfl ?_
  refine z_callSv 2 C (As := [.int (nI j), .int (nI 4)]) 2 (c_X5_requirePlace l hg x j 4 (by omega) (by omega)) (va_cwS 2 C.1.2.2.2.2 gX5_total_X5_requirePlace rfl rfl rfl (by decide +kernel) ⟨Nat.le_of_ble_eq_true rfl, Nat.le_of_ble_eq_true rfl⟩) rfl rfl (Nat.le_of_ble_eq_true rfl) ⟨Nat.le_of_ble_eq_true rfl, Nat.le_of_ble_eq_true rfl⟩ dX5_total_2 (fun u hu => ?_)
  subst u
  refine z_aload_n 5 C dX5_total_5 rfl 0 rfl ?_
  refine z_getr 6 C (ref := "Countcote") (T := TX5) (N := 1) (ci := 5) (q := 0) kR_streams rfl hinX5 (by decide) rfl hw_f11 dX5_total_6 ?_
  refine z_iload_n 9 C dX5_total_9 rfl 1 rfl ?_
  refine z_aald 10 C kQ_streams rfl (by omega) dX5_total_10 ?_
  refine z_getr 11 C (ref := "Countcote$Stream") (T := TX4) (N := 4) (ci := 4) (q := 0) (kR_plain hj) rfl hinX4 (by decide) rfl hw_f24 dX5_total_11 ?_
  refine z_callVi 14 C (As := []) 0 (kO_plain hj) rfl (c_X2_sum l hg x j hj) (cwV 0 C.1.2.2.2.2 gX5_total_X2_sum rfl rfl rfl (by decide +kernel) ⟨Nat.le_of_ble_eq_true rfl, Nat.le_of_ble_eq_true rfl⟩) rfl rfl (Nat.le_of_ble_eq_true rfl) ⟨Nat.le_of_ble_eq_true rfl, Nat.le_of_ble_eq_true rfl⟩ dX5_total_14 (fun r u hu => ?_)
  obtain ⟨hu1, hu2⟩ : u = x ∧ r = ztot (S.1 j) := ⟨hu.1, hu.2.trans (zSR_tot hRj)⟩
  subst u
  subst r
  exact z_iret 17 C hr ⟨rfl, rfl⟩ dX5_total_17
set_option maxHeartbeats 4000000 in
set_option maxRecDepth 100000 in
/-- X5_count -/
theorem c_X5_count (l : Launch) {g : zG} (hg : zOk g) (x : zT) (S : zS) (hA : zAll x S) (j : Nat) (hj : j < 4) (i : Nat) (hi : i < 64) : Met l yX5_count wsX5_count ({ frames := 1, cells := 0, slots := 0, locals := 22 }) (va_Pc [.ref (zad g 0), .int (nI j), .int (nI i)] (zPre g x)) (va_Qi (fun (r : Int32) (u : zT) => u = x ∧ r = S.1 j i) (zB g) (zA g)) 0 0 (zA g) := by
  refine z_met (cc := cX5_count) (nL := 3) (ret := (some .int)) hg (by decide) rfl (Nat.le_of_ble_eq_true rfl) ?_
  intro p_ e_ s_ m_ args_ below_ meth_ c_ C hr
  show Z p_ l e_ _ s_ m_ args_ below_ meth_ c_ g 3 0 0 _ x 0 [(0, .ref (zad g 0)), (1, .int (nI j)), (2, .int (nI i))] []
  have hw_f11 := C.1.2.2.2.2 (.fieldLink RX5 11 "Countcote" "streams" "[LCountcote$Stream;") (by decide +kernel)
  have hinX5 : ∀ w ∈ wsX50, w ∈ wsX5_count := by decide +kernel
  have hw_f24 := C.1.2.2.2.2 (.fieldLink RX5 24 "Countcote$Stream" "plain" "LCountcote$PlainCounts;") (by decide +kernel)
  have hinX4 : ∀ w ∈ wsX40, w ∈ wsX5_count := by decide +kernel
  have hRj := hA j hj
  refine z_iload_n 0 C dX5_count_0 rfl 1 rfl ?_
  refine z_iconst (v := nI 4) 1 C dX5_count_1 rfl ?_
  refine z_callSv 2 C (As := [.int (nI j), .int (nI 4)]) 2 (c_X5_requirePlace l hg x j 4 (by omega) (by omega)) (va_cwS 2 C.1.2.2.2.2 gX5_count_X5_requirePlace rfl rfl rfl (by decide +kernel) ⟨Nat.le_of_ble_eq_true rfl, Nat.le_of_ble_eq_true rfl⟩) rfl rfl (Nat.le_of_ble_eq_true rfl) ⟨Nat.le_of_ble_eq_true rfl, Nat.le_of_ble_eq_true rfl⟩ dX5_count_2 (fun u hu => ?_)
  subst u
  refine z_iload_n 5 C dX5_count_5 rfl 2 rfl ?_
  refine z_bipush (v := nI 64) 6 C dX5_count_6 rfl ?_
  refine z_callSv 8 C (As := [.int (nI i), .int (nI 64)]) 2 (c_X5_requirePlace l hg x i 64 (by omega) (by omega)) (va_cwS 2 C.1.2.2.2.2 gX5_count_X5_requirePlace rfl rfl rfl (by decide +kernel) ⟨Nat.le_of_ble_eq_true rfl, Nat.le_of_ble_eq_true rfl⟩) rfl rfl (Nat.le_of_ble_eq_true rfl) ⟨Nat.le_of_ble_eq_true rfl, Nat.le_of_ble_eq_true rfl⟩ dX5_count_8 (fun u hu => ?_)
  subst u
  refine z_aload_n 11 C dX5_count_11 rfl 0 rfl ?_
  refine z_getr 12 C (ref := "Countcote") (T := TX5) (N := 1) (ci := 5) (q := 0) kR_streams rfl hinX5 (by decide) rfl hw_f11 dX5_count_12 ?_
  refine z_iload_n 15 C dX5_count_15 rfl 1 rfl ?_
  refine z_aald 16 C kQ_streams rfl (by omega) dX5_count_16 ?_
  refine z_getr 17 C (ref := "Countcote$Stream") (T := TX4) (N := 4) (ci := 4) (q := 0) (kR_plain hj) rfl hinX4 (by decide) rfl hw_f24 dX5_count_17 ?_
  refine z_iconst (v := nI 0) 20 C dX5_count_20 rfl ?_
  refine z_iload_n 21 C dX5_count_21 rfl 2 rfl ?_
  refine z_callVi 22 C (As := [.int (nI 0), .int (nI i)]) 2 (kO_plain hj) rfl (c_X2_ofHalf l hg x j hj 0 i (by decide) (by omega)) (cwV 2 C.1.2.2.2.2 gX5_count_X2_ofHalf rfl rfl rfl (by decide +kernel) ⟨Nat.le_of_ble_eq_true rfl, Nat.le_of_ble_eq_true rfl⟩) rfl rfl (Nat.le_of_ble_eq_true rfl) ⟨Nat.le_of_ble_eq_true rfl, Nat.le_of_ble_eq_true rfl⟩ dX5_count_22 (fun r u hu => ?_)
  obtain ⟨hu1, hu2⟩ : u = x ∧ r = S.1 j i := ⟨hu.1, hu.2.trans (zSR_cnt hRj (by omega))⟩
  subst u
  subst r
  exact z_iret 25 C hr ⟨rfl, rfl⟩ dX5_count_25
set_option maxHeartbeats 4000000 in
set_option maxRecDepth 100000 in
/-- X5_countOfRange -/
theorem c_X5_countOfRange (l : Launch) {g : zG} (hg : zOk g) (x : zT) (S : zS) (hA : zAll x S) (j : Nat) (hj : j < 4) (a b : Nat) (hab : a ≤ b) (hb : b < 64) : Met l yX5_countOfRange wsX5_countOfRange ({ frames := 2, cells := 0, slots := 0, locals := 42 }) (va_Pc [.ref (zad g 0), .int (nI j), .int (nI a), .int (nI b)] (zPre g x)) (va_Qi (fun (r : Int32) (u : zT) => u = x ∧ r = zsum (S.1 j) a (b + 1 - a)) (zB g) (zA g)) 0 0 (zA g) := by
  refine z_met (cc := cX5_countOfRange) (nL := 4) (ret := (some .int)) hg (by decide) rfl (Nat.le_of_ble_eq_true rfl) ?_
  intro p_ e_ s_ m_ args_ below_ meth_ c_ C hr
  show Z p_ l e_ _ s_ m_ args_ below_ meth_ c_ g 4 0 0 _ x 0 [(0, .ref (zad g 0)), (1, .int (nI j)), (2, .int (nI a)), (3, .int (nI b))] []
  have hw_f11 := C.1.2.2.2.2 (.fieldLink RX5 11 "Countcote" "streams" "[LCountcote$Stream;") (by decide +kernel)
  have hinX5 : ∀ w ∈ wsX50, w ∈ wsX5_countOfRange := by decide +kernel
  have hw_f24 := C.1.2.2.2.2 (.fieldLink RX5 24 "Countcote$Stream" "plain" "LCountcote$PlainCounts;") (by decide +kernel)
  have hinX4 : ∀ w ∈ wsX40, w ∈ wsX5_countOfRange := by decide +kernel
  have hRj := hA j hj
  refine z_iload_n 0 C dX5_countOfRange_0 rfl 1 rfl ?_
  refine z_iconst (v := nI 4) 1 C dX5_countOfRange_1 rfl ?_
  refine z_callSv 2 C (As := [.int (nI j), .int (nI 4)]) 2 (c_X5_requirePlace l hg x j 4 (by omega) (by omega)) (va_cwS 2 C.1.2.2.2.2 gX5_countOfRange_X5_requirePlace rfl rfl rfl (by decide +kernel) ⟨Nat.le_of_ble_eq_true rfl, Nat.le_of_ble_eq_true rfl⟩) rfl rfl (Nat.le_of_ble_eq_true rfl) ⟨Nat.le_of_ble_eq_true rfl, Nat.le_of_ble_eq_true rfl⟩ dX5_countOfRange_2 (fun u hu => ?_)
  subst u
  refine z_iload_n 5 C dX5_countOfRange_5 rfl 2 rfl ?_
  refine z_iload_n 6 C dX5_countOfRange_6 rfl 3 rfl ?_
  refine z_callSv 7 C (As := [.int (nI a), .int (nI b)]) 2 (c_X5_requireRange l hg x a b hab hb) (va_cwS 2 C.1.2.2.2.2 gX5_countOfRange_X5_requireRange rfl rfl rfl (by decide +kernel) ⟨Nat.le_of_ble_eq_true rfl, Nat.le_of_ble_eq_true rfl⟩) rfl rfl (Nat.le_of_ble_eq_true rfl) ⟨Nat.le_of_ble_eq_true rfl, Nat.le_of_ble_eq_true rfl⟩ dX5_countOfRange_7 (fun u hu => ?_)
  subst u
  refine z_aload_n 10 C dX5_countOfRange_10 rfl 0 rfl ?_
  refine z_getr 11 C (ref := "Countcote") (T := TX5) (N := 1) (ci := 5) (q := 0) kR_streams rfl hinX5 (by decide) rfl hw_f11 dX5_countOfRange_11 ?_
  refine z_iload_n 14 C dX5_countOfRange_14 rfl 1 rfl ?_
  refine z_aald 15 C kQ_streams rfl (by omega) dX5_countOfRange_15 ?_
  refine z_getr 16 C (ref := "Countcote$Stream") (T := TX4) (N := 4) (ci := 4) (q := 0) (kR_plain hj) rfl hinX4 (by decide) rfl hw_f24 dX5_countOfRange_16 ?_
  refine z_iload_n 19 C dX5_countOfRange_19 rfl 2 rfl ?_
  refine z_iload_n 20 C dX5_countOfRange_20 rfl 3 rfl ?_
  refine z_callVi 21 C (As := [.int (nI a), .int (nI b)]) 2 (kO_plain hj) rfl (c_X2_ofItems l hg x j hj a b hab hb) (cwV 2 C.1.2.2.2.2 gX5_countOfRange_X2_ofItems rfl rfl rfl (by decide +kernel) ⟨Nat.le_of_ble_eq_true rfl, Nat.le_of_ble_eq_true rfl⟩) rfl rfl (Nat.le_of_ble_eq_true rfl) ⟨Nat.le_of_ble_eq_true rfl, Nat.le_of_ble_eq_true rfl⟩ dX5_countOfRange_21 (fun r u hu => ?_)
  obtain ⟨hu1, hu2⟩ : u = x ∧ r = zsum (S.1 j) a (b + 1 - a) := ⟨hu.1, hu.2.trans (zSR_rng hRj hab hb)⟩
  subst u
  subst r
  exact z_iret 24 C hr ⟨rfl, rfl⟩ dX5_countOfRange_24
set_option maxHeartbeats 4000000 in
set_option maxRecDepth 100000 in
/-- X5_product -/
theorem c_X5_product (l : Launch) {g : zG} (hg : zOk g) (x : zT) (S : zS) (hA : zAll x S) (j : Nat) (hj : j < 4) (o : Nat) (ho : o < 4) : Met l yX5_product wsX5_product ({ frames := 1, cells := 0, slots := 0, locals := 24 }) (va_Pc [.ref (zad g 0), .int (nI j), .int (nI o)] (zPre g x)) (va_Ql (fun (r : Int64) (u : zT) => u = x ∧ r = zprod (S.1 j) (S.1 o)) (zB g) (zA g)) 0 0 (zA g) := by
  refine z_met (cc := cX5_product) (nL := 3) (ret := (some .long)) hg (by decide) rfl (Nat.le_of_ble_eq_true rfl) ?_
  intro p_ e_ s_ m_ args_ below_ meth_ c_ C hr
  show Z p_ l e_ _ s_ m_ args_ below_ meth_ c_ g 3 0 0 _ x 0 [(0, .ref (zad g 0)), (1, .int (nI j)), (2, .int (nI o))] []
  have hw_f11 := C.1.2.2.2.2 (.fieldLink RX5 11 "Countcote" "streams" "[LCountcote$Stream;") (by decide +kernel)
  have hinX5 : ∀ w ∈ wsX50, w ∈ wsX5_product := by decide +kernel
  have hw_f24 := C.1.2.2.2.2 (.fieldLink RX5 24 "Countcote$Stream" "plain" "LCountcote$PlainCounts;") (by decide +kernel)
  have hinX4 : ∀ w ∈ wsX40, w ∈ wsX5_product := by decide +kernel
  have hRj := hA j hj
  have hRo := hA o ho
  refine z_iload_n 0 C dX5_product_0 rfl 1 rfl ?_
  refine z_iconst (v := nI 4) 1 C dX5_product_1 rfl ?_
  refine z_callSv 2 C (As := [.int (nI j), .int (nI 4)]) 2 (c_X5_requirePlace l hg x j 4 (by omega) (by omega)) (va_cwS 2 C.1.2.2.2.2 gX5_product_X5_requirePlace rfl rfl rfl (by decide +kernel) ⟨Nat.le_of_ble_eq_true rfl, Nat.le_of_ble_eq_true rfl⟩) rfl rfl (Nat.le_of_ble_eq_true rfl) ⟨Nat.le_of_ble_eq_true rfl, Nat.le_of_ble_eq_true rfl⟩ dX5_product_2 (fun u hu => ?_)
  subst u
  refine z_iload_n 5 C dX5_product_5 rfl 2 rfl ?_
  refine z_iconst (v := nI 4) 6 C dX5_product_6 rfl ?_
  refine z_callSv 7 C (As := [.int (nI o), .int (nI 4)]) 2 (c_X5_requirePlace l hg x o 4 (by omega) (by omega)) (va_cwS 2 C.1.2.2.2.2 gX5_product_X5_requirePlace rfl rfl rfl (by decide +kernel) ⟨Nat.le_of_ble_eq_true rfl, Nat.le_of_ble_eq_true rfl⟩) rfl rfl (Nat.le_of_ble_eq_true rfl) ⟨Nat.le_of_ble_eq_true rfl, Nat.le_of_ble_eq_true rfl⟩ dX5_product_7 (fun u hu => ?_)
  subst u
  refine z_aload_n 10 C dX5_product_10 rfl 0 rfl ?_
  refine z_getr 11 C (ref := "Countcote") (T := TX5) (N := 1) (ci := 5) (q := 0) kR_streams rfl hinX5 (by decide) rfl hw_f11 dX5_product_11 ?_
  refine z_iload_n 14 C dX5_product_14 rfl 1 rfl ?_
  refine z_aald 15 C kQ_streams rfl (by omega) dX5_product_15 ?_
  refine z_getr 16 C (ref := "Countcote$Stream") (T := TX4) (N := 4) (ci := 4) (q := 0) (kR_plain hj) rfl hinX4 (by decide) rfl hw_f24 dX5_product_16 ?_
  refine z_aload_n 19 C dX5_product_19 rfl 0 rfl ?_
  refine z_getr 20 C (ref := "Countcote") (T := TX5) (N := 1) (ci := 5) (q := 0) kR_streams rfl hinX5 (by decide) rfl hw_f11 dX5_product_20 ?_
  refine z_iload_n 23 C dX5_product_23 rfl 2 rfl ?_
  refine z_aald 24 C kQ_streams rfl (by omega) dX5_product_24 ?_
  refine z_getr 25 C (ref := "Countcote$Stream") (T := TX4) (N := 4) (ci := 4) (q := 0) (kR_plain ho) rfl hinX4 (by decide) rfl hw_f24 dX5_product_25 ?_
  refine z_callVl 28 C (As := [.ref (zad g (zp o 1))]) 1 (kO_plain hj) rfl (c_X2_times l hg x j o hj ho) (cwV 1 C.1.2.2.2.2 gX5_product_X2_times rfl rfl rfl (by decide +kernel) ⟨Nat.le_of_ble_eq_true rfl, Nat.le_of_ble_eq_true rfl⟩) rfl rfl (Nat.le_of_ble_eq_true rfl) ⟨Nat.le_of_ble_eq_true rfl, Nat.le_of_ble_eq_true rfl⟩ dX5_product_28 (fun r u hu => ?_)
  obtain ⟨hu1, hu2⟩ : u = x ∧ r = zprod (S.1 j) (S.1 o) := ⟨hu.1, hu.2.trans (zSR_prod hRj hRo)⟩
  subst u
  subst r
  exact z_lret 31 C hr ⟨rfl, rfl⟩ dX5_product_31
set_option maxHeartbeats 4000000 in
set_option maxRecDepth 100000 in
/-- X5_column -/
theorem c_X5_column (l : Launch) {g : zG} (hg : zOk g) (x : zT) (S : zS) (hA : zAll x S) (a i : Nat) (ha : a < 3) (hi : i < 64) : Met l yX5_column wsX5_column ({ frames := 1, cells := 0, slots := 0, locals := 21 }) (va_Pc [.ref (zad g 0), .int (nI a), .int (nI i)] (zPre g x)) (va_Qi (fun (r : Int32) (u : zT) => u = x ∧ r = nI (zccol a i)) (zB g) (zA g)) 0 0 (zA g) := by
  refine z_met (cc := cX5_column) (nL := 3) (ret := (some .int)) hg (by decide) rfl (Nat.le_of_ble_eq_true rfl) ?_
  intro p_ e_ s_ m_ args_ below_ meth_ c_ C hr
  show Z p_ l e_ _ s_ m_ args_ below_ meth_ c_ g 3 0 0 _ x 0 [(0, .ref (zad g 0)), (1, .int (nI a)), (2, .int (nI i))] []
  refine z_iload_n 0 C dX5_column_0 rfl 1 rfl ?_
  refine z_iconst (v := nI 3) 1 C dX5_column_1 rfl ?_
  refine z_callSv 2 C (As := [.int (nI a), .int (nI 3)]) 2 (c_X5_requirePlace l hg x a 3 (by omega) (by omega)) (va_cwS 2 C.1.2.2.2.2 gX5_column_X5_requirePlace rfl rfl rfl (by decide +kernel) ⟨Nat.le_of_ble_eq_true rfl, Nat.le_of_ble_eq_true rfl⟩) rfl rfl (Nat.le_of_ble_eq_true rfl) ⟨Nat.le_of_ble_eq_true rfl, Nat.le_of_ble_eq_true rfl⟩ dX5_column_2 (fun u hu => ?_)
  subst u
  refine z_iload_n 5 C dX5_column_5 rfl 2 rfl ?_
  refine z_bipush (v := nI 64) 6 C dX5_column_6 rfl ?_
  refine z_callSv 8 C (As := [.int (nI i), .int (nI 64)]) 2 (c_X5_requirePlace l hg x i 64 (by omega) (by omega)) (va_cwS 2 C.1.2.2.2.2 gX5_column_X5_requirePlace rfl rfl rfl (by decide +kernel) ⟨Nat.le_of_ble_eq_true rfl, Nat.le_of_ble_eq_true rfl⟩) rfl rfl (Nat.le_of_ble_eq_true rfl) ⟨Nat.le_of_ble_eq_true rfl, Nat.le_of_ble_eq_true rfl⟩ dX5_column_8 (fun u hu => ?_)
  subst u
  refine z_iload_n 11 C dX5_column_11 rfl 1 rfl ?_
  refine z_iload_n 12 C dX5_column_12 rfl 2 rfl ?_
  refine z_callSi 13 C (As := [.int (nI a), .int (nI i)]) 2 (c_X0_columnOf l hg x a i (by first | decide | omega) (by omega)) (va_cwS 2 C.1.2.2.2.2 gX5_column_X0_columnOf rfl rfl rfl (by decide +kernel) ⟨Nat.le_of_ble_eq_true rfl, Nat.le_of_ble_eq_true rfl⟩) rfl rfl (Nat.le_of_ble_eq_true rfl) ⟨Nat.le_of_ble_eq_true rfl, Nat.le_of_ble_eq_true rfl⟩ dX5_column_13 (fun r u hu => ?_)
  obtain ⟨hu1, hu2⟩ := hu
  subst u
  subst r
  have := zccol_lt a i
  exact z_iret 16 C hr ⟨rfl, rfl⟩ dX5_column_16
set_option maxHeartbeats 4000000 in
set_option maxRecDepth 100000 in
/-- X5_cell -/
theorem c_X5_cell (l : Launch) {g : zG} (hg : zOk g) (x : zT) (S : zS) (hA : zAll x S) (j : Nat) (hj : j < 4) (k a b : Nat) (hk : k < 3) (ha : a < 3) (hb : b < 8) : Met l yX5_cell wsX5_cell ({ frames := 1, cells := 0, slots := 0, locals := 22 }) (va_Pc [.ref (zad g 0), .int (nI j), .int (nI k), .int (nI a), .int (nI b)] (zPre g x)) (va_Qi (fun (r : Int32) (u : zT) => u = x ∧ r = S.2.1 j (24 * k + (a * 8 + b))) (zB g) (zA g)) 0 0 (zA g) := by
  refine z_met (cc := cX5_cell) (nL := 5) (ret := (some .int)) hg (by decide) rfl (Nat.le_of_ble_eq_true rfl) ?_
  intro p_ e_ s_ m_ args_ below_ meth_ c_ C hr
  show Z p_ l e_ _ s_ m_ args_ below_ meth_ c_ g 5 0 0 _ x 0 [(0, .ref (zad g 0)), (1, .int (nI j)), (2, .int (nI k)), (3, .int (nI a)), (4, .int (nI b))] []
  have hw_f11 := C.1.2.2.2.2 (.fieldLink RX5 11 "Countcote" "streams" "[LCountcote$Stream;") (by decide +kernel)
  have hinX5 : ∀ w ∈ wsX50, w ∈ wsX5_cell := by decide +kernel
  have hw_f74 := C.1.2.2.2.2 (.fieldLink RX5 74 "Countcote$Stream" "careful" "[LCountcote$CarefulSketch;") (by decide +kernel)
  have hinX4 : ∀ w ∈ wsX40, w ∈ wsX5_cell := by decide +kernel
  have hRj := hA j hj
  refine z_iload_n 0 C dX5_cell_0 rfl 1 rfl ?_
  refine z_iconst (v := nI 4) 1 C dX5_cell_1 rfl ?_
  refine z_callSv 2 C (As := [.int (nI j), .int (nI 4)]) 2 (c_X5_requirePlace l hg x j 4 (by omega) (by omega)) (va_cwS 2 C.1.2.2.2.2 gX5_cell_X5_requirePlace rfl rfl rfl (by decide +kernel) ⟨Nat.le_of_ble_eq_true rfl, Nat.le_of_ble_eq_true rfl⟩) rfl rfl (Nat.le_of_ble_eq_true rfl) ⟨Nat.le_of_ble_eq_true rfl, Nat.le_of_ble_eq_true rfl⟩ dX5_cell_2 (fun u hu => ?_)
  subst u
  refine z_iload_n 5 C dX5_cell_5 rfl 2 rfl ?_
  refine z_iconst (v := nI 3) 6 C dX5_cell_6 rfl ?_
  refine z_callSv 7 C (As := [.int (nI k), .int (nI 3)]) 2 (c_X5_requirePlace l hg x k 3 (by omega) (by omega)) (va_cwS 2 C.1.2.2.2.2 gX5_cell_X5_requirePlace rfl rfl rfl (by decide +kernel) ⟨Nat.le_of_ble_eq_true rfl, Nat.le_of_ble_eq_true rfl⟩) rfl rfl (Nat.le_of_ble_eq_true rfl) ⟨Nat.le_of_ble_eq_true rfl, Nat.le_of_ble_eq_true rfl⟩ dX5_cell_7 (fun u hu => ?_)
  subst u
  refine z_iload_n 10 C dX5_cell_10 rfl 3 rfl ?_
  refine z_iconst (v := nI 3) 11 C dX5_cell_11 rfl ?_
  refine z_callSv 12 C (As := [.int (nI a), .int (nI 3)]) 2 (c_X5_requirePlace l hg x a 3 (by omega) (by omega)) (va_cwS 2 C.1.2.2.2.2 gX5_cell_X5_requirePlace rfl rfl rfl (by decide +kernel) ⟨Nat.le_of_ble_eq_true rfl, Nat.le_of_ble_eq_true rfl⟩) rfl rfl (Nat.le_of_ble_eq_true rfl) ⟨Nat.le_of_ble_eq_true rfl, Nat.le_of_ble_eq_true rfl⟩ dX5_cell_12 (fun u hu => ?_)
  subst u
  refine z_iload 15 C dX5_cell_15 4 rfl ?_
  refine z_bipush (v := nI 8) 17 C dX5_cell_17 rfl ?_
  refine z_callSv 19 C (As := [.int (nI b), .int (nI 8)]) 2 (c_X5_requirePlace l hg x b 8 (by omega) (by omega)) (va_cwS 2 C.1.2.2.2.2 gX5_cell_X5_requirePlace rfl rfl rfl (by decide +kernel) ⟨Nat.le_of_ble_eq_true rfl, Nat.le_of_ble_eq_true rfl⟩) rfl rfl (Nat.le_of_ble_eq_true rfl) ⟨Nat.le_of_ble_eq_true rfl, Nat.le_of_ble_eq_true rfl⟩ dX5_cell_19 (fun u hu => ?_)
  subst u
  refine z_aload_n 22 C dX5_cell_22 rfl 0 rfl ?_
  refine z_getr 23 C (ref := "Countcote") (T := TX5) (N := 1) (ci := 5) (q := 0) kR_streams rfl hinX5 (by decide) rfl hw_f11 dX5_cell_23 ?_
  refine z_iload_n 26 C dX5_cell_26 rfl 1 rfl ?_
  refine z_aald 27 C kQ_streams rfl (by omega) dX5_cell_27 ?_
  refine z_getr 28 C (ref := "Countcote$Stream") (T := TX4) (N := 4) (ci := 4) (q := 1) (kR_careful hj) rfl hinX4 (by decide) rfl hw_f74 dX5_cell_28 ?_
  refine z_iload_n 31 C dX5_cell_31 rfl 2 rfl ?_
  refine z_aald 32 C (kQ_careful hj) rfl (by omega) dX5_cell_32 ?_
  refine z_iload_n 33 C dX5_cell_33 rfl 3 rfl ?_
  refine z_iload 34 C dX5_cell_34 4 rfl ?_
  refine z_callVi 36 C (As := [.int (nI a), .int (nI b)]) 2 (kO_cs hj hk) rfl (c_X0_cellAt l hg x j k hj hk a b (by omega) (by omega)) (cwV 2 C.1.2.2.2.2 gX5_cell_X0_cellAt rfl rfl rfl (by decide +kernel) ⟨Nat.le_of_ble_eq_true rfl, Nat.le_of_ble_eq_true rfl⟩) rfl rfl (Nat.le_of_ble_eq_true rfl) ⟨Nat.le_of_ble_eq_true rfl, Nat.le_of_ble_eq_true rfl⟩ dX5_cell_36 (fun r u hu => ?_)
  obtain ⟨hu1, hu2⟩ : u = x ∧ r = S.2.1 j (24 * k + (a * 8 + b)) := ⟨hu.1, hu.2.trans (zSR_car hRj hk _ (by omega))⟩
  subst u
  subst r
  exact z_iret 39 C hr ⟨rfl, rfl⟩ dX5_cell_39
set_option maxHeartbeats 4000000 in
set_option maxRecDepth 100000 in
/-- X5_signedColumn -/
theorem c_X5_signedColumn (l : Launch) {g : zG} (hg : zOk g) (x : zT) (S : zS) (hA : zAll x S) (a i : Nat) (ha : a < 5) (hi : i < 64) : Met l yX5_signedColumn wsX5_signedColumn ({ frames := 1, cells := 0, slots := 0, locals := 21 }) (va_Pc [.ref (zad g 0), .int (nI a), .int (nI i)] (zPre g x)) (va_Qi (fun (r : Int32) (u : zT) => u = x ∧ r = nI (zscol a i)) (zB g) (zA g)) 0 0 (zA g) := by
  refine z_met (cc := cX5_signedColumn) (nL := 3) (ret := (some .int)) hg (by decide) rfl (Nat.le_of_ble_eq_true rfl) ?_
  intro p_ e_ s_ m_ args_ below_ meth_ c_ C hr
  show Z p_ l e_ _ s_ m_ args_ below_ meth_ c_ g 3 0 0 _ x 0 [(0, .ref (zad g 0)), (1, .int (nI a)), (2, .int (nI i))] []
  refine z_iload_n 0 C dX5_signedColumn_0 rfl 1 rfl ?_
  refine z_iconst (v := nI 5) 1 C dX5_signedColumn_1 rfl ?_
  refine z_callSv 2 C (As := [.int (nI a), .int (nI 5)]) 2 (c_X5_requirePlace l hg x a 5 (by omega) (by omega)) (va_cwS 2 C.1.2.2.2.2 gX5_signedColumn_X5_requirePlace rfl rfl rfl (by decide +kernel) ⟨Nat.le_of_ble_eq_true rfl, Nat.le_of_ble_eq_true rfl⟩) rfl rfl (Nat.le_of_ble_eq_true rfl) ⟨Nat.le_of_ble_eq_true rfl, Nat.le_of_ble_eq_true rfl⟩ dX5_signedColumn_2 (fun u hu => ?_)
  subst u
  refine z_iload_n 5 C dX5_signedColumn_5 rfl 2 rfl ?_
  refine z_bipush (v := nI 64) 6 C dX5_signedColumn_6 rfl ?_
  refine z_callSv 8 C (As := [.int (nI i), .int (nI 64)]) 2 (c_X5_requirePlace l hg x i 64 (by omega) (by omega)) (va_cwS 2 C.1.2.2.2.2 gX5_signedColumn_X5_requirePlace rfl rfl rfl (by decide +kernel) ⟨Nat.le_of_ble_eq_true rfl, Nat.le_of_ble_eq_true rfl⟩) rfl rfl (Nat.le_of_ble_eq_true rfl) ⟨Nat.le_of_ble_eq_true rfl, Nat.le_of_ble_eq_true rfl⟩ dX5_signedColumn_8 (fun u hu => ?_)
  subst u
  refine z_iload_n 11 C dX5_signedColumn_11 rfl 1 rfl ?_
  refine z_iload_n 12 C dX5_signedColumn_12 rfl 2 rfl ?_
  refine z_callSi 13 C (As := [.int (nI a), .int (nI i)]) 2 (c_X3_columnOf l hg x a i (by first | decide | omega) (by omega)) (va_cwS 2 C.1.2.2.2.2 gX5_signedColumn_X3_columnOf rfl rfl rfl (by decide +kernel) ⟨Nat.le_of_ble_eq_true rfl, Nat.le_of_ble_eq_true rfl⟩) rfl rfl (Nat.le_of_ble_eq_true rfl) ⟨Nat.le_of_ble_eq_true rfl, Nat.le_of_ble_eq_true rfl⟩ dX5_signedColumn_13 (fun r u hu => ?_)
  obtain ⟨hu1, hu2⟩ := hu
  subst u
  subst r
  have := zscol_lt a i
  exact z_iret 16 C hr ⟨rfl, rfl⟩ dX5_signedColumn_16
set_option maxHeartbeats 4000000 in
set_option maxRecDepth 100000 in
/-- X5_sign -/
theorem c_X5_sign (l : Launch) {g : zG} (hg : zOk g) (x : zT) (S : zS) (hA : zAll x S) (a i : Nat) (ha : a < 5) (hi : i < 64) : Met l yX5_sign wsX5_sign ({ frames := 1, cells := 0, slots := 0, locals := 21 }) (va_Pc [.ref (zad g 0), .int (nI a), .int (nI i)] (zPre g x)) (va_Qi (fun (r : Int32) (u : zT) => u = x ∧ r = zsg a i) (zB g) (zA g)) 0 0 (zA g) := by
  refine z_met (cc := cX5_sign) (nL := 3) (ret := (some .int)) hg (by decide) rfl (Nat.le_of_ble_eq_true rfl) ?_
  intro p_ e_ s_ m_ args_ below_ meth_ c_ C hr
  show Z p_ l e_ _ s_ m_ args_ below_ meth_ c_ g 3 0 0 _ x 0 [(0, .ref (zad g 0)), (1, .int (nI a)), (2, .int (nI i))] []
  refine z_iload_n 0 C dX5_sign_0 rfl 1 rfl ?_
  refine z_iconst (v := nI 5) 1 C dX5_sign_1 rfl ?_
  refine z_callSv 2 C (As := [.int (nI a), .int (nI 5)]) 2 (c_X5_requirePlace l hg x a 5 (by omega) (by omega)) (va_cwS 2 C.1.2.2.2.2 gX5_sign_X5_requirePlace rfl rfl rfl (by decide +kernel) ⟨Nat.le_of_ble_eq_true rfl, Nat.le_of_ble_eq_true rfl⟩) rfl rfl (Nat.le_of_ble_eq_true rfl) ⟨Nat.le_of_ble_eq_true rfl, Nat.le_of_ble_eq_true rfl⟩ dX5_sign_2 (fun u hu => ?_)
  subst u
  refine z_iload_n 5 C dX5_sign_5 rfl 2 rfl ?_
  refine z_bipush (v := nI 64) 6 C dX5_sign_6 rfl ?_
  refine z_callSv 8 C (As := [.int (nI i), .int (nI 64)]) 2 (c_X5_requirePlace l hg x i 64 (by omega) (by omega)) (va_cwS 2 C.1.2.2.2.2 gX5_sign_X5_requirePlace rfl rfl rfl (by decide +kernel) ⟨Nat.le_of_ble_eq_true rfl, Nat.le_of_ble_eq_true rfl⟩) rfl rfl (Nat.le_of_ble_eq_true rfl) ⟨Nat.le_of_ble_eq_true rfl, Nat.le_of_ble_eq_true rfl⟩ dX5_sign_8 (fun u hu => ?_)
  subst u
  refine z_iload_n 11 C dX5_sign_11 rfl 1 rfl ?_
  refine z_iload_n 12 C dX5_sign_12 rfl 2 rfl ?_
  refine z_callSi 13 C (As := [.int (nI a), .int (nI i)]) 2 (c_X3_signOf l hg x a i (by first | decide | omega) (by omega)) (va_cwS 2 C.1.2.2.2.2 gX5_sign_X3_signOf rfl rfl rfl (by decide +kernel) ⟨Nat.le_of_ble_eq_true rfl, Nat.le_of_ble_eq_true rfl⟩) rfl rfl (Nat.le_of_ble_eq_true rfl) ⟨Nat.le_of_ble_eq_true rfl, Nat.le_of_ble_eq_true rfl⟩ dX5_sign_13 (fun r u hu => ?_)
  obtain ⟨hu1, hu2⟩ := hu
  subst u
  subst r
  exact z_iret 16 C hr ⟨rfl, rfl⟩ dX5_sign_16
set_option maxHeartbeats 4000000 in
set_option maxRecDepth 100000 in
/-- X5_signedCell -/
theorem c_X5_signedCell (l : Launch) {g : zG} (hg : zOk g) (x : zT) (S : zS) (hA : zAll x S) (j : Nat) (hj : j < 4) (a b : Nat) (ha : a < 5) (hb : b < 8) : Met l yX5_signedCell wsX5_signedCell ({ frames := 1, cells := 0, slots := 0, locals := 22 }) (va_Pc [.ref (zad g 0), .int (nI j), .int (nI a), .int (nI b)] (zPre g x)) (va_Qi (fun (r : Int32) (u : zT) => u = x ∧ r = zscell (S.1 j) a b) (zB g) (zA g)) 0 0 (zA g) := by
  refine z_met (cc := cX5_signedCell) (nL := 4) (ret := (some .int)) hg (by decide) rfl (Nat.le_of_ble_eq_true rfl) ?_
  intro p_ e_ s_ m_ args_ below_ meth_ c_ C hr
  show Z p_ l e_ _ s_ m_ args_ below_ meth_ c_ g 4 0 0 _ x 0 [(0, .ref (zad g 0)), (1, .int (nI j)), (2, .int (nI a)), (3, .int (nI b))] []
  have hw_f11 := C.1.2.2.2.2 (.fieldLink RX5 11 "Countcote" "streams" "[LCountcote$Stream;") (by decide +kernel)
  have hinX5 : ∀ w ∈ wsX50, w ∈ wsX5_signedCell := by decide +kernel
  have hw_f103 := C.1.2.2.2.2 (.fieldLink RX5 103 "Countcote$Stream" "signed" "LCountcote$SignedSketch;") (by decide +kernel)
  have hinX4 : ∀ w ∈ wsX40, w ∈ wsX5_signedCell := by decide +kernel
  have hRj := hA j hj
  refine z_iload_n 0 C dX5_signedCell_0 rfl 1 rfl ?_
  refine z_iconst (v := nI 4) 1 C dX5_signedCell_1 rfl ?_
  refine z_callSv 2 C (As := [.int (nI j), .int (nI 4)]) 2 (c_X5_requirePlace l hg x j 4 (by omega) (by omega)) (va_cwS 2 C.1.2.2.2.2 gX5_signedCell_X5_requirePlace rfl rfl rfl (by decide +kernel) ⟨Nat.le_of_ble_eq_true rfl, Nat.le_of_ble_eq_true rfl⟩) rfl rfl (Nat.le_of_ble_eq_true rfl) ⟨Nat.le_of_ble_eq_true rfl, Nat.le_of_ble_eq_true rfl⟩ dX5_signedCell_2 (fun u hu => ?_)
  subst u
  refine z_iload_n 5 C dX5_signedCell_5 rfl 2 rfl ?_
  refine z_iconst (v := nI 5) 6 C dX5_signedCell_6 rfl ?_
  refine z_callSv 7 C (As := [.int (nI a), .int (nI 5)]) 2 (c_X5_requirePlace l hg x a 5 (by omega) (by omega)) (va_cwS 2 C.1.2.2.2.2 gX5_signedCell_X5_requirePlace rfl rfl rfl (by decide +kernel) ⟨Nat.le_of_ble_eq_true rfl, Nat.le_of_ble_eq_true rfl⟩) rfl rfl (Nat.le_of_ble_eq_true rfl) ⟨Nat.le_of_ble_eq_true rfl, Nat.le_of_ble_eq_true rfl⟩ dX5_signedCell_7 (fun u hu => ?_)
  subst u
  refine z_iload_n 10 C dX5_signedCell_10 rfl 3 rfl ?_
  refine z_bipush (v := nI 8) 11 C dX5_signedCell_11 rfl ?_
  refine z_callSv 13 C (As := [.int (nI b), .int (nI 8)]) 2 (c_X5_requirePlace l hg x b 8 (by omega) (by omega)) (va_cwS 2 C.1.2.2.2.2 gX5_signedCell_X5_requirePlace rfl rfl rfl (by decide +kernel) ⟨Nat.le_of_ble_eq_true rfl, Nat.le_of_ble_eq_true rfl⟩) rfl rfl (Nat.le_of_ble_eq_true rfl) ⟨Nat.le_of_ble_eq_true rfl, Nat.le_of_ble_eq_true rfl⟩ dX5_signedCell_13 (fun u hu => ?_)
  subst u
  refine z_aload_n 16 C dX5_signedCell_16 rfl 0 rfl ?_
  refine z_getr 17 C (ref := "Countcote") (T := TX5) (N := 1) (ci := 5) (q := 0) kR_streams rfl hinX5 (by decide) rfl hw_f11 dX5_signedCell_17 ?_
  refine z_iload_n 20 C dX5_signedCell_20 rfl 1 rfl ?_
  refine z_aald 21 C kQ_streams rfl (by omega) dX5_signedCell_21 ?_
  refine z_getr 22 C (ref := "Countcote$Stream") (T := TX4) (N := 4) (ci := 4) (q := 2) (kR_signed hj) rfl hinX4 (by decide) rfl hw_f103 dX5_signedCell_22 ?_
  refine z_iload_n 25 C dX5_signedCell_25 rfl 2 rfl ?_
  refine z_iload_n 26 C dX5_signedCell_26 rfl 3 rfl ?_
  refine z_callVi 27 C (As := [.int (nI a), .int (nI b)]) 2 (kO_signed hj) rfl (c_X3_cellAt l hg x j hj a b (by omega) (by omega)) (cwV 2 C.1.2.2.2.2 gX5_signedCell_X3_cellAt rfl rfl rfl (by decide +kernel) ⟨Nat.le_of_ble_eq_true rfl, Nat.le_of_ble_eq_true rfl⟩) rfl rfl (Nat.le_of_ble_eq_true rfl) ⟨Nat.le_of_ble_eq_true rfl, Nat.le_of_ble_eq_true rfl⟩ dX5_signedCell_27 (fun r u hu => ?_)
  obtain ⟨hu1, hu2⟩ : u = x ∧ r = zscell (S.1 j) a b := ⟨hu.1, hu.2.trans (zSR_sc hRj (by omega) (by omega))⟩
  subst u
  subst r
  exact z_iret 30 C hr ⟨rfl, rfl⟩ dX5_signedCell_30
set_option maxHeartbeats 4000000 in
set_option maxRecDepth 100000 in
/-- X5_signedProduct -/
theorem c_X5_signedProduct (l : Launch) {g : zG} (hg : zOk g) (x : zT) (S : zS) (hA : zAll x S) (j : Nat) (hj : j < 4) (o : Nat) (ho : o < 4) : Met l yX5_signedProduct wsX5_signedProduct ({ frames := 3, cells := 0, slots := 0, locals := 69 }) (va_Pc [.ref (zad g 0), .int (nI j), .int (nI o)] (zPre g x)) (va_Ql (fun (r : Int64) (u : zT) => (∃ h : Nat → Int64, u = xl x (zp j 12) h) ∧ zsprod (S.1 j) (S.1 o) r) (zB g) (zA g)) 0 0 (zA g) := by
  refine z_met (cc := cX5_signedProduct) (nL := 3) (ret := (some .long)) hg (by decide) rfl (Nat.le_of_ble_eq_true rfl) ?_
  intro p_ e_ s_ m_ args_ below_ meth_ c_ C hr
  show Z p_ l e_ _ s_ m_ args_ below_ meth_ c_ g 3 0 0 _ x 0 [(0, .ref (zad g 0)), (1, .int (nI j)), (2, .int (nI o))] []
  have hw_f11 := C.1.2.2.2.2 (.fieldLink RX5 11 "Countcote" "streams" "[LCountcote$Stream;") (by decide +kernel)
  have hinX5 : ∀ w ∈ wsX50, w ∈ wsX5_signedProduct := by decide +kernel
  have hw_f103 := C.1.2.2.2.2 (.fieldLink RX5 103 "Countcote$Stream" "signed" "LCountcote$SignedSketch;") (by decide +kernel)
  have hinX4 : ∀ w ∈ wsX40, w ∈ wsX5_signedProduct := by decide +kernel
  have hRj := hA j hj
  have hRo := hA o ho
  refine z_iload_n 0 C dX5_signedProduct_0 rfl 1 rfl ?_
  refine z_iconst (v := nI 4) 1 C dX5_signedProduct_1 rfl ?_
  refine z_callSv 2 C (As := [.int (nI j), .int (nI 4)]) 2 (c_X5_requirePlace l hg x j 4 (by omega) (by omega)) (va_cwS 2 C.1.2.2.2.2 gX5_signedProduct_X5_requirePlace rfl rfl rfl (by decide +kernel) ⟨Nat.le_of_ble_eq_true rfl, Nat.le_of_ble_eq_true rfl⟩) rfl rfl (Nat.le_of_ble_eq_true rfl) ⟨Nat.le_of_ble_eq_true rfl, Nat.le_of_ble_eq_true rfl⟩ dX5_signedProduct_2 (fun u hu => ?_)
  subst u
  refine z_iload_n 5 C dX5_signedProduct_5 rfl 2 rfl ?_
  refine z_iconst (v := nI 4) 6 C dX5_signedProduct_6 rfl ?_
  refine z_callSv 7 C (As := [.int (nI o), .int (nI 4)]) 2 (c_X5_requirePlace l hg x o 4 (by omega) (by omega)) (va_cwS 2 C.1.2.2.2.2 gX5_signedProduct_X5_requirePlace rfl rfl rfl (by decide +kernel) ⟨Nat.le_of_ble_eq_true rfl, Nat.le_of_ble_eq_true rfl⟩) rfl rfl (Nat.le_of_ble_eq_true rfl) ⟨Nat.le_of_ble_eq_true rfl, Nat.le_of_ble_eq_true rfl⟩ dX5_signedProduct_7 (fun u hu => ?_)
  subst u
  refine z_aload_n 10 C dX5_signedProduct_10 rfl 0 rfl ?_
  refine z_getr 11 C (ref := "Countcote") (T := TX5) (N := 1) (ci := 5) (q := 0) kR_streams rfl hinX5 (by decide) rfl hw_f11 dX5_signedProduct_11 ?_
  refine z_iload_n 14 C dX5_signedProduct_14 rfl 1 rfl ?_
  refine z_aald 15 C kQ_streams rfl (by omega) dX5_signedProduct_15 ?_
  refine z_getr 16 C (ref := "Countcote$Stream") (T := TX4) (N := 4) (ci := 4) (q := 2) (kR_signed hj) rfl hinX4 (by decide) rfl hw_f103 dX5_signedProduct_16 ?_
  refine z_aload_n 19 C dX5_signedProduct_19 rfl 0 rfl ?_
  refine z_getr 20 C (ref := "Countcote") (T := TX5) (N := 1) (ci := 5) (q := 0) kR_streams rfl hinX5 (by decide) rfl hw_f11 dX5_signedProduct_20 ?_
  refine z_iload_n 23 C dX5_signedProduct_23 rfl 2 rfl ?_
  refine z_aald 24 C kQ_streams rfl (by omega) dX5_signedProduct_24 ?_
  refine z_getr 25 C (ref := "Countcote$Stream") (T := TX4) (N := 4) (ci := 4) (q := 2) (kR_signed ho) rfl hinX4 (by decide) rfl hw_f103 dX5_signedProduct_25 ?_
  refine z_callVl 28 C (As := [.ref (zad g (zp o 10))]) 1 (kO_signed hj) rfl (c_X3_middleProduct l hg x j o hj ho) (cwV 1 C.1.2.2.2.2 gX5_signedProduct_X3_middleProduct rfl rfl rfl (by decide +kernel) ⟨Nat.le_of_ble_eq_true rfl, Nat.le_of_ble_eq_true rfl⟩) rfl rfl (Nat.le_of_ble_eq_true rfl) ⟨Nat.le_of_ble_eq_true rfl, Nat.le_of_ble_eq_true rfl⟩ dX5_signedProduct_28 (fun r u hu => ?_)
  obtain ⟨hm, rfl, hmid⟩ := hu
  exact z_lret 31 C hr ⟨⟨hm, rfl⟩, zSR_sprod hRj hRo hmid⟩ dX5_signedProduct_31
set_option maxHeartbeats 4000000 in
set_option maxRecDepth 100000 in
/-- X5_counters -/
theorem c_X5_counters (l : Launch) {g : zG} (hg : zOk g) (x : zT) (S : zS) (hA : zAll x S) (j : Nat) (hj : j < 4) : Met l yX5_counters wsX5_counters ({ frames := 1, cells := 0, slots := 0, locals := 21 }) (va_Pc [.ref (zad g 0), .int (nI j)] (zPre g x)) (va_Qi (fun (r : Int32) (u : zT) => u = x ∧ r = nI (S.2.2.1 j).length) (zB g) (zA g)) 0 0 (zA g) := by
  refine z_met (cc := cX5_counters) (nL := 2) (ret := (some .int)) hg (by decide) rfl (Nat.le_of_ble_eq_true rfl) ?_
  intro p_ e_ s_ m_ args_ below_ meth_ c_ C hr
  show Z p_ l e_ _ s_ m_ args_ below_ meth_ c_ g 2 0 0 _ x 0 [(0, .ref (zad g 0)), (1, .int (nI j))] []
  have hw_f11 := C.1.2.2.2.2 (.fieldLink RX5 11 "Countcote" "streams" "[LCountcote$Stream;") (by decide +kernel)
  have hinX5 : ∀ w ∈ wsX50, w ∈ wsX5_counters := by decide +kernel
  have hw_f116 := C.1.2.2.2.2 (.fieldLink RX5 116 "Countcote$Stream" "few" "LCountcote$FewCounters;") (by decide +kernel)
  have hinX4 : ∀ w ∈ wsX40, w ∈ wsX5_counters := by decide +kernel
  have hw_n120 := va_Nw.use (A := args_) rfl (C.2.2.2.2.1.2.1 _ (List.mem_of_getElem? (i := 0) rfl))
  have hinX1 : ∀ w ∈ wsX10, w ∈ wsX5_counters := by decide +kernel
  have hRj := hA j hj
  refine z_iload_n 0 C dX5_counters_0 rfl 1 rfl ?_
  refine z_iconst (v := nI 4) 1 C dX5_counters_1 rfl ?_
  refine z_callSv 2 C (As := [.int (nI j), .int (nI 4)]) 2 (c_X5_requirePlace l hg x j 4 (by omega) (by omega)) (va_cwS 2 C.1.2.2.2.2 gX5_counters_X5_requirePlace rfl rfl rfl (by decide +kernel) ⟨Nat.le_of_ble_eq_true rfl, Nat.le_of_ble_eq_true rfl⟩) rfl rfl (Nat.le_of_ble_eq_true rfl) ⟨Nat.le_of_ble_eq_true rfl, Nat.le_of_ble_eq_true rfl⟩ dX5_counters_2 (fun u hu => ?_)
  subst u
  have h8 := hRj.2.2.2.2.2.2.2.1
  refine z_aload_n 5 C dX5_counters_5 rfl 0 rfl ?_
  refine z_getr 6 C (ref := "Countcote") (T := TX5) (N := 1) (ci := 5) (q := 0) kR_streams rfl hinX5 (by decide) rfl hw_f11 dX5_counters_6 ?_
  refine z_iload_n 9 C dX5_counters_9 rfl 1 rfl ?_
  refine z_aald 10 C kQ_streams rfl (by omega) dX5_counters_10 ?_
  refine z_getr 11 C (ref := "Countcote$Stream") (T := TX4) (N := 4) (ci := 4) (q := 3) (kR_few hj) rfl hinX4 (by decide) rfl hw_f116 dX5_counters_11 ?_
  refine z_getiN (v := nI ((S.2.2.1 j).length)) 14 C (ref := "Countcote$FewCounters") (T := TX1) (N := 4) (ci := 1) (q := 2) (kF_used hj) rfl hinX1 (by decide) rfl hw_n120 (by rw [(hRj.2.2.2.2.2.1)]) dX5_counters_14 ?_
  exact z_iret 17 C hr ⟨rfl, rfl⟩ dX5_counters_17
set_option maxHeartbeats 4000000 in
set_option maxRecDepth 100000 in
/-- X5_taken -/
theorem c_X5_taken (l : Launch) {g : zG} (hg : zOk g) (x : zT) (S : zS) (hA : zAll x S) (j : Nat) (hj : j < 4) : Met l yX5_taken wsX5_taken ({ frames := 1, cells := 0, slots := 0, locals := 21 }) (va_Pc [.ref (zad g 0), .int (nI j)] (zPre g x)) (va_Qi (fun (r : Int32) (u : zT) => u = x ∧ r = S.2.2.2 j) (zB g) (zA g)) 0 0 (zA g) := by
  refine z_met (cc := cX5_taken) (nL := 2) (ret := (some .int)) hg (by decide) rfl (Nat.le_of_ble_eq_true rfl) ?_
  intro p_ e_ s_ m_ args_ below_ meth_ c_ C hr
  show Z p_ l e_ _ s_ m_ args_ below_ meth_ c_ g 2 0 0 _ x 0 [(0, .ref (zad g 0)), (1, .int (nI j))] []
  have hw_f11 := C.1.2.2.2.2 (.fieldLink RX5 11 "Countcote" "streams" "[LCountcote$Stream;") (by decide +kernel)
  have hinX5 : ∀ w ∈ wsX50, w ∈ wsX5_taken := by decide +kernel
  have hw_f116 := C.1.2.2.2.2 (.fieldLink RX5 116 "Countcote$Stream" "few" "LCountcote$FewCounters;") (by decide +kernel)
  have hinX4 : ∀ w ∈ wsX40, w ∈ wsX5_taken := by decide +kernel
  have hw_n133 := va_Nw.use (A := args_) rfl (C.2.2.2.2.1.2.1 _ (List.mem_of_getElem? (i := 2) rfl))
  have hinX1 : ∀ w ∈ wsX10, w ∈ wsX5_taken := by decide +kernel
  have hRj := hA j hj
  refine z_iload_n 0 C dX5_taken_0 rfl 1 rfl ?_
  refine z_iconst (v := nI 4) 1 C dX5_taken_1 rfl ?_
  refine z_callSv 2 C (As := [.int (nI j), .int (nI 4)]) 2 (c_X5_requirePlace l hg x j 4 (by omega) (by omega)) (va_cwS 2 C.1.2.2.2.2 gX5_taken_X5_requirePlace rfl rfl rfl (by decide +kernel) ⟨Nat.le_of_ble_eq_true rfl, Nat.le_of_ble_eq_true rfl⟩) rfl rfl (Nat.le_of_ble_eq_true rfl) ⟨Nat.le_of_ble_eq_true rfl, Nat.le_of_ble_eq_true rfl⟩ dX5_taken_2 (fun u hu => ?_)
  subst u
  refine z_aload_n 5 C dX5_taken_5 rfl 0 rfl ?_
  refine z_getr 6 C (ref := "Countcote") (T := TX5) (N := 1) (ci := 5) (q := 0) kR_streams rfl hinX5 (by decide) rfl hw_f11 dX5_taken_6 ?_
  refine z_iload_n 9 C dX5_taken_9 rfl 1 rfl ?_
  refine z_aald 10 C kQ_streams rfl (by omega) dX5_taken_10 ?_
  refine z_getr 11 C (ref := "Countcote$Stream") (T := TX4) (N := 4) (ci := 4) (q := 3) (kR_few hj) rfl hinX4 (by decide) rfl hw_f116 dX5_taken_11 ?_
  refine z_getiN (v := (x.1 (zp j 13)) 1) 14 C (ref := "Countcote$FewCounters") (T := TX1) (N := 4) (ci := 1) (q := 3) (kF_away hj) rfl hinX1 (by decide) rfl hw_n133 rfl dX5_taken_14 ?_
  exact z_iret 17 C hr ⟨rfl, hRj.2.2.2.2.2.2.1⟩ dX5_taken_17
set_option maxHeartbeats 4000000 in
set_option maxRecDepth 100000 in
/-- X5_counterOf -/
theorem c_X5_counterOf (l : Launch) {g : zG} (hg : zOk g) (x : zT) (S : zS) (hA : zAll x S) (j : Nat) (hj : j < 4) (i : Nat) (hi : i < 64) : Met l yX5_counterOf wsX5_counterOf ({ frames := 2, cells := 0, slots := 0, locals := 44 }) (va_Pc [.ref (zad g 0), .int (nI j), .int (nI i)] (zPre g x)) (va_Qi (fun (r : Int32) (u : zT) => u = x ∧ r = zwt (S.2.2.1 j) (nI i)) (zB g) (zA g)) 0 0 (zA g) := by
  refine z_met (cc := cX5_counterOf) (nL := 3) (ret := (some .int)) hg (by decide) rfl (Nat.le_of_ble_eq_true rfl) ?_
  intro p_ e_ s_ m_ args_ below_ meth_ c_ C hr
  show Z p_ l e_ _ s_ m_ args_ below_ meth_ c_ g 3 0 0 _ x 0 [(0, .ref (zad g 0)), (1, .int (nI j)), (2, .int (nI i))] []
  have hw_f11 := C.1.2.2.2.2 (.fieldLink RX5 11 "Countcote" "streams" "[LCountcote$Stream;") (by decide +kernel)
  have hinX5 : ∀ w ∈ wsX50, w ∈ wsX5_counterOf := by decide +kernel
  have hw_f116 := C.1.2.2.2.2 (.fieldLink RX5 116 "Countcote$Stream" "few" "LCountcote$FewCounters;") (by decide +kernel)
  have hinX4 : ∀ w ∈ wsX40, w ∈ wsX5_counterOf := by decide +kernel
  have hRj := hA j hj
  refine z_iload_n 0 C dX5_counterOf_0 rfl 1 rfl ?_
  refine z_iconst (v := nI 4) 1 C dX5_counterOf_1 rfl ?_
  refine z_callSv 2 C (As := [.int (nI j), .int (nI 4)]) 2 (c_X5_requirePlace l hg x j 4 (by omega) (by omega)) (va_cwS 2 C.1.2.2.2.2 gX5_counterOf_X5_requirePlace rfl rfl rfl (by decide +kernel) ⟨Nat.le_of_ble_eq_true rfl, Nat.le_of_ble_eq_true rfl⟩) rfl rfl (Nat.le_of_ble_eq_true rfl) ⟨Nat.le_of_ble_eq_true rfl, Nat.le_of_ble_eq_true rfl⟩ dX5_counterOf_2 (fun u hu => ?_)
  subst u
  refine z_iload_n 5 C dX5_counterOf_5 rfl 2 rfl ?_
  refine z_bipush (v := nI 64) 6 C dX5_counterOf_6 rfl ?_
  refine z_callSv 8 C (As := [.int (nI i), .int (nI 64)]) 2 (c_X5_requirePlace l hg x i 64 (by omega) (by omega)) (va_cwS 2 C.1.2.2.2.2 gX5_counterOf_X5_requirePlace rfl rfl rfl (by decide +kernel) ⟨Nat.le_of_ble_eq_true rfl, Nat.le_of_ble_eq_true rfl⟩) rfl rfl (Nat.le_of_ble_eq_true rfl) ⟨Nat.le_of_ble_eq_true rfl, Nat.le_of_ble_eq_true rfl⟩ dX5_counterOf_8 (fun u hu => ?_)
  subst u
  refine z_aload_n 11 C dX5_counterOf_11 rfl 0 rfl ?_
  refine z_getr 12 C (ref := "Countcote") (T := TX5) (N := 1) (ci := 5) (q := 0) kR_streams rfl hinX5 (by decide) rfl hw_f11 dX5_counterOf_12 ?_
  refine z_iload_n 15 C dX5_counterOf_15 rfl 1 rfl ?_
  refine z_aald 16 C kQ_streams rfl (by omega) dX5_counterOf_16 ?_
  refine z_getr 17 C (ref := "Countcote$Stream") (T := TX4) (N := 4) (ci := 4) (q := 3) (kR_few hj) rfl hinX4 (by decide) rfl hw_f116 dX5_counterOf_17 ?_
  refine z_iload_n 20 C dX5_counterOf_20 rfl 2 rfl ?_
  refine z_callVi 21 C (As := [.int (nI i)]) 1 (kO_few hj) rfl (c_X1_weightOf l hg x j hj (S.2.2.1 j) (S.2.2.2 j) hRj.2.2.2.2.2 (nI i)) (cwV 1 C.1.2.2.2.2 gX5_counterOf_X1_weightOf rfl rfl rfl (by decide +kernel) ⟨Nat.le_of_ble_eq_true rfl, Nat.le_of_ble_eq_true rfl⟩) rfl rfl (Nat.le_of_ble_eq_true rfl) ⟨Nat.le_of_ble_eq_true rfl, Nat.le_of_ble_eq_true rfl⟩ dX5_counterOf_21 (fun r u hu => ?_)
  obtain ⟨hu1, hu2⟩ := hu
  subst u
  subst r
  exact z_iret 24 C hr ⟨rfl, rfl⟩ dX5_counterOf_24
