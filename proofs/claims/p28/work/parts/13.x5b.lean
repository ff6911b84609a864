theorem zddiv_ok {a t : Int32} (h : ¬ t = 0) : vf_n64 (FP.ddiv (FP.i2d a) (FP.i2d t)) := by
  have h0 : Jvm.FP.Core.dIsNaN (FP.ddiv (FP.i2d a) (FP.i2d t)) = false := Jvm.FP.Core.ddiv_out (by rw [Jvm.FP.Core.notNaN_iff]; exact (Jvm.FP.Core.i2d_fin a).ne_nan) (Jvm.FP.Core.i2d_fin t) (fun z => Jvm.FP.Core.i2d_ne_zero h ((Jvm.FP.Core.zero_bits2 _).mp z))
  unfold vf_n64
  rw [UInt64.le_iff_toNat_le, UInt64.toNat_and]
  have h1 : (0x7fffffffffffffff : UInt64).toNat = 2 ^ 63 - 1 := by decide
  have h2 : (0x7ff0000000000000 : UInt64).toNat = 9218868437227405312 := by decide
  rw [h1, h2, Nat.and_two_pow_sub_one_eq_mod]
  rw [← Bool.not_eq_true, Jvm.FP.Core.isNaN_bits] at h0
  omega
theorem zcl {j : Nat} (h : j < 1000) : (nI j).toNatClampNeg = j := nI_clamp (by omega)
def zshare (c d : Nat → Int32) (i : Nat) : UInt64 := if ztot c = 0 then FP.dconst0 else FP.ddiv (FP.i2d (zest c d 0 i)) (FP.i2d (ztot c))
def zlm (n : Nat) : Int32 := nI n + (-1)
theorem zlm_s (n : Nat) : zlm (n + 1) = nI n := pk_m1 n
theorem zlm_0 : zlm 0 < 0 := by decide
theorem zlm_nn {n : Nat} (h : ¬ zlm n < 0) : ∃ q, n = q + 1 := by
  cases n with
  | zero => exact absurd zlm_0 h
  | succ q => exact ⟨q, rfl⟩
theorem zlm_n0 {n : Nat} (hn : n < 1000) (h : zlm n < 0) : n = 0 := by
  cases n with
  | zero => rfl
  | succ q =>
    rw [zlm_s] at h
    exact absurd h (nI_pos (by omega))
theorem zpt_s {a b : Nat} (h : a ≤ b) (hb : b < 64) : zparts 65 a b = zparts 65 (a + 2 ^ zlev a b) b + 1 := by
  have hp := zlev_pos a b
  rw [zparts_s h, zparts_fuel (n := 64) (m := 65) (by omega) (by omega)]
theorem zer_s {c d : Nat → Int32} {a b : Nat} (h : a ≤ b) (hb : b < 64) : zestR c d 65 a b = zest c d (zlev a b) (a / 2 ^ zlev a b) + zestR c d 65 (a + 2 ^ zlev a b) b := by
  have hp := zlev_pos a b
  rw [zestR_s h, zestR_fuel (n := 64) (m := 65) (by omega) (by omega)]
theorem zfit_and {a : Nat} (lev : Nat) : a &&& (1 * 2 ^ lev - 1) = a % 2 ^ lev := by
  rw [Nat.one_mul, Nat.and_two_pow_sub_one_eq_mod]
theorem zpow_b {lev : Nat} (h : lev ≤ 6) : 1 ≤ 2 ^ lev ∧ 2 ^ lev ≤ 64 := by
  have h9 : lev = 0 ∨ lev = 1 ∨ lev = 2 ∨ lev = 3 ∨ lev = 4 ∨ lev = 5 ∨ lev = 6 := by omega
  rcases h9 with e | e | e | e | e | e | e <;> subst e <;> omega
theorem zfit_y {lev a b : Nat} (h1 : a &&& (1 * 2 ^ lev - 1) = 0) (h2 : a + 1 * 2 ^ lev - 1 ≤ b) : zfit lev a b = true := by
  unfold zfit
  rw [zfit_and] at h1
  have := Nat.one_le_two_pow (n := lev)
  rw [decide_eq_true h1, decide_eq_true (by omega)]
  rfl
theorem zfit_n1 {lev a b : Nat} (h1 : a &&& (1 * 2 ^ lev - 1) ≠ 0) : zfit lev a b = false := by
  unfold zfit
  rw [zfit_and] at h1
  rw [decide_eq_false h1]
  rfl
theorem zfit_n2 {lev a b : Nat} (h2 : b < a + 1 * 2 ^ lev - 1) : zfit lev a b = false := by
  unfold zfit
  rw [decide_eq_false (p := a + 2 ^ lev ≤ b + 1) (by omega), Bool.and_false]
set_option maxHeartbeats 4000000 in
set_option maxRecDepth 100000 in
/-- X5_isHalfWithin -/
theorem c_X5_isHalfWithin (l : Launch) {g : zG} (hg : zOk g) (x : zT) (lev a b : Nat) (hlev : lev ≤ 6) (ha : a < 64) (hb : b < 64) : Met l yX5_isHalfWithin wsX5_isHalfWithin ({ frames := 0, cells := 0, slots := 0, locals := 0 }) (va_Pc [.int (nI lev), .int (nI a), .int (nI b)] (zPre g x)) (va_Qi (fun (r : Int32) (u : zT) => u = x ∧ ((r = nI 1 ∧ zfit lev a b = true) ∨ (r = nI 0 ∧ zfit lev a b = false))) (zB g) (zA g)) 0 0 (zA g) := by
  refine z_met (cc := cX5_isHalfWithin) (nL := 4) (ret := (some .boolean)) hg (by decide) rfl (Nat.le_of_ble_eq_true rfl) ?_
  intro p_ e_ s_ m_ args_ below_ meth_ c_ C hr
  show Z p_ l e_ _ s_ m_ args_ below_ meth_ c_ g 4 0 0 _ x 0 [(0, .int (nI lev)), (1, .int (nI a)), (2, .int (nI b))] []
  have hpw := zpow_b hlev
  have hmz := zfit_and (a := a) lev
  have hmm := Nat.mod_le a (2 ^ lev)
  refine z_iconst (v := nI 1) 0 C dX5_isHalfWithin_0 rfl ?_
  refine z_iload_n 1 C dX5_isHalfWithin_1 rfl 0 rfl ?_
  refine z_ishl (v := nI (1 * 2 ^ lev)) 2 C dX5_isHalfWithin_2 (zn_shl 1 lev (by omega)) ?_
  refine z_istore_n (lv' := [(3, .int (nI (1 * 2 ^ lev))), (0, .int (nI lev)), (1, .int (nI a)), (2, .int (nI b))]) 3 C dX5_isHalfWithin_3 rfl (by decide) rfl ?_
  refine z_iload_n 4 C dX5_isHalfWithin_4 rfl 2 rfl ?_
  refine z_iload_n 5 C dX5_isHalfWithin_5 rfl 0 rfl ?_
  refine z_iconst (v := nI 1) 6 C dX5_isHalfWithin_6 rfl ?_
  refine z_isub (v := nI ((1 * 2 ^ lev) - 1)) 7 C dX5_isHalfWithin_7 (pk_sub (by omega)) ?_
  refine z_iand (v := nI (a &&& ((1 * 2 ^ lev) - 1))) 8 C dX5_isHalfWithin_8 (zn_and a ((1 * 2 ^ lev) - 1)) ?_
  refine z_if_neN 9 C 25 dX5_isHalfWithin_9 (by decide) (by omega) (fun h9 => ?_) (fun h9 => ?_)
  · refine z_iconst (v := nI 0) 25 C dX5_isHalfWithin_25 rfl ?_
    exact z_zret 26 C hr rfl ⟨rfl, Or.inr ⟨rfl, by first | exact zfit_n1 h9 | exact zfit_n2 h18⟩⟩ dX5_isHalfWithin_26
  · refine z_iload_n 12 C dX5_isHalfWithin_12 rfl 2 rfl ?_
    refine z_iload_n 13 C dX5_isHalfWithin_13 rfl 0 rfl ?_
    refine z_iadd (v := nI (a + (1 * 2 ^ lev))) 14 C dX5_isHalfWithin_14 (nI_add a (1 * 2 ^ lev)) ?_
    refine z_iconst (v := nI 1) 15 C dX5_isHalfWithin_15 rfl ?_
    refine z_isub (v := nI ((a + (1 * 2 ^ lev)) - 1)) 16 C dX5_isHalfWithin_16 (pk_sub (by omega)) ?_
    refine z_iload_n 17 C dX5_isHalfWithin_17 rfl 3 rfl ?_
    refine z_icmp_gtN 18 C 25 dX5_isHalfWithin_18 (by decide) (by omega) (by omega) (fun h18 => ?_) (fun h18 => ?_)
    · refine z_iconst (v := nI 0) 25 C dX5_isHalfWithin_25 rfl ?_
      exact z_zret 26 C hr rfl ⟨rfl, Or.inr ⟨rfl, by first | exact zfit_n1 h9 | exact zfit_n2 h18⟩⟩ dX5_isHalfWithin_26
    · refine z_iconst (v := nI 1) 21 C dX5_isHalfWithin_21 rfl ?_
      refine z_goto 22 C 26 dX5_isHalfWithin_22 (by decide) ?_
      exact z_zret 26 C hr rfl ⟨rfl, Or.inl ⟨rfl, zfit_y h9 h18⟩⟩ dX5_isHalfWithin_26
set_option maxHeartbeats 4000000 in
set_option maxRecDepth 100000 in
/-- X5_greatestLevel -/
theorem c_X5_greatestLevel (l : Launch) {g : zG} (hg : zOk g) (x : zT) (a b : Nat) (hab : a ≤ b) (hb : b < 64) : Met l yX5_greatestLevel wsX5_greatestLevel ({ frames := 1, cells := 0, slots := 0, locals := 23 }) (va_Pc [.int (nI a), .int (nI b)] (zPre g x)) (va_Qi (fun (r : Int32) (u : zT) => u = x ∧ r = nI (zlev a b)) (zB g) (zA g)) 0 0 (zA g) := by
  refine z_met (cc := cX5_greatestLevel) (nL := 3) (ret := (some .int)) hg (by decide) rfl (Nat.le_of_ble_eq_true rfl) ?_
  intro p_ e_ s_ m_ args_ below_ meth_ c_ C hr
  show Z p_ l e_ _ s_ m_ args_ below_ meth_ c_ g 3 0 0 _ x 0 [(0, .int (nI a)), (1, .int (nI b))] []
  refine z_iconst (v := nI 0) 0 C dX5_greatestLevel_0 rfl ?_
  refine z_istore_n (lv' := [(2, .int (nI 0)), (0, .int (nI a)), (1, .int (nI b))]) 1 C dX5_greatestLevel_1 rfl (by decide) rfl ?_
  have J2 : ∀ (n2 : Nat) (k : Nat), (k ≤ 6) → (6 < k + n2) → (zfit k a b = true) → Z p_ l e_ (headSpec wsX5_greatestLevel ({ frames := 1, cells := 0, slots := 0, locals := 23 })).room s_ m_ args_ below_ meth_ c_ g 3 0 0 (MQ below_ (va_Qi (fun (r : Int32) (u : zT) => u = x ∧ r = nI (zlev a b)) (zB g) (zA g)) args_ s_ 0 0 (zA g)) x 2 [(0, .int (nI a)), (1, .int (nI b)), (2, .int (nI k))] [] := by
    intro n2
    induction n2 with
    | zero => intro k hk hn hf; exact absurd hn (by omega)
    | succ n2 ih2 =>
      intro k hk hn hf
      refine z_iload_n 2 C dX5_greatestLevel_2 rfl 2 rfl ?_
      refine z_bipush (v := nI 6) 3 C dX5_greatestLevel_3 rfl ?_
      refine z_icmp_geN 5 C 25 dX5_greatestLevel_5 (by decide) (by omega) (by omega) (fun h5 => ?_) (fun h5 => ?_)
      · refine z_iload_n 25 C dX5_greatestLevel_25 rfl 2 rfl ?_
        exact z_iret 26 C hr ⟨rfl, by rw [zlev_eq hk hf (by first | exact Or.inr hft | exact Or.inl (by omega)) hab]⟩ dX5_greatestLevel_26
      · refine z_iload_n 8 C dX5_greatestLevel_8 rfl 2 rfl ?_
        refine z_iconst (v := nI 1) 9 C dX5_greatestLevel_9 rfl ?_
        refine z_iadd (v := nI (k + 1)) 10 C dX5_greatestLevel_10 (nI_add k 1) ?_
        refine z_iload_n 11 C dX5_greatestLevel_11 rfl 0 rfl ?_
        refine z_iload_n 12 C dX5_greatestLevel_12 rfl 1 rfl ?_
        refine z_callSi 13 C (As := [.int (nI (k + 1)), .int (nI a), .int (nI b)]) 3 (c_X5_isHalfWithin l hg x (k + 1) a b (by omega) (by omega) (by omega)) (va_cwS 3 C.1.2.2.2.2 gX5_greatestLevel_X5_isHalfWithin rfl rfl rfl (by decide +kernel) ⟨Nat.le_of_ble_eq_true rfl, Nat.le_of_ble_eq_true rfl⟩) rfl rfl (Nat.le_of_ble_eq_true rfl) ⟨Nat.le_of_ble_eq_true rfl, Nat.le_of_ble_eq_true rfl⟩ dX5_greatestLevel_13 (fun r u hu => ?_)
        obtain ⟨hu1, hu2⟩ := hu
        subst u
        rcases hu2 with ⟨hr9, hft⟩ | ⟨hr9, hft⟩
        · subst r
          refine z_if_eqN 16 C 25 dX5_greatestLevel_16 (by decide) (by omega) (fun h16 => absurd h16 (by omega)) (fun h16 => ?_)
          refine z_iinc (v' := nI (k + 1)) (lv' := [(2, .int (nI (k + 1))), (0, .int (nI a)), (1, .int (nI b))]) 19 C dX5_greatestLevel_19 (q := 2) rfl (zn_inc k 1) (by decide) rfl ?_
          refine z_goto 22 C 2 dX5_greatestLevel_22 (by decide) ?_
          refine z_lv (lv' := [(0, .int (nI a)), (1, .int (nI b)), (2, .int (nI (k + 1)))]) [1, 2, 0] rfl ?_
          exact ih2 (k + 1) (by omega) (by omega) hft
        · subst r
          refine z_if_eqN 16 C 25 dX5_greatestLevel_16 (by decide) (by omega) (fun h16 => ?_) (fun h16 => absurd h16 (by omega))
          refine z_iload_n 25 C dX5_greatestLevel_25 rfl 2 rfl ?_
          exact z_iret 26 C hr ⟨rfl, by rw [zlev_eq hk hf (by first | exact Or.inr hft | exact Or.inl (by omega)) hab]⟩ dX5_greatestLevel_26
  refine z_lv (lv' := [(0, .int (nI a)), (1, .int (nI b)), (2, .int (nI 0))]) [1, 2, 0] rfl ?_
  exact J2 7 0 (Nat.zero_le _) (by omega) (zfit_0 hab)
set_option maxHeartbeats 4000000 in
set_option maxRecDepth 100000 in
/-- X5_parts -/
theorem c_X5_parts (l : Launch) {g : zG} (hg : zOk g) (x : zT) (S : zS) (hA : zAll x S) (a b : Nat) (hab : a ≤ b) (hb : b < 64) : Met l yX5_parts wsX5_parts ({ frames := 2, cells := 0, slots := 0, locals := 45 }) (va_Pc [.ref (zad g 0), .int (nI a), .int (nI b)] (zPre g x)) (va_Qi (fun (r : Int32) (u : zT) => u = x ∧ r = nI (zparts 65 a b)) (zB g) (zA g)) 0 0 (zA g) := by
  refine z_met (cc := cX5_parts) (nL := 5) (ret := (some .int)) hg (by decide) rfl (Nat.le_of_ble_eq_true rfl) ?_
  intro p_ e_ s_ m_ args_ below_ meth_ c_ C hr
  show Z p_ l e_ _ s_ m_ args_ below_ meth_ c_ g 5 0 0 _ x 0 [(0, .ref (zad g 0)), (1, .int (nI a)), (2, .int (nI b))] []
  refine z_iload_n 0 C dX5_parts_0 rfl 1 rfl ?_
  refine z_iload_n 1 C dX5_parts_1 rfl 2 rfl ?_
  refine z_callSv 2 C (As := [.int (nI a), .int (nI b)]) 2 (c_X5_requireRange l hg x a b hab hb) (va_cwS 2 C.1.2.2.2.2 gX5_parts_X5_requireRange rfl rfl rfl (by decide +kernel) ⟨Nat.le_of_ble_eq_true rfl, Nat.le_of_ble_eq_true rfl⟩) rfl rfl (Nat.le_of_ble_eq_true rfl) ⟨Nat.le_of_ble_eq_true rfl, Nat.le_of_ble_eq_true rfl⟩ dX5_parts_2 (fun u hu => ?_)
  subst u
  refine z_iconst (v := nI 0) 5 C dX5_parts_5 rfl ?_
  refine z_istore_n (lv' := [(3, .int (nI 0)), (0, .ref (zad g 0)), (1, .int (nI a)), (2, .int (nI b))]) 6 C dX5_parts_6 rfl (by decide) rfl ?_
  refine z_iload_n 7 C dX5_parts_7 rfl 2 rfl ?_
  refine z_istore (lv' := [(4, .int (nI a)), (3, .int (nI 0)), (0, .ref (zad g 0)), (1, .int (nI a)), (2, .int (nI b))]) 8 C dX5_parts_8 (by decide) rfl ?_
  have J10 : ∀ (n10 : Nat) (i : Nat) (n : Nat), (i ≤ b + 1) → (b + 1 < i + n10) → (n + zparts 65 i b = zparts 65 a b) → Z p_ l e_ (headSpec wsX5_parts ({ frames := 2, cells := 0, slots := 0, locals := 45 })).room s_ m_ args_ below_ meth_ c_ g 5 0 0 (MQ below_ (va_Qi (fun (r : Int32) (u : zT) => u = x ∧ r = nI (zparts 65 a b)) (zB g) (zA g)) args_ s_ 0 0 (zA g)) x 10 [(0, .ref (zad g 0)), (1, .int (nI a)), (2, .int (nI b)), (3, .int (nI n)), (4, .int (nI i))] [] := by
    intro n10
    induction n10 with
    | zero => intro i n hi hn hp; exact absurd hn (by omega)
    | succ n10 ih10 =>
      intro i n hi hn hp
      refine z_iload 10 C dX5_parts_10 4 rfl ?_
      refine z_iload_n 12 C dX5_parts_12 rfl 2 rfl ?_
      refine z_icmp_gtN 13 C 35 dX5_parts_13 (by decide) (by omega) (by omega) (fun h13 => ?_) (fun h13 => ?_)
      · refine z_iload_n 35 C dX5_parts_35 rfl 3 rfl ?_
        exact z_iret 36 C hr ⟨rfl, by rw [← hp, zparts_e h13]; rfl⟩ dX5_parts_36
      · refine z_iload 16 C dX5_parts_16 4 rfl ?_
        refine z_iconst (v := nI 1) 18 C dX5_parts_18 rfl ?_
        refine z_iload 19 C dX5_parts_19 4 rfl ?_
        refine z_iload_n 21 C dX5_parts_21 rfl 2 rfl ?_
        refine z_callSi 22 C (As := [.int (nI i), .int (nI b)]) 2 (c_X5_greatestLevel l hg x i b (by omega) (by omega)) (va_cwS 2 C.1.2.2.2.2 gX5_parts_X5_greatestLevel rfl rfl rfl (by decide +kernel) ⟨Nat.le_of_ble_eq_true rfl, Nat.le_of_ble_eq_true rfl⟩) rfl rfl (Nat.le_of_ble_eq_true rfl) ⟨Nat.le_of_ble_eq_true rfl, Nat.le_of_ble_eq_true rfl⟩ dX5_parts_22 (fun r u hu => ?_)
        obtain ⟨hu1, hu2⟩ := hu
        subst u
        subst r
        have hlv := zlev_le i b
        have hlp := zlev_pos i b
        have hlf := zlev_fit (show i ≤ b by omega)
        have hpw := zpow_b hlv
        refine z_ishl (v := nI (1 * 2 ^ (zlev i b))) 25 C dX5_parts_25 (zn_shl 1 (zlev i b) (by omega)) ?_
        refine z_iadd (v := nI (i + (1 * 2 ^ (zlev i b)))) 26 C dX5_parts_26 (nI_add i (1 * 2 ^ (zlev i b))) ?_
        refine z_istore (lv' := [(4, .int (nI (i + (1 * 2 ^ (zlev i b))))), (0, .ref (zad g 0)), (1, .int (nI a)), (2, .int (nI b)), (3, .int (nI n))]) 27 C dX5_parts_27 (by decide) rfl ?_
        refine z_iinc (v' := nI (n + 1)) (lv' := [(3, .int (nI (n + 1))), (4, .int (nI (i + (1 * 2 ^ (zlev i b))))), (0, .ref (zad g 0)), (1, .int (nI a)), (2, .int (nI b))]) 29 C dX5_parts_29 (q := 4) rfl (zn_inc n 1) (by decide) rfl ?_
        refine z_goto 32 C 10 dX5_parts_32 (by decide) ?_
        refine z_lv (lv' := [(0, .ref (zad g 0)), (1, .int (nI a)), (2, .int (nI b)), (3, .int (nI (n + 1))), (4, .int (nI (i + (1 * 2 ^ (zlev i b)))))]) [2, 3, 4, 0, 1] rfl ?_
        exact ih10 (i + 1 * 2 ^ zlev i b) (n + 1) (by omega) (by omega) (by rw [← hp, zpt_s h13 hb, Nat.one_mul]; omega)
  refine z_lv (lv' := [(0, .ref (zad g 0)), (1, .int (nI a)), (2, .int (nI b)), (3, .int (nI 0)), (4, .int (nI a))]) [2, 3, 4, 1, 0] rfl ?_
  exact J10 (b + 2) a 0 (by omega) (by omega) (Nat.zero_add _)
set_option maxHeartbeats 4000000 in
set_option maxRecDepth 100000 in
/-- X5_estimateOfRange -/
theorem c_X5_estimateOfRange (l : Launch) {g : zG} (hg : zOk g) (x : zT) (S : zS) (hA : zAll x S) (j : Nat) (hj : j < 4) (a b : Nat) (hab : a ≤ b) (hb : b < 64) : Met l yX5_estimateOfRange wsX5_estimateOfRange ({ frames := 4, cells := 0, slots := 0, locals := 87 }) (va_Pc [.ref (zad g 0), .int (nI j), .int (nI a), .int (nI b)] (zPre g x)) (va_Qi (fun (r : Int32) (u : zT) => u = x ∧ r = zestR (S.1 j) (S.2.1 j) 65 a b) (zB g) (zA g)) 0 0 (zA g) := by
  refine z_met (cc := cX5_estimateOfRange) (nL := 7) (ret := (some .int)) hg (by decide) rfl (Nat.le_of_ble_eq_true rfl) ?_
  intro p_ e_ s_ m_ args_ below_ meth_ c_ C hr
  show Z p_ l e_ _ s_ m_ args_ below_ meth_ c_ g 7 0 0 _ x 0 [(0, .ref (zad g 0)), (1, .int (nI j)), (2, .int (nI a)), (3, .int (nI b))] []
  have hw_f11 := C.1.2.2.2.2 (.fieldLink RX5 11 "Countcote" "streams" "[LCountcote$Stream;") (by decide +kernel)
  have hinX5 : ∀ w ∈ wsX50, w ∈ wsX5_estimateOfRange := by decide +kernel
  have hRj := hA j hj
  refine z_iload_n 0 C dX5_estimateOfRange_0 rfl 1 rfl ?_
  refine z_iconst (v := nI 4) 1 C dX5_estimateOfRange_1 rfl ?_
  refine z_callSv 2 C (As := [.int (nI j), .int (nI 4)]) 2 (c_X5_requirePlace l hg x j 4 (by omega) (by omega)) (va_cwS 2 C.1.2.2.2.2 gX5_estimateOfRange_X5_requirePlace rfl rfl rfl (by decide +kernel) ⟨Nat.le_of_ble_eq_true rfl, Nat.le_of_ble_eq_true rfl⟩) rfl rfl (Nat.le_of_ble_eq_true rfl) ⟨Nat.le_of_ble_eq_true rfl, Nat.le_of_ble_eq_true rfl⟩ dX5_estimateOfRange_2 (fun u hu => ?_)
  subst u
  refine z_iload_n 5 C dX5_estimateOfRange_5 rfl 2 rfl ?_
  refine z_iload_n 6 C dX5_estimateOfRange_6 rfl 3 rfl ?_
  refine z_callSv 7 C (As := [.int (nI a), .int (nI b)]) 2 (c_X5_requireRange l hg x a b hab hb) (va_cwS 2 C.1.2.2.2.2 gX5_estimateOfRange_X5_requireRange rfl rfl rfl (by decide +kernel) ⟨Nat.le_of_ble_eq_true rfl, Nat.le_of_ble_eq_true rfl⟩) rfl rfl (Nat.le_of_ble_eq_true rfl) ⟨Nat.le_of_ble_eq_true rfl, Nat.le_of_ble_eq_true rfl⟩ dX5_estimateOfRange_7 (fun u hu => ?_)
  subst u
  refine z_iconst (v := nI 0) 10 C dX5_estimateOfRange_10 rfl ?_
  refine z_istore (lv' := [(4, .int (nI 0)), (0, .ref (zad g 0)), (1, .int (nI j)), (2, .int (nI a)), (3, .int (nI b))]) 11 C dX5_estimateOfRange_11 (by decide) rfl ?_
  refine z_iload_n 13 C dX5_estimateOfRange_13 rfl 3 rfl ?_
  refine z_istore (lv' := [(5, .int (nI a)), (4, .int (nI 0)), (0, .ref (zad g 0)), (1, .int (nI j)), (2, .int (nI a)), (3, .int (nI b))]) 14 C dX5_estimateOfRange_14 (by decide) rfl ?_
  have J16 : ∀ (n16 : Nat) (i : Nat) (t : Int32), (i ≤ b + 1) → (b + 1 < i + n16) → (t + zestR (S.1 j) (S.2.1 j) 65 i b = zestR (S.1 j) (S.2.1 j) 65 a b) → Z p_ l e_ (headSpec wsX5_estimateOfRange ({ frames := 4, cells := 0, slots := 0, locals := 87 })).room s_ m_ args_ below_ meth_ c_ g 7 0 0 (MQ below_ (va_Qi (fun (r : Int32) (u : zT) => u = x ∧ r = zestR (S.1 j) (S.2.1 j) 65 a b) (zB g) (zA g)) args_ s_ 0 0 (zA g)) x 16 [(0, .ref (zad g 0)), (1, .int (nI j)), (2, .int (nI a)), (3, .int (nI b)), (4, .int t), (5, .int (nI i))] [] := by
    intro n16
    induction n16 with
    | zero => intro i t hi hn hp; exact absurd hn (by omega)
    | succ n16 ih16 =>
      intro i t hi hn hp
      refine z_iload 16 C dX5_estimateOfRange_16 5 rfl ?_
      refine z_iload_n 18 C dX5_estimateOfRange_18 rfl 3 rfl ?_
      refine z_icmp_gtN 19 C 63 dX5_estimateOfRange_19 (by decide) (by omega) (by omega) (fun h19 => ?_) (fun h19 => ?_)
      · refine z_iload 63 C dX5_estimateOfRange_63 4 rfl ?_
        exact z_iret 65 C hr ⟨rfl, by rw [← hp, zestR_e h19, Int32.add_zero]⟩ dX5_estimateOfRange_65
      · refine z_iload 22 C dX5_estimateOfRange_22 5 rfl ?_
        refine z_iload_n 24 C dX5_estimateOfRange_24 rfl 3 rfl ?_
        refine z_callSi 25 C (As := [.int (nI i), .int (nI b)]) 2 (c_X5_greatestLevel l hg x i b (by omega) (by omega)) (va_cwS 2 C.1.2.2.2.2 gX5_estimateOfRange_X5_greatestLevel rfl rfl rfl (by decide +kernel) ⟨Nat.le_of_ble_eq_true rfl, Nat.le_of_ble_eq_true rfl⟩) rfl rfl (Nat.le_of_ble_eq_true rfl) ⟨Nat.le_of_ble_eq_true rfl, Nat.le_of_ble_eq_true rfl⟩ dX5_estimateOfRange_25 (fun r u hu => ?_)
        obtain ⟨hu1, hu2⟩ := hu
        subst u
        subst r
        have hlv := zlev_le i b
        have hlp := zlev_pos i b
        have hlf := zlev_fit (show i ≤ b by omega)
        have hpw := zpow_b hlv
        refine z_istore (lv' := [(6, .int (nI (zlev i b))), (0, .ref (zad g 0)), (1, .int (nI j)), (2, .int (nI a)), (3, .int (nI b)), (4, .int t), (5, .int (nI i))]) 28 C dX5_estimateOfRange_28 (by decide) rfl ?_
        refine z_iload 30 C dX5_estimateOfRange_30 5 rfl ?_
        refine z_aload_n 32 C dX5_estimateOfRange_32 rfl 1 rfl ?_
        refine z_getr 33 C (ref := "Countcote") (T := TX5) (N := 1) (ci := 5) (q := 0) kR_streams rfl hinX5 (by decide) rfl hw_f11 dX5_estimateOfRange_33 ?_
        refine z_iload_n 36 C dX5_estimateOfRange_36 rfl 2 rfl ?_
        refine z_aald 37 C kQ_streams rfl (by omega) dX5_estimateOfRange_37 ?_
        refine z_iload 38 C dX5_estimateOfRange_38 0 rfl ?_
        refine z_iload 40 C dX5_estimateOfRange_40 6 rfl ?_
        refine z_iload 42 C dX5_estimateOfRange_42 0 rfl ?_
        refine z_ishr (v := nI (i / 2 ^ (zlev i b))) 44 C dX5_estimateOfRange_44 (zn_shr i (zlev i b) (by omega) (by omega)) ?_
        refine z_callVi 45 C (As := [.int (nI (zlev i b)), .int (nI (i / 2 ^ (zlev i b)))]) 2 (kO_stream hj) rfl (c_X4_estimateOf l hg x j hj (S.1 j) (S.2.1 j) (S.2.2.1 j) (S.2.2.2 j) hRj (zlev i b) (i / 2 ^ (zlev i b)) hlv (by have := zhalf_lt (item := i) (lev := zlev i b) (by omega) hlv; omega)) (cwV 2 C.1.2.2.2.2 gX5_estimateOfRange_X4_estimateOf rfl rfl rfl (by decide +kernel) ⟨Nat.le_of_ble_eq_true rfl, Nat.le_of_ble_eq_true rfl⟩) rfl rfl (Nat.le_of_ble_eq_true rfl) ⟨Nat.le_of_ble_eq_true rfl, Nat.le_of_ble_eq_true rfl⟩ dX5_estimateOfRange_45 (fun r u hu => ?_)
        obtain ⟨hu1, hu2⟩ := hu
        subst u
        obtain ⟨v1, ev1⟩ : ∃ y : Int32, y = zest (S.1 j) (S.2.1 j) (zlev i b) (i / 2 ^ (zlev i b)) := ⟨_, rfl⟩
        rw [← ev1] at hu2
        subst r
        refine z_iadd (v := t + v1) 48 C dX5_estimateOfRange_48 rfl ?_
        refine z_istore (lv' := [(4, .int (t + v1)), (6, .int (nI (zlev i b))), (0, .ref (zad g 0)), (1, .int (nI j)), (2, .int (nI a)), (3, .int (nI b)), (5, .int (nI i))]) 49 C dX5_estimateOfRange_49 (by decide) rfl ?_
        refine z_iload 51 C dX5_estimateOfRange_51 6 rfl ?_
        refine z_iconst (v := nI 1) 53 C dX5_estimateOfRange_53 rfl ?_
        refine z_iload 54 C dX5_estimateOfRange_54 1 rfl ?_
        refine z_ishl (v := nI (1 * 2 ^ (zlev i b))) 56 C dX5_estimateOfRange_56 (zn_shl 1 (zlev i b) (by omega)) ?_
        refine z_iadd (v := nI (i + (1 * 2 ^ (zlev i b)))) 57 C dX5_estimateOfRange_57 (nI_add i (1 * 2 ^ (zlev i b))) ?_
        refine z_istore (lv' := [(5, .int (nI (i + (1 * 2 ^ (zlev i b))))), (4, .int (t + v1)), (6, .int (nI (zlev i b))), (0, .ref (zad g 0)), (1, .int (nI j)), (2, .int (nI a)), (3, .int (nI b))]) 58 C dX5_estimateOfRange_58 (by decide) rfl ?_
        refine z_goto 60 C 16 dX5_estimateOfRange_60 (by decide) ?_
        refine z_lv (lv' := [(0, .ref (zad g 0)), (1, .int (nI j)), (2, .int (nI a)), (3, .int (nI b)), (4, .int (t + v1)), (5, .int (nI (i + (1 * 2 ^ (zlev i b)))))]) [3, 4, 5, 6, 1, 0] rfl ?_
        exact ih16 (i + 1 * 2 ^ zlev i b) (t + v1) (by omega) (by omega) (by rw [← hp, zer_s h19 hb, Nat.one_mul, ev1]; exact Int32.add_assoc _ _ _)
  refine z_lv (lv' := [(0, .ref (zad g 0)), (1, .int (nI j)), (2, .int (nI a)), (3, .int (nI b)), (4, .int (nI 0)), (5, .int (nI a))]) [2, 3, 4, 5, 1, 0] rfl ?_
  exact J16 (b + 2) a 0 (by omega) (by omega) (Int32.zero_add _)
set_option maxHeartbeats 4000000 in
set_option maxRecDepth 100000 in
/-- X5_frequent -/
theorem c_X5_frequent (l : Launch) {g : zG} (hg : zOk g) (x : zT) (S : zS) (hA : zAll x S) (j : Nat) (hj : j < 4) (w : Nat) (hw1 : 1 ≤ w) (hw2 : w ≤ 1000000) : Met l yX5_frequent wsX5_frequent ({ frames := 5, cells := 0, slots := 0, locals := 110 }) (va_Pc [.ref (zad g 0), .int (nI j), .int (nI w)] (zPre g x)) (va_Qi (fun (r : Int32) (u : zT) => u = x ∧ r = nI (zfrn (S.1 j) (S.2.1 j) (nI w) 64)) (zB g) (zA g)) 0 0 (zA g) := by
  refine z_met (cc := cX5_frequent) (nL := 5) (ret := (some .int)) hg (by decide) rfl (Nat.le_of_ble_eq_true rfl) ?_
  intro p_ e_ s_ m_ args_ below_ meth_ c_ C hr
  show Z p_ l e_ _ s_ m_ args_ below_ meth_ c_ g 5 0 0 _ x 0 [(0, .ref (zad g 0)), (1, .int (nI j)), (2, .int (nI w))] []
  have hw_k87 := C.1.2.2.2.2 (.constant RX5 87 1000000) (by decide +kernel)
  have hw_f11 := C.1.2.2.2.2 (.fieldLink RX5 11 "Countcote" "streams" "[LCountcote$Stream;") (by decide +kernel)
  have hinX5 : ∀ w ∈ wsX50, w ∈ wsX5_frequent := by decide +kernel
  have hRj := hA j hj
  refine z_iload_n 0 C dX5_frequent_0 rfl 1 rfl ?_
  refine z_iconst (v := nI 4) 1 C dX5_frequent_1 rfl ?_
  refine z_callSv 2 C (As := [.int (nI j), .int (nI 4)]) 2 (c_X5_requirePlace l hg x j 4 (by omega) (by omega)) (va_cwS 2 C.1.2.2.2.2 gX5_frequent_X5_requirePlace rfl rfl rfl (by decide +kernel) ⟨Nat.le_of_ble_eq_true rfl, Nat.le_of_ble_eq_true rfl⟩) rfl rfl (Nat.le_of_ble_eq_true rfl) ⟨Nat.le_of_ble_eq_true rfl, Nat.le_of_ble_eq_true rfl⟩ dX5_frequent_2 (fun u hu => ?_)
  subst u
  refine z_iload_n 5 C dX5_frequent_5 rfl 2 rfl ?_
  refine z_iconst (v := nI 1) 6 C dX5_frequent_6 rfl ?_
  refine z_ldc 7 C (v := nI 1000000) hw_k87 dX5_frequent_7 ?_
  refine z_callSv 9 C (As := [.int (nI w), .int (nI 1), .int (nI 1000000)]) 3 (c_X5_requireWithin l hg x (nI w) (nI 1) (nI 1000000) (fun e => absurd ((nI_ltI (by omega) (by omega)).mp e) (by omega)) ((nI_leI (by omega) (by omega)).mpr (by omega))) (va_cwS 3 C.1.2.2.2.2 gX5_frequent_X5_requireWithin rfl rfl rfl (by decide +kernel) ⟨Nat.le_of_ble_eq_true rfl, Nat.le_of_ble_eq_true rfl⟩) rfl rfl (Nat.le_of_ble_eq_true rfl) ⟨Nat.le_of_ble_eq_true rfl, Nat.le_of_ble_eq_true rfl⟩ dX5_frequent_9 (fun u hu => ?_)
  subst u
  refine z_iconst (v := nI 0) 12 C dX5_frequent_12 rfl ?_
  refine z_istore_n (lv' := [(3, .int (nI 0)), (0, .ref (zad g 0)), (1, .int (nI j)), (2, .int (nI w))]) 13 C dX5_frequent_13 rfl (by decide) rfl ?_
  refine z_iconst (v := nI 0) 14 C dX5_frequent_14 rfl ?_
  refine z_istore (lv' := [(4, .int (nI 0)), (3, .int (nI 0)), (0, .ref (zad g 0)), (1, .int (nI j)), (2, .int (nI w))]) 15 C dX5_frequent_15 (by decide) rfl ?_
  have J17 : ∀ (n17 : Nat) (i : Nat) (n : Nat), (i ≤ 64) → (64 < i + n17) → (n = zfrn (S.1 j) (S.2.1 j) (nI w) i) → Z p_ l e_ (headSpec wsX5_frequent ({ frames := 5, cells := 0, slots := 0, locals := 110 })).room s_ m_ args_ below_ meth_ c_ g 5 0 0 (MQ below_ (va_Qi (fun (r : Int32) (u : zT) => u = x ∧ r = nI (zfrn (S.1 j) (S.2.1 j) (nI w) 64)) (zB g) (zA g)) args_ s_ 0 0 (zA g)) x 17 [(0, .ref (zad g 0)), (1, .int (nI j)), (2, .int (nI w)), (3, .int (nI n)), (4, .int (nI i))] [] := by
    intro n17
    induction n17 with
    | zero => intro i n hi hn hp; exact absurd hn (by omega)
    | succ n17 ih17 =>
      intro i n hi hn hp
      refine z_iload 17 C dX5_frequent_17 4 rfl ?_
      refine z_bipush (v := nI 64) 19 C dX5_frequent_19 rfl ?_
      refine z_icmp_geN 21 C 48 dX5_frequent_21 (by decide) (by omega) (by omega) (fun h21 => ?_) (fun h21 => ?_)
      · refine z_iload_n 48 C dX5_frequent_48 rfl 3 rfl ?_
        exact z_iret 49 C hr ⟨rfl, by rw [hp, show i = 64 by omega]⟩ dX5_frequent_49
      · refine z_aload_n 24 C dX5_frequent_24 rfl 0 rfl ?_
        refine z_getr 25 C (ref := "Countcote") (T := TX5) (N := 1) (ci := 5) (q := 0) kR_streams rfl hinX5 (by decide) rfl hw_f11 dX5_frequent_25 ?_
        refine z_iload_n 28 C dX5_frequent_28 rfl 1 rfl ?_
        refine z_aald 29 C kQ_streams rfl (by omega) dX5_frequent_29 ?_
        refine z_iload 30 C dX5_frequent_30 4 rfl ?_
        refine z_iload_n 32 C dX5_frequent_32 rfl 2 rfl ?_
        refine z_callVi 33 C (As := [.int (nI i), .int (nI w)]) 2 (kO_stream hj) rfl (c_X4_reaches l hg x j hj (S.1 j) (S.2.1 j) (S.2.2.1 j) (S.2.2.2 j) hRj i (by omega) (nI w)) (cwV 2 C.1.2.2.2.2 gX5_frequent_X4_reaches rfl rfl rfl (by decide +kernel) ⟨Nat.le_of_ble_eq_true rfl, Nat.le_of_ble_eq_true rfl⟩) rfl rfl (Nat.le_of_ble_eq_true rfl) ⟨Nat.le_of_ble_eq_true rfl, Nat.le_of_ble_eq_true rfl⟩ dX5_frequent_33 (fun r u hu => ?_)
        obtain ⟨hu1, hu2⟩ := hu
        subst u
        rcases hu2 with ⟨hr9, hfq⟩ | ⟨hr9, hfq⟩
        · subst r
          refine z_if_eqN 36 C 42 dX5_frequent_36 (by decide) (by omega) (fun h36 => absurd h36 (by omega)) (fun h36 => ?_)
          refine z_iinc (v' := nI (n + 1)) (lv' := [(3, .int (nI (n + 1))), (0, .ref (zad g 0)), (1, .int (nI j)), (2, .int (nI w)), (4, .int (nI i))]) 39 C dX5_frequent_39 (q := 3) rfl (zn_inc n 1) (by decide) rfl ?_
          refine z_iinc (v' := nI (i + 1)) (lv' := [(4, .int (nI (i + 1))), (3, .int (nI (n + 1))), (0, .ref (zad g 0)), (1, .int (nI j)), (2, .int (nI w))]) 42 C dX5_frequent_42 (q := 4) rfl (zn_inc i 1) (by decide) rfl ?_
          refine z_goto 45 C 17 dX5_frequent_45 (by decide) ?_
          refine z_lv (lv' := [(0, .ref (zad g 0)), (1, .int (nI j)), (2, .int (nI w)), (3, .int (nI (n + 1))), (4, .int (nI (i + 1)))]) [2, 3, 4, 1, 0] rfl ?_
          exact ih17 (i + 1) (n + 1) (by omega) (by omega) (by rw [hp]; show _ = zfrn (S.1 j) (S.2.1 j) (nI w) i + zfrb (S.1 j) (S.2.1 j) (nI w) i; rw [zfrb_y hfq])
        · subst r
          refine z_if_eqN 36 C 42 dX5_frequent_36 (by decide) (by omega) (fun h36 => ?_) (fun h36 => absurd h36 (by omega))
          refine z_iinc (v' := nI (i + 1)) (lv' := [(4, .int (nI (i + 1))), (0, .ref (zad g 0)), (1, .int (nI j)), (2, .int (nI w)), (3, .int (nI n))]) 42 C dX5_frequent_42 (q := 4) rfl (zn_inc i 1) (by decide) rfl ?_
          refine z_goto 45 C 17 dX5_frequent_45 (by decide) ?_
          refine z_lv (lv' := [(0, .ref (zad g 0)), (1, .int (nI j)), (2, .int (nI w)), (3, .int (nI n)), (4, .int (nI (i + 1)))]) [1, 2, 3, 4, 0] rfl ?_
          exact ih17 (i + 1) n (by omega) (by omega) (by rw [hp]; show _ = zfrn (S.1 j) (S.2.1 j) (nI w) i + zfrb (S.1 j) (S.2.1 j) (nI w) i; rw [zfrb_n hfq, Nat.add_zero])
  refine z_lv (lv' := [(0, .ref (zad g 0)), (1, .int (nI j)), (2, .int (nI w)), (3, .int (nI 0)), (4, .int (nI 0))]) [2, 3, 4, 1, 0] rfl ?_
  exact J17 65 0 0 (Nat.zero_le _) (by omega) rfl
theorem zfq_s {P : Nat → Prop} {i : Nat} (h : ∀ k, k < i → ¬ P k) (hi : ¬ P i) : ∀ k, k < i + 1 → ¬ P k := fun k hk => by
  by_cases e : k = i
  · subst e; exact hi
  · exact h k (by omega)
set_option maxHeartbeats 4000000 in
set_option maxRecDepth 100000 in
/-- X5_frequentAt -/
theorem c_X5_frequentAt (l : Launch) {g : zG} (hg : zOk g) (x : zT) (S : zS) (hA : zAll x S) (j : Nat) (hj : j < 4) (w : Nat) (hw1 : 1 ≤ w) (hw2 : w ≤ 1000000) (pl : Nat) (hpl : pl < 64) (hex : ∃ i, zfrat (S.1 j) (S.2.1 j) (nI w) (nI pl) i) : Met l yX5_frequentAt wsX5_frequentAt ({ frames := 5, cells := 0, slots := 0, locals := 110 }) (va_Pc [.ref (zad g 0), .int (nI j), .int (nI w), .int (nI pl)] (zPre g x)) (va_Qi (fun (r : Int32) (u : zT) => u = x ∧ ∃ i : Nat, zfrat (S.1 j) (S.2.1 j) (nI w) (nI pl) i ∧ r = nI i) (zB g) (zA g)) 0 0 (zA g) := by
  refine z_met (cc := cX5_frequentAt) (nL := 6) (ret := (some .int)) hg (by decide) rfl (Nat.le_of_ble_eq_true rfl) ?_
  intro p_ e_ s_ m_ args_ below_ meth_ c_ C hr
  show Z p_ l e_ _ s_ m_ args_ below_ meth_ c_ g 6 0 0 _ x 0 [(0, .ref (zad g 0)), (1, .int (nI j)), (2, .int (nI w)), (3, .int (nI pl))] []
  have hw_k87 := C.1.2.2.2.2 (.constant RX5 87 1000000) (by decide +kernel)
  have hw_f11 := C.1.2.2.2.2 (.fieldLink RX5 11 "Countcote" "streams" "[LCountcote$Stream;") (by decide +kernel)
  have hinX5 : ∀ w ∈ wsX50, w ∈ wsX5_frequentAt := by decide +kernel
  have hRj := hA j hj
  refine z_iload_n 0 C dX5_frequentAt_0 rfl 1 rfl ?_
  refine z_iconst (v := nI 4) 1 C dX5_frequentAt_1 rfl ?_
  refine z_callSv 2 C (As := [.int (nI j), .int (nI 4)]) 2 (c_X5_requirePlace l hg x j 4 (by omega) (by omega)) (va_cwS 2 C.1.2.2.2.2 gX5_frequentAt_X5_requirePlace rfl rfl rfl (by decide +kernel) ⟨Nat.le_of_ble_eq_true rfl, Nat.le_of_ble_eq_true rfl⟩) rfl rfl (Nat.le_of_ble_eq_true rfl) ⟨Nat.le_of_ble_eq_true rfl, Nat.le_of_ble_eq_true rfl⟩ dX5_frequentAt_2 (fun u hu => ?_)
  subst u
  refine z_iload_n 5 C dX5_frequentAt_5 rfl 2 rfl ?_
  refine z_iconst (v := nI 1) 6 C dX5_frequentAt_6 rfl ?_
  refine z_ldc 7 C (v := nI 1000000) hw_k87 dX5_frequentAt_7 ?_
  refine z_callSv 9 C (As := [.int (nI w), .int (nI 1), .int (nI 1000000)]) 3 (c_X5_requireWithin l hg x (nI w) (nI 1) (nI 1000000) (fun e => absurd ((nI_ltI (by omega) (by omega)).mp e) (by omega)) ((nI_leI (by omega) (by omega)).mpr (by omega))) (va_cwS 3 C.1.2.2.2.2 gX5_frequentAt_X5_requireWithin rfl rfl rfl (by decide +kernel) ⟨Nat.le_of_ble_eq_true rfl, Nat.le_of_ble_eq_true rfl⟩) rfl rfl (Nat.le_of_ble_eq_true rfl) ⟨Nat.le_of_ble_eq_true rfl, Nat.le_of_ble_eq_true rfl⟩ dX5_frequentAt_9 (fun u hu => ?_)
  subst u
  refine z_iconst (v := nI 0) 12 C dX5_frequentAt_12 rfl ?_
  refine z_istore (lv' := [(4, .int (nI 0)), (0, .ref (zad g 0)), (1, .int (nI j)), (2, .int (nI w)), (3, .int (nI pl))]) 13 C dX5_frequentAt_13 (by decide) rfl ?_
  refine z_iconst (v := nI 0) 15 C dX5_frequentAt_15 rfl ?_
  refine z_istore (lv' := [(5, .int (nI 0)), (4, .int (nI 0)), (0, .ref (zad g 0)), (1, .int (nI j)), (2, .int (nI w)), (3, .int (nI pl))]) 16 C dX5_frequentAt_16 (by decide) rfl ?_
  have J18 : ∀ (n18 : Nat) (i : Nat) (n : Nat), (i ≤ 64) → (64 < i + n18) → (n = zfrn (S.1 j) (S.2.1 j) (nI w) i) → (∀ k, k < i → ¬ zfrat (S.1 j) (S.2.1 j) (nI w) (nI pl) k) → Z p_ l e_ (headSpec wsX5_frequentAt ({ frames := 5, cells := 0, slots := 0, locals := 110 })).room s_ m_ args_ below_ meth_ c_ g 6 0 0 (MQ below_ (va_Qi (fun (r : Int32) (u : zT) => u = x ∧ ∃ i : Nat, zfrat (S.1 j) (S.2.1 j) (nI w) (nI pl) i ∧ r = nI i) (zB g) (zA g)) args_ s_ 0 0 (zA g)) x 18 [(0, .ref (zad g 0)), (1, .int (nI j)), (2, .int (nI w)), (3, .int (nI pl)), (4, .int (nI n)), (5, .int (nI i))] [] := by
    intro n18
    induction n18 with
    | zero => intro i n hi hn hp hq; exact absurd hn (by omega)
    | succ n18 ih18 =>
      intro i n hi hn hp hq
      refine z_iload 18 C dX5_frequentAt_18 5 rfl ?_
      refine z_bipush (v := nI 64) 20 C dX5_frequentAt_20 rfl ?_
      refine z_icmp_geN 22 C 58 dX5_frequentAt_22 (by decide) (by omega) (by omega) (fun h22 => (hex.elim (fun k z => (hq k (by have := z.1; omega) z).elim))) (fun h22 => ?_)
      have hn64 := zfrn_le (S.1 j) (S.2.1 j) (nI w) i
      refine z_aload_n 25 C dX5_frequentAt_25 rfl 0 rfl ?_
      refine z_getr 26 C (ref := "Countcote") (T := TX5) (N := 1) (ci := 5) (q := 0) kR_streams rfl hinX5 (by decide) rfl hw_f11 dX5_frequentAt_26 ?_
      refine z_iload_n 29 C dX5_frequentAt_29 rfl 1 rfl ?_
      refine z_aald 30 C kQ_streams rfl (by omega) dX5_frequentAt_30 ?_
      refine z_iload 31 C dX5_frequentAt_31 5 rfl ?_
      refine z_iload_n 33 C dX5_frequentAt_33 rfl 2 rfl ?_
      refine z_callVi 34 C (As := [.int (nI i), .int (nI w)]) 2 (kO_stream hj) rfl (c_X4_reaches l hg x j hj (S.1 j) (S.2.1 j) (S.2.2.1 j) (S.2.2.2 j) hRj i (by omega) (nI w)) (cwV 2 C.1.2.2.2.2 gX5_frequentAt_X4_reaches rfl rfl rfl (by decide +kernel) ⟨Nat.le_of_ble_eq_true rfl, Nat.le_of_ble_eq_true rfl⟩) rfl rfl (Nat.le_of_ble_eq_true rfl) ⟨Nat.le_of_ble_eq_true rfl, Nat.le_of_ble_eq_true rfl⟩ dX5_frequentAt_34 (fun r u hu => ?_)
      obtain ⟨hu1, hu2⟩ := hu
      subst u
      rcases hu2 with ⟨hr9, hfq⟩ | ⟨hr9, hfq⟩
      · subst r
        refine z_if_eqN 37 C 52 dX5_frequentAt_37 (by decide) (by omega) (fun h37 => absurd h37 (by omega)) (fun h37 => ?_)
        refine z_iload 40 C dX5_frequentAt_40 4 rfl ?_
        refine z_iload_n 42 C dX5_frequentAt_42 rfl 3 rfl ?_
        refine z_icmp_neN 43 C 49 dX5_frequentAt_43 (by decide) (by omega) (by omega) (fun h43 => ?_) (fun h43 => ?_)
        · refine z_iinc (v' := nI (n + 1)) (lv' := [(4, .int (nI (n + 1))), (0, .ref (zad g 0)), (1, .int (nI j)), (2, .int (nI w)), (3, .int (nI pl)), (5, .int (nI i))]) 49 C dX5_frequentAt_49 (q := 4) rfl (zn_inc n 1) (by decide) rfl ?_
          refine z_iinc (v' := nI (i + 1)) (lv' := [(5, .int (nI (i + 1))), (4, .int (nI (n + 1))), (0, .ref (zad g 0)), (1, .int (nI j)), (2, .int (nI w)), (3, .int (nI pl))]) 52 C dX5_frequentAt_52 (q := 5) rfl (zn_inc i 1) (by decide) rfl ?_
          refine z_goto 55 C 18 dX5_frequentAt_55 (by decide) ?_
          refine z_lv (lv' := [(0, .ref (zad g 0)), (1, .int (nI j)), (2, .int (nI w)), (3, .int (nI pl)), (4, .int (nI (n + 1))), (5, .int (nI (i + 1)))]) [2, 3, 4, 5, 1, 0] rfl ?_
          exact ih18 (i + 1) (n + 1) (by omega) (by omega) (by rw [hp]; show _ = zfrn (S.1 j) (S.2.1 j) (nI w) i + zfrb (S.1 j) (S.2.1 j) (nI w) i; rw [zfrb_y hfq]) (zfq_s hq (fun z => h43 (by have h9 := z.2.2; rw [← hp] at h9; exact ((nI_eq (by omega) (by have := zfrn_le (S.1 j) (S.2.1 j) (nI w) i; omega)).mp h9).symm)))
        · have hfa : zfrat (S.1 j) (S.2.1 j) (nI w) (nI pl) i := ⟨h22, hfq, by rw [← hp, h43]⟩
          refine z_iload 46 C dX5_frequentAt_46 5 rfl ?_
          exact z_iret 48 C hr ⟨rfl, i, hfa, rfl⟩ dX5_frequentAt_48
      · subst r
        refine z_if_eqN 37 C 52 dX5_frequentAt_37 (by decide) (by omega) (fun h37 => ?_) (fun h37 => absurd h37 (by omega))
        refine z_iinc (v' := nI (i + 1)) (lv' := [(5, .int (nI (i + 1))), (0, .ref (zad g 0)), (1, .int (nI j)), (2, .int (nI w)), (3, .int (nI pl)), (4, .int (nI n))]) 52 C dX5_frequentAt_52 (q := 5) rfl (zn_inc i 1) (by decide) rfl ?_
        refine z_goto 55 C 18 dX5_frequentAt_55 (by decide) ?_
        refine z_lv (lv' := [(0, .ref (zad g 0)), (1, .int (nI j)), (2, .int (nI w)), (3, .int (nI pl)), (4, .int (nI n)), (5, .int (nI (i + 1)))]) [1, 2, 3, 4, 5, 0] rfl ?_
        exact ih18 (i + 1) n (by omega) (by omega) (by rw [hp]; show _ = zfrn (S.1 j) (S.2.1 j) (nI w) i + zfrb (S.1 j) (S.2.1 j) (nI w) i; rw [zfrb_n hfq, Nat.add_zero]) (zfq_s hq (fun z => hfq z.2.1))
  refine z_lv (lv' := [(0, .ref (zad g 0)), (1, .int (nI j)), (2, .int (nI w)), (3, .int (nI pl)), (4, .int (nI 0)), (5, .int (nI 0))]) [2, 3, 4, 5, 1, 0] rfl ?_
  exact J18 65 0 0 (Nat.zero_le _) (by omega) rfl (fun k h => absurd h (Nat.not_lt_zero k))
theorem zhlf_s {q h' : Nat} (h6 : q + 1 ≤ 6) (hh : h' / 2 < 64 / 2 ^ (q + 1)) : h' < 64 / 2 ^ q := by
  have h9 : q = 0 ∨ q = 1 ∨ q = 2 ∨ q = 3 ∨ q = 4 ∨ q = 5 := by omega
  rcases h9 with e | e | e | e | e | e <;> subst e <;> omega
set_option maxHeartbeats 4000000 in
set_option maxRecDepth 100000 in
/-- X5_itemOfRank -/
theorem c_X5_itemOfRank (l : Launch) {g : zG} (hg : zOk g) (x : zT) (S : zS) (hA : zAll x S) (j : Nat) (hj : j < 4) (w : Nat) (hw1 : 1 ≤ w) (hw2 : w < 2 ^ 31) (hw3 : nI w ≤ ztot (S.1 j)) : Met l yX5_itemOfRank wsX5_itemOfRank ({ frames := 4, cells := 0, slots := 0, locals := 87 }) (va_Pc [.ref (zad g 0), .int (nI j), .int (nI w)] (zPre g x)) (va_Qi (fun (r : Int32) (u : zT) => u = x ∧ r = nI (zrank (S.1 j) (S.2.1 j) 6 (nI w) 0)) (zB g) (zA g)) 0 0 (zA g) := by
  refine z_met (cc := cX5_itemOfRank) (nL := 7) (ret := (some .int)) hg (by decide) rfl (Nat.le_of_ble_eq_true rfl) ?_
  intro p_ e_ s_ m_ args_ below_ meth_ c_ C hr
  show Z p_ l e_ _ s_ m_ args_ below_ meth_ c_ g 7 0 0 _ x 0 [(0, .ref (zad g 0)), (1, .int (nI j)), (2, .int (nI w))] []
  have hw_f11 := C.1.2.2.2.2 (.fieldLink RX5 11 "Countcote" "streams" "[LCountcote$Stream;") (by decide +kernel)
  have hinX5 : ∀ w ∈ wsX50, w ∈ wsX5_itemOfRank := by decide +kernel
  have hw_f24 := C.1.2.2.2.2 (.fieldLink RX5 24 "Countcote$Stream" "plain" "LCountcote$PlainCounts;") (by decide +kernel)
  have hinX4 : ∀ w ∈ wsX40, w ∈ wsX5_itemOfRank := by decide +kernel
  have hRj := hA j hj
  refine z_iload_n 0 C dX5_itemOfRank_0 rfl 1 rfl ?_
  refine z_iconst (v := nI 4) 1 C dX5_itemOfRank_1 rfl ?_
  refine z_callSv 2 C (As := [.int (nI j), .int (nI 4)]) 2 (c_X5_requirePlace l hg x j 4 (by omega) (by omega)) (va_cwS 2 C.1.2.2.2.2 gX5_itemOfRank_X5_requirePlace rfl rfl rfl (by decide +kernel) ⟨Nat.le_of_ble_eq_true rfl, Nat.le_of_ble_eq_true rfl⟩) rfl rfl (Nat.le_of_ble_eq_true rfl) ⟨Nat.le_of_ble_eq_true rfl, Nat.le_of_ble_eq_true rfl⟩ dX5_itemOfRank_2 (fun u hu => ?_)
  subst u
  refine z_iload_n 5 C dX5_itemOfRank_5 rfl 2 rfl ?_
  refine z_iconst (v := nI 1) 6 C dX5_itemOfRank_6 rfl ?_
  refine z_aload_n 7 C dX5_itemOfRank_7 rfl 0 rfl ?_
  refine z_getr 8 C (ref := "Countcote") (T := TX5) (N := 1) (ci := 5) (q := 0) kR_streams rfl hinX5 (by decide) rfl hw_f11 dX5_itemOfRank_8 ?_
  refine z_iload_n 11 C dX5_itemOfRank_11 rfl 1 rfl ?_
  refine z_aald 12 C kQ_streams rfl (by omega) dX5_itemOfRank_12 ?_
  refine z_getr 13 C (ref := "Countcote$Stream") (T := TX4) (N := 4) (ci := 4) (q := 0) (kR_plain hj) rfl hinX4 (by decide) rfl hw_f24 dX5_itemOfRank_13 ?_
  refine z_callVi 16 C (As := []) 0 (kO_plain hj) rfl (c_X2_sum l hg x j hj) (cwV 0 C.1.2.2.2.2 gX5_itemOfRank_X2_sum rfl rfl rfl (by decide +kernel) ⟨Nat.le_of_ble_eq_true rfl, Nat.le_of_ble_eq_true rfl⟩) rfl rfl (Nat.le_of_ble_eq_true rfl) ⟨Nat.le_of_ble_eq_true rfl, Nat.le_of_ble_eq_true rfl⟩ dX5_itemOfRank_16 (fun r u hu => ?_)
  obtain ⟨hu1, hu2⟩ : u = x ∧ r = ztot (S.1 j) := ⟨hu.1, hu.2.trans (zSR_tot hRj)⟩
  subst u
  subst r
  refine z_callSv 19 C (As := [.int (nI w), .int (nI 1), .int (ztot (S.1 j))]) 3 (c_X5_requireWithin l hg x (nI w) (nI 1) (ztot (S.1 j)) (fun e => absurd ((nI_ltI (by omega) (by omega)).mp e) (by omega)) hw3) (va_cwS 3 C.1.2.2.2.2 gX5_itemOfRank_X5_requireWithin rfl rfl rfl (by decide +kernel) ⟨Nat.le_of_ble_eq_true rfl, Nat.le_of_ble_eq_true rfl⟩) rfl rfl (Nat.le_of_ble_eq_true rfl) ⟨Nat.le_of_ble_eq_true rfl, Nat.le_of_ble_eq_true rfl⟩ dX5_itemOfRank_19 (fun u hu => ?_)
  subst u
  refine z_iload_n 22 C dX5_itemOfRank_22 rfl 2 rfl ?_
  refine z_istore_n (lv' := [(3, .int (nI w)), (0, .ref (zad g 0)), (1, .int (nI j)), (2, .int (nI w))]) 23 C dX5_itemOfRank_23 rfl (by decide) rfl ?_
  refine z_iconst (v := nI 0) 24 C dX5_itemOfRank_24 rfl ?_
  refine z_istore (lv' := [(4, .int (nI 0)), (3, .int (nI w)), (0, .ref (zad g 0)), (1, .int (nI j)), (2, .int (nI w))]) 25 C dX5_itemOfRank_25 (by decide) rfl ?_
  refine z_iconst (v := nI 5) 27 C dX5_itemOfRank_27 rfl ?_
  refine z_istore (lv' := [(5, .int (nI 5)), (4, .int (nI 0)), (3, .int (nI w)), (0, .ref (zad g 0)), (1, .int (nI j)), (2, .int (nI w))]) 28 C dX5_itemOfRank_28 (by decide) rfl ?_
  have J30 : ∀ (n30 : Nat) (n : Nat) (t : Int32) (h : Nat), (n < n30) → (n ≤ 6) → (h < 64 / 2 ^ n) → (zrank (S.1 j) (S.2.1 j) n t h = zrank (S.1 j) (S.2.1 j) 6 (nI w) 0) → Z p_ l e_ (headSpec wsX5_itemOfRank ({ frames := 4, cells := 0, slots := 0, locals := 87 })).room s_ m_ args_ below_ meth_ c_ g 7 0 0 (MQ below_ (va_Qi (fun (r : Int32) (u : zT) => u = x ∧ r = nI (zrank (S.1 j) (S.2.1 j) 6 (nI w) 0)) (zB g) (zA g)) args_ s_ 0 0 (zA g)) x 30 [(0, .ref (zad g 0)), (1, .int (nI j)), (2, .int (nI w)), (3, .int t), (4, .int (nI h)), (5, .int (zlm n))] [] := by
    intro n30
    induction n30 with
    | zero => intro n t h hn h6 hh hp; exact absurd hn (by omega)
    | succ n30 ih30 =>
      intro n t h hn h6 hh hp
      refine z_iload 30 C dX5_itemOfRank_30 5 rfl ?_
      refine z_if_lt 32 C 76 dX5_itemOfRank_32 (by decide) (fun h32 => ?_) (fun h32 => ?_)
      · refine z_iload 76 C dX5_itemOfRank_76 4 rfl ?_
        exact z_iret 78 C hr ⟨rfl, by rw [← hp, zlm_n0 (by omega) h32]; rfl⟩ dX5_itemOfRank_78
      · obtain ⟨q, hq9⟩ := zlm_nn h32
        subst hq9
        rw [zlm_s q]
        refine z_iconst (v := nI 2) 35 C dX5_itemOfRank_35 rfl ?_
        refine z_iload 36 C dX5_itemOfRank_36 4 rfl ?_
        refine z_imul (v := nI (2 * h)) 38 C dX5_itemOfRank_38 (pk_mul 2 h) ?_
        refine z_istore (lv' := [(4, .int (nI (2 * h))), (0, .ref (zad g 0)), (1, .int (nI j)), (2, .int (nI w)), (3, .int t), (5, .int (nI q))]) 39 C dX5_itemOfRank_39 (by decide) rfl ?_
        refine z_aload_n 41 C dX5_itemOfRank_41 rfl 1 rfl ?_
        refine z_getr 42 C (ref := "Countcote") (T := TX5) (N := 1) (ci := 5) (q := 0) kR_streams rfl hinX5 (by decide) rfl hw_f11 dX5_itemOfRank_42 ?_
        refine z_iload_n 45 C dX5_itemOfRank_45 rfl 2 rfl ?_
        refine z_aald 46 C kQ_streams rfl (by omega) dX5_itemOfRank_46 ?_
        refine z_iload 47 C dX5_itemOfRank_47 5 rfl ?_
        refine z_iload 49 C dX5_itemOfRank_49 0 rfl ?_
        refine z_callVi 51 C (As := [.int (nI q), .int (nI (2 * h))]) 2 (kO_stream hj) rfl (c_X4_estimateOf l hg x j hj (S.1 j) (S.2.1 j) (S.2.2.1 j) (S.2.2.2 j) hRj q (2 * h) (by omega) (zhlf_s h6 (by omega))) (cwV 2 C.1.2.2.2.2 gX5_itemOfRank_X4_estimateOf rfl rfl rfl (by decide +kernel) ⟨Nat.le_of_ble_eq_true rfl, Nat.le_of_ble_eq_true rfl⟩) rfl rfl (Nat.le_of_ble_eq_true rfl) ⟨Nat.le_of_ble_eq_true rfl, Nat.le_of_ble_eq_true rfl⟩ dX5_itemOfRank_51 (fun r u hu => ?_)
        obtain ⟨hu1, hu2⟩ := hu
        subst u
        obtain ⟨v1, ev1⟩ : ∃ y : Int32, y = zest (S.1 j) (S.2.1 j) q (2 * h) := ⟨_, rfl⟩
        rw [← ev1] at hu2
        subst r
        refine z_istore (lv' := [(6, .int v1), (4, .int (nI (2 * h))), (0, .ref (zad g 0)), (1, .int (nI j)), (2, .int (nI w)), (3, .int t), (5, .int (nI q))]) 54 C dX5_itemOfRank_54 (by decide) rfl ?_
        refine z_iload_n 56 C dX5_itemOfRank_56 rfl 5 rfl ?_
        refine z_iload 57 C dX5_itemOfRank_57 0 rfl ?_
        refine z_icmp_le 59 C 70 dX5_itemOfRank_59 (by decide) (fun h59 => ?_) (fun h59 => ?_)
        · refine z_iinc (v' := nI q + (-1)) (lv' := [(5, .int (nI q + (-1))), (6, .int v1), (4, .int (nI (2 * h))), (0, .ref (zad g 0)), (1, .int (nI j)), (2, .int (nI w)), (3, .int t)]) 70 C dX5_itemOfRank_70 (q := 6) rfl rfl (by decide) rfl ?_
          refine z_goto 73 C 30 dX5_itemOfRank_73 (by decide) ?_
          refine z_lv (lv' := [(0, .ref (zad g 0)), (1, .int (nI j)), (2, .int (nI w)), (3, .int t), (4, .int (nI (2 * h))), (5, .int (nI q + (-1)))]) [3, 4, 5, 6, 2, 0] rfl ?_
          exact ih30 q t (2 * h) (by omega) (by omega) (zhlf_s h6 (by omega)) (by rw [← hp]; show _ = (if t ≤ zest (S.1 j) (S.2.1 j) q (2 * h) then zrank (S.1 j) (S.2.1 j) q t (2 * h) else zrank (S.1 j) (S.2.1 j) q (t - zest (S.1 j) (S.2.1 j) q (2 * h)) (2 * h + 1)); rw [← ev1, if_pos h59])
        · refine z_iload_n 62 C dX5_itemOfRank_62 rfl 5 rfl ?_
          refine z_iload 63 C dX5_itemOfRank_63 0 rfl ?_
          refine z_isub (v := t - v1) 65 C dX5_itemOfRank_65 rfl ?_
          refine z_istore_n (lv' := [(3, .int (t - v1)), (6, .int v1), (4, .int (nI (2 * h))), (0, .ref (zad g 0)), (1, .int (nI j)), (2, .int (nI w)), (5, .int (nI q))]) 66 C dX5_itemOfRank_66 rfl (by decide) rfl ?_
          refine z_iinc (v' := nI (2 * h + 1)) (lv' := [(4, .int (nI (2 * h + 1))), (3, .int (t - v1)), (6, .int v1), (0, .ref (zad g 0)), (1, .int (nI j)), (2, .int (nI w)), (5, .int (nI q))]) 67 C dX5_itemOfRank_67 (q := 2) rfl (zn_inc (2 * h) 1) (by decide) rfl ?_
          refine z_iinc (v' := nI q + (-1)) (lv' := [(5, .int (nI q + (-1))), (4, .int (nI (2 * h + 1))), (3, .int (t - v1)), (6, .int v1), (0, .ref (zad g 0)), (1, .int (nI j)), (2, .int (nI w))]) 70 C dX5_itemOfRank_70 (q := 6) rfl rfl (by decide) rfl ?_
          refine z_goto 73 C 30 dX5_itemOfRank_73 (by decide) ?_
          refine z_lv (lv' := [(0, .ref (zad g 0)), (1, .int (nI j)), (2, .int (nI w)), (3, .int (t - v1)), (4, .int (nI (2 * h + 1))), (5, .int (nI q + (-1)))]) [4, 5, 6, 2, 1, 0] rfl ?_
          exact ih30 q (t - v1) (2 * h + 1) (by omega) (by omega) (zhlf_s h6 (by omega)) (by rw [← hp]; show _ = (if t ≤ zest (S.1 j) (S.2.1 j) q (2 * h) then zrank (S.1 j) (S.2.1 j) q t (2 * h) else zrank (S.1 j) (S.2.1 j) q (t - zest (S.1 j) (S.2.1 j) q (2 * h)) (2 * h + 1)); rw [← ev1, if_neg h59])
  refine z_lv (lv' := [(0, .ref (zad g 0)), (1, .int (nI j)), (2, .int (nI w)), (3, .int (nI w)), (4, .int (nI 0)), (5, .int (nI 5))]) [3, 4, 5, 2, 1, 0] rfl ?_
  exact J30 7 6 (nI w) 0 (by decide) (by decide) (by decide) rfl
set_option maxHeartbeats 4000000 in
set_option maxRecDepth 100000 in
/-- X5_estimate -/
theorem c_X5_estimate (l : Launch) {g : zG} (hg : zOk g) (x : zT) (S : zS) (hA : zAll x S) (j : Nat) (hj : j < 4) (lev h : Nat) (hlev : lev < 7) (hh : h < 64 / 2 ^ lev) : Met l yX5_estimate wsX5_estimate ({ frames := 4, cells := 0, slots := 0, locals := 87 }) (va_Pc [.ref (zad g 0), .int (nI j), .int (nI lev), .int (nI h)] (zPre g x)) (va_Qi (fun (r : Int32) (u : zT) => u = x ∧ r = zest (S.1 j) (S.2.1 j) lev h) (zB g) (zA g)) 0 0 (zA g) := by
  refine z_met (cc := cX5_estimate) (nL := 4) (ret := (some .int)) hg (by decide) rfl (Nat.le_of_ble_eq_true rfl) ?_
  intro p_ e_ s_ m_ args_ below_ meth_ c_ C hr
  show Z p_ l e_ _ s_ m_ args_ below_ meth_ c_ g 4 0 0 _ x 0 [(0, .ref (zad g 0)), (1, .int (nI j)), (2, .int (nI lev)), (3, .int (nI h))] []
  have hw_f11 := C.1.2.2.2.2 (.fieldLink RX5 11 "Countcote" "streams" "[LCountcote$Stream;") (by decide +kernel)
  have hinX5 : ∀ w ∈ wsX50, w ∈ wsX5_estimate := by decide +kernel
  have hRj := hA j hj
  refine z_iload_n 0 C dX5_estimate_0 rfl 1 rfl ?_
  refine z_iconst (v := nI 4) 1 C dX5_estimate_1 rfl ?_
  refine z_callSv 2 C (As := [.int (nI j), .int (nI 4)]) 2 (c_X5_requirePlace l hg x j 4 (by omega) (by omega)) (va_cwS 2 C.1.2.2.2.2 gX5_estimate_X5_requirePlace rfl rfl rfl (by decide +kernel) ⟨Nat.le_of_ble_eq_true rfl, Nat.le_of_ble_eq_true rfl⟩) rfl rfl (Nat.le_of_ble_eq_true rfl) ⟨Nat.le_of_ble_eq_true rfl, Nat.le_of_ble_eq_true rfl⟩ dX5_estimate_2 (fun u hu => ?_)
  subst u
  refine z_iload_n 5 C dX5_estimate_5 rfl 2 rfl ?_
  refine z_bipush (v := nI 7) 6 C dX5_estimate_6 rfl ?_
  refine z_callSv 8 C (As := [.int (nI lev), .int (nI 7)]) 2 (c_X5_requirePlace l hg x lev 7 (by omega) (by omega)) (va_cwS 2 C.1.2.2.2.2 gX5_estimate_X5_requirePlace rfl rfl rfl (by decide +kernel) ⟨Nat.le_of_ble_eq_true rfl, Nat.le_of_ble_eq_true rfl⟩) rfl rfl (Nat.le_of_ble_eq_true rfl) ⟨Nat.le_of_ble_eq_true rfl, Nat.le_of_ble_eq_true rfl⟩ dX5_estimate_8 (fun u hu => ?_)
  subst u
  refine z_iload_n 11 C dX5_estimate_11 rfl 3 rfl ?_
  refine z_bipush (v := nI 64) 12 C dX5_estimate_12 rfl ?_
  refine z_iload_n 14 C dX5_estimate_14 rfl 2 rfl ?_
  refine z_ishr (v := nI (64 / 2 ^ lev)) 15 C dX5_estimate_15 (zn_shr 64 lev (by omega) (by omega)) ?_
  refine z_callSv 16 C (As := [.int (nI h), .int (nI (64 / 2 ^ lev))]) 2 (c_X5_requirePlace l hg x h (64 / 2 ^ lev) (by omega) (by have := Nat.div_le_self 64 (2 ^ lev); omega)) (va_cwS 2 C.1.2.2.2.2 gX5_estimate_X5_requirePlace rfl rfl rfl (by decide +kernel) ⟨Nat.le_of_ble_eq_true rfl, Nat.le_of_ble_eq_true rfl⟩) rfl rfl (Nat.le_of_ble_eq_true rfl) ⟨Nat.le_of_ble_eq_true rfl, Nat.le_of_ble_eq_true rfl⟩ dX5_estimate_16 (fun u hu => ?_)
  subst u
  refine z_aload_n 19 C dX5_estimate_19 rfl 0 rfl ?_
  refine z_getr 20 C (ref := "Countcote") (T := TX5) (N := 1) (ci := 5) (q := 0) kR_streams rfl hinX5 (by decide) rfl hw_f11 dX5_estimate_20 ?_
  refine z_iload_n 23 C dX5_estimate_23 rfl 1 rfl ?_
  refine z_aald 24 C kQ_streams rfl (by omega) dX5_estimate_24 ?_
  refine z_iload_n 25 C dX5_estimate_25 rfl 2 rfl ?_
  refine z_iload_n 26 C dX5_estimate_26 rfl 3 rfl ?_
  refine z_callVi 27 C (As := [.int (nI lev), .int (nI h)]) 2 (kO_stream hj) rfl (c_X4_estimateOf l hg x j hj (S.1 j) (S.2.1 j) (S.2.2.1 j) (S.2.2.2 j) hRj lev h (by omega) hh) (cwV 2 C.1.2.2.2.2 gX5_estimate_X4_estimateOf rfl rfl rfl (by decide +kernel) ⟨Nat.le_of_ble_eq_true rfl, Nat.le_of_ble_eq_true rfl⟩) rfl rfl (Nat.le_of_ble_eq_true rfl) ⟨Nat.le_of_ble_eq_true rfl, Nat.le_of_ble_eq_true rfl⟩ dX5_estimate_27 (fun r u hu => ?_)
  obtain ⟨hu1, hu2⟩ := hu
  subst u
  obtain ⟨v1, ev1⟩ : ∃ y : Int32, y = zest (S.1 j) (S.2.1 j) lev h := ⟨_, rfl⟩
  rw [← ev1] at hu2
  subst r
  exact z_iret 30 C hr ⟨rfl, ev1⟩ dX5_estimate_30
set_option maxHeartbeats 4000000 in
set_option maxRecDepth 100000 in
/-- X5_share -/
theorem c_X5_share (l : Launch) {g : zG} (hg : zOk g) (x : zT) (S : zS) (hA : zAll x S) (j : Nat) (hj : j < 4) (i : Nat) (hi : i < 64) : Met l yX5_share wsX5_share ({ frames := 4, cells := 0, slots := 0, locals := 87 }) (va_Pc [.ref (zad g 0), .int (nI j), .int (nI i)] (zPre g x)) (va_Qd (fun (r : UInt64) (u : zT) => u = x ∧ r = zshare (S.1 j) (S.2.1 j) i) (zB g) (zA g)) 0 0 (zA g) := by
  refine z_met (cc := cX5_share) (nL := 4) (ret := (some .double)) hg (by decide) rfl (Nat.le_of_ble_eq_true rfl) ?_
  intro p_ e_ s_ m_ args_ below_ meth_ c_ C hr
  show Z p_ l e_ _ s_ m_ args_ below_ meth_ c_ g 4 0 0 _ x 0 [(0, .ref (zad g 0)), (1, .int (nI j)), (2, .int (nI i))] []
  have hw_f11 := C.1.2.2.2.2 (.fieldLink RX5 11 "Countcote" "streams" "[LCountcote$Stream;") (by decide +kernel)
  have hinX5 : ∀ w ∈ wsX50, w ∈ wsX5_share := by decide +kernel
  have hw_f24 := C.1.2.2.2.2 (.fieldLink RX5 24 "Countcote$Stream" "plain" "LCountcote$PlainCounts;") (by decide +kernel)
  have hinX4 : ∀ w ∈ wsX40, w ∈ wsX5_share := by decide +kernel
  have hRj := hA j hj
  refine z_iload_n 0 C dX5_share_0 rfl 1 rfl ?_
  refine z_iconst (v := nI 4) 1 C dX5_share_1 rfl ?_
  refine z_callSv 2 C (As := [.int (nI j), .int (nI 4)]) 2 (c_X5_requirePlace l hg x j 4 (by omega) (by omega)) (va_cwS 2 C.1.2.2.2.2 gX5_share_X5_requirePlace rfl rfl rfl (by decide +kernel) ⟨Nat.le_of_ble_eq_true rfl, Nat.le_of_ble_eq_true rfl⟩) rfl rfl (Nat.le_of_ble_eq_true rfl) ⟨Nat.le_of_ble_eq_true rfl, Nat.le_of_ble_eq_true rfl⟩ dX5_share_2 (fun u hu => ?_)
  subst u
  refine z_iload_n 5 C dX5_share_5 rfl 2 rfl ?_
  refine z_bipush (v := nI 64) 6 C dX5_share_6 rfl ?_
  refine z_callSv 8 C (As := [.int (nI i), .int (nI 64)]) 2 (c_X5_requirePlace l hg x i 64 (by omega) (by omega)) (va_cwS 2 C.1.2.2.2.2 gX5_share_X5_requirePlace rfl rfl rfl (by decide +kernel) ⟨Nat.le_of_ble_eq_true rfl, Nat.le_of_ble_eq_true rfl⟩) rfl rfl (Nat.le_of_ble_eq_true rfl) ⟨Nat.le_of_ble_eq_true rfl, Nat.le_of_ble_eq_true rfl⟩ dX5_share_8 (fun u hu => ?_)
  subst u
  refine z_aload_n 11 C dX5_share_11 rfl 0 rfl ?_
  refine z_getr 12 C (ref := "Countcote") (T := TX5) (N := 1) (ci := 5) (q := 0) kR_streams rfl hinX5 (by decide) rfl hw_f11 dX5_share_12 ?_
  refine z_iload_n 15 C dX5_share_15 rfl 1 rfl ?_
  refine z_aald 16 C kQ_streams rfl (by omega) dX5_share_16 ?_
  refine z_getr 17 C (ref := "Countcote$Stream") (T := TX4) (N := 4) (ci := 4) (q := 0) (kR_plain hj) rfl hinX4 (by decide) rfl hw_f24 dX5_share_17 ?_
  refine z_callVi 20 C (As := []) 0 (kO_plain hj) rfl (c_X2_sum l hg x j hj) (cwV 0 C.1.2.2.2.2 gX5_share_X2_sum rfl rfl rfl (by decide +kernel) ⟨Nat.le_of_ble_eq_true rfl, Nat.le_of_ble_eq_true rfl⟩) rfl rfl (Nat.le_of_ble_eq_true rfl) ⟨Nat.le_of_ble_eq_true rfl, Nat.le_of_ble_eq_true rfl⟩ dX5_share_20 (fun r u hu => ?_)
  obtain ⟨hu1, hu2⟩ : u = x ∧ r = ztot (S.1 j) := ⟨hu.1, hu.2.trans (zSR_tot hRj)⟩
  subst u
  subst r
  refine z_istore_n (lv' := [(3, .int (ztot (S.1 j))), (0, .ref (zad g 0)), (1, .int (nI j)), (2, .int (nI i))]) 23 C dX5_share_23 rfl (by decide) rfl ?_
  refine z_iload_n 24 C dX5_share_24 rfl 0 rfl ?_
  refine z_if_ne 25 C 30 dX5_share_25 (by decide) (fun h25 => ?_) (fun h25 => ?_)
  · refine z_aload_n 30 C dX5_share_30 rfl 1 rfl ?_
    refine z_getr 31 C (ref := "Countcote") (T := TX5) (N := 1) (ci := 5) (q := 0) kR_streams rfl hinX5 (by decide) rfl hw_f11 dX5_share_31 ?_
    refine z_iload_n 34 C dX5_share_34 rfl 2 rfl ?_
    refine z_aald 35 C kQ_streams rfl (by omega) dX5_share_35 ?_
    refine z_iconst (v := nI 0) 36 C dX5_share_36 rfl ?_
    refine z_iload_n 37 C dX5_share_37 rfl 3 rfl ?_
    refine z_callVi 38 C (As := [.int (nI 0), .int (nI i)]) 2 (kO_stream hj) rfl (c_X4_estimateOf l hg x j hj (S.1 j) (S.2.1 j) (S.2.2.1 j) (S.2.2.2 j) hRj 0 i (by decide) (by omega)) (cwV 2 C.1.2.2.2.2 gX5_share_X4_estimateOf rfl rfl rfl (by decide +kernel) ⟨Nat.le_of_ble_eq_true rfl, Nat.le_of_ble_eq_true rfl⟩) rfl rfl (Nat.le_of_ble_eq_true rfl) ⟨Nat.le_of_ble_eq_true rfl, Nat.le_of_ble_eq_true rfl⟩ dX5_share_38 (fun r u hu => ?_)
    obtain ⟨hu1, hu2⟩ := hu
    subst u
    obtain ⟨v1, ev1⟩ : ∃ y : Int32, y = zest (S.1 j) (S.2.1 j) 0 i := ⟨_, rfl⟩
    rw [← ev1] at hu2
    subst r
    refine z_i2d 41 C dX5_share_41 ?_
    refine z_iload_n 42 C dX5_share_42 rfl 0 rfl ?_
    refine z_i2d 43 C dX5_share_43 ?_
    refine z_ddiv 44 C dX5_share_44 (zddiv_ok h25) ?_
    exact z_dret 45 C hr ⟨rfl, by rw [ev1]; exact (show zshare (S.1 j) (S.2.1 j) i = _ from if_neg h25).symm⟩ dX5_share_45
  · refine z_dconst0 28 C dX5_share_28 ?_
    exact z_dret 29 C hr ⟨rfl, (show zshare (S.1 j) (S.2.1 j) i = _ from if_pos h25).symm⟩ dX5_share_29
set_option maxHeartbeats 4000000 in
set_option maxRecDepth 100000 in
/-- X5_counterItem -/
theorem c_X5_counterItem (l : Launch) {g : zG} (hg : zOk g) (x : zT) (S : zS) (hA : zAll x S) (j : Nat) (hj : j < 4) (q : Nat) (hq : q < (S.2.2.1 j).length) : Met l yX5_counterItem wsX5_counterItem ({ frames := 1, cells := 0, slots := 0, locals := 21 }) (va_Pc [.ref (zad g 0), .int (nI j), .int (nI q)] (zPre g x)) (va_Qi (fun (r : Int32) (u : zT) => u = x ∧ r = (zL (S.2.2.1 j) q).1) (zB g) (zA g)) 0 0 (zA g) := by
  refine z_met (cc := cX5_counterItem) (nL := 3) (ret := (some .int)) hg (by decide) rfl (Nat.le_of_ble_eq_true rfl) ?_
  intro p_ e_ s_ m_ args_ below_ meth_ c_ C hr
  show Z p_ l e_ _ s_ m_ args_ below_ meth_ c_ g 3 0 0 _ x 0 [(0, .ref (zad g 0)), (1, .int (nI j)), (2, .int (nI q))] []
  have hw_f11 := C.1.2.2.2.2 (.fieldLink RX5 11 "Countcote" "streams" "[LCountcote$Stream;") (by decide +kernel)
  have hinX5 : ∀ w ∈ wsX50, w ∈ wsX5_counterItem := by decide +kernel
  have hw_f116 := C.1.2.2.2.2 (.fieldLink RX5 116 "Countcote$Stream" "few" "LCountcote$FewCounters;") (by decide +kernel)
  have hinX4 : ∀ w ∈ wsX40, w ∈ wsX5_counterItem := by decide +kernel
  have hw_n120 := va_Nw.use (A := args_) rfl (C.2.2.2.2.1.2.1 _ (List.mem_of_getElem? (i := 0) rfl))
  have hinX1 : ∀ w ∈ wsX10, w ∈ wsX5_counterItem := by decide +kernel
  have hw_n126 := va_Nw.use (A := args_) rfl (C.2.2.2.2.1.2.1 _ (List.mem_of_getElem? (i := 1) rfl))
  have hRj := hA j hj
  refine z_iload_n 0 C dX5_counterItem_0 rfl 1 rfl ?_
  refine z_iconst (v := nI 4) 1 C dX5_counterItem_1 rfl ?_
  refine z_callSv 2 C (As := [.int (nI j), .int (nI 4)]) 2 (c_X5_requirePlace l hg x j 4 (by omega) (by omega)) (va_cwS 2 C.1.2.2.2.2 gX5_counterItem_X5_requirePlace rfl rfl rfl (by decide +kernel) ⟨Nat.le_of_ble_eq_true rfl, Nat.le_of_ble_eq_true rfl⟩) rfl rfl (Nat.le_of_ble_eq_true rfl) ⟨Nat.le_of_ble_eq_true rfl, Nat.le_of_ble_eq_true rfl⟩ dX5_counterItem_2 (fun u hu => ?_)
  subst u
  have h8 := hRj.2.2.2.2.2.2.2.1
  refine z_iload_n 5 C dX5_counterItem_5 rfl 2 rfl ?_
  refine z_aload_n 6 C dX5_counterItem_6 rfl 0 rfl ?_
  refine z_getr 7 C (ref := "Countcote") (T := TX5) (N := 1) (ci := 5) (q := 0) kR_streams rfl hinX5 (by decide) rfl hw_f11 dX5_counterItem_7 ?_
  refine z_iload_n 10 C dX5_counterItem_10 rfl 1 rfl ?_
  refine z_aald 11 C kQ_streams rfl (by omega) dX5_counterItem_11 ?_
  refine z_getr 12 C (ref := "Countcote$Stream") (T := TX4) (N := 4) (ci := 4) (q := 3) (kR_few hj) rfl hinX4 (by decide) rfl hw_f116 dX5_counterItem_12 ?_
  refine z_getiN (v := nI ((S.2.2.1 j).length)) 15 C (ref := "Countcote$FewCounters") (T := TX1) (N := 4) (ci := 1) (q := 2) (kF_used hj) rfl hinX1 (by decide) rfl hw_n120 (by rw [(hRj.2.2.2.2.2.1)]) dX5_counterItem_15 ?_
  refine z_callSv 18 C (As := [.int (nI q), .int (nI ((S.2.2.1 j).length))]) 2 (c_X5_requirePlace l hg x q ((S.2.2.1 j).length) (by omega) (by omega)) (va_cwS 2 C.1.2.2.2.2 gX5_counterItem_X5_requirePlace rfl rfl rfl (by decide +kernel) ⟨Nat.le_of_ble_eq_true rfl, Nat.le_of_ble_eq_true rfl⟩) rfl rfl (Nat.le_of_ble_eq_true rfl) ⟨Nat.le_of_ble_eq_true rfl, Nat.le_of_ble_eq_true rfl⟩ dX5_counterItem_18 (fun u hu => ?_)
  subst u
  refine z_aload_n 21 C dX5_counterItem_21 rfl 0 rfl ?_
  refine z_getr 22 C (ref := "Countcote") (T := TX5) (N := 1) (ci := 5) (q := 0) kR_streams rfl hinX5 (by decide) rfl hw_f11 dX5_counterItem_22 ?_
  refine z_iload_n 25 C dX5_counterItem_25 rfl 1 rfl ?_
  refine z_aald 26 C kQ_streams rfl (by omega) dX5_counterItem_26 ?_
  refine z_getr 27 C (ref := "Countcote$Stream") (T := TX4) (N := 4) (ci := 4) (q := 3) (kR_few hj) rfl hinX4 (by decide) rfl hw_f116 dX5_counterItem_27 ?_
  refine z_getrN 30 C (ref := "Countcote$FewCounters") (T := TX1) (N := 4) (ci := 1) (q := 0) (kR_items hj) rfl hinX1 (by decide) rfl hw_n126 dX5_counterItem_30 ?_
  refine z_iload_n 33 C dX5_counterItem_33 rfl 2 rfl ?_
  refine z_iald (v := (x.1 (zp j 14)) q) 34 C (kI_items hj) (by omega) rfl dX5_counterItem_34 ?_
  exact z_iret 35 C hr ⟨rfl, (hRj.2.2.2.2.2.2.2.2 q hq).1⟩ dX5_counterItem_35
set_option maxHeartbeats 4000000 in
set_option maxRecDepth 100000 in
/-- X5_clear -/
theorem c_X5_clear (l : Launch) {g : zG} (hg : zOk g) (x : zT) (S : zS) (hA : zAll x S) (j : Nat) (hj : j < 4) : Met l yX5_clear wsX5_clear ({ frames := 3, cells := 0, slots := 0, locals := 64 }) (va_Pc [.ref (zad g 0), .int (nI j)] (zPre g x)) (va_Qi (fun (r : Int32) (u : zT) => zOut j x u ∧ zSR u j (fun _ => 0) (fun _ => 0) [] 0 ∧ r = ztot (S.1 j)) (zB g) (zA g)) 0 0 (zA g) := by
  refine z_met (cc := cX5_clear) (nL := 3) (ret := (some .int)) hg (by decide) rfl (Nat.le_of_ble_eq_true rfl) ?_
  intro p_ e_ s_ m_ args_ below_ meth_ c_ C hr
  show Z p_ l e_ _ s_ m_ args_ below_ meth_ c_ g 3 0 0 _ x 0 [(0, .ref (zad g 0)), (1, .int (nI j))] []
  have hw_f11 := C.1.2.2.2.2 (.fieldLink RX5 11 "Countcote" "streams" "[LCountcote$Stream;") (by decide +kernel)
  have hinX5 : ∀ w ∈ wsX50, w ∈ wsX5_clear := by decide +kernel
  have hw_f24 := C.1.2.2.2.2 (.fieldLink RX5 24 "Countcote$Stream" "plain" "LCountcote$PlainCounts;") (by decide +kernel)
  have hinX4 : ∀ w ∈ wsX40, w ∈ wsX5_clear := by decide +kernel
  have hRj := hA j hj
  refine z_iload_n 0 C dX5_clear_0 rfl 1 rfl ?_
  refine z_iconst (v := nI 4) 1 C dX5_clear_1 rfl ?_
  refine z_callSv 2 C (As := [.int (nI j), .int (nI 4)]) 2 (c_X5_requirePlace l hg x j 4 (by omega) (by omega)) (va_cwS 2 C.1.2.2.2.2 gX5_clear_X5_requirePlace rfl rfl rfl (by decide +kernel) ⟨Nat.le_of_ble_eq_true rfl, Nat.le_of_ble_eq_true rfl⟩) rfl rfl (Nat.le_of_ble_eq_true rfl) ⟨Nat.le_of_ble_eq_true rfl, Nat.le_of_ble_eq_true rfl⟩ dX5_clear_2 (fun u hu => ?_)
  subst u
  refine z_aload_n 5 C dX5_clear_5 rfl 0 rfl ?_
  refine z_getr 6 C (ref := "Countcote") (T := TX5) (N := 1) (ci := 5) (q := 0) kR_streams rfl hinX5 (by decide) rfl hw_f11 dX5_clear_6 ?_
  refine z_iload_n 9 C dX5_clear_9 rfl 1 rfl ?_
  refine z_aald 10 C kQ_streams rfl (by omega) dX5_clear_10 ?_
  refine z_getr 11 C (ref := "Countcote$Stream") (T := TX4) (N := 4) (ci := 4) (q := 0) (kR_plain hj) rfl hinX4 (by decide) rfl hw_f24 dX5_clear_11 ?_
  refine z_callVi 14 C (As := []) 0 (kO_plain hj) rfl (c_X2_sum l hg x j hj) (cwV 0 C.1.2.2.2.2 gX5_clear_X2_sum rfl rfl rfl (by decide +kernel) ⟨Nat.le_of_ble_eq_true rfl, Nat.le_of_ble_eq_true rfl⟩) rfl rfl (Nat.le_of_ble_eq_true rfl) ⟨Nat.le_of_ble_eq_true rfl, Nat.le_of_ble_eq_true rfl⟩ dX5_clear_14 (fun r u hu => ?_)
  obtain ⟨hu1, hu2⟩ : u = x ∧ r = ztot (S.1 j) := ⟨hu.1, hu.2.trans (zSR_tot hRj)⟩
  subst u
  subst r
  refine z_istore_n (lv' := [(2, .int (ztot (S.1 j))), (0, .ref (zad g 0)), (1, .int (nI j))]) 17 C dX5_clear_17 rfl (by decide) rfl ?_
  refine z_aload_n 18 C dX5_clear_18 rfl 1 rfl ?_
  refine z_getr 19 C (ref := "Countcote") (T := TX5) (N := 1) (ci := 5) (q := 0) kR_streams rfl hinX5 (by decide) rfl hw_f11 dX5_clear_19 ?_
  refine z_iload_n 22 C dX5_clear_22 rfl 2 rfl ?_
  refine z_aald 23 C kQ_streams rfl (by omega) dX5_clear_23 ?_
  refine z_callVv 24 C (As := []) 0 (kO_stream hj) rfl (c_X4_empty l hg x j hj) (cwV 0 C.1.2.2.2.2 gX5_clear_X4_empty rfl rfl rfl (by decide +kernel) ⟨Nat.le_of_ble_eq_true rfl, Nat.le_of_ble_eq_true rfl⟩) rfl rfl (Nat.le_of_ble_eq_true rfl) ⟨Nat.le_of_ble_eq_true rfl, Nat.le_of_ble_eq_true rfl⟩ dX5_clear_24 (fun y9 hu => ?_)
  obtain ⟨hO9, hN9⟩ := hu
  refine z_iload_n 27 C dX5_clear_27 rfl 0 rfl ?_
  exact z_iret 28 C hr ⟨hO9, hN9, rfl⟩ dX5_clear_28
set_option maxHeartbeats 4000000 in
set_option maxRecDepth 100000 in
/-- X5_add -/
theorem c_X5_add (l : Launch) {g : zG} (hg : zOk g) (x : zT) (S : zS) (hA : zAll x S) (j : Nat) (hj : j < 4) (i : Nat) (hi : i < 64) (w : Nat) (hw1 : 1 ≤ w) (hw2 : w ≤ 1000) (hroom : ztot (S.1 j) + nI w ≤ nI 1000000) : Met l yX5_add wsX5_add ({ frames := 5, cells := 0, slots := 0, locals := 113 }) (va_Pc [.ref (zad g 0), .int (nI j), .int (nI i), .int (nI w)] (zPre g x)) (va_Qi (fun (r : Int32) (u : zT) => zOut j x u ∧ zSR u j (upd (S.1 j) i (S.1 j i + nI w)) (zdput (S.2.1 j) i (nI w)) (zadd (S.2.2.1 j) (nI i) (nI w)) (S.2.2.2 j + zaddw (S.2.2.1 j) (nI i) (nI w)) ∧ r = ztot (upd (S.1 j) i (S.1 j i + nI w))) (zB g) (zA g)) 0 0 (zA g) := by
  refine z_met (cc := cX5_add) (nL := 5) (ret := (some .int)) hg (by decide) rfl (Nat.le_of_ble_eq_true rfl) ?_
  intro p_ e_ s_ m_ args_ below_ meth_ c_ C hr
  show Z p_ l e_ _ s_ m_ args_ below_ meth_ c_ g 5 0 0 _ x 0 [(0, .ref (zad g 0)), (1, .int (nI j)), (2, .int (nI i)), (3, .int (nI w))] []
  have hw_f11 := C.1.2.2.2.2 (.fieldLink RX5 11 "Countcote" "streams" "[LCountcote$Stream;") (by decide +kernel)
  have hinX5 : ∀ w ∈ wsX50, w ∈ wsX5_add := by decide +kernel
  have hw_f24 := C.1.2.2.2.2 (.fieldLink RX5 24 "Countcote$Stream" "plain" "LCountcote$PlainCounts;") (by decide +kernel)
  have hinX4 : ∀ w ∈ wsX40, w ∈ wsX5_add := by decide +kernel
  have hRj := hA j hj
  refine z_iload_n 0 C dX5_add_0 rfl 1 rfl ?_
  refine z_iconst (v := nI 4) 1 C dX5_add_1 rfl ?_
  refine z_callSv 2 C (As := [.int (nI j), .int (nI 4)]) 2 (c_X5_requirePlace l hg x j 4 (by omega) (by omega)) (va_cwS 2 C.1.2.2.2.2 gX5_add_X5_requirePlace rfl rfl rfl (by decide +kernel) ⟨Nat.le_of_ble_eq_true rfl, Nat.le_of_ble_eq_true rfl⟩) rfl rfl (Nat.le_of_ble_eq_true rfl) ⟨Nat.le_of_ble_eq_true rfl, Nat.le_of_ble_eq_true rfl⟩ dX5_add_2 (fun u hu => ?_)
  subst u
  refine z_iload_n 5 C dX5_add_5 rfl 2 rfl ?_
  refine z_bipush (v := nI 64) 6 C dX5_add_6 rfl ?_
  refine z_callSv 8 C (As := [.int (nI i), .int (nI 64)]) 2 (c_X5_requirePlace l hg x i 64 (by omega) (by omega)) (va_cwS 2 C.1.2.2.2.2 gX5_add_X5_requirePlace rfl rfl rfl (by decide +kernel) ⟨Nat.le_of_ble_eq_true rfl, Nat.le_of_ble_eq_true rfl⟩) rfl rfl (Nat.le_of_ble_eq_true rfl) ⟨Nat.le_of_ble_eq_true rfl, Nat.le_of_ble_eq_true rfl⟩ dX5_add_8 (fun u hu => ?_)
  subst u
  refine z_iload_n 11 C dX5_add_11 rfl 3 rfl ?_
  refine z_iconst (v := nI 1) 12 C dX5_add_12 rfl ?_
  refine z_sipush (v := nI 1000) 13 C dX5_add_13 rfl ?_
  refine z_callSv 16 C (As := [.int (nI w), .int (nI 1), .int (nI 1000)]) 3 (c_X5_requireWithin l hg x (nI w) (nI 1) (nI 1000) (fun e => absurd ((nI_ltI (by omega) (by omega)).mp e) (by omega)) ((nI_leI (by omega) (by omega)).mpr (by omega))) (va_cwS 3 C.1.2.2.2.2 gX5_add_X5_requireWithin rfl rfl rfl (by decide +kernel) ⟨Nat.le_of_ble_eq_true rfl, Nat.le_of_ble_eq_true rfl⟩) rfl rfl (Nat.le_of_ble_eq_true rfl) ⟨Nat.le_of_ble_eq_true rfl, Nat.le_of_ble_eq_true rfl⟩ dX5_add_16 (fun u hu => ?_)
  subst u
  refine z_aload_n 19 C dX5_add_19 rfl 0 rfl ?_
  refine z_getr 20 C (ref := "Countcote") (T := TX5) (N := 1) (ci := 5) (q := 0) kR_streams rfl hinX5 (by decide) rfl hw_f11 dX5_add_20 ?_
  refine z_iload_n 23 C dX5_add_23 rfl 1 rfl ?_
  refine z_aald 24 C kQ_streams rfl (by omega) dX5_add_24 ?_
  refine z_astore (lv' := [(4, .ref (zad g (zp j 0))), (0, .ref (zad g 0)), (1, .int (nI j)), (2, .int (nI i)), (3, .int (nI w))]) 25 C dX5_add_25 (by decide) rfl ?_
  refine z_aload 27 C dX5_add_27 0 rfl ?_
  refine z_getr 29 C (ref := "Countcote$Stream") (T := TX4) (N := 4) (ci := 4) (q := 0) (kR_plain hj) rfl hinX4 (by decide) rfl hw_f24 dX5_add_29 ?_
  refine z_callVi 32 C (As := []) 0 (kO_plain hj) rfl (c_X2_sum l hg x j hj) (cwV 0 C.1.2.2.2.2 gX5_add_X2_sum rfl rfl rfl (by decide +kernel) ⟨Nat.le_of_ble_eq_true rfl, Nat.le_of_ble_eq_true rfl⟩) rfl rfl (Nat.le_of_ble_eq_true rfl) ⟨Nat.le_of_ble_eq_true rfl, Nat.le_of_ble_eq_true rfl⟩ dX5_add_32 (fun r u hu => ?_)
  obtain ⟨hu1, hu2⟩ : u = x ∧ r = ztot (S.1 j) := ⟨hu.1, hu.2.trans (zSR_tot hRj)⟩
  subst u
  subst r
  refine z_iload_n 35 C dX5_add_35 rfl 4 rfl ?_
  refine z_iadd (v := (ztot (S.1 j)) + (nI w)) 36 C dX5_add_36 rfl ?_
  refine z_callSv 37 C (As := [.int ((ztot (S.1 j)) + (nI w))]) 1 (c_X5_requireRoom l hg x ((ztot (S.1 j)) + (nI w)) hroom) (va_cwS 1 C.1.2.2.2.2 gX5_add_X5_requireRoom rfl rfl rfl (by decide +kernel) ⟨Nat.le_of_ble_eq_true rfl, Nat.le_of_ble_eq_true rfl⟩) rfl rfl (Nat.le_of_ble_eq_true rfl) ⟨Nat.le_of_ble_eq_true rfl, Nat.le_of_ble_eq_true rfl⟩ dX5_add_37 (fun u hu => ?_)
  subst u
  refine z_aload 40 C dX5_add_40 0 rfl ?_
  refine z_iload_n 42 C dX5_add_42 rfl 3 rfl ?_
  refine z_iload_n 43 C dX5_add_43 rfl 4 rfl ?_
  refine z_callVv 44 C (As := [.int (nI i), .int (nI w)]) 2 (kO_stream hj) rfl (c_X4_put l hg x j hj (S.1 j) (S.2.1 j) (S.2.2.1 j) (S.2.2.2 j) hRj i (by omega) (nI w)) (cwV 2 C.1.2.2.2.2 gX5_add_X4_put rfl rfl rfl (by decide +kernel) ⟨Nat.le_of_ble_eq_true rfl, Nat.le_of_ble_eq_true rfl⟩) rfl rfl (Nat.le_of_ble_eq_true rfl) ⟨Nat.le_of_ble_eq_true rfl, Nat.le_of_ble_eq_true rfl⟩ dX5_add_44 (fun y9 hu => ?_)
  obtain ⟨hO9, hN9⟩ := hu
  refine z_aload 47 C dX5_add_47 0 rfl ?_
  refine z_getr 49 C (ref := "Countcote$Stream") (T := TX4) (N := 4) (ci := 4) (q := 0) (kR_plain hj) rfl hinX4 (by decide) rfl hw_f24 dX5_add_49 ?_
  refine z_callVi 52 C (As := []) 0 (kO_plain hj) rfl (c_X2_sum l hg y9 j hj) (cwV 0 C.1.2.2.2.2 gX5_add_X2_sum rfl rfl rfl (by decide +kernel) ⟨Nat.le_of_ble_eq_true rfl, Nat.le_of_ble_eq_true rfl⟩) rfl rfl (Nat.le_of_ble_eq_true rfl) ⟨Nat.le_of_ble_eq_true rfl, Nat.le_of_ble_eq_true rfl⟩ dX5_add_52 (fun r u hu => ?_)
  obtain ⟨hu1, hu2⟩ : u = y9 ∧ r = ztot (upd (S.1 j) i (S.1 j i + nI w)) := ⟨hu.1, hu.2.trans (zSR_tot hN9)⟩
  subst u
  subst r
  exact z_iret 55 C hr ⟨hO9, hN9, rfl⟩ dX5_add_55
set_option maxHeartbeats 4000000 in
set_option maxRecDepth 100000 in
/-- X5_merge -/
theorem c_X5_merge (l : Launch) {g : zG} (hg : zOk g) (x : zT) (S : zS) (hA : zAll x S) (j : Nat) (hj : j < 4) (o : Nat) (ho : o < 4) (hjo : j ≠ o) (hroom : ztot (S.1 j) + ztot (S.1 o) ≤ nI 1000000) : Met l yX5_merge wsX5_merge ({ frames := 4, cells := 0, slots := 0, locals := 90 }) (va_Pc [.ref (zad g 0), .int (nI j), .int (nI o)] (zPre g x)) (va_Qi (fun (r : Int32) (u : zT) => zOut j x u ∧ zSR u j (fun k => S.1 j k + S.1 o k) (fun k => S.2.1 j k + S.2.1 o k) (zmrg (S.2.2.1 j) (S.2.2.1 o)) (S.2.2.2 j + S.2.2.2 o + zmrgw (S.2.2.1 j) (S.2.2.1 o)) ∧ r = ztot (fun k => S.1 j k + S.1 o k)) (zB g) (zA g)) 0 0 (zA g) := by
  refine z_met (cc := cX5_merge) (nL := 5) (ret := (some .int)) hg (by decide) rfl (Nat.le_of_ble_eq_true rfl) ?_
  intro p_ e_ s_ m_ args_ below_ meth_ c_ C hr
  show Z p_ l e_ _ s_ m_ args_ below_ meth_ c_ g 5 0 0 _ x 0 [(0, .ref (zad g 0)), (1, .int (nI j)), (2, .int (nI o))] []
  have hw_f11 := C.1.2.2.2.2 (.fieldLink RX5 11 "Countcote" "streams" "[LCountcote$Stream;") (by decide +kernel)
  have hinX5 : ∀ w ∈ wsX50, w ∈ wsX5_merge := by decide +kernel
  have hw_f24 := C.1.2.2.2.2 (.fieldLink RX5 24 "Countcote$Stream" "plain" "LCountcote$PlainCounts;") (by decide +kernel)
  have hinX4 : ∀ w ∈ wsX40, w ∈ wsX5_merge := by decide +kernel
  have hRj := hA j hj
  have hRo := hA o ho
  refine z_iload_n 0 C dX5_merge_0 rfl 1 rfl ?_
  refine z_iconst (v := nI 4) 1 C dX5_merge_1 rfl ?_
  refine z_callSv 2 C (As := [.int (nI j), .int (nI 4)]) 2 (c_X5_requirePlace l hg x j 4 (by omega) (by omega)) (va_cwS 2 C.1.2.2.2.2 gX5_merge_X5_requirePlace rfl rfl rfl (by decide +kernel) ⟨Nat.le_of_ble_eq_true rfl, Nat.le_of_ble_eq_true rfl⟩) rfl rfl (Nat.le_of_ble_eq_true rfl) ⟨Nat.le_of_ble_eq_true rfl, Nat.le_of_ble_eq_true rfl⟩ dX5_merge_2 (fun u hu => ?_)
  subst u
  refine z_iload_n 5 C dX5_merge_5 rfl 2 rfl ?_
  refine z_iconst (v := nI 4) 6 C dX5_merge_6 rfl ?_
  refine z_callSv 7 C (As := [.int (nI o), .int (nI 4)]) 2 (c_X5_requirePlace l hg x o 4 (by omega) (by omega)) (va_cwS 2 C.1.2.2.2.2 gX5_merge_X5_requirePlace rfl rfl rfl (by decide +kernel) ⟨Nat.le_of_ble_eq_true rfl, Nat.le_of_ble_eq_true rfl⟩) rfl rfl (Nat.le_of_ble_eq_true rfl) ⟨Nat.le_of_ble_eq_true rfl, Nat.le_of_ble_eq_true rfl⟩ dX5_merge_7 (fun u hu => ?_)
  subst u
  refine z_iload_n 10 C dX5_merge_10 rfl 1 rfl ?_
  refine z_iload_n 11 C dX5_merge_11 rfl 2 rfl ?_
  refine z_icmp_neN 12 C 25 dX5_merge_12 (by decide) (by omega) (by omega) (fun h12 => ?_) (fun h12 => absurd h12 hjo)
  refine z_aload_n 25 C dX5_merge_25 rfl 0 rfl ?_
  refine z_getr 26 C (ref := "Countcote") (T := TX5) (N := 1) (ci := 5) (q := 0) kR_streams rfl hinX5 (by decide) rfl hw_f11 dX5_merge_26 ?_
  refine z_iload_n 29 C dX5_merge_29 rfl 1 rfl ?_
  refine z_aald 30 C kQ_streams rfl (by omega) dX5_merge_30 ?_
  refine z_astore_n (lv' := [(3, .ref (zad g (zp j 0))), (0, .ref (zad g 0)), (1, .int (nI j)), (2, .int (nI o))]) 31 C dX5_merge_31 rfl (by decide) rfl ?_
  refine z_aload_n 32 C dX5_merge_32 rfl 1 rfl ?_
  refine z_getr 33 C (ref := "Countcote") (T := TX5) (N := 1) (ci := 5) (q := 0) kR_streams rfl hinX5 (by decide) rfl hw_f11 dX5_merge_33 ?_
  refine z_iload_n 36 C dX5_merge_36 rfl 3 rfl ?_
  refine z_aald 37 C kQ_streams rfl (by omega) dX5_merge_37 ?_
  refine z_astore (lv' := [(4, .ref (zad g (zp o 0))), (3, .ref (zad g (zp j 0))), (0, .ref (zad g 0)), (1, .int (nI j)), (2, .int (nI o))]) 38 C dX5_merge_38 (by decide) rfl ?_
  refine z_aload_n 40 C dX5_merge_40 rfl 1 rfl ?_
  refine z_getr 41 C (ref := "Countcote$Stream") (T := TX4) (N := 4) (ci := 4) (q := 0) (kR_plain hj) rfl hinX4 (by decide) rfl hw_f24 dX5_merge_41 ?_
  refine z_callVi 44 C (As := []) 0 (kO_plain hj) rfl (c_X2_sum l hg x j hj) (cwV 0 C.1.2.2.2.2 gX5_merge_X2_sum rfl rfl rfl (by decide +kernel) ⟨Nat.le_of_ble_eq_true rfl, Nat.le_of_ble_eq_true rfl⟩) rfl rfl (Nat.le_of_ble_eq_true rfl) ⟨Nat.le_of_ble_eq_true rfl, Nat.le_of_ble_eq_true rfl⟩ dX5_merge_44 (fun r u hu => ?_)
  obtain ⟨hu1, hu2⟩ : u = x ∧ r = ztot (S.1 j) := ⟨hu.1, hu.2.trans (zSR_tot hRj)⟩
  subst u
  subst r
  refine z_aload 47 C dX5_merge_47 0 rfl ?_
  refine z_getr 49 C (ref := "Countcote$Stream") (T := TX4) (N := 4) (ci := 4) (q := 0) (kR_plain ho) rfl hinX4 (by decide) rfl hw_f24 dX5_merge_49 ?_
  refine z_callVi 52 C (As := []) 0 (kO_plain ho) rfl (c_X2_sum l hg x o ho) (cwV 0 C.1.2.2.2.2 gX5_merge_X2_sum rfl rfl rfl (by decide +kernel) ⟨Nat.le_of_ble_eq_true rfl, Nat.le_of_ble_eq_true rfl⟩) rfl rfl (Nat.le_of_ble_eq_true rfl) ⟨Nat.le_of_ble_eq_true rfl, Nat.le_of_ble_eq_true rfl⟩ dX5_merge_52 (fun r u hu => ?_)
  obtain ⟨hu1, hu2⟩ : u = x ∧ r = ztot (S.1 o) := ⟨hu.1, hu.2.trans (zSR_tot hRo)⟩
  subst u
  subst r
  refine z_iadd (v := (ztot (S.1 j)) + (ztot (S.1 o))) 55 C dX5_merge_55 rfl ?_
  refine z_callSv 56 C (As := [.int ((ztot (S.1 j)) + (ztot (S.1 o)))]) 1 (c_X5_requireRoom l hg x ((ztot (S.1 j)) + (ztot (S.1 o))) hroom) (va_cwS 1 C.1.2.2.2.2 gX5_merge_X5_requireRoom rfl rfl rfl (by decide +kernel) ⟨Nat.le_of_ble_eq_true rfl, Nat.le_of_ble_eq_true rfl⟩) rfl rfl (Nat.le_of_ble_eq_true rfl) ⟨Nat.le_of_ble_eq_true rfl, Nat.le_of_ble_eq_true rfl⟩ dX5_merge_56 (fun u hu => ?_)
  subst u
  refine z_aload_n 59 C dX5_merge_59 rfl 1 rfl ?_
  refine z_aload 60 C dX5_merge_60 0 rfl ?_
  refine z_callVv 62 C (As := [.ref (zad g (zp o 0))]) 1 (kO_stream hj) rfl (c_X4_join l hg x j o hj ho hjo (S.1 j) (S.2.1 j) (S.2.2.1 j) (S.2.2.2 j) hRj (S.1 o) (S.2.1 o) (S.2.2.1 o) (S.2.2.2 o) hRo) (cwV 1 C.1.2.2.2.2 gX5_merge_X4_join rfl rfl rfl (by decide +kernel) ⟨Nat.le_of_ble_eq_true rfl, Nat.le_of_ble_eq_true rfl⟩) rfl rfl (Nat.le_of_ble_eq_true rfl) ⟨Nat.le_of_ble_eq_true rfl, Nat.le_of_ble_eq_true rfl⟩ dX5_merge_62 (fun y9 hu => ?_)
  obtain ⟨hO9, hN9⟩ := hu
  refine z_aload_n 65 C dX5_merge_65 rfl 1 rfl ?_
  refine z_getr 66 C (ref := "Countcote$Stream") (T := TX4) (N := 4) (ci := 4) (q := 0) (kR_plain hj) rfl hinX4 (by decide) rfl hw_f24 dX5_merge_66 ?_
  refine z_callVi 69 C (As := []) 0 (kO_plain hj) rfl (c_X2_sum l hg y9 j hj) (cwV 0 C.1.2.2.2.2 gX5_merge_X2_sum rfl rfl rfl (by decide +kernel) ⟨Nat.le_of_ble_eq_true rfl, Nat.le_of_ble_eq_true rfl⟩) rfl rfl (Nat.le_of_ble_eq_true rfl) ⟨Nat.le_of_ble_eq_true rfl, Nat.le_of_ble_eq_true rfl⟩ dX5_merge_69 (fun r u hu => ?_)
  obtain ⟨hu1, hu2⟩ : u = y9 ∧ r = ztot (fun k => S.1 j k + S.1 o k) := ⟨hu.1, hu.2.trans (zSR_tot hN9)⟩
  subst u
  subst r
  exact z_iret 72 C hr ⟨hO9, hN9, rfl⟩ dX5_merge_72
