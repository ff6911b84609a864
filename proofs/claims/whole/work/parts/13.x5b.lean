theorem zddiv_ok {a t : Int32} (h : ¬ t = 0) : vf_n64 (FP.ddiv (FP.i2d a) (FP.i2d t)) := by
  have h0 : Jvm.FP.Core.dIsNaN (FP.ddiv (FP.i2d a) (FP.i2d t)) = false := Jvm.FP.Core.ddiv_out (by rw [Jvm.FP.Core.notNaN_iff]; exact (Jvm.FP.Core.i2d_fin a).ne_nan) (Jvm.FP.Core.i2d_fin t) (fun z => Jvm.FP.Core.i2d_ne_zero h ((Jvm.FP.Core.zero_bits2 _).mp z))
  unfold vf_n64
  rw [UInt64.le_iff_toNat_le, UInt64.toNat_and]
  have h1 : (0x7fffffffffffffff : UInt64).toNat = 2 ^ 63 - 1 := by decide
  have h2 : (0x7ff0000000000000 : UInt64).toNat = 9218868437227405312 := by decide
  rw [h1, h2, Nat.and_two_pow_sub_one_eq_mod]
  rw [← Bool.not_eq_true, Jvm.FP.Core.isNaN_bits] at h0
  omega
theorem zcl {j : Nat} (h : j < 1000) : (nI j).toNatClampNeg = j := nI_clamp (by omega)
def zshare (c d : Nat → Int32) (i : Nat) : UInt64 := if ztot c = 0 then FP.dconst0 else FP.ddiv (FP.i2d (zest c d 0 i)) (FP.i2d (ztot c))
def zlm (n : Nat) : Int32 := nI n + (-1)
theorem zlm_s (n : Nat) : zlm (n + 1) = nI n := pk_m1 n
theorem zlm_0 : zlm 0 < 0 := by decide
theorem zlm_nn {n : Nat} (h : ¬ zlm n < 0) : ∃ q, n = q + 1 := by
  cases n with
  | zero => exact absurd zlm_0 h
  | succ q => exact ⟨q, rfl⟩
theorem zlm_n0 {n : Nat} (hn : n < 1000) (h : zlm n < 0) : n = 0 := by
  cases n with
  | zero => rfl
  | succ q =>
    rw [zlm_s] at h
    exact absurd h (nI_pos (by omega))
theorem zpt_s {a b : Nat} (h : a ≤ b) (hb : b < 64) : zparts 65 a b = zparts 65 (a + 2 ^ zlev a b) b + 1 := by
  have hp := zlev_pos a b
  rw [zparts_s h, zparts_fuel (n := 64) (m := 65) (by omega) (by omega)]
theorem zer_s {c d : Nat → Int32} {a b : Nat} (h : a ≤ b) (hb : b < 64) : zestR c d 65 a b = zest c d (zlev a b) (a / 2 ^ zlev a b) + zestR c d 65 (a + 2 ^ zlev a b) b := by
  have hp := zlev_pos a b
  rw [zestR_s h, zestR_fuel (n := 64) (m := 65) (by omega) (by omega)]
noncomputable def zfrB (c d : Nat → Int32) (least place : Int32) : Bool := @decide (∃ i, zfrat c d least place i) (Classical.propDecidable _)
theorem zfrB_y {c d : Nat → Int32} {least place : Int32} {i : Nat} (h : zfrat c d least place i) : zfrB c d least place = true := by
  unfold zfrB
  exact @decide_eq_true _ (Classical.propDecidable _) ⟨i, h⟩
theorem zfrB_n {c d : Nat → Int32} {least place : Int32} (h : ∀ i, ¬ zfrat c d least place i) : zfrB c d least place = false := by
  unfold zfrB
  exact @decide_eq_false _ (Classical.propDecidable _) (fun ⟨i, z⟩ => h i z)
theorem zfit_and {a : Nat} (lev : Nat) : a &&& (1 * 2 ^ lev - 1) = a % 2 ^ lev := by
  rw [Nat.one_mul, Nat.and_two_pow_sub_one_eq_mod]
theorem zpow_b {lev : Nat} (h : lev ≤ 6) : 1 ≤ 2 ^ lev ∧ 2 ^ lev ≤ 64 := by
  have h9 : lev = 0 ∨ lev = 1 ∨ lev = 2 ∨ lev = 3 ∨ lev = 4 ∨ lev = 5 ∨ lev = 6 := by omega
  rcases h9 with e | e | e | e | e | e | e <;> subst e <;> omega
theorem zfit_y {lev a b : Nat} (h1 : a &&& (1 * 2 ^ lev - 1) = 0) (h2 : a + 1 * 2 ^ lev - 1 ≤ b) : zfit lev a b = true := by
  unfold zfit
  rw [zfit_and] at h1
  have := Nat.one_le_two_pow (n := lev)
  rw [decide_eq_true h1, decide_eq_true (by omega)]
  rfl
theorem zfit_n1 {lev a b : Nat} (h1 : a &&& (1 * 2 ^ lev - 1) ≠ 0) : zfit lev a b = false := by
  unfold zfit
  rw [zfit_and] at h1
  rw [decide_eq_false h1]
  rfl
theorem zfit_n2 {lev a b : Nat} (h2 : b < a + 1 * 2 ^ lev - 1) : zfit lev a b = false := by
  unfold zfit
  rw [decide_eq_false (p := a + 2 ^ lev ≤ b + 1) (by omega), Bool.and_false]
set_option maxHeartbeats 4000000 in
set_option maxRecDepth 100000 in
/-- X5_isHalfWithin -/
theorem c_X5_isHalfWithin (l : Launch) {g : zG} (hg : zOk g) (x : zT) (lev a b : Nat) (hlev : lev ≤ 6) (ha : a < 64) (hb : b < 64) : Met l yX5_isHalfWithin wsX5_isHalfWithin ({ frames := 0, cells := 0, slots := 0, locals := 0 }) (va_Pc [.int (nI lev), .int (nI a), .int (nI b)] (zPre g x)) (va_Qi (fun (r : Int32) (u : zT) => u = x ∧ ((r = nI 1 ∧ zfit lev a b = true) ∨ (r = nI 0 ∧ zfit lev a b = false))) (zB g) (zA g)) 0 0 (zA g) := by
  refine z_met (cc := cX5_isHalfWithin) (nL := 4) (ret := (some .boolean)) hg (by decide) rfl (Nat.le_of_ble_eq_true rfl) ?_
  intro p_ e_ s_ m_ args_ below_ meth_ c_ C hr
  show Z p_ l e_ _ s_ m_ args_ below_ meth_ c_ g 4 0 0 _ x 0 [(0, .int (nI lev)), (1, .int (nI a)), (2, .int (nI b))] []
  have hpw := zpow_b hlev
  have hmz := zfit_and (a := a) lev
  have hmm := Nat.mod_le a (2 ^ lev)
  refine z_iconst (v := nI 1) 0 C dX5_isHalfWithin_0 rfl ?_
  refine z_iload_n 1 C dX5_isHalfWithin_1 rfl 0 rfl ?_
  refine z_ishl (v := nI (1 * 2 ^ lev)) 2 C dX5_isHalfWithin_2 (zn_shl 1 lev (by omega)) ?_
  refine z_istore_n (lv' := [(3, .int (nI (1 * 2 ^ lev))), (0, .int (nI lev)), (1, .int (nI a)), (2, .int (nI b))]) 3 C dX5_isHalfWithin_3 rfl (by decide) rfl ?_
  refine z_iload_n 4 C dX5_isHalfWithin_4 rfl 2 rfl ?_
  refine z_iload_n 5 C dX5_isHalfWithin_5 rfl 0 rfl ?_
  refine z_iconst (v := nI 1) 6 C dX5_isHalfWithin_6 rfl ?_
  refine z_isub (v := nI ((1 * 2 ^ lev) - 1)) 7 C dX5_isHalfWithin_7 (pk_sub (by omega)) ?_
  refine z_iand (v := nI (a &&& ((1 * 2 ^ lev) - 1))) 8 C dX5_isHalfWithin_8 (zn_and a ((1 * 2 ^ lev) - 1)) ?_
  refine z_if_neN 9 C 25 dX5_isHalfWithin_9 (by decide) (by omega) (fun h9 => ?_) (fun h9 => ?_)
  · refine z_iconst (v := nI 0) 25 C dX5_isHalfWithin_25 rfl ?_
    exact z_zret 26 C hr rfl ⟨rfl, Or.inr ⟨rfl, by first | exact zfit_n1 h9 | exact zfit_n2 h18⟩⟩ dX5_isHalfWithin_26
  · refine z_iload_n 12 C dX5_isHalfWithin_12 rfl 2 rfl ?_
    refine z_iload_n 13 C dX5_isHalfWithin_13 rfl 0 rfl ?_
    refine z_iadd (v := nI (a + (1 * 2 ^ lev))) 14 C dX5_isHalfWithin_14 (nI_add a (1 * 2 ^ lev)) ?_
    refine z_iconst (v := nI 1) 15 C dX5_isHalfWithin_15 rfl ?_
    refine z_isub (v := nI ((a + (1 * 2 ^ lev)) - 1)) 16 C dX5_isHalfWithin_16 (pk_sub (by omega)) ?_
    refine z_iload_n 17 C dX5_isHalfWithin_17 rfl 3 rfl ?_
    refine z_icmp_gtN 18 C 25 dX5_isHalfWithin_18 (by decide) (by omega) (by omega) (fun h18 => ?_) (fun h18 => ?_)
    · refine z_iconst (v := nI 0) 25 C dX5_isHalfWithin_25 rfl ?_
      exact z_zret 26 C hr rfl ⟨rfl, Or.inr ⟨rfl, by first | exact zfit_n1 h9 | exact zfit_n2 h18⟩⟩ dX5_isHalfWithin_26
    · refine z_iconst (v := nI 1) 21 C dX5_isHalfWithin_21 rfl ?_
      refine z_goto 22 C 26 dX5_isHalfWithin_22 (by decide) ?_
      exact z_zret 26 C hr rfl ⟨rfl, Or.inl ⟨rfl, zfit_y h9 h18⟩⟩ dX5_isHalfWithin_26
set_option maxHeartbeats 4000000 in
set_option maxRecDepth 100000 in
/-- X5_greatestLevel -/
theorem c_X5_greatestLevel (l : Launch) {g : zG} (hg : zOk g) (x : zT) (a b : Nat) (hab : a ≤ b) (hb : b < 64) : Met l yX5_greatestLevel wsX5_greatestLevel ({ frames := 1, cells := 0, slots := 0, locals := 23 }) (va_Pc [.int (nI a), .int (nI b)] (zPre g x)) (va_Qi (fun (r : Int32) (u : zT) => u = x ∧ r = nI (zlev a b)) (zB g) (zA g)) 0 0 (zA g) := by
  refine z_met (cc := cX5_greatestLevel) (nL := 3) (ret := (some .int)) hg (by decide) rfl (Nat.le_of_ble_eq_true rfl) ?_
  intro p_ e_ s_ m_ args_ below_ meth_ c_ C hr
  show Z p_ l e_ _ s_ m_ args_ below_ meth_ c_ g 3 0 0 _ x 0 [(0, .int (nI a)), (1, .int (nI b))] []
  refine z_iconst (v := nI 0) 0 C dX5_greatestLevel_0 rfl ?_
  refine z_istore_n (lv' := [(2, .int (nI 0)), (0, .int (nI a)), (1, .int (nI b))]) 1 C dX5_greatestLevel_1 rfl (by decide) rfl ?_
  have J2 : ∀ (n2 : Nat) (k : Nat), (k ≤ 6) → (6 < k + n2) → (zfit k a b = true) → Z p_ l e_ (headSpec wsX5_greatestLevel ({ frames := 1, cells := 0, slots := 0, locals := 23 })).room s_ m_ args_ below_ meth_ c_ g 3 0 0 (MQ below_ (va_Qi (fun (r : Int32) (u : zT) => u = x ∧ r = nI (zlev a b)) (zB g) (zA g)) args_ s_ 0 0 (zA g)) x 2 [(0, .int (nI a)), (1, .int (nI b)), (2, .int (nI k))] [] := by
    intro n2
    induction n2 with
    | zero => intro k hk hn hf; exact absurd hn (by omega)
    | succ n2 ih2 =>
      intro k hk hn hf
      refine z_iload_n 2 C dX5_greatestLevel_2 rfl 2 rfl ?_
      refine z_bipush (v := nI 6) 3 C dX5_greatestLevel_3 rfl ?_
      refine z_icmp_geN 5 C 25 dX5_greatestLevel_5 (by decide) (by omega) (by omega) (fun h5 => ?_) (fun h5 => ?_)
      · refine z_iload_n 25 C dX5_greatestLevel_25 rfl 2 rfl ?_
        exact z_iret 26 C hr ⟨rfl, by rw [zlev_eq hk hf (by first | exact Or.inr hft | exact Or.inl (by omega)) hab]⟩ dX5_greatestLevel_26
      · refine z_iload_n 8 C dX5_greatestLevel_8 rfl 2 rfl ?_
        refine z_iconst (v := nI 1) 9 C dX5_greatestLevel_9 rfl ?_
        refine z_iadd (v := nI (k + 1)) 10 C dX5_greatestLevel_10 (nI_add k 1) ?_
        refine z_iload_n 11 C dX5_greatestLevel_11 rfl 0 rfl ?_
        refine z_iload_n 12 C dX5_greatestLevel_12 rfl 1 rfl ?_
        refine z_callSi 13 C (As := [.int (nI (k + 1)), .int (nI a), .int (nI b)]) 3 (c_X5_isHalfWithin l hg x (k + 1) a b (by omega) (by omega) (by omega)) (va_cwS 3 C.1.2.2.2.2 gX5_greatestLevel_X5_isHalfWithin rfl rfl rfl (by decide +kernel) ⟨Nat.le_of_ble_eq_true rfl, Nat.le_of_ble_eq_true rfl⟩) rfl rfl (Nat.le_of_ble_eq_true rfl) ⟨Nat.le_of_ble_eq_true rfl, Nat.le_of_ble_eq_true rfl⟩ dX5_greatestLevel_13 (fun r u hu => ?_)
        obtain ⟨hu1, hu2⟩ := hu
        subst u
        rcases hu2 with ⟨hr9, hft⟩ | ⟨hr9, hft⟩
        · subst r
          refine z_if_eqN 16 C 25 dX5_greatestLevel_16 (by decide) (by omega) (fun h16 => absurd h16 (by omega)) (fun h16 => ?_)
          refine z_iinc (v' := nI (k + 1)) (lv' := [(2, .int (nI (k + 1))), (0, .int (nI a)), (1, .int (nI b))]) 19 C dX5_greatestLevel_19 (q := 2) rfl (zn_inc k 1) (by decide) rfl ?_
          refine z_goto 22 C 2 dX5_greatestLevel_22 (by decide) ?_
          refine z_lv (lv' := [(0, .int (nI a)), (1, .int (nI b)), (2, .int (nI (k + 1)))]) [1, 2, 0] rfl ?_
          exact ih2 (k + 1) (by omega) (by omega) hft
        · subst r
          refine z_if_eqN 16 C 25 dX5_greatestLevel_16 (by decide) (by omega) (fun h16 => ?_) (fun h16 => absurd h16 (by omega))
          refine z_iload_n 25 C dX5_greatestLevel_25 rfl 2 rfl ?_
          exact z_iret 26 C hr ⟨rfl, by rw [zlev_eq hk hf (by first | exact Or.inr hft | exact Or.inl (by omega)) hab]⟩ dX5_greatestLevel_26
  refine z_lv (lv' := [(0, .int (nI a)), (1, .int (nI b)), (2, .int (nI 0))]) [1, 2, 0] rfl ?_
  exact J2 7 0 (Nat.zero_le _) (by omega) (zfit_0 hab)
set_option maxHeartbeats 4000000 in
set_option maxRecDepth 100000 in
/-- X5_parts -/
theorem c_X5_parts (l : Launch) (hls : l.stackTraces = false) {g : zG} (hg : zOk g) (x : zT) (S : zS) (hA : zAll x S) (p0 p1 : Int32) : vx_Met l yX5_parts wsX5_parts ({ frames := 8, cells := 3, slots := 18, locals := 124 }) (va_Pc [.ref (zad g 0), .int p0, .int p1] (zPre g x)) (va_Qi (fun (r : Int32) (u : zT) => zk2 (zinb p0 64 && zinb p1 64) (decide (p0 ≤ p1)) = 0 ∧ ∃ aa bb : Nat, aa ≤ bb ∧ bb < 64 ∧ p0 = nI aa ∧ p1 = nI bb ∧ u = x ∧ r = nI (zparts 65 aa bb)) (zB g) (zA g)) (zXC g x (fun E => zPX (zk2 (zinb p0 64 && zinb p1 64) (decide (p0 ≤ p1))) E)) 3 18 (zA g) := by
  refine z_metX (cc := cX5_parts) (nL := 5) (ret := (some .int)) hg (by decide) rfl (Nat.le_of_ble_eq_true rfl) ?_
  intro p_ e_ s_ m_ args_ below_ meth_ c_ C hr hout
  show Z p_ l e_ _ s_ m_ args_ below_ meth_ c_ g 5 0 0 _ x 0 [(0, .ref (zad g 0)), (1, .int p0), (2, .int p1)] []
  refine z_iload_n 0 C dX5_parts_0 rfl 1 rfl ?_
  refine z_iload_n 1 C dX5_parts_1 rfl 2 rfl ?_
  refine z_callSX 2 C (As := [.int p0, .int p1]) 2 (c_X5_requireRange l hls hg x p0 p1) (va_cwS 2 C.1.2.2.2.2 gX5_parts_X5_requireRange rfl rfl rfl (by decide +kernel) ⟨Nat.le_of_ble_eq_true rfl, Nat.le_of_ble_eq_true rfl⟩) rfl rfl (Nat.le_of_ble_eq_true rfl) ⟨Nat.le_of_ble_eq_true rfl, Nat.le_of_ble_eq_true rfl⟩ dX5_parts_2 hout rfl (fun E hE => hE) ⟨Nat.le_of_ble_eq_true rfl, Nat.le_of_ble_eq_true rfl⟩ (fun u hu => ?_)
  obtain ⟨hu1, hz1, a, b, hab, hb, hp8, hp9⟩ := hu
  subst u
  subst hp8
  subst hp9
  refine z_iconst (v := nI 0) 5 C dX5_parts_5 rfl ?_
  refine z_istore_n (lv' := [(3, .int (nI 0)), (0, .ref (zad g 0)), (1, .int (nI a)), (2, .int (nI b))]) 6 C dX5_parts_6 rfl (by decide) rfl ?_
  refine z_iload_n 7 C dX5_parts_7 rfl 2 rfl ?_
  refine z_istore (lv' := [(4, .int (nI a)), (3, .int (nI 0)), (0, .ref (zad g 0)), (1, .int (nI a)), (2, .int (nI b))]) 8 C dX5_parts_8 (by decide) rfl ?_
  have J10 : ∀ (n10 : Nat) (i : Nat) (n : Nat), (i ≤ b + 1) → (b + 1 < i + n10) → (n + zparts 65 i b = zparts 65 a b) → Z p_ l e_ (headSpec wsX5_parts ({ frames := 8, cells := 3, slots := 18, locals := 124 })).room s_ m_ args_ below_ meth_ c_ g 5 3 18 (vx_MQ below_ (va_Qi (fun (r : Int32) (u : zT) => zk2 (zinb (nI a) 64 && zinb (nI b) 64) (decide ((nI a) ≤ (nI b))) = 0 ∧ ∃ aa bb : Nat, aa ≤ bb ∧ bb < 64 ∧ (nI a) = nI aa ∧ (nI b) = nI bb ∧ u = x ∧ r = nI (zparts 65 aa bb)) (zB g) (zA g)) (zXC g x (fun E => zPX (zk2 (zinb (nI a) 64 && zinb (nI b) 64) (decide ((nI a) ≤ (nI b)))) E)) args_ s_ 3 18 (zA g)) x 10 [(0, .ref (zad g 0)), (1, .int (nI a)), (2, .int (nI b)), (3, .int (nI n)), (4, .int (nI i))] [] := by
    intro n10
    induction n10 with
    | zero => intro i n hi hn hp; exact absurd hn (by omega)
    | succ n10 ih10 =>
      intro i n hi hn hp
      refine z_iload 10 C dX5_parts_10 4 rfl ?_
      refine z_iload_n 12 C dX5_parts_12 rfl 2 rfl ?_
      refine z_icmp_gtN 13 C 35 dX5_parts_13 (by decide) (by omega) (by omega) (fun h13 => ?_) (fun h13 => ?_)
      · refine z_iload_n 35 C dX5_parts_35 rfl 3 rfl ?_
        exact z_iretX 36 C hr ⟨hz1, a, b, hab, hb, rfl, rfl, rfl, by rw [← hp, zparts_e h13]; rfl⟩ dX5_parts_36
      · refine z_iload 16 C dX5_parts_16 4 rfl ?_
        refine z_iconst (v := nI 1) 18 C dX5_parts_18 rfl ?_
        refine z_iload 19 C dX5_parts_19 4 rfl ?_
        refine z_iload_n 21 C dX5_parts_21 rfl 2 rfl ?_
        refine z_callSi 22 C (As := [.int (nI i), .int (nI b)]) 2 (c_X5_greatestLevel l hg x i b (by omega) (by omega)) (va_cwS 2 C.1.2.2.2.2 gX5_parts_X5_greatestLevel rfl rfl rfl (by decide +kernel) ⟨Nat.le_of_ble_eq_true rfl, Nat.le_of_ble_eq_true rfl⟩) rfl rfl (Nat.le_of_ble_eq_true rfl) ⟨Nat.le_of_ble_eq_true rfl, Nat.le_of_ble_eq_true rfl⟩ dX5_parts_22 (fun r u hu => ?_)
        obtain ⟨hu1, hu2⟩ := hu
        subst u
        subst r
        have hlv := zlev_le i b
        have hlp := zlev_pos i b
        have hlf := zlev_fit (show i ≤ b by omega)
        have hpw := zpow_b hlv
        refine z_ishl (v := nI (1 * 2 ^ (zlev i b))) 25 C dX5_parts_25 (zn_shl 1 (zlev i b) (by omega)) ?_
        refine z_iadd (v := nI (i + (1 * 2 ^ (zlev i b)))) 26 C dX5_parts_26 (nI_add i (1 * 2 ^ (zlev i b))) ?_
        refine z_istore (lv' := [(4, .int (nI (i + (1 * 2 ^ (zlev i b))))), (0, .ref (zad g 0)), (1, .int (nI a)), (2, .int (nI b)), (3, .int (nI n))]) 27 C dX5_parts_27 (by decide) rfl ?_
        refine z_iinc (v' := nI (n + 1)) (lv' := [(3, .int (nI (n + 1))), (4, .int (nI (i + (1 * 2 ^ (zlev i b))))), (0, .ref (zad g 0)), (1, .int (nI a)), (2, .int (nI b))]) 29 C dX5_parts_29 (q := 4) rfl (zn_inc n 1) (by decide) rfl ?_
        refine z_goto 32 C 10 dX5_parts_32 (by decide) ?_
        refine z_lv (lv' := [(0, .ref (zad g 0)), (1, .int (nI a)), (2, .int (nI b)), (3, .int (nI (n + 1))), (4, .int (nI (i + (1 * 2 ^ (zlev i b)))))]) [2, 3, 4, 0, 1] rfl ?_
        exact ih10 (i + 1 * 2 ^ zlev i b) (n + 1) (by omega) (by omega) (by rw [← hp, zpt_s h13 hb, Nat.one_mul]; omega)
  refine z_lv (lv' := [(0, .ref (zad g 0)), (1, .int (nI a)), (2, .int (nI b)), (3, .int (nI 0)), (4, .int (nI a))]) [2, 3, 4, 1, 0] rfl ?_
  exact J10 (b + 2) a 0 (by omega) (by omega) (Nat.zero_add _)
set_option maxHeartbeats 4000000 in
set_option maxRecDepth 100000 in
/-- X5_estimateOfRange -/
theorem c_X5_estimateOfRange (l : Launch) (hls : l.stackTraces = false) {g : zG} (hg : zOk g) (x : zT) (S : zS) (hA : zAll x S) (p0 p1 p2 : Int32) : vx_Met l yX5_estimateOfRange wsX5_estimateOfRange ({ frames := 8, cells := 4, slots := 24, locals := 124 }) (va_Pc [.ref (zad g 0), .int p0, .int p1, .int p2] (zPre g x)) (va_Qi (fun (r : Int32) (u : zT) => zk2 (zinb p0 4 && (zinb p1 64 && zinb p2 64)) (decide (p1 ≤ p2)) = 0 ∧ ∃ jj aa bb : Nat, jj < 4 ∧ aa ≤ bb ∧ bb < 64 ∧ p0 = nI jj ∧ p1 = nI aa ∧ p2 = nI bb ∧ u = x ∧ r = zestR (S.1 jj) (S.2.1 jj) 65 aa bb) (zB g) (zA g)) (zXC g x (fun E => zPX (zk2 (zinb p0 4 && (zinb p1 64 && zinb p2 64)) (decide (p1 ≤ p2))) E)) 4 24 (zA g) := by
  refine z_metX (cc := cX5_estimateOfRange) (nL := 7) (ret := (some .int)) hg (by decide) rfl (Nat.le_of_ble_eq_true rfl) ?_
  intro p_ e_ s_ m_ args_ below_ meth_ c_ C hr hout
  show Z p_ l e_ _ s_ m_ args_ below_ meth_ c_ g 7 0 0 _ x 0 [(0, .ref (zad g 0)), (1, .int p0), (2, .int p1), (3, .int p2)] []
  have hw_f11 := C.1.2.2.2.2 (.fieldLink RX5 11 "Countcote" "streams" "[LCountcote$Stream;") (by decide +kernel)
  have hinX5 : ∀ w ∈ wsX50, w ∈ wsX5_estimateOfRange := by decide +kernel
  refine z_iload_n 0 C dX5_estimateOfRange_0 rfl 1 rfl ?_
  refine z_iconst (v := nI 4) 1 C dX5_estimateOfRange_1 rfl ?_
  refine z_callSX 2 C (As := [.int p0, .int (nI 4)]) 2 (c_X5_requirePlace l hls hg x p0 4 (by omega)) (va_cwS 2 C.1.2.2.2.2 gX5_estimateOfRange_X5_requirePlace rfl rfl rfl (by decide +kernel) ⟨Nat.le_of_ble_eq_true rfl, Nat.le_of_ble_eq_true rfl⟩) rfl rfl (Nat.le_of_ble_eq_true rfl) ⟨Nat.le_of_ble_eq_true rfl, Nat.le_of_ble_eq_true rfl⟩ dX5_estimateOfRange_2 hout rfl (fun E hE => Or.inl ⟨by simp [zk1, zk2, zk3, hE.2], hE.1⟩) ⟨Nat.le_of_ble_eq_true rfl, Nat.le_of_ble_eq_true rfl⟩ (fun u hu => ?_)
  obtain ⟨hu1, hz1⟩ := hu
  subst u
  obtain ⟨j, hj, hp9⟩ := (zinb_t (by omega)).mp hz1
  subst hp9
  have hRj := hA j hj
  refine z_iload_n 5 C dX5_estimateOfRange_5 rfl 2 rfl ?_
  refine z_iload_n 6 C dX5_estimateOfRange_6 rfl 3 rfl ?_
  refine z_callSX 7 C (As := [.int p1, .int p2]) 2 (c_X5_requireRange l hls hg x p1 p2) (va_cwS 2 C.1.2.2.2.2 gX5_estimateOfRange_X5_requireRange rfl rfl rfl (by decide +kernel) ⟨Nat.le_of_ble_eq_true rfl, Nat.le_of_ble_eq_true rfl⟩) rfl rfl (Nat.le_of_ble_eq_true rfl) ⟨Nat.le_of_ble_eq_true rfl, Nat.le_of_ble_eq_true rfl⟩ dX5_estimateOfRange_7 hout rfl (fun E hE => by
      rw [show zk2 (zinb (nI j) 4 && (zinb p1 64 && zinb p2 64)) (decide (p1 ≤ p2)) = zk2 (zinb p1 64 && zinb p2 64) (decide (p1 ≤ p2)) by rw [hz1]; rfl]
      exact hE) ⟨Nat.le_of_ble_eq_true rfl, Nat.le_of_ble_eq_true rfl⟩ (fun u hu => ?_)
  obtain ⟨hu1, hz2, a, b, hab, hb, hp8, hp9⟩ := hu
  subst u
  subst hp8
  subst hp9
  refine z_iconst (v := nI 0) 10 C dX5_estimateOfRange_10 rfl ?_
  refine z_istore (lv' := [(4, .int (nI 0)), (0, .ref (zad g 0)), (1, .int (nI j)), (2, .int (nI a)), (3, .int (nI b))]) 11 C dX5_estimateOfRange_11 (by decide) rfl ?_
  refine z_iload_n 13 C dX5_estimateOfRange_13 rfl 3 rfl ?_
  refine z_istore (lv' := [(5, .int (nI a)), (4, .int (nI 0)), (0, .ref (zad g 0)), (1, .int (nI j)), (2, .int (nI a)), (3, .int (nI b))]) 14 C dX5_estimateOfRange_14 (by decide) rfl ?_
  have J16 : ∀ (n16 : Nat) (i : Nat) (t : Int32), (i ≤ b + 1) → (b + 1 < i + n16) → (t + zestR (S.1 j) (S.2.1 j) 65 i b = zestR (S.1 j) (S.2.1 j) 65 a b) → Z p_ l e_ (headSpec wsX5_estimateOfRange ({ frames := 8, cells := 4, slots := 24, locals := 124 })).room s_ m_ args_ below_ meth_ c_ g 7 4 24 (vx_MQ below_ (va_Qi (fun (r : Int32) (u : zT) => zk2 (zinb (nI j) 4 && (zinb (nI a) 64 && zinb (nI b) 64)) (decide ((nI a) ≤ (nI b))) = 0 ∧ ∃ jj aa bb : Nat, jj < 4 ∧ aa ≤ bb ∧ bb < 64 ∧ (nI j) = nI jj ∧ (nI a) = nI aa ∧ (nI b) = nI bb ∧ u = x ∧ r = zestR (S.1 jj) (S.2.1 jj) 65 aa bb) (zB g) (zA g)) (zXC g x (fun E => zPX (zk2 (zinb (nI j) 4 && (zinb (nI a) 64 && zinb (nI b) 64)) (decide ((nI a) ≤ (nI b)))) E)) args_ s_ 4 24 (zA g)) x 16 [(0, .ref (zad g 0)), (1, .int (nI j)), (2, .int (nI a)), (3, .int (nI b)), (4, .int t), (5, .int (nI i))] [] := by
    intro n16
    induction n16 with
    | zero => intro i t hi hn hp; exact absurd hn (by omega)
    | succ n16 ih16 =>
      intro i t hi hn hp
      refine z_iload 16 C dX5_estimateOfRange_16 5 rfl ?_
      refine z_iload_n 18 C dX5_estimateOfRange_18 rfl 3 rfl ?_
      refine z_icmp_gtN 19 C 63 dX5_estimateOfRange_19 (by decide) (by omega) (by omega) (fun h19 => ?_) (fun h19 => ?_)
      · refine z_iload 63 C dX5_estimateOfRange_63 4 rfl ?_
        exact z_iretX 65 C hr ⟨by rw [hz1]; exact hz2, j, a, b, hj, hab, hb, rfl, rfl, rfl, rfl, by rw [← hp, zestR_e h19, Int32.add_zero]⟩ dX5_estimateOfRange_65
      · refine z_iload 22 C dX5_estimateOfRange_22 5 rfl ?_
        refine z_iload_n 24 C dX5_estimateOfRange_24 rfl 3 rfl ?_
        refine z_callSi 25 C (As := [.int (nI i), .int (nI b)]) 2 (c_X5_greatestLevel l hg x i b (by omega) (by omega)) (va_cwS 2 C.1.2.2.2.2 gX5_estimateOfRange_X5_greatestLevel rfl rfl rfl (by decide +kernel) ⟨Nat.le_of_ble_eq_true rfl, Nat.le_of_ble_eq_true rfl⟩) rfl rfl (Nat.le_of_ble_eq_true rfl) ⟨Nat.le_of_ble_eq_true rfl, Nat.le_of_ble_eq_true rfl⟩ dX5_estimateOfRange_25 (fun r u hu => ?_)
        obtain ⟨hu1, hu2⟩ := hu
        subst u
        subst r
        have hlv := zlev_le i b
        have hlp := zlev_pos i b
        have hlf := zlev_fit (show i ≤ b by omega)
        have hpw := zpow_b hlv
        refine z_istore (lv' := [(6, .int (nI (zlev i b))), (0, .ref (zad g 0)), (1, .int (nI j)), (2, .int (nI a)), (3, .int (nI b)), (4, .int t), (5, .int (nI i))]) 28 C dX5_estimateOfRange_28 (by decide) rfl ?_
        refine z_iload 30 C dX5_estimateOfRange_30 5 rfl ?_
        refine z_aload_n 32 C dX5_estimateOfRange_32 rfl 1 rfl ?_
        refine z_getr 33 C (ref := "Countcote") (T := TX5) (N := 1) (ci := 5) (q := 0) kR_streams rfl hinX5 (by decide) rfl hw_f11 dX5_estimateOfRange_33 ?_
        refine z_iload_n 36 C dX5_estimateOfRange_36 rfl 2 rfl ?_
        refine z_aald 37 C kQ_streams rfl (by omega) dX5_estimateOfRange_37 ?_
        refine z_iload 38 C dX5_estimateOfRange_38 0 rfl ?_
        refine z_iload 40 C dX5_estimateOfRange_40 6 rfl ?_
        refine z_iload 42 C dX5_estimateOfRange_42 0 rfl ?_
        refine z_ishr (v := nI (i / 2 ^ (zlev i b))) 44 C dX5_estimateOfRange_44 (zn_shr i (zlev i b) (by omega) (by omega)) ?_
        refine z_callVi 45 C (As := [.int (nI (zlev i b)), .int (nI (i / 2 ^ (zlev i b)))]) 2 (kO_stream hj) rfl (c_X4_estimateOf l hg x j hj (S.1 j) (S.2.1 j) (S.2.2.1 j) (S.2.2.2 j) hRj (zlev i b) (i / 2 ^ (zlev i b)) hlv (by have := zhalf_lt (item := i) (lev := zlev i b) (by omega) hlv; omega)) (cwV 2 C.1.2.2.2.2 gX5_estimateOfRange_X4_estimateOf rfl rfl rfl (by decide +kernel) ⟨Nat.le_of_ble_eq_true rfl, Nat.le_of_ble_eq_true rfl⟩) rfl rfl (Nat.le_of_ble_eq_true rfl) ⟨Nat.le_of_ble_eq_true rfl, Nat.le_of_ble_eq_true rfl⟩ dX5_estimateOfRange_45 (fun r u hu => ?_)
        obtain ⟨hu1, hu2⟩ := hu
        subst u
        obtain ⟨v3, ev3⟩ : ∃ y : Int32, y = zest (S.1 j) (S.2.1 j) (zlev i b) (i / 2 ^ (zlev i b)) := ⟨_, rfl⟩
        rw [← ev3] at hu2
        subst r
        refine z_iadd (v := t + v3) 48 C dX5_estimateOfRange_48 rfl ?_
        refine z_istore (lv' := [(4, .int (t + v3)), (6, .int (nI (zlev i b))), (0, .ref (zad g 0)), (1, .int (nI j)), (2, .int (nI a)), (3, .int (nI b)), (5, .int (nI i))]) 49 C dX5_estimateOfRange_49 (by decide) rfl ?_
        refine z_iload 51 C dX5_estimateOfRange_51 6 rfl ?_
        refine z_iconst (v := nI 1) 53 C dX5_estimateOfRange_53 rfl ?_
        refine z_iload 54 C dX5_estimateOfRange_54 1 rfl ?_
        refine z_ishl (v := nI (1 * 2 ^ (zlev i b))) 56 C dX5_estimateOfRange_56 (zn_shl 1 (zlev i b) (by omega)) ?_
        refine z_iadd (v := nI (i + (1 * 2 ^ (zlev i b)))) 57 C dX5_estimateOfRange_57 (nI_add i (1 * 2 ^ (zlev i b))) ?_
        refine z_istore (lv' := [(5, .int (nI (i + (1 * 2 ^ (zlev i b))))), (4, .int (t + v3)), (6, .int (nI (zlev i b))), (0, .ref (zad g 0)), (1, .int (nI j)), (2, .int (nI a)), (3, .int (nI b))]) 58 C dX5_estimateOfRange_58 (by decide) rfl ?_
        refine z_goto 60 C 16 dX5_estimateOfRange_60 (by decide) ?_
        refine z_lv (lv' := [(0, .ref (zad g 0)), (1, .int (nI j)), (2, .int (nI a)), (3, .int (nI b)), (4, .int (t + v3)), (5, .int (nI (i + (1 * 2 ^ (zlev i b)))))]) [3, 4, 5, 6, 1, 0] rfl ?_
        exact ih16 (i + 1 * 2 ^ zlev i b) (t + v3) (by omega) (by omega) (by rw [← hp, zer_s h19 hb, Nat.one_mul, ev3]; exact Int32.add_assoc _ _ _)
  refine z_lv (lv' := [(0, .ref (zad g 0)), (1, .int (nI j)), (2, .int (nI a)), (3, .int (nI b)), (4, .int (nI 0)), (5, .int (nI a))]) [2, 3, 4, 5, 1, 0] rfl ?_
  exact J16 (b + 2) a 0 (by omega) (by omega) (Int32.zero_add _)
set_option maxHeartbeats 4000000 in
set_option maxRecDepth 100000 in
/-- X5_frequent -/
theorem c_X5_frequent (l : Launch) (hls : l.stackTraces = false) {g : zG} (hg : zOk g) (x : zT) (S : zS) (hA : zAll x S) (p0 p1 : Int32) : vx_Met l yX5_frequent wsX5_frequent ({ frames := 7, cells := 2, slots := 12, locals := 110 }) (va_Pc [.ref (zad g 0), .int p0, .int p1] (zPre g x)) (va_Qi (fun (r : Int32) (u : zT) => zk2 (zinb p0 4) (zwib p1 (nI 1) (nI 1000000)) = 0 ∧ ∃ jj : Nat, jj < 4 ∧ p0 = nI jj ∧ u = x ∧ r = nI (zfrn (S.1 jj) (S.2.1 jj) p1 64)) (zB g) (zA g)) (zXC g x (fun E => zPX (zk2 (zinb p0 4) (zwib p1 (nI 1) (nI 1000000))) E)) 2 12 (zA g) := by
  refine z_metX (cc := cX5_frequent) (nL := 5) (ret := (some .int)) hg (by decide) rfl (Nat.le_of_ble_eq_true rfl) ?_
  intro p_ e_ s_ m_ args_ below_ meth_ c_ C hr hout
  show Z p_ l e_ _ s_ m_ args_ below_ meth_ c_ g 5 0 0 _ x 0 [(0, .ref (zad g 0)), (1, .int p0), (2, .int p1)] []
  have hw_k87 := C.1.2.2.2.2 (.constant RX5 87 1000000) (by decide +kernel)
  have hw_f11 := C.1.2.2.2.2 (.fieldLink RX5 11 "Countcote" "streams" "[LCountcote$Stream;") (by decide +kernel)
  have hinX5 : ∀ w ∈ wsX50, w ∈ wsX5_frequent := by decide +kernel
  refine z_iload_n 0 C dX5_frequent_0 rfl 1 rfl ?_
  refine z_iconst (v := nI 4) 1 C dX5_frequent_1 rfl ?_
  refine z_callSX 2 C (As := [.int p0, .int (nI 4)]) 2 (c_X5_requirePlace l hls hg x p0 4 (by omega)) (va_cwS 2 C.1.2.2.2.2 gX5_frequent_X5_requirePlace rfl rfl rfl (by decide +kernel) ⟨Nat.le_of_ble_eq_true rfl, Nat.le_of_ble_eq_true rfl⟩) rfl rfl (Nat.le_of_ble_eq_true rfl) ⟨Nat.le_of_ble_eq_true rfl, Nat.le_of_ble_eq_true rfl⟩ dX5_frequent_2 hout rfl (fun E hE => Or.inl ⟨by simp [zk1, zk2, zk3, hE.2], hE.1⟩) ⟨Nat.le_of_ble_eq_true rfl, Nat.le_of_ble_eq_true rfl⟩ (fun u hu => ?_)
  obtain ⟨hu1, hz1⟩ := hu
  subst u
  obtain ⟨j, hj, hp9⟩ := (zinb_t (by omega)).mp hz1
  subst hp9
  have hRj := hA j hj
  refine z_iload_n 5 C dX5_frequent_5 rfl 2 rfl ?_
  refine z_iconst (v := nI 1) 6 C dX5_frequent_6 rfl ?_
  refine z_ldc 7 C (v := nI 1000000) hw_k87 dX5_frequent_7 ?_
  refine z_callSX 9 C (As := [.int p1, .int (nI 1), .int (nI 1000000)]) 3 (c_X5_requireWithin l hls hg x p1 (nI 1) (nI 1000000)) (va_cwS 3 C.1.2.2.2.2 gX5_frequent_X5_requireWithin rfl rfl rfl (by decide +kernel) ⟨Nat.le_of_ble_eq_true rfl, Nat.le_of_ble_eq_true rfl⟩) rfl rfl (Nat.le_of_ble_eq_true rfl) ⟨Nat.le_of_ble_eq_true rfl, Nat.le_of_ble_eq_true rfl⟩ dX5_frequent_9 hout rfl (fun E hE => Or.inr (Or.inl ⟨by simp [zk1, zk2, zk3, hz1, hE.2], hE.1⟩)) ⟨Nat.le_of_ble_eq_true rfl, Nat.le_of_ble_eq_true rfl⟩ (fun u hu => ?_)
  obtain ⟨hu1, hz2⟩ := hu
  subst u
  refine z_iconst (v := nI 0) 12 C dX5_frequent_12 rfl ?_
  refine z_istore_n (lv' := [(3, .int (nI 0)), (0, .ref (zad g 0)), (1, .int (nI j)), (2, .int p1)]) 13 C dX5_frequent_13 rfl (by decide) rfl ?_
  refine z_iconst (v := nI 0) 14 C dX5_frequent_14 rfl ?_
  refine z_istore (lv' := [(4, .int (nI 0)), (3, .int (nI 0)), (0, .ref (zad g 0)), (1, .int (nI j)), (2, .int p1)]) 15 C dX5_frequent_15 (by decide) rfl ?_
  have J17 : ∀ (n17 : Nat) (i : Nat) (n : Nat), (i ≤ 64) → (64 < i + n17) → (n = zfrn (S.1 j) (S.2.1 j) p1 i) → Z p_ l e_ (headSpec wsX5_frequent ({ frames := 7, cells := 2, slots := 12, locals := 110 })).room s_ m_ args_ below_ meth_ c_ g 5 2 12 (vx_MQ below_ (va_Qi (fun (r : Int32) (u : zT) => zk2 (zinb (nI j) 4) (zwib p1 (nI 1) (nI 1000000)) = 0 ∧ ∃ jj : Nat, jj < 4 ∧ (nI j) = nI jj ∧ u = x ∧ r = nI (zfrn (S.1 jj) (S.2.1 jj) p1 64)) (zB g) (zA g)) (zXC g x (fun E => zPX (zk2 (zinb (nI j) 4) (zwib p1 (nI 1) (nI 1000000))) E)) args_ s_ 2 12 (zA g)) x 17 [(0, .ref (zad g 0)), (1, .int (nI j)), (2, .int p1), (3, .int (nI n)), (4, .int (nI i))] [] := by
    intro n17
    induction n17 with
    | zero => intro i n hi hn hp; exact absurd hn (by omega)
    | succ n17 ih17 =>
      intro i n hi hn hp
      refine z_iload 17 C dX5_frequent_17 4 rfl ?_
      refine z_bipush (v := nI 64) 19 C dX5_frequent_19 rfl ?_
      refine z_icmp_geN 21 C 48 dX5_frequent_21 (by decide) (by omega) (by omega) (fun h21 => ?_) (fun h21 => ?_)
      · refine z_iload_n 48 C dX5_frequent_48 rfl 3 rfl ?_
        exact z_iretX 49 C hr ⟨by simp [zk1, zk2, zk3, hz1, hz2], j, hj, rfl, rfl, by rw [hp, show i = 64 by omega]⟩ dX5_frequent_49
      · refine z_aload_n 24 C dX5_frequent_24 rfl 0 rfl ?_
        refine z_getr 25 C (ref := "Countcote") (T := TX5) (N := 1) (ci := 5) (q := 0) kR_streams rfl hinX5 (by decide) rfl hw_f11 dX5_frequent_25 ?_
        refine z_iload_n 28 C dX5_frequent_28 rfl 1 rfl ?_
        refine z_aald 29 C kQ_streams rfl (by omega) dX5_frequent_29 ?_
        refine z_iload 30 C dX5_frequent_30 4 rfl ?_
        refine z_iload_n 32 C dX5_frequent_32 rfl 2 rfl ?_
        refine z_callVi 33 C (As := [.int (nI i), .int p1]) 2 (kO_stream hj) rfl (c_X4_reaches l hg x j hj (S.1 j) (S.2.1 j) (S.2.2.1 j) (S.2.2.2 j) hRj i (by omega) p1) (cwV 2 C.1.2.2.2.2 gX5_frequent_X4_reaches rfl rfl rfl (by decide +kernel) ⟨Nat.le_of_ble_eq_true rfl, Nat.le_of_ble_eq_true rfl⟩) rfl rfl (Nat.le_of_ble_eq_true rfl) ⟨Nat.le_of_ble_eq_true rfl, Nat.le_of_ble_eq_true rfl⟩ dX5_frequent_33 (fun r u hu => ?_)
        obtain ⟨hu1, hu2⟩ := hu
        subst u
        rcases hu2 with ⟨hr9, hfq⟩ | ⟨hr9, hfq⟩
        · subst r
          refine z_if_eqN 36 C 42 dX5_frequent_36 (by decide) (by omega) (fun h36 => absurd h36 (by omega)) (fun h36 => ?_)
          refine z_iinc (v' := nI (n + 1)) (lv' := [(3, .int (nI (n + 1))), (0, .ref (zad g 0)), (1, .int (nI j)), (2, .int p1), (4, .int (nI i))]) 39 C dX5_frequent_39 (q := 3) rfl (zn_inc n 1) (by decide) rfl ?_
          refine z_iinc (v' := nI (i + 1)) (lv' := [(4, .int (nI (i + 1))), (3, .int (nI (n + 1))), (0, .ref (zad g 0)), (1, .int (nI j)), (2, .int p1)]) 42 C dX5_frequent_42 (q := 4) rfl (zn_inc i 1) (by decide) rfl ?_
          refine z_goto 45 C 17 dX5_frequent_45 (by decide) ?_
          refine z_lv (lv' := [(0, .ref (zad g 0)), (1, .int (nI j)), (2, .int p1), (3, .int (nI (n + 1))), (4, .int (nI (i + 1)))]) [2, 3, 4, 1, 0] rfl ?_
          exact ih17 (i + 1) (n + 1) (by omega) (by omega) (by rw [hp]; show _ = zfrn (S.1 j) (S.2.1 j) p1 i + zfrb (S.1 j) (S.2.1 j) p1 i; rw [zfrb_y hfq])
        · subst r
          refine z_if_eqN 36 C 42 dX5_frequent_36 (by decide) (by omega) (fun h36 => ?_) (fun h36 => absurd h36 (by omega))
          refine z_iinc (v' := nI (i + 1)) (lv' := [(4, .int (nI (i + 1))), (0, .ref (zad g 0)), (1, .int (nI j)), (2, .int p1), (3, .int (nI n))]) 42 C dX5_frequent_42 (q := 4) rfl (zn_inc i 1) (by decide) rfl ?_
          refine z_goto 45 C 17 dX5_frequent_45 (by decide) ?_
          refine z_lv (lv' := [(0, .ref (zad g 0)), (1, .int (nI j)), (2, .int p1), (3, .int (nI n)), (4, .int (nI (i + 1)))]) [1, 2, 3, 4, 0] rfl ?_
          exact ih17 (i + 1) n (by omega) (by omega) (by rw [hp]; show _ = zfrn (S.1 j) (S.2.1 j) p1 i + zfrb (S.1 j) (S.2.1 j) p1 i; rw [zfrb_n hfq, Nat.add_zero])
  refine z_lv (lv' := [(0, .ref (zad g 0)), (1, .int (nI j)), (2, .int p1), (3, .int (nI 0)), (4, .int (nI 0))]) [2, 3, 4, 1, 0] rfl ?_
  exact J17 65 0 0 (Nat.zero_le _) (by omega) rfl
theorem zfq_s {P : Nat → Prop} {i : Nat} (h : ∀ k, k < i → ¬ P k) (hi : ¬ P i) : ∀ k, k < i + 1 → ¬ P k := fun k hk => by
  by_cases e : k = i
  · subst e; exact hi
  · exact h k (by omega)
set_option maxHeartbeats 4000000 in
set_option maxRecDepth 100000 in
/-- X5_frequentAt -/
theorem c_X5_frequentAt (l : Launch) (hls : l.stackTraces = false) {g : zG} (hg : zOk g) (x : zT) (S : zS) (hA : zAll x S) (p0 p1 p2 : Int32) : vx_Met l yX5_frequentAt wsX5_frequentAt ({ frames := 7, cells := 3, slots := 18, locals := 110 }) (va_Pc [.ref (zad g 0), .int p0, .int p1, .int p2] (zPre g x)) (va_Qi (fun (r : Int32) (u : zT) => zk3 (zinb p0 4) (zwib p1 (nI 1) (nI 1000000)) (zfrB (S.1 p0.toNatClampNeg) (S.2.1 p0.toNatClampNeg) p1 p2) = 0 ∧ ∃ jj ii : Nat, jj < 4 ∧ p0 = nI jj ∧ u = x ∧ zfrat (S.1 jj) (S.2.1 jj) p1 p2 ii ∧ r = nI ii) (zB g) (zA g)) (zXC g x (fun E => zPN (zk3 (zinb p0 4) (zwib p1 (nI 1) (nI 1000000)) (zfrB (S.1 p0.toNatClampNeg) (S.2.1 p0.toNatClampNeg) p1 p2)) E)) 3 18 (zA g) := by
  refine z_metX (cc := cX5_frequentAt) (nL := 6) (ret := (some .int)) hg (by decide) rfl (Nat.le_of_ble_eq_true rfl) ?_
  intro p_ e_ s_ m_ args_ below_ meth_ c_ C hr hout
  show Z p_ l e_ _ s_ m_ args_ below_ meth_ c_ g 6 0 0 _ x 0 [(0, .ref (zad g 0)), (1, .int p0), (2, .int p1), (3, .int p2)] []
  have hw_k87 := C.1.2.2.2.2 (.constant RX5 87 1000000) (by decide +kernel)
  have hw_k92 := C.1.2.2.2.2 (.classLink RX5 92 "java/util/NoSuchElementException") (by decide +kernel)
  have hw_iNoSuchElementException := C.1.2.2.2.2 (.initialized "java/util/NoSuchElementException") (by decide +kernel)
  have hw_f11 := C.1.2.2.2.2 (.fieldLink RX5 11 "Countcote" "streams" "[LCountcote$Stream;") (by decide +kernel)
  have hinX5 : ∀ w ∈ wsX50, w ∈ wsX5_frequentAt := by decide +kernel
  refine z_iload_n 0 C dX5_frequentAt_0 rfl 1 rfl ?_
  refine z_iconst (v := nI 4) 1 C dX5_frequentAt_1 rfl ?_
  refine z_callSX 2 C (As := [.int p0, .int (nI 4)]) 2 (c_X5_requirePlace l hls hg x p0 4 (by omega)) (va_cwS 2 C.1.2.2.2.2 gX5_frequentAt_X5_requirePlace rfl rfl rfl (by decide +kernel) ⟨Nat.le_of_ble_eq_true rfl, Nat.le_of_ble_eq_true rfl⟩) rfl rfl (Nat.le_of_ble_eq_true rfl) ⟨Nat.le_of_ble_eq_true rfl, Nat.le_of_ble_eq_true rfl⟩ dX5_frequentAt_2 hout rfl (fun E hE => Or.inl ⟨by simp [zk1, zk2, zk3, hE.2], hE.1⟩) ⟨Nat.le_of_ble_eq_true rfl, Nat.le_of_ble_eq_true rfl⟩ (fun u hu => ?_)
  obtain ⟨hu1, hz1⟩ := hu
  subst u
  obtain ⟨j, hj, hp9⟩ := (zinb_t (by omega)).mp hz1
  subst hp9
  have hRj := hA j hj
  refine z_iload_n 5 C dX5_frequentAt_5 rfl 2 rfl ?_
  refine z_iconst (v := nI 1) 6 C dX5_frequentAt_6 rfl ?_
  refine z_ldc 7 C (v := nI 1000000) hw_k87 dX5_frequentAt_7 ?_
  refine z_callSX 9 C (As := [.int p1, .int (nI 1), .int (nI 1000000)]) 3 (c_X5_requireWithin l hls hg x p1 (nI 1) (nI 1000000)) (va_cwS 3 C.1.2.2.2.2 gX5_frequentAt_X5_requireWithin rfl rfl rfl (by decide +kernel) ⟨Nat.le_of_ble_eq_true rfl, Nat.le_of_ble_eq_true rfl⟩) rfl rfl (Nat.le_of_ble_eq_true rfl) ⟨Nat.le_of_ble_eq_true rfl, Nat.le_of_ble_eq_true rfl⟩ dX5_frequentAt_9 hout rfl (fun E hE => Or.inr (Or.inl ⟨by simp [zk1, zk2, zk3, hz1, hE.2], hE.1⟩)) ⟨Nat.le_of_ble_eq_true rfl, Nat.le_of_ble_eq_true rfl⟩ (fun u hu => ?_)
  obtain ⟨hu1, hz2⟩ := hu
  subst u
  refine z_iconst (v := nI 0) 12 C dX5_frequentAt_12 rfl ?_
  refine z_istore (lv' := [(4, .int (nI 0)), (0, .ref (zad g 0)), (1, .int (nI j)), (2, .int p1), (3, .int p2)]) 13 C dX5_frequentAt_13 (by decide) rfl ?_
  refine z_iconst (v := nI 0) 15 C dX5_frequentAt_15 rfl ?_
  refine z_istore (lv' := [(5, .int (nI 0)), (4, .int (nI 0)), (0, .ref (zad g 0)), (1, .int (nI j)), (2, .int p1), (3, .int p2)]) 16 C dX5_frequentAt_16 (by decide) rfl ?_
  have J18 : ∀ (n18 : Nat) (i : Nat) (n : Nat), (i ≤ 64) → (64 < i + n18) → (n = zfrn (S.1 j) (S.2.1 j) p1 i) → (∀ k, k < i → ¬ zfrat (S.1 j) (S.2.1 j) p1 p2 k) → Z p_ l e_ (headSpec wsX5_frequentAt ({ frames := 7, cells := 3, slots := 18, locals := 110 })).room s_ m_ args_ below_ meth_ c_ g 6 2 12 (vx_MQ below_ (va_Qi (fun (r : Int32) (u : zT) => zk3 (zinb (nI j) 4) (zwib p1 (nI 1) (nI 1000000)) (zfrB (S.1 (nI j).toNatClampNeg) (S.2.1 (nI j).toNatClampNeg) p1 p2) = 0 ∧ ∃ jj ii : Nat, jj < 4 ∧ (nI j) = nI jj ∧ u = x ∧ zfrat (S.1 jj) (S.2.1 jj) p1 p2 ii ∧ r = nI ii) (zB g) (zA g)) (zXC g x (fun E => zPN (zk3 (zinb (nI j) 4) (zwib p1 (nI 1) (nI 1000000)) (zfrB (S.1 (nI j).toNatClampNeg) (S.2.1 (nI j).toNatClampNeg) p1 p2)) E)) args_ s_ 3 18 (zA g)) x 18 [(0, .ref (zad g 0)), (1, .int (nI j)), (2, .int p1), (3, .int p2), (4, .int (nI n)), (5, .int (nI i))] [] := by
    intro n18
    induction n18 with
    | zero => intro i n hi hn hp hq; exact absurd hn (by omega)
    | succ n18 ih18 =>
      intro i n hi hn hp hq
      refine z_iload 18 C dX5_frequentAt_18 5 rfl ?_
      refine z_bipush (v := nI 64) 20 C dX5_frequentAt_20 rfl ?_
      refine z_icmp_geN 22 C 58 dX5_frequentAt_22 (by decide) (by omega) (by omega) (fun h22 => ?_) (fun h22 => ?_)
      · exact z_throwS 58 C hls (cls := "java/util/NoSuchElementException") (text := "no such place among the frequent items") (names := ["java/lang/RuntimeException", "java/lang/Exception"]) (ik := 92) (is := 94) (ic := 96) (by decide) (by decide) (List.mem_of_getElem? (i := 3) rfl) hw_k92 hw_iNoSuchElementException (List.mem_of_getElem? (i := 1) rfl) (by decide +kernel) (by decide +kernel) (by decide +kernel) dX5_frequentAt_58 dX5_frequentAt_61 dX5_frequentAt_62 dX5_frequentAt_64 dX5_frequentAt_67 hout (Nat.le_of_ble_eq_true rfl) (Nat.le_of_ble_eq_true rfl) ⟨Nat.le_of_ble_eq_true rfl, Nat.le_of_ble_eq_true rfl⟩ rfl (Or.inr (Or.inr ⟨by rw [zcl (j := j) (by omega), zfrB_n (fun k z => hq k (by have := z.1; omega) z)]; simp [zk3, hz1, hz2], rfl⟩)) ⟨Nat.le_of_ble_eq_true rfl, Nat.le_of_ble_eq_true rfl⟩
      · refine z_aload_n 25 C dX5_frequentAt_25 rfl 0 rfl ?_
        refine z_getr 26 C (ref := "Countcote") (T := TX5) (N := 1) (ci := 5) (q := 0) kR_streams rfl hinX5 (by decide) rfl hw_f11 dX5_frequentAt_26 ?_
        refine z_iload_n 29 C dX5_frequentAt_29 rfl 1 rfl ?_
        refine z_aald 30 C kQ_streams rfl (by omega) dX5_frequentAt_30 ?_
        refine z_iload 31 C dX5_frequentAt_31 5 rfl ?_
        refine z_iload_n 33 C dX5_frequentAt_33 rfl 2 rfl ?_
        refine z_callVi 34 C (As := [.int (nI i), .int p1]) 2 (kO_stream hj) rfl (c_X4_reaches l hg x j hj (S.1 j) (S.2.1 j) (S.2.2.1 j) (S.2.2.2 j) hRj i (by omega) p1) (cwV 2 C.1.2.2.2.2 gX5_frequentAt_X4_reaches rfl rfl rfl (by decide +kernel) ⟨Nat.le_of_ble_eq_true rfl, Nat.le_of_ble_eq_true rfl⟩) rfl rfl (Nat.le_of_ble_eq_true rfl) ⟨Nat.le_of_ble_eq_true rfl, Nat.le_of_ble_eq_true rfl⟩ dX5_frequentAt_34 (fun r u hu => ?_)
        obtain ⟨hu1, hu2⟩ := hu
        subst u
        rcases hu2 with ⟨hr9, hfq⟩ | ⟨hr9, hfq⟩
        · subst r
          refine z_if_eqN 37 C 52 dX5_frequentAt_37 (by decide) (by omega) (fun h37 => absurd h37 (by omega)) (fun h37 => ?_)
          refine z_iload 40 C dX5_frequentAt_40 4 rfl ?_
          refine z_iload_n 42 C dX5_frequentAt_42 rfl 3 rfl ?_
          refine z_icmp_ne 43 C 49 dX5_frequentAt_43 (by decide) (fun h43 => ?_) (fun h43 => ?_)
          · refine z_iinc (v' := nI (n + 1)) (lv' := [(4, .int (nI (n + 1))), (0, .ref (zad g 0)), (1, .int (nI j)), (2, .int p1), (3, .int p2), (5, .int (nI i))]) 49 C dX5_frequentAt_49 (q := 4) rfl (zn_inc n 1) (by decide) rfl ?_
            refine z_iinc (v' := nI (i + 1)) (lv' := [(5, .int (nI (i + 1))), (4, .int (nI (n + 1))), (0, .ref (zad g 0)), (1, .int (nI j)), (2, .int p1), (3, .int p2)]) 52 C dX5_frequentAt_52 (q := 5) rfl (zn_inc i 1) (by decide) rfl ?_
            refine z_goto 55 C 18 dX5_frequentAt_55 (by decide) ?_
            refine z_lv (lv' := [(0, .ref (zad g 0)), (1, .int (nI j)), (2, .int p1), (3, .int p2), (4, .int (nI (n + 1))), (5, .int (nI (i + 1)))]) [2, 3, 4, 5, 1, 0] rfl ?_
            exact ih18 (i + 1) (n + 1) (by omega) (by omega) (by rw [hp]; show _ = zfrn (S.1 j) (S.2.1 j) p1 i + zfrb (S.1 j) (S.2.1 j) p1 i; rw [zfrb_y hfq]) (zfq_s hq (fun z => h43 (by rw [hp]; exact z.2.2.symm)))
          · have hfa : zfrat (S.1 j) (S.2.1 j) p1 p2 i := ⟨h22, hfq, by rw [← hp]; exact h43.symm⟩
            refine z_iload 46 C dX5_frequentAt_46 5 rfl ?_
            refine z_widen (k := 3) (n := 18) (by decide) (by decide) ?_
            exact z_iretX 48 C hr ⟨by rw [zcl (j := j) (by omega), zfrB_y hfa]; simp [zk3, hz1, hz2], j, i, hj, rfl, rfl, hfa, rfl⟩ dX5_frequentAt_48
        · subst r
          refine z_if_eqN 37 C 52 dX5_frequentAt_37 (by decide) (by omega) (fun h37 => ?_) (fun h37 => absurd h37 (by omega))
          refine z_iinc (v' := nI (i + 1)) (lv' := [(5, .int (nI (i + 1))), (0, .ref (zad g 0)), (1, .int (nI j)), (2, .int p1), (3, .int p2), (4, .int (nI n))]) 52 C dX5_frequentAt_52 (q := 5) rfl (zn_inc i 1) (by decide) rfl ?_
          refine z_goto 55 C 18 dX5_frequentAt_55 (by decide) ?_
          refine z_lv (lv' := [(0, .ref (zad g 0)), (1, .int (nI j)), (2, .int p1), (3, .int p2), (4, .int (nI n)), (5, .int (nI (i + 1)))]) [1, 2, 3, 4, 5, 0] rfl ?_
          exact ih18 (i + 1) n (by omega) (by omega) (by rw [hp]; show _ = zfrn (S.1 j) (S.2.1 j) p1 i + zfrb (S.1 j) (S.2.1 j) p1 i; rw [zfrb_n hfq, Nat.add_zero]) (zfq_s hq (fun z => hfq z.2.1))
  refine z_lv (lv' := [(0, .ref (zad g 0)), (1, .int (nI j)), (2, .int p1), (3, .int p2), (4, .int (nI 0)), (5, .int (nI 0))]) [2, 3, 4, 5, 1, 0] rfl ?_
  exact J18 65 0 0 (Nat.zero_le _) (by omega) rfl (fun k h => absurd h (Nat.not_lt_zero k))
theorem zhlf_s {q h h' : Nat} (h6 : q + 1 ≤ 6) (hh : h' / 2 < 64 / 2 ^ (q + 1)) : h' < 64 / 2 ^ q := by
  have h9 : q = 0 ∨ q = 1 ∨ q = 2 ∨ q = 3 ∨ q = 4 ∨ q = 5 := by omega
  rcases h9 with e | e | e | e | e | e <;> subst e <;> omega
