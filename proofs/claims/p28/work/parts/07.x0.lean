/-! ===== careful sketches ===== -/
def zca (r : Nat) : Nat := if r = 0 then 7 else if r = 1 then 11 else 23
def zcb (r : Nat) : Nat := if r = 0 then 3 else if r = 1 then 19 else 5
theorem zca_t {r : Nat} (h : r < 3) : ([7, 11, 23] : List Int32).getD r 0 = nI (zca r) := by
  have h9 : r = 0 ∨ r = 1 ∨ r = 2 := by omega
  rcases h9 with e | e | e <;> subst e <;> rfl
theorem zcb_t {r : Nat} (h : r < 3) : ([3, 19, 5] : List Int32).getD r 0 = nI (zcb r) := by
  have h9 : r = 0 ∨ r = 1 ∨ r = 2 := by omega
  rcases h9 with e | e | e <;> subst e <;> rfl
def zccol (r h : Nat) : Nat := (zca r * h + zcb r) % 61 % 8
theorem zccol_lt (r h : Nat) : zccol r h < 8 := Nat.mod_lt _ (by decide)
theorem zcab_b {r h : Nat} (hh : h < 64) : zca r * h + zcb r < 2000 := by
  unfold zca zcb
  split
  · omega
  · split <;> omega
def zcp (r h : Nat) : Nat := r * 8 + zccol r h
theorem zcp_lt {r : Nat} (h : Nat) (hr : r < 3) : zcp r h < 24 := by
  have := zccol_lt r h
  unfold zcp
  omega
theorem zcp_ne {r r' h : Nat} (hr : r ≠ r') : zcp r h ≠ zcp r' h := by
  have h1 := zccol_lt r h
  have h2 := zccol_lt r' h
  unfold zcp
  omega
def zmin (a b : Int32) : Int32 := if b < a then b else a
def zmax (a b : Int32) : Int32 := if a < b then b else a
def zleast (f : Nat → Int32) (h : Nat) : Int32 := zmin (zmin (f (zcp 0 h)) (f (zcp 1 h))) (f (zcp 2 h))
def zcput (f : Nat → Int32) (h : Nat) (w : Int32) : Nat → Int32 := fun q => if q = zcp 0 h ∨ q = zcp 1 h ∨ q = zcp 2 h then zmax (f q) (zleast f h + w) else f q
theorem zcput_of {f : Nat → Int32} {h : Nat} {R : Int32} {w : Int32} (hR : R = zleast f h + w) {f1 f2 f3 : Nat → Int32} {v1 v2 v3 : Int32} (e1 : f1 = upd f (zcp 0 h) v1) (e2 : f2 = upd f1 (zcp 1 h) v2) (e3 : f3 = upd f2 (zcp 2 h) v3) (g1 : (if f (zcp 0 h) < R then R else f (zcp 0 h)) = v1) (g2 : (if f1 (zcp 1 h) < R then R else f1 (zcp 1 h)) = v2) (g3 : (if f2 (zcp 2 h) < R then R else f2 (zcp 2 h)) = v3) : f3 = zcput f h w := by
  have n01 : zcp 0 h ≠ zcp 1 h := zcp_ne (by decide)
  have n02 : zcp 0 h ≠ zcp 2 h := zcp_ne (by decide)
  have n12 : zcp 1 h ≠ zcp 2 h := zcp_ne (by decide)
  subst hR
  funext q
  unfold zcput
  rw [e3]
  by_cases c2 : q = zcp 2 h
  · subst c2
    rw [pk_us, if_pos (Or.inr (Or.inr rfl)), ← g3, e2, pk_un (Ne.symm n12), e1, pk_un (Ne.symm n02)]
    rfl
  · rw [pk_un c2, e2]
    by_cases c1 : q = zcp 1 h
    · subst c1
      rw [pk_us, if_pos (Or.inr (Or.inl rfl)), ← g2, e1, pk_un (Ne.symm n01)]
      rfl
    · rw [pk_un c1, e1]
      by_cases c0 : q = zcp 0 h
      · subst c0
        rw [pk_us, if_pos (Or.inl rfl), ← g1]
        rfl
      · rw [pk_un c0, if_neg (fun z => z.elim c0 (fun z => z.elim c1 c2))]
set_option maxHeartbeats 4000000 in
set_option maxRecDepth 100000 in
/-- X0_columnOf -/
theorem c_X0_columnOf (l : Launch) {g : zG} (hg : zOk g) (x : zT) (row half : Nat) (hrow : row < 3) (hhalf : half < 64) : Met l yX0_columnOf wsX0_columnOf ({ frames := 0, cells := 0, slots := 0, locals := 0 }) (va_Pc [.int (nI row), .int (nI half)] (zPre g x)) (va_Qi (fun (r : Int32) (u : zT) => u = x ∧ r = nI (zccol row half)) (zB g) (zA g)) 0 0 (zA g) := by
  refine z_met (cc := cX0_columnOf) (nL := 2) (ret := (some .int)) hg (by decide) rfl (Nat.le_of_ble_eq_true rfl) ?_
  intro p_ e_ s_ m_ args_ below_ meth_ c_ C hr
  show Z p_ l e_ _ s_ m_ args_ below_ meth_ c_ g 2 0 0 _ x 0 [(0, .int (nI row)), (1, .int (nI half))] []
  have hw_f13 := C.1.2.2.2.2 (.fieldLink RX0 13 "Countcote$CarefulSketch" "FACTORS" "[I") (by decide +kernel)
  have hw_f16 := C.1.2.2.2.2 (.fieldLink RX0 16 "Countcote$CarefulSketch" "SHIFTS" "[I") (by decide +kernel)
  have hb9 := zcab_b (r := row) hhalf
  refine z_gets 0 C (n := 0) rfl hw_f13 dX0_columnOf_0 (fun t1 hT2 => ?_)
  refine z_iload_n 3 C dX0_columnOf_3 rfl 0 rfl ?_
  refine z_tld (v := nI (zca row)) 4 C hT2 (show row < 3 from hrow) (by decide) (zca_t hrow) dX0_columnOf_4 ?_
  refine z_iload_n 5 C dX0_columnOf_5 rfl 1 rfl ?_
  refine z_imul (v := nI ((zca row) * half)) 6 C dX0_columnOf_6 (pk_mul (zca row) half) ?_
  refine z_gets 7 C (n := 1) rfl hw_f16 dX0_columnOf_7 (fun t3 hT4 => ?_)
  refine z_iload_n 10 C dX0_columnOf_10 rfl 0 rfl ?_
  refine z_tld (v := nI (zcb row)) 11 C hT4 (show row < 3 from hrow) (by decide) (zcb_t hrow) dX0_columnOf_11 ?_
  refine z_iadd (v := nI (((zca row) * half) + (zcb row))) 12 C dX0_columnOf_12 (nI_add ((zca row) * half) (zcb row)) ?_
  refine z_bipush (v := nI 61) 13 C dX0_columnOf_13 rfl ?_
  refine z_irem (v := nI ((((zca row) * half) + (zcb row)) % 61)) 15 C dX0_columnOf_15 (by decide) (pk_rem (by omega) (by omega) (by omega)) ?_
  refine z_bipush (v := nI 8) 16 C dX0_columnOf_16 rfl ?_
  refine z_irem (v := nI (((((zca row) * half) + (zcb row)) % 61) % 8)) 18 C dX0_columnOf_18 (by decide) (pk_rem (by omega) (by omega) (by omega)) ?_
  exact z_iret 19 C hr ⟨rfl, rfl⟩ dX0_columnOf_19
set_option maxHeartbeats 4000000 in
set_option maxRecDepth 100000 in
/-- X0_placeOf -/
theorem c_X0_placeOf (l : Launch) {g : zG} (hg : zOk g) (x : zT) (row half : Nat) (hrow : row < 3) (hhalf : half < 64) : Met l yX0_placeOf wsX0_placeOf ({ frames := 1, cells := 0, slots := 0, locals := 21 }) (va_Pc [.int (nI row), .int (nI half)] (zPre g x)) (va_Qi (fun (r : Int32) (u : zT) => u = x ∧ r = nI (zcp row half)) (zB g) (zA g)) 0 0 (zA g) := by
  refine z_met (cc := cX0_placeOf) (nL := 2) (ret := (some .int)) hg (by decide) rfl (Nat.le_of_ble_eq_true rfl) ?_
  intro p_ e_ s_ m_ args_ below_ meth_ c_ C hr
  show Z p_ l e_ _ s_ m_ args_ below_ meth_ c_ g 2 0 0 _ x 0 [(0, .int (nI row)), (1, .int (nI half))] []
  refine z_iload_n 0 C dX0_placeOf_0 rfl 0 rfl ?_
  refine z_bipush (v := nI 8) 1 C dX0_placeOf_1 rfl ?_
  refine z_imul (v := nI (row * 8)) 3 C dX0_placeOf_3 (pk_mul row 8) ?_
  refine z_iload_n 4 C dX0_placeOf_4 rfl 0 rfl ?_
  refine z_iload_n 5 C dX0_placeOf_5 rfl 1 rfl ?_
  refine z_callSi 6 C (As := [.int (nI row), .int (nI half)]) 2 (c_X0_columnOf l hg x row half (by first | decide | omega) (by omega)) (va_cwS 2 C.1.2.2.2.2 gX0_placeOf_X0_columnOf rfl rfl rfl (by decide +kernel) ⟨Nat.le_of_ble_eq_true rfl, Nat.le_of_ble_eq_true rfl⟩) rfl rfl (Nat.le_of_ble_eq_true rfl) ⟨Nat.le_of_ble_eq_true rfl, Nat.le_of_ble_eq_true rfl⟩ dX0_placeOf_6 (fun r u hu => ?_)
  obtain ⟨hu1, hu2⟩ := hu
  subst u
  subst r
  have := zccol_lt row half
  refine z_iadd (v := nI ((row * 8) + (zccol row half))) 9 C dX0_placeOf_9 (nI_add (row * 8) (zccol row half)) ?_
  exact z_iret 10 C hr ⟨rfl, rfl⟩ dX0_placeOf_10
set_option maxHeartbeats 4000000 in
set_option maxRecDepth 100000 in
/-- X0_cellAt -/
theorem c_X0_cellAt (l : Launch) {g : zG} (hg : zOk g) (x : zT) (j k : Nat) (hj : j < 4) (hk : k < 3) (row col : Nat) (hrow : row < 3) (hcol : col < 8) : Met l yX0_cellAt wsX0_cellAt ({ frames := 0, cells := 0, slots := 0, locals := 0 }) (va_Pc [.ref (zad g (zp j (4 + k))), .int (nI row), .int (nI col)] (zPre g x)) (va_Qi (fun (r : Int32) (u : zT) => u = x ∧ r = x.1 (zp j (7 + k)) (row * 8 + col)) (zB g) (zA g)) 0 0 (zA g) := by
  refine z_met (cc := cX0_cellAt) (nL := 3) (ret := (some .int)) hg (by decide) rfl (Nat.le_of_ble_eq_true rfl) ?_
  intro p_ e_ s_ m_ args_ below_ meth_ c_ C hr
  show Z p_ l e_ _ s_ m_ args_ below_ meth_ c_ g 3 0 0 _ x 0 [(0, .ref (zad g (zp j (4 + k)))), (1, .int (nI row)), (2, .int (nI col))] []
  have hw_f9 := C.1.2.2.2.2 (.fieldLink RX0 9 "Countcote$CarefulSketch" "cells" "[I") (by decide +kernel)
  have hinX0 : ∀ w ∈ wsX00, w ∈ wsX0_cellAt := by decide +kernel
  refine z_aload_n 0 C dX0_cellAt_0 rfl 0 rfl ?_
  refine z_getr 1 C (ref := "Countcote$CarefulSketch") (T := TX0) (N := 1) (ci := 0) (q := 0) (kR_ccells hj hk) rfl hinX0 (by decide) rfl hw_f9 dX0_cellAt_1 ?_
  refine z_iload_n 4 C dX0_cellAt_4 rfl 1 rfl ?_
  refine z_bipush (v := nI 8) 5 C dX0_cellAt_5 rfl ?_
  refine z_imul (v := nI (row * 8)) 7 C dX0_cellAt_7 (pk_mul row 8) ?_
  refine z_iload_n 8 C dX0_cellAt_8 rfl 2 rfl ?_
  refine z_iadd (v := nI ((row * 8) + col)) 9 C dX0_cellAt_9 (nI_add (row * 8) col) ?_
  refine z_iald (v := (x.1 (zp j (7 + k))) ((row * 8) + col)) 10 C (kI_ccell hj hk) (by omega) rfl dX0_cellAt_10 ?_
  exact z_iret 11 C hr ⟨rfl, rfl⟩ dX0_cellAt_11
set_option maxHeartbeats 4000000 in
set_option maxRecDepth 100000 in
/-- X0_leastOf -/
theorem c_X0_leastOf (l : Launch) {g : zG} (hg : zOk g) (x : zT) (j k : Nat) (hj : j < 4) (hk : k < 3) (half : Nat) (hhalf : half < 64) : Met l yX0_leastOf wsX0_leastOf ({ frames := 2, cells := 0, slots := 0, locals := 42 }) (va_Pc [.ref (zad g (zp j (4 + k))), .int (nI half)] (zPre g x)) (va_Qi (fun (r : Int32) (u : zT) => u = x ∧ r = zleast (x.1 (zp j (7 + k))) half) (zB g) (zA g)) 0 0 (zA g) := by
  refine z_met (cc := cX0_leastOf) (nL := 4) (ret := (some .int)) hg (by decide) rfl (Nat.le_of_ble_eq_true rfl) ?_
  intro p_ e_ s_ m_ args_ below_ meth_ c_ C hr
  show Z p_ l e_ _ s_ m_ args_ below_ meth_ c_ g 4 0 0 _ x 0 [(0, .ref (zad g (zp j (4 + k)))), (1, .int (nI half))] []
  have hw_f9 := C.1.2.2.2.2 (.fieldLink RX0 9 "Countcote$CarefulSketch" "cells" "[I") (by decide +kernel)
  have hinX0 : ∀ w ∈ wsX00, w ∈ wsX0_leastOf := by decide +kernel
  have hw_m26 := C.1.2.2.2.2 (.methodLink RX0 26 Lib.Math.min.name) (by decide +kernel)
  have hw_smin := C.1.2.2.2.2 (.static Lib.Math.min.name) (by decide +kernel)
  have hw_iM := C.1.2.2.2.2 (.initialized "java/lang/Math") (by decide +kernel)
  have hw_cmin := C.1.2.2.2.2 (.code Lib.Math.min.name Lib.Math.min.code 2 (some .int)) (by decide +kernel)
  refine z_aload_n 0 C dX0_leastOf_0 rfl 0 rfl ?_
  refine z_getr 1 C (ref := "Countcote$CarefulSketch") (T := TX0) (N := 1) (ci := 0) (q := 0) (kR_ccells hj hk) rfl hinX0 (by decide) rfl hw_f9 dX0_leastOf_1 ?_
  refine z_iconst (v := nI 0) 4 C dX0_leastOf_4 rfl ?_
  refine z_iload_n 5 C dX0_leastOf_5 rfl 1 rfl ?_
  refine z_callSi 6 C (As := [.int (nI 0), .int (nI half)]) 2 (c_X0_placeOf l hg x 0 half (by first | decide | omega) (by omega)) (va_cwS 2 C.1.2.2.2.2 gX0_leastOf_X0_placeOf rfl rfl rfl (by decide +kernel) ⟨Nat.le_of_ble_eq_true rfl, Nat.le_of_ble_eq_true rfl⟩) rfl rfl (Nat.le_of_ble_eq_true rfl) ⟨Nat.le_of_ble_eq_true rfl, Nat.le_of_ble_eq_true rfl⟩ dX0_leastOf_6 (fun r u hu => ?_)
  obtain ⟨hu1, hu2⟩ := hu
  subst u
  subst r
  have := zcp_lt (r := 0) half (by first | decide | omega)
  refine z_iald (v := (x.1 (zp j (7 + k))) (zcp 0 half)) 9 C (kI_ccell hj hk) (by omega) rfl dX0_leastOf_9 ?_
  refine z_istore_n (lv' := [(2, .int ((x.1 (zp j (7 + k))) (zcp 0 half))), (0, .ref (zad g (zp j (4 + k)))), (1, .int (nI half))]) 10 C dX0_leastOf_10 rfl (by decide) rfl ?_
  refine z_iconst (v := nI 1) 11 C dX0_leastOf_11 rfl ?_
  refine z_istore_n (lv' := [(3, .int (nI 1)), (2, .int ((x.1 (zp j (7 + k))) (zcp 0 half))), (0, .ref (zad g (zp j (4 + k)))), (1, .int (nI half))]) 12 C dX0_leastOf_12 rfl (by decide) rfl ?_
  refine z_iload_n 13 C dX0_leastOf_13 rfl 0 rfl ?_
  refine z_iconst (v := nI 3) 14 C dX0_leastOf_14 rfl ?_
  refine z_icmp_geN 15 C 39 dX0_leastOf_15 (by decide) (by omega) (by omega) (fun h15 => absurd h15 (by omega)) (fun h15 => ?_)
  refine z_iload_n 18 C dX0_leastOf_18 rfl 1 rfl ?_
  refine z_aload_n 19 C dX0_leastOf_19 rfl 2 rfl ?_
  refine z_getr 20 C (ref := "Countcote$CarefulSketch") (T := TX0) (N := 1) (ci := 0) (q := 0) (kR_ccells hj hk) rfl hinX0 (by decide) rfl hw_f9 dX0_leastOf_20 ?_
  refine z_iload_n 23 C dX0_leastOf_23 rfl 0 rfl ?_
  refine z_iload_n 24 C dX0_leastOf_24 rfl 3 rfl ?_
  refine z_callSi 25 C (As := [.int (nI 1), .int (nI half)]) 2 (c_X0_placeOf l hg x 1 half (by first | decide | omega) (by omega)) (va_cwS 2 C.1.2.2.2.2 gX0_leastOf_X0_placeOf rfl rfl rfl (by decide +kernel) ⟨Nat.le_of_ble_eq_true rfl, Nat.le_of_ble_eq_true rfl⟩) rfl rfl (Nat.le_of_ble_eq_true rfl) ⟨Nat.le_of_ble_eq_true rfl, Nat.le_of_ble_eq_true rfl⟩ dX0_leastOf_25 (fun r u hu => ?_)
  obtain ⟨hu1, hu2⟩ := hu
  subst u
  subst r
  have := zcp_lt (r := 1) half (by first | decide | omega)
  refine z_iald (v := (x.1 (zp j (7 + k))) (zcp 1 half)) 28 C (kI_ccell hj hk) (by omega) rfl dX0_leastOf_28 ?_
  obtain ⟨v1, ev1⟩ : ∃ y : Int32, (if (x.1 (zp j (7 + k))) (zcp 1 half) < (x.1 (zp j (7 + k))) (zcp 0 half) then (x.1 (zp j (7 + k))) (zcp 1 half) else (x.1 (zp j (7 + k))) (zcp 0 half)) = y := ⟨_, rfl⟩
  refine z_mmin (v := v1) 29 C hw_m26 hw_smin hw_iM hw_cmin (Nat.le_of_ble_eq_true rfl) (Nat.le_of_ble_eq_true rfl) ⟨Nat.le_of_ble_eq_true rfl, Nat.le_of_ble_eq_true rfl⟩ ev1 dX0_leastOf_29 ?_
  refine z_istore_n (lv' := [(2, .int v1), (3, .int (nI 1)), (0, .ref (zad g (zp j (4 + k)))), (1, .int (nI half))]) 32 C dX0_leastOf_32 rfl (by decide) rfl ?_
  refine z_iinc (v' := nI 2) (lv' := [(3, .int (nI 2)), (2, .int v1), (0, .ref (zad g (zp j (4 + k)))), (1, .int (nI half))]) 33 C dX0_leastOf_33 (q := 1) rfl rfl (by decide) rfl ?_
  refine z_goto 36 C 13 dX0_leastOf_36 (by decide) ?_
  refine z_iload_n 13 C dX0_leastOf_13 rfl 0 rfl ?_
  refine z_iconst (v := nI 3) 14 C dX0_leastOf_14 rfl ?_
  refine z_icmp_geN 15 C 39 dX0_leastOf_15 (by decide) (by omega) (by omega) (fun h15 => absurd h15 (by omega)) (fun h15 => ?_)
  refine z_iload_n 18 C dX0_leastOf_18 rfl 1 rfl ?_
  refine z_aload_n 19 C dX0_leastOf_19 rfl 2 rfl ?_
  refine z_getr 20 C (ref := "Countcote$CarefulSketch") (T := TX0) (N := 1) (ci := 0) (q := 0) (kR_ccells hj hk) rfl hinX0 (by decide) rfl hw_f9 dX0_leastOf_20 ?_
  refine z_iload_n 23 C dX0_leastOf_23 rfl 0 rfl ?_
  refine z_iload_n 24 C dX0_leastOf_24 rfl 3 rfl ?_
  refine z_callSi 25 C (As := [.int (nI 2), .int (nI half)]) 2 (c_X0_placeOf l hg x 2 half (by first | decide | omega) (by omega)) (va_cwS 2 C.1.2.2.2.2 gX0_leastOf_X0_placeOf rfl rfl rfl (by decide +kernel) ⟨Nat.le_of_ble_eq_true rfl, Nat.le_of_ble_eq_true rfl⟩) rfl rfl (Nat.le_of_ble_eq_true rfl) ⟨Nat.le_of_ble_eq_true rfl, Nat.le_of_ble_eq_true rfl⟩ dX0_leastOf_25 (fun r u hu => ?_)
  obtain ⟨hu1, hu2⟩ := hu
  subst u
  subst r
  have := zcp_lt (r := 2) half (by first | decide | omega)
  refine z_iald (v := (x.1 (zp j (7 + k))) (zcp 2 half)) 28 C (kI_ccell hj hk) (by omega) rfl dX0_leastOf_28 ?_
  obtain ⟨v2, ev2⟩ : ∃ y : Int32, (if (x.1 (zp j (7 + k))) (zcp 2 half) < v1 then (x.1 (zp j (7 + k))) (zcp 2 half) else v1) = y := ⟨_, rfl⟩
  refine z_mmin (v := v2) 29 C hw_m26 hw_smin hw_iM hw_cmin (Nat.le_of_ble_eq_true rfl) (Nat.le_of_ble_eq_true rfl) ⟨Nat.le_of_ble_eq_true rfl, Nat.le_of_ble_eq_true rfl⟩ ev2 dX0_leastOf_29 ?_
  refine z_istore_n (lv' := [(2, .int v2), (3, .int (nI 2)), (0, .ref (zad g (zp j (4 + k)))), (1, .int (nI half))]) 32 C dX0_leastOf_32 rfl (by decide) rfl ?_
  refine z_iinc (v' := nI 3) (lv' := [(3, .int (nI 3)), (2, .int v2), (0, .ref (zad g (zp j (4 + k)))), (1, .int (nI half))]) 33 C dX0_leastOf_33 (q := 1) rfl rfl (by decide) rfl ?_
  refine z_goto 36 C 13 dX0_leastOf_36 (by decide) ?_
  refine z_iload_n 13 C dX0_leastOf_13 rfl 0 rfl ?_
  refine z_iconst (v := nI 3) 14 C dX0_leastOf_14 rfl ?_
  refine z_icmp_geN 15 C 39 dX0_leastOf_15 (by decide) (by omega) (by omega) (fun h15 => ?_) (fun h15 => absurd h15 (by omega))
  refine z_iload_n 39 C dX0_leastOf_39 rfl 1 rfl ?_
  exact z_iret 40 C hr ⟨rfl, by rw [← ev2, ← ev1]; rfl⟩ dX0_leastOf_40
set_option maxHeartbeats 4000000 in
set_option maxRecDepth 100000 in
/-- X0_put -/
theorem c_X0_put (l : Launch) {g : zG} (hg : zOk g) (x : zT) (j k : Nat) (hj : j < 4) (hk : k < 3) (half : Nat) (hhalf : half < 64) (w : Int32) : Met l yX0_put wsX0_put ({ frames := 3, cells := 0, slots := 0, locals := 65 }) (va_Pc [.ref (zad g (zp j (4 + k))), .int (nI half), .int w] (zPre g x)) (va_Qv (fun (u : zT) => u = xi x (zp j (7 + k)) (zcput (x.1 (zp j (7 + k))) half w)) (zB g) (zA g)) 0 0 (zA g) := by
  refine z_met (cc := cX0_put) (nL := 6) (ret := none) hg (by decide) rfl (Nat.le_of_ble_eq_true rfl) ?_
  intro p_ e_ s_ m_ args_ below_ meth_ c_ C hr
  show Z p_ l e_ _ s_ m_ args_ below_ meth_ c_ g 6 0 0 _ x 0 [(0, .ref (zad g (zp j (4 + k)))), (1, .int (nI half)), (2, .int w)] []
  have hw_f9 := C.1.2.2.2.2 (.fieldLink RX0 9 "Countcote$CarefulSketch" "cells" "[I") (by decide +kernel)
  have hinX0 : ∀ w ∈ wsX00, w ∈ wsX0_put := by decide +kernel
  have hw_m35 := C.1.2.2.2.2 (.methodLink RX0 35 Lib.Math.max.name) (by decide +kernel)
  have hw_smax := C.1.2.2.2.2 (.static Lib.Math.max.name) (by decide +kernel)
  have hw_iM := C.1.2.2.2.2 (.initialized "java/lang/Math") (by decide +kernel)
  have hw_cmax := C.1.2.2.2.2 (.code Lib.Math.max.name Lib.Math.max.code 2 (some .int)) (by decide +kernel)
  refine z_aload_n 0 C dX0_put_0 rfl 0 rfl ?_
  refine z_iload_n 1 C dX0_put_1 rfl 1 rfl ?_
  refine z_callVi 2 C (As := [.int (nI half)]) 1 (kO_cs hj hk) rfl (c_X0_leastOf l hg x j k hj hk half (by omega)) (cwV 1 C.1.2.2.2.2 gX0_put_X0_leastOf rfl rfl rfl (by decide +kernel) ⟨Nat.le_of_ble_eq_true rfl, Nat.le_of_ble_eq_true rfl⟩) rfl rfl (Nat.le_of_ble_eq_true rfl) ⟨Nat.le_of_ble_eq_true rfl, Nat.le_of_ble_eq_true rfl⟩ dX0_put_2 (fun r u hu => ?_)
  obtain ⟨r1, er1⟩ : ∃ y : Int32, y = zleast (x.1 (zp j (7 + k))) half := ⟨_, rfl⟩
  obtain ⟨hu1, hu2⟩ : u = x ∧ r = r1 := ⟨hu.1, by rw [hu.2, er1]⟩
  subst u
  subst r
  refine z_iload_n 5 C dX0_put_5 rfl 2 rfl ?_
  refine z_iadd (v := r1 + w) 6 C dX0_put_6 rfl ?_
  refine z_istore_n (lv' := [(3, .int (r1 + w)), (0, .ref (zad g (zp j (4 + k)))), (1, .int (nI half)), (2, .int w)]) 7 C dX0_put_7 rfl (by decide) rfl ?_
  refine z_iconst (v := nI 0) 8 C dX0_put_8 rfl ?_
  refine z_istore (lv' := [(4, .int (nI 0)), (3, .int (r1 + w)), (0, .ref (zad g (zp j (4 + k)))), (1, .int (nI half)), (2, .int w)]) 9 C dX0_put_9 (by decide) rfl ?_
  refine z_iload 11 C dX0_put_11 0 rfl ?_
  refine z_iconst (v := nI 3) 13 C dX0_put_13 rfl ?_
  refine z_icmp_geN 14 C 49 dX0_put_14 (by decide) (by omega) (by omega) (fun h14 => absurd h14 (by omega)) (fun h14 => ?_)
  refine z_iload 17 C dX0_put_17 0 rfl ?_
  refine z_iload_n 19 C dX0_put_19 rfl 3 rfl ?_
  refine z_callSi 20 C (As := [.int (nI 0), .int (nI half)]) 2 (c_X0_placeOf l hg x 0 half (by first | decide | omega) (by omega)) (va_cwS 2 C.1.2.2.2.2 gX0_put_X0_placeOf rfl rfl rfl (by decide +kernel) ⟨Nat.le_of_ble_eq_true rfl, Nat.le_of_ble_eq_true rfl⟩) rfl rfl (Nat.le_of_ble_eq_true rfl) ⟨Nat.le_of_ble_eq_true rfl, Nat.le_of_ble_eq_true rfl⟩ dX0_put_20 (fun r u hu => ?_)
  obtain ⟨hu1, hu2⟩ := hu
  subst u
  subst r
  have := zcp_lt (r := 0) half (by first | decide | omega)
  refine z_istore (lv' := [(5, .int (nI (zcp 0 half))), (4, .int (nI 0)), (3, .int (r1 + w)), (0, .ref (zad g (zp j (4 + k)))), (1, .int (nI half)), (2, .int w)]) 23 C dX0_put_23 (by decide) rfl ?_
  refine z_aload_n 25 C dX0_put_25 rfl 3 rfl ?_
  refine z_getr 26 C (ref := "Countcote$CarefulSketch") (T := TX0) (N := 1) (ci := 0) (q := 0) (kR_ccells hj hk) rfl hinX0 (by decide) rfl hw_f9 dX0_put_26 ?_
  refine z_iload 29 C dX0_put_29 0 rfl ?_
  refine z_aload_n 31 C dX0_put_31 rfl 3 rfl ?_
  refine z_getr 32 C (ref := "Countcote$CarefulSketch") (T := TX0) (N := 1) (ci := 0) (q := 0) (kR_ccells hj hk) rfl hinX0 (by decide) rfl hw_f9 dX0_put_32 ?_
  refine z_iload 35 C dX0_put_35 0 rfl ?_
  refine z_iald (v := (x.1 (zp j (7 + k))) (zcp 0 half)) 37 C (kI_ccell hj hk) (by omega) rfl dX0_put_37 ?_
  refine z_iload_n 38 C dX0_put_38 rfl 2 rfl ?_
  obtain ⟨v2, ev2⟩ : ∃ y : Int32, (if (x.1 (zp j (7 + k))) (zcp 0 half) < r1 + w then r1 + w else (x.1 (zp j (7 + k))) (zcp 0 half)) = y := ⟨_, rfl⟩
  refine z_mmax (v := v2) 39 C hw_m35 hw_smax hw_iM hw_cmax (Nat.le_of_ble_eq_true rfl) (Nat.le_of_ble_eq_true rfl) ⟨Nat.le_of_ble_eq_true rfl, Nat.le_of_ble_eq_true rfl⟩ ev2 dX0_put_39 ?_
  obtain ⟨f3, ef3⟩ : ∃ f9 : Nat → Int32, f9 = upd (x.1 (zp j (7 + k))) (zcp 0 half) v2 := ⟨_, rfl⟩
  refine z_iast (f := f3) 42 C (kI_ccell hj hk) (by omega) (by exact ef3.symm) dX0_put_42 ?_
  refine z_iinc (v' := nI 1) (lv' := [(4, .int (nI 1)), (5, .int (nI (zcp 0 half))), (3, .int (r1 + w)), (0, .ref (zad g (zp j (4 + k)))), (1, .int (nI half)), (2, .int w)]) 43 C dX0_put_43 (q := 1) rfl rfl (by decide) rfl ?_
  refine z_goto 46 C 11 dX0_put_46 (by decide) ?_
  refine z_iload 11 C dX0_put_11 0 rfl ?_
  refine z_iconst (v := nI 3) 13 C dX0_put_13 rfl ?_
  refine z_icmp_geN 14 C 49 dX0_put_14 (by decide) (by omega) (by omega) (fun h14 => absurd h14 (by omega)) (fun h14 => ?_)
  refine z_iload 17 C dX0_put_17 0 rfl ?_
  refine z_iload_n 19 C dX0_put_19 rfl 4 rfl ?_
  refine z_callSi 20 C (As := [.int (nI 1), .int (nI half)]) 2 (c_X0_placeOf l hg (xi x (zp j (7 + k)) f3) 1 half (by first | decide | omega) (by omega)) (va_cwS 2 C.1.2.2.2.2 gX0_put_X0_placeOf rfl rfl rfl (by decide +kernel) ⟨Nat.le_of_ble_eq_true rfl, Nat.le_of_ble_eq_true rfl⟩) rfl rfl (Nat.le_of_ble_eq_true rfl) ⟨Nat.le_of_ble_eq_true rfl, Nat.le_of_ble_eq_true rfl⟩ dX0_put_20 (fun r u hu => ?_)
  obtain ⟨hu1, hu2⟩ := hu
  subst u
  subst r
  have := zcp_lt (r := 1) half (by first | decide | omega)
  refine z_istore (lv' := [(5, .int (nI (zcp 1 half))), (4, .int (nI 1)), (3, .int (r1 + w)), (0, .ref (zad g (zp j (4 + k)))), (1, .int (nI half)), (2, .int w)]) 23 C dX0_put_23 (by decide) rfl ?_
  refine z_aload_n 25 C dX0_put_25 rfl 3 rfl ?_
  refine z_getr 26 C (ref := "Countcote$CarefulSketch") (T := TX0) (N := 1) (ci := 0) (q := 0) (kR_ccells hj hk) rfl hinX0 (by decide) rfl hw_f9 dX0_put_26 ?_
  refine z_iload 29 C dX0_put_29 0 rfl ?_
  refine z_aload_n 31 C dX0_put_31 rfl 3 rfl ?_
  refine z_getr 32 C (ref := "Countcote$CarefulSketch") (T := TX0) (N := 1) (ci := 0) (q := 0) (kR_ccells hj hk) rfl hinX0 (by decide) rfl hw_f9 dX0_put_32 ?_
  refine z_iload 35 C dX0_put_35 0 rfl ?_
  refine z_iald (v := f3 (zcp 1 half)) 37 C (kI_ccell hj hk) (by omega) (by rw [xi_s]) dX0_put_37 ?_
  refine z_iload_n 38 C dX0_put_38 rfl 2 rfl ?_
  obtain ⟨v4, ev4⟩ : ∃ y : Int32, (if f3 (zcp 1 half) < r1 + w then r1 + w else f3 (zcp 1 half)) = y := ⟨_, rfl⟩
  refine z_mmax (v := v4) 39 C hw_m35 hw_smax hw_iM hw_cmax (Nat.le_of_ble_eq_true rfl) (Nat.le_of_ble_eq_true rfl) ⟨Nat.le_of_ble_eq_true rfl, Nat.le_of_ble_eq_true rfl⟩ ev4 dX0_put_39 ?_
  obtain ⟨f5, ef5⟩ : ∃ f9 : Nat → Int32, f9 = upd f3 (zcp 1 half) v4 := ⟨_, rfl⟩
  refine z_iast (f := f5) 42 C (kI_ccell hj hk) (by omega) (by rw [xi_s]; exact ef5.symm) dX0_put_42 ?_
  refine z_x (y := (xi x (zp j (7 + k)) f5)) (by rw [xi_xi]) ?_
  refine z_iinc (v' := nI 2) (lv' := [(4, .int (nI 2)), (5, .int (nI (zcp 1 half))), (3, .int (r1 + w)), (0, .ref (zad g (zp j (4 + k)))), (1, .int (nI half)), (2, .int w)]) 43 C dX0_put_43 (q := 1) rfl rfl (by decide) rfl ?_
  refine z_goto 46 C 11 dX0_put_46 (by decide) ?_
  refine z_iload 11 C dX0_put_11 0 rfl ?_
  refine z_iconst (v := nI 3) 13 C dX0_put_13 rfl ?_
  refine z_icmp_geN 14 C 49 dX0_put_14 (by decide) (by omega) (by omega) (fun h14 => absurd h14 (by omega)) (fun h14 => ?_)
  refine z_iload 17 C dX0_put_17 0 rfl ?_
  refine z_iload_n 19 C dX0_put_19 rfl 4 rfl ?_
  refine z_callSi 20 C (As := [.int (nI 2), .int (nI half)]) 2 (c_X0_placeOf l hg (xi x (zp j (7 + k)) f5) 2 half (by first | decide | omega) (by omega)) (va_cwS 2 C.1.2.2.2.2 gX0_put_X0_placeOf rfl rfl rfl (by decide +kernel) ⟨Nat.le_of_ble_eq_true rfl, Nat.le_of_ble_eq_true rfl⟩) rfl rfl (Nat.le_of_ble_eq_true rfl) ⟨Nat.le_of_ble_eq_true rfl, Nat.le_of_ble_eq_true rfl⟩ dX0_put_20 (fun r u hu => ?_)
  obtain ⟨hu1, hu2⟩ := hu
  subst u
  subst r
  have := zcp_lt (r := 2) half (by first | decide | omega)
  refine z_istore (lv' := [(5, .int (nI (zcp 2 half))), (4, .int (nI 2)), (3, .int (r1 + w)), (0, .ref (zad g (zp j (4 + k)))), (1, .int (nI half)), (2, .int w)]) 23 C dX0_put_23 (by decide) rfl ?_
  refine z_aload_n 25 C dX0_put_25 rfl 3 rfl ?_
  refine z_getr 26 C (ref := "Countcote$CarefulSketch") (T := TX0) (N := 1) (ci := 0) (q := 0) (kR_ccells hj hk) rfl hinX0 (by decide) rfl hw_f9 dX0_put_26 ?_
  refine z_iload 29 C dX0_put_29 0 rfl ?_
  refine z_aload_n 31 C dX0_put_31 rfl 3 rfl ?_
  refine z_getr 32 C (ref := "Countcote$CarefulSketch") (T := TX0) (N := 1) (ci := 0) (q := 0) (kR_ccells hj hk) rfl hinX0 (by decide) rfl hw_f9 dX0_put_32 ?_
  refine z_iload 35 C dX0_put_35 0 rfl ?_
  refine z_iald (v := f5 (zcp 2 half)) 37 C (kI_ccell hj hk) (by omega) (by rw [xi_s]) dX0_put_37 ?_
  refine z_iload_n 38 C dX0_put_38 rfl 2 rfl ?_
  obtain ⟨v6, ev6⟩ : ∃ y : Int32, (if f5 (zcp 2 half) < r1 + w then r1 + w else f5 (zcp 2 half)) = y := ⟨_, rfl⟩
  refine z_mmax (v := v6) 39 C hw_m35 hw_smax hw_iM hw_cmax (Nat.le_of_ble_eq_true rfl) (Nat.le_of_ble_eq_true rfl) ⟨Nat.le_of_ble_eq_true rfl, Nat.le_of_ble_eq_true rfl⟩ ev6 dX0_put_39 ?_
  obtain ⟨f7, ef7⟩ : ∃ f9 : Nat → Int32, f9 = upd f5 (zcp 2 half) v6 := ⟨_, rfl⟩
  refine z_iast (f := f7) 42 C (kI_ccell hj hk) (by omega) (by rw [xi_s]; exact ef7.symm) dX0_put_42 ?_
  refine z_x (y := (xi x (zp j (7 + k)) f7)) (by rw [xi_xi]) ?_
  refine z_iinc (v' := nI 3) (lv' := [(4, .int (nI 3)), (5, .int (nI (zcp 2 half))), (3, .int (r1 + w)), (0, .ref (zad g (zp j (4 + k)))), (1, .int (nI half)), (2, .int w)]) 43 C dX0_put_43 (q := 1) rfl rfl (by decide) rfl ?_
  refine z_goto 46 C 11 dX0_put_46 (by decide) ?_
  refine z_iload 11 C dX0_put_11 0 rfl ?_
  refine z_iconst (v := nI 3) 13 C dX0_put_13 rfl ?_
  refine z_icmp_geN 14 C 49 dX0_put_14 (by decide) (by omega) (by omega) (fun h14 => ?_) (fun h14 => absurd h14 (by omega))
  exact z_vret 49 C hr (by rw [← zcput_of (by rw [er1]) ef3 ef5 ef7 ev2 ev4 ev6]) dX0_put_49
set_option maxHeartbeats 4000000 in
set_option maxRecDepth 100000 in
/-- X0_join -/
theorem c_X0_join (l : Launch) {g : zG} (hg : zOk g) (x : zT) (j o k : Nat) (hj : j < 4) (ho : o < 4) (hjo : j ≠ o) (hk : k < 3) : Met l yX0_join wsX0_join ({ frames := 0, cells := 0, slots := 0, locals := 0 }) (va_Pc [.ref (zad g (zp j (4 + k))), .ref (zad g (zp o (4 + k)))] (zPre g x)) (va_Qv (fun (u : zT) => ∃ f : Nat → Int32, u = xi x (zp j (7 + k)) f ∧ ∀ q, q < 24 → f q = x.1 (zp j (7 + k)) q + x.1 (zp o (7 + k)) q) (zB g) (zA g)) 0 0 (zA g) := by
  refine z_met (cc := cX0_join) (nL := 3) (ret := none) hg (by decide) rfl (Nat.le_of_ble_eq_true rfl) ?_
  intro p_ e_ s_ m_ args_ below_ meth_ c_ C hr
  show Z p_ l e_ _ s_ m_ args_ below_ meth_ c_ g 3 0 0 _ x 0 [(0, .ref (zad g (zp j (4 + k)))), (1, .ref (zad g (zp o (4 + k))))] []
  have hw_f9 := C.1.2.2.2.2 (.fieldLink RX0 9 "Countcote$CarefulSketch" "cells" "[I") (by decide +kernel)
  have hinX0 : ∀ w ∈ wsX00, w ∈ wsX0_join := by decide +kernel
  refine z_iconst (v := nI 0) 0 C dX0_join_0 rfl ?_
  refine z_istore_n (lv' := [(2, .int (nI 0)), (0, .ref (zad g (zp j (4 + k)))), (1, .ref (zad g (zp o (4 + k))))]) 1 C dX0_join_1 rfl (by decide) rfl ?_
  refine z_x (y := (xi x (zp j (7 + k)) (x.1 (zp j (7 + k))))) (xi_idf rfl) ?_
  have J2 : ∀ (n2 : Nat) (i : Nat) (f : Nat → Int32), (i ≤ 24) → (24 < i + n2) → (∀ q, q < 24 → f q = if q < i then x.1 (zp j (7 + k)) q + x.1 (zp o (7 + k)) q else x.1 (zp j (7 + k)) q) → Z p_ l e_ (headSpec wsX0_join ({ frames := 0, cells := 0, slots := 0, locals := 0 })).room s_ m_ args_ below_ meth_ c_ g 3 0 0 (MQ below_ (va_Qv (fun (u : zT) => ∃ f : Nat → Int32, u = xi x (zp j (7 + k)) f ∧ ∀ q, q < 24 → f q = x.1 (zp j (7 + k)) q + x.1 (zp o (7 + k)) q) (zB g) (zA g)) args_ s_ 0 0 (zA g)) (xi x (zp j (7 + k)) f) 2 [(0, .ref (zad g (zp j (4 + k)))), (1, .ref (zad g (zp o (4 + k)))), (2, .int (nI i))] [] := by
    intro n2
    induction n2 with
    | zero => intro i f hi hn hf; exact absurd hn (by omega)
    | succ n2 ih2 =>
      intro i f hi hn hf
      refine z_iload_n 2 C dX0_join_2 rfl 2 rfl ?_
      refine z_aload_n 3 C dX0_join_3 rfl 0 rfl ?_
      refine z_getr 4 C (ref := "Countcote$CarefulSketch") (T := TX0) (N := 1) (ci := 0) (q := 0) (kR_ccells hj hk) rfl hinX0 (by decide) rfl hw_f9 dX0_join_4 ?_
      refine z_ialen 7 C (kI_ccell hj hk) dX0_join_7 ?_
      refine z_icmp_geN 8 C 32 dX0_join_8 (by decide) (by omega) (by omega) (fun h8 => ?_) (fun h8 => ?_)
      · exact z_vret 32 C hr ⟨f, rfl, fun q hq => by rw [hf q hq, if_pos (by omega)]⟩ dX0_join_32
      · refine z_aload_n 11 C dX0_join_11 rfl 0 rfl ?_
        refine z_getr 12 C (ref := "Countcote$CarefulSketch") (T := TX0) (N := 1) (ci := 0) (q := 0) (kR_ccells hj hk) rfl hinX0 (by decide) rfl hw_f9 dX0_join_12 ?_
        refine z_iload_n 15 C dX0_join_15 rfl 2 rfl ?_
        refine z_dup2 16 C dX0_join_16 rfl rfl ?_
        refine z_iald (v := f i) 17 C (kI_ccell hj hk) (by omega) (by rw [xi_s]) dX0_join_17 ?_
        refine z_aload_n 18 C dX0_join_18 rfl 1 rfl ?_
        refine z_getr 19 C (ref := "Countcote$CarefulSketch") (T := TX0) (N := 1) (ci := 0) (q := 0) (kR_ccells ho hk) rfl hinX0 (by decide) rfl hw_f9 dX0_join_19 ?_
        refine z_iload_n 22 C dX0_join_22 rfl 2 rfl ?_
        refine z_iald (v := (x.1 (zp o (7 + k))) i) 23 C (kI_ccell ho hk) (by omega) (by rw [xi_n _ (by unfold zp; omega)]) dX0_join_23 ?_
        refine z_iadd (v := (f i) + ((x.1 (zp o (7 + k))) i)) 24 C dX0_join_24 rfl ?_
        obtain ⟨f1, ef1⟩ : ∃ f9 : Nat → Int32, f9 = upd f i ((f i) + ((x.1 (zp o (7 + k))) i)) := ⟨_, rfl⟩
        refine z_iast (f := f1) 25 C (kI_ccell hj hk) (by omega) (by rw [xi_s]; exact ef1.symm) dX0_join_25 ?_
        refine z_x (y := (xi x (zp j (7 + k)) f1)) (by rw [xi_xi]) ?_
        refine z_iinc (v' := nI (i + 1)) (lv' := [(2, .int (nI (i + 1))), (0, .ref (zad g (zp j (4 + k)))), (1, .ref (zad g (zp o (4 + k))))]) 26 C dX0_join_26 (q := 2) rfl (zn_inc i 1) (by decide) rfl ?_
        refine z_goto 29 C 2 dX0_join_29 (by decide) ?_
        refine z_lv (lv' := [(0, .ref (zad g (zp j (4 + k)))), (1, .ref (zad g (zp o (4 + k)))), (2, .int (nI (i + 1)))]) [1, 2, 0] rfl ?_
        exact ih2 (i + 1) f1 (by omega) (by omega) (by rw [ef1]; exact zjoin_s h8 hf)
  refine z_lv (lv' := [(0, .ref (zad g (zp j (4 + k)))), (1, .ref (zad g (zp o (4 + k)))), (2, .int (nI 0))]) [1, 2, 0] rfl ?_
  exact J2 25 0 (x.1 (zp j (7 + k))) (Nat.zero_le _) (by omega) (fun q _ => by rw [if_neg (Nat.not_lt_zero q)])
set_option maxHeartbeats 4000000 in
set_option maxRecDepth 100000 in
/-- X0_empty -/
theorem c_X0_empty (l : Launch) {g : zG} (hg : zOk g) (x : zT) (j k : Nat) (hj : j < 4) (hk : k < 3) : Met l yX0_empty wsX0_empty ({ frames := 1, cells := 0, slots := 0, locals := 23 }) (va_Pc [.ref (zad g (zp j (4 + k)))] (zPre g x)) (va_Qv (fun (u : zT) => ∃ f : Nat → Int32, u = xi x (zp j (7 + k)) f ∧ ∀ q, q < 24 → f q = 0) (zB g) (zA g)) 0 0 (zA g) := by
  refine z_met (cc := cX0_empty) (nL := 1) (ret := none) hg (by decide) rfl (Nat.le_of_ble_eq_true rfl) ?_
  intro p_ e_ s_ m_ args_ below_ meth_ c_ C hr
  show Z p_ l e_ _ s_ m_ args_ below_ meth_ c_ g 1 0 0 _ x 0 [(0, .ref (zad g (zp j (4 + k))))] []
  have hw_f9 := C.1.2.2.2.2 (.fieldLink RX0 9 "Countcote$CarefulSketch" "cells" "[I") (by decide +kernel)
  have hinX0 : ∀ w ∈ wsX00, w ∈ wsX0_empty := by decide +kernel
  refine z_aload_n 0 C dX0_empty_0 rfl 0 rfl ?_
  refine z_getr 1 C (ref := "Countcote$CarefulSketch") (T := TX0) (N := 1) (ci := 0) (q := 0) (kR_ccells hj hk) rfl hinX0 (by decide) rfl hw_f9 dX0_empty_1 ?_
  refine z_iconst (v := nI 0) 4 C dX0_empty_4 rfl ?_
  refine z_callSv 5 C (As := [.ref (zad g (zp j (7 + k))), .int (nI 0)]) 2 (c_fill l hg x (zp j (7 + k)) 24 (nI 0) (kI_ccell hj hk)) (va_cwS 2 C.1.2.2.2.2 gX0_empty_J7_fill_53178 rfl rfl rfl (by decide +kernel) ⟨Nat.le_of_ble_eq_true rfl, Nat.le_of_ble_eq_true rfl⟩) rfl rfl (Nat.le_of_ble_eq_true rfl) ⟨Nat.le_of_ble_eq_true rfl, Nat.le_of_ble_eq_true rfl⟩ dX0_empty_5 (fun u hu => ?_)
  obtain ⟨f1, rfl, hf2⟩ := hu
  exact z_vret 8 C hr ⟨f1, rfl, hf2⟩ dX0_empty_8
