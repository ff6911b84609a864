theorem zfill_s {f : Nat → Int32} {v : Int32} {i : Nat} (h : ∀ q, q < i → f q = v) : ∀ q, q < i + 1 → upd f i v q = v := fun q hq => by
  by_cases e : q = i
  · subst e; exact pk_us
  · rw [pk_un e]; exact h q (by omega)
set_option maxHeartbeats 4000000 in
set_option maxRecDepth 100000 in
/-- Arrays.fill of an array of the world -/
theorem c_fill (l : Launch) {g : zG} (hg : zOk g) (x : zT) (k n : Nat) (v : Int32) (hk : kI k n) : Met l yJ7_fill_53178 wsJ7_fill_53178 ({ frames := 0, cells := 0, slots := 0, locals := 0 }) (va_Pc [.ref (zad g k), .int v] (zPre g x)) (va_Qv (fun u : zT => ∃ f : Nat → Int32, u = xi x k f ∧ ∀ q, q < n → f q = v) (zB g) (zA g)) 0 0 (zA g) := by
  refine z_met (cc := cJ7_fill_53178) (nL := 4) (ret := none) hg (by decide) rfl (Nat.le_of_ble_eq_true rfl) ?_
  intro p_ e_ s_ m_ args_ below_ meth_ c_ C hr
  show Z p_ l e_ _ s_ m_ args_ below_ meth_ c_ g 4 0 0 _ x 0 [(0, .ref (zad g k)), (1, .int v)] []
  have hn9 := hk.1.2
  refine z_iconst (v := nI 0) 0 C dJ7_fill_53178_0 rfl ?_
  refine z_istore_n (lv' := [(2, .int (nI 0)), (0, .ref (zad g k)), (1, .int v)]) 1 C dJ7_fill_53178_1 rfl (by decide) rfl ?_
  refine z_aload_n 2 C dJ7_fill_53178_2 rfl 1 rfl ?_
  refine z_ialen 3 C hk dJ7_fill_53178_3 ?_
  refine z_istore_n (lv' := [(3, .int (nI n)), (2, .int (nI 0)), (0, .ref (zad g k)), (1, .int v)]) 4 C dJ7_fill_53178_4 rfl (by decide) rfl ?_
  refine z_x (y := (xi x k (x.1 k))) (xi_idf rfl) ?_
  have J5 : ∀ (n5 : Nat) (i : Nat) (f : Nat → Int32), (i ≤ n) → (n < i + n5) → (∀ q, q < i → f q = v) → Z p_ l e_ (headSpec wsJ7_fill_53178 ({ frames := 0, cells := 0, slots := 0, locals := 0 })).room s_ m_ args_ below_ meth_ c_ g 4 0 0 (MQ below_ (va_Qv (fun u : zT => ∃ f : Nat → Int32, u = xi x k f ∧ ∀ q, q < n → f q = v) (zB g) (zA g)) args_ s_ 0 0 (zA g)) (xi x k f) 5 [(0, .ref (zad g k)), (1, .int v), (2, .int (nI i)), (3, .int (nI n))] [] := by
    intro n5
    induction n5 with
    | zero => intro i f hi hn hf; exact absurd hn (by omega)
    | succ n5 ih5 =>
      intro i f hi hn hf
      refine z_iload_n 5 C dJ7_fill_53178_5 rfl 2 rfl ?_
      refine z_iload_n 6 C dJ7_fill_53178_6 rfl 3 rfl ?_
      refine z_icmp_geN 7 C 20 dJ7_fill_53178_7 (by decide) (by omega) (by omega) (fun h7 => ?_) (fun h7 => ?_)
      · exact z_vret 20 C hr ⟨f, rfl, fun q hq => hf q (by omega)⟩ dJ7_fill_53178_20
      · refine z_aload_n 10 C dJ7_fill_53178_10 rfl 0 rfl ?_
        refine z_iload_n 11 C dJ7_fill_53178_11 rfl 2 rfl ?_
        refine z_iload_n 12 C dJ7_fill_53178_12 rfl 1 rfl ?_
        obtain ⟨f1, ef1⟩ : ∃ f9 : Nat → Int32, f9 = upd f i v := ⟨_, rfl⟩
        refine z_iast (f := f1) 13 C hk (by omega) (by rw [xi_s]; exact ef1.symm) dJ7_fill_53178_13 ?_
        refine z_x (y := (xi x k f1)) (by rw [xi_xi]) ?_
        refine z_iinc (v' := nI (i + 1)) (lv' := [(2, .int (nI (i + 1))), (0, .ref (zad g k)), (1, .int v), (3, .int (nI n))]) 14 C dJ7_fill_53178_14 (q := 2) rfl (zn_inc i 1) (by decide) rfl ?_
        refine z_goto 17 C 5 dJ7_fill_53178_17 (by decide) ?_
        refine z_lv (lv' := [(0, .ref (zad g k)), (1, .int v), (2, .int (nI (i + 1))), (3, .int (nI n))]) [1, 2, 0, 3] rfl ?_
        exact ih5 (i + 1) f1 (by omega) (by omega) (fun q h => by rw [ef1]; exact zfill_s hf q h)
  refine z_lv (lv' := [(0, .ref (zad g k)), (1, .int v), (2, .int (nI 0)), (3, .int (nI n))]) [2, 3, 1, 0] rfl ?_
  exact J5 (n + 1) 0 (x.1 k) (Nat.zero_le _) (by omega) (fun q h => absurd h (Nat.not_lt_zero q))
set_option maxHeartbeats 4000000 in
set_option maxRecDepth 100000 in
/-- X2_sum -/
theorem c_X2_sum (l : Launch) {g : zG} (hg : zOk g) (x : zT) (j : Nat) (hj : j < 4) : Met l yX2_sum wsX2_sum ({ frames := 0, cells := 0, slots := 0, locals := 0 }) (va_Pc [.ref (zad g (zp j 1))] (zPre g x)) (va_Qi (fun (r : Int32) (u : zT) => u = x ∧ r = x.1 (zp j 2) 1) (zB g) (zA g)) 0 0 (zA g) := by
  refine z_met (cc := cX2_sum) (nL := 1) (ret := (some .int)) hg (by decide) rfl (Nat.le_of_ble_eq_true rfl) ?_
  intro p_ e_ s_ m_ args_ below_ meth_ c_ C hr
  show Z p_ l e_ _ s_ m_ args_ below_ meth_ c_ g 1 0 0 _ x 0 [(0, .ref (zad g (zp j 1)))] []
  have hw_f9 := C.1.2.2.2.2 (.fieldLink RX2 9 "Countcote$PlainCounts" "sums" "[I") (by decide +kernel)
  have hinX2 : ∀ w ∈ wsX20, w ∈ wsX2_sum := by decide +kernel
  refine z_aload_n 0 C dX2_sum_0 rfl 0 rfl ?_
  refine z_getr 1 C (ref := "Countcote$PlainCounts") (T := TX2) (N := 1) (ci := 2) (q := 0) (kR_sums hj) rfl hinX2 (by decide) rfl hw_f9 dX2_sum_1 ?_
  refine z_iconst (v := nI 1) 4 C dX2_sum_4 rfl ?_
  refine z_iald (v := (x.1 (zp j 2)) 1) 5 C (kI_sums hj) (by omega) rfl dX2_sum_5 ?_
  exact z_iret 6 C hr ⟨rfl, rfl⟩ dX2_sum_6
set_option maxHeartbeats 4000000 in
set_option maxRecDepth 100000 in
/-- X2_ofHalf -/
theorem c_X2_ofHalf (l : Launch) {g : zG} (hg : zOk g) (x : zT) (j : Nat) (hj : j < 4) (lev half : Nat) (hv : lev ≤ 6) (hh : half < 64 / 2 ^ lev) : Met l yX2_ofHalf wsX2_ofHalf ({ frames := 0, cells := 0, slots := 0, locals := 0 }) (va_Pc [.ref (zad g (zp j 1)), .int (nI lev), .int (nI half)] (zPre g x)) (va_Qi (fun (r : Int32) (u : zT) => u = x ∧ r = x.1 (zp j 2) (64 / 2 ^ lev + half)) (zB g) (zA g)) 0 0 (zA g) := by
  refine z_met (cc := cX2_ofHalf) (nL := 3) (ret := (some .int)) hg (by decide) rfl (Nat.le_of_ble_eq_true rfl) ?_
  intro p_ e_ s_ m_ args_ below_ meth_ c_ C hr
  show Z p_ l e_ _ s_ m_ args_ below_ meth_ c_ g 3 0 0 _ x 0 [(0, .ref (zad g (zp j 1))), (1, .int (nI lev)), (2, .int (nI half))] []
  have hw_f9 := C.1.2.2.2.2 (.fieldLink RX2 9 "Countcote$PlainCounts" "sums" "[I") (by decide +kernel)
  have hinX2 : ∀ w ∈ wsX20, w ∈ wsX2_ofHalf := by decide +kernel
  have h64 : 64 / 2 ^ lev ≤ 64 := Nat.div_le_self _ _
  refine z_aload_n 0 C dX2_ofHalf_0 rfl 0 rfl ?_
  refine z_getr 1 C (ref := "Countcote$PlainCounts") (T := TX2) (N := 1) (ci := 2) (q := 0) (kR_sums hj) rfl hinX2 (by decide) rfl hw_f9 dX2_ofHalf_1 ?_
  refine z_bipush (v := nI 64) 4 C dX2_ofHalf_4 rfl ?_
  refine z_iload_n 6 C dX2_ofHalf_6 rfl 1 rfl ?_
  refine z_ishr (v := nI (64 / 2 ^ lev)) 7 C dX2_ofHalf_7 (zn_shr 64 lev (by omega) (by omega)) ?_
  refine z_iload_n 8 C dX2_ofHalf_8 rfl 2 rfl ?_
  refine z_iadd (v := nI ((64 / 2 ^ lev) + half)) 9 C dX2_ofHalf_9 (nI_add (64 / 2 ^ lev) half) ?_
  refine z_iald (v := (x.1 (zp j 2)) ((64 / 2 ^ lev) + half)) 10 C (kI_sums hj) (by omega) rfl dX2_ofHalf_10 ?_
  exact z_iret 11 C hr ⟨rfl, rfl⟩ dX2_ofHalf_11
set_option maxHeartbeats 4000000 in
set_option maxRecDepth 100000 in
/-- X2_put -/
theorem c_X2_put (l : Launch) {g : zG} (hg : zOk g) (x : zT) (j : Nat) (hj : j < 4) (i : Nat) (hi : i < 64) (w : Int32) (c : Nat → Int32) (hT : zTree (x.1 (zp j 2)) c) : Met l yX2_put wsX2_put ({ frames := 0, cells := 0, slots := 0, locals := 0 }) (va_Pc [.ref (zad g (zp j 1)), .int (nI i), .int w] (zPre g x)) (va_Qv (fun (u : zT) => ∃ f : Nat → Int32, u = xi x (zp j 2) f ∧ zTree f (upd c i (c i + w))) (zB g) (zA g)) 0 0 (zA g) := by
  refine z_met (cc := cX2_put) (nL := 4) (ret := none) hg (by decide) rfl (Nat.le_of_ble_eq_true rfl) ?_
  intro p_ e_ s_ m_ args_ below_ meth_ c_ C hr
  show Z p_ l e_ _ s_ m_ args_ below_ meth_ c_ g 4 0 0 _ x 0 [(0, .ref (zad g (zp j 1))), (1, .int (nI i)), (2, .int w)] []
  have hw_f9 := C.1.2.2.2.2 (.fieldLink RX2 9 "Countcote$PlainCounts" "sums" "[I") (by decide +kernel)
  have hinX2 : ∀ w ∈ wsX20, w ∈ wsX2_put := by decide +kernel
  refine z_bipush (v := nI 64) 0 C dX2_put_0 rfl ?_
  refine z_iload_n 2 C dX2_put_2 rfl 1 rfl ?_
  refine z_iadd (v := nI (64 + i)) 3 C dX2_put_3 (nI_add 64 i) ?_
  refine z_istore_n (lv' := [(3, .int (nI (64 + i))), (0, .ref (zad g (zp j 1))), (1, .int (nI i)), (2, .int w)]) 4 C dX2_put_4 rfl (by decide) rfl ?_
  refine z_x (y := (xi x (zp j 2) (x.1 (zp j 2)))) (xi_idf rfl) ?_
  have J5 : ∀ (n5 : Nat) (q : Nat) (f : Nat → Int32), (q < 128) → (q < n5) → (zTreeU f (upd c i (c i + w)) w q) → Z p_ l e_ (headSpec wsX2_put ({ frames := 0, cells := 0, slots := 0, locals := 0 })).room s_ m_ args_ below_ meth_ c_ g 4 0 0 (MQ below_ (va_Qv (fun (u : zT) => ∃ f : Nat → Int32, u = xi x (zp j 2) f ∧ zTree f (upd c i (c i + w))) (zB g) (zA g)) args_ s_ 0 0 (zA g)) (xi x (zp j 2) f) 5 [(0, .ref (zad g (zp j 1))), (1, .int (nI i)), (2, .int w), (3, .int (nI q))] [] := by
    intro n5
    induction n5 with
    | zero => intro q f hq hn hU; exact absurd hn (by omega)
    | succ n5 ih5 =>
      intro q f hq hn hU
      refine z_iload_n 5 C dX2_put_5 rfl 3 rfl ?_
      refine z_if_leN 6 C 26 dX2_put_6 (by decide) (by omega) (fun h6 => ?_) (fun h6 => ?_)
      · exact z_vret 26 C hr ⟨f, rfl, zTreeU_e (by rw [Nat.le_zero.mp h6] at hU; exact hU)⟩ dX2_put_26
      · refine z_aload_n 9 C dX2_put_9 rfl 0 rfl ?_
        refine z_getr 10 C (ref := "Countcote$PlainCounts") (T := TX2) (N := 1) (ci := 2) (q := 0) (kR_sums hj) rfl hinX2 (by decide) rfl hw_f9 dX2_put_10 ?_
        refine z_iload_n 13 C dX2_put_13 rfl 3 rfl ?_
        refine z_dup2 14 C dX2_put_14 rfl rfl ?_
        refine z_iald (v := f q) 15 C (kI_sums hj) (by omega) (by rw [xi_s]) dX2_put_15 ?_
        refine z_iload_n 16 C dX2_put_16 rfl 2 rfl ?_
        refine z_iadd (v := (f q) + w) 17 C dX2_put_17 rfl ?_
        obtain ⟨f1, ef1⟩ : ∃ f9 : Nat → Int32, f9 = upd f q ((f q) + w) := ⟨_, rfl⟩
        refine z_iast (f := f1) 18 C (kI_sums hj) (by omega) (by rw [xi_s]; exact ef1.symm) dX2_put_18 ?_
        refine z_x (y := (xi x (zp j 2) f1)) (by rw [xi_xi]) ?_
        refine z_iload_n 19 C dX2_put_19 rfl 3 rfl ?_
        refine z_iconst (v := nI 1) 20 C dX2_put_20 rfl ?_
        refine z_ishr (v := nI (q / 2 ^ 1)) 21 C dX2_put_21 (zn_shr q 1 (by omega) (by omega)) ?_
        refine z_istore_n (lv' := [(3, .int (nI (q / 2 ^ 1))), (0, .ref (zad g (zp j 1))), (1, .int (nI i)), (2, .int w)]) 22 C dX2_put_22 rfl (by decide) rfl ?_
        refine z_goto 23 C 5 dX2_put_23 (by decide) ?_
        refine z_lv (lv' := [(0, .ref (zad g (zp j 1))), (1, .int (nI i)), (2, .int w), (3, .int (nI (q / 2 ^ 1)))]) [1, 2, 3, 0] rfl ?_
        exact ih5 (q / 2) f1 (by omega) (by omega) (by rw [ef1]; exact zTreeU_s (by omega) (by omega) hU)
  refine z_lv (lv' := [(0, .ref (zad g (zp j 1))), (1, .int (nI i)), (2, .int w), (3, .int (nI (64 + i)))]) [1, 2, 3, 0] rfl ?_
  exact J5 (64 + i + 1) (64 + i) (x.1 (zp j 2)) (by omega) (by omega) (zTreeU_0 hT)
theorem zjoin_s {f a b : Nat → Int32} {i n : Nat} (hi : i < n) (h : ∀ q, q < n → f q = if q < i then a q + b q else a q) : ∀ q, q < n → upd f i (f i + b i) q = if q < i + 1 then a q + b q else a q := fun q hq => by
  by_cases e : q = i
  · subst e; rw [pk_us, h q hq, if_neg (Nat.lt_irrefl q), if_pos (by omega)]
  · rw [pk_un e, h q hq]
    by_cases e2 : q < i
    · rw [if_pos e2, if_pos (by omega)]
    · rw [if_neg e2, if_neg (by omega)]
set_option maxHeartbeats 4000000 in
set_option maxRecDepth 100000 in
/-- X2_join -/
theorem c_X2_join (l : Launch) {g : zG} (hg : zOk g) (x : zT) (j o : Nat) (hj : j < 4) (ho : o < 4) (hjo : j ≠ o) : Met l yX2_join wsX2_join ({ frames := 0, cells := 0, slots := 0, locals := 0 }) (va_Pc [.ref (zad g (zp j 1)), .ref (zad g (zp o 1))] (zPre g x)) (va_Qv (fun (u : zT) => ∃ f : Nat → Int32, u = xi x (zp j 2) f ∧ ∀ q, q < 128 → f q = x.1 (zp j 2) q + x.1 (zp o 2) q) (zB g) (zA g)) 0 0 (zA g) := by
  refine z_met (cc := cX2_join) (nL := 3) (ret := none) hg (by decide) rfl (Nat.le_of_ble_eq_true rfl) ?_
  intro p_ e_ s_ m_ args_ below_ meth_ c_ C hr
  show Z p_ l e_ _ s_ m_ args_ below_ meth_ c_ g 3 0 0 _ x 0 [(0, .ref (zad g (zp j 1))), (1, .ref (zad g (zp o 1)))] []
  have hw_f9 := C.1.2.2.2.2 (.fieldLink RX2 9 "Countcote$PlainCounts" "sums" "[I") (by decide +kernel)
  have hinX2 : ∀ w ∈ wsX20, w ∈ wsX2_join := by decide +kernel
  refine z_iconst (v := nI 0) 0 C dX2_join_0 rfl ?_
  refine z_istore_n (lv' := [(2, .int (nI 0)), (0, .ref (zad g (zp j 1))), (1, .ref (zad g (zp o 1)))]) 1 C dX2_join_1 rfl (by decide) rfl ?_
  refine z_x (y := (xi x (zp j 2) (x.1 (zp j 2)))) (xi_idf rfl) ?_
  have J2 : ∀ (n2 : Nat) (i : Nat) (f : Nat → Int32), (i ≤ 128) → (128 < i + n2) → (∀ q, q < 128 → f q = if q < i then x.1 (zp j 2) q + x.1 (zp o 2) q else x.1 (zp j 2) q) → Z p_ l e_ (headSpec wsX2_join ({ frames := 0, cells := 0, slots := 0, locals := 0 })).room s_ m_ args_ below_ meth_ c_ g 3 0 0 (MQ below_ (va_Qv (fun (u : zT) => ∃ f : Nat → Int32, u = xi x (zp j 2) f ∧ ∀ q, q < 128 → f q = x.1 (zp j 2) q + x.1 (zp o 2) q) (zB g) (zA g)) args_ s_ 0 0 (zA g)) (xi x (zp j 2) f) 2 [(0, .ref (zad g (zp j 1))), (1, .ref (zad g (zp o 1))), (2, .int (nI i))] [] := by
    intro n2
    induction n2 with
    | zero => intro i f hi hn hf; exact absurd hn (by omega)
    | succ n2 ih2 =>
      intro i f hi hn hf
      refine z_iload_n 2 C dX2_join_2 rfl 2 rfl ?_
      refine z_aload_n 3 C dX2_join_3 rfl 0 rfl ?_
      refine z_getr 4 C (ref := "Countcote$PlainCounts") (T := TX2) (N := 1) (ci := 2) (q := 0) (kR_sums hj) rfl hinX2 (by decide) rfl hw_f9 dX2_join_4 ?_
      refine z_ialen 7 C (kI_sums hj) dX2_join_7 ?_
      refine z_icmp_geN 8 C 32 dX2_join_8 (by decide) (by omega) (by omega) (fun h8 => ?_) (fun h8 => ?_)
      · exact z_vret 32 C hr ⟨f, rfl, fun q hq => by rw [hf q hq, if_pos (by omega)]⟩ dX2_join_32
      · refine z_aload_n 11 C dX2_join_11 rfl 0 rfl ?_
        refine z_getr 12 C (ref := "Countcote$PlainCounts") (T := TX2) (N := 1) (ci := 2) (q := 0) (kR_sums hj) rfl hinX2 (by decide) rfl hw_f9 dX2_join_12 ?_
        refine z_iload_n 15 C dX2_join_15 rfl 2 rfl ?_
        refine z_dup2 16 C dX2_join_16 rfl rfl ?_
        refine z_iald (v := f i) 17 C (kI_sums hj) (by omega) (by rw [xi_s]) dX2_join_17 ?_
        refine z_aload_n 18 C dX2_join_18 rfl 1 rfl ?_
        refine z_getr 19 C (ref := "Countcote$PlainCounts") (T := TX2) (N := 1) (ci := 2) (q := 0) (kR_sums ho) rfl hinX2 (by decide) rfl hw_f9 dX2_join_19 ?_
        refine z_iload_n 22 C dX2_join_22 rfl 2 rfl ?_
        refine z_iald (v := (x.1 (zp o 2)) i) 23 C (kI_sums ho) (by omega) (by rw [xi_n _ (by unfold zp; omega)]) dX2_join_23 ?_
        refine z_iadd (v := (f i) + ((x.1 (zp o 2)) i)) 24 C dX2_join_24 rfl ?_
        obtain ⟨f1, ef1⟩ : ∃ f9 : Nat → Int32, f9 = upd f i ((f i) + ((x.1 (zp o 2)) i)) := ⟨_, rfl⟩
        refine z_iast (f := f1) 25 C (kI_sums hj) (by omega) (by rw [xi_s]; exact ef1.symm) dX2_join_25 ?_
        refine z_x (y := (xi x (zp j 2) f1)) (by rw [xi_xi]) ?_
        refine z_iinc (v' := nI (i + 1)) (lv' := [(2, .int (nI (i + 1))), (0, .ref (zad g (zp j 1))), (1, .ref (zad g (zp o 1)))]) 26 C dX2_join_26 (q := 2) rfl (zn_inc i 1) (by decide) rfl ?_
        refine z_goto 29 C 2 dX2_join_29 (by decide) ?_
        refine z_lv (lv' := [(0, .ref (zad g (zp j 1))), (1, .ref (zad g (zp o 1))), (2, .int (nI (i + 1)))]) [1, 2, 0] rfl ?_
        exact ih2 (i + 1) f1 (by omega) (by omega) (by rw [ef1]; exact zjoin_s h8 hf)
  refine z_lv (lv' := [(0, .ref (zad g (zp j 1))), (1, .ref (zad g (zp o 1))), (2, .int (nI 0))]) [1, 2, 0] rfl ?_
  exact J2 129 0 (x.1 (zp j 2)) (Nat.zero_le _) (by omega) (fun q _ => by rw [if_neg (Nat.not_lt_zero q)])
set_option maxHeartbeats 4000000 in
set_option maxRecDepth 100000 in
/-- X2_empty -/
theorem c_X2_empty (l : Launch) {g : zG} (hg : zOk g) (x : zT) (j : Nat) (hj : j < 4) : Met l yX2_empty wsX2_empty ({ frames := 1, cells := 0, slots := 0, locals := 23 }) (va_Pc [.ref (zad g (zp j 1))] (zPre g x)) (va_Qv (fun (u : zT) => ∃ f : Nat → Int32, u = xi x (zp j 2) f ∧ ∀ q, q < 128 → f q = 0) (zB g) (zA g)) 0 0 (zA g) := by
  refine z_met (cc := cX2_empty) (nL := 1) (ret := none) hg (by decide) rfl (Nat.le_of_ble_eq_true rfl) ?_
  intro p_ e_ s_ m_ args_ below_ meth_ c_ C hr
  show Z p_ l e_ _ s_ m_ args_ below_ meth_ c_ g 1 0 0 _ x 0 [(0, .ref (zad g (zp j 1)))] []
  have hw_f9 := C.1.2.2.2.2 (.fieldLink RX2 9 "Countcote$PlainCounts" "sums" "[I") (by decide +kernel)
  have hinX2 : ∀ w ∈ wsX20, w ∈ wsX2_empty := by decide +kernel
  refine z_aload_n 0 C dX2_empty_0 rfl 0 rfl ?_
  refine z_getr 1 C (ref := "Countcote$PlainCounts") (T := TX2) (N := 1) (ci := 2) (q := 0) (kR_sums hj) rfl hinX2 (by decide) rfl hw_f9 dX2_empty_1 ?_
  refine z_iconst (v := nI 0) 4 C dX2_empty_4 rfl ?_
  refine z_callSv 5 C (As := [.ref (zad g (zp j 2)), .int (nI 0)]) 2 (c_fill l hg x (zp j 2) 128 (nI 0) (kI_sums hj)) (va_cwS 2 C.1.2.2.2.2 gX2_empty_J7_fill_53178 rfl rfl rfl (by decide +kernel) ⟨Nat.le_of_ble_eq_true rfl, Nat.le_of_ble_eq_true rfl⟩) rfl rfl (Nat.le_of_ble_eq_true rfl) ⟨Nat.le_of_ble_eq_true rfl, Nat.le_of_ble_eq_true rfl⟩ dX2_empty_5 (fun u hu => ?_)
  obtain ⟨f1, rfl, hf2⟩ := hu
  exact z_vret 8 C hr ⟨f1, rfl, hf2⟩ dX2_empty_8
set_option maxHeartbeats 4000000 in
set_option maxRecDepth 100000 in
/-- X2_ofItems -/
theorem c_X2_ofItems (l : Launch) {g : zG} (hg : zOk g) (x : zT) (j : Nat) (hj : j < 4) (a b : Nat) (hab : a ≤ b) (hb : b < 64) : Met l yX2_ofItems wsX2_ofItems ({ frames := 0, cells := 0, slots := 0, locals := 0 }) (va_Pc [.ref (zad g (zp j 1)), .int (nI a), .int (nI b)] (zPre g x)) (va_Qi (fun (r : Int32) (u : zT) => u = x ∧ r = zsum (fun k => x.1 (zp j 2) (64 + k)) a (b + 1 - a)) (zB g) (zA g)) 0 0 (zA g) := by
  refine z_met (cc := cX2_ofItems) (nL := 5) (ret := (some .int)) hg (by decide) rfl (Nat.le_of_ble_eq_true rfl) ?_
  intro p_ e_ s_ m_ args_ below_ meth_ c_ C hr
  show Z p_ l e_ _ s_ m_ args_ below_ meth_ c_ g 5 0 0 _ x 0 [(0, .ref (zad g (zp j 1))), (1, .int (nI a)), (2, .int (nI b))] []
  have hw_f9 := C.1.2.2.2.2 (.fieldLink RX2 9 "Countcote$PlainCounts" "sums" "[I") (by decide +kernel)
  have hinX2 : ∀ w ∈ wsX20, w ∈ wsX2_ofItems := by decide +kernel
  refine z_iconst (v := nI 0) 0 C dX2_ofItems_0 rfl ?_
  refine z_istore_n (lv' := [(3, .int (nI 0)), (0, .ref (zad g (zp j 1))), (1, .int (nI a)), (2, .int (nI b))]) 1 C dX2_ofItems_1 rfl (by decide) rfl ?_
  refine z_iload_n 2 C dX2_ofItems_2 rfl 2 rfl ?_
  refine z_istore (lv' := [(4, .int (nI a)), (3, .int (nI 0)), (0, .ref (zad g (zp j 1))), (1, .int (nI a)), (2, .int (nI b))]) 3 C dX2_ofItems_3 (by decide) rfl ?_
  have J5 : ∀ (n5 : Nat) (i : Nat) (t : Int32), (a ≤ i ∧ i ≤ b + 1) → (b + 1 < i + n5) → (t = zsum (fun k => x.1 (zp j 2) (64 + k)) a (i - a)) → Z p_ l e_ (headSpec wsX2_ofItems ({ frames := 0, cells := 0, slots := 0, locals := 0 })).room s_ m_ args_ below_ meth_ c_ g 5 0 0 (MQ below_ (va_Qi (fun (r : Int32) (u : zT) => u = x ∧ r = zsum (fun k => x.1 (zp j 2) (64 + k)) a (b + 1 - a)) (zB g) (zA g)) args_ s_ 0 0 (zA g)) x 5 [(0, .ref (zad g (zp j 1))), (1, .int (nI a)), (2, .int (nI b)), (3, .int t), (4, .int (nI i))] [] := by
    intro n5
    induction n5 with
    | zero => intro i t hi hn ht; exact absurd hn (by omega)
    | succ n5 ih5 =>
      intro i t hi hn ht
      refine z_iload 5 C dX2_ofItems_5 4 rfl ?_
      refine z_iload_n 7 C dX2_ofItems_7 rfl 2 rfl ?_
      refine z_icmp_gtN 8 C 30 dX2_ofItems_8 (by decide) (by omega) (by omega) (fun h8 => ?_) (fun h8 => ?_)
      · refine z_iload_n 30 C dX2_ofItems_30 rfl 3 rfl ?_
        exact z_iret 31 C hr ⟨rfl, by rw [ht, show i - a = b + 1 - a by omega]⟩ dX2_ofItems_31
      · refine z_iload_n 11 C dX2_ofItems_11 rfl 3 rfl ?_
        refine z_aload_n 12 C dX2_ofItems_12 rfl 0 rfl ?_
        refine z_getr 13 C (ref := "Countcote$PlainCounts") (T := TX2) (N := 1) (ci := 2) (q := 0) (kR_sums hj) rfl hinX2 (by decide) rfl hw_f9 dX2_ofItems_13 ?_
        refine z_bipush (v := nI 64) 16 C dX2_ofItems_16 rfl ?_
        refine z_iload 18 C dX2_ofItems_18 4 rfl ?_
        refine z_iadd (v := nI (64 + i)) 20 C dX2_ofItems_20 (nI_add 64 i) ?_
        refine z_iald (v := (x.1 (zp j 2)) (64 + i)) 21 C (kI_sums hj) (by omega) rfl dX2_ofItems_21 ?_
        refine z_iadd (v := t + ((x.1 (zp j 2)) (64 + i))) 22 C dX2_ofItems_22 rfl ?_
        refine z_istore_n (lv' := [(3, .int (t + ((x.1 (zp j 2)) (64 + i)))), (0, .ref (zad g (zp j 1))), (1, .int (nI a)), (2, .int (nI b)), (4, .int (nI i))]) 23 C dX2_ofItems_23 rfl (by decide) rfl ?_
        refine z_iinc (v' := nI (i + 1)) (lv' := [(4, .int (nI (i + 1))), (3, .int (t + ((x.1 (zp j 2)) (64 + i)))), (0, .ref (zad g (zp j 1))), (1, .int (nI a)), (2, .int (nI b))]) 24 C dX2_ofItems_24 (q := 4) rfl (zn_inc i 1) (by decide) rfl ?_
        refine z_goto 27 C 5 dX2_ofItems_27 (by decide) ?_
        refine z_lv (lv' := [(0, .ref (zad g (zp j 1))), (1, .int (nI a)), (2, .int (nI b)), (3, .int (t + ((x.1 (zp j 2)) (64 + i)))), (4, .int (nI (i + 1)))]) [2, 3, 4, 1, 0] rfl ?_
        exact ih5 (i + 1) (t + ((x.1 (zp j 2)) (64 + i))) (by omega) (by omega) (by rw [ht]; exact (zsum_s _ hi.1).symm)
  refine z_lv (lv' := [(0, .ref (zad g (zp j 1))), (1, .int (nI a)), (2, .int (nI b)), (3, .int (nI 0)), (4, .int (nI a))]) [2, 3, 4, 1, 0] rfl ?_
  exact J5 (b + 2) a 0 ⟨Nat.le_refl _, by omega⟩ (by omega) (by rw [Nat.sub_self]; rfl)
set_option maxHeartbeats 4000000 in
set_option maxRecDepth 100000 in
/-- X2_times -/
theorem c_X2_times (l : Launch) {g : zG} (hg : zOk g) (x : zT) (j o : Nat) (hj : j < 4) (ho : o < 4) : Met l yX2_times wsX2_times ({ frames := 0, cells := 0, slots := 0, locals := 0 }) (va_Pc [.ref (zad g (zp j 1)), .ref (zad g (zp o 1))] (zPre g x)) (va_Ql (fun (r : Int64) (u : zT) => u = x ∧ r = zsumL (fun k => (x.1 (zp j 2) k).toInt64 * (x.1 (zp o 2) k).toInt64) 64 64) (zB g) (zA g)) 0 0 (zA g) := by
  refine z_met (cc := cX2_times) (nL := 5) (ret := (some .long)) hg (by decide) rfl (Nat.le_of_ble_eq_true rfl) ?_
  intro p_ e_ s_ m_ args_ below_ meth_ c_ C hr
  show Z p_ l e_ _ s_ m_ args_ below_ meth_ c_ g 5 0 0 _ x 0 [(0, .ref (zad g (zp j 1))), (1, .ref (zad g (zp o 1)))] []
  have hw_f9 := C.1.2.2.2.2 (.fieldLink RX2 9 "Countcote$PlainCounts" "sums" "[I") (by decide +kernel)
  have hinX2 : ∀ w ∈ wsX20, w ∈ wsX2_times := by decide +kernel
  refine z_lconst (v := 0) 0 C dX2_times_0 rfl ?_
  refine z_lstore_n (lv' := [(2, .long 0), (0, .ref (zad g (zp j 1))), (1, .ref (zad g (zp o 1)))]) 1 C dX2_times_1 rfl (by decide) rfl ?_
  refine z_bipush (v := nI 64) 2 C dX2_times_2 rfl ?_
  refine z_istore (lv' := [(4, .int (nI 64)), (2, .long 0), (0, .ref (zad g (zp j 1))), (1, .ref (zad g (zp o 1)))]) 4 C dX2_times_4 (by decide) rfl ?_
  have J6 : ∀ (n6 : Nat) (i : Nat) (t : Int64), (64 ≤ i ∧ i ≤ 128) → (128 < i + n6) → (t = zsumL (fun k => (x.1 (zp j 2) k).toInt64 * (x.1 (zp o 2) k).toInt64) 64 (i - 64)) → Z p_ l e_ (headSpec wsX2_times ({ frames := 0, cells := 0, slots := 0, locals := 0 })).room s_ m_ args_ below_ meth_ c_ g 5 0 0 (MQ below_ (va_Ql (fun (r : Int64) (u : zT) => u = x ∧ r = zsumL (fun k => (x.1 (zp j 2) k).toInt64 * (x.1 (zp o 2) k).toInt64) 64 64) (zB g) (zA g)) args_ s_ 0 0 (zA g)) x 6 [(0, .ref (zad g (zp j 1))), (1, .ref (zad g (zp o 1))), (2, .long t), (4, .int (nI i))] [] := by
    intro n6
    induction n6 with
    | zero => intro i t hi hn ht; exact absurd hn (by omega)
    | succ n6 ih6 =>
      intro i t hi hn ht
      refine z_iload 6 C dX2_times_6 3 rfl ?_
      refine z_aload_n 8 C dX2_times_8 rfl 0 rfl ?_
      refine z_getr 9 C (ref := "Countcote$PlainCounts") (T := TX2) (N := 1) (ci := 2) (q := 0) (kR_sums hj) rfl hinX2 (by decide) rfl hw_f9 dX2_times_9 ?_
      refine z_ialen 12 C (kI_sums hj) dX2_times_12 ?_
      refine z_icmp_geN 13 C 42 dX2_times_13 (by decide) (by omega) (by omega) (fun h13 => ?_) (fun h13 => ?_)
      · refine z_lload_n 42 C dX2_times_42 rfl 2 rfl ?_
        exact z_lret 43 C hr ⟨rfl, by rw [ht, show i - 64 = 64 by omega]⟩ dX2_times_43
      · refine z_lload_n 16 C dX2_times_16 rfl 2 rfl ?_
        refine z_aload_n 17 C dX2_times_17 rfl 0 rfl ?_
        refine z_getr 18 C (ref := "Countcote$PlainCounts") (T := TX2) (N := 1) (ci := 2) (q := 0) (kR_sums hj) rfl hinX2 (by decide) rfl hw_f9 dX2_times_18 ?_
        refine z_iload 21 C dX2_times_21 3 rfl ?_
        refine z_iald (v := (x.1 (zp j 2)) i) 23 C (kI_sums hj) (by omega) rfl dX2_times_23 ?_
        refine z_i2l (v := ((x.1 (zp j 2)) i).toInt64) 24 C dX2_times_24 rfl ?_
        refine z_aload_n 25 C dX2_times_25 rfl 1 rfl ?_
        refine z_getr 26 C (ref := "Countcote$PlainCounts") (T := TX2) (N := 1) (ci := 2) (q := 0) (kR_sums ho) rfl hinX2 (by decide) rfl hw_f9 dX2_times_26 ?_
        refine z_iload 29 C dX2_times_29 3 rfl ?_
        refine z_iald (v := (x.1 (zp o 2)) i) 31 C (kI_sums ho) (by omega) rfl dX2_times_31 ?_
        refine z_i2l (v := ((x.1 (zp o 2)) i).toInt64) 32 C dX2_times_32 rfl ?_
        refine z_lmul (v := (((x.1 (zp j 2)) i).toInt64) * (((x.1 (zp o 2)) i).toInt64)) 33 C dX2_times_33 rfl ?_
        refine z_ladd (v := t + ((((x.1 (zp j 2)) i).toInt64) * (((x.1 (zp o 2)) i).toInt64))) 34 C dX2_times_34 rfl ?_
        refine z_lstore_n (lv' := [(2, .long (t + ((((x.1 (zp j 2)) i).toInt64) * (((x.1 (zp o 2)) i).toInt64)))), (0, .ref (zad g (zp j 1))), (1, .ref (zad g (zp o 1))), (4, .int (nI i))]) 35 C dX2_times_35 rfl (by decide) rfl ?_
        refine z_iinc (v' := nI (i + 1)) (lv' := [(4, .int (nI (i + 1))), (2, .long (t + ((((x.1 (zp j 2)) i).toInt64) * (((x.1 (zp o 2)) i).toInt64)))), (0, .ref (zad g (zp j 1))), (1, .ref (zad g (zp o 1)))]) 36 C dX2_times_36 (q := 3) rfl (zn_inc i 1) (by decide) rfl ?_
        refine z_goto 39 C 6 dX2_times_39 (by decide) ?_
        refine z_lv (lv' := [(0, .ref (zad g (zp j 1))), (1, .ref (zad g (zp o 1))), (2, .long (t + ((((x.1 (zp j 2)) i).toInt64) * (((x.1 (zp o 2)) i).toInt64)))), (4, .int (nI (i + 1)))]) [2, 3, 1, 0] rfl ?_
        exact ih6 (i + 1) (t + ((((x.1 (zp j 2)) i).toInt64) * (((x.1 (zp o 2)) i).toInt64))) (by omega) (by omega) (by rw [ht]; exact (zsumL_s _ hi.1).symm)
  refine z_lv (lv' := [(0, .ref (zad g (zp j 1))), (1, .ref (zad g (zp o 1))), (2, .long 0), (4, .int (nI 64))]) [2, 3, 1, 0] rfl ?_
  exact J6 129 64 0 ⟨by omega, by omega⟩ (by omega) rfl
