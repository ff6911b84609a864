/-! ===== a stream ===== -/
theorem zsum_add (f g : Nat → Int32) (a : Nat) : ∀ n : Nat, zsum (fun k => f k + g k) a n = zsum f a n + zsum g a n
  | 0 => rfl
  | n + 1 => by
    show zsum (fun k => f k + g k) a n + (f (a + n) + g (a + n)) = (zsum f a n + f (a + n)) + (zsum g a n + g (a + n))
    rw [zsum_add f g a n]
    ac_rfl
theorem zsum_0 (a : Nat) : ∀ n : Nat, zsum (fun _ => 0) a n = 0
  | 0 => rfl
  | n + 1 => by
    show zsum (fun _ => 0) a n + 0 = 0
    rw [zsum_0 a n]
    rfl
theorem zsum_one (i : Nat) (v : Int32) : ∀ n : Nat, zsum (fun k => if k = i then v else 0) 0 n = if i < n then v else 0
  | 0 => rfl
  | n + 1 => by
    show zsum (fun k => if k = i then v else 0) 0 n + (if 0 + n = i then v else 0) = _
    rw [zsum_one i v n, Nat.zero_add]
    by_cases h : n = i
    · subst h
      rw [if_neg (Nat.lt_irrefl n), if_pos rfl, if_pos (Nat.lt_succ_self n), Int32.zero_add]
    · rw [if_neg h, Int32.add_zero]
      by_cases h2 : i < n
      · rw [if_pos h2, if_pos (by omega)]
      · rw [if_neg h2, if_neg (by omega)]
/-- a signed cell, out of the plain counts -/
def zscell (c : Nat → Int32) (r col : Nat) : Int32 := zsum (fun i => if zscol r i = col then zsg r i * c i else 0) 0 64
theorem zscell_put {c : Nat → Int32} {i r col : Nat} {w : Int32} (hi : i < 64) : zscell (upd c i (c i + w)) r col = zscell c r col + (if zscol r i = col then zsg r i * w else 0) := by
  unfold zscell
  have e : zsum (fun k => if k = i then (if zscol r i = col then zsg r i * w else 0) else 0) 0 64 = (if zscol r i = col then zsg r i * w else 0) := by
    rw [zsum_one, if_pos hi]
  rw [← e, ← zsum_add]
  refine zsum_congr (fun k _ _ => ?_)
  by_cases h : k = i
  · subst h
    rw [pk_us, if_pos rfl]
    by_cases h2 : zscol r k = col
    · rw [if_pos h2, if_pos h2, if_pos h2, Int32.mul_add]
    · rw [if_neg h2, if_neg h2, if_neg h2]
      rfl
  · rw [pk_un h, if_neg h, Int32.add_zero]
theorem zscell_add {c c' : Nat → Int32} {r col : Nat} : zscell (fun k => c k + c' k) r col = zscell c r col + zscell c' r col := by
  unfold zscell
  rw [← zsum_add]
  refine zsum_congr (fun k _ _ => ?_)
  by_cases h2 : zscol r k = col
  · rw [if_pos h2, if_pos h2, if_pos h2, Int32.mul_add]
  · rw [if_neg h2, if_neg h2, if_neg h2]
    rfl
theorem zscell_0 {r col : Nat} : zscell (fun _ => 0) r col = 0 := by
  unfold zscell
  rw [zsum_congr (g := fun _ => 0) (fun k _ _ => by
    show (if zscol r k = col then zsg r k * 0 else 0) = 0
    split
    · exact Int32.mul_zero
    · rfl), zsum_0]
def zdput (d : Nat → Int32) (i : Nat) (w : Int32) : Nat → Int32 := fun q => if q < 24 then zcput d (i / 2 ^ 0) w q else if q < 48 then zcput (fun p => d (24 + p)) (i / 2 ^ 1) w (q - 24) else zcput (fun p => d (48 + p)) (i / 2 ^ 2) w (q - 48)
/-- what the cells of a stream say: its counts, careful cells, counters, the number taken -/
def zSR (x : zT) (j : Nat) (c d : Nat → Int32) (L : zCL) (aw : Int32) : Prop :=
  zTree (x.1 (zp j 2)) c ∧ (∀ q, q < 24 → x.1 (zp j (7 + 0)) q = d q) ∧ (∀ q, q < 24 → x.1 (zp j (7 + 1)) q = d (24 + q)) ∧ (∀ q, q < 24 → x.1 (zp j (7 + 2)) q = d (48 + q)) ∧ (∀ q, q < 40 → x.1 (zp j 11) q = zscell c (q / 8) (q % 8)) ∧ zFS (x.1 (zp j 13)) (x.1 (zp j 14)) (x.1 (zp j 15)) L aw
def zOut (j : Nat) (x u : zT) : Prop := (∀ k, k < zp j 0 ∨ zp j 15 < k → u.1 k = x.1 k ∧ u.2.1 k = x.2.1 k) ∧ u.2.2 = x.2.2
theorem zOut_rf {j : Nat} {x : zT} : zOut j x x := ⟨fun _ _ => ⟨rfl, rfl⟩, rfl⟩
theorem zOut_i {j i : Nat} {x u : zT} {f : Nat → Int32} (hi : i < 16) (h : zOut j x u) : zOut j x (xi u (zp j i) f) := ⟨fun k hk => by
  have h1 := h.1 k hk
  rw [xi_n f (by unfold zp at hk ⊢; omega)]
  exact h1, h.2⟩
theorem zOut_l {j i : Nat} {x u : zT} {f : Nat → Int64} (hi : i < 16) (h : zOut j x u) : zOut j x (xl u (zp j i) f) := ⟨fun k hk => by
  have h1 := h.1 k hk
  rw [xl_n f (by unfold zp at hk ⊢; omega)]
  exact h1, h.2⟩
theorem zcput_congr {f g : Nat → Int32} {h : Nat} {w : Int32} (hfg : ∀ q, q < 24 → f q = g q) {q : Nat} (hq : q < 24) : zcput f h w q = zcput g h w q := by
  have e : zleast f h = zleast g h := by
    unfold zleast
    rw [hfg _ (zcp_lt h (by decide)), hfg _ (zcp_lt h (by decide)), hfg _ (zcp_lt h (by decide))]
  unfold zcput
  rw [e, hfg q hq]
theorem zleast_congr {f g : Nat → Int32} {h : Nat} (hfg : ∀ q, q < 24 → f q = g q) : zleast f h = zleast g h := by
  unfold zleast
  rw [hfg _ (zcp_lt h (by decide)), hfg _ (zcp_lt h (by decide)), hfg _ (zcp_lt h (by decide))]
theorem zscell_sput {f c : Nat → Int32} {i : Nat} {w : Int32} (hi : i < 64) (hf : ∀ q, q < 40 → f q = zscell c (q / 8) (q % 8)) : ∀ q, q < 40 → zsput f i w q = zscell (upd c i (c i + w)) (q / 8) (q % 8) := fun q hq => by
  rw [zscell_put hi]
  unfold zsput
  by_cases h : zscol (q / 8) i = q % 8
  · rw [if_pos h, if_pos ⟨hq, by unfold zsp; omega⟩, hf q hq]
  · rw [if_neg h, if_neg (fun z => h (by have := z.2; unfold zsp at this; omega)), hf q hq, Int32.add_zero]
/-- the estimate of a half -/
def zest (c d : Nat → Int32) (lev half : Nat) : Int32 := if lev < 3 then zleast (fun q => d (24 * lev + q)) half else zsum c (half * 2 ^ lev) (2 ^ lev)
theorem zSR_car {x : zT} {j : Nat} {c d : Nat → Int32} {L : zCL} {aw : Int32} (h : zSR x j c d L aw) {k : Nat} (hk : k < 3) : ∀ q, q < 24 → x.1 (zp j (7 + k)) q = d (24 * k + q) := by
  have h9 : k = 0 ∨ k = 1 ∨ k = 2 := by omega
  rcases h9 with e | e | e
  · subst e
    intro q hq
    rw [h.2.1 q hq]
    congr 1
    omega
  · subst e
    exact h.2.2.1
  · subst e
    exact h.2.2.2.1
theorem zSR_est {x : zT} {j : Nat} {c d : Nat → Int32} {L : zCL} {aw : Int32} (h : zSR x j c d L aw) {lev half : Nat} (hl : lev < 3) : zleast (x.1 (zp j (7 + lev))) half = zest c d lev half := by
  unfold zest
  rw [if_pos hl]
  exact zleast_congr (fun q hq => zSR_car h hl q hq)
theorem zSR_est2 {x : zT} {j : Nat} {c d : Nat → Int32} {L : zCL} {aw : Int32} (h : zSR x j c d L aw) {lev half : Nat} (hl : ¬ lev < 3) (h6 : lev ≤ 6) (hh : half < 64 / 2 ^ lev) : x.1 (zp j 2) (64 / 2 ^ lev + half) = zest c d lev half := by
  unfold zest
  rw [if_neg hl]
  exact zTree_half h.1 lev half h6 hh
def zfreq (c d : Nat → Int32) (item : Nat) (least : Int32) : Prop := ∀ lev, lev ≤ 6 → least ≤ zest c d lev (item / 2 ^ lev)
theorem zhalf_lt {item lev : Nat} (hi : item < 64) (hl : lev ≤ 6) : item / 2 ^ lev < 64 / 2 ^ lev := by
  have h9 : lev = 0 ∨ lev = 1 ∨ lev = 2 ∨ lev = 3 ∨ lev = 4 ∨ lev = 5 ∨ lev = 6 := by omega
  rcases h9 with e | e | e | e | e | e | e <;> subst e <;> omega
theorem zfreq_of {c d : Nat → Int32} {item : Nat} {least : Int32} (h0 : least ≤ zest c d 0 (item / 2 ^ 0)) (h1 : least ≤ zest c d 1 (item / 2 ^ 1)) (h2 : least ≤ zest c d 2 (item / 2 ^ 2)) (h3 : least ≤ zest c d 3 (item / 2 ^ 3)) (h4 : least ≤ zest c d 4 (item / 2 ^ 4)) (h5 : least ≤ zest c d 5 (item / 2 ^ 5)) (h6 : least ≤ zest c d 6 (item / 2 ^ 6)) : zfreq c d item least := fun lev hl => by
  have h9 : lev = 0 ∨ lev = 1 ∨ lev = 2 ∨ lev = 3 ∨ lev = 4 ∨ lev = 5 ∨ lev = 6 := by omega
  rcases h9 with e | e | e | e | e | e | e
  · subst e; exact h0
  · subst e; exact h1
  · subst e; exact h2
  · subst e; exact h3
  · subst e; exact h4
  · subst e; exact h5
  · subst e; exact h6
theorem zd_0 {f d : Nat → Int32} {h : Nat} {w : Int32} {i : Nat} {f' : Nat → Int32} (hh : h = i / 2 ^ 0) (hf : ∀ q, q < 24 → f q = d q) (e : f' = zcput f h w) : ∀ q, q < 24 → f' q = zdput d i w q := fun q hq => by
  subst hh
  unfold zdput
  rw [e, if_pos hq]
  exact zcput_congr hf hq
theorem zd_1 {f d : Nat → Int32} {h : Nat} {w : Int32} {i : Nat} {f' : Nat → Int32} (hh : h = i / 2 ^ 1) (hf : ∀ q, q < 24 → f q = d (24 + q)) (e : f' = zcput f h w) : ∀ q, q < 24 → f' q = zdput d i w (24 + q) := fun q hq => by
  subst hh
  unfold zdput
  rw [e, if_neg (by omega), if_pos (by omega), show 24 + q - 24 = q by omega]
  exact zcput_congr hf hq
theorem zd_2 {f d : Nat → Int32} {h : Nat} {w : Int32} {i : Nat} {f' : Nat → Int32} (hh : h = i / 2 ^ 2) (hf : ∀ q, q < 24 → f q = d (48 + q)) (e : f' = zcput f h w) : ∀ q, q < 24 → f' q = zdput d i w (48 + q) := fun q hq => by
  subst hh
  unfold zdput
  rw [e, if_neg (by omega), if_neg (by omega), show 48 + q - 48 = q by omega]
  exact zcput_congr hf hq
set_option maxHeartbeats 4000000 in
set_option maxRecDepth 100000 in
/-- X4_put -/
theorem c_X4_put (l : Launch) {g : zG} (hg : zOk g) (x : zT) (j : Nat) (hj : j < 4) (c d : Nat → Int32) (L : zCL) (aw : Int32) (hR : zSR x j c d L aw) (i : Nat) (hi : i < 64) (w : Int32) : Met l yX4_put wsX4_put ({ frames := 4, cells := 0, slots := 0, locals := 90 }) (va_Pc [.ref (zad g (zp j 0)), .int (nI i), .int w] (zPre g x)) (va_Qv (fun (u : zT) => zOut j x u ∧ zSR u j (upd c i (c i + w)) (zdput d i w) (zadd L (nI i) w) (aw + zaddw L (nI i) w)) (zB g) (zA g)) 0 0 (zA g) := by
  refine z_met (cc := cX4_put) (nL := 4) (ret := none) hg (by decide) rfl (Nat.le_of_ble_eq_true rfl) ?_
  intro p_ e_ s_ m_ args_ below_ meth_ c_ C hr
  show Z p_ l e_ _ s_ m_ args_ below_ meth_ c_ g 4 0 0 _ x 0 [(0, .ref (zad g (zp j 0))), (1, .int (nI i)), (2, .int w)] []
  have hw_f12 := C.1.2.2.2.2 (.fieldLink RX4 12 "Countcote$Stream" "plain" "LCountcote$PlainCounts;") (by decide +kernel)
  have hinX4 : ∀ w ∈ wsX40, w ∈ wsX4_put := by decide +kernel
  have hw_f20 := C.1.2.2.2.2 (.fieldLink RX4 20 "Countcote$Stream" "careful" "[LCountcote$CarefulSketch;") (by decide +kernel)
  have hw_f27 := C.1.2.2.2.2 (.fieldLink RX4 27 "Countcote$Stream" "signed" "LCountcote$SignedSketch;") (by decide +kernel)
  have hw_f34 := C.1.2.2.2.2 (.fieldLink RX4 34 "Countcote$Stream" "few" "LCountcote$FewCounters;") (by decide +kernel)
  refine z_aload_n 0 C dX4_put_0 rfl 0 rfl ?_
  refine z_getr 1 C (ref := "Countcote$Stream") (T := TX4) (N := 4) (ci := 4) (q := 0) (kR_plain hj) rfl hinX4 (by decide) rfl hw_f12 dX4_put_1 ?_
  refine z_iload_n 4 C dX4_put_4 rfl 1 rfl ?_
  refine z_iload_n 5 C dX4_put_5 rfl 2 rfl ?_
  refine z_callVv 6 C (As := [.int (nI i), .int w]) 2 (kO_plain hj) rfl (c_X2_put l hg x j hj i (by omega) w c hR.1) (cwV 2 C.1.2.2.2.2 gX4_put_X2_put rfl rfl rfl (by decide +kernel) ⟨Nat.le_of_ble_eq_true rfl, Nat.le_of_ble_eq_true rfl⟩) rfl rfl (Nat.le_of_ble_eq_true rfl) ⟨Nat.le_of_ble_eq_true rfl, Nat.le_of_ble_eq_true rfl⟩ dX4_put_6 (fun u hu => ?_)
  obtain ⟨f1, rfl, hT9⟩ := hu
  refine z_iconst (v := nI 0) 9 C dX4_put_9 rfl ?_
  refine z_istore_n (lv' := [(3, .int (nI 0)), (0, .ref (zad g (zp j 0))), (1, .int (nI i)), (2, .int w)]) 10 C dX4_put_10 rfl (by decide) rfl ?_
  refine z_iload_n 11 C dX4_put_11 rfl 0 rfl ?_
  refine z_aload_n 12 C dX4_put_12 rfl 1 rfl ?_
  refine z_getr 13 C (ref := "Countcote$Stream") (T := TX4) (N := 4) (ci := 4) (q := 1) (kR_careful hj) rfl hinX4 (by decide) rfl hw_f20 dX4_put_13 ?_
  refine z_qalen 16 C (kQ_careful hj) rfl dX4_put_16 ?_
  refine z_icmp_geN 17 C 39 dX4_put_17 (by decide) (by omega) (by omega) (fun h17 => absurd h17 (by omega)) (fun h17 => ?_)
  refine z_aload_n 20 C dX4_put_20 rfl 1 rfl ?_
  refine z_getr 21 C (ref := "Countcote$Stream") (T := TX4) (N := 4) (ci := 4) (q := 1) (kR_careful hj) rfl hinX4 (by decide) rfl hw_f20 dX4_put_21 ?_
  refine z_iload_n 24 C dX4_put_24 rfl 0 rfl ?_
  refine z_aald 25 C (kQ_careful hj) rfl (by omega) dX4_put_25 ?_
  refine z_iload_n 26 C dX4_put_26 rfl 2 rfl ?_
  refine z_iload_n 27 C dX4_put_27 rfl 0 rfl ?_
  refine z_ishr (v := nI (i / 2 ^ 0)) 28 C dX4_put_28 (zn_shr i 0 (by omega) (by omega)) ?_
  refine z_iload_n 29 C dX4_put_29 rfl 3 rfl ?_
  refine z_callVv 30 C (As := [.int (nI (i / 2 ^ 0)), .int w]) 2 (kO_cs hj (by omega)) rfl (c_X0_put l hg (xi x (zp j 2) f1) j 0 hj (by decide) (i / 2 ^ 0) (by omega) w) (cwV 2 C.1.2.2.2.2 gX4_put_X0_put rfl rfl rfl (by decide +kernel) ⟨Nat.le_of_ble_eq_true rfl, Nat.le_of_ble_eq_true rfl⟩) rfl rfl (Nat.le_of_ble_eq_true rfl) ⟨Nat.le_of_ble_eq_true rfl, Nat.le_of_ble_eq_true rfl⟩ dX4_put_30 (fun u hu => ?_)
  obtain ⟨f2, ef2⟩ : ∃ f9 : Nat → Int32, f9 = zcput (x.1 (zp j (7 + 0))) (i / 2 ^ 0) w := ⟨_, rfl⟩
  obtain rfl : u = xi (xi x (zp j 2) f1) (zp j (7 + 0)) f2 := by rw [hu, ef2, xi_n _ (by unfold zp; omega)]
  refine z_iinc (v' := nI 1) (lv' := [(3, .int (nI 1)), (0, .ref (zad g (zp j 0))), (1, .int (nI i)), (2, .int w)]) 33 C dX4_put_33 (q := 0) rfl rfl (by decide) rfl ?_
  refine z_goto 36 C 11 dX4_put_36 (by decide) ?_
  refine z_iload_n 11 C dX4_put_11 rfl 0 rfl ?_
  refine z_aload_n 12 C dX4_put_12 rfl 1 rfl ?_
  refine z_getr 13 C (ref := "Countcote$Stream") (T := TX4) (N := 4) (ci := 4) (q := 1) (kR_careful hj) rfl hinX4 (by decide) rfl hw_f20 dX4_put_13 ?_
  refine z_qalen 16 C (kQ_careful hj) rfl dX4_put_16 ?_
  refine z_icmp_geN 17 C 39 dX4_put_17 (by decide) (by omega) (by omega) (fun h17 => absurd h17 (by omega)) (fun h17 => ?_)
  refine z_aload_n 20 C dX4_put_20 rfl 1 rfl ?_
  refine z_getr 21 C (ref := "Countcote$Stream") (T := TX4) (N := 4) (ci := 4) (q := 1) (kR_careful hj) rfl hinX4 (by decide) rfl hw_f20 dX4_put_21 ?_
  refine z_iload_n 24 C dX4_put_24 rfl 0 rfl ?_
  refine z_aald 25 C (kQ_careful hj) rfl (by omega) dX4_put_25 ?_
  refine z_iload_n 26 C dX4_put_26 rfl 2 rfl ?_
  refine z_iload_n 27 C dX4_put_27 rfl 0 rfl ?_
  refine z_ishr (v := nI (i / 2 ^ 1)) 28 C dX4_put_28 (zn_shr i 1 (by omega) (by omega)) ?_
  refine z_iload_n 29 C dX4_put_29 rfl 3 rfl ?_
  refine z_callVv 30 C (As := [.int (nI (i / 2 ^ 1)), .int w]) 2 (kO_cs hj (by omega)) rfl (c_X0_put l hg (xi (xi x (zp j 2) f1) (zp j (7 + 0)) f2) j 1 hj (by decide) (i / 2 ^ 1) (by omega) w) (cwV 2 C.1.2.2.2.2 gX4_put_X0_put rfl rfl rfl (by decide +kernel) ⟨Nat.le_of_ble_eq_true rfl, Nat.le_of_ble_eq_true rfl⟩) rfl rfl (Nat.le_of_ble_eq_true rfl) ⟨Nat.le_of_ble_eq_true rfl, Nat.le_of_ble_eq_true rfl⟩ dX4_put_30 (fun u hu => ?_)
  obtain ⟨f3, ef3⟩ : ∃ f9 : Nat → Int32, f9 = zcput (x.1 (zp j (7 + 1))) (i / 2 ^ 1) w := ⟨_, rfl⟩
  obtain rfl : u = xi (xi (xi x (zp j 2) f1) (zp j (7 + 0)) f2) (zp j (7 + 1)) f3 := by rw [hu, ef3, xi_n _ (by unfold zp; omega), xi_n _ (by unfold zp; omega)]
  refine z_iinc (v' := nI 2) (lv' := [(3, .int (nI 2)), (0, .ref (zad g (zp j 0))), (1, .int (nI i)), (2, .int w)]) 33 C dX4_put_33 (q := 0) rfl rfl (by decide) rfl ?_
  refine z_goto 36 C 11 dX4_put_36 (by decide) ?_
  refine z_iload_n 11 C dX4_put_11 rfl 0 rfl ?_
  refine z_aload_n 12 C dX4_put_12 rfl 1 rfl ?_
  refine z_getr 13 C (ref := "Countcote$Stream") (T := TX4) (N := 4) (ci := 4) (q := 1) (kR_careful hj) rfl hinX4 (by decide) rfl hw_f20 dX4_put_13 ?_
  refine z_qalen 16 C (kQ_careful hj) rfl dX4_put_16 ?_
  refine z_icmp_geN 17 C 39 dX4_put_17 (by decide) (by omega) (by omega) (fun h17 => absurd h17 (by omega)) (fun h17 => ?_)
  refine z_aload_n 20 C dX4_put_20 rfl 1 rfl ?_
  refine z_getr 21 C (ref := "Countcote$Stream") (T := TX4) (N := 4) (ci := 4) (q := 1) (kR_careful hj) rfl hinX4 (by decide) rfl hw_f20 dX4_put_21 ?_
  refine z_iload_n 24 C dX4_put_24 rfl 0 rfl ?_
  refine z_aald 25 C (kQ_careful hj) rfl (by omega) dX4_put_25 ?_
  refine z_iload_n 26 C dX4_put_26 rfl 2 rfl ?_
  refine z_iload_n 27 C dX4_put_27 rfl 0 rfl ?_
  refine z_ishr (v := nI (i / 2 ^ 2)) 28 C dX4_put_28 (zn_shr i 2 (by omega) (by omega)) ?_
  refine z_iload_n 29 C dX4_put_29 rfl 3 rfl ?_
  refine z_callVv 30 C (As := [.int (nI (i / 2 ^ 2)), .int w]) 2 (kO_cs hj (by omega)) rfl (c_X0_put l hg (xi (xi (xi x (zp j 2) f1) (zp j (7 + 0)) f2) (zp j (7 + 1)) f3) j 2 hj (by decide) (i / 2 ^ 2) (by omega) w) (cwV 2 C.1.2.2.2.2 gX4_put_X0_put rfl rfl rfl (by decide +kernel) ⟨Nat.le_of_ble_eq_true rfl, Nat.le_of_ble_eq_true rfl⟩) rfl rfl (Nat.le_of_ble_eq_true rfl) ⟨Nat.le_of_ble_eq_true rfl, Nat.le_of_ble_eq_true rfl⟩ dX4_put_30 (fun u hu => ?_)
  obtain ⟨f4, ef4⟩ : ∃ f9 : Nat → Int32, f9 = zcput (x.1 (zp j (7 + 2))) (i / 2 ^ 2) w := ⟨_, rfl⟩
  obtain rfl : u = xi (xi (xi (xi x (zp j 2) f1) (zp j (7 + 0)) f2) (zp j (7 + 1)) f3) (zp j (7 + 2)) f4 := by rw [hu, ef4, xi_n _ (by unfold zp; omega), xi_n _ (by unfold zp; omega), xi_n _ (by unfold zp; omega)]
  refine z_iinc (v' := nI 3) (lv' := [(3, .int (nI 3)), (0, .ref (zad g (zp j 0))), (1, .int (nI i)), (2, .int w)]) 33 C dX4_put_33 (q := 0) rfl rfl (by decide) rfl ?_
  refine z_goto 36 C 11 dX4_put_36 (by decide) ?_
  refine z_iload_n 11 C dX4_put_11 rfl 0 rfl ?_
  refine z_aload_n 12 C dX4_put_12 rfl 1 rfl ?_
  refine z_getr 13 C (ref := "Countcote$Stream") (T := TX4) (N := 4) (ci := 4) (q := 1) (kR_careful hj) rfl hinX4 (by decide) rfl hw_f20 dX4_put_13 ?_
  refine z_qalen 16 C (kQ_careful hj) rfl dX4_put_16 ?_
  refine z_icmp_geN 17 C 39 dX4_put_17 (by decide) (by omega) (by omega) (fun h17 => ?_) (fun h17 => absurd h17 (by omega))
  refine z_aload_n 39 C dX4_put_39 rfl 1 rfl ?_
  refine z_getr 40 C (ref := "Countcote$Stream") (T := TX4) (N := 4) (ci := 4) (q := 2) (kR_signed hj) rfl hinX4 (by decide) rfl hw_f27 dX4_put_40 ?_
  refine z_iload_n 43 C dX4_put_43 rfl 2 rfl ?_
  refine z_iload_n 44 C dX4_put_44 rfl 3 rfl ?_
  refine z_callVv 45 C (As := [.int (nI i), .int w]) 2 (kO_signed hj) rfl (c_X3_put l hg (xi (xi (xi (xi x (zp j 2) f1) (zp j (7 + 0)) f2) (zp j (7 + 1)) f3) (zp j (7 + 2)) f4) j hj i (by omega) w) (cwV 2 C.1.2.2.2.2 gX4_put_X3_put rfl rfl rfl (by decide +kernel) ⟨Nat.le_of_ble_eq_true rfl, Nat.le_of_ble_eq_true rfl⟩) rfl rfl (Nat.le_of_ble_eq_true rfl) ⟨Nat.le_of_ble_eq_true rfl, Nat.le_of_ble_eq_true rfl⟩ dX4_put_45 (fun u hu => ?_)
  obtain ⟨f5, ef5⟩ : ∃ f9 : Nat → Int32, f9 = zsput (x.1 (zp j 11)) i w := ⟨_, rfl⟩
  obtain rfl : u = xi (xi (xi (xi (xi x (zp j 2) f1) (zp j (7 + 0)) f2) (zp j (7 + 1)) f3) (zp j (7 + 2)) f4) (zp j 11) f5 := by rw [hu, ef5, xi_n _ (by unfold zp; omega), xi_n _ (by unfold zp; omega), xi_n _ (by unfold zp; omega), xi_n _ (by unfold zp; omega)]
  refine z_aload_n 48 C dX4_put_48 rfl 1 rfl ?_
  refine z_getr 49 C (ref := "Countcote$Stream") (T := TX4) (N := 4) (ci := 4) (q := 3) (kR_few hj) rfl hinX4 (by decide) rfl hw_f34 dX4_put_49 ?_
  refine z_iload_n 52 C dX4_put_52 rfl 2 rfl ?_
  refine z_iload_n 53 C dX4_put_53 rfl 3 rfl ?_
  have q6 : (xi (xi (xi (xi (xi x (zp j 2) f1) (zp j (7 + 0)) f2) (zp j (7 + 1)) f3) (zp j (7 + 2)) f4) (zp j 11) f5).1 (zp j 13) = x.1 (zp j 13) := by rw [xi_n _ (by unfold zp; omega), xi_n _ (by unfold zp; omega), xi_n _ (by unfold zp; omega), xi_n _ (by unfold zp; omega), xi_n _ (by unfold zp; omega)]
  have q7 : (xi (xi (xi (xi (xi x (zp j 2) f1) (zp j (7 + 0)) f2) (zp j (7 + 1)) f3) (zp j (7 + 2)) f4) (zp j 11) f5).1 (zp j 14) = x.1 (zp j 14) := by rw [xi_n _ (by unfold zp; omega), xi_n _ (by unfold zp; omega), xi_n _ (by unfold zp; omega), xi_n _ (by unfold zp; omega), xi_n _ (by unfold zp; omega)]
  have q8 : (xi (xi (xi (xi (xi x (zp j 2) f1) (zp j (7 + 0)) f2) (zp j (7 + 1)) f3) (zp j (7 + 2)) f4) (zp j 11) f5).1 (zp j 15) = x.1 (zp j 15) := by rw [xi_n _ (by unfold zp; omega), xi_n _ (by unfold zp; omega), xi_n _ (by unfold zp; omega), xi_n _ (by unfold zp; omega), xi_n _ (by unfold zp; omega)]
  refine z_callVv 54 C (As := [.int (nI i), .int w]) 2 (kO_few hj) rfl (c_X1_put l hg (xi (xi (xi (xi (xi x (zp j 2) f1) (zp j (7 + 0)) f2) (zp j (7 + 1)) f3) (zp j (7 + 2)) f4) (zp j 11) f5) j hj L aw (by rw [q6, q7, q8]; exact hR.2.2.2.2.2) (nI i) w) (cwV 2 C.1.2.2.2.2 gX4_put_X1_put rfl rfl rfl (by decide +kernel) ⟨Nat.le_of_ble_eq_true rfl, Nat.le_of_ble_eq_true rfl⟩) rfl rfl (Nat.le_of_ble_eq_true rfl) ⟨Nat.le_of_ble_eq_true rfl, Nat.le_of_ble_eq_true rfl⟩ dX4_put_54 (fun u hu => ?_)
  obtain ⟨h9, fi10, fw11, rfl, hF12⟩ := hu
  have h8h9 := hF12.2.2.1
  have w0 : (xi (xi (xi (xi (xi (xi (xi (xi x (zp j 2) f1) (zp j (7 + 0)) f2) (zp j (7 + 1)) f3) (zp j (7 + 2)) f4) (zp j 11) f5) (zp j 13) h9) (zp j 14) fi10) (zp j 15) fw11).1 (zp j 2) = f1 := (by rw [xi_n _ (by unfold zp; omega), xi_n _ (by unfold zp; omega), xi_n _ (by unfold zp; omega), xi_n _ (by unfold zp; omega), xi_n _ (by unfold zp; omega), xi_n _ (by unfold zp; omega), xi_n _ (by unfold zp; omega), xi_s])
  have w1 : (xi (xi (xi (xi (xi (xi (xi (xi x (zp j 2) f1) (zp j (7 + 0)) f2) (zp j (7 + 1)) f3) (zp j (7 + 2)) f4) (zp j 11) f5) (zp j 13) h9) (zp j 14) fi10) (zp j 15) fw11).1 (zp j (7 + 0)) = f2 := (by rw [xi_n _ (by unfold zp; omega), xi_n _ (by unfold zp; omega), xi_n _ (by unfold zp; omega), xi_n _ (by unfold zp; omega), xi_n _ (by unfold zp; omega), xi_n _ (by unfold zp; omega), xi_s])
  have w2 : (xi (xi (xi (xi (xi (xi (xi (xi x (zp j 2) f1) (zp j (7 + 0)) f2) (zp j (7 + 1)) f3) (zp j (7 + 2)) f4) (zp j 11) f5) (zp j 13) h9) (zp j 14) fi10) (zp j 15) fw11).1 (zp j (7 + 1)) = f3 := (by rw [xi_n _ (by unfold zp; omega), xi_n _ (by unfold zp; omega), xi_n _ (by unfold zp; omega), xi_n _ (by unfold zp; omega), xi_n _ (by unfold zp; omega), xi_s])
  have w3 : (xi (xi (xi (xi (xi (xi (xi (xi x (zp j 2) f1) (zp j (7 + 0)) f2) (zp j (7 + 1)) f3) (zp j (7 + 2)) f4) (zp j 11) f5) (zp j 13) h9) (zp j 14) fi10) (zp j 15) fw11).1 (zp j (7 + 2)) = f4 := (by rw [xi_n _ (by unfold zp; omega), xi_n _ (by unfold zp; omega), xi_n _ (by unfold zp; omega), xi_n _ (by unfold zp; omega), xi_s])
  have w4 : (xi (xi (xi (xi (xi (xi (xi (xi x (zp j 2) f1) (zp j (7 + 0)) f2) (zp j (7 + 1)) f3) (zp j (7 + 2)) f4) (zp j 11) f5) (zp j 13) h9) (zp j 14) fi10) (zp j 15) fw11).1 (zp j 11) = f5 := (by rw [xi_n _ (by unfold zp; omega), xi_n _ (by unfold zp; omega), xi_n _ (by unfold zp; omega), xi_s])
  have w5 : (xi (xi (xi (xi (xi (xi (xi (xi x (zp j 2) f1) (zp j (7 + 0)) f2) (zp j (7 + 1)) f3) (zp j (7 + 2)) f4) (zp j 11) f5) (zp j 13) h9) (zp j 14) fi10) (zp j 15) fw11).1 (zp j 13) = h9 := (by rw [xi_n _ (by unfold zp; omega), xi_n _ (by unfold zp; omega), xi_s])
  have w6 : (xi (xi (xi (xi (xi (xi (xi (xi x (zp j 2) f1) (zp j (7 + 0)) f2) (zp j (7 + 1)) f3) (zp j (7 + 2)) f4) (zp j 11) f5) (zp j 13) h9) (zp j 14) fi10) (zp j 15) fw11).1 (zp j 14) = fi10 := (by rw [xi_n _ (by unfold zp; omega), xi_s])
  have w7 : (xi (xi (xi (xi (xi (xi (xi (xi x (zp j 2) f1) (zp j (7 + 0)) f2) (zp j (7 + 1)) f3) (zp j (7 + 2)) f4) (zp j 11) f5) (zp j 13) h9) (zp j 14) fi10) (zp j 15) fw11).1 (zp j 15) = fw11 := (by rw [xi_s])
  exact z_vret 57 C hr ⟨(zOut_i (by decide) (zOut_i (by decide) (zOut_i (by decide) (zOut_i (by decide) (zOut_i (by decide) (zOut_i (by decide) (zOut_i (by decide) (zOut_i (by decide) zOut_rf)))))))), by rw [w0]; exact hT9, by rw [w1]; exact zd_0 rfl hR.2.1 ef2, by rw [w2]; exact zd_1 rfl hR.2.2.1 ef3, by rw [w3]; exact zd_2 rfl hR.2.2.2.1 ef4, by rw [w4]; exact by rw [ef5]; exact zscell_sput hi hR.2.2.2.2.1, by rw [w5, w6, w7]; exact hF12⟩ dX4_put_57
set_option maxHeartbeats 4000000 in
set_option maxRecDepth 100000 in
/-- X4_join -/
theorem c_X4_join (l : Launch) {g : zG} (hg : zOk g) (x : zT) (j o : Nat) (hj : j < 4) (ho : o < 4) (hjo : j ≠ o) (c d : Nat → Int32) (L : zCL) (aw : Int32) (hR : zSR x j c d L aw) (c2 d2 : Nat → Int32) (K : zCL) (ow : Int32) (hO : zSR x o c2 d2 K ow) : Met l yX4_join wsX4_join ({ frames := 3, cells := 0, slots := 0, locals := 68 }) (va_Pc [.ref (zad g (zp j 0)), .ref (zad g (zp o 0))] (zPre g x)) (va_Qv (fun (u : zT) => zOut j x u ∧ zSR u j (fun k => c k + c2 k) (fun k => d k + d2 k) (zmrg L K) (aw + ow + zmrgw L K)) (zB g) (zA g)) 0 0 (zA g) := by
  refine z_met (cc := cX4_join) (nL := 3) (ret := none) hg (by decide) rfl (Nat.le_of_ble_eq_true rfl) ?_
  intro p_ e_ s_ m_ args_ below_ meth_ c_ C hr
  show Z p_ l e_ _ s_ m_ args_ below_ meth_ c_ g 3 0 0 _ x 0 [(0, .ref (zad g (zp j 0))), (1, .ref (zad g (zp o 0)))] []
  have hw_f12 := C.1.2.2.2.2 (.fieldLink RX4 12 "Countcote$Stream" "plain" "LCountcote$PlainCounts;") (by decide +kernel)
  have hinX4 : ∀ w ∈ wsX40, w ∈ wsX4_join := by decide +kernel
  have hw_f20 := C.1.2.2.2.2 (.fieldLink RX4 20 "Countcote$Stream" "careful" "[LCountcote$CarefulSketch;") (by decide +kernel)
  have hw_f27 := C.1.2.2.2.2 (.fieldLink RX4 27 "Countcote$Stream" "signed" "LCountcote$SignedSketch;") (by decide +kernel)
  have hw_f34 := C.1.2.2.2.2 (.fieldLink RX4 34 "Countcote$Stream" "few" "LCountcote$FewCounters;") (by decide +kernel)
  refine z_aload_n 0 C dX4_join_0 rfl 0 rfl ?_
  refine z_getr 1 C (ref := "Countcote$Stream") (T := TX4) (N := 4) (ci := 4) (q := 0) (kR_plain hj) rfl hinX4 (by decide) rfl hw_f12 dX4_join_1 ?_
  refine z_aload_n 4 C dX4_join_4 rfl 1 rfl ?_
  refine z_getr 5 C (ref := "Countcote$Stream") (T := TX4) (N := 4) (ci := 4) (q := 0) (kR_plain ho) rfl hinX4 (by decide) rfl hw_f12 dX4_join_5 ?_
  refine z_callVv 8 C (As := [.ref (zad g (zp o 1))]) 1 (kO_plain hj) rfl (c_X2_join l hg x j o hj ho hjo) (cwV 1 C.1.2.2.2.2 gX4_join_X2_join rfl rfl rfl (by decide +kernel) ⟨Nat.le_of_ble_eq_true rfl, Nat.le_of_ble_eq_true rfl⟩) rfl rfl (Nat.le_of_ble_eq_true rfl) ⟨Nat.le_of_ble_eq_true rfl, Nat.le_of_ble_eq_true rfl⟩ dX4_join_8 (fun u hu => ?_)
  obtain ⟨f1, rfl, hj2⟩ := hu
  refine z_iconst (v := nI 0) 11 C dX4_join_11 rfl ?_
  refine z_istore_n (lv' := [(2, .int (nI 0)), (0, .ref (zad g (zp j 0))), (1, .ref (zad g (zp o 0)))]) 12 C dX4_join_12 rfl (by decide) rfl ?_
  refine z_iload_n 13 C dX4_join_13 rfl 0 rfl ?_
  refine z_aload_n 14 C dX4_join_14 rfl 1 rfl ?_
  refine z_getr 15 C (ref := "Countcote$Stream") (T := TX4) (N := 4) (ci := 4) (q := 1) (kR_careful hj) rfl hinX4 (by decide) rfl hw_f20 dX4_join_15 ?_
  refine z_qalen 18 C (kQ_careful hj) rfl dX4_join_18 ?_
  refine z_icmp_geN 19 C 43 dX4_join_19 (by decide) (by omega) (by omega) (fun h19 => absurd h19 (by omega)) (fun h19 => ?_)
  refine z_aload_n 22 C dX4_join_22 rfl 1 rfl ?_
  refine z_getr 23 C (ref := "Countcote$Stream") (T := TX4) (N := 4) (ci := 4) (q := 1) (kR_careful hj) rfl hinX4 (by decide) rfl hw_f20 dX4_join_23 ?_
  refine z_iload_n 26 C dX4_join_26 rfl 0 rfl ?_
  refine z_aald 27 C (kQ_careful hj) rfl (by omega) dX4_join_27 ?_
  refine z_aload_n 28 C dX4_join_28 rfl 2 rfl ?_
  refine z_getr 29 C (ref := "Countcote$Stream") (T := TX4) (N := 4) (ci := 4) (q := 1) (kR_careful ho) rfl hinX4 (by decide) rfl hw_f20 dX4_join_29 ?_
  refine z_iload_n 32 C dX4_join_32 rfl 0 rfl ?_
  refine z_aald 33 C (kQ_careful ho) rfl (by omega) dX4_join_33 ?_
  refine z_callVv 34 C (As := [.ref (zad g (zp o (4 + 0)))]) 1 (kO_cs hj (by omega)) rfl (c_X0_join l hg (xi x (zp j 2) f1) j o 0 hj ho hjo (by decide)) (cwV 1 C.1.2.2.2.2 gX4_join_X0_join rfl rfl rfl (by decide +kernel) ⟨Nat.le_of_ble_eq_true rfl, Nat.le_of_ble_eq_true rfl⟩) rfl rfl (Nat.le_of_ble_eq_true rfl) ⟨Nat.le_of_ble_eq_true rfl, Nat.le_of_ble_eq_true rfl⟩ dX4_join_34 (fun u hu => ?_)
  obtain ⟨f3, rfl, hj4⟩ := hu
  rw [xi_n _ (by unfold zp; omega), xi_n _ (by unfold zp; omega)] at hj4
  refine z_iinc (v' := nI 1) (lv' := [(2, .int (nI 1)), (0, .ref (zad g (zp j 0))), (1, .ref (zad g (zp o 0)))]) 37 C dX4_join_37 (q := 0) rfl rfl (by decide) rfl ?_
  refine z_goto 40 C 13 dX4_join_40 (by decide) ?_
  refine z_iload_n 13 C dX4_join_13 rfl 0 rfl ?_
  refine z_aload_n 14 C dX4_join_14 rfl 1 rfl ?_
  refine z_getr 15 C (ref := "Countcote$Stream") (T := TX4) (N := 4) (ci := 4) (q := 1) (kR_careful hj) rfl hinX4 (by decide) rfl hw_f20 dX4_join_15 ?_
  refine z_qalen 18 C (kQ_careful hj) rfl dX4_join_18 ?_
  refine z_icmp_geN 19 C 43 dX4_join_19 (by decide) (by omega) (by omega) (fun h19 => absurd h19 (by omega)) (fun h19 => ?_)
  refine z_aload_n 22 C dX4_join_22 rfl 1 rfl ?_
  refine z_getr 23 C (ref := "Countcote$Stream") (T := TX4) (N := 4) (ci := 4) (q := 1) (kR_careful hj) rfl hinX4 (by decide) rfl hw_f20 dX4_join_23 ?_
  refine z_iload_n 26 C dX4_join_26 rfl 0 rfl ?_
  refine z_aald 27 C (kQ_careful hj) rfl (by omega) dX4_join_27 ?_
  refine z_aload_n 28 C dX4_join_28 rfl 2 rfl ?_
  refine z_getr 29 C (ref := "Countcote$Stream") (T := TX4) (N := 4) (ci := 4) (q := 1) (kR_careful ho) rfl hinX4 (by decide) rfl hw_f20 dX4_join_29 ?_
  refine z_iload_n 32 C dX4_join_32 rfl 0 rfl ?_
  refine z_aald 33 C (kQ_careful ho) rfl (by omega) dX4_join_33 ?_
  refine z_callVv 34 C (As := [.ref (zad g (zp o (4 + 1)))]) 1 (kO_cs hj (by omega)) rfl (c_X0_join l hg (xi (xi x (zp j 2) f1) (zp j (7 + 0)) f3) j o 1 hj ho hjo (by decide)) (cwV 1 C.1.2.2.2.2 gX4_join_X0_join rfl rfl rfl (by decide +kernel) ⟨Nat.le_of_ble_eq_true rfl, Nat.le_of_ble_eq_true rfl⟩) rfl rfl (Nat.le_of_ble_eq_true rfl) ⟨Nat.le_of_ble_eq_true rfl, Nat.le_of_ble_eq_true rfl⟩ dX4_join_34 (fun u hu => ?_)
  obtain ⟨f5, rfl, hj6⟩ := hu
  rw [xi_n _ (by unfold zp; omega), xi_n _ (by unfold zp; omega), xi_n _ (by unfold zp; omega), xi_n _ (by unfold zp; omega)] at hj6
  refine z_iinc (v' := nI 2) (lv' := [(2, .int (nI 2)), (0, .ref (zad g (zp j 0))), (1, .ref (zad g (zp o 0)))]) 37 C dX4_join_37 (q := 0) rfl rfl (by decide) rfl ?_
  refine z_goto 40 C 13 dX4_join_40 (by decide) ?_
  refine z_iload_n 13 C dX4_join_13 rfl 0 rfl ?_
  refine z_aload_n 14 C dX4_join_14 rfl 1 rfl ?_
  refine z_getr 15 C (ref := "Countcote$Stream") (T := TX4) (N := 4) (ci := 4) (q := 1) (kR_careful hj) rfl hinX4 (by decide) rfl hw_f20 dX4_join_15 ?_
  refine z_qalen 18 C (kQ_careful hj) rfl dX4_join_18 ?_
  refine z_icmp_geN 19 C 43 dX4_join_19 (by decide) (by omega) (by omega) (fun h19 => absurd h19 (by omega)) (fun h19 => ?_)
  refine z_aload_n 22 C dX4_join_22 rfl 1 rfl ?_
  refine z_getr 23 C (ref := "Countcote$Stream") (T := TX4) (N := 4) (ci := 4) (q := 1) (kR_careful hj) rfl hinX4 (by decide) rfl hw_f20 dX4_join_23 ?_
  refine z_iload_n 26 C dX4_join_26 rfl 0 rfl ?_
  refine z_aald 27 C (kQ_careful hj) rfl (by omega) dX4_join_27 ?_
  refine z_aload_n 28 C dX4_join_28 rfl 2 rfl ?_
  refine z_getr 29 C (ref := "Countcote$Stream") (T := TX4) (N := 4) (ci := 4) (q := 1) (kR_careful ho) rfl hinX4 (by decide) rfl hw_f20 dX4_join_29 ?_
  refine z_iload_n 32 C dX4_join_32 rfl 0 rfl ?_
  refine z_aald 33 C (kQ_careful ho) rfl (by omega) dX4_join_33 ?_
  refine z_callVv 34 C (As := [.ref (zad g (zp o (4 + 2)))]) 1 (kO_cs hj (by omega)) rfl (c_X0_join l hg (xi (xi (xi x (zp j 2) f1) (zp j (7 + 0)) f3) (zp j (7 + 1)) f5) j o 2 hj ho hjo (by decide)) (cwV 1 C.1.2.2.2.2 gX4_join_X0_join rfl rfl rfl (by decide +kernel) ⟨Nat.le_of_ble_eq_true rfl, Nat.le_of_ble_eq_true rfl⟩) rfl rfl (Nat.le_of_ble_eq_true rfl) ⟨Nat.le_of_ble_eq_true rfl, Nat.le_of_ble_eq_true rfl⟩ dX4_join_34 (fun u hu => ?_)
  obtain ⟨f7, rfl, hj8⟩ := hu
  rw [xi_n _ (by unfold zp; omega), xi_n _ (by unfold zp; omega), xi_n _ (by unfold zp; omega), xi_n _ (by unfold zp; omega), xi_n _ (by unfold zp; omega), xi_n _ (by unfold zp; omega)] at hj8
  refine z_iinc (v' := nI 3) (lv' := [(2, .int (nI 3)), (0, .ref (zad g (zp j 0))), (1, .ref (zad g (zp o 0)))]) 37 C dX4_join_37 (q := 0) rfl rfl (by decide) rfl ?_
  refine z_goto 40 C 13 dX4_join_40 (by decide) ?_
  refine z_iload_n 13 C dX4_join_13 rfl 0 rfl ?_
  refine z_aload_n 14 C dX4_join_14 rfl 1 rfl ?_
  refine z_getr 15 C (ref := "Countcote$Stream") (T := TX4) (N := 4) (ci := 4) (q := 1) (kR_careful hj) rfl hinX4 (by decide) rfl hw_f20 dX4_join_15 ?_
  refine z_qalen 18 C (kQ_careful hj) rfl dX4_join_18 ?_
  refine z_icmp_geN 19 C 43 dX4_join_19 (by decide) (by omega) (by omega) (fun h19 => ?_) (fun h19 => absurd h19 (by omega))
  refine z_aload_n 43 C dX4_join_43 rfl 1 rfl ?_
  refine z_getr 44 C (ref := "Countcote$Stream") (T := TX4) (N := 4) (ci := 4) (q := 2) (kR_signed hj) rfl hinX4 (by decide) rfl hw_f27 dX4_join_44 ?_
  refine z_aload_n 47 C dX4_join_47 rfl 2 rfl ?_
  refine z_getr 48 C (ref := "Countcote$Stream") (T := TX4) (N := 4) (ci := 4) (q := 2) (kR_signed ho) rfl hinX4 (by decide) rfl hw_f27 dX4_join_48 ?_
  refine z_callVv 51 C (As := [.ref (zad g (zp o 10))]) 1 (kO_signed hj) rfl (c_X3_join l hg (xi (xi (xi (xi x (zp j 2) f1) (zp j (7 + 0)) f3) (zp j (7 + 1)) f5) (zp j (7 + 2)) f7) j o hj ho hjo) (cwV 1 C.1.2.2.2.2 gX4_join_X3_join rfl rfl rfl (by decide +kernel) ⟨Nat.le_of_ble_eq_true rfl, Nat.le_of_ble_eq_true rfl⟩) rfl rfl (Nat.le_of_ble_eq_true rfl) ⟨Nat.le_of_ble_eq_true rfl, Nat.le_of_ble_eq_true rfl⟩ dX4_join_51 (fun u hu => ?_)
  obtain ⟨f9, rfl, hj10⟩ := hu
  rw [xi_n _ (by unfold zp; omega), xi_n _ (by unfold zp; omega), xi_n _ (by unfold zp; omega), xi_n _ (by unfold zp; omega), xi_n _ (by unfold zp; omega), xi_n _ (by unfold zp; omega), xi_n _ (by unfold zp; omega), xi_n _ (by unfold zp; omega)] at hj10
  refine z_aload_n 54 C dX4_join_54 rfl 1 rfl ?_
  refine z_getr 55 C (ref := "Countcote$Stream") (T := TX4) (N := 4) (ci := 4) (q := 3) (kR_few hj) rfl hinX4 (by decide) rfl hw_f34 dX4_join_55 ?_
  refine z_aload_n 58 C dX4_join_58 rfl 2 rfl ?_
  refine z_getr 59 C (ref := "Countcote$Stream") (T := TX4) (N := 4) (ci := 4) (q := 3) (kR_few ho) rfl hinX4 (by decide) rfl hw_f34 dX4_join_59 ?_
  have q11 : (xi (xi (xi (xi (xi x (zp j 2) f1) (zp j (7 + 0)) f3) (zp j (7 + 1)) f5) (zp j (7 + 2)) f7) (zp j 11) f9).1 (zp o 13) = x.1 (zp o 13) := by rw [xi_n _ (by unfold zp; omega), xi_n _ (by unfold zp; omega), xi_n _ (by unfold zp; omega), xi_n _ (by unfold zp; omega), xi_n _ (by unfold zp; omega)]
  have q12 : (xi (xi (xi (xi (xi x (zp j 2) f1) (zp j (7 + 0)) f3) (zp j (7 + 1)) f5) (zp j (7 + 2)) f7) (zp j 11) f9).1 (zp o 14) = x.1 (zp o 14) := by rw [xi_n _ (by unfold zp; omega), xi_n _ (by unfold zp; omega), xi_n _ (by unfold zp; omega), xi_n _ (by unfold zp; omega), xi_n _ (by unfold zp; omega)]
  have q13 : (xi (xi (xi (xi (xi x (zp j 2) f1) (zp j (7 + 0)) f3) (zp j (7 + 1)) f5) (zp j (7 + 2)) f7) (zp j 11) f9).1 (zp o 15) = x.1 (zp o 15) := by rw [xi_n _ (by unfold zp; omega), xi_n _ (by unfold zp; omega), xi_n _ (by unfold zp; omega), xi_n _ (by unfold zp; omega), xi_n _ (by unfold zp; omega)]
  have q14 : (xi (xi (xi (xi (xi x (zp j 2) f1) (zp j (7 + 0)) f3) (zp j (7 + 1)) f5) (zp j (7 + 2)) f7) (zp j 11) f9).1 (zp j 13) = x.1 (zp j 13) := by rw [xi_n _ (by unfold zp; omega), xi_n _ (by unfold zp; omega), xi_n _ (by unfold zp; omega), xi_n _ (by unfold zp; omega), xi_n _ (by unfold zp; omega)]
  have q15 : (xi (xi (xi (xi (xi x (zp j 2) f1) (zp j (7 + 0)) f3) (zp j (7 + 1)) f5) (zp j (7 + 2)) f7) (zp j 11) f9).1 (zp j 14) = x.1 (zp j 14) := by rw [xi_n _ (by unfold zp; omega), xi_n _ (by unfold zp; omega), xi_n _ (by unfold zp; omega), xi_n _ (by unfold zp; omega), xi_n _ (by unfold zp; omega)]
  have q16 : (xi (xi (xi (xi (xi x (zp j 2) f1) (zp j (7 + 0)) f3) (zp j (7 + 1)) f5) (zp j (7 + 2)) f7) (zp j 11) f9).1 (zp j 15) = x.1 (zp j 15) := by rw [xi_n _ (by unfold zp; omega), xi_n _ (by unfold zp; omega), xi_n _ (by unfold zp; omega), xi_n _ (by unfold zp; omega), xi_n _ (by unfold zp; omega)]
  refine z_callVv 62 C (As := [.ref (zad g (zp o 13))]) 1 (kO_few hj) rfl (c_X1_join l hg (xi (xi (xi (xi (xi x (zp j 2) f1) (zp j (7 + 0)) f3) (zp j (7 + 1)) f5) (zp j (7 + 2)) f7) (zp j 11) f9) j o hj ho hjo L aw (by rw [q14, q15, q16]; exact hR.2.2.2.2.2) K ow (by rw [q11, q12, q13]; exact hO.2.2.2.2.2)) (cwV 1 C.1.2.2.2.2 gX4_join_X1_join rfl rfl rfl (by decide +kernel) ⟨Nat.le_of_ble_eq_true rfl, Nat.le_of_ble_eq_true rfl⟩) rfl rfl (Nat.le_of_ble_eq_true rfl) ⟨Nat.le_of_ble_eq_true rfl, Nat.le_of_ble_eq_true rfl⟩ dX4_join_62 (fun u hu => ?_)
  obtain ⟨h17, fi18, fw19, rfl, hF20⟩ := hu
  have h8h17 := hF20.2.2.1
  have w0 : (xi (xi (xi (xi (xi (xi (xi (xi x (zp j 2) f1) (zp j (7 + 0)) f3) (zp j (7 + 1)) f5) (zp j (7 + 2)) f7) (zp j 11) f9) (zp j 13) h17) (zp j 14) fi18) (zp j 15) fw19).1 (zp j 2) = f1 := (by rw [xi_n _ (by unfold zp; omega), xi_n _ (by unfold zp; omega), xi_n _ (by unfold zp; omega), xi_n _ (by unfold zp; omega), xi_n _ (by unfold zp; omega), xi_n _ (by unfold zp; omega), xi_n _ (by unfold zp; omega), xi_s])
  have w1 : (xi (xi (xi (xi (xi (xi (xi (xi x (zp j 2) f1) (zp j (7 + 0)) f3) (zp j (7 + 1)) f5) (zp j (7 + 2)) f7) (zp j 11) f9) (zp j 13) h17) (zp j 14) fi18) (zp j 15) fw19).1 (zp j (7 + 0)) = f3 := (by rw [xi_n _ (by unfold zp; omega), xi_n _ (by unfold zp; omega), xi_n _ (by unfold zp; omega), xi_n _ (by unfold zp; omega), xi_n _ (by unfold zp; omega), xi_n _ (by unfold zp; omega), xi_s])
  have w2 : (xi (xi (xi (xi (xi (xi (xi (xi x (zp j 2) f1) (zp j (7 + 0)) f3) (zp j (7 + 1)) f5) (zp j (7 + 2)) f7) (zp j 11) f9) (zp j 13) h17) (zp j 14) fi18) (zp j 15) fw19).1 (zp j (7 + 1)) = f5 := (by rw [xi_n _ (by unfold zp; omega), xi_n _ (by unfold zp; omega), xi_n _ (by unfold zp; omega), xi_n _ (by unfold zp; omega), xi_n _ (by unfold zp; omega), xi_s])
  have w3 : (xi (xi (xi (xi (xi (xi (xi (xi x (zp j 2) f1) (zp j (7 + 0)) f3) (zp j (7 + 1)) f5) (zp j (7 + 2)) f7) (zp j 11) f9) (zp j 13) h17) (zp j 14) fi18) (zp j 15) fw19).1 (zp j (7 + 2)) = f7 := (by rw [xi_n _ (by unfold zp; omega), xi_n _ (by unfold zp; omega), xi_n _ (by unfold zp; omega), xi_n _ (by unfold zp; omega), xi_s])
  have w4 : (xi (xi (xi (xi (xi (xi (xi (xi x (zp j 2) f1) (zp j (7 + 0)) f3) (zp j (7 + 1)) f5) (zp j (7 + 2)) f7) (zp j 11) f9) (zp j 13) h17) (zp j 14) fi18) (zp j 15) fw19).1 (zp j 11) = f9 := (by rw [xi_n _ (by unfold zp; omega), xi_n _ (by unfold zp; omega), xi_n _ (by unfold zp; omega), xi_s])
  have w5 : (xi (xi (xi (xi (xi (xi (xi (xi x (zp j 2) f1) (zp j (7 + 0)) f3) (zp j (7 + 1)) f5) (zp j (7 + 2)) f7) (zp j 11) f9) (zp j 13) h17) (zp j 14) fi18) (zp j 15) fw19).1 (zp j 13) = h17 := (by rw [xi_n _ (by unfold zp; omega), xi_n _ (by unfold zp; omega), xi_s])
  have w6 : (xi (xi (xi (xi (xi (xi (xi (xi x (zp j 2) f1) (zp j (7 + 0)) f3) (zp j (7 + 1)) f5) (zp j (7 + 2)) f7) (zp j 11) f9) (zp j 13) h17) (zp j 14) fi18) (zp j 15) fw19).1 (zp j 14) = fi18 := (by rw [xi_n _ (by unfold zp; omega), xi_s])
  have w7 : (xi (xi (xi (xi (xi (xi (xi (xi x (zp j 2) f1) (zp j (7 + 0)) f3) (zp j (7 + 1)) f5) (zp j (7 + 2)) f7) (zp j 11) f9) (zp j 13) h17) (zp j 14) fi18) (zp j 15) fw19).1 (zp j 15) = fw19 := (by rw [xi_s])
  exact z_vret 65 C hr ⟨(zOut_i (by decide) (zOut_i (by decide) (zOut_i (by decide) (zOut_i (by decide) (zOut_i (by decide) (zOut_i (by decide) (zOut_i (by decide) (zOut_i (by decide) zOut_rf)))))))), by rw [w0]; exact zTree_add hR.1 hO.1 hj2, by rw [w1]; exact fun q hq => by rw [hj4 q hq, hR.2.1 q hq, hO.2.1 q hq], by rw [w2]; exact fun q hq => by rw [hj6 q hq, hR.2.2.1 q hq, hO.2.2.1 q hq], by rw [w3]; exact fun q hq => by rw [hj8 q hq, hR.2.2.2.1 q hq, hO.2.2.2.1 q hq], by rw [w4]; exact fun q hq => by rw [hj10 q hq, hR.2.2.2.2.1 q hq, hO.2.2.2.2.1 q hq, zscell_add], by rw [w5, w6, w7]; exact hF20⟩ dX4_join_65
set_option maxHeartbeats 4000000 in
set_option maxRecDepth 100000 in
/-- X4_empty -/
theorem c_X4_empty (l : Launch) {g : zG} (hg : zOk g) (x : zT) (j : Nat) (hj : j < 4) : Met l yX4_empty wsX4_empty ({ frames := 2, cells := 0, slots := 0, locals := 43 }) (va_Pc [.ref (zad g (zp j 0))] (zPre g x)) (va_Qv (fun (u : zT) => zOut j x u ∧ zSR u j (fun _ => 0) (fun _ => 0) [] 0) (zB g) (zA g)) 0 0 (zA g) := by
  refine z_met (cc := cX4_empty) (nL := 2) (ret := none) hg (by decide) rfl (Nat.le_of_ble_eq_true rfl) ?_
  intro p_ e_ s_ m_ args_ below_ meth_ c_ C hr
  show Z p_ l e_ _ s_ m_ args_ below_ meth_ c_ g 2 0 0 _ x 0 [(0, .ref (zad g (zp j 0)))] []
  have hw_f12 := C.1.2.2.2.2 (.fieldLink RX4 12 "Countcote$Stream" "plain" "LCountcote$PlainCounts;") (by decide +kernel)
  have hinX4 : ∀ w ∈ wsX40, w ∈ wsX4_empty := by decide +kernel
  have hw_f20 := C.1.2.2.2.2 (.fieldLink RX4 20 "Countcote$Stream" "careful" "[LCountcote$CarefulSketch;") (by decide +kernel)
  have hw_f27 := C.1.2.2.2.2 (.fieldLink RX4 27 "Countcote$Stream" "signed" "LCountcote$SignedSketch;") (by decide +kernel)
  have hw_f34 := C.1.2.2.2.2 (.fieldLink RX4 34 "Countcote$Stream" "few" "LCountcote$FewCounters;") (by decide +kernel)
  refine z_aload_n 0 C dX4_empty_0 rfl 0 rfl ?_
  refine z_getr 1 C (ref := "Countcote$Stream") (T := TX4) (N := 4) (ci := 4) (q := 0) (kR_plain hj) rfl hinX4 (by decide) rfl hw_f12 dX4_empty_1 ?_
  refine z_callVv 4 C (As := []) 0 (kO_plain hj) rfl (c_X2_empty l hg x j hj) (cwV 0 C.1.2.2.2.2 gX4_empty_X2_empty rfl rfl rfl (by decide +kernel) ⟨Nat.le_of_ble_eq_true rfl, Nat.le_of_ble_eq_true rfl⟩) rfl rfl (Nat.le_of_ble_eq_true rfl) ⟨Nat.le_of_ble_eq_true rfl, Nat.le_of_ble_eq_true rfl⟩ dX4_empty_4 (fun u hu => ?_)
  obtain ⟨f1, rfl, hj2⟩ := hu
  refine z_iconst (v := nI 0) 7 C dX4_empty_7 rfl ?_
  refine z_istore_n (lv' := [(1, .int (nI 0)), (0, .ref (zad g (zp j 0)))]) 8 C dX4_empty_8 rfl (by decide) rfl ?_
  refine z_iload_n 9 C dX4_empty_9 rfl 0 rfl ?_
  refine z_aload_n 10 C dX4_empty_10 rfl 1 rfl ?_
  refine z_getr 11 C (ref := "Countcote$Stream") (T := TX4) (N := 4) (ci := 4) (q := 1) (kR_careful hj) rfl hinX4 (by decide) rfl hw_f20 dX4_empty_11 ?_
  refine z_qalen 14 C (kQ_careful hj) rfl dX4_empty_14 ?_
  refine z_icmp_geN 15 C 33 dX4_empty_15 (by decide) (by omega) (by omega) (fun h15 => absurd h15 (by omega)) (fun h15 => ?_)
  refine z_aload_n 18 C dX4_empty_18 rfl 1 rfl ?_
  refine z_getr 19 C (ref := "Countcote$Stream") (T := TX4) (N := 4) (ci := 4) (q := 1) (kR_careful hj) rfl hinX4 (by decide) rfl hw_f20 dX4_empty_19 ?_
  refine z_iload_n 22 C dX4_empty_22 rfl 0 rfl ?_
  refine z_aald 23 C (kQ_careful hj) rfl (by omega) dX4_empty_23 ?_
  refine z_callVv 24 C (As := []) 0 (kO_cs hj (by omega)) rfl (c_X0_empty l hg (xi x (zp j 2) f1) j 0 hj (by decide)) (cwV 0 C.1.2.2.2.2 gX4_empty_X0_empty rfl rfl rfl (by decide +kernel) ⟨Nat.le_of_ble_eq_true rfl, Nat.le_of_ble_eq_true rfl⟩) rfl rfl (Nat.le_of_ble_eq_true rfl) ⟨Nat.le_of_ble_eq_true rfl, Nat.le_of_ble_eq_true rfl⟩ dX4_empty_24 (fun u hu => ?_)
  obtain ⟨f3, rfl, hj4⟩ := hu
  refine z_iinc (v' := nI 1) (lv' := [(1, .int (nI 1)), (0, .ref (zad g (zp j 0)))]) 27 C dX4_empty_27 (q := 0) rfl rfl (by decide) rfl ?_
  refine z_goto 30 C 9 dX4_empty_30 (by decide) ?_
  refine z_iload_n 9 C dX4_empty_9 rfl 0 rfl ?_
  refine z_aload_n 10 C dX4_empty_10 rfl 1 rfl ?_
  refine z_getr 11 C (ref := "Countcote$Stream") (T := TX4) (N := 4) (ci := 4) (q := 1) (kR_careful hj) rfl hinX4 (by decide) rfl hw_f20 dX4_empty_11 ?_
  refine z_qalen 14 C (kQ_careful hj) rfl dX4_empty_14 ?_
  refine z_icmp_geN 15 C 33 dX4_empty_15 (by decide) (by omega) (by omega) (fun h15 => absurd h15 (by omega)) (fun h15 => ?_)
  refine z_aload_n 18 C dX4_empty_18 rfl 1 rfl ?_
  refine z_getr 19 C (ref := "Countcote$Stream") (T := TX4) (N := 4) (ci := 4) (q := 1) (kR_careful hj) rfl hinX4 (by decide) rfl hw_f20 dX4_empty_19 ?_
  refine z_iload_n 22 C dX4_empty_22 rfl 0 rfl ?_
  refine z_aald 23 C (kQ_careful hj) rfl (by omega) dX4_empty_23 ?_
  refine z_callVv 24 C (As := []) 0 (kO_cs hj (by omega)) rfl (c_X0_empty l hg (xi (xi x (zp j 2) f1) (zp j (7 + 0)) f3) j 1 hj (by decide)) (cwV 0 C.1.2.2.2.2 gX4_empty_X0_empty rfl rfl rfl (by decide +kernel) ⟨Nat.le_of_ble_eq_true rfl, Nat.le_of_ble_eq_true rfl⟩) rfl rfl (Nat.le_of_ble_eq_true rfl) ⟨Nat.le_of_ble_eq_true rfl, Nat.le_of_ble_eq_true rfl⟩ dX4_empty_24 (fun u hu => ?_)
  obtain ⟨f5, rfl, hj6⟩ := hu
  refine z_iinc (v' := nI 2) (lv' := [(1, .int (nI 2)), (0, .ref (zad g (zp j 0)))]) 27 C dX4_empty_27 (q := 0) rfl rfl (by decide) rfl ?_
  refine z_goto 30 C 9 dX4_empty_30 (by decide) ?_
  refine z_iload_n 9 C dX4_empty_9 rfl 0 rfl ?_
  refine z_aload_n 10 C dX4_empty_10 rfl 1 rfl ?_
  refine z_getr 11 C (ref := "Countcote$Stream") (T := TX4) (N := 4) (ci := 4) (q := 1) (kR_careful hj) rfl hinX4 (by decide) rfl hw_f20 dX4_empty_11 ?_
  refine z_qalen 14 C (kQ_careful hj) rfl dX4_empty_14 ?_
  refine z_icmp_geN 15 C 33 dX4_empty_15 (by decide) (by omega) (by omega) (fun h15 => absurd h15 (by omega)) (fun h15 => ?_)
  refine z_aload_n 18 C dX4_empty_18 rfl 1 rfl ?_
  refine z_getr 19 C (ref := "Countcote$Stream") (T := TX4) (N := 4) (ci := 4) (q := 1) (kR_careful hj) rfl hinX4 (by decide) rfl hw_f20 dX4_empty_19 ?_
  refine z_iload_n 22 C dX4_empty_22 rfl 0 rfl ?_
  refine z_aald 23 C (kQ_careful hj) rfl (by omega) dX4_empty_23 ?_
  refine z_callVv 24 C (As := []) 0 (kO_cs hj (by omega)) rfl (c_X0_empty l hg (xi (xi (xi x (zp j 2) f1) (zp j (7 + 0)) f3) (zp j (7 + 1)) f5) j 2 hj (by decide)) (cwV 0 C.1.2.2.2.2 gX4_empty_X0_empty rfl rfl rfl (by decide +kernel) ⟨Nat.le_of_ble_eq_true rfl, Nat.le_of_ble_eq_true rfl⟩) rfl rfl (Nat.le_of_ble_eq_true rfl) ⟨Nat.le_of_ble_eq_true rfl, Nat.le_of_ble_eq_true rfl⟩ dX4_empty_24 (fun u hu => ?_)
  obtain ⟨f7, rfl, hj8⟩ := hu
  refine z_iinc (v' := nI 3) (lv' := [(1, .int (nI 3)), (0, .ref (zad g (zp j 0)))]) 27 C dX4_empty_27 (q := 0) rfl rfl (by decide) rfl ?_
  refine z_goto 30 C 9 dX4_empty_30 (by decide) ?_
  refine z_iload_n 9 C dX4_empty_9 rfl 0 rfl ?_
  refine z_aload_n 10 C dX4_empty_10 rfl 1 rfl ?_
  refine z_getr 11 C (ref := "Countcote$Stream") (T := TX4) (N := 4) (ci := 4) (q := 1) (kR_careful hj) rfl hinX4 (by decide) rfl hw_f20 dX4_empty_11 ?_
  refine z_qalen 14 C (kQ_careful hj) rfl dX4_empty_14 ?_
  refine z_icmp_geN 15 C 33 dX4_empty_15 (by decide) (by omega) (by omega) (fun h15 => ?_) (fun h15 => absurd h15 (by omega))
  refine z_aload_n 33 C dX4_empty_33 rfl 1 rfl ?_
  refine z_getr 34 C (ref := "Countcote$Stream") (T := TX4) (N := 4) (ci := 4) (q := 2) (kR_signed hj) rfl hinX4 (by decide) rfl hw_f27 dX4_empty_34 ?_
  refine z_callVv 37 C (As := []) 0 (kO_signed hj) rfl (c_X3_empty l hg (xi (xi (xi (xi x (zp j 2) f1) (zp j (7 + 0)) f3) (zp j (7 + 1)) f5) (zp j (7 + 2)) f7) j hj) (cwV 0 C.1.2.2.2.2 gX4_empty_X3_empty rfl rfl rfl (by decide +kernel) ⟨Nat.le_of_ble_eq_true rfl, Nat.le_of_ble_eq_true rfl⟩) rfl rfl (Nat.le_of_ble_eq_true rfl) ⟨Nat.le_of_ble_eq_true rfl, Nat.le_of_ble_eq_true rfl⟩ dX4_empty_37 (fun u hu => ?_)
  obtain ⟨f9, rfl, hj10⟩ := hu
  refine z_aload_n 40 C dX4_empty_40 rfl 1 rfl ?_
  refine z_getr 41 C (ref := "Countcote$Stream") (T := TX4) (N := 4) (ci := 4) (q := 3) (kR_few hj) rfl hinX4 (by decide) rfl hw_f34 dX4_empty_41 ?_
  have q11 : (xi (xi (xi (xi (xi x (zp j 2) f1) (zp j (7 + 0)) f3) (zp j (7 + 1)) f5) (zp j (7 + 2)) f7) (zp j 11) f9).1 (zp j 13) = x.1 (zp j 13) := by rw [xi_n _ (by unfold zp; omega), xi_n _ (by unfold zp; omega), xi_n _ (by unfold zp; omega), xi_n _ (by unfold zp; omega), xi_n _ (by unfold zp; omega)]
  have q12 : (xi (xi (xi (xi (xi x (zp j 2) f1) (zp j (7 + 0)) f3) (zp j (7 + 1)) f5) (zp j (7 + 2)) f7) (zp j 11) f9).1 (zp j 14) = x.1 (zp j 14) := by rw [xi_n _ (by unfold zp; omega), xi_n _ (by unfold zp; omega), xi_n _ (by unfold zp; omega), xi_n _ (by unfold zp; omega), xi_n _ (by unfold zp; omega)]
  have q13 : (xi (xi (xi (xi (xi x (zp j 2) f1) (zp j (7 + 0)) f3) (zp j (7 + 1)) f5) (zp j (7 + 2)) f7) (zp j 11) f9).1 (zp j 15) = x.1 (zp j 15) := by rw [xi_n _ (by unfold zp; omega), xi_n _ (by unfold zp; omega), xi_n _ (by unfold zp; omega), xi_n _ (by unfold zp; omega), xi_n _ (by unfold zp; omega)]
  refine z_callVv 44 C (As := []) 0 (kO_few hj) rfl (c_X1_empty l hg (xi (xi (xi (xi (xi x (zp j 2) f1) (zp j (7 + 0)) f3) (zp j (7 + 1)) f5) (zp j (7 + 2)) f7) (zp j 11) f9) j hj) (cwV 0 C.1.2.2.2.2 gX4_empty_X1_empty rfl rfl rfl (by decide +kernel) ⟨Nat.le_of_ble_eq_true rfl, Nat.le_of_ble_eq_true rfl⟩) rfl rfl (Nat.le_of_ble_eq_true rfl) ⟨Nat.le_of_ble_eq_true rfl, Nat.le_of_ble_eq_true rfl⟩ dX4_empty_44 (fun u hu => ?_)
  obtain ⟨h14, fi15, fw16, rfl, hF17⟩ := hu
  have h8h14 := hF17.2.2.1
  have w0 : (xi (xi (xi (xi (xi (xi (xi (xi x (zp j 2) f1) (zp j (7 + 0)) f3) (zp j (7 + 1)) f5) (zp j (7 + 2)) f7) (zp j 11) f9) (zp j 13) h14) (zp j 14) fi15) (zp j 15) fw16).1 (zp j 2) = f1 := (by rw [xi_n _ (by unfold zp; omega), xi_n _ (by unfold zp; omega), xi_n _ (by unfold zp; omega), xi_n _ (by unfold zp; omega), xi_n _ (by unfold zp; omega), xi_n _ (by unfold zp; omega), xi_n _ (by unfold zp; omega), xi_s])
  have w1 : (xi (xi (xi (xi (xi (xi (xi (xi x (zp j 2) f1) (zp j (7 + 0)) f3) (zp j (7 + 1)) f5) (zp j (7 + 2)) f7) (zp j 11) f9) (zp j 13) h14) (zp j 14) fi15) (zp j 15) fw16).1 (zp j (7 + 0)) = f3 := (by rw [xi_n _ (by unfold zp; omega), xi_n _ (by unfold zp; omega), xi_n _ (by unfold zp; omega), xi_n _ (by unfold zp; omega), xi_n _ (by unfold zp; omega), xi_n _ (by unfold zp; omega), xi_s])
  have w2 : (xi (xi (xi (xi (xi (xi (xi (xi x (zp j 2) f1) (zp j (7 + 0)) f3) (zp j (7 + 1)) f5) (zp j (7 + 2)) f7) (zp j 11) f9) (zp j 13) h14) (zp j 14) fi15) (zp j 15) fw16).1 (zp j (7 + 1)) = f5 := (by rw [xi_n _ (by unfold zp; omega), xi_n _ (by unfold zp; omega), xi_n _ (by unfold zp; omega), xi_n _ (by unfold zp; omega), xi_n _ (by unfold zp; omega), xi_s])
  have w3 : (xi (xi (xi (xi (xi (xi (xi (xi x (zp j 2) f1) (zp j (7 + 0)) f3) (zp j (7 + 1)) f5) (zp j (7 + 2)) f7) (zp j 11) f9) (zp j 13) h14) (zp j 14) fi15) (zp j 15) fw16).1 (zp j (7 + 2)) = f7 := (by rw [xi_n _ (by unfold zp; omega), xi_n _ (by unfold zp; omega), xi_n _ (by unfold zp; omega), xi_n _ (by unfold zp; omega), xi_s])
  have w4 : (xi (xi (xi (xi (xi (xi (xi (xi x (zp j 2) f1) (zp j (7 + 0)) f3) (zp j (7 + 1)) f5) (zp j (7 + 2)) f7) (zp j 11) f9) (zp j 13) h14) (zp j 14) fi15) (zp j 15) fw16).1 (zp j 11) = f9 := (by rw [xi_n _ (by unfold zp; omega), xi_n _ (by unfold zp; omega), xi_n _ (by unfold zp; omega), xi_s])
  have w5 : (xi (xi (xi (xi (xi (xi (xi (xi x (zp j 2) f1) (zp j (7 + 0)) f3) (zp j (7 + 1)) f5) (zp j (7 + 2)) f7) (zp j 11) f9) (zp j 13) h14) (zp j 14) fi15) (zp j 15) fw16).1 (zp j 13) = h14 := (by rw [xi_n _ (by unfold zp; omega), xi_n _ (by unfold zp; omega), xi_s])
  have w6 : (xi (xi (xi (xi (xi (xi (xi (xi x (zp j 2) f1) (zp j (7 + 0)) f3) (zp j (7 + 1)) f5) (zp j (7 + 2)) f7) (zp j 11) f9) (zp j 13) h14) (zp j 14) fi15) (zp j 15) fw16).1 (zp j 14) = fi15 := (by rw [xi_n _ (by unfold zp; omega), xi_s])
  have w7 : (xi (xi (xi (xi (xi (xi (xi (xi x (zp j 2) f1) (zp j (7 + 0)) f3) (zp j (7 + 1)) f5) (zp j (7 + 2)) f7) (zp j 11) f9) (zp j 13) h14) (zp j 14) fi15) (zp j 15) fw16).1 (zp j 15) = fw16 := (by rw [xi_s])
  exact z_vret 47 C hr ⟨(zOut_i (by decide) (zOut_i (by decide) (zOut_i (by decide) (zOut_i (by decide) (zOut_i (by decide) (zOut_i (by decide) (zOut_i (by decide) (zOut_i (by decide) zOut_rf)))))))), by rw [w0]; exact zTree_0 hj2, by rw [w1]; exact hj4, by rw [w2]; exact hj6, by rw [w3]; exact hj8, by rw [w4]; exact fun q hq => by rw [hj10 q hq, zscell_0], by rw [w5, w6, w7]; exact hF17⟩ dX4_empty_47
set_option maxHeartbeats 4000000 in
set_option maxRecDepth 100000 in
/-- X4_estimateOf -/
theorem c_X4_estimateOf (l : Launch) {g : zG} (hg : zOk g) (x : zT) (j : Nat) (hj : j < 4) (c d : Nat → Int32) (L : zCL) (aw : Int32) (hR : zSR x j c d L aw) (lev half : Nat) (hlev : lev ≤ 6) (hhalf : half < 64 / 2 ^ lev) : Met l yX4_estimateOf wsX4_estimateOf ({ frames := 3, cells := 0, slots := 0, locals := 65 }) (va_Pc [.ref (zad g (zp j 0)), .int (nI lev), .int (nI half)] (zPre g x)) (va_Qi (fun (r : Int32) (u : zT) => u = x ∧ r = zest c d lev half) (zB g) (zA g)) 0 0 (zA g) := by
  refine z_met (cc := cX4_estimateOf) (nL := 3) (ret := (some .int)) hg (by decide) rfl (Nat.le_of_ble_eq_true rfl) ?_
  intro p_ e_ s_ m_ args_ below_ meth_ c_ C hr
  show Z p_ l e_ _ s_ m_ args_ below_ meth_ c_ g 3 0 0 _ x 0 [(0, .ref (zad g (zp j 0))), (1, .int (nI lev)), (2, .int (nI half))] []
  have hw_f20 := C.1.2.2.2.2 (.fieldLink RX4 20 "Countcote$Stream" "careful" "[LCountcote$CarefulSketch;") (by decide +kernel)
  have hinX4 : ∀ w ∈ wsX40, w ∈ wsX4_estimateOf := by decide +kernel
  have hw_f12 := C.1.2.2.2.2 (.fieldLink RX4 12 "Countcote$Stream" "plain" "LCountcote$PlainCounts;") (by decide +kernel)
  have hh64 : half < 64 := Nat.lt_of_lt_of_le hhalf (Nat.div_le_self _ _)
  refine z_iload_n 0 C dX4_estimateOf_0 rfl 1 rfl ?_
  refine z_aload_n 1 C dX4_estimateOf_1 rfl 0 rfl ?_
  refine z_getr 2 C (ref := "Countcote$Stream") (T := TX4) (N := 4) (ci := 4) (q := 1) (kR_careful hj) rfl hinX4 (by decide) rfl hw_f20 dX4_estimateOf_2 ?_
  refine z_qalen 5 C (kQ_careful hj) rfl dX4_estimateOf_5 ?_
  refine z_icmp_geN 6 C 20 dX4_estimateOf_6 (by decide) (by omega) (by omega) (fun h6 => ?_) (fun h6 => ?_)
  · refine z_aload_n 20 C dX4_estimateOf_20 rfl 0 rfl ?_
    refine z_getr 21 C (ref := "Countcote$Stream") (T := TX4) (N := 4) (ci := 4) (q := 0) (kR_plain hj) rfl hinX4 (by decide) rfl hw_f12 dX4_estimateOf_21 ?_
    refine z_iload_n 24 C dX4_estimateOf_24 rfl 1 rfl ?_
    refine z_iload_n 25 C dX4_estimateOf_25 rfl 2 rfl ?_
    refine z_callVi 26 C (As := [.int (nI lev), .int (nI half)]) 2 (kO_plain hj) rfl (c_X2_ofHalf l hg x j hj lev half hlev hhalf) (cwV 2 C.1.2.2.2.2 gX4_estimateOf_X2_ofHalf rfl rfl rfl (by decide +kernel) ⟨Nat.le_of_ble_eq_true rfl, Nat.le_of_ble_eq_true rfl⟩) rfl rfl (Nat.le_of_ble_eq_true rfl) ⟨Nat.le_of_ble_eq_true rfl, Nat.le_of_ble_eq_true rfl⟩ dX4_estimateOf_26 (fun r u hu => ?_)
    obtain ⟨hu1, hu2⟩ := hu
    subst u
    subst r
    exact z_iret 29 C hr ⟨rfl, zSR_est2 hR (by omega) hlev hhalf⟩ dX4_estimateOf_29
  · refine z_aload_n 9 C dX4_estimateOf_9 rfl 0 rfl ?_
    refine z_getr 10 C (ref := "Countcote$Stream") (T := TX4) (N := 4) (ci := 4) (q := 1) (kR_careful hj) rfl hinX4 (by decide) rfl hw_f20 dX4_estimateOf_10 ?_
    refine z_iload_n 13 C dX4_estimateOf_13 rfl 1 rfl ?_
    refine z_aald 14 C (kQ_careful hj) rfl (by omega) dX4_estimateOf_14 ?_
    refine z_iload_n 15 C dX4_estimateOf_15 rfl 2 rfl ?_
    refine z_callVi 16 C (As := [.int (nI half)]) 1 (kO_cs hj h6) rfl (c_X0_leastOf l hg x j lev hj h6 half hh64) (cwV 1 C.1.2.2.2.2 gX4_estimateOf_X0_leastOf rfl rfl rfl (by decide +kernel) ⟨Nat.le_of_ble_eq_true rfl, Nat.le_of_ble_eq_true rfl⟩) rfl rfl (Nat.le_of_ble_eq_true rfl) ⟨Nat.le_of_ble_eq_true rfl, Nat.le_of_ble_eq_true rfl⟩ dX4_estimateOf_16 (fun r u hu => ?_)
    obtain ⟨hu1, hu2⟩ := hu
    subst u
    subst r
    exact z_iret 19 C hr ⟨rfl, zSR_est hR h6⟩ dX4_estimateOf_19
set_option maxHeartbeats 4000000 in
set_option maxRecDepth 100000 in
/-- X4_reaches -/
theorem c_X4_reaches (l : Launch) {g : zG} (hg : zOk g) (x : zT) (j : Nat) (hj : j < 4) (c d : Nat → Int32) (L : zCL) (aw : Int32) (hR : zSR x j c d L aw) (item : Nat) (hitem : item < 64) (least : Int32) : Met l yX4_reaches wsX4_reaches ({ frames := 4, cells := 0, slots := 0, locals := 87 }) (va_Pc [.ref (zad g (zp j 0)), .int (nI item), .int least] (zPre g x)) (va_Qi (fun (r : Int32) (u : zT) => u = x ∧ ((r = nI 1 ∧ zfreq c d item least) ∨ (r = nI 0 ∧ ¬ zfreq c d item least))) (zB g) (zA g)) 0 0 (zA g) := by
  refine z_met (cc := cX4_reaches) (nL := 4) (ret := (some .boolean)) hg (by decide) rfl (Nat.le_of_ble_eq_true rfl) ?_
  intro p_ e_ s_ m_ args_ below_ meth_ c_ C hr
  show Z p_ l e_ _ s_ m_ args_ below_ meth_ c_ g 4 0 0 _ x 0 [(0, .ref (zad g (zp j 0))), (1, .int (nI item)), (2, .int least)] []
  refine z_bipush (v := nI 6) 0 C dX4_reaches_0 rfl ?_
  refine z_istore_n (lv' := [(3, .int (nI 6)), (0, .ref (zad g (zp j 0))), (1, .int (nI item)), (2, .int least)]) 2 C dX4_reaches_2 rfl (by decide) rfl ?_
  refine z_iload_n 3 C dX4_reaches_3 rfl 0 rfl ?_
  refine z_if_ltN 4 C 27 dX4_reaches_4 (by decide) (by omega) (fun h4 => absurd h4 (by omega)) (fun h4 => ?_)
  refine z_aload_n 7 C dX4_reaches_7 rfl 1 rfl ?_
  refine z_iload_n 8 C dX4_reaches_8 rfl 0 rfl ?_
  refine z_iload_n 9 C dX4_reaches_9 rfl 2 rfl ?_
  refine z_iload_n 10 C dX4_reaches_10 rfl 0 rfl ?_
  refine z_ishr (v := nI (item / 2 ^ 6)) 11 C dX4_reaches_11 (zn_shr item 6 (by omega) (by omega)) ?_
  refine z_callVi 12 C (As := [.int (nI 6), .int (nI (item / 2 ^ 6))]) 2 (kO_stream hj) rfl (c_X4_estimateOf l hg x j hj c d L aw hR 6 (item / 2 ^ 6) (by decide) (zhalf_lt hitem (by decide))) (cwV 2 C.1.2.2.2.2 gX4_reaches_X4_estimateOf rfl rfl rfl (by decide +kernel) ⟨Nat.le_of_ble_eq_true rfl, Nat.le_of_ble_eq_true rfl⟩) rfl rfl (Nat.le_of_ble_eq_true rfl) ⟨Nat.le_of_ble_eq_true rfl, Nat.le_of_ble_eq_true rfl⟩ dX4_reaches_12 (fun r u hu => ?_)
  obtain ⟨hu1, hu2⟩ := hu
  subst u
  obtain ⟨v1, ev1⟩ : ∃ y : Int32, y = zest c d 6 (item / 2 ^ 6) := ⟨_, rfl⟩
  rw [← ev1] at hu2
  subst r
  refine z_iload_n 15 C dX4_reaches_15 rfl 3 rfl ?_
  refine z_icmp_ge 16 C 21 dX4_reaches_16 (by decide) (fun h16 => ?_) (fun h16 => ?_)
  · have hz6 := h16
    rw [ev1] at hz6
    refine z_iinc (v' := nI 5) (lv' := [(3, .int (nI 5)), (0, .ref (zad g (zp j 0))), (1, .int (nI item)), (2, .int least)]) 21 C dX4_reaches_21 (q := 0) rfl rfl (by decide) rfl ?_
    refine z_goto 24 C 3 dX4_reaches_24 (by decide) ?_
    refine z_iload_n 3 C dX4_reaches_3 rfl 0 rfl ?_
    refine z_if_ltN 4 C 27 dX4_reaches_4 (by decide) (by omega) (fun h4 => absurd h4 (by omega)) (fun h4 => ?_)
    refine z_aload_n 7 C dX4_reaches_7 rfl 1 rfl ?_
    refine z_iload_n 8 C dX4_reaches_8 rfl 0 rfl ?_
    refine z_iload_n 9 C dX4_reaches_9 rfl 2 rfl ?_
    refine z_iload_n 10 C dX4_reaches_10 rfl 0 rfl ?_
    refine z_ishr (v := nI (item / 2 ^ 5)) 11 C dX4_reaches_11 (zn_shr item 5 (by omega) (by omega)) ?_
    refine z_callVi 12 C (As := [.int (nI 5), .int (nI (item / 2 ^ 5))]) 2 (kO_stream hj) rfl (c_X4_estimateOf l hg x j hj c d L aw hR 5 (item / 2 ^ 5) (by decide) (zhalf_lt hitem (by decide))) (cwV 2 C.1.2.2.2.2 gX4_reaches_X4_estimateOf rfl rfl rfl (by decide +kernel) ⟨Nat.le_of_ble_eq_true rfl, Nat.le_of_ble_eq_true rfl⟩) rfl rfl (Nat.le_of_ble_eq_true rfl) ⟨Nat.le_of_ble_eq_true rfl, Nat.le_of_ble_eq_true rfl⟩ dX4_reaches_12 (fun r u hu => ?_)
    obtain ⟨hu1, hu2⟩ := hu
    subst u
    obtain ⟨v2, ev2⟩ : ∃ y : Int32, y = zest c d 5 (item / 2 ^ 5) := ⟨_, rfl⟩
    rw [← ev2] at hu2
    subst r
    refine z_iload_n 15 C dX4_reaches_15 rfl 3 rfl ?_
    refine z_icmp_ge 16 C 21 dX4_reaches_16 (by decide) (fun h16 => ?_) (fun h16 => ?_)
    · have hz5 := h16
      rw [ev2] at hz5
      refine z_iinc (v' := nI 4) (lv' := [(3, .int (nI 4)), (0, .ref (zad g (zp j 0))), (1, .int (nI item)), (2, .int least)]) 21 C dX4_reaches_21 (q := 0) rfl rfl (by decide) rfl ?_
      refine z_goto 24 C 3 dX4_reaches_24 (by decide) ?_
      refine z_iload_n 3 C dX4_reaches_3 rfl 0 rfl ?_
      refine z_if_ltN 4 C 27 dX4_reaches_4 (by decide) (by omega) (fun h4 => absurd h4 (by omega)) (fun h4 => ?_)
      refine z_aload_n 7 C dX4_reaches_7 rfl 1 rfl ?_
      refine z_iload_n 8 C dX4_reaches_8 rfl 0 rfl ?_
      refine z_iload_n 9 C dX4_reaches_9 rfl 2 rfl ?_
      refine z_iload_n 10 C dX4_reaches_10 rfl 0 rfl ?_
      refine z_ishr (v := nI (item / 2 ^ 4)) 11 C dX4_reaches_11 (zn_shr item 4 (by omega) (by omega)) ?_
      refine z_callVi 12 C (As := [.int (nI 4), .int (nI (item / 2 ^ 4))]) 2 (kO_stream hj) rfl (c_X4_estimateOf l hg x j hj c d L aw hR 4 (item / 2 ^ 4) (by decide) (zhalf_lt hitem (by decide))) (cwV 2 C.1.2.2.2.2 gX4_reaches_X4_estimateOf rfl rfl rfl (by decide +kernel) ⟨Nat.le_of_ble_eq_true rfl, Nat.le_of_ble_eq_true rfl⟩) rfl rfl (Nat.le_of_ble_eq_true rfl) ⟨Nat.le_of_ble_eq_true rfl, Nat.le_of_ble_eq_true rfl⟩ dX4_reaches_12 (fun r u hu => ?_)
      obtain ⟨hu1, hu2⟩ := hu
      subst u
      obtain ⟨v3, ev3⟩ : ∃ y : Int32, y = zest c d 4 (item / 2 ^ 4) := ⟨_, rfl⟩
      rw [← ev3] at hu2
      subst r
      refine z_iload_n 15 C dX4_reaches_15 rfl 3 rfl ?_
      refine z_icmp_ge 16 C 21 dX4_reaches_16 (by decide) (fun h16 => ?_) (fun h16 => ?_)
      · have hz4 := h16
        rw [ev3] at hz4
        refine z_iinc (v' := nI 3) (lv' := [(3, .int (nI 3)), (0, .ref (zad g (zp j 0))), (1, .int (nI item)), (2, .int least)]) 21 C dX4_reaches_21 (q := 0) rfl rfl (by decide) rfl ?_
        refine z_goto 24 C 3 dX4_reaches_24 (by decide) ?_
        refine z_iload_n 3 C dX4_reaches_3 rfl 0 rfl ?_
        refine z_if_ltN 4 C 27 dX4_reaches_4 (by decide) (by omega) (fun h4 => absurd h4 (by omega)) (fun h4 => ?_)
        refine z_aload_n 7 C dX4_reaches_7 rfl 1 rfl ?_
        refine z_iload_n 8 C dX4_reaches_8 rfl 0 rfl ?_
        refine z_iload_n 9 C dX4_reaches_9 rfl 2 rfl ?_
        refine z_iload_n 10 C dX4_reaches_10 rfl 0 rfl ?_
        refine z_ishr (v := nI (item / 2 ^ 3)) 11 C dX4_reaches_11 (zn_shr item 3 (by omega) (by omega)) ?_
        refine z_callVi 12 C (As := [.int (nI 3), .int (nI (item / 2 ^ 3))]) 2 (kO_stream hj) rfl (c_X4_estimateOf l hg x j hj c d L aw hR 3 (item / 2 ^ 3) (by decide) (zhalf_lt hitem (by decide))) (cwV 2 C.1.2.2.2.2 gX4_reaches_X4_estimateOf rfl rfl rfl (by decide +kernel) ⟨Nat.le_of_ble_eq_true rfl, Nat.le_of_ble_eq_true rfl⟩) rfl rfl (Nat.le_of_ble_eq_true rfl) ⟨Nat.le_of_ble_eq_true rfl, Nat.le_of_ble_eq_true rfl⟩ dX4_reaches_12 (fun r u hu => ?_)
        obtain ⟨hu1, hu2⟩ := hu
        subst u
        obtain ⟨v4, ev4⟩ : ∃ y : Int32, y = zest c d 3 (item / 2 ^ 3) := ⟨_, rfl⟩
        rw [← ev4] at hu2
        subst r
        refine z_iload_n 15 C dX4_reaches_15 rfl 3 rfl ?_
        refine z_icmp_ge 16 C 21 dX4_reaches_16 (by decide) (fun h16 => ?_) (fun h16 => ?_)
        · have hz3 := h16
          rw [ev4] at hz3
          refine z_iinc (v' := nI 2) (lv' := [(3, .int (nI 2)), (0, .ref (zad g (zp j 0))), (1, .int (nI item)), (2, .int least)]) 21 C dX4_reaches_21 (q := 0) rfl rfl (by decide) rfl ?_
          refine z_goto 24 C 3 dX4_reaches_24 (by decide) ?_
          refine z_iload_n 3 C dX4_reaches_3 rfl 0 rfl ?_
          refine z_if_ltN 4 C 27 dX4_reaches_4 (by decide) (by omega) (fun h4 => absurd h4 (by omega)) (fun h4 => ?_)
          refine z_aload_n 7 C dX4_reaches_7 rfl 1 rfl ?_
          refine z_iload_n 8 C dX4_reaches_8 rfl 0 rfl ?_
          refine z_iload_n 9 C dX4_reaches_9 rfl 2 rfl ?_
          refine z_iload_n 10 C dX4_reaches_10 rfl 0 rfl ?_
          refine z_ishr (v := nI (item / 2 ^ 2)) 11 C dX4_reaches_11 (zn_shr item 2 (by omega) (by omega)) ?_
          refine z_callVi 12 C (As := [.int (nI 2), .int (nI (item / 2 ^ 2))]) 2 (kO_stream hj) rfl (c_X4_estimateOf l hg x j hj c d L aw hR 2 (item / 2 ^ 2) (by decide) (zhalf_lt hitem (by decide))) (cwV 2 C.1.2.2.2.2 gX4_reaches_X4_estimateOf rfl rfl rfl (by decide +kernel) ⟨Nat.le_of_ble_eq_true rfl, Nat.le_of_ble_eq_true rfl⟩) rfl rfl (Nat.le_of_ble_eq_true rfl) ⟨Nat.le_of_ble_eq_true rfl, Nat.le_of_ble_eq_true rfl⟩ dX4_reaches_12 (fun r u hu => ?_)
          obtain ⟨hu1, hu2⟩ := hu
          subst u
          obtain ⟨v5, ev5⟩ : ∃ y : Int32, y = zest c d 2 (item / 2 ^ 2) := ⟨_, rfl⟩
          rw [← ev5] at hu2
          subst r
          refine z_iload_n 15 C dX4_reaches_15 rfl 3 rfl ?_
          refine z_icmp_ge 16 C 21 dX4_reaches_16 (by decide) (fun h16 => ?_) (fun h16 => ?_)
          · have hz2 := h16
            rw [ev5] at hz2
            refine z_iinc (v' := nI 1) (lv' := [(3, .int (nI 1)), (0, .ref (zad g (zp j 0))), (1, .int (nI item)), (2, .int least)]) 21 C dX4_reaches_21 (q := 0) rfl rfl (by decide) rfl ?_
            refine z_goto 24 C 3 dX4_reaches_24 (by decide) ?_
            refine z_iload_n 3 C dX4_reaches_3 rfl 0 rfl ?_
            refine z_if_ltN 4 C 27 dX4_reaches_4 (by decide) (by omega) (fun h4 => absurd h4 (by omega)) (fun h4 => ?_)
            refine z_aload_n 7 C dX4_reaches_7 rfl 1 rfl ?_
            refine z_iload_n 8 C dX4_reaches_8 rfl 0 rfl ?_
            refine z_iload_n 9 C dX4_reaches_9 rfl 2 rfl ?_
            refine z_iload_n 10 C dX4_reaches_10 rfl 0 rfl ?_
            refine z_ishr (v := nI (item / 2 ^ 1)) 11 C dX4_reaches_11 (zn_shr item 1 (by omega) (by omega)) ?_
            refine z_callVi 12 C (As := [.int (nI 1), .int (nI (item / 2 ^ 1))]) 2 (kO_stream hj) rfl (c_X4_estimateOf l hg x j hj c d L aw hR 1 (item / 2 ^ 1) (by decide) (zhalf_lt hitem (by decide))) (cwV 2 C.1.2.2.2.2 gX4_reaches_X4_estimateOf rfl rfl rfl (by decide +kernel) ⟨Nat.le_of_ble_eq_true rfl, Nat.le_of_ble_eq_true rfl⟩) rfl rfl (Nat.le_of_ble_eq_true rfl) ⟨Nat.le_of_ble_eq_true rfl, Nat.le_of_ble_eq_true rfl⟩ dX4_reaches_12 (fun r u hu => ?_)
            obtain ⟨hu1, hu2⟩ := hu
            subst u
            obtain ⟨v6, ev6⟩ : ∃ y : Int32, y = zest c d 1 (item / 2 ^ 1) := ⟨_, rfl⟩
            rw [← ev6] at hu2
            subst r
            refine z_iload_n 15 C dX4_reaches_15 rfl 3 rfl ?_
            refine z_icmp_ge 16 C 21 dX4_reaches_16 (by decide) (fun h16 => ?_) (fun h16 => ?_)
            · have hz1 := h16
              rw [ev6] at hz1
              refine z_iinc (v' := nI 0) (lv' := [(3, .int (nI 0)), (0, .ref (zad g (zp j 0))), (1, .int (nI item)), (2, .int least)]) 21 C dX4_reaches_21 (q := 0) rfl rfl (by decide) rfl ?_
              refine z_goto 24 C 3 dX4_reaches_24 (by decide) ?_
              refine z_iload_n 3 C dX4_reaches_3 rfl 0 rfl ?_
              refine z_if_ltN 4 C 27 dX4_reaches_4 (by decide) (by omega) (fun h4 => absurd h4 (by omega)) (fun h4 => ?_)
              refine z_aload_n 7 C dX4_reaches_7 rfl 1 rfl ?_
              refine z_iload_n 8 C dX4_reaches_8 rfl 0 rfl ?_
              refine z_iload_n 9 C dX4_reaches_9 rfl 2 rfl ?_
              refine z_iload_n 10 C dX4_reaches_10 rfl 0 rfl ?_
              refine z_ishr (v := nI (item / 2 ^ 0)) 11 C dX4_reaches_11 (zn_shr item 0 (by omega) (by omega)) ?_
              refine z_callVi 12 C (As := [.int (nI 0), .int (nI (item / 2 ^ 0))]) 2 (kO_stream hj) rfl (c_X4_estimateOf l hg x j hj c d L aw hR 0 (item / 2 ^ 0) (by decide) (zhalf_lt hitem (by decide))) (cwV 2 C.1.2.2.2.2 gX4_reaches_X4_estimateOf rfl rfl rfl (by decide +kernel) ⟨Nat.le_of_ble_eq_true rfl, Nat.le_of_ble_eq_true rfl⟩) rfl rfl (Nat.le_of_ble_eq_true rfl) ⟨Nat.le_of_ble_eq_true rfl, Nat.le_of_ble_eq_true rfl⟩ dX4_reaches_12 (fun r u hu => ?_)
              obtain ⟨hu1, hu2⟩ := hu
              subst u
              obtain ⟨v7, ev7⟩ : ∃ y : Int32, y = zest c d 0 (item / 2 ^ 0) := ⟨_, rfl⟩
              rw [← ev7] at hu2
              subst r
              refine z_iload_n 15 C dX4_reaches_15 rfl 3 rfl ?_
              refine z_icmp_ge 16 C 21 dX4_reaches_16 (by decide) (fun h16 => ?_) (fun h16 => ?_)
              · have hz0 := h16
                rw [ev7] at hz0
                refine z_iinc (v' := (-1)) (lv' := [(3, .int (-1)), (0, .ref (zad g (zp j 0))), (1, .int (nI item)), (2, .int least)]) 21 C dX4_reaches_21 (q := 0) rfl rfl (by decide) rfl ?_
                refine z_goto 24 C 3 dX4_reaches_24 (by decide) ?_
                refine z_iload_n 3 C dX4_reaches_3 rfl 0 rfl ?_
                refine z_if_lt 4 C 27 dX4_reaches_4 (by decide) (fun h4 => ?_) (fun h4 => absurd (by decide) h4)
                refine z_iconst (v := nI 1) 27 C dX4_reaches_27 rfl ?_
                exact z_zret 28 C hr rfl ⟨rfl, Or.inl ⟨rfl, zfreq_of hz0 hz1 hz2 hz3 hz4 hz5 hz6⟩⟩ dX4_reaches_28
              · refine z_iconst (v := nI 0) 19 C dX4_reaches_19 rfl ?_
                exact z_zret 20 C hr rfl ⟨rfl, Or.inr ⟨rfl, fun z => h16 (by rw [ev7]; exact z 0 (by decide))⟩⟩ dX4_reaches_20
            · refine z_iconst (v := nI 0) 19 C dX4_reaches_19 rfl ?_
              exact z_zret 20 C hr rfl ⟨rfl, Or.inr ⟨rfl, fun z => h16 (by rw [ev6]; exact z 1 (by decide))⟩⟩ dX4_reaches_20
          · refine z_iconst (v := nI 0) 19 C dX4_reaches_19 rfl ?_
            exact z_zret 20 C hr rfl ⟨rfl, Or.inr ⟨rfl, fun z => h16 (by rw [ev5]; exact z 2 (by decide))⟩⟩ dX4_reaches_20
        · refine z_iconst (v := nI 0) 19 C dX4_reaches_19 rfl ?_
          exact z_zret 20 C hr rfl ⟨rfl, Or.inr ⟨rfl, fun z => h16 (by rw [ev4]; exact z 3 (by decide))⟩⟩ dX4_reaches_20
      · refine z_iconst (v := nI 0) 19 C dX4_reaches_19 rfl ?_
        exact z_zret 20 C hr rfl ⟨rfl, Or.inr ⟨rfl, fun z => h16 (by rw [ev3]; exact z 4 (by decide))⟩⟩ dX4_reaches_20
    · refine z_iconst (v := nI 0) 19 C dX4_reaches_19 rfl ?_
      exact z_zret 20 C hr rfl ⟨rfl, Or.inr ⟨rfl, fun z => h16 (by rw [ev2]; exact z 5 (by decide))⟩⟩ dX4_reaches_20
  · refine z_iconst (v := nI 0) 19 C dX4_reaches_19 rfl ?_
    exact z_zret 20 C hr rfl ⟨rfl, Or.inr ⟨rfl, fun z => h16 (by rw [ev1]; exact z 6 (by decide))⟩⟩ dX4_reaches_20
