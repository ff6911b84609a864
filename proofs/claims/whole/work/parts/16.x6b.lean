/-! ===== what the model's calls leave and answer ===== -/
def zOutM (x u : zT) : Prop := (∀ k, 11 ≤ k → u.1 k = x.1 k ∧ u.2.1 k = x.2.1 k) ∧ u.2.2 = x.2.2
def zMP (x u : zT) (S : zS) (k : Nat) : Prop := u.1 2 0 = nI k ∧ zMA u S ∧ zOutM x u
theorem zMP_i {x : zT} {S : zS} {f : Nat → Int32} {k : Nat} (hA : zMA x S) (e : f = upd (x.1 2) 0 (nI k)) : zMP x (xi x 2 f) S k := by
  refine ⟨by rw [xi_s, e, pk_us], fun j hj => zM_2 (hA j hj), fun q hq => ⟨xi_n _ (by omega), rfl⟩, rfl⟩
theorem zMP_il {x : zT} {S : zS} {f : Nat → Int32} {h : Nat → Int64} {k : Nat} (hA : zMA x S) (e : f = upd (x.1 2) 0 (nI k)) : zMP x (xl (xi x 2 f) 10 h) S k := by
  refine ⟨by rw [xc_i, xi_s, e, pk_us], fun j hj => zM_l (zM_2 (hA j hj)), fun q hq => ⟨(xc_i _ _ _ _).trans (xi_n _ (by omega)), (xl_n _ (by omega)).trans rfl⟩, rfl⟩
theorem zme {x u : zT} {S : zS} {C k : Nat} {P : Prop} (hC : C = k) (hm : zMP x u S k) (hv : k = 0 → P) : zMP x u S C ∧ (C = 0 → P) := by
  subst hC
  exact ⟨hm, hv⟩
noncomputable def zmidV (f : Nat → Int64) : Int64 := @dite Int64 (∃ m, zMid f m) (Classical.propDecidable _) (fun h => Classical.choose h) (fun _ => 0)
theorem zmidV_eq {f : Nat → Int64} {m : Int64} (h : zMid f m) : zmidV f = m := by
  unfold zmidV
  rw [dif_pos ⟨m, h⟩]
  exact zMid_uniq (Classical.choose_spec (p := fun m => zMid f m) ⟨m, h⟩) h
theorem zfrn_mono (c d : Nat → Int32) (least : Int32) : ∀ {a b : Nat}, a ≤ b → zfrn c d least a ≤ zfrn c d least b := by
  intro a b h
  induction b with
  | zero => rw [show a = 0 by omega]; exact Nat.le_refl _
  | succ b ih =>
    by_cases e : a = b + 1
    · subst e; exact Nat.le_refl _
    · exact Nat.le_trans (ih (by omega)) (Nat.le_add_right _ _)
theorem zfrat_uniq {c d : Nat → Int32} {least place : Int32} {i k : Nat} (h : zfrat c d least place i) (h' : zfrat c d least place k) : i = k := by
  have key : ∀ {i k : Nat}, zfrat c d least place i → zfrat c d least place k → ¬ i < k := by
    intro i k h h' hlt
    have h1 : zfrn c d least (i + 1) = zfrn c d least i + 1 := by
      show zfrn c d least i + zfrb c d least i = _
      rw [zfrb_y h.2.1]
    have h2 := zfrn_mono c d least (show i + 1 ≤ k from hlt)
    have h3 : nI (zfrn c d least i) = nI (zfrn c d least k) := h.2.2.symm.trans h'.2.2
    have h4 := zfrn_le c d least i
    have h5 := zfrn_le c d least k
    have hi := h.1
    have hk := h'.1
    have h6 := (nI_eq (by omega) (by omega)).mp h3
    omega
  have h1 := key h h'
  have h2 := key h' h
  omega
noncomputable def zfrV (c d : Nat → Int32) (least place : Int32) : Int32 := @dite Int32 (∃ i, zfrat c d least place i) (Classical.propDecidable _) (fun h => nI (Classical.choose h)) (fun _ => 0)
theorem zfrV_eq {c d : Nat → Int32} {least place : Int32} {i : Nat} (h : zfrat c d least place i) : zfrV c d least place = nI i := by
  unfold zfrV
  rw [dif_pos ⟨i, h⟩]
  rw [zfrat_uniq (Classical.choose_spec (p := fun i => zfrat c d least place i) ⟨i, h⟩) h]
/-- the keys are apart -/
def zND (L : zCL) : Prop := ∀ a b, a < b → b < L.length → (zL L a).1 ≠ (zL L b).1
theorem zND_ix {L : zCL} {v : Int32} {q : Nat} (h : zND L) (hq : q < L.length) (e : (zL L q).1 = v) : zix L v = q :=
  zix_of hq e (fun k hk z => h k q hk hq (z.trans e.symm))
theorem zmid_step {f : Nat → Int64} {m : Int64} {k : Nat} {t : Int64} (hp : t = m ∨ ∀ q, q < k → f q ≠ m) (hn : f k ≠ m) : t = m ∨ ∀ q, q < k + 1 → f q ≠ m := by
  rcases hp with h | h
  · exact Or.inl h
  · refine Or.inr (fun q hq => ?_)
    by_cases e : q = k
    · subst e; exact hn
    · exact h q (by omega)
theorem zmid_end {f : Nat → Int64} {m t : Int64} {k : Nat} (hm : zMid f m) (hk : 5 ≤ k) (hp : t = m ∨ ∀ q, q < k → f q ≠ m) : t = m := by
  rcases hp with h | h
  · exact h
  · obtain ⟨q, hq, e⟩ := hm.1
    exact absurd e (h q (by omega))
theorem zlt_s1 {f : Nat → Int64} {v : Int64} {i n : Nat} (h : n = zlt f v i) (hc : lg_cmp (f i) v < 0) : n + 1 = zlt f v (i + 1) := by
  show n + 1 = zlt f v i + zb1 (decide (f i < v))
  rw [zlc_lt0 hc, h]
theorem zlt_s0 {f : Nat → Int64} {v : Int64} {i n : Nat} (h : n = zlt f v i) (hc : 0 ≤ lg_cmp (f i) v) : n = zlt f v (i + 1) := by
  show n = zlt f v i + zb1 (decide (f i < v))
  rw [zlc_ge0 hc, h]
  rfl
theorem zgt_s1 {f : Nat → Int64} {v : Int64} {i n : Nat} (h : n = zgt f v i) (hc : ¬ lg_cmp (f i) v ≤ 0) : n + 1 = zgt f v (i + 1) := by
  show n + 1 = zgt f v i + zb1 (decide (v < f i))
  rw [zlc_gt0 hc, h]
theorem zgt_s0 {f : Nat → Int64} {v : Int64} {i n : Nat} (h : n = zgt f v i) (hc : lg_cmp (f i) v ≤ 0) : n = zgt f v (i + 1) := by
  show n = zgt f v i + zb1 (decide (v < f i))
  rw [zlc_le0 hc, h]
  rfl
theorem zfive_s {h h' V : Nat → Int64} {row : Nat} {v : Int64} (hp : ∀ q, q < row → h q = V q) (e : h' = vp_updL h row v) (hv : v = V row) : ∀ q, q < row + 1 → h' q = V q := fun q hq => by
  rw [e]
  by_cases c : q = row
  · subst c; exact (pk_uLs).trans hv
  · exact (pk_uLn c).trans (hp q (by omega))
theorem zfive_e {h V : Nat → Int64} {row : Nat} (hq : ∀ q, q < row → h q = V q) (hs : h row = V row) : ∀ q, q < row + 1 → h q = V q := fun q hq9 => by
  by_cases c : q = row
  · subst c; exact hs
  · exact hq q (by omega)
set_option maxHeartbeats 4000000 in
set_option maxRecDepth 100000 in
/-- X6_total -/
theorem c_X6_total (l : Launch) {g : zG} (hg : zOk g) (x : zT) (S : zS) (hA : zMA x S) (p0 : Int32) : Met l yX6_total wsX6_total ({ frames := 2, cells := 0, slots := 0, locals := 41 }) (va_Pc [.ref (zad g 2), .int p0] (zPre g x)) (va_Qi (fun (r : Int32) (u : zT) => zMP x u S (zk1 (zinb p0 4)) ∧ (zk1 (zinb p0 4) = 0 → r = ztot (S.1 p0.toNatClampNeg))) (zB g) (zA g)) 0 0 (zA g) := by
  refine z_met (cc := cX6_total) (nL := 2) (ret := (some .int)) hg (by decide) rfl (Nat.le_of_ble_eq_true rfl) ?_
  intro p_ e_ s_ m_ args_ below_ meth_ c_ C hr
  show Z p_ l e_ _ s_ m_ args_ below_ meth_ c_ g 2 0 0 _ x 0 [(0, .ref (zad g 2)), (1, .int p0)] []
  have hw_f13 := C.1.2.2.2.2 (.fieldLink RX6 13 "CountcoteModel" "totals" "[I") (by decide +kernel)
  have hinX6 : ∀ w ∈ wsX60, w ∈ wsX6_total := by decide +kernel
  refine z_aload_n 0 C dX6_total_0 rfl 0 rfl ?_
  refine z_iload_n 1 C dX6_total_1 rfl 1 rfl ?_
  refine z_callSi 2 C (As := [.int p0]) 1 (c_X6_isStream l hg x p0) (va_cwS 1 C.1.2.2.2.2 gX6_total_X6_isStream rfl rfl rfl (by decide +kernel) ⟨Nat.le_of_ble_eq_true rfl, Nat.le_of_ble_eq_true rfl⟩) rfl rfl (Nat.le_of_ble_eq_true rfl) ⟨Nat.le_of_ble_eq_true rfl, Nat.le_of_ble_eq_true rfl⟩ dX6_total_2 (fun r u hu => ?_)
  obtain ⟨hu1, hu2⟩ := hu
  subst u
  rcases hu2 with ⟨hr9, hz1⟩ | ⟨hr9, hz1⟩
  · subst r
    obtain ⟨j, hj, hp9⟩ := (zinb_t (by omega)).mp hz1
    subst hp9
    have hMj := hA j hj
    have hclj := nI_clamp (n := j) (by omega)
    refine z_if_eqN 5 C 12 dX6_total_5 (by decide) (by omega) (fun h5 => absurd h5 (by omega)) (fun h5 => ?_)
    refine z_iconst (v := nI 0) 8 C dX6_total_8 rfl ?_
    refine z_goto 9 C 13 dX6_total_9 (by decide) ?_
    refine z_callVi 13 C (As := [.int (nI 0)]) 1 kO_model rfl (c_X6_holds l hg x 0 (by decide)) (cwV 1 C.1.2.2.2.2 gX6_total_X6_holds rfl rfl rfl (by decide +kernel) ⟨Nat.le_of_ble_eq_true rfl, Nat.le_of_ble_eq_true rfl⟩) rfl rfl (Nat.le_of_ble_eq_true rfl) ⟨Nat.le_of_ble_eq_true rfl, Nat.le_of_ble_eq_true rfl⟩ dX6_total_13 (fun r u hu => ?_)
    obtain ⟨f2, ef2⟩ : ∃ f9 : Nat → Int32, f9 = upd (x.1 2) 0 (nI 0) := ⟨_, rfl⟩
    obtain ⟨hu1, hu2⟩ : u = (xi x 2 f2) ∧ r = nI 1 := ⟨by rw [hu.1, ef2], hu.2⟩
    subst u
    subst r
    refine z_if_eqN 16 C 28 dX6_total_16 (by decide) (by omega) (fun h16 => absurd h16 (by omega)) (fun h16 => ?_)
    refine z_aload_n 19 C dX6_total_19 rfl 0 rfl ?_
    refine z_getr 20 C (ref := "CountcoteModel") (T := TX6) (N := 9) (ci := 6) (q := 2) (kR_model (q := 2) (by decide) (by decide)) rfl hinX6 (by decide) rfl hw_f13 dX6_total_20 ?_
    refine z_iload_n 23 C dX6_total_23 rfl 1 rfl ?_
    refine z_iald (v := (x.1 4) j) 24 C kI_4 (by omega) (by rw [xi_n _ (by decide)]) dX6_total_24 ?_
    refine z_goto 25 C 29 dX6_total_25 (by decide) ?_
    exact z_iret 29 C hr (zme (by simp [zk1, zk2, zk3, hz1, hclj]) (zMP_i hA ef2) (fun _ => (hMj.2.1).trans (by rw [hclj]))) dX6_total_29
  · subst r
    refine z_if_eqN 5 C 12 dX6_total_5 (by decide) (by omega) (fun h5 => ?_) (fun h5 => absurd h5 (by omega))
    refine z_iconst (v := nI 1) 12 C dX6_total_12 rfl ?_
    refine z_callVi 13 C (As := [.int (nI 1)]) 1 kO_model rfl (c_X6_holds l hg x 1 (by decide)) (cwV 1 C.1.2.2.2.2 gX6_total_X6_holds rfl rfl rfl (by decide +kernel) ⟨Nat.le_of_ble_eq_true rfl, Nat.le_of_ble_eq_true rfl⟩) rfl rfl (Nat.le_of_ble_eq_true rfl) ⟨Nat.le_of_ble_eq_true rfl, Nat.le_of_ble_eq_true rfl⟩ dX6_total_13 (fun r u hu => ?_)
    obtain ⟨f3, ef3⟩ : ∃ f9 : Nat → Int32, f9 = upd (x.1 2) 0 (nI 1) := ⟨_, rfl⟩
    obtain ⟨hu1, hu2⟩ : u = (xi x 2 f3) ∧ r = nI 0 := ⟨by rw [hu.1, ef3], hu.2⟩
    subst u
    subst r
    refine z_if_eqN 16 C 28 dX6_total_16 (by decide) (by omega) (fun h16 => ?_) (fun h16 => absurd h16 (by omega))
    refine z_iconst (v := nI 0) 28 C dX6_total_28 rfl ?_
    exact z_iret 29 C hr (zme (by simp [zk1, zk2, zk3, hz1]) (zMP_i hA ef3) (fun h0 => absurd h0 (by decide))) dX6_total_29
set_option maxHeartbeats 4000000 in
set_option maxRecDepth 100000 in
/-- X6_count -/
theorem c_X6_count (l : Launch) {g : zG} (hg : zOk g) (x : zT) (S : zS) (hA : zMA x S) (p0 p1 : Int32) : Met l yX6_count wsX6_count ({ frames := 3, cells := 0, slots := 0, locals := 63 }) (va_Pc [.ref (zad g 2), .int p0, .int p1] (zPre g x)) (va_Qi (fun (r : Int32) (u : zT) => zMP x u S (zk1 (zinb p0 4 && zinb p1 64)) ∧ (zk1 (zinb p0 4 && zinb p1 64) = 0 → r = S.1 p0.toNatClampNeg p1.toNatClampNeg)) (zB g) (zA g)) 0 0 (zA g) := by
  refine z_met (cc := cX6_count) (nL := 3) (ret := (some .int)) hg (by decide) rfl (Nat.le_of_ble_eq_true rfl) ?_
  intro p_ e_ s_ m_ args_ below_ meth_ c_ C hr
  show Z p_ l e_ _ s_ m_ args_ below_ meth_ c_ g 3 0 0 _ x 0 [(0, .ref (zad g 2)), (1, .int p0), (2, .int p1)] []
  have hw_f7 := C.1.2.2.2.2 (.fieldLink RX6 7 "CountcoteModel" "counts" "[I") (by decide +kernel)
  have hinX6 : ∀ w ∈ wsX60, w ∈ wsX6_count := by decide +kernel
  refine z_aload_n 0 C dX6_count_0 rfl 0 rfl ?_
  refine z_iload_n 1 C dX6_count_1 rfl 1 rfl ?_
  refine z_iload_n 2 C dX6_count_2 rfl 2 rfl ?_
  refine z_callVi 3 C (As := [.int p0, .int p1]) 2 kO_model rfl (c_X6_isItem l hg x p0 p1) (cwV 2 C.1.2.2.2.2 gX6_count_X6_isItem rfl rfl rfl (by decide +kernel) ⟨Nat.le_of_ble_eq_true rfl, Nat.le_of_ble_eq_true rfl⟩) rfl rfl (Nat.le_of_ble_eq_true rfl) ⟨Nat.le_of_ble_eq_true rfl, Nat.le_of_ble_eq_true rfl⟩ dX6_count_3 (fun r u hu => ?_)
  rcases hu with ⟨hr9, ⟨hz1, hz2⟩, hu1⟩ | ⟨hr9, hz1, hu1⟩
  · subst r
    subst u
    obtain ⟨f3, ef3⟩ : ∃ f9 : Nat → Int32, f9 = upd (x.1 2) 0 (nI 0) := ⟨_, rfl⟩
    rw [← ef3]
    obtain ⟨j, hj, hp9⟩ := (zinb_t (by omega)).mp hz1
    subst hp9
    have hMj := hA j hj
    have hclj := nI_clamp (n := j) (by omega)
    obtain ⟨i, hi, hp9⟩ := (zinb_t (by omega)).mp hz2
    subst hp9
    have hcli := nI_clamp (n := i) (by omega)
    refine z_if_eqN 6 C 23 dX6_count_6 (by decide) (by omega) (fun h6 => absurd h6 (by omega)) (fun h6 => ?_)
    refine z_aload_n 9 C dX6_count_9 rfl 0 rfl ?_
    refine z_getr 10 C (ref := "CountcoteModel") (T := TX6) (N := 9) (ci := 6) (q := 1) (kR_model (q := 1) (by decide) (by decide)) rfl hinX6 (by decide) rfl hw_f7 dX6_count_10 ?_
    refine z_bipush (v := nI 64) 13 C dX6_count_13 rfl ?_
    refine z_iload_n 15 C dX6_count_15 rfl 1 rfl ?_
    refine z_imul (v := nI (64 * j)) 16 C dX6_count_16 (pk_mul 64 j) ?_
    refine z_iload_n 17 C dX6_count_17 rfl 2 rfl ?_
    refine z_iadd (v := nI ((64 * j) + i)) 18 C dX6_count_18 (nI_add (64 * j) i) ?_
    refine z_iald (v := (x.1 3) ((64 * j) + i)) 19 C kI_3 (by omega) (by rw [xi_n _ (by decide)]) dX6_count_19 ?_
    refine z_goto 20 C 24 dX6_count_20 (by decide) ?_
    exact z_iret 24 C hr (zme (by simp [zk1, zk2, zk3, hz1, hz2, hclj, hcli]) (zMP_i hA ef3) (fun _ => (hMj.1 i hi).trans (by rw [hclj, hcli]))) dX6_count_24
  · subst r
    subst u
    obtain ⟨f4, ef4⟩ : ∃ f9 : Nat → Int32, f9 = upd (x.1 2) 0 (nI 1) := ⟨_, rfl⟩
    rw [← ef4]
    refine z_if_eqN 6 C 23 dX6_count_6 (by decide) (by omega) (fun h6 => ?_) (fun h6 => absurd h6 (by omega))
    refine z_iconst (v := nI 0) 23 C dX6_count_23 rfl ?_
    exact z_iret 24 C hr (zme (by simp [zk1, zk2, zk3, hz1]) (zMP_i hA ef4) (fun h0 => absurd h0 (by decide))) dX6_count_24
set_option maxHeartbeats 4000000 in
set_option maxRecDepth 100000 in
/-- X6_countOfRange -/
theorem c_X6_countOfRange (l : Launch) {g : zG} (hg : zOk g) (x : zT) (S : zS) (hA : zMA x S) (p0 p1 p2 : Int32) : Met l yX6_countOfRange wsX6_countOfRange ({ frames := 2, cells := 0, slots := 0, locals := 45 }) (va_Pc [.ref (zad g 2), .int p0, .int p1, .int p2] (zPre g x)) (va_Qi (fun (r : Int32) (u : zT) => zMP x u S (zk2 (zinb p0 4 && (zinb p1 64 && zinb p2 64)) (decide (p1 ≤ p2))) ∧ (zk2 (zinb p0 4 && (zinb p1 64 && zinb p2 64)) (decide (p1 ≤ p2)) = 0 → r = zsum (S.1 p0.toNatClampNeg) p1.toNatClampNeg (p2.toNatClampNeg + 1 - p1.toNatClampNeg))) (zB g) (zA g)) 0 0 (zA g) := by
  refine z_met (cc := cX6_countOfRange) (nL := 4) (ret := (some .int)) hg (by decide) rfl (Nat.le_of_ble_eq_true rfl) ?_
  intro p_ e_ s_ m_ args_ below_ meth_ c_ C hr
  show Z p_ l e_ _ s_ m_ args_ below_ meth_ c_ g 4 0 0 _ x 0 [(0, .ref (zad g 2)), (1, .int p0), (2, .int p1), (3, .int p2)] []
  refine z_aload_n 0 C dX6_countOfRange_0 rfl 0 rfl ?_
  refine z_iload_n 1 C dX6_countOfRange_1 rfl 1 rfl ?_
  refine z_callSi 2 C (As := [.int p0]) 1 (c_X6_isStream l hg x p0) (va_cwS 1 C.1.2.2.2.2 gX6_countOfRange_X6_isStream rfl rfl rfl (by decide +kernel) ⟨Nat.le_of_ble_eq_true rfl, Nat.le_of_ble_eq_true rfl⟩) rfl rfl (Nat.le_of_ble_eq_true rfl) ⟨Nat.le_of_ble_eq_true rfl, Nat.le_of_ble_eq_true rfl⟩ dX6_countOfRange_2 (fun r u hu => ?_)
  obtain ⟨hu1, hu2⟩ := hu
  subst u
  rcases hu2 with ⟨hr9, hz1⟩ | ⟨hr9, hz1⟩
  · subst r
    obtain ⟨j, hj, hp9⟩ := (zinb_t (by omega)).mp hz1
    subst hp9
    have hMj := hA j hj
    have hclj := nI_clamp (n := j) (by omega)
    refine z_iload_n 5 C dX6_countOfRange_5 rfl 2 rfl ?_
    refine z_iload_n 6 C dX6_countOfRange_6 rfl 3 rfl ?_
    refine z_callVi 7 C (As := [.int (nI 1), .int p1, .int p2]) 3 kO_model rfl (c_X6_isRange l hg x 1 (by decide) p1 p2) (cwV 3 C.1.2.2.2.2 gX6_countOfRange_X6_isRange rfl rfl rfl (by decide +kernel) ⟨Nat.le_of_ble_eq_true rfl, Nat.le_of_ble_eq_true rfl⟩) rfl rfl (Nat.le_of_ble_eq_true rfl) ⟨Nat.le_of_ble_eq_true rfl, Nat.le_of_ble_eq_true rfl⟩ dX6_countOfRange_7 (fun r u hu => ?_)
    rcases hu with ⟨hr9, ⟨hz2, a, b, hab, hb, hp8, hp9⟩, hu1⟩ | ⟨hr9, hz2, hu1⟩
    · subst r
      subst u
      subst hp8
      subst hp9
      obtain ⟨f3, ef3⟩ : ∃ f9 : Nat → Int32, f9 = upd (x.1 2) 0 (nI 0) := ⟨_, rfl⟩
      rw [← ef3]
      refine z_if_eqN 10 C 23 dX6_countOfRange_10 (by decide) (by omega) (fun h10 => absurd h10 (by omega)) (fun h10 => ?_)
      have hcla := nI_clamp (n := a) (by omega)
      have hclb := nI_clamp (n := b) (by omega)
      refine z_aload_n 13 C dX6_countOfRange_13 rfl 0 rfl ?_
      refine z_iload_n 14 C dX6_countOfRange_14 rfl 1 rfl ?_
      refine z_iload_n 15 C dX6_countOfRange_15 rfl 2 rfl ?_
      refine z_iload_n 16 C dX6_countOfRange_16 rfl 3 rfl ?_
      refine z_callVi 17 C (As := [.int (nI j), .int (nI a), .int (nI b)]) 3 kO_model rfl (c_X6_sum l hg (xi x 2 f3) j a b (by omega) (by omega) (by omega)) (cwV 3 C.1.2.2.2.2 gX6_countOfRange_X6_sum rfl rfl rfl (by decide +kernel) ⟨Nat.le_of_ble_eq_true rfl, Nat.le_of_ble_eq_true rfl⟩) rfl rfl (Nat.le_of_ble_eq_true rfl) ⟨Nat.le_of_ble_eq_true rfl, Nat.le_of_ble_eq_true rfl⟩ dX6_countOfRange_17 (fun r u hu => ?_)
      obtain ⟨hu1, hu2⟩ := hu
      subst u
      subst r
      refine z_goto 20 C 24 dX6_countOfRange_20 (by decide) ?_
      exact z_iret 24 C hr (zme (by rw [hz1]; exact hz2) (zMP_i hA ef3) (fun _ => (zsum_congr (fun k h1 h2 => hMj.1 k (by omega))).trans (by rw [hclj, hcla, hclb]))) dX6_countOfRange_24
    · subst r
      subst u
      obtain ⟨f4, ef4⟩ : ∃ f9 : Nat → Int32, f9 = upd (x.1 2) 0 (nI (zk2 (decide (1 = 1) && (zinb p1 64 && zinb p2 64)) (decide (p1 ≤ p2)))) := ⟨_, rfl⟩
      rw [← ef4]
      refine z_if_eqN 10 C 23 dX6_countOfRange_10 (by decide) (by omega) (fun h10 => ?_) (fun h10 => absurd h10 (by omega))
      refine z_iconst (v := nI 0) 23 C dX6_countOfRange_23 rfl ?_
      exact z_iret 24 C hr (zme (by rw [hz1]; rfl) (zMP_i hA ef4) (fun h0 => by rcases hz2 with e | e <;> exact absurd (h0.symm.trans e) (by decide))) dX6_countOfRange_24
  · subst r
    refine z_iload_n 5 C dX6_countOfRange_5 rfl 2 rfl ?_
    refine z_iload_n 6 C dX6_countOfRange_6 rfl 3 rfl ?_
    refine z_callVi 7 C (As := [.int (nI 0), .int p1, .int p2]) 3 kO_model rfl (c_X6_isRange l hg x 0 (by decide) p1 p2) (cwV 3 C.1.2.2.2.2 gX6_countOfRange_X6_isRange rfl rfl rfl (by decide +kernel) ⟨Nat.le_of_ble_eq_true rfl, Nat.le_of_ble_eq_true rfl⟩) rfl rfl (Nat.le_of_ble_eq_true rfl) ⟨Nat.le_of_ble_eq_true rfl, Nat.le_of_ble_eq_true rfl⟩ dX6_countOfRange_7 (fun r u hu => ?_)
    rcases hu with ⟨hr9, ⟨hz5, a, b, hab, hb, hp8, hp9⟩, hu1⟩ | ⟨hr9, hz5, hu1⟩
    · exact absurd hz5 (by simp [zk2])
    · subst r
      subst u
      obtain ⟨f6, ef6⟩ : ∃ f9 : Nat → Int32, f9 = upd (x.1 2) 0 (nI (zk2 (decide (0 = 1) && (zinb p1 64 && zinb p2 64)) (decide (p1 ≤ p2)))) := ⟨_, rfl⟩
      rw [← ef6]
      refine z_if_eqN 10 C 23 dX6_countOfRange_10 (by decide) (by omega) (fun h10 => ?_) (fun h10 => absurd h10 (by omega))
      refine z_iconst (v := nI 0) 23 C dX6_countOfRange_23 rfl ?_
      exact z_iret 24 C hr (zme (by rw [hz1]; rfl) (zMP_i hA ef6) (fun h0 => by rcases hz5 with e | e <;> exact absurd (h0.symm.trans e) (by decide))) dX6_countOfRange_24
set_option maxHeartbeats 4000000 in
set_option maxRecDepth 100000 in
/-- X6_product -/
theorem c_X6_product (l : Launch) {g : zG} (hg : zOk g) (x : zT) (S : zS) (hA : zMA x S) (p0 p1 : Int32) : Met l yX6_product wsX6_product ({ frames := 2, cells := 0, slots := 0, locals := 41 }) (va_Pc [.ref (zad g 2), .int p0, .int p1] (zPre g x)) (va_Ql (fun (r : Int64) (u : zT) => zMP x u S (zk1 (zinb p0 4 && zinb p1 4)) ∧ (zk1 (zinb p0 4 && zinb p1 4) = 0 → r = zprod (S.1 p0.toNatClampNeg) (S.1 p1.toNatClampNeg))) (zB g) (zA g)) 0 0 (zA g) := by
  refine z_met (cc := cX6_product) (nL := 6) (ret := (some .long)) hg (by decide) rfl (Nat.le_of_ble_eq_true rfl) ?_
  intro p_ e_ s_ m_ args_ below_ meth_ c_ C hr
  show Z p_ l e_ _ s_ m_ args_ below_ meth_ c_ g 6 0 0 _ x 0 [(0, .ref (zad g 2)), (1, .int p0), (2, .int p1)] []
  have hw_f7 := C.1.2.2.2.2 (.fieldLink RX6 7 "CountcoteModel" "counts" "[I") (by decide +kernel)
  have hinX6 : ∀ w ∈ wsX60, w ∈ wsX6_product := by decide +kernel
  refine z_aload_n 0 C dX6_product_0 rfl 0 rfl ?_
  refine z_iload_n 1 C dX6_product_1 rfl 1 rfl ?_
  refine z_callSi 2 C (As := [.int p0]) 1 (c_X6_isStream l hg x p0) (va_cwS 1 C.1.2.2.2.2 gX6_product_X6_isStream rfl rfl rfl (by decide +kernel) ⟨Nat.le_of_ble_eq_true rfl, Nat.le_of_ble_eq_true rfl⟩) rfl rfl (Nat.le_of_ble_eq_true rfl) ⟨Nat.le_of_ble_eq_true rfl, Nat.le_of_ble_eq_true rfl⟩ dX6_product_2 (fun r u hu => ?_)
  obtain ⟨hu1, hu2⟩ := hu
  subst u
  rcases hu2 with ⟨hr9, hz1⟩ | ⟨hr9, hz1⟩
  · subst r
    obtain ⟨j, hj, hp9⟩ := (zinb_t (by omega)).mp hz1
    subst hp9
    have hMj := hA j hj
    have hclj := nI_clamp (n := j) (by omega)
    refine z_if_eqN 5 C 19 dX6_product_5 (by decide) (by omega) (fun h5 => absurd h5 (by omega)) (fun h5 => ?_)
    refine z_iload_n 8 C dX6_product_8 rfl 2 rfl ?_
    refine z_callSi 9 C (As := [.int p1]) 1 (c_X6_isStream l hg x p1) (va_cwS 1 C.1.2.2.2.2 gX6_product_X6_isStream rfl rfl rfl (by decide +kernel) ⟨Nat.le_of_ble_eq_true rfl, Nat.le_of_ble_eq_true rfl⟩) rfl rfl (Nat.le_of_ble_eq_true rfl) ⟨Nat.le_of_ble_eq_true rfl, Nat.le_of_ble_eq_true rfl⟩ dX6_product_9 (fun r u hu => ?_)
    obtain ⟨hu1, hu2⟩ := hu
    subst u
    rcases hu2 with ⟨hr9, hz2⟩ | ⟨hr9, hz2⟩
    · subst r
      obtain ⟨o, ho, hp9⟩ := (zinb_t (by omega)).mp hz2
      subst hp9
      have hMo := hA o ho
      have hclo := nI_clamp (n := o) (by omega)
      refine z_if_eqN 12 C 19 dX6_product_12 (by decide) (by omega) (fun h12 => absurd h12 (by omega)) (fun h12 => ?_)
      refine z_iconst (v := nI 0) 15 C dX6_product_15 rfl ?_
      refine z_goto 16 C 20 dX6_product_16 (by decide) ?_
      refine z_callVi 20 C (As := [.int (nI 0)]) 1 kO_model rfl (c_X6_holds l hg x 0 (by decide)) (cwV 1 C.1.2.2.2.2 gX6_product_X6_holds rfl rfl rfl (by decide +kernel) ⟨Nat.le_of_ble_eq_true rfl, Nat.le_of_ble_eq_true rfl⟩) rfl rfl (Nat.le_of_ble_eq_true rfl) ⟨Nat.le_of_ble_eq_true rfl, Nat.le_of_ble_eq_true rfl⟩ dX6_product_20 (fun r u hu => ?_)
      obtain ⟨f3, ef3⟩ : ∃ f9 : Nat → Int32, f9 = upd (x.1 2) 0 (nI 0) := ⟨_, rfl⟩
      obtain ⟨hu1, hu2⟩ : u = (xi x 2 f3) ∧ r = nI 1 := ⟨by rw [hu.1, ef3], hu.2⟩
      subst u
      subst r
      refine z_if_neN 23 C 28 dX6_product_23 (by decide) (by omega) (fun h23 => ?_) (fun h23 => absurd h23 (by omega))
      refine z_lconst (v := 0) 28 C dX6_product_28 rfl ?_
      refine z_lstore_n (lv' := [(3, .long 0), (0, .ref (zad g 2)), (1, .int (nI j)), (2, .int (nI o))]) 29 C dX6_product_29 rfl (by decide) rfl ?_
      refine z_iconst (v := nI 0) 30 C dX6_product_30 rfl ?_
      refine z_istore (lv' := [(5, .int (nI 0)), (3, .long 0), (0, .ref (zad g 2)), (1, .int (nI j)), (2, .int (nI o))]) 31 C dX6_product_31 (by decide) rfl ?_
      have J33 : ∀ (n33 : Nat) (i : Nat) (t : Int64), (i ≤ 64) → (64 < i + n33) → (t = zsumL (fun k => (x.1 3 (64 * j + k)).toInt64 * (x.1 3 (64 * o + k)).toInt64) 0 i) → Z p_ l e_ (headSpec wsX6_product ({ frames := 2, cells := 0, slots := 0, locals := 41 })).room s_ m_ args_ below_ meth_ c_ g 6 0 0 (MQ below_ (va_Ql (fun (r : Int64) (u : zT) => zMP x u S (zk1 (zinb (nI j) 4 && zinb (nI o) 4)) ∧ (zk1 (zinb (nI j) 4 && zinb (nI o) 4) = 0 → r = zprod (S.1 (nI j).toNatClampNeg) (S.1 (nI o).toNatClampNeg))) (zB g) (zA g)) args_ s_ 0 0 (zA g)) (xi x 2 f3) 33 [(0, .ref (zad g 2)), (1, .int (nI j)), (2, .int (nI o)), (3, .long t), (5, .int (nI i))] [] := by
        intro n33
        induction n33 with
        | zero => intro i t hi hn ht; exact absurd hn (by omega)
        | succ n33 ih33 =>
          intro i t hi hn ht
          refine z_iload 33 C dX6_product_33 4 rfl ?_
          refine z_bipush (v := nI 64) 35 C dX6_product_35 rfl ?_
          refine z_icmp_geN 37 C 76 dX6_product_37 (by decide) (by omega) (by omega) (fun h37 => ?_) (fun h37 => ?_)
          · refine z_lload_n 76 C dX6_product_76 rfl 3 rfl ?_
            exact z_lret 77 C hr (zme (by simp [zk1, zk2, zk3, hz1, hclj, hz2, hclo]) (zMP_i hA ef3) (fun _ => (show t = zprod (S.1 j) (S.1 o) by rw [ht, show i = 64 by omega]; exact zsumL_congr (fun k _ hk => by rw [hMj.1 k (by omega), hMo.1 k (by omega)])).trans (by rw [hclj, hclo]))) dX6_product_77
          · refine z_lload_n 40 C dX6_product_40 rfl 3 rfl ?_
            refine z_aload_n 41 C dX6_product_41 rfl 0 rfl ?_
            refine z_getr 42 C (ref := "CountcoteModel") (T := TX6) (N := 9) (ci := 6) (q := 1) (kR_model (q := 1) (by decide) (by decide)) rfl hinX6 (by decide) rfl hw_f7 dX6_product_42 ?_
            refine z_bipush (v := nI 64) 45 C dX6_product_45 rfl ?_
            refine z_iload_n 47 C dX6_product_47 rfl 1 rfl ?_
            refine z_imul (v := nI (64 * j)) 48 C dX6_product_48 (pk_mul 64 j) ?_
            refine z_iload 49 C dX6_product_49 4 rfl ?_
            refine z_iadd (v := nI ((64 * j) + i)) 51 C dX6_product_51 (nI_add (64 * j) i) ?_
            refine z_iald (v := (x.1 3) ((64 * j) + i)) 52 C kI_3 (by omega) (by rw [xi_n _ (by decide)]) dX6_product_52 ?_
            refine z_i2l (v := ((x.1 3) ((64 * j) + i)).toInt64) 53 C dX6_product_53 rfl ?_
            refine z_aload_n 54 C dX6_product_54 rfl 0 rfl ?_
            refine z_getr 55 C (ref := "CountcoteModel") (T := TX6) (N := 9) (ci := 6) (q := 1) (kR_model (q := 1) (by decide) (by decide)) rfl hinX6 (by decide) rfl hw_f7 dX6_product_55 ?_
            refine z_bipush (v := nI 64) 58 C dX6_product_58 rfl ?_
            refine z_iload_n 60 C dX6_product_60 rfl 2 rfl ?_
            refine z_imul (v := nI (64 * o)) 61 C dX6_product_61 (pk_mul 64 o) ?_
            refine z_iload 62 C dX6_product_62 4 rfl ?_
            refine z_iadd (v := nI ((64 * o) + i)) 64 C dX6_product_64 (nI_add (64 * o) i) ?_
            refine z_iald (v := (x.1 3) ((64 * o) + i)) 65 C kI_3 (by omega) (by rw [xi_n _ (by decide)]) dX6_product_65 ?_
            refine z_i2l (v := ((x.1 3) ((64 * o) + i)).toInt64) 66 C dX6_product_66 rfl ?_
            refine z_lmul (v := (((x.1 3) ((64 * j) + i)).toInt64) * (((x.1 3) ((64 * o) + i)).toInt64)) 67 C dX6_product_67 rfl ?_
            refine z_ladd (v := t + ((((x.1 3) ((64 * j) + i)).toInt64) * (((x.1 3) ((64 * o) + i)).toInt64))) 68 C dX6_product_68 rfl ?_
            refine z_lstore_n (lv' := [(3, .long (t + ((((x.1 3) ((64 * j) + i)).toInt64) * (((x.1 3) ((64 * o) + i)).toInt64)))), (0, .ref (zad g 2)), (1, .int (nI j)), (2, .int (nI o)), (5, .int (nI i))]) 69 C dX6_product_69 rfl (by decide) rfl ?_
            refine z_iinc (v' := nI (i + 1)) (lv' := [(5, .int (nI (i + 1))), (3, .long (t + ((((x.1 3) ((64 * j) + i)).toInt64) * (((x.1 3) ((64 * o) + i)).toInt64)))), (0, .ref (zad g 2)), (1, .int (nI j)), (2, .int (nI o))]) 70 C dX6_product_70 (q := 4) rfl (zn_inc i 1) (by decide) rfl ?_
            refine z_goto 73 C 33 dX6_product_73 (by decide) ?_
            refine z_lv (lv' := [(0, .ref (zad g 2)), (1, .int (nI j)), (2, .int (nI o)), (3, .long (t + ((((x.1 3) ((64 * j) + i)).toInt64) * (((x.1 3) ((64 * o) + i)).toInt64)))), (5, .int (nI (i + 1)))]) [2, 3, 4, 1, 0] rfl ?_
            exact ih33 (i + 1) (t + ((((x.1 3) ((64 * j) + i)).toInt64) * (((x.1 3) ((64 * o) + i)).toInt64))) (by omega) (by omega) (by rw [ht]; show _ = zsumL _ 0 i + (x.1 3 (64 * j + (0 + i))).toInt64 * (x.1 3 (64 * o + (0 + i))).toInt64; rw [Nat.zero_add])
      refine z_lv (lv' := [(0, .ref (zad g 2)), (1, .int (nI j)), (2, .int (nI o)), (3, .long 0), (5, .int (nI 0))]) [2, 3, 4, 1, 0] rfl ?_
      exact J33 65 0 0 (Nat.zero_le _) (by omega) rfl
    · subst r
      refine z_if_eqN 12 C 19 dX6_product_12 (by decide) (by omega) (fun h12 => ?_) (fun h12 => absurd h12 (by omega))
      refine z_iconst (v := nI 1) 19 C dX6_product_19 rfl ?_
      refine z_callVi 20 C (As := [.int (nI 1)]) 1 kO_model rfl (c_X6_holds l hg x 1 (by decide)) (cwV 1 C.1.2.2.2.2 gX6_product_X6_holds rfl rfl rfl (by decide +kernel) ⟨Nat.le_of_ble_eq_true rfl, Nat.le_of_ble_eq_true rfl⟩) rfl rfl (Nat.le_of_ble_eq_true rfl) ⟨Nat.le_of_ble_eq_true rfl, Nat.le_of_ble_eq_true rfl⟩ dX6_product_20 (fun r u hu => ?_)
      obtain ⟨f4, ef4⟩ : ∃ f9 : Nat → Int32, f9 = upd (x.1 2) 0 (nI 1) := ⟨_, rfl⟩
      obtain ⟨hu1, hu2⟩ : u = (xi x 2 f4) ∧ r = nI 0 := ⟨by rw [hu.1, ef4], hu.2⟩
      subst u
      subst r
      refine z_if_neN 23 C 28 dX6_product_23 (by decide) (by omega) (fun h23 => absurd h23 (by omega)) (fun h23 => ?_)
      refine z_lconst (v := 0) 26 C dX6_product_26 rfl ?_
      exact z_lret 27 C hr (zme (by simp [zk1, zk2, zk3, hz1, hclj, hz2]) (zMP_i hA ef4) (fun h0 => absurd h0 (by decide))) dX6_product_27
  · subst r
    refine z_if_eqN 5 C 19 dX6_product_5 (by decide) (by omega) (fun h5 => ?_) (fun h5 => absurd h5 (by omega))
    refine z_iconst (v := nI 1) 19 C dX6_product_19 rfl ?_
    refine z_callVi 20 C (As := [.int (nI 1)]) 1 kO_model rfl (c_X6_holds l hg x 1 (by decide)) (cwV 1 C.1.2.2.2.2 gX6_product_X6_holds rfl rfl rfl (by decide +kernel) ⟨Nat.le_of_ble_eq_true rfl, Nat.le_of_ble_eq_true rfl⟩) rfl rfl (Nat.le_of_ble_eq_true rfl) ⟨Nat.le_of_ble_eq_true rfl, Nat.le_of_ble_eq_true rfl⟩ dX6_product_20 (fun r u hu => ?_)
    obtain ⟨f5, ef5⟩ : ∃ f9 : Nat → Int32, f9 = upd (x.1 2) 0 (nI 1) := ⟨_, rfl⟩
    obtain ⟨hu1, hu2⟩ : u = (xi x 2 f5) ∧ r = nI 0 := ⟨by rw [hu.1, ef5], hu.2⟩
    subst u
    subst r
    refine z_if_neN 23 C 28 dX6_product_23 (by decide) (by omega) (fun h23 => absurd h23 (by omega)) (fun h23 => ?_)
    refine z_lconst (v := 0) 26 C dX6_product_26 rfl ?_
    exact z_lret 27 C hr (zme (by simp [zk1, zk2, zk3, hz1]) (zMP_i hA ef5) (fun h0 => absurd h0 (by decide))) dX6_product_27
set_option maxHeartbeats 4000000 in
set_option maxRecDepth 100000 in
/-- X6_column -/
theorem c_X6_column (l : Launch) {g : zG} (hg : zOk g) (x : zT) (S : zS) (hA : zMA x S) (p0 p1 : Int32) : Met l yX6_column wsX6_column ({ frames := 2, cells := 0, slots := 0, locals := 41 }) (va_Pc [.ref (zad g 2), .int p0, .int p1] (zPre g x)) (va_Qi (fun (r : Int32) (u : zT) => zMP x u S (zk1 (zinb p0 3 && zinb p1 64)) ∧ (zk1 (zinb p0 3 && zinb p1 64) = 0 → r = nI (zccol p0.toNatClampNeg p1.toNatClampNeg))) (zB g) (zA g)) 0 0 (zA g) := by
  refine z_met (cc := cX6_column) (nL := 3) (ret := (some .int)) hg (by decide) rfl (Nat.le_of_ble_eq_true rfl) ?_
  intro p_ e_ s_ m_ args_ below_ meth_ c_ C hr
  show Z p_ l e_ _ s_ m_ args_ below_ meth_ c_ g 3 0 0 _ x 0 [(0, .ref (zad g 2)), (1, .int p0), (2, .int p1)] []
  refine z_aload_n 0 C dX6_column_0 rfl 0 rfl ?_
  refine z_iload_n 1 C dX6_column_1 rfl 1 rfl ?_
  refine z_iconst (v := nI 3) 2 C dX6_column_2 rfl ?_
  refine z_callSi 3 C (As := [.int p0, .int (nI 3)]) 2 (c_X6_isIn l hg x p0 3 (by omega)) (va_cwS 2 C.1.2.2.2.2 gX6_column_X6_isIn rfl rfl rfl (by decide +kernel) ⟨Nat.le_of_ble_eq_true rfl, Nat.le_of_ble_eq_true rfl⟩) rfl rfl (Nat.le_of_ble_eq_true rfl) ⟨Nat.le_of_ble_eq_true rfl, Nat.le_of_ble_eq_true rfl⟩ dX6_column_3 (fun r u hu => ?_)
  obtain ⟨hu1, hu2⟩ := hu
  subst u
  rcases hu2 with ⟨hr9, hz1⟩ | ⟨hr9, hz1⟩
  · subst r
    obtain ⟨a, ha, hp9⟩ := (zinb_t (by omega)).mp hz1
    subst hp9
    have hcla := nI_clamp (n := a) (by omega)
    refine z_if_eqN 6 C 22 dX6_column_6 (by decide) (by omega) (fun h6 => absurd h6 (by omega)) (fun h6 => ?_)
    refine z_iload_n 9 C dX6_column_9 rfl 2 rfl ?_
    refine z_bipush (v := nI 64) 10 C dX6_column_10 rfl ?_
    refine z_callSi 12 C (As := [.int p1, .int (nI 64)]) 2 (c_X6_isIn l hg x p1 64 (by omega)) (va_cwS 2 C.1.2.2.2.2 gX6_column_X6_isIn rfl rfl rfl (by decide +kernel) ⟨Nat.le_of_ble_eq_true rfl, Nat.le_of_ble_eq_true rfl⟩) rfl rfl (Nat.le_of_ble_eq_true rfl) ⟨Nat.le_of_ble_eq_true rfl, Nat.le_of_ble_eq_true rfl⟩ dX6_column_12 (fun r u hu => ?_)
    obtain ⟨hu1, hu2⟩ := hu
    subst u
    rcases hu2 with ⟨hr9, hz2⟩ | ⟨hr9, hz2⟩
    · subst r
      obtain ⟨i, hi, hp9⟩ := (zinb_t (by omega)).mp hz2
      subst hp9
      have hcli := nI_clamp (n := i) (by omega)
      refine z_if_eqN 15 C 22 dX6_column_15 (by decide) (by omega) (fun h15 => absurd h15 (by omega)) (fun h15 => ?_)
      refine z_iconst (v := nI 0) 18 C dX6_column_18 rfl ?_
      refine z_goto 19 C 23 dX6_column_19 (by decide) ?_
      refine z_callVi 23 C (As := [.int (nI 0)]) 1 kO_model rfl (c_X6_holds l hg x 0 (by decide)) (cwV 1 C.1.2.2.2.2 gX6_column_X6_holds rfl rfl rfl (by decide +kernel) ⟨Nat.le_of_ble_eq_true rfl, Nat.le_of_ble_eq_true rfl⟩) rfl rfl (Nat.le_of_ble_eq_true rfl) ⟨Nat.le_of_ble_eq_true rfl, Nat.le_of_ble_eq_true rfl⟩ dX6_column_23 (fun r u hu => ?_)
      obtain ⟨f3, ef3⟩ : ∃ f9 : Nat → Int32, f9 = upd (x.1 2) 0 (nI 0) := ⟨_, rfl⟩
      obtain ⟨hu1, hu2⟩ : u = (xi x 2 f3) ∧ r = nI 1 := ⟨by rw [hu.1, ef3], hu.2⟩
      subst u
      subst r
      refine z_if_eqN 26 C 37 dX6_column_26 (by decide) (by omega) (fun h26 => absurd h26 (by omega)) (fun h26 => ?_)
      refine z_iload_n 29 C dX6_column_29 rfl 1 rfl ?_
      refine z_iload_n 30 C dX6_column_30 rfl 2 rfl ?_
      refine z_callSi 31 C (As := [.int (nI a), .int (nI i)]) 2 (c_X6_columnOf l hg (xi x 2 f3) a i (by first | decide | omega) (by omega)) (va_cwS 2 C.1.2.2.2.2 gX6_column_X6_columnOf rfl rfl rfl (by decide +kernel) ⟨Nat.le_of_ble_eq_true rfl, Nat.le_of_ble_eq_true rfl⟩) rfl rfl (Nat.le_of_ble_eq_true rfl) ⟨Nat.le_of_ble_eq_true rfl, Nat.le_of_ble_eq_true rfl⟩ dX6_column_31 (fun r u hu => ?_)
      obtain ⟨hu1, hu2⟩ := hu
      subst u
      subst r
      have := zccol_lt a i
      refine z_goto 34 C 38 dX6_column_34 (by decide) ?_
      exact z_iret 38 C hr (zme (by simp [zk1, zk2, zk3, hz1, hcla, hz2, hcli]) (zMP_i hA ef3) (fun _ => (Eq.refl (nI (zccol a i))).trans (by rw [hcla, hcli]))) dX6_column_38
    · subst r
      refine z_if_eqN 15 C 22 dX6_column_15 (by decide) (by omega) (fun h15 => ?_) (fun h15 => absurd h15 (by omega))
      refine z_iconst (v := nI 1) 22 C dX6_column_22 rfl ?_
      refine z_callVi 23 C (As := [.int (nI 1)]) 1 kO_model rfl (c_X6_holds l hg x 1 (by decide)) (cwV 1 C.1.2.2.2.2 gX6_column_X6_holds rfl rfl rfl (by decide +kernel) ⟨Nat.le_of_ble_eq_true rfl, Nat.le_of_ble_eq_true rfl⟩) rfl rfl (Nat.le_of_ble_eq_true rfl) ⟨Nat.le_of_ble_eq_true rfl, Nat.le_of_ble_eq_true rfl⟩ dX6_column_23 (fun r u hu => ?_)
      obtain ⟨f4, ef4⟩ : ∃ f9 : Nat → Int32, f9 = upd (x.1 2) 0 (nI 1) := ⟨_, rfl⟩
      obtain ⟨hu1, hu2⟩ : u = (xi x 2 f4) ∧ r = nI 0 := ⟨by rw [hu.1, ef4], hu.2⟩
      subst u
      subst r
      refine z_if_eqN 26 C 37 dX6_column_26 (by decide) (by omega) (fun h26 => ?_) (fun h26 => absurd h26 (by omega))
      refine z_iconst (v := nI 0) 37 C dX6_column_37 rfl ?_
      exact z_iret 38 C hr (zme (by simp [zk1, zk2, zk3, hz1, hcla, hz2]) (zMP_i hA ef4) (fun h0 => absurd h0 (by decide))) dX6_column_38
  · subst r
    refine z_if_eqN 6 C 22 dX6_column_6 (by decide) (by omega) (fun h6 => ?_) (fun h6 => absurd h6 (by omega))
    refine z_iconst (v := nI 1) 22 C dX6_column_22 rfl ?_
    refine z_callVi 23 C (As := [.int (nI 1)]) 1 kO_model rfl (c_X6_holds l hg x 1 (by decide)) (cwV 1 C.1.2.2.2.2 gX6_column_X6_holds rfl rfl rfl (by decide +kernel) ⟨Nat.le_of_ble_eq_true rfl, Nat.le_of_ble_eq_true rfl⟩) rfl rfl (Nat.le_of_ble_eq_true rfl) ⟨Nat.le_of_ble_eq_true rfl, Nat.le_of_ble_eq_true rfl⟩ dX6_column_23 (fun r u hu => ?_)
    obtain ⟨f5, ef5⟩ : ∃ f9 : Nat → Int32, f9 = upd (x.1 2) 0 (nI 1) := ⟨_, rfl⟩
    obtain ⟨hu1, hu2⟩ : u = (xi x 2 f5) ∧ r = nI 0 := ⟨by rw [hu.1, ef5], hu.2⟩
    subst u
    subst r
    refine z_if_eqN 26 C 37 dX6_column_26 (by decide) (by omega) (fun h26 => ?_) (fun h26 => absurd h26 (by omega))
    refine z_iconst (v := nI 0) 37 C dX6_column_37 rfl ?_
    exact z_iret 38 C hr (zme (by simp [zk1, zk2, zk3, hz1]) (zMP_i hA ef5) (fun h0 => absurd h0 (by decide))) dX6_column_38
set_option maxHeartbeats 4000000 in
set_option maxRecDepth 100000 in
/-- X6_cell -/
theorem c_X6_cell (l : Launch) {g : zG} (hg : zOk g) (x : zT) (S : zS) (hA : zMA x S) (p0 p1 p2 p3 : Int32) : Met l yX6_cell wsX6_cell ({ frames := 2, cells := 0, slots := 0, locals := 41 }) (va_Pc [.ref (zad g 2), .int p0, .int p1, .int p2, .int p3] (zPre g x)) (va_Qi (fun (r : Int32) (u : zT) => zMP x u S (zk1 (zinb p0 4 && (zinb p1 3 && (zinb p2 3 && zinb p3 8)))) ∧ (zk1 (zinb p0 4 && (zinb p1 3 && (zinb p2 3 && zinb p3 8))) = 0 → r = S.2.1 p0.toNatClampNeg (24 * p1.toNatClampNeg + (p2.toNatClampNeg * 8 + p3.toNatClampNeg)))) (zB g) (zA g)) 0 0 (zA g) := by
  refine z_met (cc := cX6_cell) (nL := 6) (ret := (some .int)) hg (by decide) rfl (Nat.le_of_ble_eq_true rfl) ?_
  intro p_ e_ s_ m_ args_ below_ meth_ c_ C hr
  show Z p_ l e_ _ s_ m_ args_ below_ meth_ c_ g 6 0 0 _ x 0 [(0, .ref (zad g 2)), (1, .int p0), (2, .int p1), (3, .int p2), (4, .int p3)] []
  have hw_f16 := C.1.2.2.2.2 (.fieldLink RX6 16 "CountcoteModel" "cells" "[I") (by decide +kernel)
  have hinX6 : ∀ w ∈ wsX60, w ∈ wsX6_cell := by decide +kernel
  refine z_iload_n 0 C dX6_cell_0 rfl 1 rfl ?_
  refine z_callSi 1 C (As := [.int p0]) 1 (c_X6_isStream l hg x p0) (va_cwS 1 C.1.2.2.2.2 gX6_cell_X6_isStream rfl rfl rfl (by decide +kernel) ⟨Nat.le_of_ble_eq_true rfl, Nat.le_of_ble_eq_true rfl⟩) rfl rfl (Nat.le_of_ble_eq_true rfl) ⟨Nat.le_of_ble_eq_true rfl, Nat.le_of_ble_eq_true rfl⟩ dX6_cell_1 (fun r u hu => ?_)
  obtain ⟨hu1, hu2⟩ := hu
  subst u
  rcases hu2 with ⟨hr9, hz1⟩ | ⟨hr9, hz1⟩
  · subst r
    obtain ⟨j, hj, hp9⟩ := (zinb_t (by omega)).mp hz1
    subst hp9
    have hMj := hA j hj
    have hclj := nI_clamp (n := j) (by omega)
    refine z_if_eqN 4 C 37 dX6_cell_4 (by decide) (by omega) (fun h4 => absurd h4 (by omega)) (fun h4 => ?_)
    refine z_iload_n 7 C dX6_cell_7 rfl 2 rfl ?_
    refine z_iconst (v := nI 3) 8 C dX6_cell_8 rfl ?_
    refine z_callSi 9 C (As := [.int p1, .int (nI 3)]) 2 (c_X6_isIn l hg x p1 3 (by omega)) (va_cwS 2 C.1.2.2.2.2 gX6_cell_X6_isIn rfl rfl rfl (by decide +kernel) ⟨Nat.le_of_ble_eq_true rfl, Nat.le_of_ble_eq_true rfl⟩) rfl rfl (Nat.le_of_ble_eq_true rfl) ⟨Nat.le_of_ble_eq_true rfl, Nat.le_of_ble_eq_true rfl⟩ dX6_cell_9 (fun r u hu => ?_)
    obtain ⟨hu1, hu2⟩ := hu
    subst u
    rcases hu2 with ⟨hr9, hz2⟩ | ⟨hr9, hz2⟩
    · subst r
      obtain ⟨k, hk, hp9⟩ := (zinb_t (by omega)).mp hz2
      subst hp9
      have hclk := nI_clamp (n := k) (by omega)
      refine z_if_eqN 12 C 37 dX6_cell_12 (by decide) (by omega) (fun h12 => absurd h12 (by omega)) (fun h12 => ?_)
      refine z_iload_n 15 C dX6_cell_15 rfl 3 rfl ?_
      refine z_iconst (v := nI 3) 16 C dX6_cell_16 rfl ?_
      refine z_callSi 17 C (As := [.int p2, .int (nI 3)]) 2 (c_X6_isIn l hg x p2 3 (by omega)) (va_cwS 2 C.1.2.2.2.2 gX6_cell_X6_isIn rfl rfl rfl (by decide +kernel) ⟨Nat.le_of_ble_eq_true rfl, Nat.le_of_ble_eq_true rfl⟩) rfl rfl (Nat.le_of_ble_eq_true rfl) ⟨Nat.le_of_ble_eq_true rfl, Nat.le_of_ble_eq_true rfl⟩ dX6_cell_17 (fun r u hu => ?_)
      obtain ⟨hu1, hu2⟩ := hu
      subst u
      rcases hu2 with ⟨hr9, hz3⟩ | ⟨hr9, hz3⟩
      · subst r
        obtain ⟨a, ha, hp9⟩ := (zinb_t (by omega)).mp hz3
        subst hp9
        have hcla := nI_clamp (n := a) (by omega)
        refine z_if_eqN 20 C 37 dX6_cell_20 (by decide) (by omega) (fun h20 => absurd h20 (by omega)) (fun h20 => ?_)
        refine z_iload 23 C dX6_cell_23 4 rfl ?_
        refine z_bipush (v := nI 8) 25 C dX6_cell_25 rfl ?_
        refine z_callSi 27 C (As := [.int p3, .int (nI 8)]) 2 (c_X6_isIn l hg x p3 8 (by omega)) (va_cwS 2 C.1.2.2.2.2 gX6_cell_X6_isIn rfl rfl rfl (by decide +kernel) ⟨Nat.le_of_ble_eq_true rfl, Nat.le_of_ble_eq_true rfl⟩) rfl rfl (Nat.le_of_ble_eq_true rfl) ⟨Nat.le_of_ble_eq_true rfl, Nat.le_of_ble_eq_true rfl⟩ dX6_cell_27 (fun r u hu => ?_)
        obtain ⟨hu1, hu2⟩ := hu
        subst u
        rcases hu2 with ⟨hr9, hz4⟩ | ⟨hr9, hz4⟩
        · subst r
          obtain ⟨b, hb, hp9⟩ := (zinb_t (by omega)).mp hz4
          subst hp9
          have hclb := nI_clamp (n := b) (by omega)
          refine z_if_eqN 30 C 37 dX6_cell_30 (by decide) (by omega) (fun h30 => absurd h30 (by omega)) (fun h30 => ?_)
          refine z_iconst (v := nI 1) 33 C dX6_cell_33 rfl ?_
          refine z_goto 34 C 38 dX6_cell_34 (by decide) ?_
          refine z_istore (lv' := [(5, .int (nI 1)), (0, .ref (zad g 2)), (1, .int (nI j)), (2, .int (nI k)), (3, .int (nI a)), (4, .int (nI b))]) 38 C dX6_cell_38 (by decide) rfl ?_
          refine z_aload_n 40 C dX6_cell_40 rfl 1 rfl ?_
          refine z_iload 41 C dX6_cell_41 0 rfl ?_
          refine z_if_eqN 43 C 50 dX6_cell_43 (by decide) (by omega) (fun h43 => absurd h43 (by omega)) (fun h43 => ?_)
          refine z_iconst (v := nI 0) 46 C dX6_cell_46 rfl ?_
          refine z_goto 47 C 51 dX6_cell_47 (by decide) ?_
          refine z_callVi 51 C (As := [.int (nI 0)]) 1 kO_model rfl (c_X6_holds l hg x 0 (by decide)) (cwV 1 C.1.2.2.2.2 gX6_cell_X6_holds rfl rfl rfl (by decide +kernel) ⟨Nat.le_of_ble_eq_true rfl, Nat.le_of_ble_eq_true rfl⟩) rfl rfl (Nat.le_of_ble_eq_true rfl) ⟨Nat.le_of_ble_eq_true rfl, Nat.le_of_ble_eq_true rfl⟩ dX6_cell_51 (fun r u hu => ?_)
          obtain ⟨f5, ef5⟩ : ∃ f9 : Nat → Int32, f9 = upd (x.1 2) 0 (nI 0) := ⟨_, rfl⟩
          obtain ⟨hu1, hu2⟩ : u = (xi x 2 f5) ∧ r = nI 1 := ⟨by rw [hu.1, ef5], hu.2⟩
          subst u
          subst r
          refine z_if_eqN 54 C 73 dX6_cell_54 (by decide) (by omega) (fun h54 => absurd h54 (by omega)) (fun h54 => ?_)
          refine z_aload_n 57 C dX6_cell_57 rfl 1 rfl ?_
          refine z_getr 58 C (ref := "CountcoteModel") (T := TX6) (N := 9) (ci := 6) (q := 3) (kR_model (q := 3) (by decide) (by decide)) rfl hinX6 (by decide) rfl hw_f16 dX6_cell_58 ?_
          refine z_iload_n 61 C dX6_cell_61 rfl 2 rfl ?_
          refine z_iload_n 62 C dX6_cell_62 rfl 3 rfl ?_
          refine z_iload_n 63 C dX6_cell_63 rfl 4 rfl ?_
          refine z_iload 64 C dX6_cell_64 5 rfl ?_
          refine z_callSi 66 C (As := [.int (nI j), .int (nI k), .int (nI a), .int (nI b)]) 4 (c_X6_placeOf l hg (xi x 2 f5) j k a b) (va_cwS 4 C.1.2.2.2.2 gX6_cell_X6_placeOf rfl rfl rfl (by decide +kernel) ⟨Nat.le_of_ble_eq_true rfl, Nat.le_of_ble_eq_true rfl⟩) rfl rfl (Nat.le_of_ble_eq_true rfl) ⟨Nat.le_of_ble_eq_true rfl, Nat.le_of_ble_eq_true rfl⟩ dX6_cell_66 (fun r u hu => ?_)
          obtain ⟨hu1, hu2⟩ := hu
          subst u
          subst r
          refine z_iald (v := (x.1 5) (72 * j + 24 * k + 8 * a + b)) 69 C kI_5 (by omega) (by rw [xi_n _ (by decide)]) dX6_cell_69 ?_
          refine z_goto 70 C 74 dX6_cell_70 (by decide) ?_
          exact z_iret 74 C hr (zme (by simp [zk1, zk2, zk3, hz1, hclj, hz2, hclk, hz3, hcla, hz4, hclb]) (zMP_i hA ef5) (fun _ => (show _ = S.2.1 j (24 * k + (a * 8 + b)) by rw [show 72 * j + 24 * k + 8 * a + b = 72 * j + (24 * k + (a * 8 + b)) by omega]; exact hMj.2.2.1 _ (by omega)).trans (by rw [hclj, hclk, hcla, hclb]))) dX6_cell_74
        · subst r
          refine z_if_eqN 30 C 37 dX6_cell_30 (by decide) (by omega) (fun h30 => ?_) (fun h30 => absurd h30 (by omega))
          refine z_iconst (v := nI 0) 37 C dX6_cell_37 rfl ?_
          refine z_istore (lv' := [(5, .int (nI 0)), (0, .ref (zad g 2)), (1, .int (nI j)), (2, .int (nI k)), (3, .int (nI a)), (4, .int p3)]) 38 C dX6_cell_38 (by decide) rfl ?_
          refine z_aload_n 40 C dX6_cell_40 rfl 1 rfl ?_
          refine z_iload 41 C dX6_cell_41 0 rfl ?_
          refine z_if_eqN 43 C 50 dX6_cell_43 (by decide) (by omega) (fun h43 => ?_) (fun h43 => absurd h43 (by omega))
          refine z_iconst (v := nI 1) 50 C dX6_cell_50 rfl ?_
          refine z_callVi 51 C (As := [.int (nI 1)]) 1 kO_model rfl (c_X6_holds l hg x 1 (by decide)) (cwV 1 C.1.2.2.2.2 gX6_cell_X6_holds rfl rfl rfl (by decide +kernel) ⟨Nat.le_of_ble_eq_true rfl, Nat.le_of_ble_eq_true rfl⟩) rfl rfl (Nat.le_of_ble_eq_true rfl) ⟨Nat.le_of_ble_eq_true rfl, Nat.le_of_ble_eq_true rfl⟩ dX6_cell_51 (fun r u hu => ?_)
          obtain ⟨f6, ef6⟩ : ∃ f9 : Nat → Int32, f9 = upd (x.1 2) 0 (nI 1) := ⟨_, rfl⟩
          obtain ⟨hu1, hu2⟩ : u = (xi x 2 f6) ∧ r = nI 0 := ⟨by rw [hu.1, ef6], hu.2⟩
          subst u
          subst r
          refine z_if_eqN 54 C 73 dX6_cell_54 (by decide) (by omega) (fun h54 => ?_) (fun h54 => absurd h54 (by omega))
          refine z_iconst (v := nI 0) 73 C dX6_cell_73 rfl ?_
          exact z_iret 74 C hr (zme (by simp [zk1, zk2, zk3, hz1, hclj, hz2, hclk, hz3, hcla, hz4]) (zMP_i hA ef6) (fun h0 => absurd h0 (by decide))) dX6_cell_74
      · subst r
        refine z_if_eqN 20 C 37 dX6_cell_20 (by decide) (by omega) (fun h20 => ?_) (fun h20 => absurd h20 (by omega))
        refine z_iconst (v := nI 0) 37 C dX6_cell_37 rfl ?_
        refine z_istore (lv' := [(5, .int (nI 0)), (0, .ref (zad g 2)), (1, .int (nI j)), (2, .int (nI k)), (3, .int p2), (4, .int p3)]) 38 C dX6_cell_38 (by decide) rfl ?_
        refine z_aload_n 40 C dX6_cell_40 rfl 1 rfl ?_
        refine z_iload 41 C dX6_cell_41 0 rfl ?_
        refine z_if_eqN 43 C 50 dX6_cell_43 (by decide) (by omega) (fun h43 => ?_) (fun h43 => absurd h43 (by omega))
        refine z_iconst (v := nI 1) 50 C dX6_cell_50 rfl ?_
        refine z_callVi 51 C (As := [.int (nI 1)]) 1 kO_model rfl (c_X6_holds l hg x 1 (by decide)) (cwV 1 C.1.2.2.2.2 gX6_cell_X6_holds rfl rfl rfl (by decide +kernel) ⟨Nat.le_of_ble_eq_true rfl, Nat.le_of_ble_eq_true rfl⟩) rfl rfl (Nat.le_of_ble_eq_true rfl) ⟨Nat.le_of_ble_eq_true rfl, Nat.le_of_ble_eq_true rfl⟩ dX6_cell_51 (fun r u hu => ?_)
        obtain ⟨f7, ef7⟩ : ∃ f9 : Nat → Int32, f9 = upd (x.1 2) 0 (nI 1) := ⟨_, rfl⟩
        obtain ⟨hu1, hu2⟩ : u = (xi x 2 f7) ∧ r = nI 0 := ⟨by rw [hu.1, ef7], hu.2⟩
        subst u
        subst r
        refine z_if_eqN 54 C 73 dX6_cell_54 (by decide) (by omega) (fun h54 => ?_) (fun h54 => absurd h54 (by omega))
        refine z_iconst (v := nI 0) 73 C dX6_cell_73 rfl ?_
        exact z_iret 74 C hr (zme (by simp [zk1, zk2, zk3, hz1, hclj, hz2, hclk, hz3]) (zMP_i hA ef7) (fun h0 => absurd h0 (by decide))) dX6_cell_74
    · subst r
      refine z_if_eqN 12 C 37 dX6_cell_12 (by decide) (by omega) (fun h12 => ?_) (fun h12 => absurd h12 (by omega))
      refine z_iconst (v := nI 0) 37 C dX6_cell_37 rfl ?_
      refine z_istore (lv' := [(5, .int (nI 0)), (0, .ref (zad g 2)), (1, .int (nI j)), (2, .int p1), (3, .int p2), (4, .int p3)]) 38 C dX6_cell_38 (by decide) rfl ?_
      refine z_aload_n 40 C dX6_cell_40 rfl 1 rfl ?_
      refine z_iload 41 C dX6_cell_41 0 rfl ?_
      refine z_if_eqN 43 C 50 dX6_cell_43 (by decide) (by omega) (fun h43 => ?_) (fun h43 => absurd h43 (by omega))
      refine z_iconst (v := nI 1) 50 C dX6_cell_50 rfl ?_
      refine z_callVi 51 C (As := [.int (nI 1)]) 1 kO_model rfl (c_X6_holds l hg x 1 (by decide)) (cwV 1 C.1.2.2.2.2 gX6_cell_X6_holds rfl rfl rfl (by decide +kernel) ⟨Nat.le_of_ble_eq_true rfl, Nat.le_of_ble_eq_true rfl⟩) rfl rfl (Nat.le_of_ble_eq_true rfl) ⟨Nat.le_of_ble_eq_true rfl, Nat.le_of_ble_eq_true rfl⟩ dX6_cell_51 (fun r u hu => ?_)
      obtain ⟨f8, ef8⟩ : ∃ f9 : Nat → Int32, f9 = upd (x.1 2) 0 (nI 1) := ⟨_, rfl⟩
      obtain ⟨hu1, hu2⟩ : u = (xi x 2 f8) ∧ r = nI 0 := ⟨by rw [hu.1, ef8], hu.2⟩
      subst u
      subst r
      refine z_if_eqN 54 C 73 dX6_cell_54 (by decide) (by omega) (fun h54 => ?_) (fun h54 => absurd h54 (by omega))
      refine z_iconst (v := nI 0) 73 C dX6_cell_73 rfl ?_
      exact z_iret 74 C hr (zme (by simp [zk1, zk2, zk3, hz1, hclj, hz2]) (zMP_i hA ef8) (fun h0 => absurd h0 (by decide))) dX6_cell_74
  · subst r
    refine z_if_eqN 4 C 37 dX6_cell_4 (by decide) (by omega) (fun h4 => ?_) (fun h4 => absurd h4 (by omega))
    refine z_iconst (v := nI 0) 37 C dX6_cell_37 rfl ?_
    refine z_istore (lv' := [(5, .int (nI 0)), (0, .ref (zad g 2)), (1, .int p0), (2, .int p1), (3, .int p2), (4, .int p3)]) 38 C dX6_cell_38 (by decide) rfl ?_
    refine z_aload_n 40 C dX6_cell_40 rfl 1 rfl ?_
    refine z_iload 41 C dX6_cell_41 0 rfl ?_
    refine z_if_eqN 43 C 50 dX6_cell_43 (by decide) (by omega) (fun h43 => ?_) (fun h43 => absurd h43 (by omega))
    refine z_iconst (v := nI 1) 50 C dX6_cell_50 rfl ?_
    refine z_callVi 51 C (As := [.int (nI 1)]) 1 kO_model rfl (c_X6_holds l hg x 1 (by decide)) (cwV 1 C.1.2.2.2.2 gX6_cell_X6_holds rfl rfl rfl (by decide +kernel) ⟨Nat.le_of_ble_eq_true rfl, Nat.le_of_ble_eq_true rfl⟩) rfl rfl (Nat.le_of_ble_eq_true rfl) ⟨Nat.le_of_ble_eq_true rfl, Nat.le_of_ble_eq_true rfl⟩ dX6_cell_51 (fun r u hu => ?_)
    obtain ⟨f9, ef9⟩ : ∃ f9 : Nat → Int32, f9 = upd (x.1 2) 0 (nI 1) := ⟨_, rfl⟩
    obtain ⟨hu1, hu2⟩ : u = (xi x 2 f9) ∧ r = nI 0 := ⟨by rw [hu.1, ef9], hu.2⟩
    subst u
    subst r
    refine z_if_eqN 54 C 73 dX6_cell_54 (by decide) (by omega) (fun h54 => ?_) (fun h54 => absurd h54 (by omega))
    refine z_iconst (v := nI 0) 73 C dX6_cell_73 rfl ?_
    exact z_iret 74 C hr (zme (by simp [zk1, zk2, zk3, hz1]) (zMP_i hA ef9) (fun h0 => absurd h0 (by decide))) dX6_cell_74
set_option maxHeartbeats 4000000 in
set_option maxRecDepth 100000 in
/-- X6_signedColumn -/
theorem c_X6_signedColumn (l : Launch) {g : zG} (hg : zOk g) (x : zT) (S : zS) (hA : zMA x S) (p0 p1 : Int32) : Met l yX6_signedColumn wsX6_signedColumn ({ frames := 1, cells := 0, slots := 0, locals := 23 }) (va_Pc [.ref (zad g 2), .int p0, .int p1] (zPre g x)) (va_Qi (fun (r : Int32) (u : zT) => zMP x u S (zk1 (zinb p0 5 && zinb p1 64)) ∧ (zk1 (zinb p0 5 && zinb p1 64) = 0 → r = nI (zscol p0.toNatClampNeg p1.toNatClampNeg))) (zB g) (zA g)) 0 0 (zA g) := by
  refine z_met (cc := cX6_signedColumn) (nL := 3) (ret := (some .int)) hg (by decide) rfl (Nat.le_of_ble_eq_true rfl) ?_
  intro p_ e_ s_ m_ args_ below_ meth_ c_ C hr
  show Z p_ l e_ _ s_ m_ args_ below_ meth_ c_ g 3 0 0 _ x 0 [(0, .ref (zad g 2)), (1, .int p0), (2, .int p1)] []
  refine z_aload_n 0 C dX6_signedColumn_0 rfl 0 rfl ?_
  refine z_iload_n 1 C dX6_signedColumn_1 rfl 1 rfl ?_
  refine z_iconst (v := nI 5) 2 C dX6_signedColumn_2 rfl ?_
  refine z_callSi 3 C (As := [.int p0, .int (nI 5)]) 2 (c_X6_isIn l hg x p0 5 (by omega)) (va_cwS 2 C.1.2.2.2.2 gX6_signedColumn_X6_isIn rfl rfl rfl (by decide +kernel) ⟨Nat.le_of_ble_eq_true rfl, Nat.le_of_ble_eq_true rfl⟩) rfl rfl (Nat.le_of_ble_eq_true rfl) ⟨Nat.le_of_ble_eq_true rfl, Nat.le_of_ble_eq_true rfl⟩ dX6_signedColumn_3 (fun r u hu => ?_)
  obtain ⟨hu1, hu2⟩ := hu
  subst u
  rcases hu2 with ⟨hr9, hz1⟩ | ⟨hr9, hz1⟩
  · subst r
    obtain ⟨a, ha, hp9⟩ := (zinb_t (by omega)).mp hz1
    subst hp9
    have hcla := nI_clamp (n := a) (by omega)
    refine z_if_eqN 6 C 22 dX6_signedColumn_6 (by decide) (by omega) (fun h6 => absurd h6 (by omega)) (fun h6 => ?_)
    refine z_iload_n 9 C dX6_signedColumn_9 rfl 2 rfl ?_
    refine z_bipush (v := nI 64) 10 C dX6_signedColumn_10 rfl ?_
    refine z_callSi 12 C (As := [.int p1, .int (nI 64)]) 2 (c_X6_isIn l hg x p1 64 (by omega)) (va_cwS 2 C.1.2.2.2.2 gX6_signedColumn_X6_isIn rfl rfl rfl (by decide +kernel) ⟨Nat.le_of_ble_eq_true rfl, Nat.le_of_ble_eq_true rfl⟩) rfl rfl (Nat.le_of_ble_eq_true rfl) ⟨Nat.le_of_ble_eq_true rfl, Nat.le_of_ble_eq_true rfl⟩ dX6_signedColumn_12 (fun r u hu => ?_)
    obtain ⟨hu1, hu2⟩ := hu
    subst u
    rcases hu2 with ⟨hr9, hz2⟩ | ⟨hr9, hz2⟩
    · subst r
      obtain ⟨i, hi, hp9⟩ := (zinb_t (by omega)).mp hz2
      subst hp9
      have hcli := nI_clamp (n := i) (by omega)
      refine z_if_eqN 15 C 22 dX6_signedColumn_15 (by decide) (by omega) (fun h15 => absurd h15 (by omega)) (fun h15 => ?_)
      refine z_iconst (v := nI 0) 18 C dX6_signedColumn_18 rfl ?_
      refine z_goto 19 C 23 dX6_signedColumn_19 (by decide) ?_
      refine z_callVi 23 C (As := [.int (nI 0)]) 1 kO_model rfl (c_X6_holds l hg x 0 (by decide)) (cwV 1 C.1.2.2.2.2 gX6_signedColumn_X6_holds rfl rfl rfl (by decide +kernel) ⟨Nat.le_of_ble_eq_true rfl, Nat.le_of_ble_eq_true rfl⟩) rfl rfl (Nat.le_of_ble_eq_true rfl) ⟨Nat.le_of_ble_eq_true rfl, Nat.le_of_ble_eq_true rfl⟩ dX6_signedColumn_23 (fun r u hu => ?_)
      obtain ⟨f3, ef3⟩ : ∃ f9 : Nat → Int32, f9 = upd (x.1 2) 0 (nI 0) := ⟨_, rfl⟩
      obtain ⟨hu1, hu2⟩ : u = (xi x 2 f3) ∧ r = nI 1 := ⟨by rw [hu.1, ef3], hu.2⟩
      subst u
      subst r
      refine z_if_eqN 26 C 37 dX6_signedColumn_26 (by decide) (by omega) (fun h26 => absurd h26 (by omega)) (fun h26 => ?_)
      refine z_iload_n 29 C dX6_signedColumn_29 rfl 1 rfl ?_
      refine z_iload_n 30 C dX6_signedColumn_30 rfl 2 rfl ?_
      refine z_callSi 31 C (As := [.int (nI a), .int (nI i)]) 2 (c_X6_signedColumnOf l hg (xi x 2 f3) a i (by first | decide | omega) (by omega)) (va_cwS 2 C.1.2.2.2.2 gX6_signedColumn_X6_signedColumnOf rfl rfl rfl (by decide +kernel) ⟨Nat.le_of_ble_eq_true rfl, Nat.le_of_ble_eq_true rfl⟩) rfl rfl (Nat.le_of_ble_eq_true rfl) ⟨Nat.le_of_ble_eq_true rfl, Nat.le_of_ble_eq_true rfl⟩ dX6_signedColumn_31 (fun r u hu => ?_)
      obtain ⟨hu1, hu2⟩ := hu
      subst u
      subst r
      have := zscol_lt a i
      refine z_goto 34 C 38 dX6_signedColumn_34 (by decide) ?_
      exact z_iret 38 C hr (zme (by simp [zk1, zk2, zk3, hz1, hcla, hz2, hcli]) (zMP_i hA ef3) (fun _ => (Eq.refl (nI (zscol a i))).trans (by rw [hcla, hcli]))) dX6_signedColumn_38
    · subst r
      refine z_if_eqN 15 C 22 dX6_signedColumn_15 (by decide) (by omega) (fun h15 => ?_) (fun h15 => absurd h15 (by omega))
      refine z_iconst (v := nI 1) 22 C dX6_signedColumn_22 rfl ?_
      refine z_callVi 23 C (As := [.int (nI 1)]) 1 kO_model rfl (c_X6_holds l hg x 1 (by decide)) (cwV 1 C.1.2.2.2.2 gX6_signedColumn_X6_holds rfl rfl rfl (by decide +kernel) ⟨Nat.le_of_ble_eq_true rfl, Nat.le_of_ble_eq_true rfl⟩) rfl rfl (Nat.le_of_ble_eq_true rfl) ⟨Nat.le_of_ble_eq_true rfl, Nat.le_of_ble_eq_true rfl⟩ dX6_signedColumn_23 (fun r u hu => ?_)
      obtain ⟨f4, ef4⟩ : ∃ f9 : Nat → Int32, f9 = upd (x.1 2) 0 (nI 1) := ⟨_, rfl⟩
      obtain ⟨hu1, hu2⟩ : u = (xi x 2 f4) ∧ r = nI 0 := ⟨by rw [hu.1, ef4], hu.2⟩
      subst u
      subst r
      refine z_if_eqN 26 C 37 dX6_signedColumn_26 (by decide) (by omega) (fun h26 => ?_) (fun h26 => absurd h26 (by omega))
      refine z_iconst (v := nI 0) 37 C dX6_signedColumn_37 rfl ?_
      exact z_iret 38 C hr (zme (by simp [zk1, zk2, zk3, hz1, hcla, hz2]) (zMP_i hA ef4) (fun h0 => absurd h0 (by decide))) dX6_signedColumn_38
  · subst r
    refine z_if_eqN 6 C 22 dX6_signedColumn_6 (by decide) (by omega) (fun h6 => ?_) (fun h6 => absurd h6 (by omega))
    refine z_iconst (v := nI 1) 22 C dX6_signedColumn_22 rfl ?_
    refine z_callVi 23 C (As := [.int (nI 1)]) 1 kO_model rfl (c_X6_holds l hg x 1 (by decide)) (cwV 1 C.1.2.2.2.2 gX6_signedColumn_X6_holds rfl rfl rfl (by decide +kernel) ⟨Nat.le_of_ble_eq_true rfl, Nat.le_of_ble_eq_true rfl⟩) rfl rfl (Nat.le_of_ble_eq_true rfl) ⟨Nat.le_of_ble_eq_true rfl, Nat.le_of_ble_eq_true rfl⟩ dX6_signedColumn_23 (fun r u hu => ?_)
    obtain ⟨f5, ef5⟩ : ∃ f9 : Nat → Int32, f9 = upd (x.1 2) 0 (nI 1) := ⟨_, rfl⟩
    obtain ⟨hu1, hu2⟩ : u = (xi x 2 f5) ∧ r = nI 0 := ⟨by rw [hu.1, ef5], hu.2⟩
    subst u
    subst r
    refine z_if_eqN 26 C 37 dX6_signedColumn_26 (by decide) (by omega) (fun h26 => ?_) (fun h26 => absurd h26 (by omega))
    refine z_iconst (v := nI 0) 37 C dX6_signedColumn_37 rfl ?_
    exact z_iret 38 C hr (zme (by simp [zk1, zk2, zk3, hz1]) (zMP_i hA ef5) (fun h0 => absurd h0 (by decide))) dX6_signedColumn_38
set_option maxHeartbeats 4000000 in
set_option maxRecDepth 100000 in
/-- X6_sign -/
theorem c_X6_sign (l : Launch) {g : zG} (hg : zOk g) (x : zT) (S : zS) (hA : zMA x S) (p0 p1 : Int32) : Met l yX6_sign wsX6_sign ({ frames := 1, cells := 0, slots := 0, locals := 23 }) (va_Pc [.ref (zad g 2), .int p0, .int p1] (zPre g x)) (va_Qi (fun (r : Int32) (u : zT) => zMP x u S (zk1 (zinb p0 5 && zinb p1 64)) ∧ (zk1 (zinb p0 5 && zinb p1 64) = 0 → r = zsg p0.toNatClampNeg p1.toNatClampNeg)) (zB g) (zA g)) 0 0 (zA g) := by
  refine z_met (cc := cX6_sign) (nL := 3) (ret := (some .int)) hg (by decide) rfl (Nat.le_of_ble_eq_true rfl) ?_
  intro p_ e_ s_ m_ args_ below_ meth_ c_ C hr
  show Z p_ l e_ _ s_ m_ args_ below_ meth_ c_ g 3 0 0 _ x 0 [(0, .ref (zad g 2)), (1, .int p0), (2, .int p1)] []
  refine z_aload_n 0 C dX6_sign_0 rfl 0 rfl ?_
  refine z_iload_n 1 C dX6_sign_1 rfl 1 rfl ?_
  refine z_iconst (v := nI 5) 2 C dX6_sign_2 rfl ?_
  refine z_callSi 3 C (As := [.int p0, .int (nI 5)]) 2 (c_X6_isIn l hg x p0 5 (by omega)) (va_cwS 2 C.1.2.2.2.2 gX6_sign_X6_isIn rfl rfl rfl (by decide +kernel) ⟨Nat.le_of_ble_eq_true rfl, Nat.le_of_ble_eq_true rfl⟩) rfl rfl (Nat.le_of_ble_eq_true rfl) ⟨Nat.le_of_ble_eq_true rfl, Nat.le_of_ble_eq_true rfl⟩ dX6_sign_3 (fun r u hu => ?_)
  obtain ⟨hu1, hu2⟩ := hu
  subst u
  rcases hu2 with ⟨hr9, hz1⟩ | ⟨hr9, hz1⟩
  · subst r
    obtain ⟨a, ha, hp9⟩ := (zinb_t (by omega)).mp hz1
    subst hp9
    have hcla := nI_clamp (n := a) (by omega)
    refine z_if_eqN 6 C 22 dX6_sign_6 (by decide) (by omega) (fun h6 => absurd h6 (by omega)) (fun h6 => ?_)
    refine z_iload_n 9 C dX6_sign_9 rfl 2 rfl ?_
    refine z_bipush (v := nI 64) 10 C dX6_sign_10 rfl ?_
    refine z_callSi 12 C (As := [.int p1, .int (nI 64)]) 2 (c_X6_isIn l hg x p1 64 (by omega)) (va_cwS 2 C.1.2.2.2.2 gX6_sign_X6_isIn rfl rfl rfl (by decide +kernel) ⟨Nat.le_of_ble_eq_true rfl, Nat.le_of_ble_eq_true rfl⟩) rfl rfl (Nat.le_of_ble_eq_true rfl) ⟨Nat.le_of_ble_eq_true rfl, Nat.le_of_ble_eq_true rfl⟩ dX6_sign_12 (fun r u hu => ?_)
    obtain ⟨hu1, hu2⟩ := hu
    subst u
    rcases hu2 with ⟨hr9, hz2⟩ | ⟨hr9, hz2⟩
    · subst r
      obtain ⟨i, hi, hp9⟩ := (zinb_t (by omega)).mp hz2
      subst hp9
      have hcli := nI_clamp (n := i) (by omega)
      refine z_if_eqN 15 C 22 dX6_sign_15 (by decide) (by omega) (fun h15 => absurd h15 (by omega)) (fun h15 => ?_)
      refine z_iconst (v := nI 0) 18 C dX6_sign_18 rfl ?_
      refine z_goto 19 C 23 dX6_sign_19 (by decide) ?_
      refine z_callVi 23 C (As := [.int (nI 0)]) 1 kO_model rfl (c_X6_holds l hg x 0 (by decide)) (cwV 1 C.1.2.2.2.2 gX6_sign_X6_holds rfl rfl rfl (by decide +kernel) ⟨Nat.le_of_ble_eq_true rfl, Nat.le_of_ble_eq_true rfl⟩) rfl rfl (Nat.le_of_ble_eq_true rfl) ⟨Nat.le_of_ble_eq_true rfl, Nat.le_of_ble_eq_true rfl⟩ dX6_sign_23 (fun r u hu => ?_)
      obtain ⟨f3, ef3⟩ : ∃ f9 : Nat → Int32, f9 = upd (x.1 2) 0 (nI 0) := ⟨_, rfl⟩
      obtain ⟨hu1, hu2⟩ : u = (xi x 2 f3) ∧ r = nI 1 := ⟨by rw [hu.1, ef3], hu.2⟩
      subst u
      subst r
      refine z_if_eqN 26 C 37 dX6_sign_26 (by decide) (by omega) (fun h26 => absurd h26 (by omega)) (fun h26 => ?_)
      refine z_iload_n 29 C dX6_sign_29 rfl 1 rfl ?_
      refine z_iload_n 30 C dX6_sign_30 rfl 2 rfl ?_
      refine z_callSi 31 C (As := [.int (nI a), .int (nI i)]) 2 (c_X6_signOf l hg (xi x 2 f3) a i (by first | decide | omega) (by omega)) (va_cwS 2 C.1.2.2.2.2 gX6_sign_X6_signOf rfl rfl rfl (by decide +kernel) ⟨Nat.le_of_ble_eq_true rfl, Nat.le_of_ble_eq_true rfl⟩) rfl rfl (Nat.le_of_ble_eq_true rfl) ⟨Nat.le_of_ble_eq_true rfl, Nat.le_of_ble_eq_true rfl⟩ dX6_sign_31 (fun r u hu => ?_)
      obtain ⟨hu1, hu2⟩ := hu
      subst u
      subst r
      refine z_goto 34 C 38 dX6_sign_34 (by decide) ?_
      exact z_iret 38 C hr (zme (by simp [zk1, zk2, zk3, hz1, hcla, hz2, hcli]) (zMP_i hA ef3) (fun _ => (Eq.refl (zsg a i)).trans (by rw [hcla, hcli]))) dX6_sign_38
    · subst r
      refine z_if_eqN 15 C 22 dX6_sign_15 (by decide) (by omega) (fun h15 => ?_) (fun h15 => absurd h15 (by omega))
      refine z_iconst (v := nI 1) 22 C dX6_sign_22 rfl ?_
      refine z_callVi 23 C (As := [.int (nI 1)]) 1 kO_model rfl (c_X6_holds l hg x 1 (by decide)) (cwV 1 C.1.2.2.2.2 gX6_sign_X6_holds rfl rfl rfl (by decide +kernel) ⟨Nat.le_of_ble_eq_true rfl, Nat.le_of_ble_eq_true rfl⟩) rfl rfl (Nat.le_of_ble_eq_true rfl) ⟨Nat.le_of_ble_eq_true rfl, Nat.le_of_ble_eq_true rfl⟩ dX6_sign_23 (fun r u hu => ?_)
      obtain ⟨f4, ef4⟩ : ∃ f9 : Nat → Int32, f9 = upd (x.1 2) 0 (nI 1) := ⟨_, rfl⟩
      obtain ⟨hu1, hu2⟩ : u = (xi x 2 f4) ∧ r = nI 0 := ⟨by rw [hu.1, ef4], hu.2⟩
      subst u
      subst r
      refine z_if_eqN 26 C 37 dX6_sign_26 (by decide) (by omega) (fun h26 => ?_) (fun h26 => absurd h26 (by omega))
      refine z_iconst (v := nI 0) 37 C dX6_sign_37 rfl ?_
      exact z_iret 38 C hr (zme (by simp [zk1, zk2, zk3, hz1, hcla, hz2]) (zMP_i hA ef4) (fun h0 => absurd h0 (by decide))) dX6_sign_38
  · subst r
    refine z_if_eqN 6 C 22 dX6_sign_6 (by decide) (by omega) (fun h6 => ?_) (fun h6 => absurd h6 (by omega))
    refine z_iconst (v := nI 1) 22 C dX6_sign_22 rfl ?_
    refine z_callVi 23 C (As := [.int (nI 1)]) 1 kO_model rfl (c_X6_holds l hg x 1 (by decide)) (cwV 1 C.1.2.2.2.2 gX6_sign_X6_holds rfl rfl rfl (by decide +kernel) ⟨Nat.le_of_ble_eq_true rfl, Nat.le_of_ble_eq_true rfl⟩) rfl rfl (Nat.le_of_ble_eq_true rfl) ⟨Nat.le_of_ble_eq_true rfl, Nat.le_of_ble_eq_true rfl⟩ dX6_sign_23 (fun r u hu => ?_)
    obtain ⟨f5, ef5⟩ : ∃ f9 : Nat → Int32, f9 = upd (x.1 2) 0 (nI 1) := ⟨_, rfl⟩
    obtain ⟨hu1, hu2⟩ : u = (xi x 2 f5) ∧ r = nI 0 := ⟨by rw [hu.1, ef5], hu.2⟩
    subst u
    subst r
    refine z_if_eqN 26 C 37 dX6_sign_26 (by decide) (by omega) (fun h26 => ?_) (fun h26 => absurd h26 (by omega))
    refine z_iconst (v := nI 0) 37 C dX6_sign_37 rfl ?_
    exact z_iret 38 C hr (zme (by simp [zk1, zk2, zk3, hz1]) (zMP_i hA ef5) (fun h0 => absurd h0 (by decide))) dX6_sign_38
set_option maxHeartbeats 4000000 in
set_option maxRecDepth 100000 in
/-- X6_signedCellOf -/
theorem c_X6_signedCellOf (l : Launch) {g : zG} (hg : zOk g) (x : zT) (j r9 col : Nat) (hj : j < 4) (hr9 : r9 < 5) (hcol : col < 8) : Met l yX6_signedCellOf wsX6_signedCellOf ({ frames := 1, cells := 0, slots := 0, locals := 23 }) (va_Pc [.ref (zad g 2), .int (nI j), .int (nI r9), .int (nI col)] (zPre g x)) (va_Qi (fun (r : Int32) (u : zT) => u = x ∧ r = zscr x j r9 col 64) (zB g) (zA g)) 0 0 (zA g) := by
  refine z_met (cc := cX6_signedCellOf) (nL := 6) (ret := (some .int)) hg (by decide) rfl (Nat.le_of_ble_eq_true rfl) ?_
  intro p_ e_ s_ m_ args_ below_ meth_ c_ C hr
  show Z p_ l e_ _ s_ m_ args_ below_ meth_ c_ g 6 0 0 _ x 0 [(0, .ref (zad g 2)), (1, .int (nI j)), (2, .int (nI r9)), (3, .int (nI col))] []
  have hw_f7 := C.1.2.2.2.2 (.fieldLink RX6 7 "CountcoteModel" "counts" "[I") (by decide +kernel)
  have hinX6 : ∀ w ∈ wsX60, w ∈ wsX6_signedCellOf := by decide +kernel
  refine z_iconst (v := nI 0) 0 C dX6_signedCellOf_0 rfl ?_
  refine z_istore (lv' := [(4, .int (nI 0)), (0, .ref (zad g 2)), (1, .int (nI j)), (2, .int (nI r9)), (3, .int (nI col))]) 1 C dX6_signedCellOf_1 (by decide) rfl ?_
  refine z_iconst (v := nI 0) 3 C dX6_signedCellOf_3 rfl ?_
  refine z_istore (lv' := [(5, .int (nI 0)), (4, .int (nI 0)), (0, .ref (zad g 2)), (1, .int (nI j)), (2, .int (nI r9)), (3, .int (nI col))]) 4 C dX6_signedCellOf_4 (by decide) rfl ?_
  have J6 : ∀ (n6 : Nat) (i : Nat) (t : Int32), (i ≤ 64) → (64 < i + n6) → (t = zscr x j r9 col i) → Z p_ l e_ (headSpec wsX6_signedCellOf ({ frames := 1, cells := 0, slots := 0, locals := 23 })).room s_ m_ args_ below_ meth_ c_ g 6 0 0 (MQ below_ (va_Qi (fun (r : Int32) (u : zT) => u = x ∧ r = zscr x j r9 col 64) (zB g) (zA g)) args_ s_ 0 0 (zA g)) x 6 [(0, .ref (zad g 2)), (1, .int (nI j)), (2, .int (nI r9)), (3, .int (nI col)), (4, .int t), (5, .int (nI i))] [] := by
    intro n6
    induction n6 with
    | zero => intro i t hi hn ht; exact absurd hn (by omega)
    | succ n6 ih6 =>
      intro i t hi hn ht
      refine z_iload 6 C dX6_signedCellOf_6 5 rfl ?_
      refine z_bipush (v := nI 64) 8 C dX6_signedCellOf_8 rfl ?_
      refine z_icmp_geN 10 C 57 dX6_signedCellOf_10 (by decide) (by omega) (by omega) (fun h10 => ?_) (fun h10 => ?_)
      · refine z_iload 57 C dX6_signedCellOf_57 4 rfl ?_
        exact z_iret 59 C hr ⟨rfl, by rw [ht, show i = 64 by omega]⟩ dX6_signedCellOf_59
      · refine z_iload 13 C dX6_signedCellOf_13 4 rfl ?_
        refine z_iload_n 15 C dX6_signedCellOf_15 rfl 2 rfl ?_
        refine z_iload 16 C dX6_signedCellOf_16 5 rfl ?_
        refine z_callSi 18 C (As := [.int (nI r9), .int (nI i)]) 2 (c_X6_signedColumnOf l hg x r9 i (by first | decide | omega) (by omega)) (va_cwS 2 C.1.2.2.2.2 gX6_signedCellOf_X6_signedColumnOf rfl rfl rfl (by decide +kernel) ⟨Nat.le_of_ble_eq_true rfl, Nat.le_of_ble_eq_true rfl⟩) rfl rfl (Nat.le_of_ble_eq_true rfl) ⟨Nat.le_of_ble_eq_true rfl, Nat.le_of_ble_eq_true rfl⟩ dX6_signedCellOf_18 (fun r u hu => ?_)
        obtain ⟨hu1, hu2⟩ := hu
        subst u
        subst r
        have := zscol_lt r9 i
        refine z_iload_n 21 C dX6_signedCellOf_21 rfl 3 rfl ?_
        refine z_icmp_neN 22 C 47 dX6_signedCellOf_22 (by decide) (by omega) (by omega) (fun h22 => ?_) (fun h22 => ?_)
        · refine z_iconst (v := nI 0) 47 C dX6_signedCellOf_47 rfl ?_
          refine z_iadd (v := t + (nI 0)) 48 C dX6_signedCellOf_48 rfl ?_
          refine z_istore (lv' := [(4, .int (t + (nI 0))), (0, .ref (zad g 2)), (1, .int (nI j)), (2, .int (nI r9)), (3, .int (nI col)), (5, .int (nI i))]) 49 C dX6_signedCellOf_49 (by decide) rfl ?_
          refine z_iinc (v' := nI (i + 1)) (lv' := [(5, .int (nI (i + 1))), (4, .int (t + (nI 0))), (0, .ref (zad g 2)), (1, .int (nI j)), (2, .int (nI r9)), (3, .int (nI col))]) 51 C dX6_signedCellOf_51 (q := 5) rfl (zn_inc i 1) (by decide) rfl ?_
          refine z_goto 54 C 6 dX6_signedCellOf_54 (by decide) ?_
          refine z_lv (lv' := [(0, .ref (zad g 2)), (1, .int (nI j)), (2, .int (nI r9)), (3, .int (nI col)), (4, .int (t + (nI 0))), (5, .int (nI (i + 1)))]) [2, 3, 4, 5, 1, 0] rfl ?_
          exact ih6 (i + 1) (t + (nI 0)) (by omega) (by omega) (by rw [ht, zscr_s, if_neg h22]; rfl)
        · refine z_iload_n 25 C dX6_signedCellOf_25 rfl 2 rfl ?_
          refine z_iload 26 C dX6_signedCellOf_26 5 rfl ?_
          refine z_callSi 28 C (As := [.int (nI r9), .int (nI i)]) 2 (c_X6_signOf l hg x r9 i (by first | decide | omega) (by omega)) (va_cwS 2 C.1.2.2.2.2 gX6_signedCellOf_X6_signOf rfl rfl rfl (by decide +kernel) ⟨Nat.le_of_ble_eq_true rfl, Nat.le_of_ble_eq_true rfl⟩) rfl rfl (Nat.le_of_ble_eq_true rfl) ⟨Nat.le_of_ble_eq_true rfl, Nat.le_of_ble_eq_true rfl⟩ dX6_signedCellOf_28 (fun r u hu => ?_)
          obtain ⟨hu1, hu2⟩ := hu
          subst u
          subst r
          refine z_aload_n 31 C dX6_signedCellOf_31 rfl 0 rfl ?_
          refine z_getr 32 C (ref := "CountcoteModel") (T := TX6) (N := 9) (ci := 6) (q := 1) (kR_model (q := 1) (by decide) (by decide)) rfl hinX6 (by decide) rfl hw_f7 dX6_signedCellOf_32 ?_
          refine z_bipush (v := nI 64) 35 C dX6_signedCellOf_35 rfl ?_
          refine z_iload_n 37 C dX6_signedCellOf_37 rfl 1 rfl ?_
          refine z_imul (v := nI (64 * j)) 38 C dX6_signedCellOf_38 (pk_mul 64 j) ?_
          refine z_iload 39 C dX6_signedCellOf_39 5 rfl ?_
          refine z_iadd (v := nI ((64 * j) + i)) 41 C dX6_signedCellOf_41 (nI_add (64 * j) i) ?_
          refine z_iald (v := (x.1 3) ((64 * j) + i)) 42 C kI_3 (by omega) rfl dX6_signedCellOf_42 ?_
          refine z_imul (v := (zsg r9 i) * ((x.1 3) ((64 * j) + i))) 43 C dX6_signedCellOf_43 rfl ?_
          refine z_goto 44 C 48 dX6_signedCellOf_44 (by decide) ?_
          refine z_iadd (v := t + ((zsg r9 i) * ((x.1 3) ((64 * j) + i)))) 48 C dX6_signedCellOf_48 rfl ?_
          refine z_istore (lv' := [(4, .int (t + ((zsg r9 i) * ((x.1 3) ((64 * j) + i))))), (0, .ref (zad g 2)), (1, .int (nI j)), (2, .int (nI r9)), (3, .int (nI col)), (5, .int (nI i))]) 49 C dX6_signedCellOf_49 (by decide) rfl ?_
          refine z_iinc (v' := nI (i + 1)) (lv' := [(5, .int (nI (i + 1))), (4, .int (t + ((zsg r9 i) * ((x.1 3) ((64 * j) + i))))), (0, .ref (zad g 2)), (1, .int (nI j)), (2, .int (nI r9)), (3, .int (nI col))]) 51 C dX6_signedCellOf_51 (q := 5) rfl (zn_inc i 1) (by decide) rfl ?_
          refine z_goto 54 C 6 dX6_signedCellOf_54 (by decide) ?_
          refine z_lv (lv' := [(0, .ref (zad g 2)), (1, .int (nI j)), (2, .int (nI r9)), (3, .int (nI col)), (4, .int (t + ((zsg r9 i) * ((x.1 3) ((64 * j) + i))))), (5, .int (nI (i + 1)))]) [2, 3, 4, 5, 1, 0] rfl ?_
          exact ih6 (i + 1) (t + ((zsg r9 i) * ((x.1 3) ((64 * j) + i)))) (by omega) (by omega) (by rw [ht, zscr_s, if_pos h22])
  refine z_lv (lv' := [(0, .ref (zad g 2)), (1, .int (nI j)), (2, .int (nI r9)), (3, .int (nI col)), (4, .int (nI 0)), (5, .int (nI 0))]) [2, 3, 4, 5, 1, 0] rfl ?_
  exact J6 65 0 0 (Nat.zero_le _) (by omega) rfl
set_option maxHeartbeats 4000000 in
set_option maxRecDepth 100000 in
/-- X6_signedCell -/
theorem c_X6_signedCell (l : Launch) {g : zG} (hg : zOk g) (x : zT) (S : zS) (hA : zMA x S) (p0 p1 p2 : Int32) : Met l yX6_signedCell wsX6_signedCell ({ frames := 2, cells := 0, slots := 0, locals := 48 }) (va_Pc [.ref (zad g 2), .int p0, .int p1, .int p2] (zPre g x)) (va_Qi (fun (r : Int32) (u : zT) => zMP x u S (zk1 (zinb p0 4 && (zinb p1 5 && zinb p2 8))) ∧ (zk1 (zinb p0 4 && (zinb p1 5 && zinb p2 8)) = 0 → r = zscell (S.1 p0.toNatClampNeg) p1.toNatClampNeg p2.toNatClampNeg)) (zB g) (zA g)) 0 0 (zA g) := by
  refine z_met (cc := cX6_signedCell) (nL := 5) (ret := (some .int)) hg (by decide) rfl (Nat.le_of_ble_eq_true rfl) ?_
  intro p_ e_ s_ m_ args_ below_ meth_ c_ C hr
  show Z p_ l e_ _ s_ m_ args_ below_ meth_ c_ g 5 0 0 _ x 0 [(0, .ref (zad g 2)), (1, .int p0), (2, .int p1), (3, .int p2)] []
  refine z_iload_n 0 C dX6_signedCell_0 rfl 1 rfl ?_
  refine z_callSi 1 C (As := [.int p0]) 1 (c_X6_isStream l hg x p0) (va_cwS 1 C.1.2.2.2.2 gX6_signedCell_X6_isStream rfl rfl rfl (by decide +kernel) ⟨Nat.le_of_ble_eq_true rfl, Nat.le_of_ble_eq_true rfl⟩) rfl rfl (Nat.le_of_ble_eq_true rfl) ⟨Nat.le_of_ble_eq_true rfl, Nat.le_of_ble_eq_true rfl⟩ dX6_signedCell_1 (fun r u hu => ?_)
  obtain ⟨hu1, hu2⟩ := hu
  subst u
  rcases hu2 with ⟨hr9, hz1⟩ | ⟨hr9, hz1⟩
  · subst r
    obtain ⟨j, hj, hp9⟩ := (zinb_t (by omega)).mp hz1
    subst hp9
    have hMj := hA j hj
    have hclj := nI_clamp (n := j) (by omega)
    refine z_if_eqN 4 C 28 dX6_signedCell_4 (by decide) (by omega) (fun h4 => absurd h4 (by omega)) (fun h4 => ?_)
    refine z_iload_n 7 C dX6_signedCell_7 rfl 2 rfl ?_
    refine z_iconst (v := nI 5) 8 C dX6_signedCell_8 rfl ?_
    refine z_callSi 9 C (As := [.int p1, .int (nI 5)]) 2 (c_X6_isIn l hg x p1 5 (by omega)) (va_cwS 2 C.1.2.2.2.2 gX6_signedCell_X6_isIn rfl rfl rfl (by decide +kernel) ⟨Nat.le_of_ble_eq_true rfl, Nat.le_of_ble_eq_true rfl⟩) rfl rfl (Nat.le_of_ble_eq_true rfl) ⟨Nat.le_of_ble_eq_true rfl, Nat.le_of_ble_eq_true rfl⟩ dX6_signedCell_9 (fun r u hu => ?_)
    obtain ⟨hu1, hu2⟩ := hu
    subst u
    rcases hu2 with ⟨hr9, hz2⟩ | ⟨hr9, hz2⟩
    · subst r
      obtain ⟨a, ha, hp9⟩ := (zinb_t (by omega)).mp hz2
      subst hp9
      have hcla := nI_clamp (n := a) (by omega)
      refine z_if_eqN 12 C 28 dX6_signedCell_12 (by decide) (by omega) (fun h12 => absurd h12 (by omega)) (fun h12 => ?_)
      refine z_iload_n 15 C dX6_signedCell_15 rfl 3 rfl ?_
      refine z_bipush (v := nI 8) 16 C dX6_signedCell_16 rfl ?_
      refine z_callSi 18 C (As := [.int p2, .int (nI 8)]) 2 (c_X6_isIn l hg x p2 8 (by omega)) (va_cwS 2 C.1.2.2.2.2 gX6_signedCell_X6_isIn rfl rfl rfl (by decide +kernel) ⟨Nat.le_of_ble_eq_true rfl, Nat.le_of_ble_eq_true rfl⟩) rfl rfl (Nat.le_of_ble_eq_true rfl) ⟨Nat.le_of_ble_eq_true rfl, Nat.le_of_ble_eq_true rfl⟩ dX6_signedCell_18 (fun r u hu => ?_)
      obtain ⟨hu1, hu2⟩ := hu
      subst u
      rcases hu2 with ⟨hr9, hz3⟩ | ⟨hr9, hz3⟩
      · subst r
        obtain ⟨b, hb, hp9⟩ := (zinb_t (by omega)).mp hz3
        subst hp9
        have hclb := nI_clamp (n := b) (by omega)
        refine z_if_eqN 21 C 28 dX6_signedCell_21 (by decide) (by omega) (fun h21 => absurd h21 (by omega)) (fun h21 => ?_)
        refine z_iconst (v := nI 1) 24 C dX6_signedCell_24 rfl ?_
        refine z_goto 25 C 29 dX6_signedCell_25 (by decide) ?_
        refine z_istore (lv' := [(4, .int (nI 1)), (0, .ref (zad g 2)), (1, .int (nI j)), (2, .int (nI a)), (3, .int (nI b))]) 29 C dX6_signedCell_29 (by decide) rfl ?_
        refine z_aload_n 31 C dX6_signedCell_31 rfl 1 rfl ?_
        refine z_iload 32 C dX6_signedCell_32 0 rfl ?_
        refine z_if_eqN 34 C 41 dX6_signedCell_34 (by decide) (by omega) (fun h34 => absurd h34 (by omega)) (fun h34 => ?_)
        refine z_iconst (v := nI 0) 37 C dX6_signedCell_37 rfl ?_
        refine z_goto 38 C 42 dX6_signedCell_38 (by decide) ?_
        refine z_callVi 42 C (As := [.int (nI 0)]) 1 kO_model rfl (c_X6_holds l hg x 0 (by decide)) (cwV 1 C.1.2.2.2.2 gX6_signedCell_X6_holds rfl rfl rfl (by decide +kernel) ⟨Nat.le_of_ble_eq_true rfl, Nat.le_of_ble_eq_true rfl⟩) rfl rfl (Nat.le_of_ble_eq_true rfl) ⟨Nat.le_of_ble_eq_true rfl, Nat.le_of_ble_eq_true rfl⟩ dX6_signedCell_42 (fun r u hu => ?_)
        obtain ⟨f4, ef4⟩ : ∃ f9 : Nat → Int32, f9 = upd (x.1 2) 0 (nI 0) := ⟨_, rfl⟩
        obtain ⟨hu1, hu2⟩ : u = (xi x 2 f4) ∧ r = nI 1 := ⟨by rw [hu.1, ef4], hu.2⟩
        subst u
        subst r
        refine z_if_eqN 45 C 58 dX6_signedCell_45 (by decide) (by omega) (fun h45 => absurd h45 (by omega)) (fun h45 => ?_)
        refine z_aload_n 48 C dX6_signedCell_48 rfl 1 rfl ?_
        refine z_iload_n 49 C dX6_signedCell_49 rfl 2 rfl ?_
        refine z_iload_n 50 C dX6_signedCell_50 rfl 3 rfl ?_
        refine z_iload_n 51 C dX6_signedCell_51 rfl 4 rfl ?_
        refine z_callVi 52 C (As := [.int (nI j), .int (nI a), .int (nI b)]) 3 kO_model rfl (c_X6_signedCellOf l hg (xi x 2 f4) j a b hj (by omega) (by first | omega | exact zscol_lt _ _)) (cwV 3 C.1.2.2.2.2 gX6_signedCell_X6_signedCellOf rfl rfl rfl (by decide +kernel) ⟨Nat.le_of_ble_eq_true rfl, Nat.le_of_ble_eq_true rfl⟩) rfl rfl (Nat.le_of_ble_eq_true rfl) ⟨Nat.le_of_ble_eq_true rfl, Nat.le_of_ble_eq_true rfl⟩ dX6_signedCell_52 (fun r u hu => ?_)
        obtain ⟨hu1, hu2⟩ : u = (xi x 2 f4) ∧ r = zscell (S.1 j) a b := ⟨hu.1, hu.2.trans (zscr_M (zM_2 hMj))⟩
        subst u
        subst r
        refine z_goto 55 C 59 dX6_signedCell_55 (by decide) ?_
        exact z_iret 59 C hr (zme (by simp [zk1, zk2, zk3, hz1, hclj, hz2, hcla, hz3, hclb]) (zMP_i hA ef4) (fun _ => (Eq.refl (zscell (S.1 j) a b)).trans (by rw [hclj, hcla, hclb]))) dX6_signedCell_59
      · subst r
        refine z_if_eqN 21 C 28 dX6_signedCell_21 (by decide) (by omega) (fun h21 => ?_) (fun h21 => absurd h21 (by omega))
        refine z_iconst (v := nI 0) 28 C dX6_signedCell_28 rfl ?_
        refine z_istore (lv' := [(4, .int (nI 0)), (0, .ref (zad g 2)), (1, .int (nI j)), (2, .int (nI a)), (3, .int p2)]) 29 C dX6_signedCell_29 (by decide) rfl ?_
        refine z_aload_n 31 C dX6_signedCell_31 rfl 1 rfl ?_
        refine z_iload 32 C dX6_signedCell_32 0 rfl ?_
        refine z_if_eqN 34 C 41 dX6_signedCell_34 (by decide) (by omega) (fun h34 => ?_) (fun h34 => absurd h34 (by omega))
        refine z_iconst (v := nI 1) 41 C dX6_signedCell_41 rfl ?_
        refine z_callVi 42 C (As := [.int (nI 1)]) 1 kO_model rfl (c_X6_holds l hg x 1 (by decide)) (cwV 1 C.1.2.2.2.2 gX6_signedCell_X6_holds rfl rfl rfl (by decide +kernel) ⟨Nat.le_of_ble_eq_true rfl, Nat.le_of_ble_eq_true rfl⟩) rfl rfl (Nat.le_of_ble_eq_true rfl) ⟨Nat.le_of_ble_eq_true rfl, Nat.le_of_ble_eq_true rfl⟩ dX6_signedCell_42 (fun r u hu => ?_)
        obtain ⟨f5, ef5⟩ : ∃ f9 : Nat → Int32, f9 = upd (x.1 2) 0 (nI 1) := ⟨_, rfl⟩
        obtain ⟨hu1, hu2⟩ : u = (xi x 2 f5) ∧ r = nI 0 := ⟨by rw [hu.1, ef5], hu.2⟩
        subst u
        subst r
        refine z_if_eqN 45 C 58 dX6_signedCell_45 (by decide) (by omega) (fun h45 => ?_) (fun h45 => absurd h45 (by omega))
        refine z_iconst (v := nI 0) 58 C dX6_signedCell_58 rfl ?_
        exact z_iret 59 C hr (zme (by simp [zk1, zk2, zk3, hz1, hclj, hz2, hcla, hz3]) (zMP_i hA ef5) (fun h0 => absurd h0 (by decide))) dX6_signedCell_59
    · subst r
      refine z_if_eqN 12 C 28 dX6_signedCell_12 (by decide) (by omega) (fun h12 => ?_) (fun h12 => absurd h12 (by omega))
      refine z_iconst (v := nI 0) 28 C dX6_signedCell_28 rfl ?_
      refine z_istore (lv' := [(4, .int (nI 0)), (0, .ref (zad g 2)), (1, .int (nI j)), (2, .int p1), (3, .int p2)]) 29 C dX6_signedCell_29 (by decide) rfl ?_
      refine z_aload_n 31 C dX6_signedCell_31 rfl 1 rfl ?_
      refine z_iload 32 C dX6_signedCell_32 0 rfl ?_
      refine z_if_eqN 34 C 41 dX6_signedCell_34 (by decide) (by omega) (fun h34 => ?_) (fun h34 => absurd h34 (by omega))
      refine z_iconst (v := nI 1) 41 C dX6_signedCell_41 rfl ?_
      refine z_callVi 42 C (As := [.int (nI 1)]) 1 kO_model rfl (c_X6_holds l hg x 1 (by decide)) (cwV 1 C.1.2.2.2.2 gX6_signedCell_X6_holds rfl rfl rfl (by decide +kernel) ⟨Nat.le_of_ble_eq_true rfl, Nat.le_of_ble_eq_true rfl⟩) rfl rfl (Nat.le_of_ble_eq_true rfl) ⟨Nat.le_of_ble_eq_true rfl, Nat.le_of_ble_eq_true rfl⟩ dX6_signedCell_42 (fun r u hu => ?_)
      obtain ⟨f6, ef6⟩ : ∃ f9 : Nat → Int32, f9 = upd (x.1 2) 0 (nI 1) := ⟨_, rfl⟩
      obtain ⟨hu1, hu2⟩ : u = (xi x 2 f6) ∧ r = nI 0 := ⟨by rw [hu.1, ef6], hu.2⟩
      subst u
      subst r
      refine z_if_eqN 45 C 58 dX6_signedCell_45 (by decide) (by omega) (fun h45 => ?_) (fun h45 => absurd h45 (by omega))
      refine z_iconst (v := nI 0) 58 C dX6_signedCell_58 rfl ?_
      exact z_iret 59 C hr (zme (by simp [zk1, zk2, zk3, hz1, hclj, hz2]) (zMP_i hA ef6) (fun h0 => absurd h0 (by decide))) dX6_signedCell_59
  · subst r
    refine z_if_eqN 4 C 28 dX6_signedCell_4 (by decide) (by omega) (fun h4 => ?_) (fun h4 => absurd h4 (by omega))
    refine z_iconst (v := nI 0) 28 C dX6_signedCell_28 rfl ?_
    refine z_istore (lv' := [(4, .int (nI 0)), (0, .ref (zad g 2)), (1, .int p0), (2, .int p1), (3, .int p2)]) 29 C dX6_signedCell_29 (by decide) rfl ?_
    refine z_aload_n 31 C dX6_signedCell_31 rfl 1 rfl ?_
    refine z_iload 32 C dX6_signedCell_32 0 rfl ?_
    refine z_if_eqN 34 C 41 dX6_signedCell_34 (by decide) (by omega) (fun h34 => ?_) (fun h34 => absurd h34 (by omega))
    refine z_iconst (v := nI 1) 41 C dX6_signedCell_41 rfl ?_
    refine z_callVi 42 C (As := [.int (nI 1)]) 1 kO_model rfl (c_X6_holds l hg x 1 (by decide)) (cwV 1 C.1.2.2.2.2 gX6_signedCell_X6_holds rfl rfl rfl (by decide +kernel) ⟨Nat.le_of_ble_eq_true rfl, Nat.le_of_ble_eq_true rfl⟩) rfl rfl (Nat.le_of_ble_eq_true rfl) ⟨Nat.le_of_ble_eq_true rfl, Nat.le_of_ble_eq_true rfl⟩ dX6_signedCell_42 (fun r u hu => ?_)
    obtain ⟨f7, ef7⟩ : ∃ f9 : Nat → Int32, f9 = upd (x.1 2) 0 (nI 1) := ⟨_, rfl⟩
    obtain ⟨hu1, hu2⟩ : u = (xi x 2 f7) ∧ r = nI 0 := ⟨by rw [hu.1, ef7], hu.2⟩
    subst u
    subst r
    refine z_if_eqN 45 C 58 dX6_signedCell_45 (by decide) (by omega) (fun h45 => ?_) (fun h45 => absurd h45 (by omega))
    refine z_iconst (v := nI 0) 58 C dX6_signedCell_58 rfl ?_
    exact z_iret 59 C hr (zme (by simp [zk1, zk2, zk3, hz1]) (zMP_i hA ef7) (fun h0 => absurd h0 (by decide))) dX6_signedCell_59
set_option maxHeartbeats 4000000 in
set_option maxRecDepth 100000 in
/-- X6_middle -/
theorem c_X6_middle (l : Launch) {g : zG} (hg : zOk g) (x : zT) (m : Int64) (hm : zMid (x.2.1 10) m) : Met l yX6_middle wsX6_middle ({ frames := 0, cells := 0, slots := 0, locals := 0 }) (va_Pc [.ref (zad g 2)] (zPre g x)) (va_Ql (fun (r : Int64) (u : zT) => u = x ∧ r = m) (zB g) (zA g)) 0 0 (zA g) := by
  refine z_met (cc := cX6_middle) (nL := 7) (ret := (some .long)) hg (by decide) rfl (Nat.le_of_ble_eq_true rfl) ?_
  intro p_ e_ s_ m_ args_ below_ meth_ c_ C hr
  show Z p_ l e_ _ s_ m_ args_ below_ meth_ c_ g 7 0 0 _ x 0 [(0, .ref (zad g 2))] []
  have hw_f31 := C.1.2.2.2.2 (.fieldLink RX6 31 "CountcoteModel" "five" "[J") (by decide +kernel)
  have hinX6 : ∀ w ∈ wsX60, w ∈ wsX6_middle := by decide +kernel
  refine z_lconst (v := 0) 0 C dX6_middle_0 rfl ?_
  refine z_lstore_n (lv' := [(1, .long 0), (0, .ref (zad g 2))]) 1 C dX6_middle_1 rfl (by decide) rfl ?_
  refine z_iconst (v := nI 0) 2 C dX6_middle_2 rfl ?_
  refine z_istore_n (lv' := [(3, .int (nI 0)), (1, .long 0), (0, .ref (zad g 2))]) 3 C dX6_middle_3 rfl (by decide) rfl ?_
  have J4 : ∀ (n4 : Nat) (k : Nat) (t : Int64), (k ≤ 5) → (5 < k + n4) → (t = m ∨ ∀ q, q < k → (x.2.1 10) q ≠ m) → Z p_ l e_ (headSpec wsX6_middle ({ frames := 0, cells := 0, slots := 0, locals := 0 })).room s_ m_ args_ below_ meth_ c_ g 7 0 0 (MQ below_ (va_Ql (fun (r : Int64) (u : zT) => u = x ∧ r = m) (zB g) (zA g)) args_ s_ 0 0 (zA g)) x 4 [(0, .ref (zad g 2)), (1, .long t), (3, .int (nI k))] [] := by
    intro n4
    induction n4 with
    | zero => intro k t hk hn hp; exact absurd hn (by omega)
    | succ n4 ih4 =>
      intro k t hk hn hp
      refine z_iload_n 4 C dX6_middle_4 rfl 2 rfl ?_
      refine z_iconst (v := nI 5) 5 C dX6_middle_5 rfl ?_
      refine z_icmp_geN 6 C 113 dX6_middle_6 (by decide) (by omega) (by omega) (fun h6 => ?_) (fun h6 => ?_)
      · refine z_lload_n 113 C dX6_middle_113 rfl 1 rfl ?_
        exact z_lret 114 C hr ⟨rfl, zmid_end hm (by omega) hp⟩ dX6_middle_114
      · refine z_iconst (v := nI 0) 9 C dX6_middle_9 rfl ?_
        refine z_istore (lv' := [(4, .int (nI 0)), (0, .ref (zad g 2)), (1, .long t), (3, .int (nI k))]) 10 C dX6_middle_10 (by decide) rfl ?_
        refine z_iconst (v := nI 0) 12 C dX6_middle_12 rfl ?_
        refine z_istore (lv' := [(5, .int (nI 0)), (4, .int (nI 0)), (0, .ref (zad g 2)), (1, .long t), (3, .int (nI k))]) 13 C dX6_middle_13 (by decide) rfl ?_
        refine z_iconst (v := nI 0) 15 C dX6_middle_15 rfl ?_
        refine z_istore (lv' := [(6, .int (nI 0)), (5, .int (nI 0)), (4, .int (nI 0)), (0, .ref (zad g 2)), (1, .long t), (3, .int (nI k))]) 16 C dX6_middle_16 (by decide) rfl ?_
        have J18 : ∀ (n18 : Nat) (i : Nat) (a : Nat) (b : Nat), (i ≤ 5) → (5 < i + n18) → (a = zlt (x.2.1 10) ((x.2.1 10) k) i) → (b = zgt (x.2.1 10) ((x.2.1 10) k) i) → Z p_ l e_ (headSpec wsX6_middle ({ frames := 0, cells := 0, slots := 0, locals := 0 })).room s_ m_ args_ below_ meth_ c_ g 7 0 0 (MQ below_ (va_Ql (fun (r : Int64) (u : zT) => u = x ∧ r = m) (zB g) (zA g)) args_ s_ 0 0 (zA g)) x 18 [(0, .ref (zad g 2)), (1, .long t), (3, .int (nI k)), (4, .int (nI a)), (5, .int (nI b)), (6, .int (nI i))] [] := by
          intro n18
          induction n18 with
          | zero => intro i a b hi9 hn ha9 hb9; exact absurd hn (by omega)
          | succ n18 ih18 =>
            intro i a b hi9 hn ha9 hb9
            refine z_iload 18 C dX6_middle_18 5 rfl ?_
            refine z_iconst (v := nI 5) 20 C dX6_middle_20 rfl ?_
            refine z_icmp_geN 21 C 84 dX6_middle_21 (by decide) (by omega) (by omega) (fun h21 => ?_) (fun h21 => ?_)
            · have hb8 := zlt_le (x.2.1 10) ((x.2.1 10) k) i
              have hb7 := zgt_le (x.2.1 10) ((x.2.1 10) k) i
              refine z_iload 84 C dX6_middle_84 3 rfl ?_
              refine z_iconst (v := nI 2) 86 C dX6_middle_86 rfl ?_
              refine z_icmp_gtN 87 C 105 dX6_middle_87 (by decide) (by omega) (by omega) (fun h87 => ?_) (fun h87 => ?_)
              · refine z_lload_n 105 C dX6_middle_105 rfl 1 rfl ?_
                refine z_lstore_n (lv' := [(1, .long t), (0, .ref (zad g 2)), (3, .int (nI k)), (4, .int (nI a)), (5, .int (nI b)), (6, .int (nI i))]) 106 C dX6_middle_106 rfl (by decide) rfl ?_
                refine z_iinc (v' := nI (k + 1)) (lv' := [(3, .int (nI (k + 1))), (1, .long t), (0, .ref (zad g 2)), (4, .int (nI a)), (5, .int (nI b)), (6, .int (nI i))]) 107 C dX6_middle_107 (q := 2) rfl (zn_inc k 1) (by decide) rfl ?_
                refine z_goto 110 C 4 dX6_middle_110 (by decide) ?_
                refine z_lv (lv' := [(0, .ref (zad g 2)), (1, .long t), (3, .int (nI (k + 1)))]) [2, 1, 0] rfl ?_
                exact ih4 (k + 1) t (by omega) (by omega) (zmid_step hp (zmid_n hm (fun z => by rw [show i = 5 by omega] at ha9 hb9; omega)))
              · refine z_iload 90 C dX6_middle_90 4 rfl ?_
                refine z_iconst (v := nI 2) 92 C dX6_middle_92 rfl ?_
                refine z_icmp_gtN 93 C 105 dX6_middle_93 (by decide) (by omega) (by omega) (fun h93 => ?_) (fun h93 => ?_)
                · refine z_lload_n 105 C dX6_middle_105 rfl 1 rfl ?_
                  refine z_lstore_n (lv' := [(1, .long t), (0, .ref (zad g 2)), (3, .int (nI k)), (4, .int (nI a)), (5, .int (nI b)), (6, .int (nI i))]) 106 C dX6_middle_106 rfl (by decide) rfl ?_
                  refine z_iinc (v' := nI (k + 1)) (lv' := [(3, .int (nI (k + 1))), (1, .long t), (0, .ref (zad g 2)), (4, .int (nI a)), (5, .int (nI b)), (6, .int (nI i))]) 107 C dX6_middle_107 (q := 2) rfl (zn_inc k 1) (by decide) rfl ?_
                  refine z_goto 110 C 4 dX6_middle_110 (by decide) ?_
                  refine z_lv (lv' := [(0, .ref (zad g 2)), (1, .long t), (3, .int (nI (k + 1)))]) [2, 1, 0] rfl ?_
                  exact ih4 (k + 1) t (by omega) (by omega) (zmid_step hp (zmid_n hm (fun z => by rw [show i = 5 by omega] at ha9 hb9; omega)))
                · refine z_aload_n 96 C dX6_middle_96 rfl 0 rfl ?_
                  refine z_getr 97 C (ref := "CountcoteModel") (T := TX6) (N := 9) (ci := 6) (q := 8) (kR_model (q := 8) (by decide) (by decide)) rfl hinX6 (by decide) rfl hw_f31 dX6_middle_97 ?_
                  refine z_iload_n 100 C dX6_middle_100 rfl 2 rfl ?_
                  refine z_lald (v := (x.2.1 10) k) 101 C kL_10 (by omega) rfl dX6_middle_101 ?_
                  refine z_goto 102 C 106 dX6_middle_102 (by decide) ?_
                  refine z_lstore_n (lv' := [(1, .long ((x.2.1 10) k)), (0, .ref (zad g 2)), (3, .int (nI k)), (4, .int (nI a)), (5, .int (nI b)), (6, .int (nI i))]) 106 C dX6_middle_106 rfl (by decide) rfl ?_
                  refine z_iinc (v' := nI (k + 1)) (lv' := [(3, .int (nI (k + 1))), (1, .long ((x.2.1 10) k)), (0, .ref (zad g 2)), (4, .int (nI a)), (5, .int (nI b)), (6, .int (nI i))]) 107 C dX6_middle_107 (q := 2) rfl (zn_inc k 1) (by decide) rfl ?_
                  refine z_goto 110 C 4 dX6_middle_110 (by decide) ?_
                  refine z_lv (lv' := [(0, .ref (zad g 2)), (1, .long ((x.2.1 10) k)), (3, .int (nI (k + 1)))]) [2, 1, 0] rfl ?_
                  exact ih4 (k + 1) ((x.2.1 10) k) (by omega) (by omega) (Or.inl (zmid_y hm (by omega) (by rw [show i = 5 by omega] at ha9; omega) (by rw [show i = 5 by omega] at hb9; omega)))
            · refine z_iload 24 C dX6_middle_24 3 rfl ?_
              refine z_aload_n 26 C dX6_middle_26 rfl 0 rfl ?_
              refine z_getr 27 C (ref := "CountcoteModel") (T := TX6) (N := 9) (ci := 6) (q := 8) (kR_model (q := 8) (by decide) (by decide)) rfl hinX6 (by decide) rfl hw_f31 dX6_middle_27 ?_
              refine z_iload 30 C dX6_middle_30 5 rfl ?_
              refine z_lald (v := (x.2.1 10) i) 32 C kL_10 (by omega) rfl dX6_middle_32 ?_
              refine z_aload_n 33 C dX6_middle_33 rfl 0 rfl ?_
              refine z_getr 34 C (ref := "CountcoteModel") (T := TX6) (N := 9) (ci := 6) (q := 8) (kR_model (q := 8) (by decide) (by decide)) rfl hinX6 (by decide) rfl hw_f31 dX6_middle_34 ?_
              refine z_iload_n 37 C dX6_middle_37 rfl 2 rfl ?_
              refine z_lald (v := (x.2.1 10) k) 38 C kL_10 (by omega) rfl dX6_middle_38 ?_
              have hb8 := zlt_le (x.2.1 10) ((x.2.1 10) k) i
              have hb7 := zgt_le (x.2.1 10) ((x.2.1 10) k) i
              refine z_lcmp (v := lg_cmp ((x.2.1 10) i) ((x.2.1 10) k)) 39 C dX6_middle_39 rfl ?_
              refine z_if_ge 40 C 47 dX6_middle_40 (by decide) (fun h40 => ?_) (fun h40 => ?_)
              · refine z_iconst (v := nI 0) 47 C dX6_middle_47 rfl ?_
                refine z_iadd (v := nI (a + 0)) 48 C dX6_middle_48 (nI_add a 0) ?_
                refine z_istore (lv' := [(4, .int (nI (a + 0))), (0, .ref (zad g 2)), (1, .long t), (3, .int (nI k)), (5, .int (nI b)), (6, .int (nI i))]) 49 C dX6_middle_49 (by decide) rfl ?_
                refine z_iload 51 C dX6_middle_51 4 rfl ?_
                refine z_aload_n 53 C dX6_middle_53 rfl 1 rfl ?_
                refine z_getr 54 C (ref := "CountcoteModel") (T := TX6) (N := 9) (ci := 6) (q := 8) (kR_model (q := 8) (by decide) (by decide)) rfl hinX6 (by decide) rfl hw_f31 dX6_middle_54 ?_
                refine z_iload 57 C dX6_middle_57 5 rfl ?_
                refine z_lald (v := (x.2.1 10) i) 59 C kL_10 (by omega) rfl dX6_middle_59 ?_
                refine z_aload_n 60 C dX6_middle_60 rfl 1 rfl ?_
                refine z_getr 61 C (ref := "CountcoteModel") (T := TX6) (N := 9) (ci := 6) (q := 8) (kR_model (q := 8) (by decide) (by decide)) rfl hinX6 (by decide) rfl hw_f31 dX6_middle_61 ?_
                refine z_iload_n 64 C dX6_middle_64 rfl 3 rfl ?_
                refine z_lald (v := (x.2.1 10) k) 65 C kL_10 (by omega) rfl dX6_middle_65 ?_
                refine z_lcmp (v := lg_cmp ((x.2.1 10) i) ((x.2.1 10) k)) 66 C dX6_middle_66 rfl ?_
                refine z_if_le 67 C 74 dX6_middle_67 (by decide) (fun h67 => ?_) (fun h67 => ?_)
                · refine z_iconst (v := nI 0) 74 C dX6_middle_74 rfl ?_
                  refine z_iadd (v := nI (b + 0)) 75 C dX6_middle_75 (nI_add b 0) ?_
                  refine z_istore (lv' := [(5, .int (nI (b + 0))), (4, .int (nI (a + 0))), (0, .ref (zad g 2)), (1, .long t), (3, .int (nI k)), (6, .int (nI i))]) 76 C dX6_middle_76 (by decide) rfl ?_
                  refine z_iinc (v' := nI (i + 1)) (lv' := [(6, .int (nI (i + 1))), (5, .int (nI (b + 0))), (4, .int (nI (a + 0))), (0, .ref (zad g 2)), (1, .long t), (3, .int (nI k))]) 78 C dX6_middle_78 (q := 5) rfl (zn_inc i 1) (by decide) rfl ?_
                  refine z_goto 81 C 18 dX6_middle_81 (by decide) ?_
                  refine z_lv (lv' := [(0, .ref (zad g 2)), (1, .long t), (3, .int (nI k)), (4, .int (nI (a + 0))), (5, .int (nI (b + 0))), (6, .int (nI (i + 1)))]) [3, 4, 5, 2, 1, 0] rfl ?_
                  exact ih18 (i + 1) (a + 0) (b + 0) (by omega) (by omega) (zlt_s0 ha9 h40) (zgt_s0 hb9 h67)
                · refine z_iconst (v := nI 1) 70 C dX6_middle_70 rfl ?_
                  refine z_goto 71 C 75 dX6_middle_71 (by decide) ?_
                  refine z_iadd (v := nI (b + 1)) 75 C dX6_middle_75 (nI_add b 1) ?_
                  refine z_istore (lv' := [(5, .int (nI (b + 1))), (4, .int (nI (a + 0))), (0, .ref (zad g 2)), (1, .long t), (3, .int (nI k)), (6, .int (nI i))]) 76 C dX6_middle_76 (by decide) rfl ?_
                  refine z_iinc (v' := nI (i + 1)) (lv' := [(6, .int (nI (i + 1))), (5, .int (nI (b + 1))), (4, .int (nI (a + 0))), (0, .ref (zad g 2)), (1, .long t), (3, .int (nI k))]) 78 C dX6_middle_78 (q := 5) rfl (zn_inc i 1) (by decide) rfl ?_
                  refine z_goto 81 C 18 dX6_middle_81 (by decide) ?_
                  refine z_lv (lv' := [(0, .ref (zad g 2)), (1, .long t), (3, .int (nI k)), (4, .int (nI (a + 0))), (5, .int (nI (b + 1))), (6, .int (nI (i + 1)))]) [3, 4, 5, 2, 1, 0] rfl ?_
                  exact ih18 (i + 1) (a + 0) (b + 1) (by omega) (by omega) (zlt_s0 ha9 h40) (zgt_s1 hb9 h67)
              · refine z_iconst (v := nI 1) 43 C dX6_middle_43 rfl ?_
                refine z_goto 44 C 48 dX6_middle_44 (by decide) ?_
                refine z_iadd (v := nI (a + 1)) 48 C dX6_middle_48 (nI_add a 1) ?_
                refine z_istore (lv' := [(4, .int (nI (a + 1))), (0, .ref (zad g 2)), (1, .long t), (3, .int (nI k)), (5, .int (nI b)), (6, .int (nI i))]) 49 C dX6_middle_49 (by decide) rfl ?_
                refine z_iload 51 C dX6_middle_51 4 rfl ?_
                refine z_aload_n 53 C dX6_middle_53 rfl 1 rfl ?_
                refine z_getr 54 C (ref := "CountcoteModel") (T := TX6) (N := 9) (ci := 6) (q := 8) (kR_model (q := 8) (by decide) (by decide)) rfl hinX6 (by decide) rfl hw_f31 dX6_middle_54 ?_
                refine z_iload 57 C dX6_middle_57 5 rfl ?_
                refine z_lald (v := (x.2.1 10) i) 59 C kL_10 (by omega) rfl dX6_middle_59 ?_
                refine z_aload_n 60 C dX6_middle_60 rfl 1 rfl ?_
                refine z_getr 61 C (ref := "CountcoteModel") (T := TX6) (N := 9) (ci := 6) (q := 8) (kR_model (q := 8) (by decide) (by decide)) rfl hinX6 (by decide) rfl hw_f31 dX6_middle_61 ?_
                refine z_iload_n 64 C dX6_middle_64 rfl 3 rfl ?_
                refine z_lald (v := (x.2.1 10) k) 65 C kL_10 (by omega) rfl dX6_middle_65 ?_
                refine z_lcmp (v := lg_cmp ((x.2.1 10) i) ((x.2.1 10) k)) 66 C dX6_middle_66 rfl ?_
                refine z_if_le 67 C 74 dX6_middle_67 (by decide) (fun h67 => ?_) (fun h67 => ?_)
                · refine z_iconst (v := nI 0) 74 C dX6_middle_74 rfl ?_
                  refine z_iadd (v := nI (b + 0)) 75 C dX6_middle_75 (nI_add b 0) ?_
                  refine z_istore (lv' := [(5, .int (nI (b + 0))), (4, .int (nI (a + 1))), (0, .ref (zad g 2)), (1, .long t), (3, .int (nI k)), (6, .int (nI i))]) 76 C dX6_middle_76 (by decide) rfl ?_
                  refine z_iinc (v' := nI (i + 1)) (lv' := [(6, .int (nI (i + 1))), (5, .int (nI (b + 0))), (4, .int (nI (a + 1))), (0, .ref (zad g 2)), (1, .long t), (3, .int (nI k))]) 78 C dX6_middle_78 (q := 5) rfl (zn_inc i 1) (by decide) rfl ?_
                  refine z_goto 81 C 18 dX6_middle_81 (by decide) ?_
                  refine z_lv (lv' := [(0, .ref (zad g 2)), (1, .long t), (3, .int (nI k)), (4, .int (nI (a + 1))), (5, .int (nI (b + 0))), (6, .int (nI (i + 1)))]) [3, 4, 5, 2, 1, 0] rfl ?_
                  exact ih18 (i + 1) (a + 1) (b + 0) (by omega) (by omega) (zlt_s1 ha9 (Int32.not_le.mp h40)) (zgt_s0 hb9 h67)
                · refine z_iconst (v := nI 1) 70 C dX6_middle_70 rfl ?_
                  refine z_goto 71 C 75 dX6_middle_71 (by decide) ?_
                  refine z_iadd (v := nI (b + 1)) 75 C dX6_middle_75 (nI_add b 1) ?_
                  refine z_istore (lv' := [(5, .int (nI (b + 1))), (4, .int (nI (a + 1))), (0, .ref (zad g 2)), (1, .long t), (3, .int (nI k)), (6, .int (nI i))]) 76 C dX6_middle_76 (by decide) rfl ?_
                  refine z_iinc (v' := nI (i + 1)) (lv' := [(6, .int (nI (i + 1))), (5, .int (nI (b + 1))), (4, .int (nI (a + 1))), (0, .ref (zad g 2)), (1, .long t), (3, .int (nI k))]) 78 C dX6_middle_78 (q := 5) rfl (zn_inc i 1) (by decide) rfl ?_
                  refine z_goto 81 C 18 dX6_middle_81 (by decide) ?_
                  refine z_lv (lv' := [(0, .ref (zad g 2)), (1, .long t), (3, .int (nI k)), (4, .int (nI (a + 1))), (5, .int (nI (b + 1))), (6, .int (nI (i + 1)))]) [3, 4, 5, 2, 1, 0] rfl ?_
                  exact ih18 (i + 1) (a + 1) (b + 1) (by omega) (by omega) (zlt_s1 ha9 (Int32.not_le.mp h40)) (zgt_s1 hb9 h67)
        refine z_lv (lv' := [(0, .ref (zad g 2)), (1, .long t), (3, .int (nI k)), (4, .int (nI 0)), (5, .int (nI 0)), (6, .int (nI 0))]) [3, 4, 5, 2, 1, 0] rfl ?_
        exact J18 6 0 0 0 (Nat.zero_le _) (by omega) rfl rfl
  refine z_lv (lv' := [(0, .ref (zad g 2)), (1, .long 0), (3, .int (nI 0))]) [2, 1, 0] rfl ?_
  exact J4 6 0 0 (Nat.zero_le _) (by omega) (Or.inr (fun q h => absurd h (Nat.not_lt_zero q)))
theorem zsg_mul {r i : Nat} {v : Int32} (h : v ≠ -2147483648) : (zsg r i).toInt64 * v.toInt64 = (zsg r i * v).toInt64 := by
  unfold zsg
  by_cases c : zspar r i = 0
  · rw [if_pos c, Int32.one_mul]
    exact Int64.one_mul _
  · rw [if_neg c, Int32.neg_mul, Int32.one_mul, Int32.toInt64_neg_of_ne h]
    show (-1 : Int64) * _ = _
    rw [Int64.neg_mul, Int64.one_mul]
set_option maxHeartbeats 4000000 in
set_option maxRecDepth 100000 in
/-- X6_signedEstimate -/
theorem c_X6_signedEstimate (l : Launch) {g : zG} (hg : zOk g) (x : zT) (S : zS) (hA : zMA x S) (p0 p1 : Int32) (hB : ∀ j, j < 4 → ∀ r c, zscell (S.1 j) r c ≠ -2147483648) (hE : ∀ j i, j < 4 → i < 64 → p0 = nI j → p1 = nI i → ∃ m, zsest (S.1 j) i m) : Met l yX6_signedEstimate wsX6_signedEstimate ({ frames := 3, cells := 0, slots := 0, locals := 63 }) (va_Pc [.ref (zad g 2), .int p0, .int p1] (zPre g x)) (va_Qi (fun (r : Int32) (u : zT) => zMP x u S (zk1 (zinb p0 4 && zinb p1 64)) ∧ (zk1 (zinb p0 4 && zinb p1 64) = 0 → r = (zmidV (fun row => (zsg row p1.toNatClampNeg * zscell (S.1 p0.toNatClampNeg) row (zscol row p1.toNatClampNeg)).toInt64)).toInt32)) (zB g) (zA g)) 0 0 (zA g) := by
  refine z_met (cc := cX6_signedEstimate) (nL := 4) (ret := (some .int)) hg (by decide) rfl (Nat.le_of_ble_eq_true rfl) ?_
  intro p_ e_ s_ m_ args_ below_ meth_ c_ C hr
  show Z p_ l e_ _ s_ m_ args_ below_ meth_ c_ g 4 0 0 _ x 0 [(0, .ref (zad g 2)), (1, .int p0), (2, .int p1)] []
  have hw_f31 := C.1.2.2.2.2 (.fieldLink RX6 31 "CountcoteModel" "five" "[J") (by decide +kernel)
  have hinX6 : ∀ w ∈ wsX60, w ∈ wsX6_signedEstimate := by decide +kernel
  refine z_aload_n 0 C dX6_signedEstimate_0 rfl 0 rfl ?_
  refine z_iload_n 1 C dX6_signedEstimate_1 rfl 1 rfl ?_
  refine z_iload_n 2 C dX6_signedEstimate_2 rfl 2 rfl ?_
  refine z_callVi 3 C (As := [.int p0, .int p1]) 2 kO_model rfl (c_X6_isItem l hg x p0 p1) (cwV 2 C.1.2.2.2.2 gX6_signedEstimate_X6_isItem rfl rfl rfl (by decide +kernel) ⟨Nat.le_of_ble_eq_true rfl, Nat.le_of_ble_eq_true rfl⟩) rfl rfl (Nat.le_of_ble_eq_true rfl) ⟨Nat.le_of_ble_eq_true rfl, Nat.le_of_ble_eq_true rfl⟩ dX6_signedEstimate_3 (fun r u hu => ?_)
  rcases hu with ⟨hr9, ⟨hz1, hz2⟩, hu1⟩ | ⟨hr9, hz1, hu1⟩
  · subst r
    subst u
    obtain ⟨f3, ef3⟩ : ∃ f9 : Nat → Int32, f9 = upd (x.1 2) 0 (nI 0) := ⟨_, rfl⟩
    rw [← ef3]
    obtain ⟨j, hj, hp9⟩ := (zinb_t (by omega)).mp hz1
    subst hp9
    have hMj := hA j hj
    have hclj := nI_clamp (n := j) (by omega)
    obtain ⟨i, hi, hp9⟩ := (zinb_t (by omega)).mp hz2
    subst hp9
    have hcli := nI_clamp (n := i) (by omega)
    refine z_if_neN 6 C 11 dX6_signedEstimate_6 (by decide) (by omega) (fun h6 => ?_) (fun h6 => absurd h6 (by omega))
    obtain ⟨m9, hm9⟩ := hE j i hj hi rfl rfl
    refine z_iconst (v := nI 0) 11 C dX6_signedEstimate_11 rfl ?_
    refine z_istore_n (lv' := [(3, .int (nI 0)), (0, .ref (zad g 2)), (1, .int (nI j)), (2, .int (nI i))]) 12 C dX6_signedEstimate_12 rfl (by decide) rfl ?_
    refine z_x (y := (xl (xi x 2 f3) 10 (x.2.1 10))) (xl_idf (by rw [xc_l])) ?_
    have J13 : ∀ (n13 : Nat) (row : Nat) (h : Nat → Int64), (row ≤ 5) → (5 < row + n13) → (∀ q, q < row → h q = (zsg q i * zscell (S.1 j) q (zscol q i)).toInt64) → Z p_ l e_ (headSpec wsX6_signedEstimate ({ frames := 3, cells := 0, slots := 0, locals := 63 })).room s_ m_ args_ below_ meth_ c_ g 4 0 0 (MQ below_ (va_Qi (fun (r : Int32) (u : zT) => zMP x u S (zk1 (zinb (nI j) 4 && zinb (nI i) 64)) ∧ (zk1 (zinb (nI j) 4 && zinb (nI i) 64) = 0 → r = (zmidV (fun row => (zsg row (nI i).toNatClampNeg * zscell (S.1 (nI j).toNatClampNeg) row (zscol row (nI i).toNatClampNeg)).toInt64)).toInt32)) (zB g) (zA g)) args_ s_ 0 0 (zA g)) (xl (xi x 2 f3) 10 h) 13 [(0, .ref (zad g 2)), (1, .int (nI j)), (2, .int (nI i)), (3, .int (nI row))] [] := by
      intro n13
      induction n13 with
      | zero => intro row h hi hn hp; exact absurd hn (by omega)
      | succ n13 ih13 =>
        intro row h hi hn hp
        refine z_iload_n 13 C dX6_signedEstimate_13 rfl 3 rfl ?_
        refine z_iconst (v := nI 5) 14 C dX6_signedEstimate_14 rfl ?_
        refine z_icmp_geN 15 C 49 dX6_signedEstimate_15 (by decide) (by omega) (by omega) (fun h15 => ?_) (fun h15 => ?_)
        · rw [show row = 5 by omega] at hp
          refine z_aload_n 49 C dX6_signedEstimate_49 rfl 0 rfl ?_
          refine z_callVl 50 C (As := []) 0 kO_model rfl (c_X6_middle l hg (xl (xi x 2 f3) 10 h) m9 (by rw [xl_s]; exact zMid_congr (fun k hk => (hp k (by omega)).symm) hm9)) (cwV 0 C.1.2.2.2.2 gX6_signedEstimate_X6_middle rfl rfl rfl (by decide +kernel) ⟨Nat.le_of_ble_eq_true rfl, Nat.le_of_ble_eq_true rfl⟩) rfl rfl (Nat.le_of_ble_eq_true rfl) ⟨Nat.le_of_ble_eq_true rfl, Nat.le_of_ble_eq_true rfl⟩ dX6_signedEstimate_50 (fun r u hu => ?_)
          obtain ⟨hu1, hu2⟩ := hu
          subst u
          subst r
          refine z_l2i (v := m9.toInt32) 53 C dX6_signedEstimate_53 rfl ?_
          exact z_iret 54 C hr (zme (by simp [zk1, zk2, zk3, hz1, hz2, hclj, hcli]) (zMP_il hA ef3) (fun _ => (show m9.toInt32 = (zmidV (fun row => (zsg row i * zscell (S.1 j) row (zscol row i)).toInt64)).toInt32 by rw [zmidV_eq hm9]).trans (by rw [hclj, hcli]))) dX6_signedEstimate_54
        · refine z_aload_n 18 C dX6_signedEstimate_18 rfl 0 rfl ?_
          refine z_getr 19 C (ref := "CountcoteModel") (T := TX6) (N := 9) (ci := 6) (q := 8) (kR_model (q := 8) (by decide) (by decide)) rfl hinX6 (by decide) rfl hw_f31 dX6_signedEstimate_19 ?_
          refine z_iload_n 22 C dX6_signedEstimate_22 rfl 3 rfl ?_
          refine z_iload_n 23 C dX6_signedEstimate_23 rfl 3 rfl ?_
          refine z_iload_n 24 C dX6_signedEstimate_24 rfl 2 rfl ?_
          refine z_callSi 25 C (As := [.int (nI row), .int (nI i)]) 2 (c_X6_signOf l hg (xl (xi x 2 f3) 10 h) row i (by first | decide | omega) (by omega)) (va_cwS 2 C.1.2.2.2.2 gX6_signedEstimate_X6_signOf rfl rfl rfl (by decide +kernel) ⟨Nat.le_of_ble_eq_true rfl, Nat.le_of_ble_eq_true rfl⟩) rfl rfl (Nat.le_of_ble_eq_true rfl) ⟨Nat.le_of_ble_eq_true rfl, Nat.le_of_ble_eq_true rfl⟩ dX6_signedEstimate_25 (fun r u hu => ?_)
          obtain ⟨hu1, hu2⟩ := hu
          subst u
          subst r
          refine z_i2l (v := (zsg row i).toInt64) 28 C dX6_signedEstimate_28 rfl ?_
          refine z_aload_n 29 C dX6_signedEstimate_29 rfl 0 rfl ?_
          refine z_iload_n 30 C dX6_signedEstimate_30 rfl 1 rfl ?_
          refine z_iload_n 31 C dX6_signedEstimate_31 rfl 3 rfl ?_
          refine z_iload_n 32 C dX6_signedEstimate_32 rfl 3 rfl ?_
          refine z_iload_n 33 C dX6_signedEstimate_33 rfl 2 rfl ?_
          refine z_callSi 34 C (As := [.int (nI row), .int (nI i)]) 2 (c_X6_signedColumnOf l hg (xl (xi x 2 f3) 10 h) row i (by first | decide | omega) (by omega)) (va_cwS 2 C.1.2.2.2.2 gX6_signedEstimate_X6_signedColumnOf rfl rfl rfl (by decide +kernel) ⟨Nat.le_of_ble_eq_true rfl, Nat.le_of_ble_eq_true rfl⟩) rfl rfl (Nat.le_of_ble_eq_true rfl) ⟨Nat.le_of_ble_eq_true rfl, Nat.le_of_ble_eq_true rfl⟩ dX6_signedEstimate_34 (fun r u hu => ?_)
          obtain ⟨hu1, hu2⟩ := hu
          subst u
          subst r
          have := zscol_lt row i
          refine z_callVi 37 C (As := [.int (nI j), .int (nI row), .int (nI (zscol row i))]) 3 kO_model rfl (c_X6_signedCellOf l hg (xl (xi x 2 f3) 10 h) j row (zscol row i) hj (by omega) (by first | omega | exact zscol_lt _ _)) (cwV 3 C.1.2.2.2.2 gX6_signedEstimate_X6_signedCellOf rfl rfl rfl (by decide +kernel) ⟨Nat.le_of_ble_eq_true rfl, Nat.le_of_ble_eq_true rfl⟩) rfl rfl (Nat.le_of_ble_eq_true rfl) ⟨Nat.le_of_ble_eq_true rfl, Nat.le_of_ble_eq_true rfl⟩ dX6_signedEstimate_37 (fun r u hu => ?_)
          obtain ⟨hu1, hu2⟩ : u = (xl (xi x 2 f3) 10 h) ∧ r = zscell (S.1 j) row (zscol row i) := ⟨hu.1, hu.2.trans (zscr_M (zM_l (zM_2 hMj)))⟩
          subst u
          subst r
          refine z_i2l (v := (zscell (S.1 j) row (zscol row i)).toInt64) 40 C dX6_signedEstimate_40 rfl ?_
          refine z_lmul (v := ((zsg row i).toInt64) * ((zscell (S.1 j) row (zscol row i)).toInt64)) 41 C dX6_signedEstimate_41 rfl ?_
          obtain ⟨f4, ef4⟩ : ∃ f9 : Nat → Int64, f9 = vp_updL h row (((zsg row i).toInt64) * ((zscell (S.1 j) row (zscol row i)).toInt64)) := ⟨_, rfl⟩
          refine z_last (f := f4) 42 C kL_10 (by omega) (by rw [xl_s]; exact ef4.symm) dX6_signedEstimate_42 ?_
          refine z_x (y := (xl (xi x 2 f3) 10 f4)) (by rw [xl_xl]) ?_
          refine z_iinc (v' := nI (row + 1)) (lv' := [(3, .int (nI (row + 1))), (0, .ref (zad g 2)), (1, .int (nI j)), (2, .int (nI i))]) 43 C dX6_signedEstimate_43 (q := 3) rfl (zn_inc row 1) (by decide) rfl ?_
          refine z_goto 46 C 13 dX6_signedEstimate_46 (by decide) ?_
          refine z_lv (lv' := [(0, .ref (zad g 2)), (1, .int (nI j)), (2, .int (nI i)), (3, .int (nI (row + 1)))]) [1, 2, 3, 0] rfl ?_
          exact ih13 (row + 1) f4 (by omega) (by omega) (zfive_s (V := fun q => (zsg q i * zscell (S.1 j) q (zscol q i)).toInt64) hp ef4 (zsg_mul (hB j hj row (zscol row i))))
    refine z_lv (lv' := [(0, .ref (zad g 2)), (1, .int (nI j)), (2, .int (nI i)), (3, .int (nI 0))]) [1, 2, 3, 0] rfl ?_
    exact J13 6 0 (x.2.1 10) (Nat.zero_le _) (by omega) (fun q h => absurd h (Nat.not_lt_zero q))
  · subst r
    subst u
    obtain ⟨f5, ef5⟩ : ∃ f9 : Nat → Int32, f9 = upd (x.1 2) 0 (nI 1) := ⟨_, rfl⟩
    rw [← ef5]
    refine z_if_neN 6 C 11 dX6_signedEstimate_6 (by decide) (by omega) (fun h6 => absurd h6 (by omega)) (fun h6 => ?_)
    refine z_iconst (v := nI 0) 9 C dX6_signedEstimate_9 rfl ?_
    exact z_iret 10 C hr (zme (by simp [zk1, zk2, zk3, hz1]) (zMP_i hA ef5) (fun h0 => absurd h0 (by decide))) dX6_signedEstimate_10
set_option maxHeartbeats 4000000 in
set_option maxRecDepth 100000 in
/-- X6_signedProduct -/
theorem c_X6_signedProduct (l : Launch) {g : zG} (hg : zOk g) (x : zT) (S : zS) (hA : zMA x S) (p0 p1 : Int32) (hE : ∀ j o, j < 4 → o < 4 → p0 = nI j → p1 = nI o → ∃ m, zsprod (S.1 j) (S.1 o) m) : Met l yX6_signedProduct wsX6_signedProduct ({ frames := 2, cells := 0, slots := 0, locals := 48 }) (va_Pc [.ref (zad g 2), .int p0, .int p1] (zPre g x)) (va_Ql (fun (r : Int64) (u : zT) => zMP x u S (zk1 (zinb p0 4 && zinb p1 4)) ∧ (zk1 (zinb p0 4 && zinb p1 4) = 0 → r = zmidV (fun row => zsumL (fun col => (zscell (S.1 p0.toNatClampNeg) row col).toInt64 * (zscell (S.1 p1.toNatClampNeg) row col).toInt64) 0 8))) (zB g) (zA g)) 0 0 (zA g) := by
  refine z_met (cc := cX6_signedProduct) (nL := 5) (ret := (some .long)) hg (by decide) rfl (Nat.le_of_ble_eq_true rfl) ?_
  intro p_ e_ s_ m_ args_ below_ meth_ c_ C hr
  show Z p_ l e_ _ s_ m_ args_ below_ meth_ c_ g 5 0 0 _ x 0 [(0, .ref (zad g 2)), (1, .int p0), (2, .int p1)] []
  have hw_f31 := C.1.2.2.2.2 (.fieldLink RX6 31 "CountcoteModel" "five" "[J") (by decide +kernel)
  have hinX6 : ∀ w ∈ wsX60, w ∈ wsX6_signedProduct := by decide +kernel
  refine z_aload_n 0 C dX6_signedProduct_0 rfl 0 rfl ?_
  refine z_iload_n 1 C dX6_signedProduct_1 rfl 1 rfl ?_
  refine z_callSi 2 C (As := [.int p0]) 1 (c_X6_isStream l hg x p0) (va_cwS 1 C.1.2.2.2.2 gX6_signedProduct_X6_isStream rfl rfl rfl (by decide +kernel) ⟨Nat.le_of_ble_eq_true rfl, Nat.le_of_ble_eq_true rfl⟩) rfl rfl (Nat.le_of_ble_eq_true rfl) ⟨Nat.le_of_ble_eq_true rfl, Nat.le_of_ble_eq_true rfl⟩ dX6_signedProduct_2 (fun r u hu => ?_)
  obtain ⟨hu1, hu2⟩ := hu
  subst u
  rcases hu2 with ⟨hr9, hz1⟩ | ⟨hr9, hz1⟩
  · subst r
    obtain ⟨j, hj, hp9⟩ := (zinb_t (by omega)).mp hz1
    subst hp9
    have hMj := hA j hj
    have hclj := nI_clamp (n := j) (by omega)
    refine z_if_eqN 5 C 19 dX6_signedProduct_5 (by decide) (by omega) (fun h5 => absurd h5 (by omega)) (fun h5 => ?_)
    refine z_iload_n 8 C dX6_signedProduct_8 rfl 2 rfl ?_
    refine z_callSi 9 C (As := [.int p1]) 1 (c_X6_isStream l hg x p1) (va_cwS 1 C.1.2.2.2.2 gX6_signedProduct_X6_isStream rfl rfl rfl (by decide +kernel) ⟨Nat.le_of_ble_eq_true rfl, Nat.le_of_ble_eq_true rfl⟩) rfl rfl (Nat.le_of_ble_eq_true rfl) ⟨Nat.le_of_ble_eq_true rfl, Nat.le_of_ble_eq_true rfl⟩ dX6_signedProduct_9 (fun r u hu => ?_)
    obtain ⟨hu1, hu2⟩ := hu
    subst u
    rcases hu2 with ⟨hr9, hz2⟩ | ⟨hr9, hz2⟩
    · subst r
      obtain ⟨o, ho, hp9⟩ := (zinb_t (by omega)).mp hz2
      subst hp9
      have hMo := hA o ho
      have hclo := nI_clamp (n := o) (by omega)
      refine z_if_eqN 12 C 19 dX6_signedProduct_12 (by decide) (by omega) (fun h12 => absurd h12 (by omega)) (fun h12 => ?_)
      refine z_iconst (v := nI 0) 15 C dX6_signedProduct_15 rfl ?_
      refine z_goto 16 C 20 dX6_signedProduct_16 (by decide) ?_
      refine z_callVi 20 C (As := [.int (nI 0)]) 1 kO_model rfl (c_X6_holds l hg x 0 (by decide)) (cwV 1 C.1.2.2.2.2 gX6_signedProduct_X6_holds rfl rfl rfl (by decide +kernel) ⟨Nat.le_of_ble_eq_true rfl, Nat.le_of_ble_eq_true rfl⟩) rfl rfl (Nat.le_of_ble_eq_true rfl) ⟨Nat.le_of_ble_eq_true rfl, Nat.le_of_ble_eq_true rfl⟩ dX6_signedProduct_20 (fun r u hu => ?_)
      obtain ⟨f3, ef3⟩ : ∃ f9 : Nat → Int32, f9 = upd (x.1 2) 0 (nI 0) := ⟨_, rfl⟩
      obtain ⟨hu1, hu2⟩ : u = (xi x 2 f3) ∧ r = nI 1 := ⟨by rw [hu.1, ef3], hu.2⟩
      subst u
      subst r
      refine z_if_neN 23 C 28 dX6_signedProduct_23 (by decide) (by omega) (fun h23 => ?_) (fun h23 => absurd h23 (by omega))
      obtain ⟨m9, hm9⟩ := hE j o hj ho rfl rfl
      refine z_iconst (v := nI 0) 28 C dX6_signedProduct_28 rfl ?_
      refine z_istore_n (lv' := [(3, .int (nI 0)), (0, .ref (zad g 2)), (1, .int (nI j)), (2, .int (nI o))]) 29 C dX6_signedProduct_29 rfl (by decide) rfl ?_
      refine z_x (y := (xl (xi x 2 f3) 10 (x.2.1 10))) (xl_idf (by rw [xc_l])) ?_
      have J30 : ∀ (n30 : Nat) (row : Nat) (h : Nat → Int64), (row ≤ 5) → (5 < row + n30) → (∀ q, q < row → h q = zsumL (fun col => (zscell (S.1 j) q col).toInt64 * (zscell (S.1 o) q col).toInt64) 0 8) → Z p_ l e_ (headSpec wsX6_signedProduct ({ frames := 2, cells := 0, slots := 0, locals := 48 })).room s_ m_ args_ below_ meth_ c_ g 5 0 0 (MQ below_ (va_Ql (fun (r : Int64) (u : zT) => zMP x u S (zk1 (zinb (nI j) 4 && zinb (nI o) 4)) ∧ (zk1 (zinb (nI j) 4 && zinb (nI o) 4) = 0 → r = zmidV (fun row => zsumL (fun col => (zscell (S.1 (nI j).toNatClampNeg) row col).toInt64 * (zscell (S.1 (nI o).toNatClampNeg) row col).toInt64) 0 8))) (zB g) (zA g)) args_ s_ 0 0 (zA g)) (xl (xi x 2 f3) 10 h) 30 [(0, .ref (zad g 2)), (1, .int (nI j)), (2, .int (nI o)), (3, .int (nI row))] [] := by
        intro n30
        induction n30 with
        | zero => intro row h hi hn hp; exact absurd hn (by omega)
        | succ n30 ih30 =>
          intro row h hi hn hp
          refine z_iload_n 30 C dX6_signedProduct_30 rfl 3 rfl ?_
          refine z_iconst (v := nI 5) 31 C dX6_signedProduct_31 rfl ?_
          refine z_icmp_geN 32 C 92 dX6_signedProduct_32 (by decide) (by omega) (by omega) (fun h32 => ?_) (fun h32 => ?_)
          · rw [show row = 5 by omega] at hp
            refine z_aload_n 92 C dX6_signedProduct_92 rfl 0 rfl ?_
            refine z_callVl 93 C (As := []) 0 kO_model rfl (c_X6_middle l hg (xl (xi x 2 f3) 10 h) m9 (by rw [xl_s]; exact zMid_congr (fun k hk => (hp k (by omega)).symm) hm9)) (cwV 0 C.1.2.2.2.2 gX6_signedProduct_X6_middle rfl rfl rfl (by decide +kernel) ⟨Nat.le_of_ble_eq_true rfl, Nat.le_of_ble_eq_true rfl⟩) rfl rfl (Nat.le_of_ble_eq_true rfl) ⟨Nat.le_of_ble_eq_true rfl, Nat.le_of_ble_eq_true rfl⟩ dX6_signedProduct_93 (fun r u hu => ?_)
            obtain ⟨hu1, hu2⟩ := hu
            subst u
            subst r
            exact z_lret 96 C hr (zme (by simp [zk1, zk2, zk3, hz1, hclj, hz2, hclo]) (zMP_il hA ef3) (fun _ => (show m9 = zmidV (fun row => zsumL (fun col => (zscell (S.1 j) row col).toInt64 * (zscell (S.1 o) row col).toInt64) 0 8) by rw [zmidV_eq hm9]).trans (by rw [hclj, hclo]))) dX6_signedProduct_96
          · refine z_aload_n 35 C dX6_signedProduct_35 rfl 0 rfl ?_
            refine z_getr 36 C (ref := "CountcoteModel") (T := TX6) (N := 9) (ci := 6) (q := 8) (kR_model (q := 8) (by decide) (by decide)) rfl hinX6 (by decide) rfl hw_f31 dX6_signedProduct_36 ?_
            refine z_iload_n 39 C dX6_signedProduct_39 rfl 3 rfl ?_
            refine z_lconst (v := 0) 40 C dX6_signedProduct_40 rfl ?_
            obtain ⟨f4, ef4⟩ : ∃ f9 : Nat → Int64, f9 = vp_updL h row 0 := ⟨_, rfl⟩
            refine z_last (f := f4) 41 C kL_10 (by omega) (by rw [xl_s]; exact ef4.symm) dX6_signedProduct_41 ?_
            refine z_x (y := (xl (xi x 2 f3) 10 f4)) (by rw [xl_xl]) ?_
            refine z_iconst (v := nI 0) 42 C dX6_signedProduct_42 rfl ?_
            refine z_istore (lv' := [(4, .int (nI 0)), (0, .ref (zad g 2)), (1, .int (nI j)), (2, .int (nI o)), (3, .int (nI row))]) 43 C dX6_signedProduct_43 (by decide) rfl ?_
            have J45 : ∀ (n45 : Nat) (col : Nat) (h1 : Nat → Int64), (col ≤ 8) → (8 < col + n45) → (∀ q, q < row → h1 q = zsumL (fun col => (zscell (S.1 j) q col).toInt64 * (zscell (S.1 o) q col).toInt64) 0 8) → (h1 row = zsumL (fun col => (zscell (S.1 j) row col).toInt64 * (zscell (S.1 o) row col).toInt64) 0 col) → Z p_ l e_ (headSpec wsX6_signedProduct ({ frames := 2, cells := 0, slots := 0, locals := 48 })).room s_ m_ args_ below_ meth_ c_ g 5 0 0 (MQ below_ (va_Ql (fun (r : Int64) (u : zT) => zMP x u S (zk1 (zinb (nI j) 4 && zinb (nI o) 4)) ∧ (zk1 (zinb (nI j) 4 && zinb (nI o) 4) = 0 → r = zmidV (fun row => zsumL (fun col => (zscell (S.1 (nI j).toNatClampNeg) row col).toInt64 * (zscell (S.1 (nI o).toNatClampNeg) row col).toInt64) 0 8))) (zB g) (zA g)) args_ s_ 0 0 (zA g)) (xl (xi x 2 f3) 10 h1) 45 [(0, .ref (zad g 2)), (1, .int (nI j)), (2, .int (nI o)), (3, .int (nI row)), (4, .int (nI col))] [] := by
              intro n45
              induction n45 with
              | zero => intro col h1 hc hn hq hs; exact absurd hn (by omega)
              | succ n45 ih45 =>
                intro col h1 hc hn hq hs
                refine z_iload 45 C dX6_signedProduct_45 4 rfl ?_
                refine z_bipush (v := nI 8) 47 C dX6_signedProduct_47 rfl ?_
                refine z_icmp_geN 49 C 86 dX6_signedProduct_49 (by decide) (by omega) (by omega) (fun h49 => ?_) (fun h49 => ?_)
                · refine z_iinc (v' := nI (row + 1)) (lv' := [(3, .int (nI (row + 1))), (0, .ref (zad g 2)), (1, .int (nI j)), (2, .int (nI o)), (4, .int (nI col))]) 86 C dX6_signedProduct_86 (q := 3) rfl (zn_inc row 1) (by decide) rfl ?_
                  refine z_goto 89 C 30 dX6_signedProduct_89 (by decide) ?_
                  refine z_lv (lv' := [(0, .ref (zad g 2)), (1, .int (nI j)), (2, .int (nI o)), (3, .int (nI (row + 1)))]) [1, 2, 3, 0] rfl ?_
                  exact ih30 (row + 1) h1 (by omega) (by omega) (zfive_e (V := fun q => zsumL (fun col => (zscell (S.1 j) q col).toInt64 * (zscell (S.1 o) q col).toInt64) 0 8) hq (by rw [hs, show col = 8 by omega]))
                · refine z_aload_n 52 C dX6_signedProduct_52 rfl 0 rfl ?_
                  refine z_getr 53 C (ref := "CountcoteModel") (T := TX6) (N := 9) (ci := 6) (q := 8) (kR_model (q := 8) (by decide) (by decide)) rfl hinX6 (by decide) rfl hw_f31 dX6_signedProduct_53 ?_
                  refine z_iload_n 56 C dX6_signedProduct_56 rfl 3 rfl ?_
                  refine z_dup2 57 C dX6_signedProduct_57 rfl rfl ?_
                  refine z_lald (v := h1 row) 58 C kL_10 (by omega) (by rw [xl_s]) dX6_signedProduct_58 ?_
                  refine z_aload_n 59 C dX6_signedProduct_59 rfl 0 rfl ?_
                  refine z_iload_n 60 C dX6_signedProduct_60 rfl 1 rfl ?_
                  refine z_iload_n 61 C dX6_signedProduct_61 rfl 3 rfl ?_
                  refine z_iload 62 C dX6_signedProduct_62 4 rfl ?_
                  refine z_callVi 64 C (As := [.int (nI j), .int (nI row), .int (nI col)]) 3 kO_model rfl (c_X6_signedCellOf l hg (xl (xi x 2 f3) 10 h1) j row col hj (by omega) (by first | omega | exact zscol_lt _ _)) (cwV 3 C.1.2.2.2.2 gX6_signedProduct_X6_signedCellOf rfl rfl rfl (by decide +kernel) ⟨Nat.le_of_ble_eq_true rfl, Nat.le_of_ble_eq_true rfl⟩) rfl rfl (Nat.le_of_ble_eq_true rfl) ⟨Nat.le_of_ble_eq_true rfl, Nat.le_of_ble_eq_true rfl⟩ dX6_signedProduct_64 (fun r u hu => ?_)
                  obtain ⟨hu1, hu2⟩ : u = (xl (xi x 2 f3) 10 h1) ∧ r = zscell (S.1 j) row col := ⟨hu.1, hu.2.trans (zscr_M (zM_l (zM_2 hMj)))⟩
                  subst u
                  subst r
                  refine z_i2l (v := (zscell (S.1 j) row col).toInt64) 67 C dX6_signedProduct_67 rfl ?_
                  refine z_aload_n 68 C dX6_signedProduct_68 rfl 0 rfl ?_
                  refine z_iload_n 69 C dX6_signedProduct_69 rfl 2 rfl ?_
                  refine z_iload_n 70 C dX6_signedProduct_70 rfl 3 rfl ?_
                  refine z_iload 71 C dX6_signedProduct_71 4 rfl ?_
                  refine z_callVi 73 C (As := [.int (nI o), .int (nI row), .int (nI col)]) 3 kO_model rfl (c_X6_signedCellOf l hg (xl (xi x 2 f3) 10 h1) o row col ho (by omega) (by first | omega | exact zscol_lt _ _)) (cwV 3 C.1.2.2.2.2 gX6_signedProduct_X6_signedCellOf rfl rfl rfl (by decide +kernel) ⟨Nat.le_of_ble_eq_true rfl, Nat.le_of_ble_eq_true rfl⟩) rfl rfl (Nat.le_of_ble_eq_true rfl) ⟨Nat.le_of_ble_eq_true rfl, Nat.le_of_ble_eq_true rfl⟩ dX6_signedProduct_73 (fun r u hu => ?_)
                  obtain ⟨hu1, hu2⟩ : u = (xl (xi x 2 f3) 10 h1) ∧ r = zscell (S.1 o) row col := ⟨hu.1, hu.2.trans (zscr_M (zM_l (zM_2 hMo)))⟩
                  subst u
                  subst r
                  refine z_i2l (v := (zscell (S.1 o) row col).toInt64) 76 C dX6_signedProduct_76 rfl ?_
                  refine z_lmul (v := ((zscell (S.1 j) row col).toInt64) * ((zscell (S.1 o) row col).toInt64)) 77 C dX6_signedProduct_77 rfl ?_
                  refine z_ladd (v := (h1 row) + (((zscell (S.1 j) row col).toInt64) * ((zscell (S.1 o) row col).toInt64))) 78 C dX6_signedProduct_78 rfl ?_
                  obtain ⟨f5, ef5⟩ : ∃ f9 : Nat → Int64, f9 = vp_updL h1 row ((h1 row) + (((zscell (S.1 j) row col).toInt64) * ((zscell (S.1 o) row col).toInt64))) := ⟨_, rfl⟩
                  refine z_last (f := f5) 79 C kL_10 (by omega) (by rw [xl_s]; exact ef5.symm) dX6_signedProduct_79 ?_
                  refine z_x (y := (xl (xi x 2 f3) 10 f5)) (by rw [xl_xl]) ?_
                  refine z_iinc (v' := nI (col + 1)) (lv' := [(4, .int (nI (col + 1))), (0, .ref (zad g 2)), (1, .int (nI j)), (2, .int (nI o)), (3, .int (nI row))]) 80 C dX6_signedProduct_80 (q := 4) rfl (zn_inc col 1) (by decide) rfl ?_
                  refine z_goto 83 C 45 dX6_signedProduct_83 (by decide) ?_
                  refine z_lv (lv' := [(0, .ref (zad g 2)), (1, .int (nI j)), (2, .int (nI o)), (3, .int (nI row)), (4, .int (nI (col + 1)))]) [1, 2, 3, 4, 0] rfl ?_
                  exact ih45 (col + 1) f5 (by omega) (by omega) (fun q hq9 => by rw [ef5]; exact (pk_uLn (by omega)).trans (hq q hq9)) (by rw [ef5]; refine pk_uLs.trans ?_; rw [hs]; show _ = zsumL _ 0 col + (zscell (S.1 j) row (0 + col)).toInt64 * (zscell (S.1 o) row (0 + col)).toInt64; rw [Nat.zero_add])
            refine z_lv (lv' := [(0, .ref (zad g 2)), (1, .int (nI j)), (2, .int (nI o)), (3, .int (nI row)), (4, .int (nI 0))]) [1, 2, 3, 4, 0] rfl ?_
            exact J45 9 0 f4 (Nat.zero_le _) (by omega) (fun q hq9 => by rw [ef4]; exact (pk_uLn (by omega)).trans (hp q hq9)) (by rw [ef4]; exact pk_uLs)
      refine z_lv (lv' := [(0, .ref (zad g 2)), (1, .int (nI j)), (2, .int (nI o)), (3, .int (nI 0))]) [1, 2, 3, 0] rfl ?_
      exact J30 6 0 (x.2.1 10) (Nat.zero_le _) (by omega) (fun q h => absurd h (Nat.not_lt_zero q))
    · subst r
      refine z_if_eqN 12 C 19 dX6_signedProduct_12 (by decide) (by omega) (fun h12 => ?_) (fun h12 => absurd h12 (by omega))
      refine z_iconst (v := nI 1) 19 C dX6_signedProduct_19 rfl ?_
      refine z_callVi 20 C (As := [.int (nI 1)]) 1 kO_model rfl (c_X6_holds l hg x 1 (by decide)) (cwV 1 C.1.2.2.2.2 gX6_signedProduct_X6_holds rfl rfl rfl (by decide +kernel) ⟨Nat.le_of_ble_eq_true rfl, Nat.le_of_ble_eq_true rfl⟩) rfl rfl (Nat.le_of_ble_eq_true rfl) ⟨Nat.le_of_ble_eq_true rfl, Nat.le_of_ble_eq_true rfl⟩ dX6_signedProduct_20 (fun r u hu => ?_)
      obtain ⟨f6, ef6⟩ : ∃ f9 : Nat → Int32, f9 = upd (x.1 2) 0 (nI 1) := ⟨_, rfl⟩
      obtain ⟨hu1, hu2⟩ : u = (xi x 2 f6) ∧ r = nI 0 := ⟨by rw [hu.1, ef6], hu.2⟩
      subst u
      subst r
      refine z_if_neN 23 C 28 dX6_signedProduct_23 (by decide) (by omega) (fun h23 => absurd h23 (by omega)) (fun h23 => ?_)
      refine z_lconst (v := 0) 26 C dX6_signedProduct_26 rfl ?_
      exact z_lret 27 C hr (zme (by simp [zk1, zk2, zk3, hz1, hclj, hz2]) (zMP_i hA ef6) (fun h0 => absurd h0 (by decide))) dX6_signedProduct_27
  · subst r
    refine z_if_eqN 5 C 19 dX6_signedProduct_5 (by decide) (by omega) (fun h5 => ?_) (fun h5 => absurd h5 (by omega))
    refine z_iconst (v := nI 1) 19 C dX6_signedProduct_19 rfl ?_
    refine z_callVi 20 C (As := [.int (nI 1)]) 1 kO_model rfl (c_X6_holds l hg x 1 (by decide)) (cwV 1 C.1.2.2.2.2 gX6_signedProduct_X6_holds rfl rfl rfl (by decide +kernel) ⟨Nat.le_of_ble_eq_true rfl, Nat.le_of_ble_eq_true rfl⟩) rfl rfl (Nat.le_of_ble_eq_true rfl) ⟨Nat.le_of_ble_eq_true rfl, Nat.le_of_ble_eq_true rfl⟩ dX6_signedProduct_20 (fun r u hu => ?_)
    obtain ⟨f7, ef7⟩ : ∃ f9 : Nat → Int32, f9 = upd (x.1 2) 0 (nI 1) := ⟨_, rfl⟩
    obtain ⟨hu1, hu2⟩ : u = (xi x 2 f7) ∧ r = nI 0 := ⟨by rw [hu.1, ef7], hu.2⟩
    subst u
    subst r
    refine z_if_neN 23 C 28 dX6_signedProduct_23 (by decide) (by omega) (fun h23 => absurd h23 (by omega)) (fun h23 => ?_)
    refine z_lconst (v := 0) 26 C dX6_signedProduct_26 rfl ?_
    exact z_lret 27 C hr (zme (by simp [zk1, zk2, zk3, hz1]) (zMP_i hA ef7) (fun h0 => absurd h0 (by decide))) dX6_signedProduct_27
set_option maxHeartbeats 4000000 in
set_option maxRecDepth 100000 in
/-- X6_estimate -/
theorem c_X6_estimate (l : Launch) {g : zG} (hg : zOk g) (x : zT) (S : zS) (hA : zMA x S) (p0 p1 p2 : Int32) : Met l yX6_estimate wsX6_estimate ({ frames := 3, cells := 0, slots := 0, locals := 67 }) (va_Pc [.ref (zad g 2), .int p0, .int p1, .int p2] (zPre g x)) (va_Qi (fun (r : Int32) (u : zT) => zMP x u S (zk1 (zinb p0 4 && (zinb p1 7 && zinb p2 (64 / 2 ^ p1.toNatClampNeg)))) ∧ (zk1 (zinb p0 4 && (zinb p1 7 && zinb p2 (64 / 2 ^ p1.toNatClampNeg))) = 0 → r = zest (S.1 p0.toNatClampNeg) (S.2.1 p0.toNatClampNeg) p1.toNatClampNeg p2.toNatClampNeg)) (zB g) (zA g)) 0 0 (zA g) := by
  refine z_met (cc := cX6_estimate) (nL := 5) (ret := (some .int)) hg (by decide) rfl (Nat.le_of_ble_eq_true rfl) ?_
  intro p_ e_ s_ m_ args_ below_ meth_ c_ C hr
  show Z p_ l e_ _ s_ m_ args_ below_ meth_ c_ g 5 0 0 _ x 0 [(0, .ref (zad g 2)), (1, .int p0), (2, .int p1), (3, .int p2)] []
  refine z_iload_n 0 C dX6_estimate_0 rfl 1 rfl ?_
  refine z_callSi 1 C (As := [.int p0]) 1 (c_X6_isStream l hg x p0) (va_cwS 1 C.1.2.2.2.2 gX6_estimate_X6_isStream rfl rfl rfl (by decide +kernel) ⟨Nat.le_of_ble_eq_true rfl, Nat.le_of_ble_eq_true rfl⟩) rfl rfl (Nat.le_of_ble_eq_true rfl) ⟨Nat.le_of_ble_eq_true rfl, Nat.le_of_ble_eq_true rfl⟩ dX6_estimate_1 (fun r u hu => ?_)
  obtain ⟨hu1, hu2⟩ := hu
  subst u
  rcases hu2 with ⟨hr9, hz1⟩ | ⟨hr9, hz1⟩
  · subst r
    obtain ⟨j, hj, hp9⟩ := (zinb_t (by omega)).mp hz1
    subst hp9
    have hMj := hA j hj
    have hclj := nI_clamp (n := j) (by omega)
    refine z_if_eqN 4 C 31 dX6_estimate_4 (by decide) (by omega) (fun h4 => absurd h4 (by omega)) (fun h4 => ?_)
    refine z_iload_n 7 C dX6_estimate_7 rfl 2 rfl ?_
    refine z_bipush (v := nI 7) 8 C dX6_estimate_8 rfl ?_
    refine z_callSi 10 C (As := [.int p1, .int (nI 7)]) 2 (c_X6_isIn l hg x p1 7 (by omega)) (va_cwS 2 C.1.2.2.2.2 gX6_estimate_X6_isIn rfl rfl rfl (by decide +kernel) ⟨Nat.le_of_ble_eq_true rfl, Nat.le_of_ble_eq_true rfl⟩) rfl rfl (Nat.le_of_ble_eq_true rfl) ⟨Nat.le_of_ble_eq_true rfl, Nat.le_of_ble_eq_true rfl⟩ dX6_estimate_10 (fun r u hu => ?_)
    obtain ⟨hu1, hu2⟩ := hu
    subst u
    rcases hu2 with ⟨hr9, hz2⟩ | ⟨hr9, hz2⟩
    · subst r
      obtain ⟨lev, hlev, hp9⟩ := (zinb_t (by omega)).mp hz2
      subst hp9
      have hcllev := nI_clamp (n := lev) (by omega)
      refine z_if_eqN 13 C 31 dX6_estimate_13 (by decide) (by omega) (fun h13 => absurd h13 (by omega)) (fun h13 => ?_)
      refine z_iload_n 16 C dX6_estimate_16 rfl 3 rfl ?_
      refine z_bipush (v := nI 64) 17 C dX6_estimate_17 rfl ?_
      refine z_iload_n 19 C dX6_estimate_19 rfl 2 rfl ?_
      refine z_ishr (v := nI (64 / 2 ^ lev)) 20 C dX6_estimate_20 (zn_shr 64 lev (by omega) (by omega)) ?_
      refine z_callSi 21 C (As := [.int p2, .int (nI (64 / 2 ^ lev))]) 2 (c_X6_isIn l hg x p2 (64 / 2 ^ lev) (by have := Nat.div_le_self 64 (2 ^ lev); omega)) (va_cwS 2 C.1.2.2.2.2 gX6_estimate_X6_isIn rfl rfl rfl (by decide +kernel) ⟨Nat.le_of_ble_eq_true rfl, Nat.le_of_ble_eq_true rfl⟩) rfl rfl (Nat.le_of_ble_eq_true rfl) ⟨Nat.le_of_ble_eq_true rfl, Nat.le_of_ble_eq_true rfl⟩ dX6_estimate_21 (fun r u hu => ?_)
      obtain ⟨hu1, hu2⟩ := hu
      subst u
      rcases hu2 with ⟨hr9, hz3⟩ | ⟨hr9, hz3⟩
      · subst r
        obtain ⟨h, hh, hp9⟩ := (zinb_t (by have := Nat.div_le_self 64 (2 ^ lev); omega)).mp hz3
        subst hp9
        have hclh := nI_clamp (n := h) (by have := Nat.div_le_self 64 (2 ^ lev); omega)
        refine z_if_eqN 24 C 31 dX6_estimate_24 (by decide) (by omega) (fun h24 => absurd h24 (by omega)) (fun h24 => ?_)
        refine z_iconst (v := nI 1) 27 C dX6_estimate_27 rfl ?_
        refine z_goto 28 C 32 dX6_estimate_28 (by decide) ?_
        refine z_istore (lv' := [(4, .int (nI 1)), (0, .ref (zad g 2)), (1, .int (nI j)), (2, .int (nI lev)), (3, .int (nI h))]) 32 C dX6_estimate_32 (by decide) rfl ?_
        refine z_aload_n 34 C dX6_estimate_34 rfl 1 rfl ?_
        refine z_iload 35 C dX6_estimate_35 0 rfl ?_
        refine z_if_eqN 37 C 44 dX6_estimate_37 (by decide) (by omega) (fun h37 => absurd h37 (by omega)) (fun h37 => ?_)
        refine z_iconst (v := nI 0) 40 C dX6_estimate_40 rfl ?_
        refine z_goto 41 C 45 dX6_estimate_41 (by decide) ?_
        refine z_callVi 45 C (As := [.int (nI 0)]) 1 kO_model rfl (c_X6_holds l hg x 0 (by decide)) (cwV 1 C.1.2.2.2.2 gX6_estimate_X6_holds rfl rfl rfl (by decide +kernel) ⟨Nat.le_of_ble_eq_true rfl, Nat.le_of_ble_eq_true rfl⟩) rfl rfl (Nat.le_of_ble_eq_true rfl) ⟨Nat.le_of_ble_eq_true rfl, Nat.le_of_ble_eq_true rfl⟩ dX6_estimate_45 (fun r u hu => ?_)
        obtain ⟨f4, ef4⟩ : ∃ f9 : Nat → Int32, f9 = upd (x.1 2) 0 (nI 0) := ⟨_, rfl⟩
        obtain ⟨hu1, hu2⟩ : u = (xi x 2 f4) ∧ r = nI 1 := ⟨by rw [hu.1, ef4], hu.2⟩
        subst u
        subst r
        refine z_if_eqN 48 C 61 dX6_estimate_48 (by decide) (by omega) (fun h48 => absurd h48 (by omega)) (fun h48 => ?_)
        refine z_aload_n 51 C dX6_estimate_51 rfl 1 rfl ?_
        refine z_iload_n 52 C dX6_estimate_52 rfl 2 rfl ?_
        refine z_iload_n 53 C dX6_estimate_53 rfl 3 rfl ?_
        refine z_iload_n 54 C dX6_estimate_54 rfl 4 rfl ?_
        refine z_callVi 55 C (As := [.int (nI j), .int (nI lev), .int (nI h)]) 3 kO_model rfl (c_X6_estimateOf l hg (xi x 2 f4) j lev h hj (by omega) hh) (cwV 3 C.1.2.2.2.2 gX6_estimate_X6_estimateOf rfl rfl rfl (by decide +kernel) ⟨Nat.le_of_ble_eq_true rfl, Nat.le_of_ble_eq_true rfl⟩) rfl rfl (Nat.le_of_ble_eq_true rfl) ⟨Nat.le_of_ble_eq_true rfl, Nat.le_of_ble_eq_true rfl⟩ dX6_estimate_55 (fun r u hu => ?_)
        obtain ⟨v5, ev5⟩ : ∃ y : Int32, y = zest (S.1 j) (S.2.1 j) lev h := ⟨_, rfl⟩
        obtain ⟨hu1, hu2⟩ : u = (xi x 2 f4) ∧ r = v5 := ⟨hu.1, by rw [hu.2, zraw_M (zM_2 hMj) (by omega) hh, ev5]⟩
        subst u
        subst r
        refine z_goto 58 C 62 dX6_estimate_58 (by decide) ?_
        exact z_iret 62 C hr (zme (by simp [zk1, zk2, zk3, hz1, hclj, hz2, hcllev, hz3, hclh]) (zMP_i hA ef4) (fun _ => (ev5).trans (by rw [hclj, hcllev, hclh]))) dX6_estimate_62
      · subst r
        refine z_if_eqN 24 C 31 dX6_estimate_24 (by decide) (by omega) (fun h24 => ?_) (fun h24 => absurd h24 (by omega))
        refine z_iconst (v := nI 0) 31 C dX6_estimate_31 rfl ?_
        refine z_istore (lv' := [(4, .int (nI 0)), (0, .ref (zad g 2)), (1, .int (nI j)), (2, .int (nI lev)), (3, .int p2)]) 32 C dX6_estimate_32 (by decide) rfl ?_
        refine z_aload_n 34 C dX6_estimate_34 rfl 1 rfl ?_
        refine z_iload 35 C dX6_estimate_35 0 rfl ?_
        refine z_if_eqN 37 C 44 dX6_estimate_37 (by decide) (by omega) (fun h37 => ?_) (fun h37 => absurd h37 (by omega))
        refine z_iconst (v := nI 1) 44 C dX6_estimate_44 rfl ?_
        refine z_callVi 45 C (As := [.int (nI 1)]) 1 kO_model rfl (c_X6_holds l hg x 1 (by decide)) (cwV 1 C.1.2.2.2.2 gX6_estimate_X6_holds rfl rfl rfl (by decide +kernel) ⟨Nat.le_of_ble_eq_true rfl, Nat.le_of_ble_eq_true rfl⟩) rfl rfl (Nat.le_of_ble_eq_true rfl) ⟨Nat.le_of_ble_eq_true rfl, Nat.le_of_ble_eq_true rfl⟩ dX6_estimate_45 (fun r u hu => ?_)
        obtain ⟨f6, ef6⟩ : ∃ f9 : Nat → Int32, f9 = upd (x.1 2) 0 (nI 1) := ⟨_, rfl⟩
        obtain ⟨hu1, hu2⟩ : u = (xi x 2 f6) ∧ r = nI 0 := ⟨by rw [hu.1, ef6], hu.2⟩
        subst u
        subst r
        refine z_if_eqN 48 C 61 dX6_estimate_48 (by decide) (by omega) (fun h48 => ?_) (fun h48 => absurd h48 (by omega))
        refine z_iconst (v := nI 0) 61 C dX6_estimate_61 rfl ?_
        exact z_iret 62 C hr (zme (by simp [zk1, zk2, zk3, hz1, hclj, hz2, hcllev, hz3]) (zMP_i hA ef6) (fun h0 => absurd h0 (by decide))) dX6_estimate_62
    · subst r
      refine z_if_eqN 13 C 31 dX6_estimate_13 (by decide) (by omega) (fun h13 => ?_) (fun h13 => absurd h13 (by omega))
      refine z_iconst (v := nI 0) 31 C dX6_estimate_31 rfl ?_
      refine z_istore (lv' := [(4, .int (nI 0)), (0, .ref (zad g 2)), (1, .int (nI j)), (2, .int p1), (3, .int p2)]) 32 C dX6_estimate_32 (by decide) rfl ?_
      refine z_aload_n 34 C dX6_estimate_34 rfl 1 rfl ?_
      refine z_iload 35 C dX6_estimate_35 0 rfl ?_
      refine z_if_eqN 37 C 44 dX6_estimate_37 (by decide) (by omega) (fun h37 => ?_) (fun h37 => absurd h37 (by omega))
      refine z_iconst (v := nI 1) 44 C dX6_estimate_44 rfl ?_
      refine z_callVi 45 C (As := [.int (nI 1)]) 1 kO_model rfl (c_X6_holds l hg x 1 (by decide)) (cwV 1 C.1.2.2.2.2 gX6_estimate_X6_holds rfl rfl rfl (by decide +kernel) ⟨Nat.le_of_ble_eq_true rfl, Nat.le_of_ble_eq_true rfl⟩) rfl rfl (Nat.le_of_ble_eq_true rfl) ⟨Nat.le_of_ble_eq_true rfl, Nat.le_of_ble_eq_true rfl⟩ dX6_estimate_45 (fun r u hu => ?_)
      obtain ⟨f7, ef7⟩ : ∃ f9 : Nat → Int32, f9 = upd (x.1 2) 0 (nI 1) := ⟨_, rfl⟩
      obtain ⟨hu1, hu2⟩ : u = (xi x 2 f7) ∧ r = nI 0 := ⟨by rw [hu.1, ef7], hu.2⟩
      subst u
      subst r
      refine z_if_eqN 48 C 61 dX6_estimate_48 (by decide) (by omega) (fun h48 => ?_) (fun h48 => absurd h48 (by omega))
      refine z_iconst (v := nI 0) 61 C dX6_estimate_61 rfl ?_
      exact z_iret 62 C hr (zme (by simp [zk1, zk2, zk3, hz1, hclj, hz2]) (zMP_i hA ef7) (fun h0 => absurd h0 (by decide))) dX6_estimate_62
  · subst r
    refine z_if_eqN 4 C 31 dX6_estimate_4 (by decide) (by omega) (fun h4 => ?_) (fun h4 => absurd h4 (by omega))
    refine z_iconst (v := nI 0) 31 C dX6_estimate_31 rfl ?_
    refine z_istore (lv' := [(4, .int (nI 0)), (0, .ref (zad g 2)), (1, .int p0), (2, .int p1), (3, .int p2)]) 32 C dX6_estimate_32 (by decide) rfl ?_
    refine z_aload_n 34 C dX6_estimate_34 rfl 1 rfl ?_
    refine z_iload 35 C dX6_estimate_35 0 rfl ?_
    refine z_if_eqN 37 C 44 dX6_estimate_37 (by decide) (by omega) (fun h37 => ?_) (fun h37 => absurd h37 (by omega))
    refine z_iconst (v := nI 1) 44 C dX6_estimate_44 rfl ?_
    refine z_callVi 45 C (As := [.int (nI 1)]) 1 kO_model rfl (c_X6_holds l hg x 1 (by decide)) (cwV 1 C.1.2.2.2.2 gX6_estimate_X6_holds rfl rfl rfl (by decide +kernel) ⟨Nat.le_of_ble_eq_true rfl, Nat.le_of_ble_eq_true rfl⟩) rfl rfl (Nat.le_of_ble_eq_true rfl) ⟨Nat.le_of_ble_eq_true rfl, Nat.le_of_ble_eq_true rfl⟩ dX6_estimate_45 (fun r u hu => ?_)
    obtain ⟨f8, ef8⟩ : ∃ f9 : Nat → Int32, f9 = upd (x.1 2) 0 (nI 1) := ⟨_, rfl⟩
    obtain ⟨hu1, hu2⟩ : u = (xi x 2 f8) ∧ r = nI 0 := ⟨by rw [hu.1, ef8], hu.2⟩
    subst u
    subst r
    refine z_if_eqN 48 C 61 dX6_estimate_48 (by decide) (by omega) (fun h48 => ?_) (fun h48 => absurd h48 (by omega))
    refine z_iconst (v := nI 0) 61 C dX6_estimate_61 rfl ?_
    exact z_iret 62 C hr (zme (by simp [zk1, zk2, zk3, hz1]) (zMP_i hA ef8) (fun h0 => absurd h0 (by decide))) dX6_estimate_62
set_option maxHeartbeats 4000000 in
set_option maxRecDepth 100000 in
/-- X6_share -/
theorem c_X6_share (l : Launch) {g : zG} (hg : zOk g) (x : zT) (S : zS) (hA : zMA x S) (p0 p1 : Int32) : Met l yX6_share wsX6_share ({ frames := 3, cells := 0, slots := 0, locals := 67 }) (va_Pc [.ref (zad g 2), .int p0, .int p1] (zPre g x)) (va_Qd (fun (r : UInt64) (u : zT) => zMP x u S (zk1 (zinb p0 4 && zinb p1 64)) ∧ (zk1 (zinb p0 4 && zinb p1 64) = 0 → r = zshare (S.1 p0.toNatClampNeg) (S.2.1 p0.toNatClampNeg) p1.toNatClampNeg)) (zB g) (zA g)) 0 0 (zA g) := by
  refine z_met (cc := cX6_share) (nL := 3) (ret := (some .double)) hg (by decide) rfl (Nat.le_of_ble_eq_true rfl) ?_
  intro p_ e_ s_ m_ args_ below_ meth_ c_ C hr
  show Z p_ l e_ _ s_ m_ args_ below_ meth_ c_ g 3 0 0 _ x 0 [(0, .ref (zad g 2)), (1, .int p0), (2, .int p1)] []
  have hw_f13 := C.1.2.2.2.2 (.fieldLink RX6 13 "CountcoteModel" "totals" "[I") (by decide +kernel)
  have hinX6 : ∀ w ∈ wsX60, w ∈ wsX6_share := by decide +kernel
  refine z_aload_n 0 C dX6_share_0 rfl 0 rfl ?_
  refine z_iload_n 1 C dX6_share_1 rfl 1 rfl ?_
  refine z_iload_n 2 C dX6_share_2 rfl 2 rfl ?_
  refine z_callVi 3 C (As := [.int p0, .int p1]) 2 kO_model rfl (c_X6_isItem l hg x p0 p1) (cwV 2 C.1.2.2.2.2 gX6_share_X6_isItem rfl rfl rfl (by decide +kernel) ⟨Nat.le_of_ble_eq_true rfl, Nat.le_of_ble_eq_true rfl⟩) rfl rfl (Nat.le_of_ble_eq_true rfl) ⟨Nat.le_of_ble_eq_true rfl, Nat.le_of_ble_eq_true rfl⟩ dX6_share_3 (fun r u hu => ?_)
  rcases hu with ⟨hr9, ⟨hz1, hz2⟩, hu1⟩ | ⟨hr9, hz1, hu1⟩
  · subst r
    subst u
    obtain ⟨f3, ef3⟩ : ∃ f9 : Nat → Int32, f9 = upd (x.1 2) 0 (nI 0) := ⟨_, rfl⟩
    rw [← ef3]
    obtain ⟨j, hj, hp9⟩ := (zinb_t (by omega)).mp hz1
    subst hp9
    have hMj := hA j hj
    have hclj := nI_clamp (n := j) (by omega)
    obtain ⟨i, hi, hp9⟩ := (zinb_t (by omega)).mp hz2
    subst hp9
    have hcli := nI_clamp (n := i) (by omega)
    refine z_if_eqN 6 C 18 dX6_share_6 (by decide) (by omega) (fun h6 => absurd h6 (by omega)) (fun h6 => ?_)
    refine z_aload_n 9 C dX6_share_9 rfl 0 rfl ?_
    refine z_getr 10 C (ref := "CountcoteModel") (T := TX6) (N := 9) (ci := 6) (q := 2) (kR_model (q := 2) (by decide) (by decide)) rfl hinX6 (by decide) rfl hw_f13 dX6_share_10 ?_
    refine z_iload_n 13 C dX6_share_13 rfl 1 rfl ?_
    refine z_iald (v := (x.1 4) j) 14 C kI_4 (by omega) (by rw [xi_n _ (by decide)]) dX6_share_14 ?_
    refine z_if_ne 15 C 20 dX6_share_15 (by decide) (fun h15 => ?_) (fun h15 => ?_)
    · refine z_aload_n 20 C dX6_share_20 rfl 0 rfl ?_
      refine z_iload_n 21 C dX6_share_21 rfl 1 rfl ?_
      refine z_iconst (v := nI 0) 22 C dX6_share_22 rfl ?_
      refine z_iload_n 23 C dX6_share_23 rfl 2 rfl ?_
      refine z_callVi 24 C (As := [.int (nI j), .int (nI 0), .int (nI i)]) 3 kO_model rfl (c_X6_estimateOf l hg (xi x 2 f3) j 0 i hj (by decide) (by omega)) (cwV 3 C.1.2.2.2.2 gX6_share_X6_estimateOf rfl rfl rfl (by decide +kernel) ⟨Nat.le_of_ble_eq_true rfl, Nat.le_of_ble_eq_true rfl⟩) rfl rfl (Nat.le_of_ble_eq_true rfl) ⟨Nat.le_of_ble_eq_true rfl, Nat.le_of_ble_eq_true rfl⟩ dX6_share_24 (fun r u hu => ?_)
      obtain ⟨v4, ev4⟩ : ∃ y : Int32, y = zest (S.1 j) (S.2.1 j) 0 i := ⟨_, rfl⟩
      obtain ⟨hu1, hu2⟩ : u = (xi x 2 f3) ∧ r = v4 := ⟨hu.1, by rw [hu.2, zraw_M (zM_2 hMj) (by decide) (by omega), ev4]⟩
      subst u
      subst r
      refine z_i2d 27 C dX6_share_27 ?_
      refine z_aload_n 28 C dX6_share_28 rfl 0 rfl ?_
      refine z_getr 29 C (ref := "CountcoteModel") (T := TX6) (N := 9) (ci := 6) (q := 2) (kR_model (q := 2) (by decide) (by decide)) rfl hinX6 (by decide) rfl hw_f13 dX6_share_29 ?_
      refine z_iload_n 32 C dX6_share_32 rfl 1 rfl ?_
      refine z_iald (v := (x.1 4) j) 33 C kI_4 (by omega) (by rw [xi_n _ (by decide)]) dX6_share_33 ?_
      refine z_i2d 34 C dX6_share_34 ?_
      refine z_ddiv 35 C dX6_share_35 (zddiv_ok h15) ?_
      exact z_dret 36 C hr (zme (by simp [zk1, zk2, zk3, hz1, hz2, hclj, hcli]) (zMP_i hA ef3) (fun _ => (show _ = zshare (S.1 j) (S.2.1 j) i by rw [ev4, hMj.2.1]; exact (show zshare (S.1 j) (S.2.1 j) i = _ from if_neg (by rw [← hMj.2.1]; exact h15)).symm).trans (by rw [hclj, hcli]))) dX6_share_36
    · refine z_dconst0 18 C dX6_share_18 ?_
      exact z_dret 19 C hr (zme (by simp [zk1, zk2, zk3, hz1, hz2, hclj, hcli]) (zMP_i hA ef3) (fun _ => ((show zshare (S.1 j) (S.2.1 j) i = _ from if_pos (by rw [← hMj.2.1]; exact h15)).symm).trans (by rw [hclj, hcli]))) dX6_share_19
  · subst r
    subst u
    obtain ⟨f5, ef5⟩ : ∃ f9 : Nat → Int32, f9 = upd (x.1 2) 0 (nI 1) := ⟨_, rfl⟩
    rw [← ef5]
    refine z_if_eqN 6 C 18 dX6_share_6 (by decide) (by omega) (fun h6 => ?_) (fun h6 => absurd h6 (by omega))
    refine z_dconst0 18 C dX6_share_18 ?_
    exact z_dret 19 C hr (zme (by simp [zk1, zk2, zk3, hz1]) (zMP_i hA ef5) (fun h0 => absurd h0 (by decide))) dX6_share_19
set_option maxHeartbeats 4000000 in
set_option maxRecDepth 100000 in
/-- X6_parts -/
theorem c_X6_parts (l : Launch) {g : zG} (hg : zOk g) (x : zT) (S : zS) (hA : zMA x S) (p0 p1 : Int32) : Met l yX6_parts wsX6_parts ({ frames := 2, cells := 0, slots := 0, locals := 45 }) (va_Pc [.ref (zad g 2), .int p0, .int p1] (zPre g x)) (va_Qi (fun (r : Int32) (u : zT) => zMP x u S (zk2 (zinb p0 64 && zinb p1 64) (decide (p0 ≤ p1))) ∧ (zk2 (zinb p0 64 && zinb p1 64) (decide (p0 ≤ p1)) = 0 → r = nI (zparts 65 p0.toNatClampNeg p1.toNatClampNeg))) (zB g) (zA g)) 0 0 (zA g) := by
  refine z_met (cc := cX6_parts) (nL := 5) (ret := (some .int)) hg (by decide) rfl (Nat.le_of_ble_eq_true rfl) ?_
  intro p_ e_ s_ m_ args_ below_ meth_ c_ C hr
  show Z p_ l e_ _ s_ m_ args_ below_ meth_ c_ g 5 0 0 _ x 0 [(0, .ref (zad g 2)), (1, .int p0), (2, .int p1)] []
  refine z_aload_n 0 C dX6_parts_0 rfl 0 rfl ?_
  refine z_iconst (v := nI 1) 1 C dX6_parts_1 rfl ?_
  refine z_iload_n 2 C dX6_parts_2 rfl 1 rfl ?_
  refine z_iload_n 3 C dX6_parts_3 rfl 2 rfl ?_
  refine z_callVi 4 C (As := [.int (nI 1), .int p0, .int p1]) 3 kO_model rfl (c_X6_isRange l hg x 1 (by decide) p0 p1) (cwV 3 C.1.2.2.2.2 gX6_parts_X6_isRange rfl rfl rfl (by decide +kernel) ⟨Nat.le_of_ble_eq_true rfl, Nat.le_of_ble_eq_true rfl⟩) rfl rfl (Nat.le_of_ble_eq_true rfl) ⟨Nat.le_of_ble_eq_true rfl, Nat.le_of_ble_eq_true rfl⟩ dX6_parts_4 (fun r u hu => ?_)
  rcases hu with ⟨hr9, ⟨hz1, a, b, hab, hb, hp8, hp9⟩, hu1⟩ | ⟨hr9, hz1, hu1⟩
  · subst r
    subst u
    subst hp8
    subst hp9
    obtain ⟨f2, ef2⟩ : ∃ f9 : Nat → Int32, f9 = upd (x.1 2) 0 (nI 0) := ⟨_, rfl⟩
    rw [← ef2]
    refine z_if_neN 7 C 12 dX6_parts_7 (by decide) (by omega) (fun h7 => ?_) (fun h7 => absurd h7 (by omega))
    have hcla := nI_clamp (n := a) (by omega)
    have hclb := nI_clamp (n := b) (by omega)
    refine z_iconst (v := nI 0) 12 C dX6_parts_12 rfl ?_
    refine z_istore_n (lv' := [(3, .int (nI 0)), (0, .ref (zad g 2)), (1, .int (nI a)), (2, .int (nI b))]) 13 C dX6_parts_13 rfl (by decide) rfl ?_
    refine z_iload_n 14 C dX6_parts_14 rfl 2 rfl ?_
    refine z_istore (lv' := [(4, .int (nI a)), (3, .int (nI 0)), (0, .ref (zad g 2)), (1, .int (nI a)), (2, .int (nI b))]) 15 C dX6_parts_15 (by decide) rfl ?_
    have J17 : ∀ (n17 : Nat) (i : Nat) (n : Nat), (i ≤ b + 1) → (b + 1 < i + n17) → (n + zparts 65 i b = zparts 65 a b) → Z p_ l e_ (headSpec wsX6_parts ({ frames := 2, cells := 0, slots := 0, locals := 45 })).room s_ m_ args_ below_ meth_ c_ g 5 0 0 (MQ below_ (va_Qi (fun (r : Int32) (u : zT) => zMP x u S (zk2 (zinb (nI a) 64 && zinb (nI b) 64) (decide ((nI a) ≤ (nI b)))) ∧ (zk2 (zinb (nI a) 64 && zinb (nI b) 64) (decide ((nI a) ≤ (nI b))) = 0 → r = nI (zparts 65 (nI a).toNatClampNeg (nI b).toNatClampNeg))) (zB g) (zA g)) args_ s_ 0 0 (zA g)) (xi x 2 f2) 17 [(0, .ref (zad g 2)), (1, .int (nI a)), (2, .int (nI b)), (3, .int (nI n)), (4, .int (nI i))] [] := by
      intro n17
      induction n17 with
      | zero => intro i n hi hn hp; exact absurd hn (by omega)
      | succ n17 ih17 =>
        intro i n hi hn hp
        refine z_iload 17 C dX6_parts_17 4 rfl ?_
        refine z_iload_n 19 C dX6_parts_19 rfl 2 rfl ?_
        refine z_icmp_gtN 20 C 42 dX6_parts_20 (by decide) (by omega) (by omega) (fun h20 => ?_) (fun h20 => ?_)
        · refine z_iload_n 42 C dX6_parts_42 rfl 3 rfl ?_
          exact z_iret 43 C hr (zme (hz1) (zMP_i hA ef2) (fun _ => (show _ = nI (zparts 65 a b) by rw [← hp, zparts_e h20]; rfl).trans (by rw [hcla, hclb]))) dX6_parts_43
        · refine z_iinc (v' := nI (n + 1)) (lv' := [(3, .int (nI (n + 1))), (0, .ref (zad g 2)), (1, .int (nI a)), (2, .int (nI b)), (4, .int (nI i))]) 23 C dX6_parts_23 (q := 3) rfl (zn_inc n 1) (by decide) rfl ?_
          refine z_iload 26 C dX6_parts_26 4 rfl ?_
          refine z_iconst (v := nI 1) 28 C dX6_parts_28 rfl ?_
          refine z_iload 29 C dX6_parts_29 4 rfl ?_
          refine z_iload_n 31 C dX6_parts_31 rfl 3 rfl ?_
          refine z_callSi 32 C (As := [.int (nI i), .int (nI b)]) 2 (c_X6_levelAt l hg (xi x 2 f2) i b (by omega) (by omega)) (va_cwS 2 C.1.2.2.2.2 gX6_parts_X6_levelAt rfl rfl rfl (by decide +kernel) ⟨Nat.le_of_ble_eq_true rfl, Nat.le_of_ble_eq_true rfl⟩) rfl rfl (Nat.le_of_ble_eq_true rfl) ⟨Nat.le_of_ble_eq_true rfl, Nat.le_of_ble_eq_true rfl⟩ dX6_parts_32 (fun r u hu => ?_)
          obtain ⟨hu1, hu2⟩ := hu
          subst u
          subst r
          have hlv := zlev_le i b
          have hlp := zlev_pos i b
          have hlf := zlev_fit (show i ≤ b by omega)
          have hpw := zpow_b hlv
          refine z_ishl (v := nI (1 * 2 ^ (zlev i b))) 35 C dX6_parts_35 (zn_shl 1 (zlev i b) (by omega)) ?_
          refine z_iadd (v := nI (i + (1 * 2 ^ (zlev i b)))) 36 C dX6_parts_36 (nI_add i (1 * 2 ^ (zlev i b))) ?_
          refine z_istore (lv' := [(4, .int (nI (i + (1 * 2 ^ (zlev i b))))), (3, .int (nI (n + 1))), (0, .ref (zad g 2)), (1, .int (nI a)), (2, .int (nI b))]) 37 C dX6_parts_37 (by decide) rfl ?_
          refine z_goto 39 C 17 dX6_parts_39 (by decide) ?_
          refine z_lv (lv' := [(0, .ref (zad g 2)), (1, .int (nI a)), (2, .int (nI b)), (3, .int (nI (n + 1))), (4, .int (nI (i + (1 * 2 ^ (zlev i b)))))]) [2, 3, 4, 1, 0] rfl ?_
          exact ih17 (i + 1 * 2 ^ zlev i b) (n + 1) (by omega) (by omega) (by rw [← hp, zpt_s h20 hb, Nat.one_mul]; omega)
    refine z_lv (lv' := [(0, .ref (zad g 2)), (1, .int (nI a)), (2, .int (nI b)), (3, .int (nI 0)), (4, .int (nI a))]) [2, 3, 4, 1, 0] rfl ?_
    exact J17 (b + 2) a 0 (by omega) (by omega) (Nat.zero_add _)
  · subst r
    subst u
    obtain ⟨f3, ef3⟩ : ∃ f9 : Nat → Int32, f9 = upd (x.1 2) 0 (nI (zk2 (decide (1 = 1) && (zinb p0 64 && zinb p1 64)) (decide (p0 ≤ p1)))) := ⟨_, rfl⟩
    rw [← ef3]
    refine z_if_neN 7 C 12 dX6_parts_7 (by decide) (by omega) (fun h7 => absurd h7 (by omega)) (fun h7 => ?_)
    refine z_iconst (v := nI 0) 10 C dX6_parts_10 rfl ?_
    exact z_iret 11 C hr (zme rfl (zMP_i hA ef3) (fun h0 => by rcases hz1 with e | e <;> exact absurd (h0.symm.trans e) (by decide))) dX6_parts_11
set_option maxHeartbeats 4000000 in
set_option maxRecDepth 100000 in
/-- X6_estimateOfRange -/
theorem c_X6_estimateOfRange (l : Launch) {g : zG} (hg : zOk g) (x : zT) (S : zS) (hA : zMA x S) (p0 p1 p2 : Int32) : Met l yX6_estimateOfRange wsX6_estimateOfRange ({ frames := 3, cells := 0, slots := 0, locals := 67 }) (va_Pc [.ref (zad g 2), .int p0, .int p1, .int p2] (zPre g x)) (va_Qi (fun (r : Int32) (u : zT) => zMP x u S (zk2 (zinb p0 4 && (zinb p1 64 && zinb p2 64)) (decide (p1 ≤ p2))) ∧ (zk2 (zinb p0 4 && (zinb p1 64 && zinb p2 64)) (decide (p1 ≤ p2)) = 0 → r = zestR (S.1 p0.toNatClampNeg) (S.2.1 p0.toNatClampNeg) 65 p1.toNatClampNeg p2.toNatClampNeg)) (zB g) (zA g)) 0 0 (zA g) := by
  refine z_met (cc := cX6_estimateOfRange) (nL := 7) (ret := (some .int)) hg (by decide) rfl (Nat.le_of_ble_eq_true rfl) ?_
  intro p_ e_ s_ m_ args_ below_ meth_ c_ C hr
  show Z p_ l e_ _ s_ m_ args_ below_ meth_ c_ g 7 0 0 _ x 0 [(0, .ref (zad g 2)), (1, .int p0), (2, .int p1), (3, .int p2)] []
  refine z_aload_n 0 C dX6_estimateOfRange_0 rfl 0 rfl ?_
  refine z_iload_n 1 C dX6_estimateOfRange_1 rfl 1 rfl ?_
  refine z_callSi 2 C (As := [.int p0]) 1 (c_X6_isStream l hg x p0) (va_cwS 1 C.1.2.2.2.2 gX6_estimateOfRange_X6_isStream rfl rfl rfl (by decide +kernel) ⟨Nat.le_of_ble_eq_true rfl, Nat.le_of_ble_eq_true rfl⟩) rfl rfl (Nat.le_of_ble_eq_true rfl) ⟨Nat.le_of_ble_eq_true rfl, Nat.le_of_ble_eq_true rfl⟩ dX6_estimateOfRange_2 (fun r u hu => ?_)
  obtain ⟨hu1, hu2⟩ := hu
  subst u
  rcases hu2 with ⟨hr9, hz1⟩ | ⟨hr9, hz1⟩
  · subst r
    obtain ⟨j, hj, hp9⟩ := (zinb_t (by omega)).mp hz1
    subst hp9
    have hMj := hA j hj
    have hclj := nI_clamp (n := j) (by omega)
    refine z_iload_n 5 C dX6_estimateOfRange_5 rfl 2 rfl ?_
    refine z_iload_n 6 C dX6_estimateOfRange_6 rfl 3 rfl ?_
    refine z_callVi 7 C (As := [.int (nI 1), .int p1, .int p2]) 3 kO_model rfl (c_X6_isRange l hg x 1 (by decide) p1 p2) (cwV 3 C.1.2.2.2.2 gX6_estimateOfRange_X6_isRange rfl rfl rfl (by decide +kernel) ⟨Nat.le_of_ble_eq_true rfl, Nat.le_of_ble_eq_true rfl⟩) rfl rfl (Nat.le_of_ble_eq_true rfl) ⟨Nat.le_of_ble_eq_true rfl, Nat.le_of_ble_eq_true rfl⟩ dX6_estimateOfRange_7 (fun r u hu => ?_)
    rcases hu with ⟨hr9, ⟨hz2, a, b, hab, hb, hp8, hp9⟩, hu1⟩ | ⟨hr9, hz2, hu1⟩
    · subst r
      subst u
      subst hp8
      subst hp9
      obtain ⟨f3, ef3⟩ : ∃ f9 : Nat → Int32, f9 = upd (x.1 2) 0 (nI 0) := ⟨_, rfl⟩
      rw [← ef3]
      refine z_if_neN 10 C 15 dX6_estimateOfRange_10 (by decide) (by omega) (fun h10 => ?_) (fun h10 => absurd h10 (by omega))
      have hcla := nI_clamp (n := a) (by omega)
      have hclb := nI_clamp (n := b) (by omega)
      refine z_iconst (v := nI 0) 15 C dX6_estimateOfRange_15 rfl ?_
      refine z_istore (lv' := [(4, .int (nI 0)), (0, .ref (zad g 2)), (1, .int (nI j)), (2, .int (nI a)), (3, .int (nI b))]) 16 C dX6_estimateOfRange_16 (by decide) rfl ?_
      refine z_iload_n 18 C dX6_estimateOfRange_18 rfl 3 rfl ?_
      refine z_istore (lv' := [(5, .int (nI a)), (4, .int (nI 0)), (0, .ref (zad g 2)), (1, .int (nI j)), (2, .int (nI a)), (3, .int (nI b))]) 19 C dX6_estimateOfRange_19 (by decide) rfl ?_
      have J21 : ∀ (n21 : Nat) (i : Nat) (t : Int32), (i ≤ b + 1) → (b + 1 < i + n21) → (t + zestR (S.1 j) (S.2.1 j) 65 i b = zestR (S.1 j) (S.2.1 j) 65 a b) → Z p_ l e_ (headSpec wsX6_estimateOfRange ({ frames := 3, cells := 0, slots := 0, locals := 67 })).room s_ m_ args_ below_ meth_ c_ g 7 0 0 (MQ below_ (va_Qi (fun (r : Int32) (u : zT) => zMP x u S (zk2 (zinb (nI j) 4 && (zinb (nI a) 64 && zinb (nI b) 64)) (decide ((nI a) ≤ (nI b)))) ∧ (zk2 (zinb (nI j) 4 && (zinb (nI a) 64 && zinb (nI b) 64)) (decide ((nI a) ≤ (nI b))) = 0 → r = zestR (S.1 (nI j).toNatClampNeg) (S.2.1 (nI j).toNatClampNeg) 65 (nI a).toNatClampNeg (nI b).toNatClampNeg)) (zB g) (zA g)) args_ s_ 0 0 (zA g)) (xi x 2 f3) 21 [(0, .ref (zad g 2)), (1, .int (nI j)), (2, .int (nI a)), (3, .int (nI b)), (4, .int t), (5, .int (nI i))] [] := by
        intro n21
        induction n21 with
        | zero => intro i t hi hn hp; exact absurd hn (by omega)
        | succ n21 ih21 =>
          intro i t hi hn hp
          refine z_iload 21 C dX6_estimateOfRange_21 5 rfl ?_
          refine z_iload_n 23 C dX6_estimateOfRange_23 rfl 3 rfl ?_
          refine z_icmp_gtN 24 C 68 dX6_estimateOfRange_24 (by decide) (by omega) (by omega) (fun h24 => ?_) (fun h24 => ?_)
          · refine z_iload 68 C dX6_estimateOfRange_68 4 rfl ?_
            exact z_iret 70 C hr (zme (by rw [hz1]; exact hz2) (zMP_i hA ef3) (fun _ => (show _ = zestR (S.1 j) (S.2.1 j) 65 a b by rw [← hp, zestR_e h24, Int32.add_zero]).trans (by rw [hclj, hcla, hclb]))) dX6_estimateOfRange_70
          · refine z_iload 27 C dX6_estimateOfRange_27 5 rfl ?_
            refine z_iload_n 29 C dX6_estimateOfRange_29 rfl 3 rfl ?_
            refine z_callSi 30 C (As := [.int (nI i), .int (nI b)]) 2 (c_X6_levelAt l hg (xi x 2 f3) i b (by omega) (by omega)) (va_cwS 2 C.1.2.2.2.2 gX6_estimateOfRange_X6_levelAt rfl rfl rfl (by decide +kernel) ⟨Nat.le_of_ble_eq_true rfl, Nat.le_of_ble_eq_true rfl⟩) rfl rfl (Nat.le_of_ble_eq_true rfl) ⟨Nat.le_of_ble_eq_true rfl, Nat.le_of_ble_eq_true rfl⟩ dX6_estimateOfRange_30 (fun r u hu => ?_)
            obtain ⟨hu1, hu2⟩ := hu
            subst u
            subst r
            have hlv := zlev_le i b
            have hlp := zlev_pos i b
            have hlf := zlev_fit (show i ≤ b by omega)
            have hpw := zpow_b hlv
            refine z_istore (lv' := [(6, .int (nI (zlev i b))), (0, .ref (zad g 2)), (1, .int (nI j)), (2, .int (nI a)), (3, .int (nI b)), (4, .int t), (5, .int (nI i))]) 33 C dX6_estimateOfRange_33 (by decide) rfl ?_
            refine z_iload 35 C dX6_estimateOfRange_35 5 rfl ?_
            refine z_aload_n 37 C dX6_estimateOfRange_37 rfl 1 rfl ?_
            refine z_iload_n 38 C dX6_estimateOfRange_38 rfl 2 rfl ?_
            refine z_iload 39 C dX6_estimateOfRange_39 0 rfl ?_
            refine z_iload 41 C dX6_estimateOfRange_41 6 rfl ?_
            refine z_iload 43 C dX6_estimateOfRange_43 0 rfl ?_
            refine z_ishr (v := nI (i / 2 ^ (zlev i b))) 45 C dX6_estimateOfRange_45 (zn_shr i (zlev i b) (by omega) (by omega)) ?_
            refine z_callVi 46 C (As := [.int (nI j), .int (nI (zlev i b)), .int (nI (i / 2 ^ (zlev i b)))]) 3 kO_model rfl (c_X6_estimateOf l hg (xi x 2 f3) j (zlev i b) (i / 2 ^ (zlev i b)) hj hlv (by have := zhalf_lt (item := i) (lev := zlev i b) (by omega) hlv; omega)) (cwV 3 C.1.2.2.2.2 gX6_estimateOfRange_X6_estimateOf rfl rfl rfl (by decide +kernel) ⟨Nat.le_of_ble_eq_true rfl, Nat.le_of_ble_eq_true rfl⟩) rfl rfl (Nat.le_of_ble_eq_true rfl) ⟨Nat.le_of_ble_eq_true rfl, Nat.le_of_ble_eq_true rfl⟩ dX6_estimateOfRange_46 (fun r u hu => ?_)
            obtain ⟨v4, ev4⟩ : ∃ y : Int32, y = zest (S.1 j) (S.2.1 j) (zlev i b) (i / 2 ^ (zlev i b)) := ⟨_, rfl⟩
            obtain ⟨hu1, hu2⟩ : u = (xi x 2 f3) ∧ r = v4 := ⟨hu.1, by rw [hu.2, zraw_M (zM_2 hMj) hlv (by have := zhalf_lt (item := i) (lev := zlev i b) (by omega) hlv; omega), ev4]⟩
            subst u
            subst r
            refine z_iadd (v := t + v4) 49 C dX6_estimateOfRange_49 rfl ?_
            refine z_istore (lv' := [(4, .int (t + v4)), (6, .int (nI (zlev i b))), (0, .ref (zad g 2)), (1, .int (nI j)), (2, .int (nI a)), (3, .int (nI b)), (5, .int (nI i))]) 50 C dX6_estimateOfRange_50 (by decide) rfl ?_
            refine z_iload 52 C dX6_estimateOfRange_52 6 rfl ?_
            refine z_iconst (v := nI 1) 54 C dX6_estimateOfRange_54 rfl ?_
            refine z_iload 55 C dX6_estimateOfRange_55 6 rfl ?_
            refine z_iload_n 57 C dX6_estimateOfRange_57 rfl 5 rfl ?_
            refine z_callSi 58 C (As := [.int (nI i), .int (nI b)]) 2 (c_X6_levelAt l hg (xi x 2 f3) i b (by omega) (by omega)) (va_cwS 2 C.1.2.2.2.2 gX6_estimateOfRange_X6_levelAt rfl rfl rfl (by decide +kernel) ⟨Nat.le_of_ble_eq_true rfl, Nat.le_of_ble_eq_true rfl⟩) rfl rfl (Nat.le_of_ble_eq_true rfl) ⟨Nat.le_of_ble_eq_true rfl, Nat.le_of_ble_eq_true rfl⟩ dX6_estimateOfRange_58 (fun r u hu => ?_)
            obtain ⟨hu1, hu2⟩ := hu
            subst u
            subst r
            have hlv := zlev_le i b
            have hlp := zlev_pos i b
            have hlf := zlev_fit (show i ≤ b by omega)
            have hpw := zpow_b hlv
            refine z_ishl (v := nI (1 * 2 ^ (zlev i b))) 61 C dX6_estimateOfRange_61 (zn_shl 1 (zlev i b) (by omega)) ?_
            refine z_iadd (v := nI (i + (1 * 2 ^ (zlev i b)))) 62 C dX6_estimateOfRange_62 (nI_add i (1 * 2 ^ (zlev i b))) ?_
            refine z_istore (lv' := [(5, .int (nI (i + (1 * 2 ^ (zlev i b))))), (4, .int (t + v4)), (6, .int (nI (zlev i b))), (0, .ref (zad g 2)), (1, .int (nI j)), (2, .int (nI a)), (3, .int (nI b))]) 63 C dX6_estimateOfRange_63 (by decide) rfl ?_
            refine z_goto 65 C 21 dX6_estimateOfRange_65 (by decide) ?_
            refine z_lv (lv' := [(0, .ref (zad g 2)), (1, .int (nI j)), (2, .int (nI a)), (3, .int (nI b)), (4, .int (t + v4)), (5, .int (nI (i + (1 * 2 ^ (zlev i b)))))]) [3, 4, 5, 6, 1, 0] rfl ?_
            exact ih21 (i + 1 * 2 ^ zlev i b) (t + v4) (by omega) (by omega) (by rw [← hp, zer_s h24 hb, Nat.one_mul, ev4]; exact Int32.add_assoc _ _ _)
      refine z_lv (lv' := [(0, .ref (zad g 2)), (1, .int (nI j)), (2, .int (nI a)), (3, .int (nI b)), (4, .int (nI 0)), (5, .int (nI a))]) [2, 3, 4, 5, 1, 0] rfl ?_
      exact J21 (b + 2) a 0 (by omega) (by omega) (Int32.zero_add _)
    · subst r
      subst u
      obtain ⟨f5, ef5⟩ : ∃ f9 : Nat → Int32, f9 = upd (x.1 2) 0 (nI (zk2 (decide (1 = 1) && (zinb p1 64 && zinb p2 64)) (decide (p1 ≤ p2)))) := ⟨_, rfl⟩
      rw [← ef5]
      refine z_if_neN 10 C 15 dX6_estimateOfRange_10 (by decide) (by omega) (fun h10 => absurd h10 (by omega)) (fun h10 => ?_)
      refine z_iconst (v := nI 0) 13 C dX6_estimateOfRange_13 rfl ?_
      exact z_iret 14 C hr (zme (by rw [hz1]; rfl) (zMP_i hA ef5) (fun h0 => by rcases hz2 with e | e <;> exact absurd (h0.symm.trans e) (by decide))) dX6_estimateOfRange_14
  · subst r
    refine z_iload_n 5 C dX6_estimateOfRange_5 rfl 2 rfl ?_
    refine z_iload_n 6 C dX6_estimateOfRange_6 rfl 3 rfl ?_
    refine z_callVi 7 C (As := [.int (nI 0), .int p1, .int p2]) 3 kO_model rfl (c_X6_isRange l hg x 0 (by decide) p1 p2) (cwV 3 C.1.2.2.2.2 gX6_estimateOfRange_X6_isRange rfl rfl rfl (by decide +kernel) ⟨Nat.le_of_ble_eq_true rfl, Nat.le_of_ble_eq_true rfl⟩) rfl rfl (Nat.le_of_ble_eq_true rfl) ⟨Nat.le_of_ble_eq_true rfl, Nat.le_of_ble_eq_true rfl⟩ dX6_estimateOfRange_7 (fun r u hu => ?_)
    rcases hu with ⟨hr9, ⟨hz6, a, b, hab, hb, hp8, hp9⟩, hu1⟩ | ⟨hr9, hz6, hu1⟩
    · exact absurd hz6 (by simp [zk2])
    · subst r
      subst u
      obtain ⟨f7, ef7⟩ : ∃ f9 : Nat → Int32, f9 = upd (x.1 2) 0 (nI (zk2 (decide (0 = 1) && (zinb p1 64 && zinb p2 64)) (decide (p1 ≤ p2)))) := ⟨_, rfl⟩
      rw [← ef7]
      refine z_if_neN 10 C 15 dX6_estimateOfRange_10 (by decide) (by omega) (fun h10 => absurd h10 (by omega)) (fun h10 => ?_)
      refine z_iconst (v := nI 0) 13 C dX6_estimateOfRange_13 rfl ?_
      exact z_iret 14 C hr (zme (by rw [hz1]; rfl) (zMP_i hA ef7) (fun h0 => by rcases hz6 with e | e <;> exact absurd (h0.symm.trans e) (by decide))) dX6_estimateOfRange_14
set_option maxHeartbeats 4000000 in
set_option maxRecDepth 100000 in
/-- X6_frequent -/
theorem c_X6_frequent (l : Launch) {g : zG} (hg : zOk g) (x : zT) (S : zS) (hA : zMA x S) (p0 p1 : Int32) : Met l yX6_frequent wsX6_frequent ({ frames := 4, cells := 0, slots := 0, locals := 92 }) (va_Pc [.ref (zad g 2), .int p0, .int p1] (zPre g x)) (va_Qi (fun (r : Int32) (u : zT) => zMP x u S (zk2 (zinb p0 4) (zwib p1 (nI 1) (nI 1000000))) ∧ (zk2 (zinb p0 4) (zwib p1 (nI 1) (nI 1000000)) = 0 → r = nI (zfrn (S.1 p0.toNatClampNeg) (S.2.1 p0.toNatClampNeg) p1 64))) (zB g) (zA g)) 0 0 (zA g) := by
  refine z_met (cc := cX6_frequent) (nL := 5) (ret := (some .int)) hg (by decide) rfl (Nat.le_of_ble_eq_true rfl) ?_
  intro p_ e_ s_ m_ args_ below_ meth_ c_ C hr
  show Z p_ l e_ _ s_ m_ args_ below_ meth_ c_ g 5 0 0 _ x 0 [(0, .ref (zad g 2)), (1, .int p0), (2, .int p1)] []
  refine z_aload_n 0 C dX6_frequent_0 rfl 0 rfl ?_
  refine z_iload_n 1 C dX6_frequent_1 rfl 1 rfl ?_
  refine z_iload_n 2 C dX6_frequent_2 rfl 2 rfl ?_
  refine z_callVi 3 C (As := [.int p0, .int p1]) 2 kO_model rfl (c_X6_isLeast l hg x p0 p1) (cwV 2 C.1.2.2.2.2 gX6_frequent_X6_isLeast rfl rfl rfl (by decide +kernel) ⟨Nat.le_of_ble_eq_true rfl, Nat.le_of_ble_eq_true rfl⟩) rfl rfl (Nat.le_of_ble_eq_true rfl) ⟨Nat.le_of_ble_eq_true rfl, Nat.le_of_ble_eq_true rfl⟩ dX6_frequent_3 (fun r u hu => ?_)
  rcases hu with ⟨hr9, ⟨hz1, hz2⟩, hu1⟩ | ⟨hr9, ⟨hz1, hu1⟩ | ⟨hz1, hz2, hu1⟩⟩
  · subst r
    subst u
    obtain ⟨f3, ef3⟩ : ∃ f9 : Nat → Int32, f9 = upd (x.1 2) 0 (nI 0) := ⟨_, rfl⟩
    rw [← ef3]
    obtain ⟨j, hj, hp9⟩ := (zinb_t (by omega)).mp hz1
    subst hp9
    have hMj := hA j hj
    have hclj := nI_clamp (n := j) (by omega)
    refine z_if_neN 6 C 11 dX6_frequent_6 (by decide) (by omega) (fun h6 => ?_) (fun h6 => absurd h6 (by omega))
    refine z_iconst (v := nI 0) 11 C dX6_frequent_11 rfl ?_
    refine z_istore_n (lv' := [(3, .int (nI 0)), (0, .ref (zad g 2)), (1, .int (nI j)), (2, .int p1)]) 12 C dX6_frequent_12 rfl (by decide) rfl ?_
    refine z_iconst (v := nI 0) 13 C dX6_frequent_13 rfl ?_
    refine z_istore (lv' := [(4, .int (nI 0)), (3, .int (nI 0)), (0, .ref (zad g 2)), (1, .int (nI j)), (2, .int p1)]) 14 C dX6_frequent_14 (by decide) rfl ?_
    have J16 : ∀ (n16 : Nat) (i : Nat) (n : Nat), (i ≤ 64) → (64 < i + n16) → (n = zfrn (S.1 j) (S.2.1 j) p1 i) → Z p_ l e_ (headSpec wsX6_frequent ({ frames := 4, cells := 0, slots := 0, locals := 92 })).room s_ m_ args_ below_ meth_ c_ g 5 0 0 (MQ below_ (va_Qi (fun (r : Int32) (u : zT) => zMP x u S (zk2 (zinb (nI j) 4) (zwib p1 (nI 1) (nI 1000000))) ∧ (zk2 (zinb (nI j) 4) (zwib p1 (nI 1) (nI 1000000)) = 0 → r = nI (zfrn (S.1 (nI j).toNatClampNeg) (S.2.1 (nI j).toNatClampNeg) p1 64))) (zB g) (zA g)) args_ s_ 0 0 (zA g)) (xi x 2 f3) 16 [(0, .ref (zad g 2)), (1, .int (nI j)), (2, .int p1), (3, .int (nI n)), (4, .int (nI i))] [] := by
      intro n16
      induction n16 with
      | zero => intro i n hi hn hp; exact absurd hn (by omega)
      | succ n16 ih16 =>
        intro i n hi hn hp
        refine z_iload 16 C dX6_frequent_16 4 rfl ?_
        refine z_bipush (v := nI 64) 18 C dX6_frequent_18 rfl ?_
        refine z_icmp_geN 20 C 48 dX6_frequent_20 (by decide) (by omega) (by omega) (fun h20 => ?_) (fun h20 => ?_)
        · refine z_iload_n 48 C dX6_frequent_48 rfl 3 rfl ?_
          exact z_iret 49 C hr (zme (by simp [zk1, zk2, zk3, hz1, hz2, hclj]) (zMP_i hA ef3) (fun _ => (show _ = nI (zfrn (S.1 j) (S.2.1 j) p1 64) by rw [hp, show i = 64 by omega]).trans (by rw [hclj]))) dX6_frequent_49
        · refine z_iload_n 23 C dX6_frequent_23 rfl 3 rfl ?_
          refine z_aload_n 24 C dX6_frequent_24 rfl 0 rfl ?_
          refine z_iload_n 25 C dX6_frequent_25 rfl 1 rfl ?_
          refine z_iload 26 C dX6_frequent_26 4 rfl ?_
          refine z_iload_n 28 C dX6_frequent_28 rfl 2 rfl ?_
          refine z_callVi 29 C (As := [.int (nI j), .int (nI i), .int p1]) 3 kO_model rfl (c_X6_isFrequent l hg (xi x 2 f3) j hj (S.1 j) (S.2.1 j) (S.2.2.1 j) (S.2.2.2 j) (zM_2 hMj) i (by omega) p1) (cwV 3 C.1.2.2.2.2 gX6_frequent_X6_isFrequent rfl rfl rfl (by decide +kernel) ⟨Nat.le_of_ble_eq_true rfl, Nat.le_of_ble_eq_true rfl⟩) rfl rfl (Nat.le_of_ble_eq_true rfl) ⟨Nat.le_of_ble_eq_true rfl, Nat.le_of_ble_eq_true rfl⟩ dX6_frequent_29 (fun r u hu => ?_)
          obtain ⟨hu1, hu2⟩ := hu
          subst u
          rcases hu2 with ⟨hr9, hfq⟩ | ⟨hr9, hfq⟩
          · subst r
            refine z_if_eqN 32 C 39 dX6_frequent_32 (by decide) (by omega) (fun h32 => absurd h32 (by omega)) (fun h32 => ?_)
            refine z_iconst (v := nI 1) 35 C dX6_frequent_35 rfl ?_
            refine z_goto 36 C 40 dX6_frequent_36 (by decide) ?_
            refine z_iadd (v := nI (n + 1)) 40 C dX6_frequent_40 (nI_add n 1) ?_
            refine z_istore_n (lv' := [(3, .int (nI (n + 1))), (0, .ref (zad g 2)), (1, .int (nI j)), (2, .int p1), (4, .int (nI i))]) 41 C dX6_frequent_41 rfl (by decide) rfl ?_
            refine z_iinc (v' := nI (i + 1)) (lv' := [(4, .int (nI (i + 1))), (3, .int (nI (n + 1))), (0, .ref (zad g 2)), (1, .int (nI j)), (2, .int p1)]) 42 C dX6_frequent_42 (q := 4) rfl (zn_inc i 1) (by decide) rfl ?_
            refine z_goto 45 C 16 dX6_frequent_45 (by decide) ?_
            refine z_lv (lv' := [(0, .ref (zad g 2)), (1, .int (nI j)), (2, .int p1), (3, .int (nI (n + 1))), (4, .int (nI (i + 1)))]) [2, 3, 4, 1, 0] rfl ?_
            exact ih16 (i + 1) (n + 1) (by omega) (by omega) (by rw [hp]; show _ = zfrn (S.1 j) (S.2.1 j) p1 i + zfrb (S.1 j) (S.2.1 j) p1 i; rw [zfrb_y hfq])
          · subst r
            refine z_if_eqN 32 C 39 dX6_frequent_32 (by decide) (by omega) (fun h32 => ?_) (fun h32 => absurd h32 (by omega))
            refine z_iconst (v := nI 0) 39 C dX6_frequent_39 rfl ?_
            refine z_iadd (v := nI (n + 0)) 40 C dX6_frequent_40 (nI_add n 0) ?_
            refine z_istore_n (lv' := [(3, .int (nI (n + 0))), (0, .ref (zad g 2)), (1, .int (nI j)), (2, .int p1), (4, .int (nI i))]) 41 C dX6_frequent_41 rfl (by decide) rfl ?_
            refine z_iinc (v' := nI (i + 1)) (lv' := [(4, .int (nI (i + 1))), (3, .int (nI (n + 0))), (0, .ref (zad g 2)), (1, .int (nI j)), (2, .int p1)]) 42 C dX6_frequent_42 (q := 4) rfl (zn_inc i 1) (by decide) rfl ?_
            refine z_goto 45 C 16 dX6_frequent_45 (by decide) ?_
            refine z_lv (lv' := [(0, .ref (zad g 2)), (1, .int (nI j)), (2, .int p1), (3, .int (nI (n + 0))), (4, .int (nI (i + 1)))]) [2, 3, 4, 1, 0] rfl ?_
            exact ih16 (i + 1) (n + 0) (by omega) (by omega) (by rw [hp]; show _ = zfrn (S.1 j) (S.2.1 j) p1 i + zfrb (S.1 j) (S.2.1 j) p1 i; rw [zfrb_n hfq, Nat.add_zero])
    refine z_lv (lv' := [(0, .ref (zad g 2)), (1, .int (nI j)), (2, .int p1), (3, .int (nI 0)), (4, .int (nI 0))]) [2, 3, 4, 1, 0] rfl ?_
    exact J16 65 0 0 (Nat.zero_le _) (by omega) rfl
  · subst r
    subst u
    obtain ⟨f4, ef4⟩ : ∃ f9 : Nat → Int32, f9 = upd (x.1 2) 0 (nI 1) := ⟨_, rfl⟩
    rw [← ef4]
    refine z_if_neN 6 C 11 dX6_frequent_6 (by decide) (by omega) (fun h6 => absurd h6 (by omega)) (fun h6 => ?_)
    refine z_iconst (v := nI 0) 9 C dX6_frequent_9 rfl ?_
    exact z_iret 10 C hr (zme (by simp [zk1, zk2, zk3, hz1]) (zMP_i hA ef4) (fun h0 => absurd h0 (by decide))) dX6_frequent_10
  · subst r
    subst u
    obtain ⟨f5, ef5⟩ : ∃ f9 : Nat → Int32, f9 = upd (x.1 2) 0 (nI 2) := ⟨_, rfl⟩
    rw [← ef5]
    refine z_if_neN 6 C 11 dX6_frequent_6 (by decide) (by omega) (fun h6 => absurd h6 (by omega)) (fun h6 => ?_)
    refine z_iconst (v := nI 0) 9 C dX6_frequent_9 rfl ?_
    exact z_iret 10 C hr (zme (by simp [zk1, zk2, zk3, hz1, hz2]) (zMP_i hA ef5) (fun h0 => absurd h0 (by decide))) dX6_frequent_10
theorem zfa_n {P : Nat → Prop} {i : Nat} {v : Int32} (h : (v = (-1) ∧ ∀ k, k < i → ¬ P k) ∨ ∃ q, q < i ∧ v = nI q ∧ P q) (hi : ¬ P i) : (v = (-1) ∧ ∀ k, k < i + 1 → ¬ P k) ∨ ∃ q, q < i + 1 ∧ v = nI q ∧ P q := by
  rcases h with ⟨h1, h2⟩ | ⟨q, h1, h2, h3⟩
  · exact Or.inl ⟨h1, zfq_s h2 hi⟩
  · exact Or.inr ⟨q, by omega, h2, h3⟩
set_option maxHeartbeats 4000000 in
set_option maxRecDepth 100000 in
/-- X6_frequentAt -/
theorem c_X6_frequentAt (l : Launch) {g : zG} (hg : zOk g) (x : zT) (S : zS) (hA : zMA x S) (p0 p1 p2 : Int32) : Met l yX6_frequentAt wsX6_frequentAt ({ frames := 4, cells := 0, slots := 0, locals := 92 }) (va_Pc [.ref (zad g 2), .int p0, .int p1, .int p2] (zPre g x)) (va_Qi (fun (r : Int32) (u : zT) => zMP x u S (zk3 (zinb p0 4) (zwib p1 (nI 1) (nI 1000000)) (zfrB (S.1 p0.toNatClampNeg) (S.2.1 p0.toNatClampNeg) p1 p2)) ∧ (zk3 (zinb p0 4) (zwib p1 (nI 1) (nI 1000000)) (zfrB (S.1 p0.toNatClampNeg) (S.2.1 p0.toNatClampNeg) p1 p2) = 0 → r = zfrV (S.1 p0.toNatClampNeg) (S.2.1 p0.toNatClampNeg) p1 p2)) (zB g) (zA g)) 0 0 (zA g) := by
  refine z_met (cc := cX6_frequentAt) (nL := 7) (ret := (some .int)) hg (by decide) rfl (Nat.le_of_ble_eq_true rfl) ?_
  intro p_ e_ s_ m_ args_ below_ meth_ c_ C hr
  show Z p_ l e_ _ s_ m_ args_ below_ meth_ c_ g 7 0 0 _ x 0 [(0, .ref (zad g 2)), (1, .int p0), (2, .int p1), (3, .int p2)] []
  refine z_aload_n 0 C dX6_frequentAt_0 rfl 0 rfl ?_
  refine z_iload_n 1 C dX6_frequentAt_1 rfl 1 rfl ?_
  refine z_iload_n 2 C dX6_frequentAt_2 rfl 2 rfl ?_
  refine z_callVi 3 C (As := [.int p0, .int p1]) 2 kO_model rfl (c_X6_isLeast l hg x p0 p1) (cwV 2 C.1.2.2.2.2 gX6_frequentAt_X6_isLeast rfl rfl rfl (by decide +kernel) ⟨Nat.le_of_ble_eq_true rfl, Nat.le_of_ble_eq_true rfl⟩) rfl rfl (Nat.le_of_ble_eq_true rfl) ⟨Nat.le_of_ble_eq_true rfl, Nat.le_of_ble_eq_true rfl⟩ dX6_frequentAt_3 (fun r u hu => ?_)
  rcases hu with ⟨hr9, ⟨hz1, hz2⟩, hu1⟩ | ⟨hr9, ⟨hz1, hu1⟩ | ⟨hz1, hz2, hu1⟩⟩
  · subst r
    subst u
    obtain ⟨f3, ef3⟩ : ∃ f9 : Nat → Int32, f9 = upd (x.1 2) 0 (nI 0) := ⟨_, rfl⟩
    rw [← ef3]
    obtain ⟨j, hj, hp9⟩ := (zinb_t (by omega)).mp hz1
    subst hp9
    have hMj := hA j hj
    have hclj := nI_clamp (n := j) (by omega)
    refine z_if_neN 6 C 11 dX6_frequentAt_6 (by decide) (by omega) (fun h6 => ?_) (fun h6 => absurd h6 (by omega))
    refine z_iconst (v := nI 0) 11 C dX6_frequentAt_11 rfl ?_
    refine z_istore (lv' := [(4, .int (nI 0)), (0, .ref (zad g 2)), (1, .int (nI j)), (2, .int p1), (3, .int p2)]) 12 C dX6_frequentAt_12 (by decide) rfl ?_
    refine z_iconst (v := (-1)) 14 C dX6_frequentAt_14 rfl ?_
    refine z_istore (lv' := [(5, .int (-1)), (4, .int (nI 0)), (0, .ref (zad g 2)), (1, .int (nI j)), (2, .int p1), (3, .int p2)]) 15 C dX6_frequentAt_15 (by decide) rfl ?_
    refine z_iconst (v := nI 0) 17 C dX6_frequentAt_17 rfl ?_
    refine z_istore (lv' := [(6, .int (nI 0)), (5, .int (-1)), (4, .int (nI 0)), (0, .ref (zad g 2)), (1, .int (nI j)), (2, .int p1), (3, .int p2)]) 18 C dX6_frequentAt_18 (by decide) rfl ?_
    have J20 : ∀ (n20 : Nat) (i : Nat) (n : Nat) (v : Int32), (i ≤ 64) → (64 < i + n20) → (n = zfrn (S.1 j) (S.2.1 j) p1 i) → ((v = (-1) ∧ ∀ k, k < i → ¬ zfrat (S.1 j) (S.2.1 j) p1 p2 k) ∨ ∃ q, q < i ∧ v = nI q ∧ zfrat (S.1 j) (S.2.1 j) p1 p2 q) → Z p_ l e_ (headSpec wsX6_frequentAt ({ frames := 4, cells := 0, slots := 0, locals := 92 })).room s_ m_ args_ below_ meth_ c_ g 7 0 0 (MQ below_ (va_Qi (fun (r : Int32) (u : zT) => zMP x u S (zk3 (zinb (nI j) 4) (zwib p1 (nI 1) (nI 1000000)) (zfrB (S.1 (nI j).toNatClampNeg) (S.2.1 (nI j).toNatClampNeg) p1 p2)) ∧ (zk3 (zinb (nI j) 4) (zwib p1 (nI 1) (nI 1000000)) (zfrB (S.1 (nI j).toNatClampNeg) (S.2.1 (nI j).toNatClampNeg) p1 p2) = 0 → r = zfrV (S.1 (nI j).toNatClampNeg) (S.2.1 (nI j).toNatClampNeg) p1 p2)) (zB g) (zA g)) args_ s_ 0 0 (zA g)) (xi x 2 f3) 20 [(0, .ref (zad g 2)), (1, .int (nI j)), (2, .int p1), (3, .int p2), (4, .int (nI n)), (5, .int v), (6, .int (nI i))] [] := by
      intro n20
      induction n20 with
      | zero => intro i n v hi hn hp hq; exact absurd hn (by omega)
      | succ n20 ih20 =>
        intro i n v hi hn hp hq
        refine z_iload 20 C dX6_frequentAt_20 6 rfl ?_
        refine z_bipush (v := nI 64) 22 C dX6_frequentAt_22 rfl ?_
        refine z_icmp_geN 24 C 62 dX6_frequentAt_24 (by decide) (by omega) (by omega) (fun h24 => ?_) (fun h24 => ?_)
        · refine z_aload_n 62 C dX6_frequentAt_62 rfl 0 rfl ?_
          refine z_iload 63 C dX6_frequentAt_63 5 rfl ?_
          refine z_iconst (v := (-1)) 65 C dX6_frequentAt_65 rfl ?_
          refine z_icmp_ne 66 C 73 dX6_frequentAt_66 (by decide) (fun h66 => ?_) (fun h66 => ?_)
          · obtain ⟨q, hq1, hq2, hq3⟩ : ∃ q, q < i ∧ v = nI q ∧ zfrat (S.1 j) (S.2.1 j) p1 p2 q := by
              rcases hq with z | z
              · exact absurd z.1 h66
              · exact z
            have hfb : zfrB (S.1 j) (S.2.1 j) p1 p2 = true := zfrB_y hq3
            refine z_iconst (v := nI 0) 73 C dX6_frequentAt_73 rfl ?_
            refine z_callVi 74 C (As := [.int (nI 0)]) 1 kO_model rfl (c_X6_holds l hg (xi x 2 f3) 0 (by decide)) (cwV 1 C.1.2.2.2.2 gX6_frequentAt_X6_holds rfl rfl rfl (by decide +kernel) ⟨Nat.le_of_ble_eq_true rfl, Nat.le_of_ble_eq_true rfl⟩) rfl rfl (Nat.le_of_ble_eq_true rfl) ⟨Nat.le_of_ble_eq_true rfl, Nat.le_of_ble_eq_true rfl⟩ dX6_frequentAt_74 (fun r u hu => ?_)
            obtain ⟨f4, ef4⟩ : ∃ f9 : Nat → Int32, f9 = upd (x.1 2) 0 (nI 0) := ⟨_, rfl⟩
            obtain ⟨hu1, hu2⟩ : u = (xi x 2 f4) ∧ r = nI 1 := ⟨by rw [hu.1, xi_s, xi_xi, ef3, zupd2, ef4], hu.2⟩
            subst u
            subst r
            refine z_if_eqN 77 C 85 dX6_frequentAt_77 (by decide) (by omega) (fun h77 => absurd h77 (by omega)) (fun h77 => ?_)
            refine z_iload 80 C dX6_frequentAt_80 5 rfl ?_
            refine z_goto 82 C 86 dX6_frequentAt_82 (by decide) ?_
            exact z_iret 86 C hr (zme (by simp [zk1, zk2, zk3, hz1, hz2, hclj, hfb]) (zMP_i hA ef4) (fun _ => (show v = zfrV (S.1 j) (S.2.1 j) p1 p2 by rw [zfrV_eq hq3, hq2]).trans (by rw [hclj]))) dX6_frequentAt_86
          · have hq3 : ∀ k, ¬ zfrat (S.1 j) (S.2.1 j) p1 p2 k := by
              rcases hq with z | ⟨q, z1, z2, z3⟩
              · exact fun k y => z.2 k (by have := y.1; omega) y
              · exact absurd (z2.symm.trans h66) (zn_m1 q (by omega))
            have hfb : zfrB (S.1 j) (S.2.1 j) p1 p2 = false := zfrB_n hq3
            refine z_iconst (v := nI 3) 69 C dX6_frequentAt_69 rfl ?_
            refine z_goto 70 C 74 dX6_frequentAt_70 (by decide) ?_
            refine z_callVi 74 C (As := [.int (nI 3)]) 1 kO_model rfl (c_X6_holds l hg (xi x 2 f3) 3 (by decide)) (cwV 1 C.1.2.2.2.2 gX6_frequentAt_X6_holds rfl rfl rfl (by decide +kernel) ⟨Nat.le_of_ble_eq_true rfl, Nat.le_of_ble_eq_true rfl⟩) rfl rfl (Nat.le_of_ble_eq_true rfl) ⟨Nat.le_of_ble_eq_true rfl, Nat.le_of_ble_eq_true rfl⟩ dX6_frequentAt_74 (fun r u hu => ?_)
            obtain ⟨f5, ef5⟩ : ∃ f9 : Nat → Int32, f9 = upd (x.1 2) 0 (nI 3) := ⟨_, rfl⟩
            obtain ⟨hu1, hu2⟩ : u = (xi x 2 f5) ∧ r = nI 0 := ⟨by rw [hu.1, xi_s, xi_xi, ef3, zupd2, ef5], hu.2⟩
            subst u
            subst r
            refine z_if_eqN 77 C 85 dX6_frequentAt_77 (by decide) (by omega) (fun h77 => ?_) (fun h77 => absurd h77 (by omega))
            refine z_iconst (v := nI 0) 85 C dX6_frequentAt_85 rfl ?_
            exact z_iret 86 C hr (zme (by simp [zk1, zk2, zk3, hz1, hz2, hclj, hfb]) (zMP_i hA ef5) (fun h0 => absurd h0 (by decide))) dX6_frequentAt_86
        · refine z_aload_n 27 C dX6_frequentAt_27 rfl 0 rfl ?_
          refine z_iload_n 28 C dX6_frequentAt_28 rfl 1 rfl ?_
          refine z_iload 29 C dX6_frequentAt_29 6 rfl ?_
          refine z_iload_n 31 C dX6_frequentAt_31 rfl 2 rfl ?_
          refine z_callVi 32 C (As := [.int (nI j), .int (nI i), .int p1]) 3 kO_model rfl (c_X6_isFrequent l hg (xi x 2 f3) j hj (S.1 j) (S.2.1 j) (S.2.2.1 j) (S.2.2.2 j) (zM_2 hMj) i (by omega) p1) (cwV 3 C.1.2.2.2.2 gX6_frequentAt_X6_isFrequent rfl rfl rfl (by decide +kernel) ⟨Nat.le_of_ble_eq_true rfl, Nat.le_of_ble_eq_true rfl⟩) rfl rfl (Nat.le_of_ble_eq_true rfl) ⟨Nat.le_of_ble_eq_true rfl, Nat.le_of_ble_eq_true rfl⟩ dX6_frequentAt_32 (fun r u hu => ?_)
          obtain ⟨hu1, hu2⟩ := hu
          subst u
          rcases hu2 with ⟨hr9, hfq⟩ | ⟨hr9, hfq⟩
          · subst r
            refine z_if_eqN 35 C 56 dX6_frequentAt_35 (by decide) (by omega) (fun h35 => absurd h35 (by omega)) (fun h35 => ?_)
            refine z_iload 38 C dX6_frequentAt_38 4 rfl ?_
            refine z_iload_n 40 C dX6_frequentAt_40 rfl 3 rfl ?_
            refine z_icmp_ne 41 C 49 dX6_frequentAt_41 (by decide) (fun h41 => ?_) (fun h41 => ?_)
            · refine z_iload 49 C dX6_frequentAt_49 5 rfl ?_
              refine z_istore (lv' := [(5, .int v), (0, .ref (zad g 2)), (1, .int (nI j)), (2, .int p1), (3, .int p2), (4, .int (nI n)), (6, .int (nI i))]) 51 C dX6_frequentAt_51 (by decide) rfl ?_
              refine z_iinc (v' := nI (n + 1)) (lv' := [(4, .int (nI (n + 1))), (5, .int v), (0, .ref (zad g 2)), (1, .int (nI j)), (2, .int p1), (3, .int p2), (6, .int (nI i))]) 53 C dX6_frequentAt_53 (q := 5) rfl (zn_inc n 1) (by decide) rfl ?_
              refine z_iinc (v' := nI (i + 1)) (lv' := [(6, .int (nI (i + 1))), (4, .int (nI (n + 1))), (5, .int v), (0, .ref (zad g 2)), (1, .int (nI j)), (2, .int p1), (3, .int p2)]) 56 C dX6_frequentAt_56 (q := 6) rfl (zn_inc i 1) (by decide) rfl ?_
              refine z_goto 59 C 20 dX6_frequentAt_59 (by decide) ?_
              refine z_lv (lv' := [(0, .ref (zad g 2)), (1, .int (nI j)), (2, .int p1), (3, .int p2), (4, .int (nI (n + 1))), (5, .int v), (6, .int (nI (i + 1)))]) [3, 4, 5, 6, 1, 2, 0] rfl ?_
              exact ih20 (i + 1) (n + 1) v (by omega) (by omega) (by rw [hp]; show _ = zfrn (S.1 j) (S.2.1 j) p1 i + zfrb (S.1 j) (S.2.1 j) p1 i; rw [zfrb_y hfq]) (zfa_n hq (fun z => h41 (by rw [hp]; exact z.2.2.symm)))
            · refine z_iload 44 C dX6_frequentAt_44 6 rfl ?_
              refine z_goto 46 C 51 dX6_frequentAt_46 (by decide) ?_
              refine z_istore (lv' := [(5, .int (nI i)), (0, .ref (zad g 2)), (1, .int (nI j)), (2, .int p1), (3, .int p2), (4, .int (nI n)), (6, .int (nI i))]) 51 C dX6_frequentAt_51 (by decide) rfl ?_
              refine z_iinc (v' := nI (n + 1)) (lv' := [(4, .int (nI (n + 1))), (5, .int (nI i)), (0, .ref (zad g 2)), (1, .int (nI j)), (2, .int p1), (3, .int p2), (6, .int (nI i))]) 53 C dX6_frequentAt_53 (q := 5) rfl (zn_inc n 1) (by decide) rfl ?_
              refine z_iinc (v' := nI (i + 1)) (lv' := [(6, .int (nI (i + 1))), (4, .int (nI (n + 1))), (5, .int (nI i)), (0, .ref (zad g 2)), (1, .int (nI j)), (2, .int p1), (3, .int p2)]) 56 C dX6_frequentAt_56 (q := 6) rfl (zn_inc i 1) (by decide) rfl ?_
              refine z_goto 59 C 20 dX6_frequentAt_59 (by decide) ?_
              refine z_lv (lv' := [(0, .ref (zad g 2)), (1, .int (nI j)), (2, .int p1), (3, .int p2), (4, .int (nI (n + 1))), (5, .int (nI i)), (6, .int (nI (i + 1)))]) [3, 4, 5, 6, 1, 2, 0] rfl ?_
              exact ih20 (i + 1) (n + 1) (nI i) (by omega) (by omega) (by rw [hp]; show _ = zfrn (S.1 j) (S.2.1 j) p1 i + zfrb (S.1 j) (S.2.1 j) p1 i; rw [zfrb_y hfq]) (Or.inr ⟨i, by omega, rfl, by omega, hfq, by rw [← hp]; exact h41.symm⟩)
          · subst r
            refine z_if_eqN 35 C 56 dX6_frequentAt_35 (by decide) (by omega) (fun h35 => ?_) (fun h35 => absurd h35 (by omega))
            refine z_iinc (v' := nI (i + 1)) (lv' := [(6, .int (nI (i + 1))), (0, .ref (zad g 2)), (1, .int (nI j)), (2, .int p1), (3, .int p2), (4, .int (nI n)), (5, .int v)]) 56 C dX6_frequentAt_56 (q := 6) rfl (zn_inc i 1) (by decide) rfl ?_
            refine z_goto 59 C 20 dX6_frequentAt_59 (by decide) ?_
            refine z_lv (lv' := [(0, .ref (zad g 2)), (1, .int (nI j)), (2, .int p1), (3, .int p2), (4, .int (nI n)), (5, .int v), (6, .int (nI (i + 1)))]) [1, 2, 3, 4, 5, 6, 0] rfl ?_
            exact ih20 (i + 1) n v (by omega) (by omega) (by rw [hp]; show _ = zfrn (S.1 j) (S.2.1 j) p1 i + zfrb (S.1 j) (S.2.1 j) p1 i; rw [zfrb_n hfq, Nat.add_zero]) (zfa_n hq (fun z => hfq z.2.1))
    refine z_lv (lv' := [(0, .ref (zad g 2)), (1, .int (nI j)), (2, .int p1), (3, .int p2), (4, .int (nI 0)), (5, .int (-1)), (6, .int (nI 0))]) [3, 4, 5, 6, 2, 1, 0] rfl ?_
    exact J20 65 0 0 (-1) (Nat.zero_le _) (by omega) rfl (Or.inl ⟨rfl, fun k h => absurd h (Nat.not_lt_zero k)⟩)
  · subst r
    subst u
    obtain ⟨f6, ef6⟩ : ∃ f9 : Nat → Int32, f9 = upd (x.1 2) 0 (nI 1) := ⟨_, rfl⟩
    rw [← ef6]
    refine z_if_neN 6 C 11 dX6_frequentAt_6 (by decide) (by omega) (fun h6 => absurd h6 (by omega)) (fun h6 => ?_)
    refine z_iconst (v := nI 0) 9 C dX6_frequentAt_9 rfl ?_
    exact z_iret 10 C hr (zme (by simp [zk1, zk2, zk3, hz1]) (zMP_i hA ef6) (fun h0 => absurd h0 (by decide))) dX6_frequentAt_10
  · subst r
    subst u
    obtain ⟨f7, ef7⟩ : ∃ f9 : Nat → Int32, f9 = upd (x.1 2) 0 (nI 2) := ⟨_, rfl⟩
    rw [← ef7]
    refine z_if_neN 6 C 11 dX6_frequentAt_6 (by decide) (by omega) (fun h6 => absurd h6 (by omega)) (fun h6 => ?_)
    refine z_iconst (v := nI 0) 9 C dX6_frequentAt_9 rfl ?_
    exact z_iret 10 C hr (zme (by simp [zk1, zk2, zk3, hz1, hz2]) (zMP_i hA ef7) (fun h0 => absurd h0 (by decide))) dX6_frequentAt_10
set_option maxHeartbeats 4000000 in
set_option maxRecDepth 100000 in
/-- X6_itemOfRank -/
theorem c_X6_itemOfRank (l : Launch) {g : zG} (hg : zOk g) (x : zT) (S : zS) (hA : zMA x S) (p0 p1 : Int32) : Met l yX6_itemOfRank wsX6_itemOfRank ({ frames := 3, cells := 0, slots := 0, locals := 67 }) (va_Pc [.ref (zad g 2), .int p0, .int p1] (zPre g x)) (va_Qi (fun (r : Int32) (u : zT) => zMP x u S (zk2 (zinb p0 4) (zwib p1 (nI 1) (ztot (S.1 p0.toNatClampNeg)))) ∧ (zk2 (zinb p0 4) (zwib p1 (nI 1) (ztot (S.1 p0.toNatClampNeg))) = 0 → r = nI (zrank (S.1 p0.toNatClampNeg) (S.2.1 p0.toNatClampNeg) 6 p1 0))) (zB g) (zA g)) 0 0 (zA g) := by
  refine z_met (cc := cX6_itemOfRank) (nL := 8) (ret := (some .int)) hg (by decide) rfl (Nat.le_of_ble_eq_true rfl) ?_
  intro p_ e_ s_ m_ args_ below_ meth_ c_ C hr
  show Z p_ l e_ _ s_ m_ args_ below_ meth_ c_ g 8 0 0 _ x 0 [(0, .ref (zad g 2)), (1, .int p0), (2, .int p1)] []
  have hw_f13 := C.1.2.2.2.2 (.fieldLink RX6 13 "CountcoteModel" "totals" "[I") (by decide +kernel)
  have hinX6 : ∀ w ∈ wsX60, w ∈ wsX6_itemOfRank := by decide +kernel
  refine z_iload_n 0 C dX6_itemOfRank_0 rfl 1 rfl ?_
  refine z_callSi 1 C (As := [.int p0]) 1 (c_X6_isStream l hg x p0) (va_cwS 1 C.1.2.2.2.2 gX6_itemOfRank_X6_isStream rfl rfl rfl (by decide +kernel) ⟨Nat.le_of_ble_eq_true rfl, Nat.le_of_ble_eq_true rfl⟩) rfl rfl (Nat.le_of_ble_eq_true rfl) ⟨Nat.le_of_ble_eq_true rfl, Nat.le_of_ble_eq_true rfl⟩ dX6_itemOfRank_1 (fun r u hu => ?_)
  obtain ⟨hu1, hu2⟩ := hu
  subst u
  rcases hu2 with ⟨hr9, hz1⟩ | ⟨hr9, hz1⟩
  · subst r
    obtain ⟨j, hj, hp9⟩ := (zinb_t (by omega)).mp hz1
    subst hp9
    have hMj := hA j hj
    have hclj := nI_clamp (n := j) (by omega)
    refine z_istore_n (lv' := [(3, .int (nI 1)), (0, .ref (zad g 2)), (1, .int (nI j)), (2, .int p1)]) 4 C dX6_itemOfRank_4 rfl (by decide) rfl ?_
    refine z_aload_n 5 C dX6_itemOfRank_5 rfl 1 rfl ?_
    refine z_iload_n 6 C dX6_itemOfRank_6 rfl 0 rfl ?_
    refine z_if_neN 7 C 14 dX6_itemOfRank_7 (by decide) (by omega) (fun h7 => ?_) (fun h7 => absurd h7 (by omega))
    refine z_iload_n 14 C dX6_itemOfRank_14 rfl 3 rfl ?_
    refine z_iconst (v := nI 1) 15 C dX6_itemOfRank_15 rfl ?_
    refine z_icmp_lt 16 C 29 dX6_itemOfRank_16 (by decide) (fun h16 => ?_) (fun h16 => ?_)
    · have hw9 : zwib p1 (nI 1) (ztot (S.1 j)) = false := zwib_f1 h16
      refine z_iconst (v := nI 2) 29 C dX6_itemOfRank_29 rfl ?_
      refine z_goto 30 C 34 dX6_itemOfRank_30 (by decide) ?_
      refine z_callVi 34 C (As := [.int (nI 2)]) 1 kO_model rfl (c_X6_holds l hg x 2 (by decide)) (cwV 1 C.1.2.2.2.2 gX6_itemOfRank_X6_holds rfl rfl rfl (by decide +kernel) ⟨Nat.le_of_ble_eq_true rfl, Nat.le_of_ble_eq_true rfl⟩) rfl rfl (Nat.le_of_ble_eq_true rfl) ⟨Nat.le_of_ble_eq_true rfl, Nat.le_of_ble_eq_true rfl⟩ dX6_itemOfRank_34 (fun r u hu => ?_)
      obtain ⟨f2, ef2⟩ : ∃ f9 : Nat → Int32, f9 = upd (x.1 2) 0 (nI 2) := ⟨_, rfl⟩
      obtain ⟨hu1, hu2⟩ : u = (xi x 2 f2) ∧ r = nI 0 := ⟨by rw [hu.1, ef2], hu.2⟩
      subst u
      subst r
      refine z_if_neN 37 C 42 dX6_itemOfRank_37 (by decide) (by omega) (fun h37 => absurd h37 (by omega)) (fun h37 => ?_)
      refine z_iconst (v := nI 0) 40 C dX6_itemOfRank_40 rfl ?_
      exact z_iret 41 C hr (zme (by simp [zk1, zk2, zk3, hz1, hclj, hw9]) (zMP_i hA ef2) (fun h0 => absurd h0 (by decide))) dX6_itemOfRank_41
    · refine z_iload_n 19 C dX6_itemOfRank_19 rfl 3 rfl ?_
      refine z_aload_n 20 C dX6_itemOfRank_20 rfl 1 rfl ?_
      refine z_getr 21 C (ref := "CountcoteModel") (T := TX6) (N := 9) (ci := 6) (q := 2) (kR_model (q := 2) (by decide) (by decide)) rfl hinX6 (by decide) rfl hw_f13 dX6_itemOfRank_21 ?_
      refine z_iload_n 24 C dX6_itemOfRank_24 rfl 2 rfl ?_
      refine z_iald (v := (x.1 4) j) 25 C kI_4 (by omega) rfl dX6_itemOfRank_25 ?_
      refine z_icmp_le 26 C 33 dX6_itemOfRank_26 (by decide) (fun h26 => ?_) (fun h26 => ?_)
      · have hw9 : zwib p1 (nI 1) (ztot (S.1 j)) = true := by rw [← hMj.2.1]; exact zwib_y h16 h26
        refine z_iconst (v := nI 0) 33 C dX6_itemOfRank_33 rfl ?_
        refine z_callVi 34 C (As := [.int (nI 0)]) 1 kO_model rfl (c_X6_holds l hg x 0 (by decide)) (cwV 1 C.1.2.2.2.2 gX6_itemOfRank_X6_holds rfl rfl rfl (by decide +kernel) ⟨Nat.le_of_ble_eq_true rfl, Nat.le_of_ble_eq_true rfl⟩) rfl rfl (Nat.le_of_ble_eq_true rfl) ⟨Nat.le_of_ble_eq_true rfl, Nat.le_of_ble_eq_true rfl⟩ dX6_itemOfRank_34 (fun r u hu => ?_)
        obtain ⟨f3, ef3⟩ : ∃ f9 : Nat → Int32, f9 = upd (x.1 2) 0 (nI 0) := ⟨_, rfl⟩
        obtain ⟨hu1, hu2⟩ : u = (xi x 2 f3) ∧ r = nI 1 := ⟨by rw [hu.1, ef3], hu.2⟩
        subst u
        subst r
        refine z_if_neN 37 C 42 dX6_itemOfRank_37 (by decide) (by omega) (fun h37 => ?_) (fun h37 => absurd h37 (by omega))
        refine z_iconst (v := nI 0) 42 C dX6_itemOfRank_42 rfl ?_
        refine z_istore (lv' := [(4, .int (nI 0)), (3, .int (nI 1)), (0, .ref (zad g 2)), (1, .int (nI j)), (2, .int p1)]) 43 C dX6_itemOfRank_43 (by decide) rfl ?_
        refine z_iload_n 45 C dX6_itemOfRank_45 rfl 4 rfl ?_
        refine z_istore (lv' := [(5, .int p1), (4, .int (nI 0)), (3, .int (nI 1)), (0, .ref (zad g 2)), (1, .int (nI j)), (2, .int p1)]) 46 C dX6_itemOfRank_46 (by decide) rfl ?_
        refine z_iconst (v := nI 5) 48 C dX6_itemOfRank_48 rfl ?_
        refine z_istore (lv' := [(6, .int (nI 5)), (5, .int p1), (4, .int (nI 0)), (3, .int (nI 1)), (0, .ref (zad g 2)), (1, .int (nI j)), (2, .int p1)]) 49 C dX6_itemOfRank_49 (by decide) rfl ?_
        have J51 : ∀ (n51 : Nat) (n : Nat) (t : Int32) (h : Nat), (n < n51) → (n ≤ 6) → (h < 64 / 2 ^ n) → (zrank (S.1 j) (S.2.1 j) n t h = zrank (S.1 j) (S.2.1 j) 6 p1 0) → Z p_ l e_ (headSpec wsX6_itemOfRank ({ frames := 3, cells := 0, slots := 0, locals := 67 })).room s_ m_ args_ below_ meth_ c_ g 8 0 0 (MQ below_ (va_Qi (fun (r : Int32) (u : zT) => zMP x u S (zk2 (zinb (nI j) 4) (zwib p1 (nI 1) (ztot (S.1 (nI j).toNatClampNeg)))) ∧ (zk2 (zinb (nI j) 4) (zwib p1 (nI 1) (ztot (S.1 (nI j).toNatClampNeg))) = 0 → r = nI (zrank (S.1 (nI j).toNatClampNeg) (S.2.1 (nI j).toNatClampNeg) 6 p1 0))) (zB g) (zA g)) args_ s_ 0 0 (zA g)) (xi x 2 f3) 51 [(0, .ref (zad g 2)), (1, .int (nI j)), (2, .int p1), (3, .int (nI 1)), (4, .int (nI h)), (5, .int t), (6, .int (zlm n))] [] := by
          intro n51
          induction n51 with
          | zero => intro n t h hn h6 hh hp; exact absurd hn (by omega)
          | succ n51 ih51 =>
            intro n t h hn h6 hh hp
            refine z_iload 51 C dX6_itemOfRank_51 6 rfl ?_
            refine z_if_lt 53 C 115 dX6_itemOfRank_53 (by decide) (fun h53 => ?_) (fun h53 => ?_)
            · refine z_iload 115 C dX6_itemOfRank_115 4 rfl ?_
              exact z_iret 117 C hr (zme (by simp [zk1, zk2, zk3, hz1, hclj, hw9]) (zMP_i hA ef3) (fun _ => (show _ = nI (zrank (S.1 j) (S.2.1 j) 6 p1 0) by rw [← hp, zlm_n0 (by omega) h53]; rfl).trans (by rw [hclj]))) dX6_itemOfRank_117
            · obtain ⟨q, hq9⟩ := zlm_nn h53
              subst hq9
              rw [zlm_s q]
              have hh64 : h < 64 := Nat.lt_of_lt_of_le hh (Nat.div_le_self _ _)
              refine z_aload_n 56 C dX6_itemOfRank_56 rfl 0 rfl ?_
              refine z_iload_n 57 C dX6_itemOfRank_57 rfl 1 rfl ?_
              refine z_iload 58 C dX6_itemOfRank_58 6 rfl ?_
              refine z_iconst (v := nI 2) 60 C dX6_itemOfRank_60 rfl ?_
              refine z_iload 61 C dX6_itemOfRank_61 4 rfl ?_
              refine z_imul (v := nI (2 * h)) 63 C dX6_itemOfRank_63 (pk_mul 2 h) ?_
              refine z_callVi 64 C (As := [.int (nI j), .int (nI q), .int (nI (2 * h))]) 3 kO_model rfl (c_X6_estimateOf l hg (xi x 2 f3) j q (2 * h) hj (by omega) (zhlf_s h6 (by omega))) (cwV 3 C.1.2.2.2.2 gX6_itemOfRank_X6_estimateOf rfl rfl rfl (by decide +kernel) ⟨Nat.le_of_ble_eq_true rfl, Nat.le_of_ble_eq_true rfl⟩) rfl rfl (Nat.le_of_ble_eq_true rfl) ⟨Nat.le_of_ble_eq_true rfl, Nat.le_of_ble_eq_true rfl⟩ dX6_itemOfRank_64 (fun r u hu => ?_)
              obtain ⟨v4, ev4⟩ : ∃ y : Int32, y = zest (S.1 j) (S.2.1 j) q (2 * h) := ⟨_, rfl⟩
              obtain ⟨hu1, hu2⟩ : u = (xi x 2 f3) ∧ r = v4 := ⟨hu.1, by rw [hu.2, zraw_M (zM_2 hMj) (by omega) (zhlf_s h6 (by omega)), ev4]⟩
              subst u
              subst r
              refine z_istore (lv' := [(7, .int v4), (0, .ref (zad g 2)), (1, .int (nI j)), (2, .int p1), (3, .int (nI 1)), (4, .int (nI h)), (5, .int t), (6, .int (nI q))]) 67 C dX6_itemOfRank_67 (by decide) rfl ?_
              refine z_iload 69 C dX6_itemOfRank_69 6 rfl ?_
              refine z_iload 71 C dX6_itemOfRank_71 0 rfl ?_
              refine z_icmp_gt 73 C 83 dX6_itemOfRank_73 (by decide) (fun h73 => ?_) (fun h73 => ?_)
              · refine z_iconst (v := nI 2) 83 C dX6_itemOfRank_83 rfl ?_
                refine z_iload 84 C dX6_itemOfRank_84 5 rfl ?_
                refine z_imul (v := nI (2 * h)) 86 C dX6_itemOfRank_86 (pk_mul 2 h) ?_
                refine z_iconst (v := nI 1) 87 C dX6_itemOfRank_87 rfl ?_
                refine z_iadd (v := nI ((2 * h) + 1)) 88 C dX6_itemOfRank_88 (nI_add (2 * h) 1) ?_
                refine z_istore (lv' := [(4, .int (nI ((2 * h) + 1))), (7, .int v4), (0, .ref (zad g 2)), (1, .int (nI j)), (2, .int p1), (3, .int (nI 1)), (5, .int t), (6, .int (nI q))]) 89 C dX6_itemOfRank_89 (by decide) rfl ?_
                refine z_iload 91 C dX6_itemOfRank_91 6 rfl ?_
                refine z_iload 93 C dX6_itemOfRank_93 0 rfl ?_
                refine z_iconst (v := nI 2) 95 C dX6_itemOfRank_95 rfl ?_
                refine z_irem (v := nI (((2 * h) + 1) % 2)) 96 C dX6_itemOfRank_96 (by decide) (pk_rem (by omega) (by omega) (by omega)) ?_
                refine z_if_neN 97 C 104 dX6_itemOfRank_97 (by decide) (by omega) (fun h97 => ?_) (fun h97 => absurd h97 (by omega))
                refine z_iload 104 C dX6_itemOfRank_104 1 rfl ?_
                refine z_isub (v := t - v4) 106 C dX6_itemOfRank_106 rfl ?_
                refine z_istore (lv' := [(5, .int (t - v4)), (4, .int (nI ((2 * h) + 1))), (7, .int v4), (0, .ref (zad g 2)), (1, .int (nI j)), (2, .int p1), (3, .int (nI 1)), (6, .int (nI q))]) 107 C dX6_itemOfRank_107 (by decide) rfl ?_
                refine z_iinc (v' := nI q + (-1)) (lv' := [(6, .int (nI q + (-1))), (5, .int (t - v4)), (4, .int (nI ((2 * h) + 1))), (7, .int v4), (0, .ref (zad g 2)), (1, .int (nI j)), (2, .int p1), (3, .int (nI 1))]) 109 C dX6_itemOfRank_109 (q := 7) rfl rfl (by decide) rfl ?_
                refine z_goto 112 C 51 dX6_itemOfRank_112 (by decide) ?_
                refine z_lv (lv' := [(0, .ref (zad g 2)), (1, .int (nI j)), (2, .int p1), (3, .int (nI 1)), (4, .int (nI ((2 * h) + 1))), (5, .int (t - v4)), (6, .int (nI q + (-1)))]) [4, 5, 6, 7, 2, 1, 0] rfl ?_
                exact ih51 q (t - v4) ((2 * h) + 1) (by omega) (by omega) (zhlf_s h6 (by omega)) (by rw [← hp]; show _ = (if t ≤ zest (S.1 j) (S.2.1 j) q (2 * h) then zrank (S.1 j) (S.2.1 j) q t (2 * h) else zrank (S.1 j) (S.2.1 j) q (t - zest (S.1 j) (S.2.1 j) q (2 * h)) (2 * h + 1)); rw [← ev4, if_neg (Int32.not_le.mpr h73)])
              · refine z_iconst (v := nI 2) 76 C dX6_itemOfRank_76 rfl ?_
                refine z_iload 77 C dX6_itemOfRank_77 5 rfl ?_
                refine z_imul (v := nI (2 * h)) 79 C dX6_itemOfRank_79 (pk_mul 2 h) ?_
                refine z_goto 80 C 89 dX6_itemOfRank_80 (by decide) ?_
                refine z_istore (lv' := [(4, .int (nI (2 * h))), (7, .int v4), (0, .ref (zad g 2)), (1, .int (nI j)), (2, .int p1), (3, .int (nI 1)), (5, .int t), (6, .int (nI q))]) 89 C dX6_itemOfRank_89 (by decide) rfl ?_
                refine z_iload 91 C dX6_itemOfRank_91 6 rfl ?_
                refine z_iload 93 C dX6_itemOfRank_93 0 rfl ?_
                refine z_iconst (v := nI 2) 95 C dX6_itemOfRank_95 rfl ?_
                refine z_irem (v := nI ((2 * h) % 2)) 96 C dX6_itemOfRank_96 (by decide) (pk_rem (by omega) (by omega) (by omega)) ?_
                refine z_if_neN 97 C 104 dX6_itemOfRank_97 (by decide) (by omega) (fun h97 => absurd h97 (by omega)) (fun h97 => ?_)
                refine z_iconst (v := nI 0) 100 C dX6_itemOfRank_100 rfl ?_
                refine z_goto 101 C 106 dX6_itemOfRank_101 (by decide) ?_
                refine z_isub (v := t - (nI 0)) 106 C dX6_itemOfRank_106 rfl ?_
                refine z_istore (lv' := [(5, .int (t - (nI 0))), (4, .int (nI (2 * h))), (7, .int v4), (0, .ref (zad g 2)), (1, .int (nI j)), (2, .int p1), (3, .int (nI 1)), (6, .int (nI q))]) 107 C dX6_itemOfRank_107 (by decide) rfl ?_
                refine z_iinc (v' := nI q + (-1)) (lv' := [(6, .int (nI q + (-1))), (5, .int (t - (nI 0))), (4, .int (nI (2 * h))), (7, .int v4), (0, .ref (zad g 2)), (1, .int (nI j)), (2, .int p1), (3, .int (nI 1))]) 109 C dX6_itemOfRank_109 (q := 7) rfl rfl (by decide) rfl ?_
                refine z_goto 112 C 51 dX6_itemOfRank_112 (by decide) ?_
                refine z_lv (lv' := [(0, .ref (zad g 2)), (1, .int (nI j)), (2, .int p1), (3, .int (nI 1)), (4, .int (nI (2 * h))), (5, .int (t - (nI 0))), (6, .int (nI q + (-1)))]) [4, 5, 6, 7, 2, 1, 0] rfl ?_
                exact ih51 q (t - (nI 0)) (2 * h) (by omega) (by omega) (zhlf_s h6 (by omega)) (by rw [← hp]; show _ = (if t ≤ zest (S.1 j) (S.2.1 j) q (2 * h) then zrank (S.1 j) (S.2.1 j) q t (2 * h) else zrank (S.1 j) (S.2.1 j) q (t - zest (S.1 j) (S.2.1 j) q (2 * h)) (2 * h + 1)); rw [← ev4, if_pos (Int32.not_lt.mp h73), show t - nI 0 = t from Int32.sub_zero t])
        refine z_lv (lv' := [(0, .ref (zad g 2)), (1, .int (nI j)), (2, .int p1), (3, .int (nI 1)), (4, .int (nI 0)), (5, .int p1), (6, .int (nI 5))]) [4, 5, 6, 3, 2, 1, 0] rfl ?_
        exact J51 7 6 p1 0 (by decide) (by decide) (by decide) rfl
      · have hw9 : zwib p1 (nI 1) (ztot (S.1 j)) = false := by rw [← hMj.2.1]; exact zwib_f2 h26
        refine z_iconst (v := nI 2) 29 C dX6_itemOfRank_29 rfl ?_
        refine z_goto 30 C 34 dX6_itemOfRank_30 (by decide) ?_
        refine z_callVi 34 C (As := [.int (nI 2)]) 1 kO_model rfl (c_X6_holds l hg x 2 (by decide)) (cwV 1 C.1.2.2.2.2 gX6_itemOfRank_X6_holds rfl rfl rfl (by decide +kernel) ⟨Nat.le_of_ble_eq_true rfl, Nat.le_of_ble_eq_true rfl⟩) rfl rfl (Nat.le_of_ble_eq_true rfl) ⟨Nat.le_of_ble_eq_true rfl, Nat.le_of_ble_eq_true rfl⟩ dX6_itemOfRank_34 (fun r u hu => ?_)
        obtain ⟨f5, ef5⟩ : ∃ f9 : Nat → Int32, f9 = upd (x.1 2) 0 (nI 2) := ⟨_, rfl⟩
        obtain ⟨hu1, hu2⟩ : u = (xi x 2 f5) ∧ r = nI 0 := ⟨by rw [hu.1, ef5], hu.2⟩
        subst u
        subst r
        refine z_if_neN 37 C 42 dX6_itemOfRank_37 (by decide) (by omega) (fun h37 => absurd h37 (by omega)) (fun h37 => ?_)
        refine z_iconst (v := nI 0) 40 C dX6_itemOfRank_40 rfl ?_
        exact z_iret 41 C hr (zme (by simp [zk1, zk2, zk3, hz1, hclj, hw9]) (zMP_i hA ef5) (fun h0 => absurd h0 (by decide))) dX6_itemOfRank_41
  · subst r
    refine z_istore_n (lv' := [(3, .int (nI 0)), (0, .ref (zad g 2)), (1, .int p0), (2, .int p1)]) 4 C dX6_itemOfRank_4 rfl (by decide) rfl ?_
    refine z_aload_n 5 C dX6_itemOfRank_5 rfl 1 rfl ?_
    refine z_iload_n 6 C dX6_itemOfRank_6 rfl 0 rfl ?_
    refine z_if_neN 7 C 14 dX6_itemOfRank_7 (by decide) (by omega) (fun h7 => absurd h7 (by omega)) (fun h7 => ?_)
    refine z_iconst (v := nI 1) 10 C dX6_itemOfRank_10 rfl ?_
    refine z_goto 11 C 34 dX6_itemOfRank_11 (by decide) ?_
    refine z_callVi 34 C (As := [.int (nI 1)]) 1 kO_model rfl (c_X6_holds l hg x 1 (by decide)) (cwV 1 C.1.2.2.2.2 gX6_itemOfRank_X6_holds rfl rfl rfl (by decide +kernel) ⟨Nat.le_of_ble_eq_true rfl, Nat.le_of_ble_eq_true rfl⟩) rfl rfl (Nat.le_of_ble_eq_true rfl) ⟨Nat.le_of_ble_eq_true rfl, Nat.le_of_ble_eq_true rfl⟩ dX6_itemOfRank_34 (fun r u hu => ?_)
    obtain ⟨f6, ef6⟩ : ∃ f9 : Nat → Int32, f9 = upd (x.1 2) 0 (nI 1) := ⟨_, rfl⟩
    obtain ⟨hu1, hu2⟩ : u = (xi x 2 f6) ∧ r = nI 0 := ⟨by rw [hu.1, ef6], hu.2⟩
    subst u
    subst r
    refine z_if_neN 37 C 42 dX6_itemOfRank_37 (by decide) (by omega) (fun h37 => absurd h37 (by omega)) (fun h37 => ?_)
    refine z_iconst (v := nI 0) 40 C dX6_itemOfRank_40 rfl ?_
    exact z_iret 41 C hr (zme (by simp [zk1, zk2, zk3, hz1]) (zMP_i hA ef6) (fun h0 => absurd h0 (by decide))) dX6_itemOfRank_41
set_option maxHeartbeats 4000000 in
set_option maxRecDepth 100000 in
/-- X6_counters -/
theorem c_X6_counters (l : Launch) {g : zG} (hg : zOk g) (x : zT) (S : zS) (hA : zMA x S) (p0 : Int32) : Met l yX6_counters wsX6_counters ({ frames := 2, cells := 0, slots := 0, locals := 41 }) (va_Pc [.ref (zad g 2), .int p0] (zPre g x)) (va_Qi (fun (r : Int32) (u : zT) => zMP x u S (zk1 (zinb p0 4)) ∧ (zk1 (zinb p0 4) = 0 → r = nI (S.2.2.1 p0.toNatClampNeg).length)) (zB g) (zA g)) 0 0 (zA g) := by
  refine z_met (cc := cX6_counters) (nL := 2) (ret := (some .int)) hg (by decide) rfl (Nat.le_of_ble_eq_true rfl) ?_
  intro p_ e_ s_ m_ args_ below_ meth_ c_ C hr
  show Z p_ l e_ _ s_ m_ args_ below_ meth_ c_ g 2 0 0 _ x 0 [(0, .ref (zad g 2)), (1, .int p0)] []
  have hw_f19 := C.1.2.2.2.2 (.fieldLink RX6 19 "CountcoteModel" "counters" "[I") (by decide +kernel)
  have hinX6 : ∀ w ∈ wsX60, w ∈ wsX6_counters := by decide +kernel
  refine z_aload_n 0 C dX6_counters_0 rfl 0 rfl ?_
  refine z_iload_n 1 C dX6_counters_1 rfl 1 rfl ?_
  refine z_callSi 2 C (As := [.int p0]) 1 (c_X6_isStream l hg x p0) (va_cwS 1 C.1.2.2.2.2 gX6_counters_X6_isStream rfl rfl rfl (by decide +kernel) ⟨Nat.le_of_ble_eq_true rfl, Nat.le_of_ble_eq_true rfl⟩) rfl rfl (Nat.le_of_ble_eq_true rfl) ⟨Nat.le_of_ble_eq_true rfl, Nat.le_of_ble_eq_true rfl⟩ dX6_counters_2 (fun r u hu => ?_)
  obtain ⟨hu1, hu2⟩ := hu
  subst u
  rcases hu2 with ⟨hr9, hz1⟩ | ⟨hr9, hz1⟩
  · subst r
    obtain ⟨j, hj, hp9⟩ := (zinb_t (by omega)).mp hz1
    subst hp9
    have hMj := hA j hj
    have h8j := hMj.2.2.2.2.2.1
    have hclj := nI_clamp (n := j) (by omega)
    refine z_if_eqN 5 C 12 dX6_counters_5 (by decide) (by omega) (fun h5 => absurd h5 (by omega)) (fun h5 => ?_)
    refine z_iconst (v := nI 0) 8 C dX6_counters_8 rfl ?_
    refine z_goto 9 C 13 dX6_counters_9 (by decide) ?_
    refine z_callVi 13 C (As := [.int (nI 0)]) 1 kO_model rfl (c_X6_holds l hg x 0 (by decide)) (cwV 1 C.1.2.2.2.2 gX6_counters_X6_holds rfl rfl rfl (by decide +kernel) ⟨Nat.le_of_ble_eq_true rfl, Nat.le_of_ble_eq_true rfl⟩) rfl rfl (Nat.le_of_ble_eq_true rfl) ⟨Nat.le_of_ble_eq_true rfl, Nat.le_of_ble_eq_true rfl⟩ dX6_counters_13 (fun r u hu => ?_)
    obtain ⟨f2, ef2⟩ : ∃ f9 : Nat → Int32, f9 = upd (x.1 2) 0 (nI 0) := ⟨_, rfl⟩
    obtain ⟨hu1, hu2⟩ : u = (xi x 2 f2) ∧ r = nI 1 := ⟨by rw [hu.1, ef2], hu.2⟩
    subst u
    subst r
    refine z_if_eqN 16 C 28 dX6_counters_16 (by decide) (by omega) (fun h16 => absurd h16 (by omega)) (fun h16 => ?_)
    refine z_aload_n 19 C dX6_counters_19 rfl 0 rfl ?_
    refine z_getr 20 C (ref := "CountcoteModel") (T := TX6) (N := 9) (ci := 6) (q := 4) (kR_model (q := 4) (by decide) (by decide)) rfl hinX6 (by decide) rfl hw_f19 dX6_counters_20 ?_
    refine z_iload_n 23 C dX6_counters_23 rfl 1 rfl ?_
    refine z_iald (v := nI ((S.2.2.1 j).length)) 24 C kI_6 (by omega) (by rw [xi_n _ (by decide), hMj.2.2.2.1]) dX6_counters_24 ?_
    refine z_goto 25 C 29 dX6_counters_25 (by decide) ?_
    exact z_iret 29 C hr (zme (by simp [zk1, zk2, zk3, hz1, hclj]) (zMP_i hA ef2) (fun _ => (Eq.refl (nI (S.2.2.1 j).length)).trans (by rw [hclj]))) dX6_counters_29
  · subst r
    refine z_if_eqN 5 C 12 dX6_counters_5 (by decide) (by omega) (fun h5 => ?_) (fun h5 => absurd h5 (by omega))
    refine z_iconst (v := nI 1) 12 C dX6_counters_12 rfl ?_
    refine z_callVi 13 C (As := [.int (nI 1)]) 1 kO_model rfl (c_X6_holds l hg x 1 (by decide)) (cwV 1 C.1.2.2.2.2 gX6_counters_X6_holds rfl rfl rfl (by decide +kernel) ⟨Nat.le_of_ble_eq_true rfl, Nat.le_of_ble_eq_true rfl⟩) rfl rfl (Nat.le_of_ble_eq_true rfl) ⟨Nat.le_of_ble_eq_true rfl, Nat.le_of_ble_eq_true rfl⟩ dX6_counters_13 (fun r u hu => ?_)
    obtain ⟨f3, ef3⟩ : ∃ f9 : Nat → Int32, f9 = upd (x.1 2) 0 (nI 1) := ⟨_, rfl⟩
    obtain ⟨hu1, hu2⟩ : u = (xi x 2 f3) ∧ r = nI 0 := ⟨by rw [hu.1, ef3], hu.2⟩
    subst u
    subst r
    refine z_if_eqN 16 C 28 dX6_counters_16 (by decide) (by omega) (fun h16 => ?_) (fun h16 => absurd h16 (by omega))
    refine z_iconst (v := nI 0) 28 C dX6_counters_28 rfl ?_
    exact z_iret 29 C hr (zme (by simp [zk1, zk2, zk3, hz1]) (zMP_i hA ef3) (fun h0 => absurd h0 (by decide))) dX6_counters_29
set_option maxHeartbeats 4000000 in
set_option maxRecDepth 100000 in
/-- X6_taken -/
theorem c_X6_taken (l : Launch) {g : zG} (hg : zOk g) (x : zT) (S : zS) (hA : zMA x S) (p0 : Int32) : Met l yX6_taken wsX6_taken ({ frames := 2, cells := 0, slots := 0, locals := 41 }) (va_Pc [.ref (zad g 2), .int p0] (zPre g x)) (va_Qi (fun (r : Int32) (u : zT) => zMP x u S (zk1 (zinb p0 4)) ∧ (zk1 (zinb p0 4) = 0 → r = S.2.2.2 p0.toNatClampNeg)) (zB g) (zA g)) 0 0 (zA g) := by
  refine z_met (cc := cX6_taken) (nL := 2) (ret := (some .int)) hg (by decide) rfl (Nat.le_of_ble_eq_true rfl) ?_
  intro p_ e_ s_ m_ args_ below_ meth_ c_ C hr
  show Z p_ l e_ _ s_ m_ args_ below_ meth_ c_ g 2 0 0 _ x 0 [(0, .ref (zad g 2)), (1, .int p0)] []
  have hw_f28 := C.1.2.2.2.2 (.fieldLink RX6 28 "CountcoteModel" "taken" "[I") (by decide +kernel)
  have hinX6 : ∀ w ∈ wsX60, w ∈ wsX6_taken := by decide +kernel
  refine z_aload_n 0 C dX6_taken_0 rfl 0 rfl ?_
  refine z_iload_n 1 C dX6_taken_1 rfl 1 rfl ?_
  refine z_callSi 2 C (As := [.int p0]) 1 (c_X6_isStream l hg x p0) (va_cwS 1 C.1.2.2.2.2 gX6_taken_X6_isStream rfl rfl rfl (by decide +kernel) ⟨Nat.le_of_ble_eq_true rfl, Nat.le_of_ble_eq_true rfl⟩) rfl rfl (Nat.le_of_ble_eq_true rfl) ⟨Nat.le_of_ble_eq_true rfl, Nat.le_of_ble_eq_true rfl⟩ dX6_taken_2 (fun r u hu => ?_)
  obtain ⟨hu1, hu2⟩ := hu
  subst u
  rcases hu2 with ⟨hr9, hz1⟩ | ⟨hr9, hz1⟩
  · subst r
    obtain ⟨j, hj, hp9⟩ := (zinb_t (by omega)).mp hz1
    subst hp9
    have hMj := hA j hj
    have hclj := nI_clamp (n := j) (by omega)
    refine z_if_eqN 5 C 12 dX6_taken_5 (by decide) (by omega) (fun h5 => absurd h5 (by omega)) (fun h5 => ?_)
    refine z_iconst (v := nI 0) 8 C dX6_taken_8 rfl ?_
    refine z_goto 9 C 13 dX6_taken_9 (by decide) ?_
    refine z_callVi 13 C (As := [.int (nI 0)]) 1 kO_model rfl (c_X6_holds l hg x 0 (by decide)) (cwV 1 C.1.2.2.2.2 gX6_taken_X6_holds rfl rfl rfl (by decide +kernel) ⟨Nat.le_of_ble_eq_true rfl, Nat.le_of_ble_eq_true rfl⟩) rfl rfl (Nat.le_of_ble_eq_true rfl) ⟨Nat.le_of_ble_eq_true rfl, Nat.le_of_ble_eq_true rfl⟩ dX6_taken_13 (fun r u hu => ?_)
    obtain ⟨f2, ef2⟩ : ∃ f9 : Nat → Int32, f9 = upd (x.1 2) 0 (nI 0) := ⟨_, rfl⟩
    obtain ⟨hu1, hu2⟩ : u = (xi x 2 f2) ∧ r = nI 1 := ⟨by rw [hu.1, ef2], hu.2⟩
    subst u
    subst r
    refine z_if_eqN 16 C 28 dX6_taken_16 (by decide) (by omega) (fun h16 => absurd h16 (by omega)) (fun h16 => ?_)
    refine z_aload_n 19 C dX6_taken_19 rfl 0 rfl ?_
    refine z_getr 20 C (ref := "CountcoteModel") (T := TX6) (N := 9) (ci := 6) (q := 7) (kR_model (q := 7) (by decide) (by decide)) rfl hinX6 (by decide) rfl hw_f28 dX6_taken_20 ?_
    refine z_iload_n 23 C dX6_taken_23 rfl 1 rfl ?_
    refine z_iald (v := (x.1 9) j) 24 C kI_9 (by omega) (by rw [xi_n _ (by decide)]) dX6_taken_24 ?_
    refine z_goto 25 C 29 dX6_taken_25 (by decide) ?_
    exact z_iret 29 C hr (zme (by simp [zk1, zk2, zk3, hz1, hclj]) (zMP_i hA ef2) (fun _ => (hMj.2.2.2.2.1).trans (by rw [hclj]))) dX6_taken_29
  · subst r
    refine z_if_eqN 5 C 12 dX6_taken_5 (by decide) (by omega) (fun h5 => ?_) (fun h5 => absurd h5 (by omega))
    refine z_iconst (v := nI 1) 12 C dX6_taken_12 rfl ?_
    refine z_callVi 13 C (As := [.int (nI 1)]) 1 kO_model rfl (c_X6_holds l hg x 1 (by decide)) (cwV 1 C.1.2.2.2.2 gX6_taken_X6_holds rfl rfl rfl (by decide +kernel) ⟨Nat.le_of_ble_eq_true rfl, Nat.le_of_ble_eq_true rfl⟩) rfl rfl (Nat.le_of_ble_eq_true rfl) ⟨Nat.le_of_ble_eq_true rfl, Nat.le_of_ble_eq_true rfl⟩ dX6_taken_13 (fun r u hu => ?_)
    obtain ⟨f3, ef3⟩ : ∃ f9 : Nat → Int32, f9 = upd (x.1 2) 0 (nI 1) := ⟨_, rfl⟩
    obtain ⟨hu1, hu2⟩ : u = (xi x 2 f3) ∧ r = nI 0 := ⟨by rw [hu.1, ef3], hu.2⟩
    subst u
    subst r
    refine z_if_eqN 16 C 28 dX6_taken_16 (by decide) (by omega) (fun h16 => ?_) (fun h16 => absurd h16 (by omega))
    refine z_iconst (v := nI 0) 28 C dX6_taken_28 rfl ?_
    exact z_iret 29 C hr (zme (by simp [zk1, zk2, zk3, hz1]) (zMP_i hA ef3) (fun h0 => absurd h0 (by decide))) dX6_taken_29
set_option maxHeartbeats 4000000 in
set_option maxRecDepth 100000 in
/-- X6_counterItem -/
theorem c_X6_counterItem (l : Launch) {g : zG} (hg : zOk g) (x : zT) (S : zS) (hA : zMA x S) (p0 p1 : Int32) : Met l yX6_counterItem wsX6_counterItem ({ frames := 2, cells := 0, slots := 0, locals := 41 }) (va_Pc [.ref (zad g 2), .int p0, .int p1] (zPre g x)) (va_Qi (fun (r : Int32) (u : zT) => zMP x u S (zk1 (zinb p0 4 && zinb p1 (S.2.2.1 p0.toNatClampNeg).length)) ∧ (zk1 (zinb p0 4 && zinb p1 (S.2.2.1 p0.toNatClampNeg).length) = 0 → r = (zL (S.2.2.1 p0.toNatClampNeg) p1.toNatClampNeg).1)) (zB g) (zA g)) 0 0 (zA g) := by
  refine z_met (cc := cX6_counterItem) (nL := 4) (ret := (some .int)) hg (by decide) rfl (Nat.le_of_ble_eq_true rfl) ?_
  intro p_ e_ s_ m_ args_ below_ meth_ c_ C hr
  show Z p_ l e_ _ s_ m_ args_ below_ meth_ c_ g 4 0 0 _ x 0 [(0, .ref (zad g 2)), (1, .int p0), (2, .int p1)] []
  have hw_f19 := C.1.2.2.2.2 (.fieldLink RX6 19 "CountcoteModel" "counters" "[I") (by decide +kernel)
  have hinX6 : ∀ w ∈ wsX60, w ∈ wsX6_counterItem := by decide +kernel
  have hw_f22 := C.1.2.2.2.2 (.fieldLink RX6 22 "CountcoteModel" "items" "[I") (by decide +kernel)
  refine z_iload_n 0 C dX6_counterItem_0 rfl 1 rfl ?_
  refine z_callSi 1 C (As := [.int p0]) 1 (c_X6_isStream l hg x p0) (va_cwS 1 C.1.2.2.2.2 gX6_counterItem_X6_isStream rfl rfl rfl (by decide +kernel) ⟨Nat.le_of_ble_eq_true rfl, Nat.le_of_ble_eq_true rfl⟩) rfl rfl (Nat.le_of_ble_eq_true rfl) ⟨Nat.le_of_ble_eq_true rfl, Nat.le_of_ble_eq_true rfl⟩ dX6_counterItem_1 (fun r u hu => ?_)
  obtain ⟨hu1, hu2⟩ := hu
  subst u
  rcases hu2 with ⟨hr9, hz1⟩ | ⟨hr9, hz1⟩
  · subst r
    obtain ⟨j, hj, hp9⟩ := (zinb_t (by omega)).mp hz1
    subst hp9
    have hMj := hA j hj
    have h8j := hMj.2.2.2.2.2.1
    have hclj := nI_clamp (n := j) (by omega)
    refine z_if_eqN 4 C 25 dX6_counterItem_4 (by decide) (by omega) (fun h4 => absurd h4 (by omega)) (fun h4 => ?_)
    refine z_iload_n 7 C dX6_counterItem_7 rfl 2 rfl ?_
    refine z_if_lt 8 C 25 dX6_counterItem_8 (by decide) (fun h8 => ?_) (fun h8 => ?_)
    · have hw9 : zinb p1 (S.2.2.1 j).length = false := zinb_f1 h8
      refine z_iconst (v := nI 0) 25 C dX6_counterItem_25 rfl ?_
      refine z_istore_n (lv' := [(3, .int (nI 0)), (0, .ref (zad g 2)), (1, .int (nI j)), (2, .int p1)]) 26 C dX6_counterItem_26 rfl (by decide) rfl ?_
      refine z_aload_n 27 C dX6_counterItem_27 rfl 1 rfl ?_
      refine z_iload_n 28 C dX6_counterItem_28 rfl 0 rfl ?_
      refine z_if_eqN 29 C 36 dX6_counterItem_29 (by decide) (by omega) (fun h29 => ?_) (fun h29 => absurd h29 (by omega))
      refine z_iconst (v := nI 1) 36 C dX6_counterItem_36 rfl ?_
      refine z_callVi 37 C (As := [.int (nI 1)]) 1 kO_model rfl (c_X6_holds l hg x 1 (by decide)) (cwV 1 C.1.2.2.2.2 gX6_counterItem_X6_holds rfl rfl rfl (by decide +kernel) ⟨Nat.le_of_ble_eq_true rfl, Nat.le_of_ble_eq_true rfl⟩) rfl rfl (Nat.le_of_ble_eq_true rfl) ⟨Nat.le_of_ble_eq_true rfl, Nat.le_of_ble_eq_true rfl⟩ dX6_counterItem_37 (fun r u hu => ?_)
      obtain ⟨f2, ef2⟩ : ∃ f9 : Nat → Int32, f9 = upd (x.1 2) 0 (nI 1) := ⟨_, rfl⟩
      obtain ⟨hu1, hu2⟩ : u = (xi x 2 f2) ∧ r = nI 0 := ⟨by rw [hu.1, ef2], hu.2⟩
      subst u
      subst r
      refine z_if_eqN 40 C 57 dX6_counterItem_40 (by decide) (by omega) (fun h40 => ?_) (fun h40 => absurd h40 (by omega))
      refine z_iconst (v := nI 0) 57 C dX6_counterItem_57 rfl ?_
      exact z_iret 58 C hr (zme (by simp [zk1, zk2, zk3, hz1, hclj, hw9]) (zMP_i hA ef2) (fun h0 => absurd h0 (by decide))) dX6_counterItem_58
    · refine z_iload_n 11 C dX6_counterItem_11 rfl 2 rfl ?_
      refine z_aload_n 12 C dX6_counterItem_12 rfl 0 rfl ?_
      refine z_getr 13 C (ref := "CountcoteModel") (T := TX6) (N := 9) (ci := 6) (q := 4) (kR_model (q := 4) (by decide) (by decide)) rfl hinX6 (by decide) rfl hw_f19 dX6_counterItem_13 ?_
      refine z_iload_n 16 C dX6_counterItem_16 rfl 1 rfl ?_
      refine z_iald (v := nI ((S.2.2.1 j).length)) 17 C kI_6 (by omega) (by rw [hMj.2.2.2.1]) dX6_counterItem_17 ?_
      refine z_icmp_ge 18 C 25 dX6_counterItem_18 (by decide) (fun h18 => ?_) (fun h18 => ?_)
      · have hw9 : zinb p1 (S.2.2.1 j).length = false := zinb_f2 (Int32.not_lt.mpr h18)
        refine z_iconst (v := nI 0) 25 C dX6_counterItem_25 rfl ?_
        refine z_istore_n (lv' := [(3, .int (nI 0)), (0, .ref (zad g 2)), (1, .int (nI j)), (2, .int p1)]) 26 C dX6_counterItem_26 rfl (by decide) rfl ?_
        refine z_aload_n 27 C dX6_counterItem_27 rfl 1 rfl ?_
        refine z_iload_n 28 C dX6_counterItem_28 rfl 0 rfl ?_
        refine z_if_eqN 29 C 36 dX6_counterItem_29 (by decide) (by omega) (fun h29 => ?_) (fun h29 => absurd h29 (by omega))
        refine z_iconst (v := nI 1) 36 C dX6_counterItem_36 rfl ?_
        refine z_callVi 37 C (As := [.int (nI 1)]) 1 kO_model rfl (c_X6_holds l hg x 1 (by decide)) (cwV 1 C.1.2.2.2.2 gX6_counterItem_X6_holds rfl rfl rfl (by decide +kernel) ⟨Nat.le_of_ble_eq_true rfl, Nat.le_of_ble_eq_true rfl⟩) rfl rfl (Nat.le_of_ble_eq_true rfl) ⟨Nat.le_of_ble_eq_true rfl, Nat.le_of_ble_eq_true rfl⟩ dX6_counterItem_37 (fun r u hu => ?_)
        obtain ⟨f3, ef3⟩ : ∃ f9 : Nat → Int32, f9 = upd (x.1 2) 0 (nI 1) := ⟨_, rfl⟩
        obtain ⟨hu1, hu2⟩ : u = (xi x 2 f3) ∧ r = nI 0 := ⟨by rw [hu.1, ef3], hu.2⟩
        subst u
        subst r
        refine z_if_eqN 40 C 57 dX6_counterItem_40 (by decide) (by omega) (fun h40 => ?_) (fun h40 => absurd h40 (by omega))
        refine z_iconst (v := nI 0) 57 C dX6_counterItem_57 rfl ?_
        exact z_iret 58 C hr (zme (by simp [zk1, zk2, zk3, hz1, hclj, hw9]) (zMP_i hA ef3) (fun h0 => absurd h0 (by decide))) dX6_counterItem_58
      · have hw9 : zinb p1 (S.2.2.1 j).length = true := zinb_y h8 (Int32.not_le.mp h18)
        obtain ⟨q, hq, hp9⟩ := (zinb_t (by omega)).mp hw9
        subst hp9
        have hclq := nI_clamp (n := q) (by omega)
        refine z_iconst (v := nI 1) 21 C dX6_counterItem_21 rfl ?_
        refine z_goto 22 C 26 dX6_counterItem_22 (by decide) ?_
        refine z_istore_n (lv' := [(3, .int (nI 1)), (0, .ref (zad g 2)), (1, .int (nI j)), (2, .int (nI q))]) 26 C dX6_counterItem_26 rfl (by decide) rfl ?_
        refine z_aload_n 27 C dX6_counterItem_27 rfl 1 rfl ?_
        refine z_iload_n 28 C dX6_counterItem_28 rfl 0 rfl ?_
        refine z_if_eqN 29 C 36 dX6_counterItem_29 (by decide) (by omega) (fun h29 => absurd h29 (by omega)) (fun h29 => ?_)
        refine z_iconst (v := nI 0) 32 C dX6_counterItem_32 rfl ?_
        refine z_goto 33 C 37 dX6_counterItem_33 (by decide) ?_
        refine z_callVi 37 C (As := [.int (nI 0)]) 1 kO_model rfl (c_X6_holds l hg x 0 (by decide)) (cwV 1 C.1.2.2.2.2 gX6_counterItem_X6_holds rfl rfl rfl (by decide +kernel) ⟨Nat.le_of_ble_eq_true rfl, Nat.le_of_ble_eq_true rfl⟩) rfl rfl (Nat.le_of_ble_eq_true rfl) ⟨Nat.le_of_ble_eq_true rfl, Nat.le_of_ble_eq_true rfl⟩ dX6_counterItem_37 (fun r u hu => ?_)
        obtain ⟨f4, ef4⟩ : ∃ f9 : Nat → Int32, f9 = upd (x.1 2) 0 (nI 0) := ⟨_, rfl⟩
        obtain ⟨hu1, hu2⟩ : u = (xi x 2 f4) ∧ r = nI 1 := ⟨by rw [hu.1, ef4], hu.2⟩
        subst u
        subst r
        refine z_if_eqN 40 C 57 dX6_counterItem_40 (by decide) (by omega) (fun h40 => absurd h40 (by omega)) (fun h40 => ?_)
        refine z_aload_n 43 C dX6_counterItem_43 rfl 1 rfl ?_
        refine z_getr 44 C (ref := "CountcoteModel") (T := TX6) (N := 9) (ci := 6) (q := 5) (kR_model (q := 5) (by decide) (by decide)) rfl hinX6 (by decide) rfl hw_f22 dX6_counterItem_44 ?_
        refine z_bipush (v := nI 8) 47 C dX6_counterItem_47 rfl ?_
        refine z_iload_n 49 C dX6_counterItem_49 rfl 2 rfl ?_
        refine z_imul (v := nI (8 * j)) 50 C dX6_counterItem_50 (pk_mul 8 j) ?_
        refine z_iload_n 51 C dX6_counterItem_51 rfl 3 rfl ?_
        refine z_iadd (v := nI ((8 * j) + q)) 52 C dX6_counterItem_52 (nI_add (8 * j) q) ?_
        refine z_iald (v := (x.1 7) ((8 * j) + q)) 53 C kI_7 (by omega) (by rw [xi_n _ (by decide)]) dX6_counterItem_53 ?_
        refine z_goto 54 C 58 dX6_counterItem_54 (by decide) ?_
        exact z_iret 58 C hr (zme (by simp [zk1, zk2, zk3, hz1, hclj, hw9, hclq]) (zMP_i hA ef4) (fun _ => ((hMj.2.2.2.2.2.2 q hq).1).trans (by rw [hclj, hclq]))) dX6_counterItem_58
  · subst r
    refine z_if_eqN 4 C 25 dX6_counterItem_4 (by decide) (by omega) (fun h4 => ?_) (fun h4 => absurd h4 (by omega))
    refine z_iconst (v := nI 0) 25 C dX6_counterItem_25 rfl ?_
    refine z_istore_n (lv' := [(3, .int (nI 0)), (0, .ref (zad g 2)), (1, .int p0), (2, .int p1)]) 26 C dX6_counterItem_26 rfl (by decide) rfl ?_
    refine z_aload_n 27 C dX6_counterItem_27 rfl 1 rfl ?_
    refine z_iload_n 28 C dX6_counterItem_28 rfl 0 rfl ?_
    refine z_if_eqN 29 C 36 dX6_counterItem_29 (by decide) (by omega) (fun h29 => ?_) (fun h29 => absurd h29 (by omega))
    refine z_iconst (v := nI 1) 36 C dX6_counterItem_36 rfl ?_
    refine z_callVi 37 C (As := [.int (nI 1)]) 1 kO_model rfl (c_X6_holds l hg x 1 (by decide)) (cwV 1 C.1.2.2.2.2 gX6_counterItem_X6_holds rfl rfl rfl (by decide +kernel) ⟨Nat.le_of_ble_eq_true rfl, Nat.le_of_ble_eq_true rfl⟩) rfl rfl (Nat.le_of_ble_eq_true rfl) ⟨Nat.le_of_ble_eq_true rfl, Nat.le_of_ble_eq_true rfl⟩ dX6_counterItem_37 (fun r u hu => ?_)
    obtain ⟨f5, ef5⟩ : ∃ f9 : Nat → Int32, f9 = upd (x.1 2) 0 (nI 1) := ⟨_, rfl⟩
    obtain ⟨hu1, hu2⟩ : u = (xi x 2 f5) ∧ r = nI 0 := ⟨by rw [hu.1, ef5], hu.2⟩
    subst u
    subst r
    refine z_if_eqN 40 C 57 dX6_counterItem_40 (by decide) (by omega) (fun h40 => ?_) (fun h40 => absurd h40 (by omega))
    refine z_iconst (v := nI 0) 57 C dX6_counterItem_57 rfl ?_
    exact z_iret 58 C hr (zme (by simp [zk1, zk2, zk3, hz1]) (zMP_i hA ef5) (fun h0 => absurd h0 (by decide))) dX6_counterItem_58
theorem zpl_e {L : zCL} {v w : Int32} (hD : zND L) (h : (w = (-1) ∧ ∀ k, k < L.length → ¬ (zL L k).1 = v) ∨ ∃ q, q < L.length ∧ w = nI q ∧ (zL L q).1 = v) : (zix L v < L.length ∧ w = nI (zix L v)) ∨ (zix L v = L.length ∧ w = (-1)) := by
  rcases h with ⟨h1, h2⟩ | ⟨q, h1, h2, h3⟩
  · exact Or.inr ⟨zix_none (fun q hq => h2 q hq), h1⟩
  · refine Or.inl ?_
    rw [zND_ix hD h1 h3]
    exact ⟨h1, h2⟩
set_option maxHeartbeats 4000000 in
set_option maxRecDepth 100000 in
/-- X6_placeOfCounter -/
theorem c_X6_placeOfCounter (l : Launch) {g : zG} (hg : zOk g) (x : zT) (j : Nat) (hj : j < 4) (c d : Nat → Int32) (L : zCL) (aw : Int32) (hMj : zM x j c d L aw) (hD : zND L) (v : Int32) : Met l yX6_placeOfCounter wsX6_placeOfCounter ({ frames := 0, cells := 0, slots := 0, locals := 0 }) (va_Pc [.ref (zad g 2), .int (nI j), .int v] (zPre g x)) (va_Qi (fun (r : Int32) (u : zT) => u = x ∧ ((zix L v < L.length ∧ r = nI (zix L v)) ∨ (zix L v = L.length ∧ r = (-1)))) (zB g) (zA g)) 0 0 (zA g) := by
  refine z_met (cc := cX6_placeOfCounter) (nL := 5) (ret := (some .int)) hg (by decide) rfl (Nat.le_of_ble_eq_true rfl) ?_
  intro p_ e_ s_ m_ args_ below_ meth_ c_ C hr
  show Z p_ l e_ _ s_ m_ args_ below_ meth_ c_ g 5 0 0 _ x 0 [(0, .ref (zad g 2)), (1, .int (nI j)), (2, .int v)] []
  have hw_f19 := C.1.2.2.2.2 (.fieldLink RX6 19 "CountcoteModel" "counters" "[I") (by decide +kernel)
  have hinX6 : ∀ w ∈ wsX60, w ∈ wsX6_placeOfCounter := by decide +kernel
  have hw_f22 := C.1.2.2.2.2 (.fieldLink RX6 22 "CountcoteModel" "items" "[I") (by decide +kernel)
  have h8 := hMj.2.2.2.2.2.1
  refine z_iconst (v := (-1)) 0 C dX6_placeOfCounter_0 rfl ?_
  refine z_istore_n (lv' := [(3, .int (-1)), (0, .ref (zad g 2)), (1, .int (nI j)), (2, .int v)]) 1 C dX6_placeOfCounter_1 rfl (by decide) rfl ?_
  refine z_iconst (v := nI 0) 2 C dX6_placeOfCounter_2 rfl ?_
  refine z_istore (lv' := [(4, .int (nI 0)), (3, .int (-1)), (0, .ref (zad g 2)), (1, .int (nI j)), (2, .int v)]) 3 C dX6_placeOfCounter_3 (by decide) rfl ?_
  have J5 : ∀ (n5 : Nat) (i : Nat) (w : Int32), (i ≤ L.length) → (L.length < i + n5) → ((w = (-1) ∧ ∀ k, k < i → ¬ (zL L k).1 = v) ∨ ∃ q, q < i ∧ w = nI q ∧ (zL L q).1 = v) → Z p_ l e_ (headSpec wsX6_placeOfCounter ({ frames := 0, cells := 0, slots := 0, locals := 0 })).room s_ m_ args_ below_ meth_ c_ g 5 0 0 (MQ below_ (va_Qi (fun (r : Int32) (u : zT) => u = x ∧ ((zix L v < L.length ∧ r = nI (zix L v)) ∨ (zix L v = L.length ∧ r = (-1)))) (zB g) (zA g)) args_ s_ 0 0 (zA g)) x 5 [(0, .ref (zad g 2)), (1, .int (nI j)), (2, .int v), (3, .int w), (4, .int (nI i))] [] := by
    intro n5
    induction n5 with
    | zero => intro i w hi hn hq; exact absurd hn (by omega)
    | succ n5 ih5 =>
      intro i w hi hn hq
      refine z_iload 5 C dX6_placeOfCounter_5 4 rfl ?_
      refine z_aload_n 7 C dX6_placeOfCounter_7 rfl 0 rfl ?_
      refine z_getr 8 C (ref := "CountcoteModel") (T := TX6) (N := 9) (ci := 6) (q := 4) (kR_model (q := 4) (by decide) (by decide)) rfl hinX6 (by decide) rfl hw_f19 dX6_placeOfCounter_8 ?_
      refine z_iload_n 11 C dX6_placeOfCounter_11 rfl 1 rfl ?_
      refine z_iald (v := nI L.length) 12 C kI_6 (by omega) (by rw [hMj.2.2.2.1]) dX6_placeOfCounter_12 ?_
      refine z_icmp_geN 13 C 45 dX6_placeOfCounter_13 (by decide) (by omega) (by omega) (fun h13 => ?_) (fun h13 => ?_)
      · refine z_iload_n 45 C dX6_placeOfCounter_45 rfl 3 rfl ?_
        exact z_iret 46 C hr ⟨rfl, zpl_e hD (by rw [show i = L.length by omega] at hq; exact hq)⟩ dX6_placeOfCounter_46
      · refine z_aload_n 16 C dX6_placeOfCounter_16 rfl 0 rfl ?_
        refine z_getr 17 C (ref := "CountcoteModel") (T := TX6) (N := 9) (ci := 6) (q := 5) (kR_model (q := 5) (by decide) (by decide)) rfl hinX6 (by decide) rfl hw_f22 dX6_placeOfCounter_17 ?_
        refine z_bipush (v := nI 8) 20 C dX6_placeOfCounter_20 rfl ?_
        refine z_iload_n 22 C dX6_placeOfCounter_22 rfl 1 rfl ?_
        refine z_imul (v := nI (8 * j)) 23 C dX6_placeOfCounter_23 (pk_mul 8 j) ?_
        refine z_iload 24 C dX6_placeOfCounter_24 4 rfl ?_
        refine z_iadd (v := nI ((8 * j) + i)) 26 C dX6_placeOfCounter_26 (nI_add (8 * j) i) ?_
        refine z_iald (v := (x.1 7) ((8 * j) + i)) 27 C kI_7 (by omega) rfl dX6_placeOfCounter_27 ?_
        refine z_iload_n 28 C dX6_placeOfCounter_28 rfl 2 rfl ?_
        refine z_icmp_ne 29 C 37 dX6_placeOfCounter_29 (by decide) (fun h29 => ?_) (fun h29 => ?_)
        · refine z_iload_n 37 C dX6_placeOfCounter_37 rfl 3 rfl ?_
          refine z_istore_n (lv' := [(3, .int w), (0, .ref (zad g 2)), (1, .int (nI j)), (2, .int v), (4, .int (nI i))]) 38 C dX6_placeOfCounter_38 rfl (by decide) rfl ?_
          refine z_iinc (v' := nI (i + 1)) (lv' := [(4, .int (nI (i + 1))), (3, .int w), (0, .ref (zad g 2)), (1, .int (nI j)), (2, .int v)]) 39 C dX6_placeOfCounter_39 (q := 4) rfl (zn_inc i 1) (by decide) rfl ?_
          refine z_goto 42 C 5 dX6_placeOfCounter_42 (by decide) ?_
          refine z_lv (lv' := [(0, .ref (zad g 2)), (1, .int (nI j)), (2, .int v), (3, .int w), (4, .int (nI (i + 1)))]) [2, 3, 4, 1, 0] rfl ?_
          exact ih5 (i + 1) w (by omega) (by omega) (zfa_n (P := fun k => (zL L k).1 = v) hq (fun z => h29 ((hMj.2.2.2.2.2.2 i h13).1.trans z)))
        · refine z_iload 32 C dX6_placeOfCounter_32 4 rfl ?_
          refine z_goto 34 C 38 dX6_placeOfCounter_34 (by decide) ?_
          refine z_istore_n (lv' := [(3, .int (nI i)), (0, .ref (zad g 2)), (1, .int (nI j)), (2, .int v), (4, .int (nI i))]) 38 C dX6_placeOfCounter_38 rfl (by decide) rfl ?_
          refine z_iinc (v' := nI (i + 1)) (lv' := [(4, .int (nI (i + 1))), (3, .int (nI i)), (0, .ref (zad g 2)), (1, .int (nI j)), (2, .int v)]) 39 C dX6_placeOfCounter_39 (q := 4) rfl (zn_inc i 1) (by decide) rfl ?_
          refine z_goto 42 C 5 dX6_placeOfCounter_42 (by decide) ?_
          refine z_lv (lv' := [(0, .ref (zad g 2)), (1, .int (nI j)), (2, .int v), (3, .int (nI i)), (4, .int (nI (i + 1)))]) [2, 3, 4, 1, 0] rfl ?_
          exact ih5 (i + 1) (nI i) (by omega) (by omega) (Or.inr ⟨i, by omega, rfl, (hMj.2.2.2.2.2.2 i h13).1.symm.trans h29⟩)
  refine z_lv (lv' := [(0, .ref (zad g 2)), (1, .int (nI j)), (2, .int v), (3, .int (-1)), (4, .int (nI 0))]) [2, 3, 4, 1, 0] rfl ?_
  exact J5 (L.length + 1) 0 (-1) (Nat.zero_le _) (by omega) (Or.inl ⟨rfl, fun k h => absurd h (Nat.not_lt_zero k)⟩)
set_option maxHeartbeats 4000000 in
set_option maxRecDepth 100000 in
/-- X6_counterOf -/
theorem c_X6_counterOf (l : Launch) {g : zG} (hg : zOk g) (x : zT) (S : zS) (hA : zMA x S) (p0 p1 : Int32) (hDA : ∀ j, j < 4 → zND (S.2.2.1 j)) : Met l yX6_counterOf wsX6_counterOf ({ frames := 3, cells := 0, slots := 0, locals := 63 }) (va_Pc [.ref (zad g 2), .int p0, .int p1] (zPre g x)) (va_Qi (fun (r : Int32) (u : zT) => zMP x u S (zk1 (zinb p0 4 && zinb p1 64)) ∧ (zk1 (zinb p0 4 && zinb p1 64) = 0 → r = zwt (S.2.2.1 p0.toNatClampNeg) (nI p1.toNatClampNeg))) (zB g) (zA g)) 0 0 (zA g) := by
  refine z_met (cc := cX6_counterOf) (nL := 4) (ret := (some .int)) hg (by decide) rfl (Nat.le_of_ble_eq_true rfl) ?_
  intro p_ e_ s_ m_ args_ below_ meth_ c_ C hr
  show Z p_ l e_ _ s_ m_ args_ below_ meth_ c_ g 4 0 0 _ x 0 [(0, .ref (zad g 2)), (1, .int p0), (2, .int p1)] []
  have hw_f25 := C.1.2.2.2.2 (.fieldLink RX6 25 "CountcoteModel" "weights" "[I") (by decide +kernel)
  have hinX6 : ∀ w ∈ wsX60, w ∈ wsX6_counterOf := by decide +kernel
  refine z_aload_n 0 C dX6_counterOf_0 rfl 0 rfl ?_
  refine z_iload_n 1 C dX6_counterOf_1 rfl 1 rfl ?_
  refine z_iload_n 2 C dX6_counterOf_2 rfl 2 rfl ?_
  refine z_callVi 3 C (As := [.int p0, .int p1]) 2 kO_model rfl (c_X6_isItem l hg x p0 p1) (cwV 2 C.1.2.2.2.2 gX6_counterOf_X6_isItem rfl rfl rfl (by decide +kernel) ⟨Nat.le_of_ble_eq_true rfl, Nat.le_of_ble_eq_true rfl⟩) rfl rfl (Nat.le_of_ble_eq_true rfl) ⟨Nat.le_of_ble_eq_true rfl, Nat.le_of_ble_eq_true rfl⟩ dX6_counterOf_3 (fun r u hu => ?_)
  rcases hu with ⟨hr9, ⟨hz1, hz2⟩, hu1⟩ | ⟨hr9, hz1, hu1⟩
  · subst r
    subst u
    obtain ⟨f3, ef3⟩ : ∃ f9 : Nat → Int32, f9 = upd (x.1 2) 0 (nI 0) := ⟨_, rfl⟩
    rw [← ef3]
    obtain ⟨j, hj, hp9⟩ := (zinb_t (by omega)).mp hz1
    subst hp9
    have hMj := hA j hj
    have h8j := hMj.2.2.2.2.2.1
    have hclj := nI_clamp (n := j) (by omega)
    obtain ⟨i, hi, hp9⟩ := (zinb_t (by omega)).mp hz2
    subst hp9
    have hcli := nI_clamp (n := i) (by omega)
    refine z_if_neN 6 C 11 dX6_counterOf_6 (by decide) (by omega) (fun h6 => ?_) (fun h6 => absurd h6 (by omega))
    refine z_aload_n 11 C dX6_counterOf_11 rfl 0 rfl ?_
    refine z_iload_n 12 C dX6_counterOf_12 rfl 1 rfl ?_
    refine z_iload_n 13 C dX6_counterOf_13 rfl 2 rfl ?_
    refine z_callVi 14 C (As := [.int (nI j), .int (nI i)]) 2 kO_model rfl (c_X6_placeOfCounter l hg (xi x 2 f3) j hj (S.1 j) (S.2.1 j) (S.2.2.1 j) (S.2.2.2 j) (zM_2 hMj) (hDA j hj) (nI i)) (cwV 2 C.1.2.2.2.2 gX6_counterOf_X6_placeOfCounter rfl rfl rfl (by decide +kernel) ⟨Nat.le_of_ble_eq_true rfl, Nat.le_of_ble_eq_true rfl⟩) rfl rfl (Nat.le_of_ble_eq_true rfl) ⟨Nat.le_of_ble_eq_true rfl, Nat.le_of_ble_eq_true rfl⟩ dX6_counterOf_14 (fun r u hu => ?_)
    obtain ⟨hu1, hu2⟩ := hu
    subst u
    rcases hu2 with ⟨hq, hr9⟩ | ⟨hq, hr9⟩
    · subst r
      refine z_istore_n (lv' := [(3, .int (nI (zix (S.2.2.1 j) (nI i)))), (0, .ref (zad g 2)), (1, .int (nI j)), (2, .int (nI i))]) 17 C dX6_counterOf_17 rfl (by decide) rfl ?_
      refine z_iload_n 18 C dX6_counterOf_18 rfl 0 rfl ?_
      refine z_iconst (v := (-1)) 19 C dX6_counterOf_19 rfl ?_
      refine z_icmp_ne 20 C 27 dX6_counterOf_20 (by decide) (fun h20 => ?_) (fun h20 => absurd h20 (zn_m1 (zix (S.2.2.1 j) (nI i)) (by omega)))
      refine z_aload_n 27 C dX6_counterOf_27 rfl 1 rfl ?_
      refine z_getr 28 C (ref := "CountcoteModel") (T := TX6) (N := 9) (ci := 6) (q := 6) (kR_model (q := 6) (by decide) (by decide)) rfl hinX6 (by decide) rfl hw_f25 dX6_counterOf_28 ?_
      refine z_bipush (v := nI 8) 31 C dX6_counterOf_31 rfl ?_
      refine z_iload_n 33 C dX6_counterOf_33 rfl 2 rfl ?_
      refine z_imul (v := nI (8 * j)) 34 C dX6_counterOf_34 (pk_mul 8 j) ?_
      refine z_iload_n 35 C dX6_counterOf_35 rfl 0 rfl ?_
      refine z_iadd (v := nI ((8 * j) + (zix (S.2.2.1 j) (nI i)))) 36 C dX6_counterOf_36 (nI_add (8 * j) (zix (S.2.2.1 j) (nI i))) ?_
      refine z_iald (v := (x.1 8) ((8 * j) + (zix (S.2.2.1 j) (nI i)))) 37 C kI_8 (by omega) (by rw [xi_n _ (by decide)]) dX6_counterOf_37 ?_
      exact z_iret 38 C hr (zme (by simp [zk1, zk2, zk3, hz1, hz2, hclj, hcli]) (zMP_i hA ef3) (fun _ => (show _ = zwt (S.2.2.1 j) (nI i) by unfold zwt; rw [if_pos hq]; exact (hMj.2.2.2.2.2.2 _ hq).2).trans (by rw [hclj, hcli]))) dX6_counterOf_38
    · subst r
      refine z_istore_n (lv' := [(3, .int (-1)), (0, .ref (zad g 2)), (1, .int (nI j)), (2, .int (nI i))]) 17 C dX6_counterOf_17 rfl (by decide) rfl ?_
      refine z_iload_n 18 C dX6_counterOf_18 rfl 0 rfl ?_
      refine z_iconst (v := (-1)) 19 C dX6_counterOf_19 rfl ?_
      refine z_icmp_ne 20 C 27 dX6_counterOf_20 (by decide) (fun h20 => absurd rfl h20) (fun h20 => ?_)
      refine z_iconst (v := nI 0) 23 C dX6_counterOf_23 rfl ?_
      refine z_goto 24 C 38 dX6_counterOf_24 (by decide) ?_
      exact z_iret 38 C hr (zme (by simp [zk1, zk2, zk3, hz1, hz2, hclj, hcli]) (zMP_i hA ef3) (fun _ => (show _ = zwt (S.2.2.1 j) (nI i) by unfold zwt; rw [if_neg (by omega)]; rfl).trans (by rw [hclj, hcli]))) dX6_counterOf_38
  · subst r
    subst u
    obtain ⟨f4, ef4⟩ : ∃ f9 : Nat → Int32, f9 = upd (x.1 2) 0 (nI 1) := ⟨_, rfl⟩
    rw [← ef4]
    refine z_if_neN 6 C 11 dX6_counterOf_6 (by decide) (by omega) (fun h6 => absurd h6 (by omega)) (fun h6 => ?_)
    refine z_iconst (v := nI 0) 9 C dX6_counterOf_9 rfl ?_
    exact z_iret 10 C hr (zme (by simp [zk1, zk2, zk3, hz1]) (zMP_i hA ef4) (fun h0 => absurd h0 (by decide))) dX6_counterOf_10
