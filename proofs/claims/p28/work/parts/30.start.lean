theorem zarr_q {C : String} {s : State} (h : va_AO C s) : ∃ c : ClassId, ArrOfT s c (.object C) ∧ va_RA s c (.object C) := by
  obtain ⟨comp, c, k, h1, h2, h3, h4, h5⟩ := Cond.arrayOver_spec h
  exact ⟨c, fun n z => ⟨fun k h => (by cases h), k, h3, comp, h4⟩, k, comp, h3, h4, h1, h5⟩
theorem zarr_i {args : Array Value} {s : State} (h : (Cond.arrayClass .int).before args s = true) : ∃ c : ClassId, ArrOfT s c .int ∧ va_RA s c .int := by
  obtain ⟨c, k, comp, h1, h2, h3⟩ := Cond.arrayClass_spec h
  exact ⟨c, fun n z => ⟨fun k h => (by cases h), k, h2, comp, h3⟩, h1⟩
theorem zarr_l {args : Array Value} {s : State} (h : (Cond.arrayClass .long).before args s = true) : ∃ c : ClassId, ArrOfT s c .long ∧ va_RA s c .long := by
  obtain ⟨c, k, comp, h1, h2, h3⟩ := Cond.arrayClass_spec h
  exact ⟨c, fun n z => ⟨fun k h => (by cases h), k, h2, comp, h3⟩, h1⟩
set_option maxRecDepth 100000 in
theorem zSt_start {s : State} {b : Nat} {g : zG} (hts : ∀ w ∈ lw_tbl, w.before #[Value.ref b] s = true) (hgv : (Jvm.Cond.and given_1 narrow_1).before #[Value.ref b] s = true) {L : Nat} {xs : Nat → Int32} (hX : va_X b L xs s s.heap) (hbl : b < s.heap.size) (hg2 : g.2.2.2.1 = s.heap.size) (hgs : g.2.2.2.2 = (b, L, xs)) : zSt g s := by
  have hf := flat_of_before _ hgv
  have hA : ∀ a : Nat, a < s.heap.size → ¬ zA g a := fun a h h2 => by
    have h3 : g.2.2.2.1 ≤ a := h2
    omega
  have hz0 : ∃ t, va_Z "Countcote$CarefulSketch" "FACTORS" "[I" (.ref t) (zA g) s s.heap ∧ va_T .int t 3 (fun j => .int (([7, 11, 23] : List Int32).getD j 0)) (zA g) s s.heap := by
    obtain ⟨t, h1, h2⟩ := va_Tof (tm := (Term.static "Countcote$CarefulSketch" "FACTORS" "[I")) (ty := .int) (N := 3) (f := fun j => .int (([7, 11, 23] : List Int32).getD j 0)) (by decide) (hf (.arrayOf (Term.static "Countcote$CarefulSketch" "FACTORS" "[I") .int) (by decide +kernel)) (va_eqt (hf (.eq (.length (Term.static "Countcote$CarefulSketch" "FACTORS" "[I")) (.int 3)) (by decide +kernel))) (fun j hj => by
      rcases (show j = 0 ∨ j = 1 ∨ j = 2 by omega) with rfl | rfl | rfl
      · exact va_eqt (hf (.eq (.elem (Term.static "Countcote$CarefulSketch" "FACTORS" "[I") (.int 0)) (.int 7)) (by decide +kernel))
      · exact va_eqt (hf (.eq (.elem (Term.static "Countcote$CarefulSketch" "FACTORS" "[I") (.int 1)) (.int 11)) (by decide +kernel))
      · exact va_eqt (hf (.eq (.elem (Term.static "Countcote$CarefulSketch" "FACTORS" "[I") (.int 2)) (.int 23)) (by decide +kernel))) hA
    exact ⟨t, va_Zof (hts (.laysStatic "Countcote$CarefulSketch" "FACTORS" "[I") (by decide +kernel)) (hts (.initialized "Countcote$CarefulSketch") (by decide +kernel)) h1 hA, h2⟩
  have hz1 : ∃ t, va_Z "Countcote$CarefulSketch" "SHIFTS" "[I" (.ref t) (zA g) s s.heap ∧ va_T .int t 3 (fun j => .int (([3, 19, 5] : List Int32).getD j 0)) (zA g) s s.heap := by
    obtain ⟨t, h1, h2⟩ := va_Tof (tm := (Term.static "Countcote$CarefulSketch" "SHIFTS" "[I")) (ty := .int) (N := 3) (f := fun j => .int (([3, 19, 5] : List Int32).getD j 0)) (by decide) (hf (.arrayOf (Term.static "Countcote$CarefulSketch" "SHIFTS" "[I") .int) (by decide +kernel)) (va_eqt (hf (.eq (.length (Term.static "Countcote$CarefulSketch" "SHIFTS" "[I")) (.int 3)) (by decide +kernel))) (fun j hj => by
      rcases (show j = 0 ∨ j = 1 ∨ j = 2 by omega) with rfl | rfl | rfl
      · exact va_eqt (hf (.eq (.elem (Term.static "Countcote$CarefulSketch" "SHIFTS" "[I") (.int 0)) (.int 3)) (by decide +kernel))
      · exact va_eqt (hf (.eq (.elem (Term.static "Countcote$CarefulSketch" "SHIFTS" "[I") (.int 1)) (.int 19)) (by decide +kernel))
      · exact va_eqt (hf (.eq (.elem (Term.static "Countcote$CarefulSketch" "SHIFTS" "[I") (.int 2)) (.int 5)) (by decide +kernel))) hA
    exact ⟨t, va_Zof (hts (.laysStatic "Countcote$CarefulSketch" "SHIFTS" "[I") (by decide +kernel)) (hts (.initialized "Countcote$CarefulSketch") (by decide +kernel)) h1 hA, h2⟩
  have hz2 : ∃ t, va_Z "Countcote$SignedSketch" "COLUMN_FACTORS" "[I" (.ref t) (zA g) s s.heap ∧ va_T .int t 5 (fun j => .int (([5, 9, 14, 27, 33] : List Int32).getD j 0)) (zA g) s s.heap := by
    obtain ⟨t, h1, h2⟩ := va_Tof (tm := (Term.static "Countcote$SignedSketch" "COLUMN_FACTORS" "[I")) (ty := .int) (N := 5) (f := fun j => .int (([5, 9, 14, 27, 33] : List Int32).getD j 0)) (by decide) (hf (.arrayOf (Term.static "Countcote$SignedSketch" "COLUMN_FACTORS" "[I") .int) (by decide +kernel)) (va_eqt (hf (.eq (.length (Term.static "Countcote$SignedSketch" "COLUMN_FACTORS" "[I")) (.int 5)) (by decide +kernel))) (fun j hj => by
      rcases (show j = 0 ∨ j = 1 ∨ j = 2 ∨ j = 3 ∨ j = 4 by omega) with rfl | rfl | rfl | rfl | rfl
      · exact va_eqt (hf (.eq (.elem (Term.static "Countcote$SignedSketch" "COLUMN_FACTORS" "[I") (.int 0)) (.int 5)) (by decide +kernel))
      · exact va_eqt (hf (.eq (.elem (Term.static "Countcote$SignedSketch" "COLUMN_FACTORS" "[I") (.int 1)) (.int 9)) (by decide +kernel))
      · exact va_eqt (hf (.eq (.elem (Term.static "Countcote$SignedSketch" "COLUMN_FACTORS" "[I") (.int 2)) (.int 14)) (by decide +kernel))
      · exact va_eqt (hf (.eq (.elem (Term.static "Countcote$SignedSketch" "COLUMN_FACTORS" "[I") (.int 3)) (.int 27)) (by decide +kernel))
      · exact va_eqt (hf (.eq (.elem (Term.static "Countcote$SignedSketch" "COLUMN_FACTORS" "[I") (.int 4)) (.int 33)) (by decide +kernel))) hA
    exact ⟨t, va_Zof (hts (.laysStatic "Countcote$SignedSketch" "COLUMN_FACTORS" "[I") (by decide +kernel)) (hts (.initialized "Countcote$SignedSketch") (by decide +kernel)) h1 hA, h2⟩
  have hz3 : ∃ t, va_Z "Countcote$SignedSketch" "COLUMN_SHIFTS" "[I" (.ref t) (zA g) s s.heap ∧ va_T .int t 5 (fun j => .int (([1, 8, 2, 40, 17] : List Int32).getD j 0)) (zA g) s s.heap := by
    obtain ⟨t, h1, h2⟩ := va_Tof (tm := (Term.static "Countcote$SignedSketch" "COLUMN_SHIFTS" "[I")) (ty := .int) (N := 5) (f := fun j => .int (([1, 8, 2, 40, 17] : List Int32).getD j 0)) (by decide) (hf (.arrayOf (Term.static "Countcote$SignedSketch" "COLUMN_SHIFTS" "[I") .int) (by decide +kernel)) (va_eqt (hf (.eq (.length (Term.static "Countcote$SignedSketch" "COLUMN_SHIFTS" "[I")) (.int 5)) (by decide +kernel))) (fun j hj => by
      rcases (show j = 0 ∨ j = 1 ∨ j = 2 ∨ j = 3 ∨ j = 4 by omega) with rfl | rfl | rfl | rfl | rfl
      · exact va_eqt (hf (.eq (.elem (Term.static "Countcote$SignedSketch" "COLUMN_SHIFTS" "[I") (.int 0)) (.int 1)) (by decide +kernel))
      · exact va_eqt (hf (.eq (.elem (Term.static "Countcote$SignedSketch" "COLUMN_SHIFTS" "[I") (.int 1)) (.int 8)) (by decide +kernel))
      · exact va_eqt (hf (.eq (.elem (Term.static "Countcote$SignedSketch" "COLUMN_SHIFTS" "[I") (.int 2)) (.int 2)) (by decide +kernel))
      · exact va_eqt (hf (.eq (.elem (Term.static "Countcote$SignedSketch" "COLUMN_SHIFTS" "[I") (.int 3)) (.int 40)) (by decide +kernel))
      · exact va_eqt (hf (.eq (.elem (Term.static "Countcote$SignedSketch" "COLUMN_SHIFTS" "[I") (.int 4)) (.int 17)) (by decide +kernel))) hA
    exact ⟨t, va_Zof (hts (.laysStatic "Countcote$SignedSketch" "COLUMN_SHIFTS" "[I") (by decide +kernel)) (hts (.initialized "Countcote$SignedSketch") (by decide +kernel)) h1 hA, h2⟩
  have hz4 : ∃ t, va_Z "Countcote$SignedSketch" "SIGN_FACTORS" "[I" (.ref t) (zA g) s s.heap ∧ va_T .int t 5 (fun j => .int (([3, 10, 21, 29, 44] : List Int32).getD j 0)) (zA g) s s.heap := by
    obtain ⟨t, h1, h2⟩ := va_Tof (tm := (Term.static "Countcote$SignedSketch" "SIGN_FACTORS" "[I")) (ty := .int) (N := 5) (f := fun j => .int (([3, 10, 21, 29, 44] : List Int32).getD j 0)) (by decide) (hf (.arrayOf (Term.static "Countcote$SignedSketch" "SIGN_FACTORS" "[I") .int) (by decide +kernel)) (va_eqt (hf (.eq (.length (Term.static "Countcote$SignedSketch" "SIGN_FACTORS" "[I")) (.int 5)) (by decide +kernel))) (fun j hj => by
      rcases (show j = 0 ∨ j = 1 ∨ j = 2 ∨ j = 3 ∨ j = 4 by omega) with rfl | rfl | rfl | rfl | rfl
      · exact va_eqt (hf (.eq (.elem (Term.static "Countcote$SignedSketch" "SIGN_FACTORS" "[I") (.int 0)) (.int 3)) (by decide +kernel))
      · exact va_eqt (hf (.eq (.elem (Term.static "Countcote$SignedSketch" "SIGN_FACTORS" "[I") (.int 1)) (.int 10)) (by decide +kernel))
      · exact va_eqt (hf (.eq (.elem (Term.static "Countcote$SignedSketch" "SIGN_FACTORS" "[I") (.int 2)) (.int 21)) (by decide +kernel))
      · exact va_eqt (hf (.eq (.elem (Term.static "Countcote$SignedSketch" "SIGN_FACTORS" "[I") (.int 3)) (.int 29)) (by decide +kernel))
      · exact va_eqt (hf (.eq (.elem (Term.static "Countcote$SignedSketch" "SIGN_FACTORS" "[I") (.int 4)) (.int 44)) (by decide +kernel))) hA
    exact ⟨t, va_Zof (hts (.laysStatic "Countcote$SignedSketch" "SIGN_FACTORS" "[I") (by decide +kernel)) (hts (.initialized "Countcote$SignedSketch") (by decide +kernel)) h1 hA, h2⟩
  have hz5 : ∃ t, va_Z "Countcote$SignedSketch" "SIGN_SHIFTS" "[I" (.ref t) (zA g) s s.heap ∧ va_T .int t 5 (fun j => .int (([7, 0, 13, 5, 30] : List Int32).getD j 0)) (zA g) s s.heap := by
    obtain ⟨t, h1, h2⟩ := va_Tof (tm := (Term.static "Countcote$SignedSketch" "SIGN_SHIFTS" "[I")) (ty := .int) (N := 5) (f := fun j => .int (([7, 0, 13, 5, 30] : List Int32).getD j 0)) (by decide) (hf (.arrayOf (Term.static "Countcote$SignedSketch" "SIGN_SHIFTS" "[I") .int) (by decide +kernel)) (va_eqt (hf (.eq (.length (Term.static "Countcote$SignedSketch" "SIGN_SHIFTS" "[I")) (.int 5)) (by decide +kernel))) (fun j hj => by
      rcases (show j = 0 ∨ j = 1 ∨ j = 2 ∨ j = 3 ∨ j = 4 by omega) with rfl | rfl | rfl | rfl | rfl
      · exact va_eqt (hf (.eq (.elem (Term.static "Countcote$SignedSketch" "SIGN_SHIFTS" "[I") (.int 0)) (.int 7)) (by decide +kernel))
      · exact va_eqt (hf (.eq (.elem (Term.static "Countcote$SignedSketch" "SIGN_SHIFTS" "[I") (.int 1)) (.int 0)) (by decide +kernel))
      · exact va_eqt (hf (.eq (.elem (Term.static "Countcote$SignedSketch" "SIGN_SHIFTS" "[I") (.int 2)) (.int 13)) (by decide +kernel))
      · exact va_eqt (hf (.eq (.elem (Term.static "Countcote$SignedSketch" "SIGN_SHIFTS" "[I") (.int 3)) (.int 5)) (by decide +kernel))
      · exact va_eqt (hf (.eq (.elem (Term.static "Countcote$SignedSketch" "SIGN_SHIFTS" "[I") (.int 4)) (.int 30)) (by decide +kernel))) hA
    exact ⟨t, va_Zof (hts (.laysStatic "Countcote$SignedSketch" "SIGN_SHIFTS" "[I") (by decide +kernel)) (hts (.initialized "Countcote$SignedSketch") (by decide +kernel)) h1 hA, h2⟩
  refine ⟨List.forall_mem_cons.mpr ⟨hz0, List.forall_mem_cons.mpr ⟨hz1, List.forall_mem_cons.mpr ⟨hz2, List.forall_mem_cons.mpr ⟨hz3, List.forall_mem_cons.mpr ⟨hz4, List.forall_mem_cons.mpr ⟨hz5, fun _ h => absurd h List.not_mem_nil⟩⟩⟩⟩⟩⟩,
    List.forall_mem_cons.mpr ⟨va_tabs rfl rfl (hts (.fieldLinkNest "Countcote" 120 "Countcote$FewCounters" "used" "I" "Countcote") (by decide +kernel)), List.forall_mem_cons.mpr ⟨va_tabs rfl rfl (hts (.fieldLinkNest "Countcote" 126 "Countcote$FewCounters" "items" "[I" "Countcote") (by decide +kernel)), List.forall_mem_cons.mpr ⟨va_tabs rfl rfl (hts (.fieldLinkNest "Countcote" 133 "Countcote$FewCounters" "away" "I" "Countcote") (by decide +kernel)), fun _ h => absurd h List.not_mem_nil⟩⟩⟩,
    by rw [hgs]; exact hX, by rw [hgs]; exact hbl, by rw [hgs]; exact hA b hbl⟩
theorem znk_start {s : State} {b : Nat} (hts : ∀ w ∈ lw_tbl, w.before #[Value.ref b] s = true) : znk s := by
  refine ⟨va_tabs rfl rfl (hts (.methodLinkNest RX4 11 yX2_init "Countcote") (by decide +kernel)), va_tabs rfl rfl (hts (.methodLinkNest RX4 26 yX3_init "Countcote") (by decide +kernel)), va_tabs rfl rfl (hts (.methodLinkNest RX4 33 yX1_init "Countcote") (by decide +kernel)), va_tabs rfl rfl (hts (.methodLinkNest RX4 38 yX0_init "Countcote") (by decide +kernel)), va_AO.of (hts (.arrayOver (.object RX0)) (by decide +kernel)), va_AO.of (hts (.arrayOver (.object RX4)) (by decide +kernel))⟩
