/-! THE CLAIM OUT OF ONE WALK OF THE LAW'S BODY. Your part is whole_start (and what it stands on); all else here is the same for every law, but numbers. -/
def R_law : String := "CountcoteLaw"
def lw_P (b : Addr) (xs : List Int32) (args : Array Value) (s : State) : Prop := args = #[.ref b] ∧ s.IntsAt b xs ∧ xs.length ≤ 2560 ∧ (Jvm.Cond.and given_1 narrow_1).before args s = true
/-- what a walk over the start with the record d0 says of its end, said of the start itself -/
theorem lw_closed {s t : State} {o : Outcome} {d0 : Drawn} {L : List Loc} {k n : Nat} (hd0 : s.drawn.sameBut d0 lw_cs) (hv : ∃ v, o = .returned v) (hW : (s.setDrawn d0).WarmedH t.vm) (hs : (s.setDrawn d0).sameButNew ({ t with vm := s.vm } : State) L k n) : State.butDraws s t lw_cs (fun t1 => Framed s o t1 L k n) := by
  have h2 : t.drawn = d0 := congrArg State.drawn hs.1
  refine ⟨⟨hv, hW, State.sameButNew.setDrawn hs s.drawn⟩, ?_, by decide⟩
  rw [h2]
  exact hd0
def lw_Q (_ : Array Value) (s : State) (o : Outcome) (t : State) : Prop := o = .returned (some (.int 1)) ∧ State.butDraws s t lw_cs (fun t1 => Framed s o t1 [] 601024 7293034)
def lw_Z (below : List Frame) (a : Array Value) (s : State) : State → Prop := fun t => ∃ o, t.status = .running ∧ Ended t below o ∧ lw_Q a s o t
/-- the law's own end, with 1 on the stack, nothing written that was there before, its room as the claim has it; d0: the record of draws at this point (at the entry s.drawn: begin with 'refine W.base ?_' and 'have hd0 := Drawn.sameBut.refl s.drawn lw_cs') -/
theorem lw_ret {p : Program} {l : Launch} {e : Env} {s : State} {m : MethodId} {below : List Frame} {meth : Method} {c : Code} {b : Nat} {d0 : Drawn} (hd0 : s.drawn.sameBut d0 lw_cs) (hx : p.tables.exec = Jvm.exec) (hb : c.code = code) (hr : meth.sig.returnType = ret) (hlocks : meth.locks = false) {pc : Nat} {H : Heap} {ls : Array Slot} (hdg : decode code pc = .ok (.ireturn, 1)) : W p l e room_1 (s.setDrawn d0) m #[Value.ref b] below meth c H [] 601024 7293034 (lw_Z below #[Value.ref b] s) (F0 m pc ls [.int 1]) := by
  intro T hT X
  obtain ⟨fs, hret, hrun, hended, hW, hframe⟩ := X.leave (v := some (.int 1)) (hlocks := hlocks) (fun h => by rw [hr] at h; cases h)
  have hmeth' : T.vm.method? m = some meth := X.method'
  refine ⟨T.setFrames fs, ?_, .returned (some (.int 1)), hrun, hended, rfl, lw_closed hd0 ⟨_, rfl⟩ hW hframe⟩
  jvm_step X.here [X.here.top, hx, hb, hdg, hmeth', hr, ret, narrow_b1]
  (try refine ⟨rfl, ?_⟩); (try refine ⟨rfl, ?_⟩)
  first | (intro acts; rw [hret _ acts rfl rfl rfl]) | rw [hret _ _ rfl rfl rfl]
  exact Steps.refl _
/-- what holds at the law's entry: the machine, the code, the tables' words (any of lw_tbl by 'hts w (by decide +kernel)'), the script of L ints xs at the cell b, what the Statement gives of the start (any of its parts by flat_of_before) -/
def lw_At (p : Program) (s : State) (m : MethodId) (meth : Method) (c : Code) (b L : Nat) (xs : Nat → Int32) : Prop :=
  p.tables.exec = Jvm.exec ∧ c.code = code ∧ meth.sig.returnType = ret ∧ c.maxLocals = 9 ∧ s.vm.findClass R_law = some m.cls ∧ (∀ w ∈ lw_tbl, w.before #[Value.ref b] s = true) ∧ va_X b L xs s s.heap ∧ b < s.heap.size ∧ meth.locks = false ∧ (Jvm.Cond.and given_1 narrow_1).before #[Value.ref b] s = true
set_option maxHeartbeats 4000000 in
set_option maxRecDepth 100000 in
theorem law_loop {p : Program} {e : Env} {s : State} {m : MethodId} {below : List Frame} {meth : Method} {c : Code} (l : Launch) (hls : l.stackTraces = false) {b L : Nat} {xs : Nat → Int32} (hL : L ≤ 2560) {g : zG} (C : zC p s m #[Value.ref b] meth c g cL_law 9 RL wsL_law) (hX : va_X b L xs s s.heap) (hbl : b < s.heap.size) (hbA : ¬ zA g b) (hr : meth.sig.returnType = ret) (hg2 : g.2.2.2 = s.heap.size) : ∀ (n t : Nat) (x : zT) (S : zS), L + 5 < 5 * t + 5 * n → 5 * t ≤ L → zAll x S → zMA x S → zGood S → Z p l e room_1 s m #[Value.ref b] below meth c g 9 (77 + 4 * t) (1753 + 24 * t) (lw_Z below #[Value.ref b] s) x 28 [(5, .int (nI (5 * t))), (0, .ref b), (1, .ref (zad g 0)), (2, .ref (zad g 2)), (3, .ref (zad g 11)), (4, .ref (zad g 12))] [] := by
  intro n
  induction n with
  | zero => intro t x S h1 h2; omega
  | succ n ih =>
    intro t x S h1 h2 hA hM hG
    refine z_iload 28 C dL_law_28 0 rfl ?_
    refine z_aload_n 30 C dL_law_30 rfl 1 rfl ?_
    refine z_slen 31 C hX hbl hbA dL_law_31 ?_
    refine z_iconst (v := nI 5) 32 C dL_law_32 rfl ?_
    refine z_isub (v := nI L - nI 5) 33 C dL_law_33 rfl ?_
    refine z_icmp_gt 34 C 1933 dL_law_34 (by decide) (fun h => ?_) (fun h => ?_)
    · refine z_iconst (v := nI 1) 1933 C dL_law_1933 rfl (fun H locs ls hP hS hl => ?_)
      refine va_forget (fun q hq => by have h9 : g.2.2.2 ≤ q.base := hS.2.2 q hq; rw [hg2] at h9; exact h9) ?_
      refine W.widen (k := 601024) (n := 7293034) (by omega) (by omega) ?_
      exact lw_ret (d0 := s.drawn) (Drawn.sameBut.refl s.drawn lw_cs) C.1.1 C.1.2.1 hr C.2.2.2.2.2 dL_law_1934
    · have hlt : 5 * t + 5 ≤ L := by
        have h9 := (not_congr (zsub5 hL (show 5 * t ≤ 3000 by omega))).mp h
        omega
      obtain ⟨q9, hq9⟩ : ∃ v : Int32, xs (5 * t) = v := ⟨_, rfl⟩
      refine z_aload_n 37 C dL_law_37 rfl 1 rfl ?_
      refine z_iload 38 C dL_law_38 0 rfl ?_
      refine z_sld 40 C hX hbl hbA (show 5 * t < L by omega) hL hq9 dL_law_40 ?_
      refine z_bipush (v := nI 31) 41 C dL_law_41 rfl ?_
      obtain ⟨k, hk, ek⟩ := z_and31 q9
      refine z_iand (v := nI k) 43 C dL_law_43 ek ?_
      have hcont : ∀ (y : zT) (S' : zS), zAll y S' → zMA y S' → zGood S' → Z p l e room_1 s m #[Value.ref b] below meth c g 9 (77 + 4 * t + 4) (1753 + 24 * t + 24) (lw_Z below #[Value.ref b] s) y 1927 [(5, .int (nI (5 * t))), (0, .ref b), (1, .ref (zad g 0)), (2, .ref (zad g 2)), (3, .ref (zad g 11)), (4, .ref (zad g 12))] [] := fun y S' hA hM hG => by
        refine z_iinc (v' := nI (5 * (t + 1))) (lv' := [(5, .int (nI (5 * (t + 1)))), (0, .ref b), (1, .ref (zad g 0)), (2, .ref (zad g 2)), (3, .ref (zad g 11)), (4, .ref (zad g 12))]) 1927 C dL_law_1927 (q := 0) rfl (zn_inc (5 * t) 5) (by decide) rfl ?_
        refine z_goto 1930 C 28 dL_law_1930 (by decide) ?_
        refine z_widen (k := 77 + 4 * (t + 1)) (n := 1753 + 24 * (t + 1)) (by omega) (by omega) ?_
        exact ih (t + 1) y S' (by omega) (by omega) hA hM hG
      rcases (show k = 0 ∨ k = 1 ∨ k = 2 ∨ k = 3 ∨ k = 4 ∨ k = 5 ∨ k = 6 ∨ k = 7 ∨ k = 8 ∨ k = 9 ∨ k = 10 ∨ k = 11 ∨ k = 12 ∨ k = 13 ∨ k = 14 ∨ k = 15 ∨ k = 16 ∨ k = 17 ∨ k = 18 ∨ k = 19 ∨ k = 20 ∨ k = 21 ∨ k = 22 ∨ k = 23 ∨ k = 24 ∨ 25 ≤ k by omega) with rfl | rfl | rfl | rfl | rfl | rfl | rfl | rfl | rfl | rfl | rfl | rfl | rfl | rfl | rfl | rfl | rfl | rfl | rfl | rfl | rfl | rfl | rfl | rfl | rfl | h25
      · refine z_tableIn 44 C 160 dL_law_44 (by decide) (by decide) (off := 116) rfl (by decide) ?_
        exact law_add l hls hL C hX hbl hbA hlt ⟨by omega, by omega⟩ hA hM hG hcont
      · refine z_tableIn 44 C 240 dL_law_44 (by decide) (by decide) (off := 196) rfl (by decide) ?_
        exact law_merge l hls hL C hX hbl hbA hlt ⟨by omega, by omega⟩ hA hM hG hcont
      · refine z_tableIn 44 C 308 dL_law_44 (by decide) (by decide) (off := 264) rfl (by decide) ?_
        exact law_clear l hls hL C hX hbl hbA hlt ⟨by omega, by omega⟩ hA hM hG hcont
      · refine z_tableIn 44 C 364 dL_law_44 (by decide) (by decide) (off := 320) rfl (by decide) ?_
        exact law_total l hls hL C hX hbl hbA hlt ⟨by omega, by omega⟩ hA hM hG hcont
      · refine z_tableIn 44 C 420 dL_law_44 (by decide) (by decide) (off := 376) rfl (by decide) ?_
        exact law_count l hls hL C hX hbl hbA hlt ⟨by omega, by omega⟩ hA hM hG hcont
      · refine z_tableIn 44 C 488 dL_law_44 (by decide) (by decide) (off := 444) rfl (by decide) ?_
        exact law_countOfRange l hls hL C hX hbl hbA hlt ⟨by omega, by omega⟩ hA hM hG hcont
      · refine z_tableIn 44 C 568 dL_law_44 (by decide) (by decide) (off := 524) rfl (by decide) ?_
        exact law_product l hls hL C hX hbl hbA hlt ⟨by omega, by omega⟩ hA hM hG hcont
      · refine z_tableIn 44 C 635 dL_law_44 (by decide) (by decide) (off := 591) rfl (by decide) ?_
        exact law_column l hls hL C hX hbl hbA hlt ⟨by omega, by omega⟩ hA hM hG hcont
      · refine z_tableIn 44 C 703 dL_law_44 (by decide) (by decide) (off := 659) rfl (by decide) ?_
        exact law_cell l hls hL C hX hbl hbA hlt ⟨by omega, by omega⟩ hA hM hG hcont
      · refine z_tableIn 44 C 795 dL_law_44 (by decide) (by decide) (off := 751) rfl (by decide) ?_
        exact law_estimate l hls hL C hX hbl hbA hlt ⟨by omega, by omega⟩ hA hM hG hcont
      · refine z_tableIn 44 C 875 dL_law_44 (by decide) (by decide) (off := 831) rfl (by decide) ?_
        exact law_share l hls hL C hX hbl hbA hlt ⟨by omega, by omega⟩ hA hM hG hcont
      · refine z_tableIn 44 C 964 dL_law_44 (by decide) (by decide) (off := 920) rfl (by decide) ?_
        exact law_parts l hls hL C hX hbl hbA hlt ⟨by omega, by omega⟩ hA hM hG hcont
      · refine z_tableIn 44 C 1032 dL_law_44 (by decide) (by decide) (off := 988) rfl (by decide) ?_
        exact law_estimateOfRange l hls hL C hX hbl hbA hlt ⟨by omega, by omega⟩ hA hM hG hcont
      · refine z_tableIn 44 C 1112 dL_law_44 (by decide) (by decide) (off := 1068) rfl (by decide) ?_
        exact law_frequent l hls hL C hX hbl hbA hlt ⟨by omega, by omega⟩ hA hM hG hcont
      · refine z_tableIn 44 C 1180 dL_law_44 (by decide) (by decide) (off := 1136) rfl (by decide) ?_
        exact law_frequentAt l hls hL C hX hbl hbA hlt ⟨by omega, by omega⟩ hA hM hG hcont
      · refine z_tableIn 44 C 1260 dL_law_44 (by decide) (by decide) (off := 1216) rfl (by decide) ?_
        exact law_itemOfRank l hls hL C hX hbl hbA hlt ⟨by omega, by omega⟩ hA hM hG hcont
      · refine z_tableIn 44 C 1328 dL_law_44 (by decide) (by decide) (off := 1284) rfl (by decide) ?_
        exact law_signedColumn l hls hL C hX hbl hbA hlt ⟨by omega, by omega⟩ hA hM hG hcont
      · refine z_tableIn 44 C 1396 dL_law_44 (by decide) (by decide) (off := 1352) rfl (by decide) ?_
        exact law_sign l hls hL C hX hbl hbA hlt ⟨by omega, by omega⟩ hA hM hG hcont
      · refine z_tableIn 44 C 1464 dL_law_44 (by decide) (by decide) (off := 1420) rfl (by decide) ?_
        exact law_signedCell l hls hL C hX hbl hbA hlt ⟨by omega, by omega⟩ hA hM hG hcont
      · refine z_tableIn 44 C 1544 dL_law_44 (by decide) (by decide) (off := 1500) rfl (by decide) ?_
        exact law_signedEstimate l hls hL C hX hbl hbA hlt ⟨by omega, by omega⟩ hA hM hG hcont
      · refine z_tableIn 44 C 1612 dL_law_44 (by decide) (by decide) (off := 1568) rfl (by decide) ?_
        exact law_signedProduct l hls hL C hX hbl hbA hlt ⟨by omega, by omega⟩ hA hM hG hcont
      · refine z_tableIn 44 C 1679 dL_law_44 (by decide) (by decide) (off := 1635) rfl (by decide) ?_
        exact law_counters l hls hL C hX hbl hbA hlt ⟨by omega, by omega⟩ hA hM hG hcont
      · refine z_tableIn 44 C 1735 dL_law_44 (by decide) (by decide) (off := 1691) rfl (by decide) ?_
        exact law_counterItem l hls hL C hX hbl hbA hlt ⟨by omega, by omega⟩ hA hM hG hcont
      · refine z_tableIn 44 C 1803 dL_law_44 (by decide) (by decide) (off := 1759) rfl (by decide) ?_
        exact law_counterOf l hls hL C hX hbl hbA hlt ⟨by omega, by omega⟩ hA hM hG hcont
      · refine z_tableIn 44 C 1871 dL_law_44 (by decide) (by decide) (off := 1827) rfl (by decide) ?_
        exact law_taken l hls hL C hX hbl hbA hlt ⟨by omega, by omega⟩ hA hM hG hcont
      · refine z_tableOut 44 C 1927 dL_law_44 (Or.inr (by rw [nI_toInt (by omega)]; omega)) (by decide) ?_
        refine z_widen (k := 77 + 4 * t + 4) (n := 1753 + 24 * t + 24) (by omega) (by omega) ?_
        exact hcont x S hA hM hG
theorem zarr_q {C : String} {s : State} (h : va_AO C s) : ∃ c : ClassId, ArrOfT s c (.object C) ∧ va_RA s c (.object C) := by
  obtain ⟨comp, c, k, h1, h2, h3, h4, h5⟩ := Cond.arrayOver_spec h
  exact ⟨c, fun n z => ⟨fun k h => (by cases h), k, h3, comp, h4⟩, k, comp, h3, h4, h1, h5⟩
theorem zarr_i {args : Array Value} {s : State} (h : (Cond.arrayClass .int).before args s = true) : ∃ c : ClassId, ArrOfT s c .int ∧ va_RA s c .int := by
  obtain ⟨c, k, comp, h1, h2, h3⟩ := Cond.arrayClass_spec h
  exact ⟨c, fun n z => ⟨fun k h => (by cases h), k, h2, comp, h3⟩, h1⟩
theorem zarr_l {args : Array Value} {s : State} (h : (Cond.arrayClass .long).before args s = true) : ∃ c : ClassId, ArrOfT s c .long ∧ va_RA s c .long := by
  obtain ⟨c, k, comp, h1, h2, h3⟩ := Cond.arrayClass_spec h
  exact ⟨c, fun n z => ⟨fun k h => (by cases h), k, h2, comp, h3⟩, h1⟩
theorem zarr_d {args : Array Value} {s : State} (h : (Cond.arrayClass .double).before args s = true) : ∃ c : ClassId, ArrOfT s c .double ∧ va_RA s c .double := by
  obtain ⟨c, k, comp, h1, h2, h3⟩ := Cond.arrayClass_spec h
  exact ⟨c, fun n z => ⟨fun k h => (by cases h), k, h2, comp, h3⟩, h1⟩
set_option maxRecDepth 100000 in
theorem zSt_start {s : State} {b : Nat} {g : zG} (hts : ∀ w ∈ lw_tbl, w.before #[Value.ref b] s = true) (hgv : (Jvm.Cond.and given_1 narrow_1).before #[Value.ref b] s = true) (hg2 : g.2.2.2 = s.heap.size) : zSt g s := by
  have hf := flat_of_before _ hgv
  have hA : ∀ a : Nat, a < s.heap.size → ¬ zA g a := fun a h h2 => by
    have h3 : g.2.2.2 ≤ a := h2
    omega
  have hz0 : ∃ t, va_Z "Countcote$CarefulSketch" "FACTORS" "[I" (.ref t) (zA g) s s.heap ∧ va_T .int t 3 (fun j => .int (([7, 11, 23] : List Int32).getD j 0)) (zA g) s s.heap := by
    obtain ⟨t, h1, h2⟩ := va_Tof (tm := (Term.static "Countcote$CarefulSketch" "FACTORS" "[I")) (ty := .int) (N := 3) (f := fun j => .int (([7, 11, 23] : List Int32).getD j 0)) (by decide) (hf (.arrayOf (Term.static "Countcote$CarefulSketch" "FACTORS" "[I") .int) (by decide +kernel)) (va_eqt (hf (.eq (.length (Term.static "Countcote$CarefulSketch" "FACTORS" "[I")) (.int 3)) (by decide +kernel))) (fun j hj => by
      rcases (show j = 0 ∨ j = 1 ∨ j = 2 by omega) with rfl | rfl | rfl
      · exact va_eqt (hf (.eq (.elem (Term.static "Countcote$CarefulSketch" "FACTORS" "[I") (.int 0)) (.int 7)) (by decide +kernel))
      · exact va_eqt (hf (.eq (.elem (Term.static "Countcote$CarefulSketch" "FACTORS" "[I") (.int 1)) (.int 11)) (by decide +kernel))
      · exact va_eqt (hf (.eq (.elem (Term.static "Countcote$CarefulSketch" "FACTORS" "[I") (.int 2)) (.int 23)) (by decide +kernel))) hA
    exact ⟨t, va_Zof (hts (.laysStatic "Countcote$CarefulSketch" "FACTORS" "[I") (by decide +kernel)) (hts (.initialized "Countcote$CarefulSketch") (by decide +kernel)) h1 hA, h2⟩
  have hz1 : ∃ t, va_Z "Countcote$CarefulSketch" "SHIFTS" "[I" (.ref t) (zA g) s s.heap ∧ va_T .int t 3 (fun j => .int (([3, 19, 5] : List Int32).getD j 0)) (zA g) s s.heap := by
    obtain ⟨t, h1, h2⟩ := va_Tof (tm := (Term.static "Countcote$CarefulSketch" "SHIFTS" "[I")) (ty := .int) (N := 3) (f := fun j => .int (([3, 19, 5] : List Int32).getD j 0)) (by decide) (hf (.arrayOf (Term.static "Countcote$CarefulSketch" "SHIFTS" "[I") .int) (by decide +kernel)) (va_eqt (hf (.eq (.length (Term.static "Countcote$CarefulSketch" "SHIFTS" "[I")) (.int 3)) (by decide +kernel))) (fun j hj => by
      rcases (show j = 0 ∨ j = 1 ∨ j = 2 by omega) with rfl | rfl | rfl
      · exact va_eqt (hf (.eq (.elem (Term.static "Countcote$CarefulSketch" "SHIFTS" "[I") (.int 0)) (.int 3)) (by decide +kernel))
      · exact va_eqt (hf (.eq (.elem (Term.static "Countcote$CarefulSketch" "SHIFTS" "[I") (.int 1)) (.int 19)) (by decide +kernel))
      · exact va_eqt (hf (.eq (.elem (Term.static "Countcote$CarefulSketch" "SHIFTS" "[I") (.int 2)) (.int 5)) (by decide +kernel))) hA
    exact ⟨t, va_Zof (hts (.laysStatic "Countcote$CarefulSketch" "SHIFTS" "[I") (by decide +kernel)) (hts (.initialized "Countcote$CarefulSketch") (by decide +kernel)) h1 hA, h2⟩
  have hz2 : ∃ t, va_Z "Countcote$SignedSketch" "COLUMN_FACTORS" "[I" (.ref t) (zA g) s s.heap ∧ va_T .int t 5 (fun j => .int (([5, 9, 14, 27, 33] : List Int32).getD j 0)) (zA g) s s.heap := by
    obtain ⟨t, h1, h2⟩ := va_Tof (tm := (Term.static "Countcote$SignedSketch" "COLUMN_FACTORS" "[I")) (ty := .int) (N := 5) (f := fun j => .int (([5, 9, 14, 27, 33] : List Int32).getD j 0)) (by decide) (hf (.arrayOf (Term.static "Countcote$SignedSketch" "COLUMN_FACTORS" "[I") .int) (by decide +kernel)) (va_eqt (hf (.eq (.length (Term.static "Countcote$SignedSketch" "COLUMN_FACTORS" "[I")) (.int 5)) (by decide +kernel))) (fun j hj => by
      rcases (show j = 0 ∨ j = 1 ∨ j = 2 ∨ j = 3 ∨ j = 4 by omega) with rfl | rfl | rfl | rfl | rfl
      · exact va_eqt (hf (.eq (.elem (Term.static "Countcote$SignedSketch" "COLUMN_FACTORS" "[I") (.int 0)) (.int 5)) (by decide +kernel))
      · exact va_eqt (hf (.eq (.elem (Term.static "Countcote$SignedSketch" "COLUMN_FACTORS" "[I") (.int 1)) (.int 9)) (by decide +kernel))
      · exact va_eqt (hf (.eq (.elem (Term.static "Countcote$SignedSketch" "COLUMN_FACTORS" "[I") (.int 2)) (.int 14)) (by decide +kernel))
      · exact va_eqt (hf (.eq (.elem (Term.static "Countcote$SignedSketch" "COLUMN_FACTORS" "[I") (.int 3)) (.int 27)) (by decide +kernel))
      · exact va_eqt (hf (.eq (.elem (Term.static "Countcote$SignedSketch" "COLUMN_FACTORS" "[I") (.int 4)) (.int 33)) (by decide +kernel))) hA
    exact ⟨t, va_Zof (hts (.laysStatic "Countcote$SignedSketch" "COLUMN_FACTORS" "[I") (by decide +kernel)) (hts (.initialized "Countcote$SignedSketch") (by decide +kernel)) h1 hA, h2⟩
  have hz3 : ∃ t, va_Z "Countcote$SignedSketch" "COLUMN_SHIFTS" "[I" (.ref t) (zA g) s s.heap ∧ va_T .int t 5 (fun j => .int (([1, 8, 2, 40, 17] : List Int32).getD j 0)) (zA g) s s.heap := by
    obtain ⟨t, h1, h2⟩ := va_Tof (tm := (Term.static "Countcote$SignedSketch" "COLUMN_SHIFTS" "[I")) (ty := .int) (N := 5) (f := fun j => .int (([1, 8, 2, 40, 17] : List Int32).getD j 0)) (by decide) (hf (.arrayOf (Term.static "Countcote$SignedSketch" "COLUMN_SHIFTS" "[I") .int) (by decide +kernel)) (va_eqt (hf (.eq (.length (Term.static "Countcote$SignedSketch" "COLUMN_SHIFTS" "[I")) (.int 5)) (by decide +kernel))) (fun j hj => by
      rcases (show j = 0 ∨ j = 1 ∨ j = 2 ∨ j = 3 ∨ j = 4 by omega) with rfl | rfl | rfl | rfl | rfl
      · exact va_eqt (hf (.eq (.elem (Term.static "Countcote$SignedSketch" "COLUMN_SHIFTS" "[I") (.int 0)) (.int 1)) (by decide +kernel))
      · exact va_eqt (hf (.eq (.elem (Term.static "Countcote$SignedSketch" "COLUMN_SHIFTS" "[I") (.int 1)) (.int 8)) (by decide +kernel))
      · exact va_eqt (hf (.eq (.elem (Term.static "Countcote$SignedSketch" "COLUMN_SHIFTS" "[I") (.int 2)) (.int 2)) (by decide +kernel))
      · exact va_eqt (hf (.eq (.elem (Term.static "Countcote$SignedSketch" "COLUMN_SHIFTS" "[I") (.int 3)) (.int 40)) (by decide +kernel))
      · exact va_eqt (hf (.eq (.elem (Term.static "Countcote$SignedSketch" "COLUMN_SHIFTS" "[I") (.int 4)) (.int 17)) (by decide +kernel))) hA
    exact ⟨t, va_Zof (hts (.laysStatic "Countcote$SignedSketch" "COLUMN_SHIFTS" "[I") (by decide +kernel)) (hts (.initialized "Countcote$SignedSketch") (by decide +kernel)) h1 hA, h2⟩
  have hz4 : ∃ t, va_Z "Countcote$SignedSketch" "SIGN_FACTORS" "[I" (.ref t) (zA g) s s.heap ∧ va_T .int t 5 (fun j => .int (([3, 10, 21, 29, 44] : List Int32).getD j 0)) (zA g) s s.heap := by
    obtain ⟨t, h1, h2⟩ := va_Tof (tm := (Term.static "Countcote$SignedSketch" "SIGN_FACTORS" "[I")) (ty := .int) (N := 5) (f := fun j => .int (([3, 10, 21, 29, 44] : List Int32).getD j 0)) (by decide) (hf (.arrayOf (Term.static "Countcote$SignedSketch" "SIGN_FACTORS" "[I") .int) (by decide +kernel)) (va_eqt (hf (.eq (.length (Term.static "Countcote$SignedSketch" "SIGN_FACTORS" "[I")) (.int 5)) (by decide +kernel))) (fun j hj => by
      rcases (show j = 0 ∨ j = 1 ∨ j = 2 ∨ j = 3 ∨ j = 4 by omega) with rfl | rfl | rfl | rfl | rfl
      · exact va_eqt (hf (.eq (.elem (Term.static "Countcote$SignedSketch" "SIGN_FACTORS" "[I") (.int 0)) (.int 3)) (by decide +kernel))
      · exact va_eqt (hf (.eq (.elem (Term.static "Countcote$SignedSketch" "SIGN_FACTORS" "[I") (.int 1)) (.int 10)) (by decide +kernel))
      · exact va_eqt (hf (.eq (.elem (Term.static "Countcote$SignedSketch" "SIGN_FACTORS" "[I") (.int 2)) (.int 21)) (by decide +kernel))
      · exact va_eqt (hf (.eq (.elem (Term.static "Countcote$SignedSketch" "SIGN_FACTORS" "[I") (.int 3)) (.int 29)) (by decide +kernel))
      · exact va_eqt (hf (.eq (.elem (Term.static "Countcote$SignedSketch" "SIGN_FACTORS" "[I") (.int 4)) (.int 44)) (by decide +kernel))) hA
    exact ⟨t, va_Zof (hts (.laysStatic "Countcote$SignedSketch" "SIGN_FACTORS" "[I") (by decide +kernel)) (hts (.initialized "Countcote$SignedSketch") (by decide +kernel)) h1 hA, h2⟩
  have hz5 : ∃ t, va_Z "Countcote$SignedSketch" "SIGN_SHIFTS" "[I" (.ref t) (zA g) s s.heap ∧ va_T .int t 5 (fun j => .int (([7, 0, 13, 5, 30] : List Int32).getD j 0)) (zA g) s s.heap := by
    obtain ⟨t, h1, h2⟩ := va_Tof (tm := (Term.static "Countcote$SignedSketch" "SIGN_SHIFTS" "[I")) (ty := .int) (N := 5) (f := fun j => .int (([7, 0, 13, 5, 30] : List Int32).getD j 0)) (by decide) (hf (.arrayOf (Term.static "Countcote$SignedSketch" "SIGN_SHIFTS" "[I") .int) (by decide +kernel)) (va_eqt (hf (.eq (.length (Term.static "Countcote$SignedSketch" "SIGN_SHIFTS" "[I")) (.int 5)) (by decide +kernel))) (fun j hj => by
      rcases (show j = 0 ∨ j = 1 ∨ j = 2 ∨ j = 3 ∨ j = 4 by omega) with rfl | rfl | rfl | rfl | rfl
      · exact va_eqt (hf (.eq (.elem (Term.static "Countcote$SignedSketch" "SIGN_SHIFTS" "[I") (.int 0)) (.int 7)) (by decide +kernel))
      · exact va_eqt (hf (.eq (.elem (Term.static "Countcote$SignedSketch" "SIGN_SHIFTS" "[I") (.int 1)) (.int 0)) (by decide +kernel))
      · exact va_eqt (hf (.eq (.elem (Term.static "Countcote$SignedSketch" "SIGN_SHIFTS" "[I") (.int 2)) (.int 13)) (by decide +kernel))
      · exact va_eqt (hf (.eq (.elem (Term.static "Countcote$SignedSketch" "SIGN_SHIFTS" "[I") (.int 3)) (.int 5)) (by decide +kernel))
      · exact va_eqt (hf (.eq (.elem (Term.static "Countcote$SignedSketch" "SIGN_SHIFTS" "[I") (.int 4)) (.int 30)) (by decide +kernel))) hA
    exact ⟨t, va_Zof (hts (.laysStatic "Countcote$SignedSketch" "SIGN_SHIFTS" "[I") (by decide +kernel)) (hts (.initialized "Countcote$SignedSketch") (by decide +kernel)) h1 hA, h2⟩
  refine ⟨List.forall_mem_cons.mpr ⟨hz0, List.forall_mem_cons.mpr ⟨hz1, List.forall_mem_cons.mpr ⟨hz2, List.forall_mem_cons.mpr ⟨hz3, List.forall_mem_cons.mpr ⟨hz4, List.forall_mem_cons.mpr ⟨hz5, fun _ h => absurd h List.not_mem_nil⟩⟩⟩⟩⟩⟩,
    List.forall_mem_cons.mpr ⟨va_tabs rfl rfl (hts (.castable "java/lang/IndexOutOfBoundsException" "java/lang/IndexOutOfBoundsException") (by decide +kernel)), List.forall_mem_cons.mpr ⟨va_tabs rfl rfl (hts (.castable "java/lang/IllegalArgumentException" "java/lang/IllegalArgumentException") (by decide +kernel)), List.forall_mem_cons.mpr ⟨va_tabs rfl rfl (hts (.castable "java/lang/IllegalStateException" "java/lang/IllegalStateException") (by decide +kernel)), List.forall_mem_cons.mpr ⟨va_tabs rfl rfl (hts (.castable "java/util/NoSuchElementException" "java/util/NoSuchElementException") (by decide +kernel)), fun _ h => absurd h List.not_mem_nil⟩⟩⟩⟩,
    List.forall_mem_cons.mpr ⟨va_tabs rfl rfl (hts (.declares ⟨"java/lang/RuntimeException", "<init>", "(Ljava/lang/String;)V"⟩) (by decide +kernel)), List.forall_mem_cons.mpr ⟨va_tabs rfl rfl (hts (.declares ⟨"java/lang/Exception", "<init>", "(Ljava/lang/String;)V"⟩) (by decide +kernel)), List.forall_mem_cons.mpr ⟨va_tabs rfl rfl (hts (.declares ⟨"java/lang/Throwable", "<init>", "(Ljava/lang/String;)V"⟩) (by decide +kernel)), fun _ h => absurd h List.not_mem_nil⟩⟩⟩,
    List.forall_mem_cons.mpr ⟨va_Nc.of (hf (.not (.castable "java/lang/IllegalArgumentException" "java/lang/IndexOutOfBoundsException")) (by decide +kernel)), List.forall_mem_cons.mpr ⟨va_Nc.of (hf (.not (.castable "java/lang/IllegalStateException" "java/lang/IndexOutOfBoundsException")) (by decide +kernel)), List.forall_mem_cons.mpr ⟨va_Nc.of (hf (.not (.castable "java/lang/IllegalStateException" "java/lang/IllegalArgumentException")) (by decide +kernel)), List.forall_mem_cons.mpr ⟨va_Nc.of (hf (.not (.castable "java/util/NoSuchElementException" "java/lang/IndexOutOfBoundsException")) (by decide +kernel)), List.forall_mem_cons.mpr ⟨va_Nc.of (hf (.not (.castable "java/util/NoSuchElementException" "java/lang/IllegalArgumentException")) (by decide +kernel)), fun _ h => absurd h List.not_mem_nil⟩⟩⟩⟩⟩,
    vx_Zqof (hts (.laysStatic Bundle.tN "UNASSIGNED_STACK" Bundle.steD) (by decide +kernel)) (hts (.initialized Bundle.tN) (by decide +kernel)) (hf (.isRef (.static Bundle.tN "UNASSIGNED_STACK" Bundle.steD)) (by decide +kernel)) hA,
    vx_Zqof (hts (.laysStatic Bundle.tN "SUPPRESSED_SENTINEL" Bundle.listD) (by decide +kernel)) (hts (.initialized Bundle.tN) (by decide +kernel)) (hf (.isRef (.static Bundle.tN "SUPPRESSED_SENTINEL" Bundle.listD)) (by decide +kernel)) hA,
    List.forall_mem_cons.mpr ⟨(by
      obtain ⟨a, c, cell, k, q1, -⟩ := Cond.exactly_spec (hf (.exactly (.string "Countcote" 43) "java/lang/String") (by decide +kernel))
      exact ⟨a, vk_R.of (hts (.stringRef "Countcote" 43 "a stream is not merged with itself") (by decide +kernel)) q1⟩), List.forall_mem_cons.mpr ⟨(by
      obtain ⟨a, c, cell, k, q1, -⟩ := Cond.exactly_spec (hf (.exactly (.string "Countcote" 94) "java/lang/String") (by decide +kernel))
      exact ⟨a, vk_R.of (hts (.stringRef "Countcote" 94 "no such place among the frequent items") (by decide +kernel)) q1⟩), List.forall_mem_cons.mpr ⟨(by
      obtain ⟨a, c, cell, k, q1, -⟩ := Cond.exactly_spec (hf (.exactly (.string "Countcote" 138) "java/lang/String") (by decide +kernel))
      exact ⟨a, vk_R.of (hts (.stringRef "Countcote" 138 "a number is not one of the places") (by decide +kernel)) q1⟩), List.forall_mem_cons.mpr ⟨(by
      obtain ⟨a, c, cell, k, q1, -⟩ := Cond.exactly_spec (hf (.exactly (.string "Countcote" 141) "java/lang/String") (by decide +kernel))
      exact ⟨a, vk_R.of (hts (.stringRef "Countcote" 141 "the range ends before it begins") (by decide +kernel)) q1⟩), List.forall_mem_cons.mpr ⟨(by
      obtain ⟨a, c, cell, k, q1, -⟩ := Cond.exactly_spec (hf (.exactly (.string "Countcote" 143) "java/lang/String") (by decide +kernel))
      exact ⟨a, vk_R.of (hts (.stringRef "Countcote" 143 "a number is out of range") (by decide +kernel)) q1⟩), List.forall_mem_cons.mpr ⟨(by
      obtain ⟨a, c, cell, k, q1, -⟩ := Cond.exactly_spec (hf (.exactly (.string "Countcote" 147) "java/lang/String") (by decide +kernel))
      exact ⟨a, vk_R.of (hts (.stringRef "Countcote" 147 "the total would be above its limit") (by decide +kernel)) q1⟩), fun _ h => absurd h List.not_mem_nil⟩⟩⟩⟩⟩⟩,
    List.forall_mem_cons.mpr ⟨va_tabs rfl rfl (hts (.fieldLinkNest "Countcote" 120 "Countcote$FewCounters" "used" "I" "Countcote") (by decide +kernel)), List.forall_mem_cons.mpr ⟨va_tabs rfl rfl (hts (.fieldLinkNest "Countcote" 126 "Countcote$FewCounters" "items" "[I" "Countcote") (by decide +kernel)), List.forall_mem_cons.mpr ⟨va_tabs rfl rfl (hts (.fieldLinkNest "Countcote" 133 "Countcote$FewCounters" "away" "I" "Countcote") (by decide +kernel)), fun _ h => absurd h List.not_mem_nil⟩⟩⟩⟩
theorem znk_start {s : State} {b : Nat} (hts : ∀ w ∈ lw_tbl, w.before #[Value.ref b] s = true) : znk s := by
  refine ⟨va_tabs rfl rfl (hts (.methodLinkNest RX4 11 yX2_init "Countcote") (by decide +kernel)), va_tabs rfl rfl (hts (.methodLinkNest RX4 26 yX3_init "Countcote") (by decide +kernel)), va_tabs rfl rfl (hts (.methodLinkNest RX4 33 yX1_init "Countcote") (by decide +kernel)), va_tabs rfl rfl (hts (.methodLinkNest RX4 38 yX0_init "Countcote") (by decide +kernel)), va_AO.of (hts (.arrayOver (.object RX0)) (by decide +kernel)), va_AO.of (hts (.arrayOver (.object RX4)) (by decide +kernel))⟩
