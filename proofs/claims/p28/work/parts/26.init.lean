/-! ===== constructors ===== -/
theorem zcls {D : va_G} {cl : List vw_C} {tys : List (ClassId × FieldType)} {U : State} {cA cB : ClassId} {ty : FieldType} (h : va_K D cl (tys ++ [(cA, ty)]) U) (k : Nat) (hk : tys[k]? = some (cB, ty)) : cA = cB := by
  have key : ∀ c : ClassId, va_RA U c ty → U.vm.findClass ("[" ++ ty.toString) = some c := by
    intro c h9
    cases ty with
    | object C => obtain ⟨kA, comp, h1, h2, h3, h4⟩ := h9; exact h4
    | _ => exact h9
  have h1 := key cA (h.2 tys.length (cA, ty) (by rw [List.getElem?_append_right (Nat.le_refl _), Nat.sub_self]; rfl)).2
  have h2 := key cB (h.2 k (cB, ty) (by rw [List.getElem?_append_left (List.getElem?_eq_some_iff.mp hk).1]; exact hk)).2
  exact Option.some.inj (h1.symm.trans h2)
theorem zarr_congr {cA : ClassId} {n : Nat} {f f' : Nat → Value} (h : ∀ j, j < n → f j = f' j) : arrV cA n f = arrV cA n f' := by
  have e : (fun j : Fin n => f j.val) = (fun j : Fin n => f' j.val) := funext fun j => h j.val j.isLt
  unfold arrV
  rw [e]
theorem zP_q {D : va_G} {cl : List vw_C} {ws : va_W} {H : Heap} (hP : va_P D cl ws H) (k : Nat) {a : Nat} {cA : ClassId} {n : Nat} {f : Nat → Option Nat} (f' : Nat → Option Nat) (hk : ws[k]? = some (a, .inl (cA, n, .inr (.inr (.inr (.inr f)))))) (h : ∀ j, j < n → f j = f' j) : va_P D cl (ws.set k (a, .inl (cA, n, .inr (.inr (.inr (.inr f')))))) H := by
  intro i q hq
  by_cases e : i = k
  · subst e
    rw [List.getElem?_set_self (List.getElem?_eq_some_iff.mp hk).1] at hq
    cases hq
    have h1 := hP i _ hk
    show H[a]? = some (vp_cell cA (n, .inr (.inr (.inr (.inr f')))))
    rw [vp_cell_q, ← zarr_congr (f := fun j => va_rf (f j)) (fun j hj => by show va_rf (f j) = va_rf (f' j); rw [h j hj]), ← vp_cell_q]
    exact h1
  · rw [List.getElem?_set_ne (Ne.symm e)] at hq
    exact hP i q hq
def zsb (g : zG) (u : Nat → Nat) (i : Nat) (f : Nat → Int32) (h : Nat → Int64) : va_E :=
  if i = 0 then .inr (4, [.ref (u 1), .ref (u 3), .ref (u 10), .ref (u 13)])
  else if i = 1 then .inr (2, [.ref (u 2)])
  else if i = 2 then zi g 128 f
  else if i = 3 then zq g 3 3 (fun k => some (u (4 + k)))
  else if i < 7 then .inr (0, [.ref (u (i + 3))])
  else if i < 10 then zi g 24 f
  else if i = 10 then .inr (3, [.ref (u 11), .ref (u 12)])
  else if i = 11 then zi g 40 f
  else if i = 12 then zl g 5 h
  else if i = 13 then .inr (1, [.ref (u 14), .ref (u 15), .int (f 0), .int (f 1)])
  else zi g 8 f
theorem zs_b (g : zG) (j i : Nat) (f : Nat → Int32) (h : Nat → Int64) : zs g j i f h = zsb g (fun i => zad g (zp j i)) i f h := rfl
def zblk (g : zG) (u : Nat → Nat) : va_W := (List.range 16).map (fun i => (u i, zsb g u i (fun _ => 0) (fun _ => 0)))
def znk (U : State) : Prop := va_Nw (.methodLinkNest RX4 11 yX2_init "Countcote") U ∧ va_Nw (.methodLinkNest RX4 26 yX3_init "Countcote") U ∧ va_Nw (.methodLinkNest RX4 33 yX1_init "Countcote") U ∧ va_Nw (.methodLinkNest RX4 38 yX0_init "Countcote") U ∧ va_AO RX0 U ∧ va_AO RX4 U
theorem znk.warm {s U : State} (hW : s.WarmedH U.vm) (h : znk s) : znk U := ⟨va_Nw.warmM hW h.1, va_Nw.warmM hW h.2.1, va_Nw.warmM hW h.2.2.1, va_Nw.warmM hW h.2.2.2.1, va_AO.moved hW.alike h.2.2.2.2.1, va_AO.moved hW.alike h.2.2.2.2.2⟩
theorem znk.blind {U : State} {fr : JFrame} {mk : MethodId} {a : Array Value} (h : znk U) : znk (U.calling fr mk a) := by
  obtain ⟨h1, h2, h3, h4, h5, h6⟩ := h
  exact ⟨va_tabs rfl (rfl : U.vm = (U.calling fr mk a).vm) h1, va_tabs rfl (rfl : U.vm = (U.calling fr mk a).vm) h2, va_tabs rfl (rfl : U.vm = (U.calling fr mk a).vm) h3, va_tabs rfl (rfl : U.vm = (U.calling fr mk a).vm) h4, va_AO.moved (u := U) (U := U.calling fr mk a) (Vm.Alike.refl U.vm) h5, va_AO.moved (u := U) (U := U.calling fr mk a) (Vm.Alike.refl U.vm) h6⟩
set_option maxHeartbeats 4000000 in
set_option maxRecDepth 100000 in
/-- X0_init -/
theorem c_X0_init (l : Launch) {g : zG} (hg0 : g = g) (h0 sz : Nat) : Met l yX0_init wsX0_init ({ frames := 1, cells := 1, slots := 24, locals := 12 }) (va_Pc [.ref h0] (fun U => U.heap.size = sz ∧ va_P g.1 vwCl [(h0, .inr (0, [.null]))] U.heap ∧ va_K g.1 vwCl (zty g) U ∧ va_D (fun _ => True) [(h0, .inr (0, [.null]))])) (va_Qv (fun u : Nat => True) (fun u t => va_P g.1 vwCl [(h0, .inr (0, [.ref u])), (u, zi g 24 (fun _ => 0))] t.heap ∧ va_D (va_A [(h0, .inr (0, [.null]))] sz) [(h0, .inr (0, [.ref u])), (u, zi g 24 (fun _ => 0))]) (va_A [(h0, .inr (0, [.null]))] sz)) 1 24 (va_A [(h0, .inr (0, [.null]))] sz) := by
  refine Met.ofW (cc := cX0_init) (maxL := 1) (ret := none) (by decide) rfl ?_
  intro p e s m args below meth c s₁ B hml hv
  obtain ⟨rfl, hsz, hP, hK, hD0⟩ := hv
  have hx := B.exec
  have hb := B.bytes
  have hr := B.returns
  have hts := atoms_spec (ws := wsX0_init) B.pre
  have hown : s.vm.findClass RX0 = some m.cls := findClass_of_methodNamed B.named
  have hlocks := B.notSynchronized
  have hin : meth.name = "<init>" := (name_of_methodNamed B.named B.method).1
  subst hsz
  have hD := hD0.self (sz := s.heap.size)
  generalize hAe : va_A [(h0, .inr (0, [.null]))] s.heap.size = A at hD ⊢
  have hA : ∀ q : Nat, s.heap.size ≤ q → A q := fun q h => by rw [← hAe]; exact Or.inr h
  have hS : va_S A s.heap s.heap [] := va_S.rf
  have hP : va_P g.1 vwCl [(h0, .inr (0, [.null]))] s.heap := hP
  have hl := lv_entry ([.ref h0]) (n := 1) (Nat.le_of_ble_eq_true rfl)
  rw [lg_entry_eq]
  generalize (lg_sl ([.ref h0]) ++ List.replicate (1 - (lg_sl ([.ref h0])).length) Slot.unset).toArray = ls at hl ⊢
  have hl : lv_has ls 1 [(0, .ref h0)] := hl
  refine lv_aload_n hx hb dX0_init_0 rfl (lv_at hl 0 rfl) ?_
  refine W.objInit hx hb hown (hts (.methodLink RX0 1 objectInit) (by decide +kernel)) (hts (.instanceMethod objectInit) (by decide +kernel)) (hts _ (List.mem_of_getElem? (i := 3) rfl)) rfl (by rw [hml]; exact hl.1) rfl dX0_init_1 (Nat.le_of_ble_eq_true rfl) (Nat.le_of_ble_eq_true rfl) ?_
  refine W.eq (g2 := F0 m 4 ls []) rfl ?_
  refine lv_aload_n hx hb dX0_init_4 rfl (lv_at hl 0 rfl) ?_
  refine lv_bipush (v := nI 24) hx hb dX0_init_5 (by decide) ?_
  refine va_newa (atype := .int) (ty := .int) (N' := 24) (a0 := (24, .inl (fun _ => 0))) hx hb (hts (.arrayClass .int) (by decide +kernel)) rfl hK hP hD hS hA (fun cA => rfl) (by decide) rfl (Nat.le_of_ble_eq_true rfl) (Nat.le_of_ble_eq_true rfl) (Nat.le_of_ble_eq_true rfl) dX0_init_7 (fun q1 cA H hK1 hP hD hS => ?_)
  obtain rfl : cA = g.2.1 0 := zcls hK1 0 rfl
  have hP : va_P g.1 vwCl [(h0, .inr (0, [.null])), (q1, zi g 24 (fun _ => 0))] H := hP
  have hD : va_D A [(h0, .inr (0, [.null])), (q1, zi g 24 (fun _ => 0))] := hD
  refine W.widen (k := 1) (n := 24) (Nat.le_of_ble_eq_true rfl) (Nat.le_of_ble_eq_true rfl) ?_
  refine va_putF (ci := 0) (v := .ref q1) (ty := tyX0 0) (C := RX0) (T := TX0) (N := 1) hx hb hts (by decide +kernel) tyX0 tyX0_ok nmX0 hown hK hP hD hS 0 rfl rfl 0 (by decide) (hts (.fieldLink RX0 9 "Countcote$CarefulSketch" "cells" "[I") (by decide +kernel)) (fun _ h9 => h9) rfl hin rfl (by decide +kernel) rfl rfl (Nat.le_of_ble_eq_true rfl) dX0_init_9 (fun H locs hP hD hS => ?_)
  have hP : va_P g.1 vwCl [(h0, .inr (0, [.ref q1])), (q1, zi g 24 (fun _ => 0))] H := hP
  have hD : va_D A [(h0, .inr (0, [.ref q1])), (q1, zi g 24 (fun _ => 0))] := hD
  have hP9 : va_P g.1 vwCl [(h0, .inr (0, [.ref q1])), (q1, zi g 24 (fun _ => 0))] H := hP
  have hD9 : va_D A [(h0, .inr (0, [.ref q1])), (q1, zi g 24 (fun _ => 0))] := hD
  exact W.vret hx hb hr (fun t ht hW => ⟨⟨q1, rfl, trivial, by rw [ht]; exact hP9, hD9⟩, hS.F ht⟩) hS.2.2 dX0_init_12 hlocks
set_option maxHeartbeats 4000000 in
set_option maxRecDepth 100000 in
/-- X1_init -/
theorem c_X1_init (l : Launch) {g : zG} (hg0 : g = g) (h0 sz : Nat) : Met l yX1_init wsX1_init ({ frames := 1, cells := 2, slots := 16, locals := 12 }) (va_Pc [.ref h0] (fun U => U.heap.size = sz ∧ va_P g.1 vwCl [(h0, .inr (1, [.null, .null, .int 0, .int 0]))] U.heap ∧ va_K g.1 vwCl (zty g) U ∧ va_D (fun _ => True) [(h0, .inr (1, [.null, .null, .int 0, .int 0]))])) (va_Qv (fun u : Nat × Nat => True) (fun u t => va_P g.1 vwCl [(h0, .inr (1, [.ref u.1, .ref u.2, .int 0, .int 0])), (u.1, zi g 8 (fun _ => 0)), (u.2, zi g 8 (fun _ => 0))] t.heap ∧ va_D (va_A [(h0, .inr (1, [.null, .null, .int 0, .int 0]))] sz) [(h0, .inr (1, [.ref u.1, .ref u.2, .int 0, .int 0])), (u.1, zi g 8 (fun _ => 0)), (u.2, zi g 8 (fun _ => 0))]) (va_A [(h0, .inr (1, [.null, .null, .int 0, .int 0]))] sz)) 2 16 (va_A [(h0, .inr (1, [.null, .null, .int 0, .int 0]))] sz) := by
  refine Met.ofW (cc := cX1_init) (maxL := 1) (ret := none) (by decide) rfl ?_
  intro p e s m args below meth c s₁ B hml hv
  obtain ⟨rfl, hsz, hP, hK, hD0⟩ := hv
  have hx := B.exec
  have hb := B.bytes
  have hr := B.returns
  have hts := atoms_spec (ws := wsX1_init) B.pre
  have hown : s.vm.findClass RX1 = some m.cls := findClass_of_methodNamed B.named
  have hlocks := B.notSynchronized
  have hin : meth.name = "<init>" := (name_of_methodNamed B.named B.method).1
  subst hsz
  have hD := hD0.self (sz := s.heap.size)
  generalize hAe : va_A [(h0, .inr (1, [.null, .null, .int 0, .int 0]))] s.heap.size = A at hD ⊢
  have hA : ∀ q : Nat, s.heap.size ≤ q → A q := fun q h => by rw [← hAe]; exact Or.inr h
  have hS : va_S A s.heap s.heap [] := va_S.rf
  have hP : va_P g.1 vwCl [(h0, .inr (1, [.null, .null, .int 0, .int 0]))] s.heap := hP
  have hl := lv_entry ([.ref h0]) (n := 1) (Nat.le_of_ble_eq_true rfl)
  rw [lg_entry_eq]
  generalize (lg_sl ([.ref h0]) ++ List.replicate (1 - (lg_sl ([.ref h0])).length) Slot.unset).toArray = ls at hl ⊢
  have hl : lv_has ls 1 [(0, .ref h0)] := hl
  refine lv_aload_n hx hb dX1_init_0 rfl (lv_at hl 0 rfl) ?_
  refine W.objInit hx hb hown (hts (.methodLink RX1 3 objectInit) (by decide +kernel)) (hts (.instanceMethod objectInit) (by decide +kernel)) (hts _ (List.mem_of_getElem? (i := 3) rfl)) rfl (by rw [hml]; exact hl.1) rfl dX1_init_1 (Nat.le_of_ble_eq_true rfl) (Nat.le_of_ble_eq_true rfl) ?_
  refine W.eq (g2 := F0 m 4 ls []) rfl ?_
  refine lv_aload_n hx hb dX1_init_4 rfl (lv_at hl 0 rfl) ?_
  refine lv_bipush (v := nI 8) hx hb dX1_init_5 (by decide) ?_
  refine va_newa (atype := .int) (ty := .int) (N' := 8) (a0 := (8, .inl (fun _ => 0))) hx hb (hts (.arrayClass .int) (by decide +kernel)) rfl hK hP hD hS hA (fun cA => rfl) (by decide) rfl (Nat.le_of_ble_eq_true rfl) (Nat.le_of_ble_eq_true rfl) (Nat.le_of_ble_eq_true rfl) dX1_init_7 (fun q1 cA H hK1 hP hD hS => ?_)
  obtain rfl : cA = g.2.1 0 := zcls hK1 0 rfl
  have hP : va_P g.1 vwCl [(h0, .inr (1, [.null, .null, .int 0, .int 0])), (q1, zi g 8 (fun _ => 0))] H := hP
  have hD : va_D A [(h0, .inr (1, [.null, .null, .int 0, .int 0])), (q1, zi g 8 (fun _ => 0))] := hD
  refine W.widen (k := 1) (n := 8) (Nat.le_of_ble_eq_true rfl) (Nat.le_of_ble_eq_true rfl) ?_
  refine va_putF (ci := 1) (v := .ref q1) (ty := tyX1 0) (C := RX1) (T := TX1) (N := 4) hx hb hts (by decide +kernel) tyX1 tyX1_ok nmX1 hown hK hP hD hS 0 rfl rfl 0 (by decide) (hts (.fieldLink RX1 11 "Countcote$FewCounters" "items" "[I") (by decide +kernel)) (fun _ h9 => h9) rfl hin rfl (by decide +kernel) rfl rfl (Nat.le_of_ble_eq_true rfl) dX1_init_9 (fun H locs hP hD hS => ?_)
  have hP : va_P g.1 vwCl [(h0, .inr (1, [.ref q1, .null, .int 0, .int 0])), (q1, zi g 8 (fun _ => 0))] H := hP
  have hD : va_D A [(h0, .inr (1, [.ref q1, .null, .int 0, .int 0])), (q1, zi g 8 (fun _ => 0))] := hD
  refine lv_aload_n hx hb dX1_init_12 rfl (lv_at hl 0 rfl) ?_
  refine lv_bipush (v := nI 8) hx hb dX1_init_13 (by decide) ?_
  refine va_newa (atype := .int) (ty := .int) (N' := 8) (a0 := (8, .inl (fun _ => 0))) hx hb (hts (.arrayClass .int) (by decide +kernel)) rfl hK hP hD hS hA (fun cA => rfl) (by decide) rfl (Nat.le_of_ble_eq_true rfl) (Nat.le_of_ble_eq_true rfl) (Nat.le_of_ble_eq_true rfl) dX1_init_15 (fun q2 cA H hK1 hP hD hS => ?_)
  obtain rfl : cA = g.2.1 0 := zcls hK1 0 rfl
  have hP : va_P g.1 vwCl [(h0, .inr (1, [.ref q1, .null, .int 0, .int 0])), (q1, zi g 8 (fun _ => 0)), (q2, zi g 8 (fun _ => 0))] H := hP
  have hD : va_D A [(h0, .inr (1, [.ref q1, .null, .int 0, .int 0])), (q1, zi g 8 (fun _ => 0)), (q2, zi g 8 (fun _ => 0))] := hD
  refine W.widen (k := 2) (n := 16) (Nat.le_of_ble_eq_true rfl) (Nat.le_of_ble_eq_true rfl) ?_
  refine va_putF (ci := 1) (v := .ref q2) (ty := tyX1 1) (C := RX1) (T := TX1) (N := 4) hx hb hts (by decide +kernel) tyX1 tyX1_ok nmX1 hown hK hP hD hS 0 rfl rfl 1 (by decide) (hts (.fieldLink RX1 15 "Countcote$FewCounters" "weights" "[I") (by decide +kernel)) (fun _ h9 => h9) rfl hin rfl (by decide +kernel) rfl rfl (Nat.le_of_ble_eq_true rfl) dX1_init_17 (fun H locs hP hD hS => ?_)
  have hP : va_P g.1 vwCl [(h0, .inr (1, [.ref q1, .ref q2, .int 0, .int 0])), (q1, zi g 8 (fun _ => 0)), (q2, zi g 8 (fun _ => 0))] H := hP
  have hD : va_D A [(h0, .inr (1, [.ref q1, .ref q2, .int 0, .int 0])), (q1, zi g 8 (fun _ => 0)), (q2, zi g 8 (fun _ => 0))] := hD
  have hP9 : va_P g.1 vwCl [(h0, .inr (1, [.ref q1, .ref q2, .int 0, .int 0])), (q1, zi g 8 (fun _ => 0)), (q2, zi g 8 (fun _ => 0))] H := hP
  have hD9 : va_D A [(h0, .inr (1, [.ref q1, .ref q2, .int 0, .int 0])), (q1, zi g 8 (fun _ => 0)), (q2, zi g 8 (fun _ => 0))] := hD
  exact W.vret hx hb hr (fun t ht hW => ⟨⟨(q1, q2), rfl, trivial, by rw [ht]; exact hP9, hD9⟩, hS.F ht⟩) hS.2.2 dX1_init_20 hlocks
set_option maxHeartbeats 4000000 in
set_option maxRecDepth 100000 in
/-- X2_init -/
theorem c_X2_init (l : Launch) {g : zG} (hg0 : g = g) (h0 sz : Nat) : Met l yX2_init wsX2_init ({ frames := 1, cells := 1, slots := 128, locals := 12 }) (va_Pc [.ref h0] (fun U => U.heap.size = sz ∧ va_P g.1 vwCl [(h0, .inr (2, [.null]))] U.heap ∧ va_K g.1 vwCl (zty g) U ∧ va_D (fun _ => True) [(h0, .inr (2, [.null]))])) (va_Qv (fun u : Nat => True) (fun u t => va_P g.1 vwCl [(h0, .inr (2, [.ref u])), (u, zi g 128 (fun _ => 0))] t.heap ∧ va_D (va_A [(h0, .inr (2, [.null]))] sz) [(h0, .inr (2, [.ref u])), (u, zi g 128 (fun _ => 0))]) (va_A [(h0, .inr (2, [.null]))] sz)) 1 128 (va_A [(h0, .inr (2, [.null]))] sz) := by
  refine Met.ofW (cc := cX2_init) (maxL := 1) (ret := none) (by decide) rfl ?_
  intro p e s m args below meth c s₁ B hml hv
  obtain ⟨rfl, hsz, hP, hK, hD0⟩ := hv
  have hx := B.exec
  have hb := B.bytes
  have hr := B.returns
  have hts := atoms_spec (ws := wsX2_init) B.pre
  have hown : s.vm.findClass RX2 = some m.cls := findClass_of_methodNamed B.named
  have hlocks := B.notSynchronized
  have hin : meth.name = "<init>" := (name_of_methodNamed B.named B.method).1
  subst hsz
  have hD := hD0.self (sz := s.heap.size)
  generalize hAe : va_A [(h0, .inr (2, [.null]))] s.heap.size = A at hD ⊢
  have hA : ∀ q : Nat, s.heap.size ≤ q → A q := fun q h => by rw [← hAe]; exact Or.inr h
  have hS : va_S A s.heap s.heap [] := va_S.rf
  have hP : va_P g.1 vwCl [(h0, .inr (2, [.null]))] s.heap := hP
  have hl := lv_entry ([.ref h0]) (n := 1) (Nat.le_of_ble_eq_true rfl)
  rw [lg_entry_eq]
  generalize (lg_sl ([.ref h0]) ++ List.replicate (1 - (lg_sl ([.ref h0])).length) Slot.unset).toArray = ls at hl ⊢
  have hl : lv_has ls 1 [(0, .ref h0)] := hl
  refine lv_aload_n hx hb dX2_init_0 rfl (lv_at hl 0 rfl) ?_
  refine W.objInit hx hb hown (hts (.methodLink RX2 3 objectInit) (by decide +kernel)) (hts (.instanceMethod objectInit) (by decide +kernel)) (hts _ (List.mem_of_getElem? (i := 3) rfl)) rfl (by rw [hml]; exact hl.1) rfl dX2_init_1 (Nat.le_of_ble_eq_true rfl) (Nat.le_of_ble_eq_true rfl) ?_
  refine W.eq (g2 := F0 m 4 ls []) rfl ?_
  refine lv_aload_n hx hb dX2_init_4 rfl (lv_at hl 0 rfl) ?_
  refine lv_sipush (v := nI 128) hx hb dX2_init_5 (by decide) ?_
  refine va_newa (atype := .int) (ty := .int) (N' := 128) (a0 := (128, .inl (fun _ => 0))) hx hb (hts (.arrayClass .int) (by decide +kernel)) rfl hK hP hD hS hA (fun cA => rfl) (by decide) rfl (Nat.le_of_ble_eq_true rfl) (Nat.le_of_ble_eq_true rfl) (Nat.le_of_ble_eq_true rfl) dX2_init_8 (fun q1 cA H hK1 hP hD hS => ?_)
  obtain rfl : cA = g.2.1 0 := zcls hK1 0 rfl
  have hP : va_P g.1 vwCl [(h0, .inr (2, [.null])), (q1, zi g 128 (fun _ => 0))] H := hP
  have hD : va_D A [(h0, .inr (2, [.null])), (q1, zi g 128 (fun _ => 0))] := hD
  refine W.widen (k := 1) (n := 128) (Nat.le_of_ble_eq_true rfl) (Nat.le_of_ble_eq_true rfl) ?_
  refine va_putF (ci := 2) (v := .ref q1) (ty := tyX2 0) (C := RX2) (T := TX2) (N := 1) hx hb hts (by decide +kernel) tyX2 tyX2_ok nmX2 hown hK hP hD hS 0 rfl rfl 0 (by decide) (hts (.fieldLink RX2 9 "Countcote$PlainCounts" "sums" "[I") (by decide +kernel)) (fun _ h9 => h9) rfl hin rfl (by decide +kernel) rfl rfl (Nat.le_of_ble_eq_true rfl) dX2_init_10 (fun H locs hP hD hS => ?_)
  have hP : va_P g.1 vwCl [(h0, .inr (2, [.ref q1])), (q1, zi g 128 (fun _ => 0))] H := hP
  have hD : va_D A [(h0, .inr (2, [.ref q1])), (q1, zi g 128 (fun _ => 0))] := hD
  have hP9 : va_P g.1 vwCl [(h0, .inr (2, [.ref q1])), (q1, zi g 128 (fun _ => 0))] H := hP
  have hD9 : va_D A [(h0, .inr (2, [.ref q1])), (q1, zi g 128 (fun _ => 0))] := hD
  exact W.vret hx hb hr (fun t ht hW => ⟨⟨q1, rfl, trivial, by rw [ht]; exact hP9, hD9⟩, hS.F ht⟩) hS.2.2 dX2_init_13 hlocks
set_option maxHeartbeats 4000000 in
set_option maxRecDepth 100000 in
/-- X3_init -/
theorem c_X3_init (l : Launch) {g : zG} (hg0 : g = g) (h0 sz : Nat) : Met l yX3_init wsX3_init ({ frames := 1, cells := 2, slots := 45, locals := 12 }) (va_Pc [.ref h0] (fun U => U.heap.size = sz ∧ va_P g.1 vwCl [(h0, .inr (3, [.null, .null]))] U.heap ∧ va_K g.1 vwCl (zty g) U ∧ va_D (fun _ => True) [(h0, .inr (3, [.null, .null]))])) (va_Qv (fun u : Nat × Nat => True) (fun u t => va_P g.1 vwCl [(h0, .inr (3, [.ref u.1, .ref u.2])), (u.1, zi g 40 (fun _ => 0)), (u.2, zl g 5 (fun _ => 0))] t.heap ∧ va_D (va_A [(h0, .inr (3, [.null, .null]))] sz) [(h0, .inr (3, [.ref u.1, .ref u.2])), (u.1, zi g 40 (fun _ => 0)), (u.2, zl g 5 (fun _ => 0))]) (va_A [(h0, .inr (3, [.null, .null]))] sz)) 2 45 (va_A [(h0, .inr (3, [.null, .null]))] sz) := by
  refine Met.ofW (cc := cX3_init) (maxL := 1) (ret := none) (by decide) rfl ?_
  intro p e s m args below meth c s₁ B hml hv
  obtain ⟨rfl, hsz, hP, hK, hD0⟩ := hv
  have hx := B.exec
  have hb := B.bytes
  have hr := B.returns
  have hts := atoms_spec (ws := wsX3_init) B.pre
  have hown : s.vm.findClass RX3 = some m.cls := findClass_of_methodNamed B.named
  have hlocks := B.notSynchronized
  have hin : meth.name = "<init>" := (name_of_methodNamed B.named B.method).1
  subst hsz
  have hD := hD0.self (sz := s.heap.size)
  generalize hAe : va_A [(h0, .inr (3, [.null, .null]))] s.heap.size = A at hD ⊢
  have hA : ∀ q : Nat, s.heap.size ≤ q → A q := fun q h => by rw [← hAe]; exact Or.inr h
  have hS : va_S A s.heap s.heap [] := va_S.rf
  have hP : va_P g.1 vwCl [(h0, .inr (3, [.null, .null]))] s.heap := hP
  have hl := lv_entry ([.ref h0]) (n := 1) (Nat.le_of_ble_eq_true rfl)
  rw [lg_entry_eq]
  generalize (lg_sl ([.ref h0]) ++ List.replicate (1 - (lg_sl ([.ref h0])).length) Slot.unset).toArray = ls at hl ⊢
  have hl : lv_has ls 1 [(0, .ref h0)] := hl
  refine lv_aload_n hx hb dX3_init_0 rfl (lv_at hl 0 rfl) ?_
  refine W.objInit hx hb hown (hts (.methodLink RX3 1 objectInit) (by decide +kernel)) (hts (.instanceMethod objectInit) (by decide +kernel)) (hts _ (List.mem_of_getElem? (i := 3) rfl)) rfl (by rw [hml]; exact hl.1) rfl dX3_init_1 (Nat.le_of_ble_eq_true rfl) (Nat.le_of_ble_eq_true rfl) ?_
  refine W.eq (g2 := F0 m 4 ls []) rfl ?_
  refine lv_aload_n hx hb dX3_init_4 rfl (lv_at hl 0 rfl) ?_
  refine lv_bipush (v := nI 40) hx hb dX3_init_5 (by decide) ?_
  refine va_newa (atype := .int) (ty := .int) (N' := 40) (a0 := (40, .inl (fun _ => 0))) hx hb (hts (.arrayClass .int) (by decide +kernel)) rfl hK hP hD hS hA (fun cA => rfl) (by decide) rfl (Nat.le_of_ble_eq_true rfl) (Nat.le_of_ble_eq_true rfl) (Nat.le_of_ble_eq_true rfl) dX3_init_7 (fun q1 cA H hK1 hP hD hS => ?_)
  obtain rfl : cA = g.2.1 0 := zcls hK1 0 rfl
  have hP : va_P g.1 vwCl [(h0, .inr (3, [.null, .null])), (q1, zi g 40 (fun _ => 0))] H := hP
  have hD : va_D A [(h0, .inr (3, [.null, .null])), (q1, zi g 40 (fun _ => 0))] := hD
  refine W.widen (k := 1) (n := 40) (Nat.le_of_ble_eq_true rfl) (Nat.le_of_ble_eq_true rfl) ?_
  refine va_putF (ci := 3) (v := .ref q1) (ty := tyX3 0) (C := RX3) (T := TX3) (N := 2) hx hb hts (by decide +kernel) tyX3 tyX3_ok nmX3 hown hK hP hD hS 0 rfl rfl 0 (by decide) (hts (.fieldLink RX3 9 "Countcote$SignedSketch" "cells" "[I") (by decide +kernel)) (fun _ h9 => h9) rfl hin rfl (by decide +kernel) rfl rfl (Nat.le_of_ble_eq_true rfl) dX3_init_9 (fun H locs hP hD hS => ?_)
  have hP : va_P g.1 vwCl [(h0, .inr (3, [.ref q1, .null])), (q1, zi g 40 (fun _ => 0))] H := hP
  have hD : va_D A [(h0, .inr (3, [.ref q1, .null])), (q1, zi g 40 (fun _ => 0))] := hD
  refine lv_aload_n hx hb dX3_init_12 rfl (lv_at hl 0 rfl) ?_
  refine lv_iconst (v := nI 5) hx hb dX3_init_13 (by decide) ?_
  refine va_newa (atype := .long) (ty := .long) (N' := 5) (a0 := (5, .inr (.inl (fun _ => 0)))) hx hb (hts (.arrayClass .long) (by decide +kernel)) rfl hK hP hD hS hA (fun cA => rfl) (by decide) rfl (Nat.le_of_ble_eq_true rfl) (Nat.le_of_ble_eq_true rfl) (Nat.le_of_ble_eq_true rfl) dX3_init_14 (fun q2 cA H hK1 hP hD hS => ?_)
  obtain rfl : cA = g.2.1 1 := zcls hK1 1 rfl
  have hP : va_P g.1 vwCl [(h0, .inr (3, [.ref q1, .null])), (q1, zi g 40 (fun _ => 0)), (q2, zl g 5 (fun _ => 0))] H := hP
  have hD : va_D A [(h0, .inr (3, [.ref q1, .null])), (q1, zi g 40 (fun _ => 0)), (q2, zl g 5 (fun _ => 0))] := hD
  refine W.widen (k := 2) (n := 45) (Nat.le_of_ble_eq_true rfl) (Nat.le_of_ble_eq_true rfl) ?_
  refine va_putF (ci := 3) (v := .ref q2) (ty := tyX3 1) (C := RX3) (T := TX3) (N := 2) hx hb hts (by decide +kernel) tyX3 tyX3_ok nmX3 hown hK hP hD hS 0 rfl rfl 1 (by decide) (hts (.fieldLink RX3 13 "Countcote$SignedSketch" "numbers" "[J") (by decide +kernel)) (fun _ h9 => h9) rfl hin rfl (by decide +kernel) rfl rfl (Nat.le_of_ble_eq_true rfl) dX3_init_16 (fun H locs hP hD hS => ?_)
  have hP : va_P g.1 vwCl [(h0, .inr (3, [.ref q1, .ref q2])), (q1, zi g 40 (fun _ => 0)), (q2, zl g 5 (fun _ => 0))] H := hP
  have hD : va_D A [(h0, .inr (3, [.ref q1, .ref q2])), (q1, zi g 40 (fun _ => 0)), (q2, zl g 5 (fun _ => 0))] := hD
  have hP9 : va_P g.1 vwCl [(h0, .inr (3, [.ref q1, .ref q2])), (q1, zi g 40 (fun _ => 0)), (q2, zl g 5 (fun _ => 0))] H := hP
  have hD9 : va_D A [(h0, .inr (3, [.ref q1, .ref q2])), (q1, zi g 40 (fun _ => 0)), (q2, zl g 5 (fun _ => 0))] := hD
  exact W.vret hx hb hr (fun t ht hW => ⟨⟨(q1, q2), rfl, trivial, by rw [ht]; exact hP9, hD9⟩, hS.F ht⟩) hS.2.2 dX3_init_19 hlocks
theorem zD_q {A : Nat → Prop} {ws : va_W} (hD : va_D A ws) (k : Nat) {a : Nat} {e e' : va_E} (hk : ws[k]? = some (a, e)) : va_D A (ws.set k (a, e')) := by
  have hlt := (List.getElem?_eq_some_iff.mp hk).1
  have key : ∀ (i : Nat) (q : Nat × va_E), (ws.set k (a, e'))[i]? = some q → ∃ q', ws[i]? = some q' ∧ q'.1 = q.1 := by
    intro i q hq
    by_cases c : i = k
    · subst c
      rw [List.getElem?_set_self hlt] at hq
      cases hq
      exact ⟨_, hk, rfl⟩
    · rw [List.getElem?_set_ne (Ne.symm c)] at hq
      exact ⟨q, hq, rfl⟩
  refine ⟨fun i j p q hi hj hpq => ?_, fun i q hq => ?_⟩
  · obtain ⟨p', h1, h2⟩ := key i p hi
    obtain ⟨q', h3, h4⟩ := key j q hj
    exact hD.1 i j p' q' h1 h3 (by rw [h2, h4, hpq])
  · obtain ⟨q', h3, h4⟩ := key i q hq
    rw [← h4]
    exact hD.2 i q' h3
set_option maxHeartbeats 4000000 in
set_option maxRecDepth 100000 in
/-- X4_init -/
theorem c_X4_init (l : Launch) {g : zG} (hg0 : g = g) (h0 sz : Nat) : Met l yX4_init wsX4_init ({ frames := 2, cells := 15, slots := 274, locals := 32 }) (va_Pc [.ref h0] (fun U => U.heap.size = sz ∧ va_P g.1 vwCl [(h0, .inr (4, [.null, .null, .null, .null]))] U.heap ∧ va_K g.1 vwCl (zty g) U ∧ va_D (fun _ => True) [(h0, .inr (4, [.null, .null, .null, .null]))] ∧ znk U)) (va_Qv (fun u : Nat → Nat => u 0 = h0) (fun u t => va_P g.1 vwCl (zblk g u) t.heap ∧ va_D (va_A [(h0, .inr (4, [.null, .null, .null, .null]))] sz) (zblk g u)) (va_A [(h0, .inr (4, [.null, .null, .null, .null]))] sz)) 15 274 (va_A [(h0, .inr (4, [.null, .null, .null, .null]))] sz) := by
  refine Met.ofW (cc := cX4_init) (maxL := 2) (ret := none) (by decide) rfl ?_
  intro p e s m args below meth c s₁ B hml hv
  obtain ⟨rfl, hsz, hP, hK, hD0, hn⟩ := hv
  have hx := B.exec
  have hb := B.bytes
  have hr := B.returns
  have hts := atoms_spec (ws := wsX4_init) B.pre
  have hown : s.vm.findClass RX4 = some m.cls := findClass_of_methodNamed B.named
  have hlocks := B.notSynchronized
  have hin : meth.name = "<init>" := (name_of_methodNamed B.named B.method).1
  subst hsz
  have hD := hD0.self (sz := s.heap.size)
  generalize hAe : va_A [(h0, .inr (4, [.null, .null, .null, .null]))] s.heap.size = A at hD ⊢
  have hA : ∀ q : Nat, s.heap.size ≤ q → A q := fun q h => by rw [← hAe]; exact Or.inr h
  have hS : va_S A s.heap s.heap [] := va_S.rf
  have hP : va_P g.1 vwCl [(h0, .inr (4, [.null, .null, .null, .null]))] s.heap := hP
  have hl := lv_entry ([.ref h0]) (n := 2) (Nat.le_of_ble_eq_true rfl)
  rw [lg_entry_eq]
  generalize (lg_sl ([.ref h0]) ++ List.replicate (2 - (lg_sl ([.ref h0])).length) Slot.unset).toArray = ls at hl ⊢
  have hl : lv_has ls 2 [(0, .ref h0)] := hl
  refine lv_aload_n hx hb dX4_init_0 rfl (lv_at hl 0 rfl) ?_
  refine W.objInit hx hb hown (hts (.methodLink RX4 3 objectInit) (by decide +kernel)) (hts (.instanceMethod objectInit) (by decide +kernel)) (hts _ (List.mem_of_getElem? (i := 3) rfl)) rfl (by rw [hml]; exact hl.1) rfl dX4_init_1 (Nat.le_of_ble_eq_true rfl) (Nat.le_of_ble_eq_true rfl) ?_
  refine W.eq (g2 := F0 m 4 ls []) rfl ?_
  refine lv_aload_n hx hb dX4_init_4 rfl (lv_at hl 0 rfl) ?_
  refine va_new (ci := 2) (fs := [.null]) (C := RX2) (T := TX2) (N := 1) hx hb hts (by decide +kernel) tyX2 tyX2_ok hown (hts (.classLink RX4 9 RX2) (by decide +kernel)) (hts (.instantiable RX2 1) (by decide +kernel)) (hts (.initialized RX2) (by decide +kernel)) hK hP hD hS hA rfl (fun j hj => by rcases (show j = 0 by omega) with rfl <;> rfl) (Nat.le_of_ble_eq_true rfl) (Nat.le_of_ble_eq_true rfl) dX4_init_5 (fun q1 H hP hD hS => ?_)
  have hP : va_P g.1 vwCl [(h0, .inr (4, [.null, .null, .null, .null])), (q1, .inr (2, [.null]))] H := hP
  have hD : va_D A [(h0, .inr (4, [.null, .null, .null, .null])), (q1, .inr (2, [.null]))] := hD
  refine W.widen (k := 1) (n := 1) (Nat.le_of_ble_eq_true rfl) (Nat.le_of_ble_eq_true rfl) ?_
  refine lv_dup hx hb dX4_init_8 rfl ?_
  have hPc := hP.sub (ws' := [(q1, .inr (2, [.null]))]) [1] rfl
  have hDc := hD.sub (ws' := [(q1, .inr (2, [.null]))]) [1] (by decide) rfl
  have hFc := va_free (wc := [(q1, .inr (2, [.null]))]) hD hS hA [1] rfl
  refine va_callv (va_runIN (As := []) (rest := [.ref q1, .ref h0]) ⟨hx, hb, hml, hown, hts⟩ (c_X2_init l hg0 q1 H.size) ⟨va_cnB 0 hts gX4_init_X2_init_n11 rfl rfl rfl hn.1 (hts (.initialized RX2) (by decide +kernel)) (by decide +kernel) ⟨Nat.le_of_ble_eq_true rfl, Nat.le_of_ble_eq_true rfl⟩, rfl, (hts (.instanceMethod yX2_init) (by decide +kernel))⟩ ⟨fun a U gg mk q => by obtain ⟨q0, q1, qP, qK, qD⟩ := q; exact ⟨q0, q1, qP, va_K.moved (u := U) (U := U.calling gg mk a) (Vm.Alike.refl U.vm) qK, qD⟩, fun U hU hW => ⟨rfl, by rw [hU], by rw [hU]; exact hPc, va_K.moved hW.alike hK, hDc.weaken (fun _ _ _ _ => trivial)⟩⟩ rfl rfl hl.1 rfl (lv_room (Nat.le_of_ble_eq_true rfl)) dX4_init_9 ⟨Nat.le_of_ble_eq_true rfl, Nat.le_of_ble_eq_true rfl⟩) hS (fun q _ h => hFc q h) hFc (fun u t H1 locs ht hvm hw hB hz1 hk1 hS => ?_)
  obtain ⟨hP1, hD1⟩ := hB
  rw [ht] at hP1
  obtain ⟨q2, rfl⟩ : ∃ z, z = u := ⟨_, rfl⟩
  obtain ⟨hP, hD⟩ := va_join (wr := [(h0, .inr (4, [.null, .null, .null, .null]))]) (w1 := [(q1, .inr (2, [.ref q2])), (q2, zi g 128 (fun _ => 0))]) hP hD [1] [0] rfl rfl (by decide) (by decide) hk1 hFc hP1 hD1
  generalize H1 = H at hP hS ⊢
  have hP : va_P g.1 vwCl [(h0, .inr (4, [.null, .null, .null, .null])), (q1, .inr (2, [.ref q2])), (q2, zi g 128 (fun _ => 0))] H := hP
  have hD : va_D A [(h0, .inr (4, [.null, .null, .null, .null])), (q1, .inr (2, [.ref q2])), (q2, zi g 128 (fun _ => 0))] := hD
  refine W.widen (k := 2) (n := 129) (Nat.le_of_ble_eq_true rfl) (Nat.le_of_ble_eq_true rfl) ?_
  refine va_putF (ci := 4) (v := .ref q1) (ty := tyX4 0) (C := RX4) (T := TX4) (N := 4) hx hb hts (by decide +kernel) tyX4 tyX4_ok nmX4 hown hK hP hD hS 0 rfl rfl 0 (by decide) (hts (.fieldLink RX4 12 "Countcote$Stream" "plain" "LCountcote$PlainCounts;") (by decide +kernel)) (fun _ h9 => h9) rfl hin rfl (by decide +kernel) rfl rfl (Nat.le_of_ble_eq_true rfl) dX4_init_12 (fun H locs hP hD hS => ?_)
  have hP : va_P g.1 vwCl [(h0, .inr (4, [.ref q1, .null, .null, .null])), (q1, .inr (2, [.ref q2])), (q2, zi g 128 (fun _ => 0))] H := hP
  have hD : va_D A [(h0, .inr (4, [.ref q1, .null, .null, .null])), (q1, .inr (2, [.ref q2])), (q2, zi g 128 (fun _ => 0))] := hD
  refine lv_aload_n hx hb dX4_init_15 rfl (lv_at hl 0 rfl) ?_
  refine lv_iconst (v := nI 3) hx hb dX4_init_16 (by decide) ?_
  refine va_newq (N' := 3) hx hb hown (hts (.classLink RX4 18 RX0) (by decide +kernel)) hn.2.2.2.2.1 hK hP hD hS hA (by decide) rfl (Nat.le_of_ble_eq_true rfl) (Nat.le_of_ble_eq_true rfl) (Nat.le_of_ble_eq_true rfl) dX4_init_17 (fun q3 cA H hK1 hP hD hS => ?_)
  obtain rfl : cA = g.2.1 3 := zcls hK1 3 rfl
  have hP : va_P g.1 vwCl [(h0, .inr (4, [.ref q1, .null, .null, .null])), (q1, .inr (2, [.ref q2])), (q2, zi g 128 (fun _ => 0)), (q3, zq g 3 3 (fun _ => none))] H := hP
  have hD : va_D A [(h0, .inr (4, [.ref q1, .null, .null, .null])), (q1, .inr (2, [.ref q2])), (q2, zi g 128 (fun _ => 0)), (q3, zq g 3 3 (fun _ => none))] := hD
  refine W.widen (k := 3) (n := 132) (Nat.le_of_ble_eq_true rfl) (Nat.le_of_ble_eq_true rfl) ?_
  refine va_putF (ci := 4) (v := .ref q3) (ty := tyX4 1) (C := RX4) (T := TX4) (N := 4) hx hb hts (by decide +kernel) tyX4 tyX4_ok nmX4 hown hK hP hD hS 0 rfl rfl 1 (by decide) (hts (.fieldLink RX4 20 "Countcote$Stream" "careful" "[LCountcote$CarefulSketch;") (by decide +kernel)) (fun _ h9 => h9) rfl hin rfl (by decide +kernel) rfl rfl (Nat.le_of_ble_eq_true rfl) dX4_init_20 (fun H locs hP hD hS => ?_)
  have hP : va_P g.1 vwCl [(h0, .inr (4, [.ref q1, .ref q3, .null, .null])), (q1, .inr (2, [.ref q2])), (q2, zi g 128 (fun _ => 0)), (q3, zq g 3 3 (fun _ => none))] H := hP
  have hD : va_D A [(h0, .inr (4, [.ref q1, .ref q3, .null, .null])), (q1, .inr (2, [.ref q2])), (q2, zi g 128 (fun _ => 0)), (q3, zq g 3 3 (fun _ => none))] := hD
  refine lv_aload_n hx hb dX4_init_23 rfl (lv_at hl 0 rfl) ?_
  refine va_new (ci := 3) (fs := [.null, .null]) (C := RX3) (T := TX3) (N := 2) hx hb hts (by decide +kernel) tyX3 tyX3_ok hown (hts (.classLink RX4 24 RX3) (by decide +kernel)) (hts (.instantiable RX3 2) (by decide +kernel)) (hts (.initialized RX3) (by decide +kernel)) hK hP hD hS hA rfl (fun j hj => by rcases (show j = 0 ∨ j = 1 by omega) with rfl | rfl <;> rfl) (Nat.le_of_ble_eq_true rfl) (Nat.le_of_ble_eq_true rfl) dX4_init_24 (fun q4 H hP hD hS => ?_)
  have hP : va_P g.1 vwCl [(h0, .inr (4, [.ref q1, .ref q3, .null, .null])), (q1, .inr (2, [.ref q2])), (q2, zi g 128 (fun _ => 0)), (q3, zq g 3 3 (fun _ => none)), (q4, .inr (3, [.null, .null]))] H := hP
  have hD : va_D A [(h0, .inr (4, [.ref q1, .ref q3, .null, .null])), (q1, .inr (2, [.ref q2])), (q2, zi g 128 (fun _ => 0)), (q3, zq g 3 3 (fun _ => none)), (q4, .inr (3, [.null, .null]))] := hD
  refine W.widen (k := 4) (n := 134) (Nat.le_of_ble_eq_true rfl) (Nat.le_of_ble_eq_true rfl) ?_
  refine lv_dup hx hb dX4_init_27 rfl ?_
  have hPc := hP.sub (ws' := [(q4, .inr (3, [.null, .null]))]) [4] rfl
  have hDc := hD.sub (ws' := [(q4, .inr (3, [.null, .null]))]) [4] (by decide) rfl
  have hFc := va_free (wc := [(q4, .inr (3, [.null, .null]))]) hD hS hA [4] rfl
  refine va_callv (va_runIN (As := []) (rest := [.ref q4, .ref h0]) ⟨hx, hb, hml, hown, hts⟩ (c_X3_init l hg0 q4 H.size) ⟨va_cnB 0 hts gX4_init_X3_init_n26 rfl rfl rfl hn.2.1 (hts (.initialized RX3) (by decide +kernel)) (by decide +kernel) ⟨Nat.le_of_ble_eq_true rfl, Nat.le_of_ble_eq_true rfl⟩, rfl, (hts (.instanceMethod yX3_init) (by decide +kernel))⟩ ⟨fun a U gg mk q => by obtain ⟨q0, q1, qP, qK, qD⟩ := q; exact ⟨q0, q1, qP, va_K.moved (u := U) (U := U.calling gg mk a) (Vm.Alike.refl U.vm) qK, qD⟩, fun U hU hW => ⟨rfl, by rw [hU], by rw [hU]; exact hPc, va_K.moved hW.alike hK, hDc.weaken (fun _ _ _ _ => trivial)⟩⟩ rfl rfl hl.1 rfl (lv_room (Nat.le_of_ble_eq_true rfl)) dX4_init_28 ⟨Nat.le_of_ble_eq_true rfl, Nat.le_of_ble_eq_true rfl⟩) hS (fun q _ h => hFc q h) hFc (fun u t H1 locs ht hvm hw hB hz1 hk1 hS => ?_)
  obtain ⟨hP1, hD1⟩ := hB
  rw [ht] at hP1
  obtain ⟨q5, q6⟩ := u
  obtain ⟨hP, hD⟩ := va_join (wr := [(h0, .inr (4, [.ref q1, .ref q3, .null, .null])), (q1, .inr (2, [.ref q2])), (q2, zi g 128 (fun _ => 0)), (q3, zq g 3 3 (fun _ => none))]) (w1 := [(q4, .inr (3, [.ref q5, .ref q6])), (q5, zi g 40 (fun _ => 0)), (q6, zl g 5 (fun _ => 0))]) hP hD [4] [0, 1, 2, 3] rfl rfl (by decide) (by decide) hk1 hFc hP1 hD1
  generalize H1 = H at hP hS ⊢
  have hP : va_P g.1 vwCl [(h0, .inr (4, [.ref q1, .ref q3, .null, .null])), (q1, .inr (2, [.ref q2])), (q2, zi g 128 (fun _ => 0)), (q3, zq g 3 3 (fun _ => none)), (q4, .inr (3, [.ref q5, .ref q6])), (q5, zi g 40 (fun _ => 0)), (q6, zl g 5 (fun _ => 0))] H := hP
  have hD : va_D A [(h0, .inr (4, [.ref q1, .ref q3, .null, .null])), (q1, .inr (2, [.ref q2])), (q2, zi g 128 (fun _ => 0)), (q3, zq g 3 3 (fun _ => none)), (q4, .inr (3, [.ref q5, .ref q6])), (q5, zi g 40 (fun _ => 0)), (q6, zl g 5 (fun _ => 0))] := hD
  refine W.widen (k := 6) (n := 179) (Nat.le_of_ble_eq_true rfl) (Nat.le_of_ble_eq_true rfl) ?_
  refine va_putF (ci := 4) (v := .ref q4) (ty := tyX4 2) (C := RX4) (T := TX4) (N := 4) hx hb hts (by decide +kernel) tyX4 tyX4_ok nmX4 hown hK hP hD hS 0 rfl rfl 2 (by decide) (hts (.fieldLink RX4 27 "Countcote$Stream" "signed" "LCountcote$SignedSketch;") (by decide +kernel)) (fun _ h9 => h9) rfl hin rfl (by decide +kernel) rfl rfl (Nat.le_of_ble_eq_true rfl) dX4_init_31 (fun H locs hP hD hS => ?_)
  have hP : va_P g.1 vwCl [(h0, .inr (4, [.ref q1, .ref q3, .ref q4, .null])), (q1, .inr (2, [.ref q2])), (q2, zi g 128 (fun _ => 0)), (q3, zq g 3 3 (fun _ => none)), (q4, .inr (3, [.ref q5, .ref q6])), (q5, zi g 40 (fun _ => 0)), (q6, zl g 5 (fun _ => 0))] H := hP
  have hD : va_D A [(h0, .inr (4, [.ref q1, .ref q3, .ref q4, .null])), (q1, .inr (2, [.ref q2])), (q2, zi g 128 (fun _ => 0)), (q3, zq g 3 3 (fun _ => none)), (q4, .inr (3, [.ref q5, .ref q6])), (q5, zi g 40 (fun _ => 0)), (q6, zl g 5 (fun _ => 0))] := hD
  refine lv_aload_n hx hb dX4_init_34 rfl (lv_at hl 0 rfl) ?_
  refine va_new (ci := 1) (fs := [.null, .null, .int 0, .int 0]) (C := RX1) (T := TX1) (N := 4) hx hb hts (by decide +kernel) tyX1 tyX1_ok hown (hts (.classLink RX4 31 RX1) (by decide +kernel)) (hts (.instantiable RX1 4) (by decide +kernel)) (hts (.initialized RX1) (by decide +kernel)) hK hP hD hS hA rfl (fun j hj => by rcases (show j = 0 ∨ j = 1 ∨ j = 2 ∨ j = 3 by omega) with rfl | rfl | rfl | rfl <;> rfl) (Nat.le_of_ble_eq_true rfl) (Nat.le_of_ble_eq_true rfl) dX4_init_35 (fun q7 H hP hD hS => ?_)
  have hP : va_P g.1 vwCl [(h0, .inr (4, [.ref q1, .ref q3, .ref q4, .null])), (q1, .inr (2, [.ref q2])), (q2, zi g 128 (fun _ => 0)), (q3, zq g 3 3 (fun _ => none)), (q4, .inr (3, [.ref q5, .ref q6])), (q5, zi g 40 (fun _ => 0)), (q6, zl g 5 (fun _ => 0)), (q7, .inr (1, [.null, .null, .int 0, .int 0]))] H := hP
  have hD : va_D A [(h0, .inr (4, [.ref q1, .ref q3, .ref q4, .null])), (q1, .inr (2, [.ref q2])), (q2, zi g 128 (fun _ => 0)), (q3, zq g 3 3 (fun _ => none)), (q4, .inr (3, [.ref q5, .ref q6])), (q5, zi g 40 (fun _ => 0)), (q6, zl g 5 (fun _ => 0)), (q7, .inr (1, [.null, .null, .int 0, .int 0]))] := hD
  refine W.widen (k := 7) (n := 183) (Nat.le_of_ble_eq_true rfl) (Nat.le_of_ble_eq_true rfl) ?_
  refine lv_dup hx hb dX4_init_38 rfl ?_
  have hPc := hP.sub (ws' := [(q7, .inr (1, [.null, .null, .int 0, .int 0]))]) [7] rfl
  have hDc := hD.sub (ws' := [(q7, .inr (1, [.null, .null, .int 0, .int 0]))]) [7] (by decide) rfl
  have hFc := va_free (wc := [(q7, .inr (1, [.null, .null, .int 0, .int 0]))]) hD hS hA [7] rfl
  refine va_callv (va_runIN (As := []) (rest := [.ref q7, .ref h0]) ⟨hx, hb, hml, hown, hts⟩ (c_X1_init l hg0 q7 H.size) ⟨va_cnB 0 hts gX4_init_X1_init_n33 rfl rfl rfl hn.2.2.1 (hts (.initialized RX1) (by decide +kernel)) (by decide +kernel) ⟨Nat.le_of_ble_eq_true rfl, Nat.le_of_ble_eq_true rfl⟩, rfl, (hts (.instanceMethod yX1_init) (by decide +kernel))⟩ ⟨fun a U gg mk q => by obtain ⟨q0, q1, qP, qK, qD⟩ := q; exact ⟨q0, q1, qP, va_K.moved (u := U) (U := U.calling gg mk a) (Vm.Alike.refl U.vm) qK, qD⟩, fun U hU hW => ⟨rfl, by rw [hU], by rw [hU]; exact hPc, va_K.moved hW.alike hK, hDc.weaken (fun _ _ _ _ => trivial)⟩⟩ rfl rfl hl.1 rfl (lv_room (Nat.le_of_ble_eq_true rfl)) dX4_init_39 ⟨Nat.le_of_ble_eq_true rfl, Nat.le_of_ble_eq_true rfl⟩) hS (fun q _ h => hFc q h) hFc (fun u t H1 locs ht hvm hw hB hz1 hk1 hS => ?_)
  obtain ⟨hP1, hD1⟩ := hB
  rw [ht] at hP1
  obtain ⟨q8, q9⟩ := u
  obtain ⟨hP, hD⟩ := va_join (wr := [(h0, .inr (4, [.ref q1, .ref q3, .ref q4, .null])), (q1, .inr (2, [.ref q2])), (q2, zi g 128 (fun _ => 0)), (q3, zq g 3 3 (fun _ => none)), (q4, .inr (3, [.ref q5, .ref q6])), (q5, zi g 40 (fun _ => 0)), (q6, zl g 5 (fun _ => 0))]) (w1 := [(q7, .inr (1, [.ref q8, .ref q9, .int 0, .int 0])), (q8, zi g 8 (fun _ => 0)), (q9, zi g 8 (fun _ => 0))]) hP hD [7] [0, 1, 2, 3, 4, 5, 6] rfl rfl (by decide) (by decide) hk1 hFc hP1 hD1
  generalize H1 = H at hP hS ⊢
  have hP : va_P g.1 vwCl [(h0, .inr (4, [.ref q1, .ref q3, .ref q4, .null])), (q1, .inr (2, [.ref q2])), (q2, zi g 128 (fun _ => 0)), (q3, zq g 3 3 (fun _ => none)), (q4, .inr (3, [.ref q5, .ref q6])), (q5, zi g 40 (fun _ => 0)), (q6, zl g 5 (fun _ => 0)), (q7, .inr (1, [.ref q8, .ref q9, .int 0, .int 0])), (q8, zi g 8 (fun _ => 0)), (q9, zi g 8 (fun _ => 0))] H := hP
  have hD : va_D A [(h0, .inr (4, [.ref q1, .ref q3, .ref q4, .null])), (q1, .inr (2, [.ref q2])), (q2, zi g 128 (fun _ => 0)), (q3, zq g 3 3 (fun _ => none)), (q4, .inr (3, [.ref q5, .ref q6])), (q5, zi g 40 (fun _ => 0)), (q6, zl g 5 (fun _ => 0)), (q7, .inr (1, [.ref q8, .ref q9, .int 0, .int 0])), (q8, zi g 8 (fun _ => 0)), (q9, zi g 8 (fun _ => 0))] := hD
  refine W.widen (k := 9) (n := 199) (Nat.le_of_ble_eq_true rfl) (Nat.le_of_ble_eq_true rfl) ?_
  refine va_putF (ci := 4) (v := .ref q7) (ty := tyX4 3) (C := RX4) (T := TX4) (N := 4) hx hb hts (by decide +kernel) tyX4 tyX4_ok nmX4 hown hK hP hD hS 0 rfl rfl 3 (by decide) (hts (.fieldLink RX4 34 "Countcote$Stream" "few" "LCountcote$FewCounters;") (by decide +kernel)) (fun _ h9 => h9) rfl hin rfl (by decide +kernel) rfl rfl (Nat.le_of_ble_eq_true rfl) dX4_init_42 (fun H locs hP hD hS => ?_)
  have hP : va_P g.1 vwCl [(h0, .inr (4, [.ref q1, .ref q3, .ref q4, .ref q7])), (q1, .inr (2, [.ref q2])), (q2, zi g 128 (fun _ => 0)), (q3, zq g 3 3 (fun _ => none)), (q4, .inr (3, [.ref q5, .ref q6])), (q5, zi g 40 (fun _ => 0)), (q6, zl g 5 (fun _ => 0)), (q7, .inr (1, [.ref q8, .ref q9, .int 0, .int 0])), (q8, zi g 8 (fun _ => 0)), (q9, zi g 8 (fun _ => 0))] H := hP
  have hD : va_D A [(h0, .inr (4, [.ref q1, .ref q3, .ref q4, .ref q7])), (q1, .inr (2, [.ref q2])), (q2, zi g 128 (fun _ => 0)), (q3, zq g 3 3 (fun _ => none)), (q4, .inr (3, [.ref q5, .ref q6])), (q5, zi g 40 (fun _ => 0)), (q6, zl g 5 (fun _ => 0)), (q7, .inr (1, [.ref q8, .ref q9, .int 0, .int 0])), (q8, zi g 8 (fun _ => 0)), (q9, zi g 8 (fun _ => 0))] := hD
  refine lv_iconst (v := nI 0) hx hb dX4_init_45 (by decide) ?_
  refine lv_istore_n (lv' := [(1, .int (nI 0)), (0, .ref h0)]) hx hb dX4_init_46 rfl hl (by decide) rfl (fun ls hl => ?_)
  refine lv_iload_n hx hb dX4_init_47 rfl (lv_at hl 0 rfl) ?_
  refine lv_aload_n hx hb dX4_init_48 rfl (lv_at hl 1 rfl) ?_
  refine va_get (ci := 4) (v := .ref q3) (C := RX4) (T := TX4) (N := 4) hx hb hts (by decide +kernel) hown hK hP 0 rfl rfl 1 (by decide) (hts (.fieldLink RX4 20 "Countcote$Stream" "careful" "[LCountcote$CarefulSketch;") (by decide +kernel)) (fun _ h9 => h9) rfl dX4_init_49 ?_
  refine va_alen (v := nI 3) hx hb hK hP 3 3 rfl rfl rfl dX4_init_52 ?_
  refine lv_icmp_ge hx hb dX4_init_53 (tgt := 75) (by decide) (fun h => absurd h (show ¬ (nI 3) ≤ (nI 0) by decide)) (fun _ => ?_)
  refine lv_aload_n hx hb dX4_init_56 rfl (lv_at hl 1 rfl) ?_
  refine va_get (ci := 4) (v := .ref q3) (C := RX4) (T := TX4) (N := 4) hx hb hts (by decide +kernel) hown hK hP 0 rfl rfl 1 (by decide) (hts (.fieldLink RX4 20 "Countcote$Stream" "careful" "[LCountcote$CarefulSketch;") (by decide +kernel)) (fun _ h9 => h9) rfl dX4_init_57 ?_
  refine lv_iload_n hx hb dX4_init_60 rfl (lv_at hl 0 rfl) ?_
  refine va_new (ci := 0) (fs := [.null]) (C := RX0) (T := TX0) (N := 1) hx hb hts (by decide +kernel) tyX0 tyX0_ok hown (hts (.classLink RX4 18 RX0) (by decide +kernel)) (hts (.instantiable RX0 1) (by decide +kernel)) (hts (.initialized RX0) (by decide +kernel)) hK hP hD hS hA rfl (fun j hj => by rcases (show j = 0 by omega) with rfl <;> rfl) (Nat.le_of_ble_eq_true rfl) (Nat.le_of_ble_eq_true rfl) dX4_init_61 (fun q10 H hP hD hS => ?_)
  have hP : va_P g.1 vwCl [(h0, .inr (4, [.ref q1, .ref q3, .ref q4, .ref q7])), (q1, .inr (2, [.ref q2])), (q2, zi g 128 (fun _ => 0)), (q3, zq g 3 3 (fun _ => none)), (q4, .inr (3, [.ref q5, .ref q6])), (q5, zi g 40 (fun _ => 0)), (q6, zl g 5 (fun _ => 0)), (q7, .inr (1, [.ref q8, .ref q9, .int 0, .int 0])), (q8, zi g 8 (fun _ => 0)), (q9, zi g 8 (fun _ => 0)), (q10, .inr (0, [.null]))] H := hP
  have hD : va_D A [(h0, .inr (4, [.ref q1, .ref q3, .ref q4, .ref q7])), (q1, .inr (2, [.ref q2])), (q2, zi g 128 (fun _ => 0)), (q3, zq g 3 3 (fun _ => none)), (q4, .inr (3, [.ref q5, .ref q6])), (q5, zi g 40 (fun _ => 0)), (q6, zl g 5 (fun _ => 0)), (q7, .inr (1, [.ref q8, .ref q9, .int 0, .int 0])), (q8, zi g 8 (fun _ => 0)), (q9, zi g 8 (fun _ => 0)), (q10, .inr (0, [.null]))] := hD
  refine W.widen (k := 10) (n := 200) (Nat.le_of_ble_eq_true rfl) (Nat.le_of_ble_eq_true rfl) ?_
  refine lv_dup hx hb dX4_init_64 rfl ?_
  have hPc := hP.sub (ws' := [(q10, .inr (0, [.null]))]) [10] rfl
  have hDc := hD.sub (ws' := [(q10, .inr (0, [.null]))]) [10] (by decide) rfl
  have hFc := va_free (wc := [(q10, .inr (0, [.null]))]) hD hS hA [10] rfl
  refine va_callv (va_runIN (As := []) (rest := [.ref q10, .int (nI 0), .ref q3]) ⟨hx, hb, hml, hown, hts⟩ (c_X0_init l hg0 q10 H.size) ⟨va_cnB 0 hts gX4_init_X0_init_n38 rfl rfl rfl hn.2.2.2.1 (hts (.initialized RX0) (by decide +kernel)) (by decide +kernel) ⟨Nat.le_of_ble_eq_true rfl, Nat.le_of_ble_eq_true rfl⟩, rfl, (hts (.instanceMethod yX0_init) (by decide +kernel))⟩ ⟨fun a U gg mk q => by obtain ⟨q0, q1, qP, qK, qD⟩ := q; exact ⟨q0, q1, qP, va_K.moved (u := U) (U := U.calling gg mk a) (Vm.Alike.refl U.vm) qK, qD⟩, fun U hU hW => ⟨rfl, by rw [hU], by rw [hU]; exact hPc, va_K.moved hW.alike hK, hDc.weaken (fun _ _ _ _ => trivial)⟩⟩ rfl rfl hl.1 rfl (lv_room (Nat.le_of_ble_eq_true rfl)) dX4_init_65 ⟨Nat.le_of_ble_eq_true rfl, Nat.le_of_ble_eq_true rfl⟩) hS (fun q _ h => hFc q h) hFc (fun u t H1 locs ht hvm hw hB hz1 hk1 hS => ?_)
  obtain ⟨hP1, hD1⟩ := hB
  rw [ht] at hP1
  obtain ⟨q11, rfl⟩ : ∃ z, z = u := ⟨_, rfl⟩
  obtain ⟨hP, hD⟩ := va_join (wr := [(h0, .inr (4, [.ref q1, .ref q3, .ref q4, .ref q7])), (q1, .inr (2, [.ref q2])), (q2, zi g 128 (fun _ => 0)), (q3, zq g 3 3 (fun _ => none)), (q4, .inr (3, [.ref q5, .ref q6])), (q5, zi g 40 (fun _ => 0)), (q6, zl g 5 (fun _ => 0)), (q7, .inr (1, [.ref q8, .ref q9, .int 0, .int 0])), (q8, zi g 8 (fun _ => 0)), (q9, zi g 8 (fun _ => 0))]) (w1 := [(q10, .inr (0, [.ref q11])), (q11, zi g 24 (fun _ => 0))]) hP hD [10] [0, 1, 2, 3, 4, 5, 6, 7, 8, 9] rfl rfl (by decide) (by decide) hk1 hFc hP1 hD1
  generalize H1 = H at hP hS ⊢
  have hP : va_P g.1 vwCl [(h0, .inr (4, [.ref q1, .ref q3, .ref q4, .ref q7])), (q1, .inr (2, [.ref q2])), (q2, zi g 128 (fun _ => 0)), (q3, zq g 3 3 (fun _ => none)), (q4, .inr (3, [.ref q5, .ref q6])), (q5, zi g 40 (fun _ => 0)), (q6, zl g 5 (fun _ => 0)), (q7, .inr (1, [.ref q8, .ref q9, .int 0, .int 0])), (q8, zi g 8 (fun _ => 0)), (q9, zi g 8 (fun _ => 0)), (q10, .inr (0, [.ref q11])), (q11, zi g 24 (fun _ => 0))] H := hP
  have hD : va_D A [(h0, .inr (4, [.ref q1, .ref q3, .ref q4, .ref q7])), (q1, .inr (2, [.ref q2])), (q2, zi g 128 (fun _ => 0)), (q3, zq g 3 3 (fun _ => none)), (q4, .inr (3, [.ref q5, .ref q6])), (q5, zi g 40 (fun _ => 0)), (q6, zl g 5 (fun _ => 0)), (q7, .inr (1, [.ref q8, .ref q9, .int 0, .int 0])), (q8, zi g 8 (fun _ => 0)), (q9, zi g 8 (fun _ => 0)), (q10, .inr (0, [.ref q11])), (q11, zi g 24 (fun _ => 0))] := hD
  refine W.widen (k := 11) (n := 224) (Nat.le_of_ble_eq_true rfl) (Nat.le_of_ble_eq_true rfl) ?_
  refine va_astq (ci := 0) (r := (RX0, TX0, 1)) hx hb hK hP hD hS 3 3 10 rfl rfl rfl rfl (vp_in_nI (show 0 < 3 by decide) (by decide)) dX4_init_68 (fun H locs hP hD hS => ?_)
  have hP : va_P g.1 vwCl [(h0, .inr (4, [.ref q1, .ref q3, .ref q4, .ref q7])), (q1, .inr (2, [.ref q2])), (q2, zi g 128 (fun _ => 0)), (q3, zq g 3 3 (va_up (fun _ => none) 0 (some q10))), (q4, .inr (3, [.ref q5, .ref q6])), (q5, zi g 40 (fun _ => 0)), (q6, zl g 5 (fun _ => 0)), (q7, .inr (1, [.ref q8, .ref q9, .int 0, .int 0])), (q8, zi g 8 (fun _ => 0)), (q9, zi g 8 (fun _ => 0)), (q10, .inr (0, [.ref q11])), (q11, zi g 24 (fun _ => 0))] H := hP
  have hD : va_D A [(h0, .inr (4, [.ref q1, .ref q3, .ref q4, .ref q7])), (q1, .inr (2, [.ref q2])), (q2, zi g 128 (fun _ => 0)), (q3, zq g 3 3 (va_up (fun _ => none) 0 (some q10))), (q4, .inr (3, [.ref q5, .ref q6])), (q5, zi g 40 (fun _ => 0)), (q6, zl g 5 (fun _ => 0)), (q7, .inr (1, [.ref q8, .ref q9, .int 0, .int 0])), (q8, zi g 8 (fun _ => 0)), (q9, zi g 8 (fun _ => 0)), (q10, .inr (0, [.ref q11])), (q11, zi g 24 (fun _ => 0))] := hD
  refine lv_iinc (x := nI 0) (v := nI 1) (lv' := [(1, .int (nI 1)), (0, .ref h0)]) (k := 0) hx hb dX4_init_69 hl rfl (by decide) (by decide) rfl (fun ls hl => ?_)
  refine lv_goto hx hb dX4_init_72 (tgt := 47) (by decide) ?_
  refine lv_iload_n hx hb dX4_init_47 rfl (lv_at hl 0 rfl) ?_
  refine lv_aload_n hx hb dX4_init_48 rfl (lv_at hl 1 rfl) ?_
  refine va_get (ci := 4) (v := .ref q3) (C := RX4) (T := TX4) (N := 4) hx hb hts (by decide +kernel) hown hK hP 0 rfl rfl 1 (by decide) (hts (.fieldLink RX4 20 "Countcote$Stream" "careful" "[LCountcote$CarefulSketch;") (by decide +kernel)) (fun _ h9 => h9) rfl dX4_init_49 ?_
  refine va_alen (v := nI 3) hx hb hK hP 3 3 rfl rfl rfl dX4_init_52 ?_
  refine lv_icmp_ge hx hb dX4_init_53 (tgt := 75) (by decide) (fun h => absurd h (show ¬ (nI 3) ≤ (nI 1) by decide)) (fun _ => ?_)
  refine lv_aload_n hx hb dX4_init_56 rfl (lv_at hl 1 rfl) ?_
  refine va_get (ci := 4) (v := .ref q3) (C := RX4) (T := TX4) (N := 4) hx hb hts (by decide +kernel) hown hK hP 0 rfl rfl 1 (by decide) (hts (.fieldLink RX4 20 "Countcote$Stream" "careful" "[LCountcote$CarefulSketch;") (by decide +kernel)) (fun _ h9 => h9) rfl dX4_init_57 ?_
  refine lv_iload_n hx hb dX4_init_60 rfl (lv_at hl 0 rfl) ?_
  refine va_new (ci := 0) (fs := [.null]) (C := RX0) (T := TX0) (N := 1) hx hb hts (by decide +kernel) tyX0 tyX0_ok hown (hts (.classLink RX4 18 RX0) (by decide +kernel)) (hts (.instantiable RX0 1) (by decide +kernel)) (hts (.initialized RX0) (by decide +kernel)) hK hP hD hS hA rfl (fun j hj => by rcases (show j = 0 by omega) with rfl <;> rfl) (Nat.le_of_ble_eq_true rfl) (Nat.le_of_ble_eq_true rfl) dX4_init_61 (fun q12 H hP hD hS => ?_)
  have hP : va_P g.1 vwCl [(h0, .inr (4, [.ref q1, .ref q3, .ref q4, .ref q7])), (q1, .inr (2, [.ref q2])), (q2, zi g 128 (fun _ => 0)), (q3, zq g 3 3 (va_up (fun _ => none) 0 (some q10))), (q4, .inr (3, [.ref q5, .ref q6])), (q5, zi g 40 (fun _ => 0)), (q6, zl g 5 (fun _ => 0)), (q7, .inr (1, [.ref q8, .ref q9, .int 0, .int 0])), (q8, zi g 8 (fun _ => 0)), (q9, zi g 8 (fun _ => 0)), (q10, .inr (0, [.ref q11])), (q11, zi g 24 (fun _ => 0)), (q12, .inr (0, [.null]))] H := hP
  have hD : va_D A [(h0, .inr (4, [.ref q1, .ref q3, .ref q4, .ref q7])), (q1, .inr (2, [.ref q2])), (q2, zi g 128 (fun _ => 0)), (q3, zq g 3 3 (va_up (fun _ => none) 0 (some q10))), (q4, .inr (3, [.ref q5, .ref q6])), (q5, zi g 40 (fun _ => 0)), (q6, zl g 5 (fun _ => 0)), (q7, .inr (1, [.ref q8, .ref q9, .int 0, .int 0])), (q8, zi g 8 (fun _ => 0)), (q9, zi g 8 (fun _ => 0)), (q10, .inr (0, [.ref q11])), (q11, zi g 24 (fun _ => 0)), (q12, .inr (0, [.null]))] := hD
  refine W.widen (k := 12) (n := 225) (Nat.le_of_ble_eq_true rfl) (Nat.le_of_ble_eq_true rfl) ?_
  refine lv_dup hx hb dX4_init_64 rfl ?_
  have hPc := hP.sub (ws' := [(q12, .inr (0, [.null]))]) [12] rfl
  have hDc := hD.sub (ws' := [(q12, .inr (0, [.null]))]) [12] (by decide) rfl
  have hFc := va_free (wc := [(q12, .inr (0, [.null]))]) hD hS hA [12] rfl
  refine va_callv (va_runIN (As := []) (rest := [.ref q12, .int (nI 1), .ref q3]) ⟨hx, hb, hml, hown, hts⟩ (c_X0_init l hg0 q12 H.size) ⟨va_cnB 0 hts gX4_init_X0_init_n38 rfl rfl rfl hn.2.2.2.1 (hts (.initialized RX0) (by decide +kernel)) (by decide +kernel) ⟨Nat.le_of_ble_eq_true rfl, Nat.le_of_ble_eq_true rfl⟩, rfl, (hts (.instanceMethod yX0_init) (by decide +kernel))⟩ ⟨fun a U gg mk q => by obtain ⟨q0, q1, qP, qK, qD⟩ := q; exact ⟨q0, q1, qP, va_K.moved (u := U) (U := U.calling gg mk a) (Vm.Alike.refl U.vm) qK, qD⟩, fun U hU hW => ⟨rfl, by rw [hU], by rw [hU]; exact hPc, va_K.moved hW.alike hK, hDc.weaken (fun _ _ _ _ => trivial)⟩⟩ rfl rfl hl.1 rfl (lv_room (Nat.le_of_ble_eq_true rfl)) dX4_init_65 ⟨Nat.le_of_ble_eq_true rfl, Nat.le_of_ble_eq_true rfl⟩) hS (fun q _ h => hFc q h) hFc (fun u t H1 locs ht hvm hw hB hz1 hk1 hS => ?_)
  obtain ⟨hP1, hD1⟩ := hB
  rw [ht] at hP1
  obtain ⟨q13, rfl⟩ : ∃ z, z = u := ⟨_, rfl⟩
  obtain ⟨hP, hD⟩ := va_join (wr := [(h0, .inr (4, [.ref q1, .ref q3, .ref q4, .ref q7])), (q1, .inr (2, [.ref q2])), (q2, zi g 128 (fun _ => 0)), (q3, zq g 3 3 (va_up (fun _ => none) 0 (some q10))), (q4, .inr (3, [.ref q5, .ref q6])), (q5, zi g 40 (fun _ => 0)), (q6, zl g 5 (fun _ => 0)), (q7, .inr (1, [.ref q8, .ref q9, .int 0, .int 0])), (q8, zi g 8 (fun _ => 0)), (q9, zi g 8 (fun _ => 0)), (q10, .inr (0, [.ref q11])), (q11, zi g 24 (fun _ => 0))]) (w1 := [(q12, .inr (0, [.ref q13])), (q13, zi g 24 (fun _ => 0))]) hP hD [12] [0, 1, 2, 3, 4, 5, 6, 7, 8, 9, 10, 11] rfl rfl (by decide) (by decide) hk1 hFc hP1 hD1
  generalize H1 = H at hP hS ⊢
  have hP : va_P g.1 vwCl [(h0, .inr (4, [.ref q1, .ref q3, .ref q4, .ref q7])), (q1, .inr (2, [.ref q2])), (q2, zi g 128 (fun _ => 0)), (q3, zq g 3 3 (va_up (fun _ => none) 0 (some q10))), (q4, .inr (3, [.ref q5, .ref q6])), (q5, zi g 40 (fun _ => 0)), (q6, zl g 5 (fun _ => 0)), (q7, .inr (1, [.ref q8, .ref q9, .int 0, .int 0])), (q8, zi g 8 (fun _ => 0)), (q9, zi g 8 (fun _ => 0)), (q10, .inr (0, [.ref q11])), (q11, zi g 24 (fun _ => 0)), (q12, .inr (0, [.ref q13])), (q13, zi g 24 (fun _ => 0))] H := hP
  have hD : va_D A [(h0, .inr (4, [.ref q1, .ref q3, .ref q4, .ref q7])), (q1, .inr (2, [.ref q2])), (q2, zi g 128 (fun _ => 0)), (q3, zq g 3 3 (va_up (fun _ => none) 0 (some q10))), (q4, .inr (3, [.ref q5, .ref q6])), (q5, zi g 40 (fun _ => 0)), (q6, zl g 5 (fun _ => 0)), (q7, .inr (1, [.ref q8, .ref q9, .int 0, .int 0])), (q8, zi g 8 (fun _ => 0)), (q9, zi g 8 (fun _ => 0)), (q10, .inr (0, [.ref q11])), (q11, zi g 24 (fun _ => 0)), (q12, .inr (0, [.ref q13])), (q13, zi g 24 (fun _ => 0))] := hD
  refine W.widen (k := 13) (n := 249) (Nat.le_of_ble_eq_true rfl) (Nat.le_of_ble_eq_true rfl) ?_
  refine va_astq (ci := 0) (r := (RX0, TX0, 1)) hx hb hK hP hD hS 3 3 12 rfl rfl rfl rfl (vp_in_nI (show 1 < 3 by decide) (by decide)) dX4_init_68 (fun H locs hP hD hS => ?_)
  have hP : va_P g.1 vwCl [(h0, .inr (4, [.ref q1, .ref q3, .ref q4, .ref q7])), (q1, .inr (2, [.ref q2])), (q2, zi g 128 (fun _ => 0)), (q3, zq g 3 3 (va_up (va_up (fun _ => none) 0 (some q10)) 1 (some q12))), (q4, .inr (3, [.ref q5, .ref q6])), (q5, zi g 40 (fun _ => 0)), (q6, zl g 5 (fun _ => 0)), (q7, .inr (1, [.ref q8, .ref q9, .int 0, .int 0])), (q8, zi g 8 (fun _ => 0)), (q9, zi g 8 (fun _ => 0)), (q10, .inr (0, [.ref q11])), (q11, zi g 24 (fun _ => 0)), (q12, .inr (0, [.ref q13])), (q13, zi g 24 (fun _ => 0))] H := hP
  have hD : va_D A [(h0, .inr (4, [.ref q1, .ref q3, .ref q4, .ref q7])), (q1, .inr (2, [.ref q2])), (q2, zi g 128 (fun _ => 0)), (q3, zq g 3 3 (va_up (va_up (fun _ => none) 0 (some q10)) 1 (some q12))), (q4, .inr (3, [.ref q5, .ref q6])), (q5, zi g 40 (fun _ => 0)), (q6, zl g 5 (fun _ => 0)), (q7, .inr (1, [.ref q8, .ref q9, .int 0, .int 0])), (q8, zi g 8 (fun _ => 0)), (q9, zi g 8 (fun _ => 0)), (q10, .inr (0, [.ref q11])), (q11, zi g 24 (fun _ => 0)), (q12, .inr (0, [.ref q13])), (q13, zi g 24 (fun _ => 0))] := hD
  refine lv_iinc (x := nI 1) (v := nI 2) (lv' := [(1, .int (nI 2)), (0, .ref h0)]) (k := 0) hx hb dX4_init_69 hl rfl (by decide) (by decide) rfl (fun ls hl => ?_)
  refine lv_goto hx hb dX4_init_72 (tgt := 47) (by decide) ?_
  refine lv_iload_n hx hb dX4_init_47 rfl (lv_at hl 0 rfl) ?_
  refine lv_aload_n hx hb dX4_init_48 rfl (lv_at hl 1 rfl) ?_
  refine va_get (ci := 4) (v := .ref q3) (C := RX4) (T := TX4) (N := 4) hx hb hts (by decide +kernel) hown hK hP 0 rfl rfl 1 (by decide) (hts (.fieldLink RX4 20 "Countcote$Stream" "careful" "[LCountcote$CarefulSketch;") (by decide +kernel)) (fun _ h9 => h9) rfl dX4_init_49 ?_
  refine va_alen (v := nI 3) hx hb hK hP 3 3 rfl rfl rfl dX4_init_52 ?_
  refine lv_icmp_ge hx hb dX4_init_53 (tgt := 75) (by decide) (fun h => absurd h (show ¬ (nI 3) ≤ (nI 2) by decide)) (fun _ => ?_)
  refine lv_aload_n hx hb dX4_init_56 rfl (lv_at hl 1 rfl) ?_
  refine va_get (ci := 4) (v := .ref q3) (C := RX4) (T := TX4) (N := 4) hx hb hts (by decide +kernel) hown hK hP 0 rfl rfl 1 (by decide) (hts (.fieldLink RX4 20 "Countcote$Stream" "careful" "[LCountcote$CarefulSketch;") (by decide +kernel)) (fun _ h9 => h9) rfl dX4_init_57 ?_
  refine lv_iload_n hx hb dX4_init_60 rfl (lv_at hl 0 rfl) ?_
  refine va_new (ci := 0) (fs := [.null]) (C := RX0) (T := TX0) (N := 1) hx hb hts (by decide +kernel) tyX0 tyX0_ok hown (hts (.classLink RX4 18 RX0) (by decide +kernel)) (hts (.instantiable RX0 1) (by decide +kernel)) (hts (.initialized RX0) (by decide +kernel)) hK hP hD hS hA rfl (fun j hj => by rcases (show j = 0 by omega) with rfl <;> rfl) (Nat.le_of_ble_eq_true rfl) (Nat.le_of_ble_eq_true rfl) dX4_init_61 (fun q14 H hP hD hS => ?_)
  have hP : va_P g.1 vwCl [(h0, .inr (4, [.ref q1, .ref q3, .ref q4, .ref q7])), (q1, .inr (2, [.ref q2])), (q2, zi g 128 (fun _ => 0)), (q3, zq g 3 3 (va_up (va_up (fun _ => none) 0 (some q10)) 1 (some q12))), (q4, .inr (3, [.ref q5, .ref q6])), (q5, zi g 40 (fun _ => 0)), (q6, zl g 5 (fun _ => 0)), (q7, .inr (1, [.ref q8, .ref q9, .int 0, .int 0])), (q8, zi g 8 (fun _ => 0)), (q9, zi g 8 (fun _ => 0)), (q10, .inr (0, [.ref q11])), (q11, zi g 24 (fun _ => 0)), (q12, .inr (0, [.ref q13])), (q13, zi g 24 (fun _ => 0)), (q14, .inr (0, [.null]))] H := hP
  have hD : va_D A [(h0, .inr (4, [.ref q1, .ref q3, .ref q4, .ref q7])), (q1, .inr (2, [.ref q2])), (q2, zi g 128 (fun _ => 0)), (q3, zq g 3 3 (va_up (va_up (fun _ => none) 0 (some q10)) 1 (some q12))), (q4, .inr (3, [.ref q5, .ref q6])), (q5, zi g 40 (fun _ => 0)), (q6, zl g 5 (fun _ => 0)), (q7, .inr (1, [.ref q8, .ref q9, .int 0, .int 0])), (q8, zi g 8 (fun _ => 0)), (q9, zi g 8 (fun _ => 0)), (q10, .inr (0, [.ref q11])), (q11, zi g 24 (fun _ => 0)), (q12, .inr (0, [.ref q13])), (q13, zi g 24 (fun _ => 0)), (q14, .inr (0, [.null]))] := hD
  refine W.widen (k := 14) (n := 250) (Nat.le_of_ble_eq_true rfl) (Nat.le_of_ble_eq_true rfl) ?_
  refine lv_dup hx hb dX4_init_64 rfl ?_
  have hPc := hP.sub (ws' := [(q14, .inr (0, [.null]))]) [14] rfl
  have hDc := hD.sub (ws' := [(q14, .inr (0, [.null]))]) [14] (by decide) rfl
  have hFc := va_free (wc := [(q14, .inr (0, [.null]))]) hD hS hA [14] rfl
  refine va_callv (va_runIN (As := []) (rest := [.ref q14, .int (nI 2), .ref q3]) ⟨hx, hb, hml, hown, hts⟩ (c_X0_init l hg0 q14 H.size) ⟨va_cnB 0 hts gX4_init_X0_init_n38 rfl rfl rfl hn.2.2.2.1 (hts (.initialized RX0) (by decide +kernel)) (by decide +kernel) ⟨Nat.le_of_ble_eq_true rfl, Nat.le_of_ble_eq_true rfl⟩, rfl, (hts (.instanceMethod yX0_init) (by decide +kernel))⟩ ⟨fun a U gg mk q => by obtain ⟨q0, q1, qP, qK, qD⟩ := q; exact ⟨q0, q1, qP, va_K.moved (u := U) (U := U.calling gg mk a) (Vm.Alike.refl U.vm) qK, qD⟩, fun U hU hW => ⟨rfl, by rw [hU], by rw [hU]; exact hPc, va_K.moved hW.alike hK, hDc.weaken (fun _ _ _ _ => trivial)⟩⟩ rfl rfl hl.1 rfl (lv_room (Nat.le_of_ble_eq_true rfl)) dX4_init_65 ⟨Nat.le_of_ble_eq_true rfl, Nat.le_of_ble_eq_true rfl⟩) hS (fun q _ h => hFc q h) hFc (fun u t H1 locs ht hvm hw hB hz1 hk1 hS => ?_)
  obtain ⟨hP1, hD1⟩ := hB
  rw [ht] at hP1
  obtain ⟨q15, rfl⟩ : ∃ z, z = u := ⟨_, rfl⟩
  obtain ⟨hP, hD⟩ := va_join (wr := [(h0, .inr (4, [.ref q1, .ref q3, .ref q4, .ref q7])), (q1, .inr (2, [.ref q2])), (q2, zi g 128 (fun _ => 0)), (q3, zq g 3 3 (va_up (va_up (fun _ => none) 0 (some q10)) 1 (some q12))), (q4, .inr (3, [.ref q5, .ref q6])), (q5, zi g 40 (fun _ => 0)), (q6, zl g 5 (fun _ => 0)), (q7, .inr (1, [.ref q8, .ref q9, .int 0, .int 0])), (q8, zi g 8 (fun _ => 0)), (q9, zi g 8 (fun _ => 0)), (q10, .inr (0, [.ref q11])), (q11, zi g 24 (fun _ => 0)), (q12, .inr (0, [.ref q13])), (q13, zi g 24 (fun _ => 0))]) (w1 := [(q14, .inr (0, [.ref q15])), (q15, zi g 24 (fun _ => 0))]) hP hD [14] [0, 1, 2, 3, 4, 5, 6, 7, 8, 9, 10, 11, 12, 13] rfl rfl (by decide) (by decide) hk1 hFc hP1 hD1
  generalize H1 = H at hP hS ⊢
  have hP : va_P g.1 vwCl [(h0, .inr (4, [.ref q1, .ref q3, .ref q4, .ref q7])), (q1, .inr (2, [.ref q2])), (q2, zi g 128 (fun _ => 0)), (q3, zq g 3 3 (va_up (va_up (fun _ => none) 0 (some q10)) 1 (some q12))), (q4, .inr (3, [.ref q5, .ref q6])), (q5, zi g 40 (fun _ => 0)), (q6, zl g 5 (fun _ => 0)), (q7, .inr (1, [.ref q8, .ref q9, .int 0, .int 0])), (q8, zi g 8 (fun _ => 0)), (q9, zi g 8 (fun _ => 0)), (q10, .inr (0, [.ref q11])), (q11, zi g 24 (fun _ => 0)), (q12, .inr (0, [.ref q13])), (q13, zi g 24 (fun _ => 0)), (q14, .inr (0, [.ref q15])), (q15, zi g 24 (fun _ => 0))] H := hP
  have hD : va_D A [(h0, .inr (4, [.ref q1, .ref q3, .ref q4, .ref q7])), (q1, .inr (2, [.ref q2])), (q2, zi g 128 (fun _ => 0)), (q3, zq g 3 3 (va_up (va_up (fun _ => none) 0 (some q10)) 1 (some q12))), (q4, .inr (3, [.ref q5, .ref q6])), (q5, zi g 40 (fun _ => 0)), (q6, zl g 5 (fun _ => 0)), (q7, .inr (1, [.ref q8, .ref q9, .int 0, .int 0])), (q8, zi g 8 (fun _ => 0)), (q9, zi g 8 (fun _ => 0)), (q10, .inr (0, [.ref q11])), (q11, zi g 24 (fun _ => 0)), (q12, .inr (0, [.ref q13])), (q13, zi g 24 (fun _ => 0)), (q14, .inr (0, [.ref q15])), (q15, zi g 24 (fun _ => 0))] := hD
  refine W.widen (k := 15) (n := 274) (Nat.le_of_ble_eq_true rfl) (Nat.le_of_ble_eq_true rfl) ?_
  refine va_astq (ci := 0) (r := (RX0, TX0, 1)) hx hb hK hP hD hS 3 3 14 rfl rfl rfl rfl (vp_in_nI (show 2 < 3 by decide) (by decide)) dX4_init_68 (fun H locs hP hD hS => ?_)
  have hP : va_P g.1 vwCl [(h0, .inr (4, [.ref q1, .ref q3, .ref q4, .ref q7])), (q1, .inr (2, [.ref q2])), (q2, zi g 128 (fun _ => 0)), (q3, zq g 3 3 (va_up (va_up (va_up (fun _ => none) 0 (some q10)) 1 (some q12)) 2 (some q14))), (q4, .inr (3, [.ref q5, .ref q6])), (q5, zi g 40 (fun _ => 0)), (q6, zl g 5 (fun _ => 0)), (q7, .inr (1, [.ref q8, .ref q9, .int 0, .int 0])), (q8, zi g 8 (fun _ => 0)), (q9, zi g 8 (fun _ => 0)), (q10, .inr (0, [.ref q11])), (q11, zi g 24 (fun _ => 0)), (q12, .inr (0, [.ref q13])), (q13, zi g 24 (fun _ => 0)), (q14, .inr (0, [.ref q15])), (q15, zi g 24 (fun _ => 0))] H := hP
  have hD : va_D A [(h0, .inr (4, [.ref q1, .ref q3, .ref q4, .ref q7])), (q1, .inr (2, [.ref q2])), (q2, zi g 128 (fun _ => 0)), (q3, zq g 3 3 (va_up (va_up (va_up (fun _ => none) 0 (some q10)) 1 (some q12)) 2 (some q14))), (q4, .inr (3, [.ref q5, .ref q6])), (q5, zi g 40 (fun _ => 0)), (q6, zl g 5 (fun _ => 0)), (q7, .inr (1, [.ref q8, .ref q9, .int 0, .int 0])), (q8, zi g 8 (fun _ => 0)), (q9, zi g 8 (fun _ => 0)), (q10, .inr (0, [.ref q11])), (q11, zi g 24 (fun _ => 0)), (q12, .inr (0, [.ref q13])), (q13, zi g 24 (fun _ => 0)), (q14, .inr (0, [.ref q15])), (q15, zi g 24 (fun _ => 0))] := hD
  refine lv_iinc (x := nI 2) (v := nI 3) (lv' := [(1, .int (nI 3)), (0, .ref h0)]) (k := 0) hx hb dX4_init_69 hl rfl (by decide) (by decide) rfl (fun ls hl => ?_)
  refine lv_goto hx hb dX4_init_72 (tgt := 47) (by decide) ?_
  refine lv_iload_n hx hb dX4_init_47 rfl (lv_at hl 0 rfl) ?_
  refine lv_aload_n hx hb dX4_init_48 rfl (lv_at hl 1 rfl) ?_
  refine va_get (ci := 4) (v := .ref q3) (C := RX4) (T := TX4) (N := 4) hx hb hts (by decide +kernel) hown hK hP 0 rfl rfl 1 (by decide) (hts (.fieldLink RX4 20 "Countcote$Stream" "careful" "[LCountcote$CarefulSketch;") (by decide +kernel)) (fun _ h9 => h9) rfl dX4_init_49 ?_
  refine va_alen (v := nI 3) hx hb hK hP 3 3 rfl rfl rfl dX4_init_52 ?_
  refine lv_icmp_ge hx hb dX4_init_53 (tgt := 75) (by decide) (fun _ => ?_) (fun h => absurd (show (nI 3) ≤ (nI 3) by decide) h)
  have hP := zP_q hP 3 (fun k => some ((fun i => [h0, q1, q2, q3, q10, q12, q14, q11, q13, q15, q4, q5, q6, q7, q8, q9].getD i 0) (4 + k))) rfl (fun j hj => by rcases (show j = 0 ∨ j = 1 ∨ j = 2 by omega) with rfl | rfl | rfl <;> rfl)
  have hP : va_P g.1 vwCl [(h0, .inr (4, [.ref q1, .ref q3, .ref q4, .ref q7])), (q1, .inr (2, [.ref q2])), (q2, zi g 128 (fun _ => 0)), (q3, zq g 3 3 (fun k => some ((fun i => [h0, q1, q2, q3, q10, q12, q14, q11, q13, q15, q4, q5, q6, q7, q8, q9].getD i 0) (4 + k)))), (q4, .inr (3, [.ref q5, .ref q6])), (q5, zi g 40 (fun _ => 0)), (q6, zl g 5 (fun _ => 0)), (q7, .inr (1, [.ref q8, .ref q9, .int 0, .int 0])), (q8, zi g 8 (fun _ => 0)), (q9, zi g 8 (fun _ => 0)), (q10, .inr (0, [.ref q11])), (q11, zi g 24 (fun _ => 0)), (q12, .inr (0, [.ref q13])), (q13, zi g 24 (fun _ => 0)), (q14, .inr (0, [.ref q15])), (q15, zi g 24 (fun _ => 0))] H := hP
  have hP8 := hP.sub (ws' := [(h0, .inr (4, [.ref q1, .ref q3, .ref q4, .ref q7])), (q1, .inr (2, [.ref q2])), (q2, zi g 128 (fun _ => 0)), (q3, zq g 3 3 (fun k => some ((fun i => [h0, q1, q2, q3, q10, q12, q14, q11, q13, q15, q4, q5, q6, q7, q8, q9].getD i 0) (4 + k)))), (q10, .inr (0, [.ref q11])), (q12, .inr (0, [.ref q13])), (q14, .inr (0, [.ref q15])), (q11, zi g 24 (fun _ => 0)), (q13, zi g 24 (fun _ => 0)), (q15, zi g 24 (fun _ => 0)), (q4, .inr (3, [.ref q5, .ref q6])), (q5, zi g 40 (fun _ => 0)), (q6, zl g 5 (fun _ => 0)), (q7, .inr (1, [.ref q8, .ref q9, .int 0, .int 0])), (q8, zi g 8 (fun _ => 0)), (q9, zi g 8 (fun _ => 0))]) [0, 1, 2, 3, 10, 12, 14, 11, 13, 15, 4, 5, 6, 7, 8, 9] rfl
  have hD : va_D A [(h0, .inr (4, [.ref q1, .ref q3, .ref q4, .ref q7])), (q1, .inr (2, [.ref q2])), (q2, zi g 128 (fun _ => 0)), (q3, zq g 3 3 (fun k => some ((fun i => [h0, q1, q2, q3, q10, q12, q14, q11, q13, q15, q4, q5, q6, q7, q8, q9].getD i 0) (4 + k)))), (q4, .inr (3, [.ref q5, .ref q6])), (q5, zi g 40 (fun _ => 0)), (q6, zl g 5 (fun _ => 0)), (q7, .inr (1, [.ref q8, .ref q9, .int 0, .int 0])), (q8, zi g 8 (fun _ => 0)), (q9, zi g 8 (fun _ => 0)), (q10, .inr (0, [.ref q11])), (q11, zi g 24 (fun _ => 0)), (q12, .inr (0, [.ref q13])), (q13, zi g 24 (fun _ => 0)), (q14, .inr (0, [.ref q15])), (q15, zi g 24 (fun _ => 0))] := zD_q hD 3 rfl
  have hD8 := hD.sub (ws' := [(h0, .inr (4, [.ref q1, .ref q3, .ref q4, .ref q7])), (q1, .inr (2, [.ref q2])), (q2, zi g 128 (fun _ => 0)), (q3, zq g 3 3 (fun k => some ((fun i => [h0, q1, q2, q3, q10, q12, q14, q11, q13, q15, q4, q5, q6, q7, q8, q9].getD i 0) (4 + k)))), (q10, .inr (0, [.ref q11])), (q12, .inr (0, [.ref q13])), (q14, .inr (0, [.ref q15])), (q11, zi g 24 (fun _ => 0)), (q13, zi g 24 (fun _ => 0)), (q15, zi g 24 (fun _ => 0)), (q4, .inr (3, [.ref q5, .ref q6])), (q5, zi g 40 (fun _ => 0)), (q6, zl g 5 (fun _ => 0)), (q7, .inr (1, [.ref q8, .ref q9, .int 0, .int 0])), (q8, zi g 8 (fun _ => 0)), (q9, zi g 8 (fun _ => 0))]) [0, 1, 2, 3, 10, 12, 14, 11, 13, 15, 4, 5, 6, 7, 8, 9] (by decide) rfl
  have hP9 : va_P g.1 vwCl (zblk g (fun i => [h0, q1, q2, q3, q10, q12, q14, q11, q13, q15, q4, q5, q6, q7, q8, q9].getD i 0)) H := hP8
  have hD9 : va_D A (zblk g (fun i => [h0, q1, q2, q3, q10, q12, q14, q11, q13, q15, q4, q5, q6, q7, q8, q9].getD i 0)) := hD8
  exact W.vret hx hb hr (fun t ht hW => ⟨⟨(fun i => [h0, q1, q2, q3, q10, q12, q14, q11, q13, q15, q4, q5, q6, q7, q8, q9].getD i 0), rfl, rfl, by rw [ht]; exact hP9, hD9⟩, hS.F ht⟩) hS.2.2 dX4_init_75 hlocks
set_option maxHeartbeats 4000000 in
set_option maxRecDepth 100000 in
/-- X5_init -/
theorem c_X5_init (l : Launch) {g : zG} (hg0 : g = g) (h0 sz : Nat) : Met l yX5_init wsX5_init ({ frames := 3, cells := 65, slots := 1116, locals := 53 }) (va_Pc [.ref h0] (fun U => U.heap.size = sz ∧ va_P g.1 vwCl [(h0, .inr (5, [.null]))] U.heap ∧ va_K g.1 vwCl (zty g) U ∧ va_D (fun _ => True) [(h0, .inr (5, [.null]))] ∧ znk U)) (va_Qv (fun u : Nat × (Nat → Nat → Nat) => True) (fun u t => va_P g.1 vwCl ([(h0, .inr (5, [.ref u.1])), (u.1, zq g 2 4 (fun j => some (u.2 j 0)))] ++ zblk g (u.2 0) ++ zblk g (u.2 1) ++ zblk g (u.2 2) ++ zblk g (u.2 3)) t.heap ∧ va_D (va_A [(h0, .inr (5, [.null]))] sz) ([(h0, .inr (5, [.ref u.1])), (u.1, zq g 2 4 (fun j => some (u.2 j 0)))] ++ zblk g (u.2 0) ++ zblk g (u.2 1) ++ zblk g (u.2 2) ++ zblk g (u.2 3))) (va_A [(h0, .inr (5, [.null]))] sz)) 65 1116 (va_A [(h0, .inr (5, [.null]))] sz) := by
  refine Met.ofW (cc := cX5_init) (maxL := 2) (ret := none) (by decide) rfl ?_
  intro p e s m args below meth c s₁ B hml hv
  obtain ⟨rfl, hsz, hP, hK, hD0, hn⟩ := hv
  have hx := B.exec
  have hb := B.bytes
  have hr := B.returns
  have hts := atoms_spec (ws := wsX5_init) B.pre
  have hown : s.vm.findClass RX5 = some m.cls := findClass_of_methodNamed B.named
  have hlocks := B.notSynchronized
  have hin : meth.name = "<init>" := (name_of_methodNamed B.named B.method).1
  subst hsz
  have hD := hD0.self (sz := s.heap.size)
  generalize hAe : va_A [(h0, .inr (5, [.null]))] s.heap.size = A at hD ⊢
  have hA : ∀ q : Nat, s.heap.size ≤ q → A q := fun q h => by rw [← hAe]; exact Or.inr h
  have hS : va_S A s.heap s.heap [] := va_S.rf
  have hP : va_P g.1 vwCl [(h0, .inr (5, [.null]))] s.heap := hP
  have hl := lv_entry ([.ref h0]) (n := 2) (Nat.le_of_ble_eq_true rfl)
  rw [lg_entry_eq]
  generalize (lg_sl ([.ref h0]) ++ List.replicate (2 - (lg_sl ([.ref h0])).length) Slot.unset).toArray = ls at hl ⊢
  have hl : lv_has ls 2 [(0, .ref h0)] := hl
  refine lv_aload_n hx hb dX5_init_0 rfl (lv_at hl 0 rfl) ?_
  refine W.objInit hx hb hown (hts (.methodLink RX5 1 objectInit) (by decide +kernel)) (hts (.instanceMethod objectInit) (by decide +kernel)) (hts _ (List.mem_of_getElem? (i := 3) rfl)) rfl (by rw [hml]; exact hl.1) rfl dX5_init_1 (Nat.le_of_ble_eq_true rfl) (Nat.le_of_ble_eq_true rfl) ?_
  refine W.eq (g2 := F0 m 4 ls []) rfl ?_
  refine lv_aload_n hx hb dX5_init_4 rfl (lv_at hl 0 rfl) ?_
  refine lv_iconst (v := nI 4) hx hb dX5_init_5 (by decide) ?_
  refine va_newq (N' := 4) hx hb hown (hts (.classLink RX5 9 RX4) (by decide +kernel)) hn.2.2.2.2.2 hK hP hD hS hA (by decide) rfl (Nat.le_of_ble_eq_true rfl) (Nat.le_of_ble_eq_true rfl) (Nat.le_of_ble_eq_true rfl) dX5_init_6 (fun q1 cA H hK1 hP hD hS => ?_)
  obtain rfl : cA = g.2.1 2 := zcls hK1 2 rfl
  have hP : va_P g.1 vwCl [(h0, .inr (5, [.null])), (q1, zq g 2 4 (fun _ => none))] H := hP
  have hD : va_D A [(h0, .inr (5, [.null])), (q1, zq g 2 4 (fun _ => none))] := hD
  refine W.widen (k := 1) (n := 4) (Nat.le_of_ble_eq_true rfl) (Nat.le_of_ble_eq_true rfl) ?_
  refine va_putF (ci := 5) (v := .ref q1) (ty := tyX5 0) (C := RX5) (T := TX5) (N := 1) hx hb hts (by decide +kernel) tyX5 tyX5_ok nmX5 hown hK hP hD hS 0 rfl rfl 0 (by decide) (hts (.fieldLink RX5 11 "Countcote" "streams" "[LCountcote$Stream;") (by decide +kernel)) (fun _ h9 => h9) rfl hin rfl (by decide +kernel) rfl rfl (Nat.le_of_ble_eq_true rfl) dX5_init_9 (fun H locs hP hD hS => ?_)
  have hP : va_P g.1 vwCl [(h0, .inr (5, [.ref q1])), (q1, zq g 2 4 (fun _ => none))] H := hP
  have hD : va_D A [(h0, .inr (5, [.ref q1])), (q1, zq g 2 4 (fun _ => none))] := hD
  refine lv_iconst (v := nI 0) hx hb dX5_init_12 (by decide) ?_
  refine lv_istore_n (lv' := [(1, .int (nI 0)), (0, .ref h0)]) hx hb dX5_init_13 rfl hl (by decide) rfl (fun ls hl => ?_)
  refine lv_iload_n hx hb dX5_init_14 rfl (lv_at hl 0 rfl) ?_
  refine lv_aload_n hx hb dX5_init_15 rfl (lv_at hl 1 rfl) ?_
  refine va_get (ci := 5) (v := .ref q1) (C := RX5) (T := TX5) (N := 1) hx hb hts (by decide +kernel) hown hK hP 0 rfl rfl 0 (by decide) (hts (.fieldLink RX5 11 "Countcote" "streams" "[LCountcote$Stream;") (by decide +kernel)) (fun _ h9 => h9) rfl dX5_init_16 ?_
  refine va_alen (v := nI 4) hx hb hK hP 1 2 rfl rfl rfl dX5_init_19 ?_
  refine lv_icmp_ge hx hb dX5_init_20 (tgt := 42) (by decide) (fun h => absurd h (show ¬ (nI 4) ≤ (nI 0) by decide)) (fun _ => ?_)
  refine lv_aload_n hx hb dX5_init_23 rfl (lv_at hl 1 rfl) ?_
  refine va_get (ci := 5) (v := .ref q1) (C := RX5) (T := TX5) (N := 1) hx hb hts (by decide +kernel) hown hK hP 0 rfl rfl 0 (by decide) (hts (.fieldLink RX5 11 "Countcote" "streams" "[LCountcote$Stream;") (by decide +kernel)) (fun _ h9 => h9) rfl dX5_init_24 ?_
  refine lv_iload_n hx hb dX5_init_27 rfl (lv_at hl 0 rfl) ?_
  refine va_new (ci := 4) (fs := [.null, .null, .null, .null]) (C := RX4) (T := TX4) (N := 4) hx hb hts (by decide +kernel) tyX4 tyX4_ok hown (hts (.classLink RX5 9 RX4) (by decide +kernel)) (hts (.instantiable RX4 4) (by decide +kernel)) (hts (.initialized RX4) (by decide +kernel)) hK hP hD hS hA rfl (fun j hj => by rcases (show j = 0 ∨ j = 1 ∨ j = 2 ∨ j = 3 by omega) with rfl | rfl | rfl | rfl <;> rfl) (Nat.le_of_ble_eq_true rfl) (Nat.le_of_ble_eq_true rfl) dX5_init_28 (fun q2 H hP hD hS => ?_)
  have hP : va_P g.1 vwCl [(h0, .inr (5, [.ref q1])), (q1, zq g 2 4 (fun _ => none)), (q2, .inr (4, [.null, .null, .null, .null]))] H := hP
  have hD : va_D A [(h0, .inr (5, [.ref q1])), (q1, zq g 2 4 (fun _ => none)), (q2, .inr (4, [.null, .null, .null, .null]))] := hD
  refine W.widen (k := 2) (n := 8) (Nat.le_of_ble_eq_true rfl) (Nat.le_of_ble_eq_true rfl) ?_
  refine lv_dup hx hb dX5_init_31 rfl ?_
  have hPc := hP.sub (ws' := [(q2, .inr (4, [.null, .null, .null, .null]))]) [2] rfl
  have hDc := hD.sub (ws' := [(q2, .inr (4, [.null, .null, .null, .null]))]) [2] (by decide) rfl
  have hFc := va_free (wc := [(q2, .inr (4, [.null, .null, .null, .null]))]) hD hS hA [2] rfl
  refine va_callv (va_runI (As := []) (rest := [.ref q2, .int (nI 0), .ref q1]) ⟨hx, hb, hml, hown, hts⟩ (c_X4_init l hg0 q2 H.size) (cwI 0 hts gX5_init_X4_init rfl rfl rfl (hts (.initialized RX4) (by decide +kernel)) (hts (.methodLink RX5 15 yX4_init) (by decide +kernel)) (hts (.instanceMethod yX4_init) (by decide +kernel)) rfl (by decide +kernel) ⟨Nat.le_of_ble_eq_true rfl, Nat.le_of_ble_eq_true rfl⟩) ⟨fun a U gg mk q => by obtain ⟨q0, q1, qP, qK, qD, qn⟩ := q; exact ⟨q0, q1, qP, va_K.moved (u := U) (U := U.calling gg mk a) (Vm.Alike.refl U.vm) qK, qD, qn.blind⟩, fun U hU hW => ⟨rfl, by rw [hU], by rw [hU]; exact hPc, va_K.moved hW.alike hK, hDc.weaken (fun _ _ _ _ => trivial), hn.warm hW⟩⟩ rfl rfl hl.1 rfl (lv_room (Nat.le_of_ble_eq_true rfl)) dX5_init_32 ⟨Nat.le_of_ble_eq_true rfl, Nat.le_of_ble_eq_true rfl⟩) hS (fun q _ h => hFc q h) hFc (fun u t H1 locs ht hvm hw hB hz1 hk1 hS => ?_)
  obtain ⟨hP1, hD1⟩ := hB
  rw [ht] at hP1
  obtain ⟨u3, rfl⟩ : ∃ z, z = u := ⟨_, rfl⟩
  obtain rfl : u3 0 = q2 := hw
  obtain ⟨hP, hD⟩ := va_join (wr := [(h0, .inr (5, [.ref q1])), (q1, zq g 2 4 (fun _ => none))]) (w1 := zblk g u3) hP hD [2] [0, 1] rfl rfl (by decide) (by decide) hk1 hFc hP1 hD1
  generalize H1 = H at hP hS ⊢
  have hP : va_P g.1 vwCl ([(h0, .inr (5, [.ref q1])), (q1, zq g 2 4 (fun _ => none))] ++ zblk g u3) H := hP
  have hD : va_D A ([(h0, .inr (5, [.ref q1])), (q1, zq g 2 4 (fun _ => none))] ++ zblk g u3) := hD
  refine W.widen (k := 17) (n := 282) (Nat.le_of_ble_eq_true rfl) (Nat.le_of_ble_eq_true rfl) ?_
  refine va_astq (ci := 4) (r := (RX4, TX4, 4)) hx hb hK hP hD hS 1 2 2 rfl rfl rfl rfl (vp_in_nI (show 0 < 4 by decide) (by decide)) dX5_init_35 (fun H locs hP hD hS => ?_)
  have hP : va_P g.1 vwCl ([(h0, .inr (5, [.ref q1])), (q1, zq g 2 4 (va_up (fun _ => none) 0 (some (u3 0))))] ++ zblk g u3) H := hP
  have hD : va_D A ([(h0, .inr (5, [.ref q1])), (q1, zq g 2 4 (va_up (fun _ => none) 0 (some (u3 0))))] ++ zblk g u3) := hD
  refine lv_iinc (x := nI 0) (v := nI 1) (lv' := [(1, .int (nI 1)), (0, .ref h0)]) (k := 0) hx hb dX5_init_36 hl rfl (by decide) (by decide) rfl (fun ls hl => ?_)
  refine lv_goto hx hb dX5_init_39 (tgt := 14) (by decide) ?_
  refine lv_iload_n hx hb dX5_init_14 rfl (lv_at hl 0 rfl) ?_
  refine lv_aload_n hx hb dX5_init_15 rfl (lv_at hl 1 rfl) ?_
  refine va_get (ci := 5) (v := .ref q1) (C := RX5) (T := TX5) (N := 1) hx hb hts (by decide +kernel) hown hK hP 0 rfl rfl 0 (by decide) (hts (.fieldLink RX5 11 "Countcote" "streams" "[LCountcote$Stream;") (by decide +kernel)) (fun _ h9 => h9) rfl dX5_init_16 ?_
  refine va_alen (v := nI 4) hx hb hK hP 1 2 rfl rfl rfl dX5_init_19 ?_
  refine lv_icmp_ge hx hb dX5_init_20 (tgt := 42) (by decide) (fun h => absurd h (show ¬ (nI 4) ≤ (nI 1) by decide)) (fun _ => ?_)
  refine lv_aload_n hx hb dX5_init_23 rfl (lv_at hl 1 rfl) ?_
  refine va_get (ci := 5) (v := .ref q1) (C := RX5) (T := TX5) (N := 1) hx hb hts (by decide +kernel) hown hK hP 0 rfl rfl 0 (by decide) (hts (.fieldLink RX5 11 "Countcote" "streams" "[LCountcote$Stream;") (by decide +kernel)) (fun _ h9 => h9) rfl dX5_init_24 ?_
  refine lv_iload_n hx hb dX5_init_27 rfl (lv_at hl 0 rfl) ?_
  refine va_new (ci := 4) (fs := [.null, .null, .null, .null]) (C := RX4) (T := TX4) (N := 4) hx hb hts (by decide +kernel) tyX4 tyX4_ok hown (hts (.classLink RX5 9 RX4) (by decide +kernel)) (hts (.instantiable RX4 4) (by decide +kernel)) (hts (.initialized RX4) (by decide +kernel)) hK hP hD hS hA rfl (fun j hj => by rcases (show j = 0 ∨ j = 1 ∨ j = 2 ∨ j = 3 by omega) with rfl | rfl | rfl | rfl <;> rfl) (Nat.le_of_ble_eq_true rfl) (Nat.le_of_ble_eq_true rfl) dX5_init_28 (fun q4 H hP hD hS => ?_)
  have hP : va_P g.1 vwCl ([(h0, .inr (5, [.ref q1])), (q1, zq g 2 4 (va_up (fun _ => none) 0 (some (u3 0))))] ++ zblk g u3 ++ [(q4, .inr (4, [.null, .null, .null, .null]))]) H := hP
  have hD : va_D A ([(h0, .inr (5, [.ref q1])), (q1, zq g 2 4 (va_up (fun _ => none) 0 (some (u3 0))))] ++ zblk g u3 ++ [(q4, .inr (4, [.null, .null, .null, .null]))]) := hD
  refine W.widen (k := 18) (n := 286) (Nat.le_of_ble_eq_true rfl) (Nat.le_of_ble_eq_true rfl) ?_
  refine lv_dup hx hb dX5_init_31 rfl ?_
  have hPc := hP.sub (ws' := [(q4, .inr (4, [.null, .null, .null, .null]))]) [18] rfl
  have hDc := hD.sub (ws' := [(q4, .inr (4, [.null, .null, .null, .null]))]) [18] (by decide) rfl
  have hFc := va_free (wc := [(q4, .inr (4, [.null, .null, .null, .null]))]) hD hS hA [18] rfl
  refine va_callv (va_runI (As := []) (rest := [.ref q4, .int (nI 1), .ref q1]) ⟨hx, hb, hml, hown, hts⟩ (c_X4_init l hg0 q4 H.size) (cwI 0 hts gX5_init_X4_init rfl rfl rfl (hts (.initialized RX4) (by decide +kernel)) (hts (.methodLink RX5 15 yX4_init) (by decide +kernel)) (hts (.instanceMethod yX4_init) (by decide +kernel)) rfl (by decide +kernel) ⟨Nat.le_of_ble_eq_true rfl, Nat.le_of_ble_eq_true rfl⟩) ⟨fun a U gg mk q => by obtain ⟨q0, q1, qP, qK, qD, qn⟩ := q; exact ⟨q0, q1, qP, va_K.moved (u := U) (U := U.calling gg mk a) (Vm.Alike.refl U.vm) qK, qD, qn.blind⟩, fun U hU hW => ⟨rfl, by rw [hU], by rw [hU]; exact hPc, va_K.moved hW.alike hK, hDc.weaken (fun _ _ _ _ => trivial), hn.warm hW⟩⟩ rfl rfl hl.1 rfl (lv_room (Nat.le_of_ble_eq_true rfl)) dX5_init_32 ⟨Nat.le_of_ble_eq_true rfl, Nat.le_of_ble_eq_true rfl⟩) hS (fun q _ h => hFc q h) hFc (fun u t H1 locs ht hvm hw hB hz1 hk1 hS => ?_)
  obtain ⟨hP1, hD1⟩ := hB
  rw [ht] at hP1
  obtain ⟨u5, rfl⟩ : ∃ z, z = u := ⟨_, rfl⟩
  obtain rfl : u5 0 = q4 := hw
  obtain ⟨hP, hD⟩ := va_join (wr := ([(h0, .inr (5, [.ref q1])), (q1, zq g 2 4 (va_up (fun _ => none) 0 (some (u3 0))))] ++ zblk g u3)) (w1 := zblk g u5) hP hD [18] [0, 1, 2, 3, 4, 5, 6, 7, 8, 9, 10, 11, 12, 13, 14, 15, 16, 17] rfl rfl (by decide) (by decide) hk1 hFc hP1 hD1
  generalize H1 = H at hP hS ⊢
  have hP : va_P g.1 vwCl ([(h0, .inr (5, [.ref q1])), (q1, zq g 2 4 (va_up (fun _ => none) 0 (some (u3 0))))] ++ zblk g u3 ++ zblk g u5) H := hP
  have hD : va_D A ([(h0, .inr (5, [.ref q1])), (q1, zq g 2 4 (va_up (fun _ => none) 0 (some (u3 0))))] ++ zblk g u3 ++ zblk g u5) := hD
  refine W.widen (k := 33) (n := 560) (Nat.le_of_ble_eq_true rfl) (Nat.le_of_ble_eq_true rfl) ?_
  refine va_astq (ci := 4) (r := (RX4, TX4, 4)) hx hb hK hP hD hS 1 2 18 rfl rfl rfl rfl (vp_in_nI (show 1 < 4 by decide) (by decide)) dX5_init_35 (fun H locs hP hD hS => ?_)
  have hP : va_P g.1 vwCl ([(h0, .inr (5, [.ref q1])), (q1, zq g 2 4 (va_up (va_up (fun _ => none) 0 (some (u3 0))) 1 (some (u5 0))))] ++ zblk g u3 ++ zblk g u5) H := hP
  have hD : va_D A ([(h0, .inr (5, [.ref q1])), (q1, zq g 2 4 (va_up (va_up (fun _ => none) 0 (some (u3 0))) 1 (some (u5 0))))] ++ zblk g u3 ++ zblk g u5) := hD
  refine lv_iinc (x := nI 1) (v := nI 2) (lv' := [(1, .int (nI 2)), (0, .ref h0)]) (k := 0) hx hb dX5_init_36 hl rfl (by decide) (by decide) rfl (fun ls hl => ?_)
  refine lv_goto hx hb dX5_init_39 (tgt := 14) (by decide) ?_
  refine lv_iload_n hx hb dX5_init_14 rfl (lv_at hl 0 rfl) ?_
  refine lv_aload_n hx hb dX5_init_15 rfl (lv_at hl 1 rfl) ?_
  refine va_get (ci := 5) (v := .ref q1) (C := RX5) (T := TX5) (N := 1) hx hb hts (by decide +kernel) hown hK hP 0 rfl rfl 0 (by decide) (hts (.fieldLink RX5 11 "Countcote" "streams" "[LCountcote$Stream;") (by decide +kernel)) (fun _ h9 => h9) rfl dX5_init_16 ?_
  refine va_alen (v := nI 4) hx hb hK hP 1 2 rfl rfl rfl dX5_init_19 ?_
  refine lv_icmp_ge hx hb dX5_init_20 (tgt := 42) (by decide) (fun h => absurd h (show ¬ (nI 4) ≤ (nI 2) by decide)) (fun _ => ?_)
  refine lv_aload_n hx hb dX5_init_23 rfl (lv_at hl 1 rfl) ?_
  refine va_get (ci := 5) (v := .ref q1) (C := RX5) (T := TX5) (N := 1) hx hb hts (by decide +kernel) hown hK hP 0 rfl rfl 0 (by decide) (hts (.fieldLink RX5 11 "Countcote" "streams" "[LCountcote$Stream;") (by decide +kernel)) (fun _ h9 => h9) rfl dX5_init_24 ?_
  refine lv_iload_n hx hb dX5_init_27 rfl (lv_at hl 0 rfl) ?_
  refine va_new (ci := 4) (fs := [.null, .null, .null, .null]) (C := RX4) (T := TX4) (N := 4) hx hb hts (by decide +kernel) tyX4 tyX4_ok hown (hts (.classLink RX5 9 RX4) (by decide +kernel)) (hts (.instantiable RX4 4) (by decide +kernel)) (hts (.initialized RX4) (by decide +kernel)) hK hP hD hS hA rfl (fun j hj => by rcases (show j = 0 ∨ j = 1 ∨ j = 2 ∨ j = 3 by omega) with rfl | rfl | rfl | rfl <;> rfl) (Nat.le_of_ble_eq_true rfl) (Nat.le_of_ble_eq_true rfl) dX5_init_28 (fun q6 H hP hD hS => ?_)
  have hP : va_P g.1 vwCl ([(h0, .inr (5, [.ref q1])), (q1, zq g 2 4 (va_up (va_up (fun _ => none) 0 (some (u3 0))) 1 (some (u5 0))))] ++ zblk g u3 ++ zblk g u5 ++ [(q6, .inr (4, [.null, .null, .null, .null]))]) H := hP
  have hD : va_D A ([(h0, .inr (5, [.ref q1])), (q1, zq g 2 4 (va_up (va_up (fun _ => none) 0 (some (u3 0))) 1 (some (u5 0))))] ++ zblk g u3 ++ zblk g u5 ++ [(q6, .inr (4, [.null, .null, .null, .null]))]) := hD
  refine W.widen (k := 34) (n := 564) (Nat.le_of_ble_eq_true rfl) (Nat.le_of_ble_eq_true rfl) ?_
  refine lv_dup hx hb dX5_init_31 rfl ?_
  have hPc := hP.sub (ws' := [(q6, .inr (4, [.null, .null, .null, .null]))]) [34] rfl
  have hDc := hD.sub (ws' := [(q6, .inr (4, [.null, .null, .null, .null]))]) [34] (by decide) rfl
  have hFc := va_free (wc := [(q6, .inr (4, [.null, .null, .null, .null]))]) hD hS hA [34] rfl
  refine va_callv (va_runI (As := []) (rest := [.ref q6, .int (nI 2), .ref q1]) ⟨hx, hb, hml, hown, hts⟩ (c_X4_init l hg0 q6 H.size) (cwI 0 hts gX5_init_X4_init rfl rfl rfl (hts (.initialized RX4) (by decide +kernel)) (hts (.methodLink RX5 15 yX4_init) (by decide +kernel)) (hts (.instanceMethod yX4_init) (by decide +kernel)) rfl (by decide +kernel) ⟨Nat.le_of_ble_eq_true rfl, Nat.le_of_ble_eq_true rfl⟩) ⟨fun a U gg mk q => by obtain ⟨q0, q1, qP, qK, qD, qn⟩ := q; exact ⟨q0, q1, qP, va_K.moved (u := U) (U := U.calling gg mk a) (Vm.Alike.refl U.vm) qK, qD, qn.blind⟩, fun U hU hW => ⟨rfl, by rw [hU], by rw [hU]; exact hPc, va_K.moved hW.alike hK, hDc.weaken (fun _ _ _ _ => trivial), hn.warm hW⟩⟩ rfl rfl hl.1 rfl (lv_room (Nat.le_of_ble_eq_true rfl)) dX5_init_32 ⟨Nat.le_of_ble_eq_true rfl, Nat.le_of_ble_eq_true rfl⟩) hS (fun q _ h => hFc q h) hFc (fun u t H1 locs ht hvm hw hB hz1 hk1 hS => ?_)
  obtain ⟨hP1, hD1⟩ := hB
  rw [ht] at hP1
  obtain ⟨u7, rfl⟩ : ∃ z, z = u := ⟨_, rfl⟩
  obtain rfl : u7 0 = q6 := hw
  obtain ⟨hP, hD⟩ := va_join (wr := ([(h0, .inr (5, [.ref q1])), (q1, zq g 2 4 (va_up (va_up (fun _ => none) 0 (some (u3 0))) 1 (some (u5 0))))] ++ zblk g u3 ++ zblk g u5)) (w1 := zblk g u7) hP hD [34] [0, 1, 2, 3, 4, 5, 6, 7, 8, 9, 10, 11, 12, 13, 14, 15, 16, 17, 18, 19, 20, 21, 22, 23, 24, 25, 26, 27, 28, 29, 30, 31, 32, 33] rfl rfl (by decide) (by decide) hk1 hFc hP1 hD1
  generalize H1 = H at hP hS ⊢
  have hP : va_P g.1 vwCl ([(h0, .inr (5, [.ref q1])), (q1, zq g 2 4 (va_up (va_up (fun _ => none) 0 (some (u3 0))) 1 (some (u5 0))))] ++ zblk g u3 ++ zblk g u5 ++ zblk g u7) H := hP
  have hD : va_D A ([(h0, .inr (5, [.ref q1])), (q1, zq g 2 4 (va_up (va_up (fun _ => none) 0 (some (u3 0))) 1 (some (u5 0))))] ++ zblk g u3 ++ zblk g u5 ++ zblk g u7) := hD
  refine W.widen (k := 49) (n := 838) (Nat.le_of_ble_eq_true rfl) (Nat.le_of_ble_eq_true rfl) ?_
  refine va_astq (ci := 4) (r := (RX4, TX4, 4)) hx hb hK hP hD hS 1 2 34 rfl rfl rfl rfl (vp_in_nI (show 2 < 4 by decide) (by decide)) dX5_init_35 (fun H locs hP hD hS => ?_)
  have hP : va_P g.1 vwCl ([(h0, .inr (5, [.ref q1])), (q1, zq g 2 4 (va_up (va_up (va_up (fun _ => none) 0 (some (u3 0))) 1 (some (u5 0))) 2 (some (u7 0))))] ++ zblk g u3 ++ zblk g u5 ++ zblk g u7) H := hP
  have hD : va_D A ([(h0, .inr (5, [.ref q1])), (q1, zq g 2 4 (va_up (va_up (va_up (fun _ => none) 0 (some (u3 0))) 1 (some (u5 0))) 2 (some (u7 0))))] ++ zblk g u3 ++ zblk g u5 ++ zblk g u7) := hD
  refine lv_iinc (x := nI 2) (v := nI 3) (lv' := [(1, .int (nI 3)), (0, .ref h0)]) (k := 0) hx hb dX5_init_36 hl rfl (by decide) (by decide) rfl (fun ls hl => ?_)
  refine lv_goto hx hb dX5_init_39 (tgt := 14) (by decide) ?_
  refine lv_iload_n hx hb dX5_init_14 rfl (lv_at hl 0 rfl) ?_
  refine lv_aload_n hx hb dX5_init_15 rfl (lv_at hl 1 rfl) ?_
  refine va_get (ci := 5) (v := .ref q1) (C := RX5) (T := TX5) (N := 1) hx hb hts (by decide +kernel) hown hK hP 0 rfl rfl 0 (by decide) (hts (.fieldLink RX5 11 "Countcote" "streams" "[LCountcote$Stream;") (by decide +kernel)) (fun _ h9 => h9) rfl dX5_init_16 ?_
  refine va_alen (v := nI 4) hx hb hK hP 1 2 rfl rfl rfl dX5_init_19 ?_
  refine lv_icmp_ge hx hb dX5_init_20 (tgt := 42) (by decide) (fun h => absurd h (show ¬ (nI 4) ≤ (nI 3) by decide)) (fun _ => ?_)
  refine lv_aload_n hx hb dX5_init_23 rfl (lv_at hl 1 rfl) ?_
  refine va_get (ci := 5) (v := .ref q1) (C := RX5) (T := TX5) (N := 1) hx hb hts (by decide +kernel) hown hK hP 0 rfl rfl 0 (by decide) (hts (.fieldLink RX5 11 "Countcote" "streams" "[LCountcote$Stream;") (by decide +kernel)) (fun _ h9 => h9) rfl dX5_init_24 ?_
  refine lv_iload_n hx hb dX5_init_27 rfl (lv_at hl 0 rfl) ?_
  refine va_new (ci := 4) (fs := [.null, .null, .null, .null]) (C := RX4) (T := TX4) (N := 4) hx hb hts (by decide +kernel) tyX4 tyX4_ok hown (hts (.classLink RX5 9 RX4) (by decide +kernel)) (hts (.instantiable RX4 4) (by decide +kernel)) (hts (.initialized RX4) (by decide +kernel)) hK hP hD hS hA rfl (fun j hj => by rcases (show j = 0 ∨ j = 1 ∨ j = 2 ∨ j = 3 by omega) with rfl | rfl | rfl | rfl <;> rfl) (Nat.le_of_ble_eq_true rfl) (Nat.le_of_ble_eq_true rfl) dX5_init_28 (fun q8 H hP hD hS => ?_)
  have hP : va_P g.1 vwCl ([(h0, .inr (5, [.ref q1])), (q1, zq g 2 4 (va_up (va_up (va_up (fun _ => none) 0 (some (u3 0))) 1 (some (u5 0))) 2 (some (u7 0))))] ++ zblk g u3 ++ zblk g u5 ++ zblk g u7 ++ [(q8, .inr (4, [.null, .null, .null, .null]))]) H := hP
  have hD : va_D A ([(h0, .inr (5, [.ref q1])), (q1, zq g 2 4 (va_up (va_up (va_up (fun _ => none) 0 (some (u3 0))) 1 (some (u5 0))) 2 (some (u7 0))))] ++ zblk g u3 ++ zblk g u5 ++ zblk g u7 ++ [(q8, .inr (4, [.null, .null, .null, .null]))]) := hD
  refine W.widen (k := 50) (n := 842) (Nat.le_of_ble_eq_true rfl) (Nat.le_of_ble_eq_true rfl) ?_
  refine lv_dup hx hb dX5_init_31 rfl ?_
  have hPc := hP.sub (ws' := [(q8, .inr (4, [.null, .null, .null, .null]))]) [50] rfl
  have hDc := hD.sub (ws' := [(q8, .inr (4, [.null, .null, .null, .null]))]) [50] (by decide) rfl
  have hFc := va_free (wc := [(q8, .inr (4, [.null, .null, .null, .null]))]) hD hS hA [50] rfl
  refine va_callv (va_runI (As := []) (rest := [.ref q8, .int (nI 3), .ref q1]) ⟨hx, hb, hml, hown, hts⟩ (c_X4_init l hg0 q8 H.size) (cwI 0 hts gX5_init_X4_init rfl rfl rfl (hts (.initialized RX4) (by decide +kernel)) (hts (.methodLink RX5 15 yX4_init) (by decide +kernel)) (hts (.instanceMethod yX4_init) (by decide +kernel)) rfl (by decide +kernel) ⟨Nat.le_of_ble_eq_true rfl, Nat.le_of_ble_eq_true rfl⟩) ⟨fun a U gg mk q => by obtain ⟨q0, q1, qP, qK, qD, qn⟩ := q; exact ⟨q0, q1, qP, va_K.moved (u := U) (U := U.calling gg mk a) (Vm.Alike.refl U.vm) qK, qD, qn.blind⟩, fun U hU hW => ⟨rfl, by rw [hU], by rw [hU]; exact hPc, va_K.moved hW.alike hK, hDc.weaken (fun _ _ _ _ => trivial), hn.warm hW⟩⟩ rfl rfl hl.1 rfl (lv_room (Nat.le_of_ble_eq_true rfl)) dX5_init_32 ⟨Nat.le_of_ble_eq_true rfl, Nat.le_of_ble_eq_true rfl⟩) hS (fun q _ h => hFc q h) hFc (fun u t H1 locs ht hvm hw hB hz1 hk1 hS => ?_)
  obtain ⟨hP1, hD1⟩ := hB
  rw [ht] at hP1
  obtain ⟨u9, rfl⟩ : ∃ z, z = u := ⟨_, rfl⟩
  obtain rfl : u9 0 = q8 := hw
  obtain ⟨hP, hD⟩ := va_join (wr := ([(h0, .inr (5, [.ref q1])), (q1, zq g 2 4 (va_up (va_up (va_up (fun _ => none) 0 (some (u3 0))) 1 (some (u5 0))) 2 (some (u7 0))))] ++ zblk g u3 ++ zblk g u5 ++ zblk g u7)) (w1 := zblk g u9) hP hD [50] [0, 1, 2, 3, 4, 5, 6, 7, 8, 9, 10, 11, 12, 13, 14, 15, 16, 17, 18, 19, 20, 21, 22, 23, 24, 25, 26, 27, 28, 29, 30, 31, 32, 33, 34, 35, 36, 37, 38, 39, 40, 41, 42, 43, 44, 45, 46, 47, 48, 49] rfl rfl (by decide) (by decide) hk1 hFc hP1 hD1
  generalize H1 = H at hP hS ⊢
  have hP : va_P g.1 vwCl ([(h0, .inr (5, [.ref q1])), (q1, zq g 2 4 (va_up (va_up (va_up (fun _ => none) 0 (some (u3 0))) 1 (some (u5 0))) 2 (some (u7 0))))] ++ zblk g u3 ++ zblk g u5 ++ zblk g u7 ++ zblk g u9) H := hP
  have hD : va_D A ([(h0, .inr (5, [.ref q1])), (q1, zq g 2 4 (va_up (va_up (va_up (fun _ => none) 0 (some (u3 0))) 1 (some (u5 0))) 2 (some (u7 0))))] ++ zblk g u3 ++ zblk g u5 ++ zblk g u7 ++ zblk g u9) := hD
  refine W.widen (k := 65) (n := 1116) (Nat.le_of_ble_eq_true rfl) (Nat.le_of_ble_eq_true rfl) ?_
  refine va_astq (ci := 4) (r := (RX4, TX4, 4)) hx hb hK hP hD hS 1 2 50 rfl rfl rfl rfl (vp_in_nI (show 3 < 4 by decide) (by decide)) dX5_init_35 (fun H locs hP hD hS => ?_)
  have hP : va_P g.1 vwCl ([(h0, .inr (5, [.ref q1])), (q1, zq g 2 4 (va_up (va_up (va_up (va_up (fun _ => none) 0 (some (u3 0))) 1 (some (u5 0))) 2 (some (u7 0))) 3 (some (u9 0))))] ++ zblk g u3 ++ zblk g u5 ++ zblk g u7 ++ zblk g u9) H := hP
  have hD : va_D A ([(h0, .inr (5, [.ref q1])), (q1, zq g 2 4 (va_up (va_up (va_up (va_up (fun _ => none) 0 (some (u3 0))) 1 (some (u5 0))) 2 (some (u7 0))) 3 (some (u9 0))))] ++ zblk g u3 ++ zblk g u5 ++ zblk g u7 ++ zblk g u9) := hD
  refine lv_iinc (x := nI 3) (v := nI 4) (lv' := [(1, .int (nI 4)), (0, .ref h0)]) (k := 0) hx hb dX5_init_36 hl rfl (by decide) (by decide) rfl (fun ls hl => ?_)
  refine lv_goto hx hb dX5_init_39 (tgt := 14) (by decide) ?_
  refine lv_iload_n hx hb dX5_init_14 rfl (lv_at hl 0 rfl) ?_
  refine lv_aload_n hx hb dX5_init_15 rfl (lv_at hl 1 rfl) ?_
  refine va_get (ci := 5) (v := .ref q1) (C := RX5) (T := TX5) (N := 1) hx hb hts (by decide +kernel) hown hK hP 0 rfl rfl 0 (by decide) (hts (.fieldLink RX5 11 "Countcote" "streams" "[LCountcote$Stream;") (by decide +kernel)) (fun _ h9 => h9) rfl dX5_init_16 ?_
  refine va_alen (v := nI 4) hx hb hK hP 1 2 rfl rfl rfl dX5_init_19 ?_
  refine lv_icmp_ge hx hb dX5_init_20 (tgt := 42) (by decide) (fun _ => ?_) (fun h => absurd (show (nI 4) ≤ (nI 4) by decide) h)
  have hP := zP_q hP 1 (fun j => some ((fun j => if j = 0 then u3 else if j = 1 then u5 else if j = 2 then u7 else u9) j 0)) rfl (fun j hj => by rcases (show j = 0 ∨ j = 1 ∨ j = 2 ∨ j = 3 by omega) with rfl | rfl | rfl | rfl <;> rfl)
  have hD := zD_q (e' := zq g 2 4 (fun j => some ((fun j => if j = 0 then u3 else if j = 1 then u5 else if j = 2 then u7 else u9) j 0))) hD 1 rfl
  have hP9 : va_P g.1 vwCl ([(h0, .inr (5, [.ref q1])), (q1, zq g 2 4 (fun j => some ((fun j => if j = 0 then u3 else if j = 1 then u5 else if j = 2 then u7 else u9) j 0)))] ++ zblk g u3 ++ zblk g u5 ++ zblk g u7 ++ zblk g u9) H := hP
  have hD9 : va_D A ([(h0, .inr (5, [.ref q1])), (q1, zq g 2 4 (fun j => some ((fun j => if j = 0 then u3 else if j = 1 then u5 else if j = 2 then u7 else u9) j 0)))] ++ zblk g u3 ++ zblk g u5 ++ zblk g u7 ++ zblk g u9) := hD
  exact W.vret hx hb hr (fun t ht hW => ⟨⟨(q1, (fun j => if j = 0 then u3 else if j = 1 then u5 else if j = 2 then u7 else u9)), rfl, trivial, by rw [ht]; exact hP9, hD9⟩, hS.F ht⟩) hS.2.2 dX5_init_42 hlocks
