/-! ===== methods that catch ===== -/
theorem z_metW {l : Launch} {g : zG} {x : zT} {y : MethodName} {ws ws' : List Cond} {rm : Room} {av : List Value} {Qc : Array Value → State → Outcome → State → Prop} {mc ms : Nat} {cc : ByteArray} {nL : Nat} {ret : Option FieldType} {hh : List (Nat × Nat × Nat × Nat)} (hg : zOk g) (hy : plainName y.cls = true) (hw : ws = Cond.codeWith y cc nL ret hh :: ws') (hav : (lg_sl av).length ≤ nL)
    (body : ∀ (p : Program) (e : Env) (s : State) (m : MethodId) (args : Array Value) (below : List Frame) (meth : Method) (c : Code), zC p s m args meth c g cc nL y.cls ws → meth.sig.returnType = ret → c.exceptionTable.toList = tableOf hh → Z p l e (headSpec ws rm).room s m args below meth c g nL 0 0 (MQ below Qc args s mc ms (zA g)) x 0 (lv_args 0 av) []) : Met l y ws rm (va_Pc av (zPre g x)) Qc mc ms (zA g) := by
  refine va_MetW (cc := cc) (maxL := nL) (ret := ret) (hh := hh) hy hw ?_
  intro p e s m args below meth c s₁ B hml hv
  have htab := vx_table (x := y) B (atoms_spec (ws := ws) B.pre (Cond.codeWith y cc nL ret hh) (by rw [hw]; exact List.mem_cons_self))
  obtain ⟨rfl, h1, h2, h3, h4⟩ := hv
  have hl := lv_entry av (n := nL) hav
  rw [lg_entry_eq]
  exact body p e s m _ below meth c ⟨⟨B.exec, B.bytes, hml, findClass_of_methodNamed B.named, atoms_spec (ws := ws) B.pre⟩, h3, hg, h1, h4, B.notSynchronized⟩ B.returns htab s.heap [] _ h2 va_S.rf hl
/-- an exception of that class is on its way out of the instruction at pc -/
def ZX (p : Program) (l : Launch) (e : Env) (R : Room) (s : State) (m : MethodId) (args : Array Value) (below : List Frame) (meth : Method) (c : Code) (g : zG) (nL cells slots : Nat) (Q : State → Prop) (x : zT) (pc : Nat) (lv : List (Nat × Value)) (st : List Value) (E : String) : Prop :=
  ∀ (H : Heap) (locs : List Loc) (ls : Array Slot) (ce : Cell) (q9 : Nat), va_P g.1 vwCl (zw g x) H → va_S (zA g) s.heap H locs → lv_has ls nL lv → H[q9]? = some ce → ce.vm = .none → s.vm.findClass E = some ce.cls → vx_W p l e R s m args below meth c H locs cells slots Q (F0 m pc ls st) q9
section ZWR
variable {p : Program} {l : Launch} {e : Env} {R : Room} {s : State} {m : MethodId} {args : Array Value} {below : List Frame} {meth : Method} {c : Code} {g : zG} {nL cells slots : Nat} {Q : State → Prop} {x : zT} {lv : List (Nat × Value)} {st : List Value} {cc : ByteArray} {own : String} {Ts : List Cond}
theorem z_catch (pc : Nat) (C : zC p s m args meth c g cc nL own Ts) {T : List ExceptionTableEntry} {E : String} (htab : c.exceptionTable.toList = T) (i : Nat) {x9 : ExceptionTableEntry} (hi : T[i]? = some x9) (hpass : ∀ z ∈ T.take i, covers z pc = false ∨ (z.catchType ≠ 0 ∧ ∃ nm : String, (Cond.classLink own z.catchType nm).before args s = true ∧ va_Nc E nm s)) (hx : covers x9 pc = true) (h0 : x9.catchType ≠ 0) (hlink : (Cond.classLink own x9.catchType E).before args s = true) (hE : E ∈ zxs)
    (kk : ∀ q9 : Nat, Z p l e R s m args below meth c g nL cells slots Q x (x9.handlerPc) lv ([.ref q9])) : ZX p l e R s m args below meth c g nL cells slots Q x pc lv st E := fun H locs ls ce q9 hP hS hl hcell hcv hcl => by
  have hlt := (List.getElem?_eq_some_iff.mp hi).1
  have hsp : T = T.take i ++ x9 :: T.drop (i + 1) := by
    have h1 := List.take_append_drop i T
    rw [List.drop_eq_getElem_cons hlt, (List.getElem?_eq_some_iff.mp hi).2] at h1
    exact h1.symm
  exact vx_catch (name := E) C.1.2.2.2.1 (T.take i) x9 (T.drop (i + 1)) (htab.trans hsp) hpass hx h0 hlink (va_Nw.use rfl (C.2.2.2.2.1.2.1 E hE)) hcell hcv hcl (kk q9 H locs ls hP hS hl)
theorem z_dast (pc : Nat) (C : zC p s m args meth c g cc nL own Ts) {v : UInt64} {d : Nat → UInt64} (hf : vf_upd x.2.2 0 v = d) (hdg : decode cc pc = .ok (.dastore, 1))
    (kk : Z p l e R s m args below meth c g nL cells slots Q (xd x d) (pc + 1) lv (st)) : Z p l e R s m args below meth c g nL cells slots Q x (pc) lv (.double v :: .int (nI 0) :: .ref (zad g 12) :: st) := fun H locs ls hP hS hl => by
  have ha : (zw g x)[12]? = some (zad g 12, .inl (g.2.1 4, 1, .inr (.inr (.inr (.inl x.2.2))))) := by rw [zw_get (by omega)]; rfl
  refine va_dast C.1.1 C.1.2.1 C.2.1 hP (zw_D C.2.2.1 x) hS 12 4 ha rfl (vp_in_nI (n := 0) (N := 1) (by decide) (by decide)) hdg (fun H1 locs1 hP1 hD1 hS1 => ?_)
  rw [nI_clamp (by omega), hf, zw_setd (g := g) (x := x) (d := d) (e := .inl (g.2.1 4, 1, .inr (.inr (.inr (.inl d))))) rfl] at hP1
  exact kk H1 locs1 ls hP1 hS1 hl
theorem z_dald (pc : Nat) (C : zC p s m args meth c g cc nL own Ts) {v : UInt64} (hv : x.2.2 0 = v) (hdg : decode cc pc = .ok (.daload, 1))
    (kk : Z p l e R s m args below meth c g nL cells slots Q x (pc + 1) lv (.double v :: st)) : Z p l e R s m args below meth c g nL cells slots Q x (pc) lv (.int (nI 0) :: .ref (zad g 12) :: st) := fun H locs ls hP hS hl => by
  have ha : (zw g x)[12]? = some (zad g 12, .inl (g.2.1 4, 1, .inr (.inr (.inr (.inl x.2.2))))) := by rw [zw_get (by omega)]; rfl
  refine va_dald C.1.1 C.1.2.1 C.2.1 hP 12 4 ha rfl (vp_in_nI (n := 0) (N := 1) (by decide) (by decide)) hdg ?_
  rw [nI_clamp (by omega), hv]
  exact kk H locs ls hP hS hl
theorem z_callVXi (pc : Nat) (C : zC p s m args meth c g cc nL own Ts) {y : MethodName} {bytes : ByteArray} {maxL mc ms index : Nat} {ret : Option FieldType} {ws : List Cond} {rm : Room} {stk As : List Value} {post : Int32 → zT → Prop} {PX : String → Prop} (n : Nat) {k ci : Nat} {q9 : vw_C} (hk : kO k ci) (hc : vwCl[ci]? = some q9) (hM : vx_Met l y ws rm (va_Pc (.ref (zad g k) :: As) (zPre g x)) (va_Qi post (zB g) (zA g)) (zXC g x PX) mc ms (zA g)) (cw : CallW R s args own q9.1 index y bytes maxL ret ws rm mc ms n) (hn : As.length = n) (hstk : stk = As.reverse ++ .ref (zad g k) :: st) (hroom : (st.map fun v => v.category).sum ≤ 8) (hf : cells + mc ≤ R.cells ∧ slots + ms ≤ R.slots) (hdg : decode cc pc = .ok (.invokevirtual index, 3))
    (kx : ∀ E, PX E → ZX p l e R s m args below meth c g nL (cells + mc) (slots + ms) Q x pc lv st E)
    (kk : ∀ (r : Int32) (u : zT), post r u → Z p l e R s m args below meth c g nL (cells + mc) (slots + ms) Q u (pc + 3) lv (.int r :: st)) : Z p l e R s m args below meth c g nL cells slots Q x (pc) lv (stk) := fun H locs ls hP hS hl => by
  subst hstk
  obtain ⟨fs, h1⟩ := hk.2 g (x.1 k) (x.2.1 k) x.2.2
  refine vx_calli (vx_runV (As := As) (rest := st) C.1 hM cw ⟨zpc_blind, va_recv C.2.1 hP (q0 := k) hc (by rw [zw_get hk.1, h1]), fun U hU hW => ⟨rfl, zpre_at C hP hS hU hW⟩⟩ rfl hn hl.1 rfl (lv_room hroom) hdg hf) hS (fun q _ h => h) (fun q h => h) (fun q _ h => h) (fun E ce q9 u t H1 locs1 ht hvm hw hB hz1 hk1 hS1 hcell hcv hcl => ?_) (fun r u t H1 locs1 ht hvm hw hB hz1 hk1 hS1 => kk r u hw H1 locs1 ls (by rw [← ht]; exact hB) hS1 hl)
  refine kx E hB.2 H1 locs1 ls ce q9 ?_ hS1 hl hcell hcv hcl
  have h2 := hB.1
  rw [show u = x from hw] at h2
  rw [← ht]
  exact h2
theorem z_callVXl (pc : Nat) (C : zC p s m args meth c g cc nL own Ts) {y : MethodName} {bytes : ByteArray} {maxL mc ms index : Nat} {ret : Option FieldType} {ws : List Cond} {rm : Room} {stk As : List Value} {post : Int64 → zT → Prop} {PX : String → Prop} (n : Nat) {k ci : Nat} {q9 : vw_C} (hk : kO k ci) (hc : vwCl[ci]? = some q9) (hM : vx_Met l y ws rm (va_Pc (.ref (zad g k) :: As) (zPre g x)) (va_Ql post (zB g) (zA g)) (zXC g x PX) mc ms (zA g)) (cw : CallW R s args own q9.1 index y bytes maxL ret ws rm mc ms n) (hn : As.length = n) (hstk : stk = As.reverse ++ .ref (zad g k) :: st) (hroom : (st.map fun v => v.category).sum ≤ 8) (hf : cells + mc ≤ R.cells ∧ slots + ms ≤ R.slots) (hdg : decode cc pc = .ok (.invokevirtual index, 3))
    (kx : ∀ E, PX E → ZX p l e R s m args below meth c g nL (cells + mc) (slots + ms) Q x pc lv st E)
    (kk : ∀ (r : Int64) (u : zT), post r u → Z p l e R s m args below meth c g nL (cells + mc) (slots + ms) Q u (pc + 3) lv (.long r :: st)) : Z p l e R s m args below meth c g nL cells slots Q x (pc) lv (stk) := fun H locs ls hP hS hl => by
  subst hstk
  obtain ⟨fs, h1⟩ := hk.2 g (x.1 k) (x.2.1 k) x.2.2
  refine vx_calll (vx_runV (As := As) (rest := st) C.1 hM cw ⟨zpc_blind, va_recv C.2.1 hP (q0 := k) hc (by rw [zw_get hk.1, h1]), fun U hU hW => ⟨rfl, zpre_at C hP hS hU hW⟩⟩ rfl hn hl.1 rfl (lv_room hroom) hdg hf) hS (fun q _ h => h) (fun q h => h) (fun q _ h => h) (fun E ce q9 u t H1 locs1 ht hvm hw hB hz1 hk1 hS1 hcell hcv hcl => ?_) (fun r u t H1 locs1 ht hvm hw hB hz1 hk1 hS1 => kk r u hw H1 locs1 ls (by rw [← ht]; exact hB) hS1 hl)
  refine kx E hB.2 H1 locs1 ls ce q9 ?_ hS1 hl hcell hcv hcl
  have h2 := hB.1
  rw [show u = x from hw] at h2
  rw [← ht]
  exact h2
theorem z_callVXd (pc : Nat) (C : zC p s m args meth c g cc nL own Ts) {y : MethodName} {bytes : ByteArray} {maxL mc ms index : Nat} {ret : Option FieldType} {ws : List Cond} {rm : Room} {stk As : List Value} {post : UInt64 → zT → Prop} {PX : String → Prop} (n : Nat) {k ci : Nat} {q9 : vw_C} (hk : kO k ci) (hc : vwCl[ci]? = some q9) (hM : vx_Met l y ws rm (va_Pc (.ref (zad g k) :: As) (zPre g x)) (va_Qd post (zB g) (zA g)) (zXC g x PX) mc ms (zA g)) (cw : CallW R s args own q9.1 index y bytes maxL ret ws rm mc ms n) (hn : As.length = n) (hstk : stk = As.reverse ++ .ref (zad g k) :: st) (hroom : (st.map fun v => v.category).sum ≤ 8) (hf : cells + mc ≤ R.cells ∧ slots + ms ≤ R.slots) (hdg : decode cc pc = .ok (.invokevirtual index, 3))
    (kx : ∀ E, PX E → ZX p l e R s m args below meth c g nL (cells + mc) (slots + ms) Q x pc lv st E)
    (kk : ∀ (r : UInt64) (u : zT), post r u → Z p l e R s m args below meth c g nL (cells + mc) (slots + ms) Q u (pc + 3) lv (.double r :: st)) : Z p l e R s m args below meth c g nL cells slots Q x (pc) lv (stk) := fun H locs ls hP hS hl => by
  subst hstk
  obtain ⟨fs, h1⟩ := hk.2 g (x.1 k) (x.2.1 k) x.2.2
  refine vx_calld (vx_runV (As := As) (rest := st) C.1 hM cw ⟨zpc_blind, va_recv C.2.1 hP (q0 := k) hc (by rw [zw_get hk.1, h1]), fun U hU hW => ⟨rfl, zpre_at C hP hS hU hW⟩⟩ rfl hn hl.1 rfl (lv_room hroom) hdg hf) hS (fun q _ h => h) (fun q h => h) (fun q _ h => h) (fun E ce q9 u t H1 locs1 ht hvm hw hB hz1 hk1 hS1 hcell hcv hcl => ?_) (fun r u t H1 locs1 ht hvm hw hB hz1 hk1 hS1 => kk r u hw H1 locs1 ls (by rw [← ht]; exact hB) hS1 hl)
  refine kx E hB.2 H1 locs1 ls ce q9 ?_ hS1 hl hcell hcv hcl
  have h2 := hB.1
  rw [show u = x from hw] at h2
  rw [← ht]
  exact h2
end ZWR
/-- what a call of the class leaves -/
def zXP (x u : zT) (S : zS) : Prop := zAll u S ∧ ∀ k, k < 11 → u.1 k = x.1 k ∧ u.2.1 k = x.2.1 k
theorem zSR_out {x y : zT} {j q : Nat} {c d : Nat → Int32} {L : zCL} {aw : Int32} (hO : zOut j x y) (hq : q ≠ j) (h : zSR x q c d L aw) : zSR y q c d L aw := by
  have k : ∀ i, i < 16 → y.1 (zp q i) = x.1 (zp q i) := fun i hi => (hO.1 (zp q i) (by unfold zp; omega)).1
  obtain ⟨h1, h2, h3, h4, h5, h6⟩ := h
  refine ⟨by rw [k 2 (by omega)]; exact h1, by rw [k (7 + 0) (by omega)]; exact h2, by rw [k (7 + 1) (by omega)]; exact h3, by rw [k (7 + 2) (by omega)]; exact h4, by rw [k 11 (by omega)]; exact h5, ?_⟩
  rw [k 13 (by omega), k 14 (by omega), k 15 (by omega)]
  exact h6
theorem zAll_j {x y : zT} {S : zS} {j : Nat} {c d : Nat → Int32} {L : zCL} {aw : Int32} (hA : zAll x S) (hO : zOut j x y) (hN : zSR y j c d L aw) : zAll y (zSj S j c d L aw) := fun q hq => by
  by_cases e : q = j
  · subst e
    exact zSj_s (P := zSR y q) hN
  · exact zSj_n (P := zSR y q) e (zSR_out hO e (hA q hq))
theorem zXP_ro {x : zT} {S : zS} {f : Nat → Int64} (hA : zAll x S) : zXP x (xl x 11 f) S := ⟨fun j hj => hA j hj, fun k hk => ⟨rfl, xl_n _ (by omega)⟩⟩
theorem zXP_ro2 {x : zT} {S : zS} {j : Nat} {h f : Nat → Int64} (hA : zAll x S) : zXP x (xl (xl x (zp j 12) h) 11 f) S := ⟨fun j hj => hA j hj, fun k hk => ⟨rfl, (xl_n _ (by omega)).trans (xl_n _ (by unfold zp; omega))⟩⟩
theorem zXP_d {x : zT} {S : zS} {d : Nat → UInt64} (hA : zAll x S) : zXP x (xd x d) S := ⟨fun j hj => hA j hj, fun k hk => ⟨rfl, rfl⟩⟩
theorem zXP_x {x : zT} {S : zS} (hA : zAll x S) : zXP x x S := ⟨hA, fun k hk => ⟨rfl, rfl⟩⟩
theorem zXP_j {x y : zT} {S : zS} {j : Nat} {c d : Nat → Int32} {L : zCL} {aw : Int32} {f : Nat → Int64} (hA : zAll x S) (hO : zOut j x y) (hN : zSR y j c d L aw) : zXP x (xl y 11 f) (zSj S j c d L aw) :=
  ⟨fun q hq => zAll_j hA hO hN q hq, fun k hk => ⟨(hO.1 k (Or.inl (by unfold zp; omega))).1, (xl_n _ (by omega)).trans (hO.1 k (Or.inl (by unfold zp; omega))).2⟩⟩
theorem zk1_ne {a : Bool} {k : Nat} (h : 1 < k) : ¬ zk1 a = k := by
  cases a
  · show ¬ (1 = k); omega
  · show ¬ (0 = k); omega
theorem zk2_ne {a b : Bool} {k : Nat} (h : 2 < k) : ¬ zk2 a b = k := by
  cases a
  · show ¬ (1 = k); omega
  · cases b
    · show ¬ (2 = k); omega
    · show ¬ (0 = k); omega
set_option maxHeartbeats 4000000 in
set_option maxRecDepth 100000 in
/-- L_add -/
theorem c_L_add (l : Launch) {g : zG} (hg : zOk g) (x : zT) (hls : l.stackTraces = false) (S : zS) (hA : zAll x S) (p0 p1 p2 : Int32) : Met l yL_add wsL_add ({ frames := 8, cells := 4, slots := 24, locals := 137 }) (va_Pc [.ref (zad g 0), .int p0, .int p1, .int p2, .ref (zad g 11)] (zPre g x)) (va_Qi (fun (r : Int32) (u : zT) => r = nI (zk3 (zinb p0 4 && zinb p1 64) (zwib p2 (nI 1) (nI 1000)) (decide (ztot (S.1 p0.toNatClampNeg) + p2 ≤ nI 1000000))) ∧ (zk3 (zinb p0 4 && zinb p1 64) (zwib p2 (nI 1) (nI 1000)) (decide (ztot (S.1 p0.toNatClampNeg) + p2 ≤ nI 1000000)) = 0 → u.2.1 11 0 = (ztot (upd (S.1 p0.toNatClampNeg) p1.toNatClampNeg (S.1 p0.toNatClampNeg p1.toNatClampNeg + p2))).toInt64) ∧ zXP x u (if zk3 (zinb p0 4 && zinb p1 64) (zwib p2 (nI 1) (nI 1000)) (decide (ztot (S.1 p0.toNatClampNeg) + p2 ≤ nI 1000000)) = 0 then zSj S p0.toNatClampNeg (upd (S.1 p0.toNatClampNeg) p1.toNatClampNeg (S.1 p0.toNatClampNeg p1.toNatClampNeg + p2)) (zdput (S.2.1 p0.toNatClampNeg) p1.toNatClampNeg p2) (zadd (S.2.2.1 p0.toNatClampNeg) (nI p1.toNatClampNeg) p2) (S.2.2.2 p0.toNatClampNeg + zaddw (S.2.2.1 p0.toNatClampNeg) (nI p1.toNatClampNeg) p2) else S)) (zB g) (zA g)) 4 24 (zA g) := by
  refine z_metW (cc := cL_add) (nL := 6) (ret := (some .int)) hg (by decide) rfl (Nat.le_of_ble_eq_true rfl) ?_
  intro p_ e_ s_ m_ args_ below_ meth_ c_ C hr htab
  show Z p_ l e_ _ s_ m_ args_ below_ meth_ c_ g 6 0 0 _ x 0 [(0, .ref (zad g 0)), (1, .int p0), (2, .int p1), (3, .int p2), (4, .ref (zad g 11))] []
  have hw_k0 := C.1.2.2.2.2 (.classLink RL 13 zIOB) (by decide +kernel)
  have hw_k1 := C.1.2.2.2.2 (.classLink RL 15 zIAE) (by decide +kernel)
  have hw_k2 := C.1.2.2.2.2 (.classLink RL 17 zISE) (by decide +kernel)
  refine z_aload 0 C dL_add_0 4 rfl ?_
  refine z_iconst (v := nI 0) 2 C dL_add_2 rfl ?_
  refine z_aload_n 3 C dL_add_3 rfl 0 rfl ?_
  refine z_iload_n 4 C dL_add_4 rfl 1 rfl ?_
  refine z_iload_n 5 C dL_add_5 rfl 2 rfl ?_
  refine z_iload_n 6 C dL_add_6 rfl 3 rfl ?_
  refine z_callVXi 7 C (As := [.int p0, .int p1, .int p2]) 3 kO_main rfl (c_X5_add l hls hg x S hA p0 p1 p2) (cwV 3 C.1.2.2.2.2 gL_add_X5_add rfl rfl rfl (by decide +kernel) ⟨Nat.le_of_ble_eq_true rfl, Nat.le_of_ble_eq_true rfl⟩) rfl rfl (Nat.le_of_ble_eq_true rfl) ⟨Nat.le_of_ble_eq_true rfl, Nat.le_of_ble_eq_true rfl⟩ dL_add_7 (fun E hE => ?_) (fun v y hu => ?_)
  · rcases hE with ⟨hk, rfl⟩ | ⟨hk, rfl⟩ | ⟨hk, rfl⟩
    · refine z_catch 7 C (E := zIOB) htab 0 (x9 := (tableOf [(0, 12, 15, 13), (0, 12, 19, 15), (0, 12, 23, 17)]).getD 0 default) rfl (fun z hz => by cases hz) rfl (by decide) hw_k0 (List.mem_of_getElem? (i := 0) rfl) (fun q9 => ?_)
      refine z_astore (lv' := [(5, .ref q9), (0, .ref (zad g 0)), (1, .int p0), (2, .int p1), (3, .int p2), (4, .ref (zad g 11))]) 15 C dL_add_15 (by decide) rfl ?_
      refine z_iconst (v := nI 1) 17 C dL_add_17 rfl ?_
      exact z_iret 18 C hr ⟨by rw [hk], fun h => absurd (hk.symm.trans h) (by decide), by rw [if_neg (fun h => absurd (hk.symm.trans h) (by decide))]; exact zXP_x hA⟩ dL_add_18
    · refine z_catch 7 C (E := zIAE) htab 1 (x9 := (tableOf [(0, 12, 15, 13), (0, 12, 19, 15), (0, 12, 23, 17)]).getD 1 default) rfl (List.forall_mem_cons.mpr ⟨Or.inr ⟨by decide, _, hw_k0, C.2.2.2.2.1.2.2.2.1 _ (List.mem_of_getElem? (i := 0) rfl)⟩, fun z hz => by cases hz⟩) rfl (by decide) hw_k1 (List.mem_of_getElem? (i := 1) rfl) (fun q9 => ?_)
      refine z_astore (lv' := [(5, .ref q9), (0, .ref (zad g 0)), (1, .int p0), (2, .int p1), (3, .int p2), (4, .ref (zad g 11))]) 19 C dL_add_19 (by decide) rfl ?_
      refine z_iconst (v := nI 2) 21 C dL_add_21 rfl ?_
      exact z_iret 22 C hr ⟨by rw [hk], fun h => absurd (hk.symm.trans h) (by decide), by rw [if_neg (fun h => absurd (hk.symm.trans h) (by decide))]; exact zXP_x hA⟩ dL_add_22
    · refine z_catch 7 C (E := zISE) htab 2 (x9 := (tableOf [(0, 12, 15, 13), (0, 12, 19, 15), (0, 12, 23, 17)]).getD 2 default) rfl (List.forall_mem_cons.mpr ⟨Or.inr ⟨by decide, _, hw_k0, C.2.2.2.2.1.2.2.2.1 _ (List.mem_of_getElem? (i := 1) rfl)⟩, List.forall_mem_cons.mpr ⟨Or.inr ⟨by decide, _, hw_k1, C.2.2.2.2.1.2.2.2.1 _ (List.mem_of_getElem? (i := 2) rfl)⟩, fun z hz => by cases hz⟩⟩) rfl (by decide) hw_k2 (List.mem_of_getElem? (i := 2) rfl) (fun q9 => ?_)
      refine z_astore (lv' := [(5, .ref q9), (0, .ref (zad g 0)), (1, .int p0), (2, .int p1), (3, .int p2), (4, .ref (zad g 11))]) 23 C dL_add_23 (by decide) rfl ?_
      refine z_iconst (v := nI 3) 25 C dL_add_25 rfl ?_
      exact z_iret 26 C hr ⟨by rw [hk], fun h => absurd (hk.symm.trans h) (by decide), by rw [if_neg (fun h => absurd (hk.symm.trans h) (by decide))]; exact zXP_x hA⟩ dL_add_26
  · obtain ⟨h0, j, i, hj, hi, rfl, rfl, hO, hN, rfl⟩ := hu
    have hclj := nI_clamp (n := j) (by omega)
    have hcli := nI_clamp (n := i) (by omega)
    obtain ⟨v9, hv9, hv8⟩ : ∃ v9 : Int32, v9 = ztot (upd (S.1 (nI j).toNatClampNeg) (nI i).toNatClampNeg (S.1 (nI j).toNatClampNeg (nI i).toNatClampNeg + p2)) ∧ ztot (upd (S.1 (nI j).toNatClampNeg) (nI i).toNatClampNeg (S.1 (nI j).toNatClampNeg (nI i).toNatClampNeg + p2)) = ztot (upd (S.1 j) i (S.1 j i + p2)) := ⟨_, rfl, by simp only [hclj, hcli]⟩
    rw [← hv8, ← hv9]
    refine z_i2l (v := v9.toInt64) 10 C dL_add_10 rfl ?_
    obtain ⟨f1, ef1⟩ : ∃ f9 : Nat → Int64, f9 = vp_updL (y.2.1 11) 0 v9.toInt64 := ⟨_, rfl⟩
    refine z_last (f := f1) 11 C kL_11 (by omega) (by exact ef1.symm) dL_add_11 ?_
    refine z_goto 12 C 27 dL_add_12 (by decide) ?_
    refine z_iconst (v := nI 0) 27 C dL_add_27 rfl ?_
    exact z_iret 28 C hr ⟨by rw [h0], fun _ => by rw [xl_s, ef1]; first | exact pk_uLs | (rw [← hv9]; exact pk_uLs), (by rw [if_pos h0]; simp only [hclj, hcli]; exact zXP_j hA hO hN)⟩ dL_add_28
set_option maxHeartbeats 4000000 in
set_option maxRecDepth 100000 in
/-- L_merge -/
theorem c_L_merge (l : Launch) {g : zG} (hg : zOk g) (x : zT) (hls : l.stackTraces = false) (S : zS) (hA : zAll x S) (p0 p1 : Int32) : Met l yL_merge wsL_merge ({ frames := 8, cells := 4, slots := 24, locals := 127 }) (va_Pc [.ref (zad g 0), .int p0, .int p1, .ref (zad g 11)] (zPre g x)) (va_Qi (fun (r : Int32) (u : zT) => r = nI (zk3 (zinb p0 4 && zinb p1 4) (decide (p0 ≠ p1)) (decide (ztot (S.1 p0.toNatClampNeg) + ztot (S.1 p1.toNatClampNeg) ≤ nI 1000000))) ∧ (zk3 (zinb p0 4 && zinb p1 4) (decide (p0 ≠ p1)) (decide (ztot (S.1 p0.toNatClampNeg) + ztot (S.1 p1.toNatClampNeg) ≤ nI 1000000)) = 0 → u.2.1 11 0 = (ztot (fun k => S.1 p0.toNatClampNeg k + S.1 p1.toNatClampNeg k)).toInt64) ∧ zXP x u (if zk3 (zinb p0 4 && zinb p1 4) (decide (p0 ≠ p1)) (decide (ztot (S.1 p0.toNatClampNeg) + ztot (S.1 p1.toNatClampNeg) ≤ nI 1000000)) = 0 then zSj S p0.toNatClampNeg (fun k => S.1 p0.toNatClampNeg k + S.1 p1.toNatClampNeg k) (fun k => S.2.1 p0.toNatClampNeg k + S.2.1 p1.toNatClampNeg k) (zmrg (S.2.2.1 p0.toNatClampNeg) (S.2.2.1 p1.toNatClampNeg)) (S.2.2.2 p0.toNatClampNeg + S.2.2.2 p1.toNatClampNeg + zmrgw (S.2.2.1 p0.toNatClampNeg) (S.2.2.1 p1.toNatClampNeg)) else S)) (zB g) (zA g)) 4 24 (zA g) := by
  refine z_metW (cc := cL_merge) (nL := 5) (ret := (some .int)) hg (by decide) rfl (Nat.le_of_ble_eq_true rfl) ?_
  intro p_ e_ s_ m_ args_ below_ meth_ c_ C hr htab
  show Z p_ l e_ _ s_ m_ args_ below_ meth_ c_ g 5 0 0 _ x 0 [(0, .ref (zad g 0)), (1, .int p0), (2, .int p1), (3, .ref (zad g 11))] []
  have hw_k0 := C.1.2.2.2.2 (.classLink RL 13 zIOB) (by decide +kernel)
  have hw_k1 := C.1.2.2.2.2 (.classLink RL 15 zIAE) (by decide +kernel)
  have hw_k2 := C.1.2.2.2.2 (.classLink RL 17 zISE) (by decide +kernel)
  refine z_aload_n 0 C dL_merge_0 rfl 3 rfl ?_
  refine z_iconst (v := nI 0) 1 C dL_merge_1 rfl ?_
  refine z_aload_n 2 C dL_merge_2 rfl 0 rfl ?_
  refine z_iload_n 3 C dL_merge_3 rfl 1 rfl ?_
  refine z_iload_n 4 C dL_merge_4 rfl 2 rfl ?_
  refine z_callVXi 5 C (As := [.int p0, .int p1]) 2 kO_main rfl (c_X5_merge l hls hg x S hA p0 p1) (cwV 2 C.1.2.2.2.2 gL_merge_X5_merge rfl rfl rfl (by decide +kernel) ⟨Nat.le_of_ble_eq_true rfl, Nat.le_of_ble_eq_true rfl⟩) rfl rfl (Nat.le_of_ble_eq_true rfl) ⟨Nat.le_of_ble_eq_true rfl, Nat.le_of_ble_eq_true rfl⟩ dL_merge_5 (fun E hE => ?_) (fun v y hu => ?_)
  · rcases hE with ⟨hk, rfl⟩ | ⟨hk, rfl⟩ | ⟨hk, rfl⟩
    · refine z_catch 5 C (E := zIOB) htab 0 (x9 := (tableOf [(0, 10, 13, 13), (0, 10, 17, 15), (0, 10, 21, 17)]).getD 0 default) rfl (fun z hz => by cases hz) rfl (by decide) hw_k0 (List.mem_of_getElem? (i := 0) rfl) (fun q9 => ?_)
      refine z_astore (lv' := [(4, .ref q9), (0, .ref (zad g 0)), (1, .int p0), (2, .int p1), (3, .ref (zad g 11))]) 13 C dL_merge_13 (by decide) rfl ?_
      refine z_iconst (v := nI 1) 15 C dL_merge_15 rfl ?_
      exact z_iret 16 C hr ⟨by rw [hk], fun h => absurd (hk.symm.trans h) (by decide), by rw [if_neg (fun h => absurd (hk.symm.trans h) (by decide))]; exact zXP_x hA⟩ dL_merge_16
    · refine z_catch 5 C (E := zIAE) htab 1 (x9 := (tableOf [(0, 10, 13, 13), (0, 10, 17, 15), (0, 10, 21, 17)]).getD 1 default) rfl (List.forall_mem_cons.mpr ⟨Or.inr ⟨by decide, _, hw_k0, C.2.2.2.2.1.2.2.2.1 _ (List.mem_of_getElem? (i := 0) rfl)⟩, fun z hz => by cases hz⟩) rfl (by decide) hw_k1 (List.mem_of_getElem? (i := 1) rfl) (fun q9 => ?_)
      refine z_astore (lv' := [(4, .ref q9), (0, .ref (zad g 0)), (1, .int p0), (2, .int p1), (3, .ref (zad g 11))]) 17 C dL_merge_17 (by decide) rfl ?_
      refine z_iconst (v := nI 2) 19 C dL_merge_19 rfl ?_
      exact z_iret 20 C hr ⟨by rw [hk], fun h => absurd (hk.symm.trans h) (by decide), by rw [if_neg (fun h => absurd (hk.symm.trans h) (by decide))]; exact zXP_x hA⟩ dL_merge_20
    · refine z_catch 5 C (E := zISE) htab 2 (x9 := (tableOf [(0, 10, 13, 13), (0, 10, 17, 15), (0, 10, 21, 17)]).getD 2 default) rfl (List.forall_mem_cons.mpr ⟨Or.inr ⟨by decide, _, hw_k0, C.2.2.2.2.1.2.2.2.1 _ (List.mem_of_getElem? (i := 1) rfl)⟩, List.forall_mem_cons.mpr ⟨Or.inr ⟨by decide, _, hw_k1, C.2.2.2.2.1.2.2.2.1 _ (List.mem_of_getElem? (i := 2) rfl)⟩, fun z hz => by cases hz⟩⟩) rfl (by decide) hw_k2 (List.mem_of_getElem? (i := 2) rfl) (fun q9 => ?_)
      refine z_astore (lv' := [(4, .ref q9), (0, .ref (zad g 0)), (1, .int p0), (2, .int p1), (3, .ref (zad g 11))]) 21 C dL_merge_21 (by decide) rfl ?_
      refine z_iconst (v := nI 3) 23 C dL_merge_23 rfl ?_
      exact z_iret 24 C hr ⟨by rw [hk], fun h => absurd (hk.symm.trans h) (by decide), by rw [if_neg (fun h => absurd (hk.symm.trans h) (by decide))]; exact zXP_x hA⟩ dL_merge_24
  · obtain ⟨h0, j, o, hj, ho, rfl, rfl, hne, hO, hN, rfl⟩ := hu
    have hclj := nI_clamp (n := j) (by omega)
    have hclo := nI_clamp (n := o) (by omega)
    obtain ⟨v9, hv9, hv8⟩ : ∃ v9 : Int32, v9 = ztot (fun k => S.1 (nI j).toNatClampNeg k + S.1 (nI o).toNatClampNeg k) ∧ ztot (fun k => S.1 (nI j).toNatClampNeg k + S.1 (nI o).toNatClampNeg k) = ztot (fun k => S.1 j k + S.1 o k) := ⟨_, rfl, by simp only [hclj, hclo]⟩
    rw [← hv8, ← hv9]
    refine z_i2l (v := v9.toInt64) 8 C dL_merge_8 rfl ?_
    obtain ⟨f1, ef1⟩ : ∃ f9 : Nat → Int64, f9 = vp_updL (y.2.1 11) 0 v9.toInt64 := ⟨_, rfl⟩
    refine z_last (f := f1) 9 C kL_11 (by omega) (by exact ef1.symm) dL_merge_9 ?_
    refine z_goto 10 C 25 dL_merge_10 (by decide) ?_
    refine z_iconst (v := nI 0) 25 C dL_merge_25 rfl ?_
    exact z_iret 26 C hr ⟨by rw [h0], fun _ => by rw [xl_s, ef1]; first | exact pk_uLs | (rw [← hv9]; exact pk_uLs), (by rw [if_pos h0]; simp only [hclj, hclo]; exact zXP_j hA hO hN)⟩ dL_merge_26
set_option maxHeartbeats 4000000 in
set_option maxRecDepth 100000 in
/-- L_clear -/
theorem c_L_clear (l : Launch) {g : zG} (hg : zOk g) (x : zT) (hls : l.stackTraces = false) (S : zS) (hA : zAll x S) (p0 : Int32) : Met l yL_clear wsL_clear ({ frames := 8, cells := 1, slots := 6, locals := 125 }) (va_Pc [.ref (zad g 0), .int p0, .ref (zad g 11)] (zPre g x)) (va_Qi (fun (r : Int32) (u : zT) => r = nI (zk1 (zinb p0 4)) ∧ (zk1 (zinb p0 4) = 0 → u.2.1 11 0 = (ztot (S.1 p0.toNatClampNeg)).toInt64) ∧ zXP x u (if zk1 (zinb p0 4) = 0 then zSj S p0.toNatClampNeg (fun _ => 0) (fun _ => 0) [] 0 else S)) (zB g) (zA g)) 1 6 (zA g) := by
  refine z_metW (cc := cL_clear) (nL := 4) (ret := (some .int)) hg (by decide) rfl (Nat.le_of_ble_eq_true rfl) ?_
  intro p_ e_ s_ m_ args_ below_ meth_ c_ C hr htab
  show Z p_ l e_ _ s_ m_ args_ below_ meth_ c_ g 4 0 0 _ x 0 [(0, .ref (zad g 0)), (1, .int p0), (2, .ref (zad g 11))] []
  have hw_k0 := C.1.2.2.2.2 (.classLink RL 13 zIOB) (by decide +kernel)
  refine z_aload_n 0 C dL_clear_0 rfl 2 rfl ?_
  refine z_iconst (v := nI 0) 1 C dL_clear_1 rfl ?_
  refine z_aload_n 2 C dL_clear_2 rfl 0 rfl ?_
  refine z_iload_n 3 C dL_clear_3 rfl 1 rfl ?_
  refine z_callVXi 4 C (As := [.int p0]) 1 kO_main rfl (c_X5_clear l hls hg x S hA p0) (cwV 1 C.1.2.2.2.2 gL_clear_X5_clear rfl rfl rfl (by decide +kernel) ⟨Nat.le_of_ble_eq_true rfl, Nat.le_of_ble_eq_true rfl⟩) rfl rfl (Nat.le_of_ble_eq_true rfl) ⟨Nat.le_of_ble_eq_true rfl, Nat.le_of_ble_eq_true rfl⟩ dL_clear_4 (fun E hE => ?_) (fun v y hu => ?_)
  · rcases hE with ⟨hk, rfl⟩ | ⟨hk, rfl⟩ | ⟨hk, rfl⟩
    · refine z_catch 4 C (E := zIOB) htab 0 (x9 := (tableOf [(0, 9, 12, 13)]).getD 0 default) rfl (fun z hz => by cases hz) rfl (by decide) hw_k0 (List.mem_of_getElem? (i := 0) rfl) (fun q9 => ?_)
      refine z_astore_n (lv' := [(3, .ref q9), (0, .ref (zad g 0)), (1, .int p0), (2, .ref (zad g 11))]) 12 C dL_clear_12 rfl (by decide) rfl ?_
      refine z_iconst (v := nI 1) 13 C dL_clear_13 rfl ?_
      exact z_iret 14 C hr ⟨by rw [hk], fun h => absurd (hk.symm.trans h) (by decide), by rw [if_neg (fun h => absurd (hk.symm.trans h) (by decide))]; exact zXP_x hA⟩ dL_clear_14
    · exact absurd hk (zk1_ne (by decide))
    · exact absurd hk (zk1_ne (by decide))
  · obtain ⟨h0, j, hj, rfl, hO, hN, rfl⟩ := hu
    have hclj := nI_clamp (n := j) (by omega)
    obtain ⟨v9, hv9, hv8⟩ : ∃ v9 : Int32, v9 = ztot (S.1 (nI j).toNatClampNeg) ∧ ztot (S.1 (nI j).toNatClampNeg) = ztot (S.1 j) := ⟨_, rfl, by simp only [hclj]⟩
    rw [← hv8, ← hv9]
    refine z_i2l (v := v9.toInt64) 7 C dL_clear_7 rfl ?_
    obtain ⟨f1, ef1⟩ : ∃ f9 : Nat → Int64, f9 = vp_updL (y.2.1 11) 0 v9.toInt64 := ⟨_, rfl⟩
    refine z_last (f := f1) 8 C kL_11 (by omega) (by exact ef1.symm) dL_clear_8 ?_
    refine z_goto 9 C 15 dL_clear_9 (by decide) ?_
    refine z_iconst (v := nI 0) 15 C dL_clear_15 rfl ?_
    exact z_iret 16 C hr ⟨by rw [h0], fun _ => by rw [xl_s, ef1]; first | exact pk_uLs | (rw [← hv9]; exact pk_uLs), (by rw [if_pos h0]; simp only [hclj]; exact zXP_j hA hO hN)⟩ dL_clear_16
set_option maxHeartbeats 4000000 in
set_option maxRecDepth 100000 in
/-- L_total -/
theorem c_L_total (l : Launch) {g : zG} (hg : zOk g) (x : zT) (hls : l.stackTraces = false) (S : zS) (hA : zAll x S) (p0 : Int32) : Met l yL_total wsL_total ({ frames := 8, cells := 1, slots := 6, locals := 124 }) (va_Pc [.ref (zad g 0), .int p0, .ref (zad g 11)] (zPre g x)) (va_Qi (fun (r : Int32) (u : zT) => r = nI (zk1 (zinb p0 4)) ∧ (zk1 (zinb p0 4) = 0 → u.2.1 11 0 = (ztot (S.1 p0.toNatClampNeg)).toInt64) ∧ zXP x u S) (zB g) (zA g)) 1 6 (zA g) := by
  refine z_metW (cc := cL_total) (nL := 4) (ret := (some .int)) hg (by decide) rfl (Nat.le_of_ble_eq_true rfl) ?_
  intro p_ e_ s_ m_ args_ below_ meth_ c_ C hr htab
  show Z p_ l e_ _ s_ m_ args_ below_ meth_ c_ g 4 0 0 _ x 0 [(0, .ref (zad g 0)), (1, .int p0), (2, .ref (zad g 11))] []
  have hw_k0 := C.1.2.2.2.2 (.classLink RL 13 zIOB) (by decide +kernel)
  refine z_aload_n 0 C dL_total_0 rfl 2 rfl ?_
  refine z_iconst (v := nI 0) 1 C dL_total_1 rfl ?_
  refine z_aload_n 2 C dL_total_2 rfl 0 rfl ?_
  refine z_iload_n 3 C dL_total_3 rfl 1 rfl ?_
  refine z_callVXi 4 C (As := [.int p0]) 1 kO_main rfl (c_X5_total l hls hg x S hA p0) (cwV 1 C.1.2.2.2.2 gL_total_X5_total rfl rfl rfl (by decide +kernel) ⟨Nat.le_of_ble_eq_true rfl, Nat.le_of_ble_eq_true rfl⟩) rfl rfl (Nat.le_of_ble_eq_true rfl) ⟨Nat.le_of_ble_eq_true rfl, Nat.le_of_ble_eq_true rfl⟩ dL_total_4 (fun E hE => ?_) (fun v y hu => ?_)
  · rcases hE with ⟨hk, rfl⟩ | ⟨hk, rfl⟩ | ⟨hk, rfl⟩
    · refine z_catch 4 C (E := zIOB) htab 0 (x9 := (tableOf [(0, 9, 12, 13)]).getD 0 default) rfl (fun z hz => by cases hz) rfl (by decide) hw_k0 (List.mem_of_getElem? (i := 0) rfl) (fun q9 => ?_)
      refine z_astore_n (lv' := [(3, .ref q9), (0, .ref (zad g 0)), (1, .int p0), (2, .ref (zad g 11))]) 12 C dL_total_12 rfl (by decide) rfl ?_
      refine z_iconst (v := nI 1) 13 C dL_total_13 rfl ?_
      exact z_iret 14 C hr ⟨by rw [hk], fun h => absurd (hk.symm.trans h) (by decide), zXP_x hA⟩ dL_total_14
    · exact absurd hk (zk1_ne (by decide))
    · exact absurd hk (zk1_ne (by decide))
  · obtain ⟨h0, j, hj, rfl, hyx, rfl⟩ := hu
    replace hyx := hyx.symm
    subst hyx
    have hclj := nI_clamp (n := j) (by omega)
    obtain ⟨v9, hv9, hv8⟩ : ∃ v9 : Int32, v9 = ztot (S.1 (nI j).toNatClampNeg) ∧ ztot (S.1 (nI j).toNatClampNeg) = ztot (S.1 j) := ⟨_, rfl, by simp only [hclj]⟩
    rw [← hv8, ← hv9]
    refine z_i2l (v := v9.toInt64) 7 C dL_total_7 rfl ?_
    obtain ⟨f1, ef1⟩ : ∃ f9 : Nat → Int64, f9 = vp_updL (x.2.1 11) 0 v9.toInt64 := ⟨_, rfl⟩
    refine z_last (f := f1) 8 C kL_11 (by omega) (by exact ef1.symm) dL_total_8 ?_
    refine z_goto 9 C 15 dL_total_9 (by decide) ?_
    refine z_iconst (v := nI 0) 15 C dL_total_15 rfl ?_
    exact z_iret 16 C hr ⟨by rw [h0], fun _ => by rw [xl_s, ef1]; first | exact pk_uLs | (rw [← hv9]; exact pk_uLs), zXP_ro hA⟩ dL_total_16
set_option maxHeartbeats 4000000 in
set_option maxRecDepth 100000 in
/-- L_count -/
theorem c_L_count (l : Launch) {g : zG} (hg : zOk g) (x : zT) (hls : l.stackTraces = false) (S : zS) (hA : zAll x S) (p0 p1 : Int32) : Met l yL_count wsL_count ({ frames := 8, cells := 2, slots := 12, locals := 125 }) (va_Pc [.ref (zad g 0), .int p0, .int p1, .ref (zad g 11)] (zPre g x)) (va_Qi (fun (r : Int32) (u : zT) => r = nI (zk1 (zinb p0 4 && zinb p1 64)) ∧ (zk1 (zinb p0 4 && zinb p1 64) = 0 → u.2.1 11 0 = (S.1 p0.toNatClampNeg p1.toNatClampNeg).toInt64) ∧ zXP x u S) (zB g) (zA g)) 2 12 (zA g) := by
  refine z_metW (cc := cL_count) (nL := 5) (ret := (some .int)) hg (by decide) rfl (Nat.le_of_ble_eq_true rfl) ?_
  intro p_ e_ s_ m_ args_ below_ meth_ c_ C hr htab
  show Z p_ l e_ _ s_ m_ args_ below_ meth_ c_ g 5 0 0 _ x 0 [(0, .ref (zad g 0)), (1, .int p0), (2, .int p1), (3, .ref (zad g 11))] []
  have hw_k0 := C.1.2.2.2.2 (.classLink RL 13 zIOB) (by decide +kernel)
  refine z_aload_n 0 C dL_count_0 rfl 3 rfl ?_
  refine z_iconst (v := nI 0) 1 C dL_count_1 rfl ?_
  refine z_aload_n 2 C dL_count_2 rfl 0 rfl ?_
  refine z_iload_n 3 C dL_count_3 rfl 1 rfl ?_
  refine z_iload_n 4 C dL_count_4 rfl 2 rfl ?_
  refine z_callVXi 5 C (As := [.int p0, .int p1]) 2 kO_main rfl (c_X5_count l hls hg x S hA p0 p1) (cwV 2 C.1.2.2.2.2 gL_count_X5_count rfl rfl rfl (by decide +kernel) ⟨Nat.le_of_ble_eq_true rfl, Nat.le_of_ble_eq_true rfl⟩) rfl rfl (Nat.le_of_ble_eq_true rfl) ⟨Nat.le_of_ble_eq_true rfl, Nat.le_of_ble_eq_true rfl⟩ dL_count_5 (fun E hE => ?_) (fun v y hu => ?_)
  · rcases hE with ⟨hk, rfl⟩ | ⟨hk, rfl⟩ | ⟨hk, rfl⟩
    · refine z_catch 5 C (E := zIOB) htab 0 (x9 := (tableOf [(0, 10, 13, 13)]).getD 0 default) rfl (fun z hz => by cases hz) rfl (by decide) hw_k0 (List.mem_of_getElem? (i := 0) rfl) (fun q9 => ?_)
      refine z_astore (lv' := [(4, .ref q9), (0, .ref (zad g 0)), (1, .int p0), (2, .int p1), (3, .ref (zad g 11))]) 13 C dL_count_13 (by decide) rfl ?_
      refine z_iconst (v := nI 1) 15 C dL_count_15 rfl ?_
      exact z_iret 16 C hr ⟨by rw [hk], fun h => absurd (hk.symm.trans h) (by decide), zXP_x hA⟩ dL_count_16
    · exact absurd hk (zk1_ne (by decide))
    · exact absurd hk (zk1_ne (by decide))
  · obtain ⟨h0, j, i, hj, hi, rfl, rfl, hyx, rfl⟩ := hu
    replace hyx := hyx.symm
    subst hyx
    have hclj := nI_clamp (n := j) (by omega)
    have hcli := nI_clamp (n := i) (by omega)
    obtain ⟨v9, hv9, hv8⟩ : ∃ v9 : Int32, v9 = S.1 (nI j).toNatClampNeg (nI i).toNatClampNeg ∧ S.1 (nI j).toNatClampNeg (nI i).toNatClampNeg = S.1 j i := ⟨_, rfl, by simp only [hclj, hcli]⟩
    rw [← hv8, ← hv9]
    refine z_i2l (v := v9.toInt64) 8 C dL_count_8 rfl ?_
    obtain ⟨f1, ef1⟩ : ∃ f9 : Nat → Int64, f9 = vp_updL (x.2.1 11) 0 v9.toInt64 := ⟨_, rfl⟩
    refine z_last (f := f1) 9 C kL_11 (by omega) (by exact ef1.symm) dL_count_9 ?_
    refine z_goto 10 C 17 dL_count_10 (by decide) ?_
    refine z_iconst (v := nI 0) 17 C dL_count_17 rfl ?_
    exact z_iret 18 C hr ⟨by rw [h0], fun _ => by rw [xl_s, ef1]; first | exact pk_uLs | (rw [← hv9]; exact pk_uLs), zXP_ro hA⟩ dL_count_18
set_option maxHeartbeats 4000000 in
set_option maxRecDepth 100000 in
/-- L_countOfRange -/
theorem c_L_countOfRange (l : Launch) {g : zG} (hg : zOk g) (x : zT) (hls : l.stackTraces = false) (S : zS) (hA : zAll x S) (p0 p1 p2 : Int32) : Met l yL_countOfRange wsL_countOfRange ({ frames := 9, cells := 4, slots := 24, locals := 147 }) (va_Pc [.ref (zad g 0), .int p0, .int p1, .int p2, .ref (zad g 11)] (zPre g x)) (va_Qi (fun (r : Int32) (u : zT) => r = nI (zk2 (zinb p0 4 && (zinb p1 64 && zinb p2 64)) (decide (p1 ≤ p2))) ∧ (zk2 (zinb p0 4 && (zinb p1 64 && zinb p2 64)) (decide (p1 ≤ p2)) = 0 → u.2.1 11 0 = (zsum (S.1 p0.toNatClampNeg) p1.toNatClampNeg (p2.toNatClampNeg + 1 - p1.toNatClampNeg)).toInt64) ∧ zXP x u S) (zB g) (zA g)) 4 24 (zA g) := by
  refine z_metW (cc := cL_countOfRange) (nL := 6) (ret := (some .int)) hg (by decide) rfl (Nat.le_of_ble_eq_true rfl) ?_
  intro p_ e_ s_ m_ args_ below_ meth_ c_ C hr htab
  show Z p_ l e_ _ s_ m_ args_ below_ meth_ c_ g 6 0 0 _ x 0 [(0, .ref (zad g 0)), (1, .int p0), (2, .int p1), (3, .int p2), (4, .ref (zad g 11))] []
  have hw_k0 := C.1.2.2.2.2 (.classLink RL 13 zIOB) (by decide +kernel)
  have hw_k1 := C.1.2.2.2.2 (.classLink RL 15 zIAE) (by decide +kernel)
  refine z_aload 0 C dL_countOfRange_0 4 rfl ?_
  refine z_iconst (v := nI 0) 2 C dL_countOfRange_2 rfl ?_
  refine z_aload_n 3 C dL_countOfRange_3 rfl 0 rfl ?_
  refine z_iload_n 4 C dL_countOfRange_4 rfl 1 rfl ?_
  refine z_iload_n 5 C dL_countOfRange_5 rfl 2 rfl ?_
  refine z_iload_n 6 C dL_countOfRange_6 rfl 3 rfl ?_
  refine z_callVXi 7 C (As := [.int p0, .int p1, .int p2]) 3 kO_main rfl (c_X5_countOfRange l hls hg x S hA p0 p1 p2) (cwV 3 C.1.2.2.2.2 gL_countOfRange_X5_countOfRange rfl rfl rfl (by decide +kernel) ⟨Nat.le_of_ble_eq_true rfl, Nat.le_of_ble_eq_true rfl⟩) rfl rfl (Nat.le_of_ble_eq_true rfl) ⟨Nat.le_of_ble_eq_true rfl, Nat.le_of_ble_eq_true rfl⟩ dL_countOfRange_7 (fun E hE => ?_) (fun v y hu => ?_)
  · rcases hE with ⟨hk, rfl⟩ | ⟨hk, rfl⟩ | ⟨hk, rfl⟩
    · refine z_catch 7 C (E := zIOB) htab 0 (x9 := (tableOf [(0, 12, 15, 13), (0, 12, 19, 15)]).getD 0 default) rfl (fun z hz => by cases hz) rfl (by decide) hw_k0 (List.mem_of_getElem? (i := 0) rfl) (fun q9 => ?_)
      refine z_astore (lv' := [(5, .ref q9), (0, .ref (zad g 0)), (1, .int p0), (2, .int p1), (3, .int p2), (4, .ref (zad g 11))]) 15 C dL_countOfRange_15 (by decide) rfl ?_
      refine z_iconst (v := nI 1) 17 C dL_countOfRange_17 rfl ?_
      exact z_iret 18 C hr ⟨by rw [hk], fun h => absurd (hk.symm.trans h) (by decide), zXP_x hA⟩ dL_countOfRange_18
    · refine z_catch 7 C (E := zIAE) htab 1 (x9 := (tableOf [(0, 12, 15, 13), (0, 12, 19, 15)]).getD 1 default) rfl (List.forall_mem_cons.mpr ⟨Or.inr ⟨by decide, _, hw_k0, C.2.2.2.2.1.2.2.2.1 _ (List.mem_of_getElem? (i := 0) rfl)⟩, fun z hz => by cases hz⟩) rfl (by decide) hw_k1 (List.mem_of_getElem? (i := 1) rfl) (fun q9 => ?_)
      refine z_astore (lv' := [(5, .ref q9), (0, .ref (zad g 0)), (1, .int p0), (2, .int p1), (3, .int p2), (4, .ref (zad g 11))]) 19 C dL_countOfRange_19 (by decide) rfl ?_
      refine z_iconst (v := nI 2) 21 C dL_countOfRange_21 rfl ?_
      exact z_iret 22 C hr ⟨by rw [hk], fun h => absurd (hk.symm.trans h) (by decide), zXP_x hA⟩ dL_countOfRange_22
    · exact absurd hk (zk2_ne (by decide))
  · obtain ⟨h0, j, a, b, hj, hab, hb, rfl, rfl, rfl, hyx, rfl⟩ := hu
    replace hyx := hyx.symm
    subst hyx
    have hclj := nI_clamp (n := j) (by omega)
    have hcla := nI_clamp (n := a) (by omega)
    have hclb := nI_clamp (n := b) (by omega)
    obtain ⟨v9, hv9, hv8⟩ : ∃ v9 : Int32, v9 = zsum (S.1 (nI j).toNatClampNeg) (nI a).toNatClampNeg ((nI b).toNatClampNeg + 1 - (nI a).toNatClampNeg) ∧ zsum (S.1 (nI j).toNatClampNeg) (nI a).toNatClampNeg ((nI b).toNatClampNeg + 1 - (nI a).toNatClampNeg) = zsum (S.1 j) a (b + 1 - a) := ⟨_, rfl, by simp only [hclj, hcla, hclb]⟩
    rw [← hv8, ← hv9]
    refine z_i2l (v := v9.toInt64) 10 C dL_countOfRange_10 rfl ?_
    obtain ⟨f1, ef1⟩ : ∃ f9 : Nat → Int64, f9 = vp_updL (x.2.1 11) 0 v9.toInt64 := ⟨_, rfl⟩
    refine z_last (f := f1) 11 C kL_11 (by omega) (by exact ef1.symm) dL_countOfRange_11 ?_
    refine z_goto 12 C 23 dL_countOfRange_12 (by decide) ?_
    refine z_iconst (v := nI 0) 23 C dL_countOfRange_23 rfl ?_
    exact z_iret 24 C hr ⟨by rw [h0], fun _ => by rw [xl_s, ef1]; first | exact pk_uLs | (rw [← hv9]; exact pk_uLs), zXP_ro hA⟩ dL_countOfRange_24
set_option maxHeartbeats 4000000 in
set_option maxRecDepth 100000 in
/-- L_product -/
theorem c_L_product (l : Launch) {g : zG} (hg : zOk g) (x : zT) (hls : l.stackTraces = false) (S : zS) (hA : zAll x S) (p0 p1 : Int32) : Met l yL_product wsL_product ({ frames := 8, cells := 2, slots := 12, locals := 125 }) (va_Pc [.ref (zad g 0), .int p0, .int p1, .ref (zad g 11)] (zPre g x)) (va_Qi (fun (r : Int32) (u : zT) => r = nI (zk1 (zinb p0 4 && zinb p1 4)) ∧ (zk1 (zinb p0 4 && zinb p1 4) = 0 → u.2.1 11 0 = zprod (S.1 p0.toNatClampNeg) (S.1 p1.toNatClampNeg)) ∧ zXP x u S) (zB g) (zA g)) 2 12 (zA g) := by
  refine z_metW (cc := cL_product) (nL := 5) (ret := (some .int)) hg (by decide) rfl (Nat.le_of_ble_eq_true rfl) ?_
  intro p_ e_ s_ m_ args_ below_ meth_ c_ C hr htab
  show Z p_ l e_ _ s_ m_ args_ below_ meth_ c_ g 5 0 0 _ x 0 [(0, .ref (zad g 0)), (1, .int p0), (2, .int p1), (3, .ref (zad g 11))] []
  have hw_k0 := C.1.2.2.2.2 (.classLink RL 13 zIOB) (by decide +kernel)
  refine z_aload_n 0 C dL_product_0 rfl 3 rfl ?_
  refine z_iconst (v := nI 0) 1 C dL_product_1 rfl ?_
  refine z_aload_n 2 C dL_product_2 rfl 0 rfl ?_
  refine z_iload_n 3 C dL_product_3 rfl 1 rfl ?_
  refine z_iload_n 4 C dL_product_4 rfl 2 rfl ?_
  refine z_callVXl 5 C (As := [.int p0, .int p1]) 2 kO_main rfl (c_X5_product l hls hg x S hA p0 p1) (cwV 2 C.1.2.2.2.2 gL_product_X5_product rfl rfl rfl (by decide +kernel) ⟨Nat.le_of_ble_eq_true rfl, Nat.le_of_ble_eq_true rfl⟩) rfl rfl (Nat.le_of_ble_eq_true rfl) ⟨Nat.le_of_ble_eq_true rfl, Nat.le_of_ble_eq_true rfl⟩ dL_product_5 (fun E hE => ?_) (fun v y hu => ?_)
  · rcases hE with ⟨hk, rfl⟩ | ⟨hk, rfl⟩ | ⟨hk, rfl⟩
    · refine z_catch 5 C (E := zIOB) htab 0 (x9 := (tableOf [(0, 9, 12, 13)]).getD 0 default) rfl (fun z hz => by cases hz) rfl (by decide) hw_k0 (List.mem_of_getElem? (i := 0) rfl) (fun q9 => ?_)
      refine z_astore (lv' := [(4, .ref q9), (0, .ref (zad g 0)), (1, .int p0), (2, .int p1), (3, .ref (zad g 11))]) 12 C dL_product_12 (by decide) rfl ?_
      refine z_iconst (v := nI 1) 14 C dL_product_14 rfl ?_
      exact z_iret 15 C hr ⟨by rw [hk], fun h => absurd (hk.symm.trans h) (by decide), zXP_x hA⟩ dL_product_15
    · exact absurd hk (zk1_ne (by decide))
    · exact absurd hk (zk1_ne (by decide))
  · obtain ⟨h0, j, o, hj, ho, rfl, rfl, hyx, rfl⟩ := hu
    replace hyx := hyx.symm
    subst hyx
    have hclj := nI_clamp (n := j) (by omega)
    have hclo := nI_clamp (n := o) (by omega)
    obtain ⟨v9, hv9, hv8⟩ : ∃ v9 : Int64, v9 = zprod (S.1 (nI j).toNatClampNeg) (S.1 (nI o).toNatClampNeg) ∧ zprod (S.1 (nI j).toNatClampNeg) (S.1 (nI o).toNatClampNeg) = zprod (S.1 j) (S.1 o) := ⟨_, rfl, by simp only [hclj, hclo]⟩
    rw [← hv8, ← hv9]
    obtain ⟨f1, ef1⟩ : ∃ f9 : Nat → Int64, f9 = vp_updL (x.2.1 11) 0 v9 := ⟨_, rfl⟩
    refine z_last (f := f1) 8 C kL_11 (by omega) (by exact ef1.symm) dL_product_8 ?_
    refine z_goto 9 C 16 dL_product_9 (by decide) ?_
    refine z_iconst (v := nI 0) 16 C dL_product_16 rfl ?_
    exact z_iret 17 C hr ⟨by rw [h0], fun _ => by rw [xl_s, ef1]; first | exact pk_uLs | (rw [← hv9]; exact pk_uLs), zXP_ro hA⟩ dL_product_17
set_option maxHeartbeats 4000000 in
set_option maxRecDepth 100000 in
/-- L_column -/
theorem c_L_column (l : Launch) {g : zG} (hg : zOk g) (x : zT) (hls : l.stackTraces = false) (S : zS) (hA : zAll x S) (p0 p1 : Int32) : Met l yL_column wsL_column ({ frames := 8, cells := 2, slots := 12, locals := 125 }) (va_Pc [.ref (zad g 0), .int p0, .int p1, .ref (zad g 11)] (zPre g x)) (va_Qi (fun (r : Int32) (u : zT) => r = nI (zk1 (zinb p0 3 && zinb p1 64)) ∧ (zk1 (zinb p0 3 && zinb p1 64) = 0 → u.2.1 11 0 = (nI (zccol p0.toNatClampNeg p1.toNatClampNeg)).toInt64) ∧ zXP x u S) (zB g) (zA g)) 2 12 (zA g) := by
  refine z_metW (cc := cL_column) (nL := 5) (ret := (some .int)) hg (by decide) rfl (Nat.le_of_ble_eq_true rfl) ?_
  intro p_ e_ s_ m_ args_ below_ meth_ c_ C hr htab
  show Z p_ l e_ _ s_ m_ args_ below_ meth_ c_ g 5 0 0 _ x 0 [(0, .ref (zad g 0)), (1, .int p0), (2, .int p1), (3, .ref (zad g 11))] []
  have hw_k0 := C.1.2.2.2.2 (.classLink RL 13 zIOB) (by decide +kernel)
  refine z_aload_n 0 C dL_column_0 rfl 3 rfl ?_
  refine z_iconst (v := nI 0) 1 C dL_column_1 rfl ?_
  refine z_aload_n 2 C dL_column_2 rfl 0 rfl ?_
  refine z_iload_n 3 C dL_column_3 rfl 1 rfl ?_
  refine z_iload_n 4 C dL_column_4 rfl 2 rfl ?_
  refine z_callVXi 5 C (As := [.int p0, .int p1]) 2 kO_main rfl (c_X5_column l hls hg x S hA p0 p1) (cwV 2 C.1.2.2.2.2 gL_column_X5_column rfl rfl rfl (by decide +kernel) ⟨Nat.le_of_ble_eq_true rfl, Nat.le_of_ble_eq_true rfl⟩) rfl rfl (Nat.le_of_ble_eq_true rfl) ⟨Nat.le_of_ble_eq_true rfl, Nat.le_of_ble_eq_true rfl⟩ dL_column_5 (fun E hE => ?_) (fun v y hu => ?_)
  · rcases hE with ⟨hk, rfl⟩ | ⟨hk, rfl⟩ | ⟨hk, rfl⟩
    · refine z_catch 5 C (E := zIOB) htab 0 (x9 := (tableOf [(0, 10, 13, 13)]).getD 0 default) rfl (fun z hz => by cases hz) rfl (by decide) hw_k0 (List.mem_of_getElem? (i := 0) rfl) (fun q9 => ?_)
      refine z_astore (lv' := [(4, .ref q9), (0, .ref (zad g 0)), (1, .int p0), (2, .int p1), (3, .ref (zad g 11))]) 13 C dL_column_13 (by decide) rfl ?_
      refine z_iconst (v := nI 1) 15 C dL_column_15 rfl ?_
      exact z_iret 16 C hr ⟨by rw [hk], fun h => absurd (hk.symm.trans h) (by decide), zXP_x hA⟩ dL_column_16
    · exact absurd hk (zk1_ne (by decide))
    · exact absurd hk (zk1_ne (by decide))
  · obtain ⟨h0, a, i, ha, hi, rfl, rfl, hyx, rfl⟩ := hu
    replace hyx := hyx.symm
    subst hyx
    have hcla := nI_clamp (n := a) (by omega)
    have hcli := nI_clamp (n := i) (by omega)
    obtain ⟨v9, hv9, hv8⟩ : ∃ v9 : Int32, v9 = nI (zccol (nI a).toNatClampNeg (nI i).toNatClampNeg) ∧ nI (zccol (nI a).toNatClampNeg (nI i).toNatClampNeg) = nI (zccol a i) := ⟨_, rfl, by simp only [hcla, hcli]⟩
    rw [← hv8, ← hv9]
    refine z_i2l (v := v9.toInt64) 8 C dL_column_8 rfl ?_
    obtain ⟨f1, ef1⟩ : ∃ f9 : Nat → Int64, f9 = vp_updL (x.2.1 11) 0 v9.toInt64 := ⟨_, rfl⟩
    refine z_last (f := f1) 9 C kL_11 (by omega) (by exact ef1.symm) dL_column_9 ?_
    refine z_goto 10 C 17 dL_column_10 (by decide) ?_
    refine z_iconst (v := nI 0) 17 C dL_column_17 rfl ?_
    exact z_iret 18 C hr ⟨by rw [h0], fun _ => by rw [xl_s, ef1]; first | exact pk_uLs | (rw [← hv9]; exact pk_uLs), zXP_ro hA⟩ dL_column_18
set_option maxHeartbeats 4000000 in
set_option maxRecDepth 100000 in
/-- L_cell -/
theorem c_L_cell (l : Launch) {g : zG} (hg : zOk g) (x : zT) (hls : l.stackTraces = false) (S : zS) (hA : zAll x S) (p0 p1 p2 p3 : Int32) : Met l yL_cell wsL_cell ({ frames := 8, cells := 4, slots := 24, locals := 127 }) (va_Pc [.ref (zad g 0), .int p0, .int p1, .int p2, .int p3, .ref (zad g 11)] (zPre g x)) (va_Qi (fun (r : Int32) (u : zT) => r = nI (zk1 (zinb p0 4 && (zinb p1 3 && (zinb p2 3 && zinb p3 8)))) ∧ (zk1 (zinb p0 4 && (zinb p1 3 && (zinb p2 3 && zinb p3 8))) = 0 → u.2.1 11 0 = (S.2.1 p0.toNatClampNeg (24 * p1.toNatClampNeg + (p2.toNatClampNeg * 8 + p3.toNatClampNeg))).toInt64) ∧ zXP x u S) (zB g) (zA g)) 4 24 (zA g) := by
  refine z_metW (cc := cL_cell) (nL := 7) (ret := (some .int)) hg (by decide) rfl (Nat.le_of_ble_eq_true rfl) ?_
  intro p_ e_ s_ m_ args_ below_ meth_ c_ C hr htab
  show Z p_ l e_ _ s_ m_ args_ below_ meth_ c_ g 7 0 0 _ x 0 [(0, .ref (zad g 0)), (1, .int p0), (2, .int p1), (3, .int p2), (4, .int p3), (5, .ref (zad g 11))] []
  have hw_k0 := C.1.2.2.2.2 (.classLink RL 13 zIOB) (by decide +kernel)
  refine z_aload 0 C dL_cell_0 5 rfl ?_
  refine z_iconst (v := nI 0) 2 C dL_cell_2 rfl ?_
  refine z_aload_n 3 C dL_cell_3 rfl 0 rfl ?_
  refine z_iload_n 4 C dL_cell_4 rfl 1 rfl ?_
  refine z_iload_n 5 C dL_cell_5 rfl 2 rfl ?_
  refine z_iload_n 6 C dL_cell_6 rfl 3 rfl ?_
  refine z_iload 7 C dL_cell_7 4 rfl ?_
  refine z_callVXi 9 C (As := [.int p0, .int p1, .int p2, .int p3]) 4 kO_main rfl (c_X5_cell l hls hg x S hA p0 p1 p2 p3) (cwV 4 C.1.2.2.2.2 gL_cell_X5_cell rfl rfl rfl (by decide +kernel) ⟨Nat.le_of_ble_eq_true rfl, Nat.le_of_ble_eq_true rfl⟩) rfl rfl (Nat.le_of_ble_eq_true rfl) ⟨Nat.le_of_ble_eq_true rfl, Nat.le_of_ble_eq_true rfl⟩ dL_cell_9 (fun E hE => ?_) (fun v y hu => ?_)
  · rcases hE with ⟨hk, rfl⟩ | ⟨hk, rfl⟩ | ⟨hk, rfl⟩
    · refine z_catch 9 C (E := zIOB) htab 0 (x9 := (tableOf [(0, 14, 17, 13)]).getD 0 default) rfl (fun z hz => by cases hz) rfl (by decide) hw_k0 (List.mem_of_getElem? (i := 0) rfl) (fun q9 => ?_)
      refine z_astore (lv' := [(6, .ref q9), (0, .ref (zad g 0)), (1, .int p0), (2, .int p1), (3, .int p2), (4, .int p3), (5, .ref (zad g 11))]) 17 C dL_cell_17 (by decide) rfl ?_
      refine z_iconst (v := nI 1) 19 C dL_cell_19 rfl ?_
      exact z_iret 20 C hr ⟨by rw [hk], fun h => absurd (hk.symm.trans h) (by decide), zXP_x hA⟩ dL_cell_20
    · exact absurd hk (zk1_ne (by decide))
    · exact absurd hk (zk1_ne (by decide))
  · obtain ⟨h0, j, k, a, b, hj, hk, ha, hb, rfl, rfl, rfl, rfl, hyx, rfl⟩ := hu
    replace hyx := hyx.symm
    subst hyx
    have hclj := nI_clamp (n := j) (by omega)
    have hclk := nI_clamp (n := k) (by omega)
    have hcla := nI_clamp (n := a) (by omega)
    have hclb := nI_clamp (n := b) (by omega)
    obtain ⟨v9, hv9, hv8⟩ : ∃ v9 : Int32, v9 = S.2.1 (nI j).toNatClampNeg (24 * (nI k).toNatClampNeg + ((nI a).toNatClampNeg * 8 + (nI b).toNatClampNeg)) ∧ S.2.1 (nI j).toNatClampNeg (24 * (nI k).toNatClampNeg + ((nI a).toNatClampNeg * 8 + (nI b).toNatClampNeg)) = S.2.1 j (24 * k + (a * 8 + b)) := ⟨_, rfl, by simp only [hclj, hclk, hcla, hclb]⟩
    rw [← hv8, ← hv9]
    refine z_i2l (v := v9.toInt64) 12 C dL_cell_12 rfl ?_
    obtain ⟨f1, ef1⟩ : ∃ f9 : Nat → Int64, f9 = vp_updL (x.2.1 11) 0 v9.toInt64 := ⟨_, rfl⟩
    refine z_last (f := f1) 13 C kL_11 (by omega) (by exact ef1.symm) dL_cell_13 ?_
    refine z_goto 14 C 21 dL_cell_14 (by decide) ?_
    refine z_iconst (v := nI 0) 21 C dL_cell_21 rfl ?_
    exact z_iret 22 C hr ⟨by rw [h0], fun _ => by rw [xl_s, ef1]; first | exact pk_uLs | (rw [← hv9]; exact pk_uLs), zXP_ro hA⟩ dL_cell_22
set_option maxHeartbeats 4000000 in
set_option maxRecDepth 100000 in
/-- L_estimate -/
theorem c_L_estimate (l : Launch) {g : zG} (hg : zOk g) (x : zT) (hls : l.stackTraces = false) (S : zS) (hA : zAll x S) (p0 p1 p2 : Int32) : Met l yL_estimate wsL_estimate ({ frames := 8, cells := 3, slots := 18, locals := 126 }) (va_Pc [.ref (zad g 0), .int p0, .int p1, .int p2, .ref (zad g 11)] (zPre g x)) (va_Qi (fun (r : Int32) (u : zT) => r = nI (zk1 (zinb p0 4 && (zinb p1 7 && zinb p2 (64 / 2 ^ p1.toNatClampNeg)))) ∧ (zk1 (zinb p0 4 && (zinb p1 7 && zinb p2 (64 / 2 ^ p1.toNatClampNeg))) = 0 → u.2.1 11 0 = (zest (S.1 p0.toNatClampNeg) (S.2.1 p0.toNatClampNeg) p1.toNatClampNeg p2.toNatClampNeg).toInt64) ∧ zXP x u S) (zB g) (zA g)) 3 18 (zA g) := by
  refine z_metW (cc := cL_estimate) (nL := 6) (ret := (some .int)) hg (by decide) rfl (Nat.le_of_ble_eq_true rfl) ?_
  intro p_ e_ s_ m_ args_ below_ meth_ c_ C hr htab
  show Z p_ l e_ _ s_ m_ args_ below_ meth_ c_ g 6 0 0 _ x 0 [(0, .ref (zad g 0)), (1, .int p0), (2, .int p1), (3, .int p2), (4, .ref (zad g 11))] []
  have hw_k0 := C.1.2.2.2.2 (.classLink RL 13 zIOB) (by decide +kernel)
  refine z_aload 0 C dL_estimate_0 4 rfl ?_
  refine z_iconst (v := nI 0) 2 C dL_estimate_2 rfl ?_
  refine z_aload_n 3 C dL_estimate_3 rfl 0 rfl ?_
  refine z_iload_n 4 C dL_estimate_4 rfl 1 rfl ?_
  refine z_iload_n 5 C dL_estimate_5 rfl 2 rfl ?_
  refine z_iload_n 6 C dL_estimate_6 rfl 3 rfl ?_
  refine z_callVXi 7 C (As := [.int p0, .int p1, .int p2]) 3 kO_main rfl (c_X5_estimate l hls hg x S hA p0 p1 p2) (cwV 3 C.1.2.2.2.2 gL_estimate_X5_estimate rfl rfl rfl (by decide +kernel) ⟨Nat.le_of_ble_eq_true rfl, Nat.le_of_ble_eq_true rfl⟩) rfl rfl (Nat.le_of_ble_eq_true rfl) ⟨Nat.le_of_ble_eq_true rfl, Nat.le_of_ble_eq_true rfl⟩ dL_estimate_7 (fun E hE => ?_) (fun v y hu => ?_)
  · rcases hE with ⟨hk, rfl⟩ | ⟨hk, rfl⟩ | ⟨hk, rfl⟩
    · refine z_catch 7 C (E := zIOB) htab 0 (x9 := (tableOf [(0, 12, 15, 13)]).getD 0 default) rfl (fun z hz => by cases hz) rfl (by decide) hw_k0 (List.mem_of_getElem? (i := 0) rfl) (fun q9 => ?_)
      refine z_astore (lv' := [(5, .ref q9), (0, .ref (zad g 0)), (1, .int p0), (2, .int p1), (3, .int p2), (4, .ref (zad g 11))]) 15 C dL_estimate_15 (by decide) rfl ?_
      refine z_iconst (v := nI 1) 17 C dL_estimate_17 rfl ?_
      exact z_iret 18 C hr ⟨by rw [hk], fun h => absurd (hk.symm.trans h) (by decide), zXP_x hA⟩ dL_estimate_18
    · exact absurd hk (zk1_ne (by decide))
    · exact absurd hk (zk1_ne (by decide))
  · obtain ⟨h0, j, lev, h, hj, hlev, hh, rfl, rfl, rfl, hyx, rfl⟩ := hu
    replace hyx := hyx.symm
    subst hyx
    have hclj := nI_clamp (n := j) (by omega)
    have hcllev := nI_clamp (n := lev) (by omega)
    have hclh := nI_clamp (n := h) (by have := Nat.div_le_self 64 (2 ^ lev); omega)
    obtain ⟨v9, hv9, hv8⟩ : ∃ v9 : Int32, v9 = zest (S.1 (nI j).toNatClampNeg) (S.2.1 (nI j).toNatClampNeg) (nI lev).toNatClampNeg (nI h).toNatClampNeg ∧ zest (S.1 (nI j).toNatClampNeg) (S.2.1 (nI j).toNatClampNeg) (nI lev).toNatClampNeg (nI h).toNatClampNeg = zest (S.1 j) (S.2.1 j) lev h := ⟨_, rfl, by simp only [hclj, hcllev, hclh]⟩
    rw [← hv8, ← hv9]
    refine z_i2l (v := v9.toInt64) 10 C dL_estimate_10 rfl ?_
    obtain ⟨f1, ef1⟩ : ∃ f9 : Nat → Int64, f9 = vp_updL (x.2.1 11) 0 v9.toInt64 := ⟨_, rfl⟩
    refine z_last (f := f1) 11 C kL_11 (by omega) (by exact ef1.symm) dL_estimate_11 ?_
    refine z_goto 12 C 19 dL_estimate_12 (by decide) ?_
    refine z_iconst (v := nI 0) 19 C dL_estimate_19 rfl ?_
    exact z_iret 20 C hr ⟨by rw [h0], fun _ => by rw [xl_s, ef1]; first | exact pk_uLs | (rw [← hv9]; exact pk_uLs), zXP_ro hA⟩ dL_estimate_20
set_option maxHeartbeats 4000000 in
set_option maxRecDepth 100000 in
/-- L_share -/
theorem c_L_share (l : Launch) {g : zG} (hg : zOk g) (x : zT) (hls : l.stackTraces = false) (S : zS) (hA : zAll x S) (p0 p1 : Int32) : Met l yL_share wsL_share ({ frames := 8, cells := 2, slots := 12, locals := 126 }) (va_Pc [.ref (zad g 0), .int p0, .int p1, .ref (zad g 12)] (zPre g x)) (va_Qi (fun (r : Int32) (u : zT) => r = nI (zk1 (zinb p0 4 && zinb p1 64)) ∧ (zk1 (zinb p0 4 && zinb p1 64) = 0 → u.2.2 0 = zshare (S.1 p0.toNatClampNeg) (S.2.1 p0.toNatClampNeg) p1.toNatClampNeg) ∧ zXP x u S) (zB g) (zA g)) 2 12 (zA g) := by
  refine z_metW (cc := cL_share) (nL := 5) (ret := (some .int)) hg (by decide) rfl (Nat.le_of_ble_eq_true rfl) ?_
  intro p_ e_ s_ m_ args_ below_ meth_ c_ C hr htab
  show Z p_ l e_ _ s_ m_ args_ below_ meth_ c_ g 5 0 0 _ x 0 [(0, .ref (zad g 0)), (1, .int p0), (2, .int p1), (3, .ref (zad g 12))] []
  have hw_k0 := C.1.2.2.2.2 (.classLink RL 13 zIOB) (by decide +kernel)
  refine z_aload_n 0 C dL_share_0 rfl 3 rfl ?_
  refine z_iconst (v := nI 0) 1 C dL_share_1 rfl ?_
  refine z_aload_n 2 C dL_share_2 rfl 0 rfl ?_
  refine z_iload_n 3 C dL_share_3 rfl 1 rfl ?_
  refine z_iload_n 4 C dL_share_4 rfl 2 rfl ?_
  refine z_callVXd 5 C (As := [.int p0, .int p1]) 2 kO_main rfl (c_X5_share l hls hg x S hA p0 p1) (cwV 2 C.1.2.2.2.2 gL_share_X5_share rfl rfl rfl (by decide +kernel) ⟨Nat.le_of_ble_eq_true rfl, Nat.le_of_ble_eq_true rfl⟩) rfl rfl (Nat.le_of_ble_eq_true rfl) ⟨Nat.le_of_ble_eq_true rfl, Nat.le_of_ble_eq_true rfl⟩ dL_share_5 (fun E hE => ?_) (fun v y hu => ?_)
  · rcases hE with ⟨hk, rfl⟩ | ⟨hk, rfl⟩ | ⟨hk, rfl⟩
    · refine z_catch 5 C (E := zIOB) htab 0 (x9 := (tableOf [(0, 9, 12, 13)]).getD 0 default) rfl (fun z hz => by cases hz) rfl (by decide) hw_k0 (List.mem_of_getElem? (i := 0) rfl) (fun q9 => ?_)
      refine z_astore (lv' := [(4, .ref q9), (0, .ref (zad g 0)), (1, .int p0), (2, .int p1), (3, .ref (zad g 12))]) 12 C dL_share_12 (by decide) rfl ?_
      refine z_iconst (v := nI 1) 14 C dL_share_14 rfl ?_
      exact z_iret 15 C hr ⟨by rw [hk], fun h => absurd (hk.symm.trans h) (by decide), zXP_x hA⟩ dL_share_15
    · exact absurd hk (zk1_ne (by decide))
    · exact absurd hk (zk1_ne (by decide))
  · obtain ⟨h0, j, i, hj, hi, rfl, rfl, hyx, rfl⟩ := hu
    replace hyx := hyx.symm
    subst hyx
    have hclj := nI_clamp (n := j) (by omega)
    have hcli := nI_clamp (n := i) (by omega)
    obtain ⟨v9, hv9, hv8⟩ : ∃ v9 : UInt64, v9 = zshare (S.1 (nI j).toNatClampNeg) (S.2.1 (nI j).toNatClampNeg) (nI i).toNatClampNeg ∧ zshare (S.1 (nI j).toNatClampNeg) (S.2.1 (nI j).toNatClampNeg) (nI i).toNatClampNeg = zshare (S.1 j) (S.2.1 j) i := ⟨_, rfl, by simp only [hclj, hcli]⟩
    rw [← hv8, ← hv9]
    obtain ⟨d9, ed9⟩ : ∃ d : Nat → UInt64, vf_upd x.2.2 0 v9 = d := ⟨_, rfl⟩
    refine z_dast 8 C ed9 dL_share_8 ?_
    refine z_goto 9 C 16 dL_share_9 (by decide) ?_
    refine z_iconst (v := nI 0) 16 C dL_share_16 rfl ?_
    exact z_iret 17 C hr ⟨by rw [h0], fun _ => by show d9 0 = _; rw [← ed9]; first | rfl | (rw [← hv9]; rfl), zXP_d hA⟩ dL_share_17
set_option maxHeartbeats 4000000 in
set_option maxRecDepth 100000 in
/-- L_parts -/
theorem c_L_parts (l : Launch) {g : zG} (hg : zOk g) (x : zT) (hls : l.stackTraces = false) (S : zS) (hA : zAll x S) (p0 p1 : Int32) : Met l yL_parts wsL_parts ({ frames := 9, cells := 3, slots := 18, locals := 148 }) (va_Pc [.ref (zad g 0), .int p0, .int p1, .ref (zad g 11)] (zPre g x)) (va_Qi (fun (r : Int32) (u : zT) => r = nI (zk2 (zinb p0 64 && zinb p1 64) (decide (p0 ≤ p1))) ∧ (zk2 (zinb p0 64 && zinb p1 64) (decide (p0 ≤ p1)) = 0 → u.2.1 11 0 = (nI (zparts 65 p0.toNatClampNeg p1.toNatClampNeg)).toInt64) ∧ zXP x u S) (zB g) (zA g)) 3 18 (zA g) := by
  refine z_metW (cc := cL_parts) (nL := 5) (ret := (some .int)) hg (by decide) rfl (Nat.le_of_ble_eq_true rfl) ?_
  intro p_ e_ s_ m_ args_ below_ meth_ c_ C hr htab
  show Z p_ l e_ _ s_ m_ args_ below_ meth_ c_ g 5 0 0 _ x 0 [(0, .ref (zad g 0)), (1, .int p0), (2, .int p1), (3, .ref (zad g 11))] []
  have hw_k0 := C.1.2.2.2.2 (.classLink RL 13 zIOB) (by decide +kernel)
  have hw_k1 := C.1.2.2.2.2 (.classLink RL 15 zIAE) (by decide +kernel)
  refine z_aload_n 0 C dL_parts_0 rfl 3 rfl ?_
  refine z_iconst (v := nI 0) 1 C dL_parts_1 rfl ?_
  refine z_aload_n 2 C dL_parts_2 rfl 0 rfl ?_
  refine z_iload_n 3 C dL_parts_3 rfl 1 rfl ?_
  refine z_iload_n 4 C dL_parts_4 rfl 2 rfl ?_
  refine z_callVXi 5 C (As := [.int p0, .int p1]) 2 kO_main rfl (c_X5_parts l hls hg x S hA p0 p1) (cwV 2 C.1.2.2.2.2 gL_parts_X5_parts rfl rfl rfl (by decide +kernel) ⟨Nat.le_of_ble_eq_true rfl, Nat.le_of_ble_eq_true rfl⟩) rfl rfl (Nat.le_of_ble_eq_true rfl) ⟨Nat.le_of_ble_eq_true rfl, Nat.le_of_ble_eq_true rfl⟩ dL_parts_5 (fun E hE => ?_) (fun v y hu => ?_)
  · rcases hE with ⟨hk, rfl⟩ | ⟨hk, rfl⟩ | ⟨hk, rfl⟩
    · refine z_catch 5 C (E := zIOB) htab 0 (x9 := (tableOf [(0, 10, 13, 13), (0, 10, 17, 15)]).getD 0 default) rfl (fun z hz => by cases hz) rfl (by decide) hw_k0 (List.mem_of_getElem? (i := 0) rfl) (fun q9 => ?_)
      refine z_astore (lv' := [(4, .ref q9), (0, .ref (zad g 0)), (1, .int p0), (2, .int p1), (3, .ref (zad g 11))]) 13 C dL_parts_13 (by decide) rfl ?_
      refine z_iconst (v := nI 1) 15 C dL_parts_15 rfl ?_
      exact z_iret 16 C hr ⟨by rw [hk], fun h => absurd (hk.symm.trans h) (by decide), zXP_x hA⟩ dL_parts_16
    · refine z_catch 5 C (E := zIAE) htab 1 (x9 := (tableOf [(0, 10, 13, 13), (0, 10, 17, 15)]).getD 1 default) rfl (List.forall_mem_cons.mpr ⟨Or.inr ⟨by decide, _, hw_k0, C.2.2.2.2.1.2.2.2.1 _ (List.mem_of_getElem? (i := 0) rfl)⟩, fun z hz => by cases hz⟩) rfl (by decide) hw_k1 (List.mem_of_getElem? (i := 1) rfl) (fun q9 => ?_)
      refine z_astore (lv' := [(4, .ref q9), (0, .ref (zad g 0)), (1, .int p0), (2, .int p1), (3, .ref (zad g 11))]) 17 C dL_parts_17 (by decide) rfl ?_
      refine z_iconst (v := nI 2) 19 C dL_parts_19 rfl ?_
      exact z_iret 20 C hr ⟨by rw [hk], fun h => absurd (hk.symm.trans h) (by decide), zXP_x hA⟩ dL_parts_20
    · exact absurd hk (zk2_ne (by decide))
  · obtain ⟨h0, a, b, hab, hb, rfl, rfl, hyx, rfl⟩ := hu
    replace hyx := hyx.symm
    subst hyx
    have hcla := nI_clamp (n := a) (by omega)
    have hclb := nI_clamp (n := b) (by omega)
    obtain ⟨v9, hv9, hv8⟩ : ∃ v9 : Int32, v9 = nI (zparts 65 (nI a).toNatClampNeg (nI b).toNatClampNeg) ∧ nI (zparts 65 (nI a).toNatClampNeg (nI b).toNatClampNeg) = nI (zparts 65 a b) := ⟨_, rfl, by simp only [hcla, hclb]⟩
    rw [← hv8, ← hv9]
    refine z_i2l (v := v9.toInt64) 8 C dL_parts_8 rfl ?_
    obtain ⟨f1, ef1⟩ : ∃ f9 : Nat → Int64, f9 = vp_updL (x.2.1 11) 0 v9.toInt64 := ⟨_, rfl⟩
    refine z_last (f := f1) 9 C kL_11 (by omega) (by exact ef1.symm) dL_parts_9 ?_
    refine z_goto 10 C 21 dL_parts_10 (by decide) ?_
    refine z_iconst (v := nI 0) 21 C dL_parts_21 rfl ?_
    exact z_iret 22 C hr ⟨by rw [h0], fun _ => by rw [xl_s, ef1]; first | exact pk_uLs | (rw [← hv9]; exact pk_uLs), zXP_ro hA⟩ dL_parts_22
set_option maxHeartbeats 4000000 in
set_option maxRecDepth 100000 in
/-- L_estimateOfRange -/
theorem c_L_estimateOfRange (l : Launch) {g : zG} (hg : zOk g) (x : zT) (hls : l.stackTraces = false) (S : zS) (hA : zAll x S) (p0 p1 p2 : Int32) : Met l yL_estimateOfRange wsL_estimateOfRange ({ frames := 9, cells := 4, slots := 24, locals := 150 }) (va_Pc [.ref (zad g 0), .int p0, .int p1, .int p2, .ref (zad g 11)] (zPre g x)) (va_Qi (fun (r : Int32) (u : zT) => r = nI (zk2 (zinb p0 4 && (zinb p1 64 && zinb p2 64)) (decide (p1 ≤ p2))) ∧ (zk2 (zinb p0 4 && (zinb p1 64 && zinb p2 64)) (decide (p1 ≤ p2)) = 0 → u.2.1 11 0 = (zestR (S.1 p0.toNatClampNeg) (S.2.1 p0.toNatClampNeg) 65 p1.toNatClampNeg p2.toNatClampNeg).toInt64) ∧ zXP x u S) (zB g) (zA g)) 4 24 (zA g) := by
  refine z_metW (cc := cL_estimateOfRange) (nL := 6) (ret := (some .int)) hg (by decide) rfl (Nat.le_of_ble_eq_true rfl) ?_
  intro p_ e_ s_ m_ args_ below_ meth_ c_ C hr htab
  show Z p_ l e_ _ s_ m_ args_ below_ meth_ c_ g 6 0 0 _ x 0 [(0, .ref (zad g 0)), (1, .int p0), (2, .int p1), (3, .int p2), (4, .ref (zad g 11))] []
  have hw_k0 := C.1.2.2.2.2 (.classLink RL 13 zIOB) (by decide +kernel)
  have hw_k1 := C.1.2.2.2.2 (.classLink RL 15 zIAE) (by decide +kernel)
  refine z_aload 0 C dL_estimateOfRange_0 4 rfl ?_
  refine z_iconst (v := nI 0) 2 C dL_estimateOfRange_2 rfl ?_
  refine z_aload_n 3 C dL_estimateOfRange_3 rfl 0 rfl ?_
  refine z_iload_n 4 C dL_estimateOfRange_4 rfl 1 rfl ?_
  refine z_iload_n 5 C dL_estimateOfRange_5 rfl 2 rfl ?_
  refine z_iload_n 6 C dL_estimateOfRange_6 rfl 3 rfl ?_
  refine z_callVXi 7 C (As := [.int p0, .int p1, .int p2]) 3 kO_main rfl (c_X5_estimateOfRange l hls hg x S hA p0 p1 p2) (cwV 3 C.1.2.2.2.2 gL_estimateOfRange_X5_estimateOfRange rfl rfl rfl (by decide +kernel) ⟨Nat.le_of_ble_eq_true rfl, Nat.le_of_ble_eq_true rfl⟩) rfl rfl (Nat.le_of_ble_eq_true rfl) ⟨Nat.le_of_ble_eq_true rfl, Nat.le_of_ble_eq_true rfl⟩ dL_estimateOfRange_7 (fun E hE => ?_) (fun v y hu => ?_)
  · rcases hE with ⟨hk, rfl⟩ | ⟨hk, rfl⟩ | ⟨hk, rfl⟩
    · refine z_catch 7 C (E := zIOB) htab 0 (x9 := (tableOf [(0, 12, 15, 13), (0, 12, 19, 15)]).getD 0 default) rfl (fun z hz => by cases hz) rfl (by decide) hw_k0 (List.mem_of_getElem? (i := 0) rfl) (fun q9 => ?_)
      refine z_astore (lv' := [(5, .ref q9), (0, .ref (zad g 0)), (1, .int p0), (2, .int p1), (3, .int p2), (4, .ref (zad g 11))]) 15 C dL_estimateOfRange_15 (by decide) rfl ?_
      refine z_iconst (v := nI 1) 17 C dL_estimateOfRange_17 rfl ?_
      exact z_iret 18 C hr ⟨by rw [hk], fun h => absurd (hk.symm.trans h) (by decide), zXP_x hA⟩ dL_estimateOfRange_18
    · refine z_catch 7 C (E := zIAE) htab 1 (x9 := (tableOf [(0, 12, 15, 13), (0, 12, 19, 15)]).getD 1 default) rfl (List.forall_mem_cons.mpr ⟨Or.inr ⟨by decide, _, hw_k0, C.2.2.2.2.1.2.2.2.1 _ (List.mem_of_getElem? (i := 0) rfl)⟩, fun z hz => by cases hz⟩) rfl (by decide) hw_k1 (List.mem_of_getElem? (i := 1) rfl) (fun q9 => ?_)
      refine z_astore (lv' := [(5, .ref q9), (0, .ref (zad g 0)), (1, .int p0), (2, .int p1), (3, .int p2), (4, .ref (zad g 11))]) 19 C dL_estimateOfRange_19 (by decide) rfl ?_
      refine z_iconst (v := nI 2) 21 C dL_estimateOfRange_21 rfl ?_
      exact z_iret 22 C hr ⟨by rw [hk], fun h => absurd (hk.symm.trans h) (by decide), zXP_x hA⟩ dL_estimateOfRange_22
    · exact absurd hk (zk2_ne (by decide))
  · obtain ⟨h0, j, a, b, hj, hab, hb, rfl, rfl, rfl, hyx, rfl⟩ := hu
    replace hyx := hyx.symm
    subst hyx
    have hclj := nI_clamp (n := j) (by omega)
    have hcla := nI_clamp (n := a) (by omega)
    have hclb := nI_clamp (n := b) (by omega)
    obtain ⟨v9, hv9, hv8⟩ : ∃ v9 : Int32, v9 = zestR (S.1 (nI j).toNatClampNeg) (S.2.1 (nI j).toNatClampNeg) 65 (nI a).toNatClampNeg (nI b).toNatClampNeg ∧ zestR (S.1 (nI j).toNatClampNeg) (S.2.1 (nI j).toNatClampNeg) 65 (nI a).toNatClampNeg (nI b).toNatClampNeg = zestR (S.1 j) (S.2.1 j) 65 a b := ⟨_, rfl, by simp only [hclj, hcla, hclb]⟩
    rw [← hv8, ← hv9]
    refine z_i2l (v := v9.toInt64) 10 C dL_estimateOfRange_10 rfl ?_
    obtain ⟨f1, ef1⟩ : ∃ f9 : Nat → Int64, f9 = vp_updL (x.2.1 11) 0 v9.toInt64 := ⟨_, rfl⟩
    refine z_last (f := f1) 11 C kL_11 (by omega) (by exact ef1.symm) dL_estimateOfRange_11 ?_
    refine z_goto 12 C 23 dL_estimateOfRange_12 (by decide) ?_
    refine z_iconst (v := nI 0) 23 C dL_estimateOfRange_23 rfl ?_
    exact z_iret 24 C hr ⟨by rw [h0], fun _ => by rw [xl_s, ef1]; first | exact pk_uLs | (rw [← hv9]; exact pk_uLs), zXP_ro hA⟩ dL_estimateOfRange_24
set_option maxHeartbeats 4000000 in
set_option maxRecDepth 100000 in
/-- L_frequent -/
theorem c_L_frequent (l : Launch) {g : zG} (hg : zOk g) (x : zT) (hls : l.stackTraces = false) (S : zS) (hA : zAll x S) (p0 p1 : Int32) : Met l yL_frequent wsL_frequent ({ frames := 8, cells := 2, slots := 12, locals := 134 }) (va_Pc [.ref (zad g 0), .int p0, .int p1, .ref (zad g 11)] (zPre g x)) (va_Qi (fun (r : Int32) (u : zT) => r = nI (zk2 (zinb p0 4) (zwib p1 (nI 1) (nI 1000000))) ∧ (zk2 (zinb p0 4) (zwib p1 (nI 1) (nI 1000000)) = 0 → u.2.1 11 0 = (nI (zfrn (S.1 p0.toNatClampNeg) (S.2.1 p0.toNatClampNeg) p1 64)).toInt64) ∧ zXP x u S) (zB g) (zA g)) 2 12 (zA g) := by
  refine z_metW (cc := cL_frequent) (nL := 5) (ret := (some .int)) hg (by decide) rfl (Nat.le_of_ble_eq_true rfl) ?_
  intro p_ e_ s_ m_ args_ below_ meth_ c_ C hr htab
  show Z p_ l e_ _ s_ m_ args_ below_ meth_ c_ g 5 0 0 _ x 0 [(0, .ref (zad g 0)), (1, .int p0), (2, .int p1), (3, .ref (zad g 11))] []
  have hw_k0 := C.1.2.2.2.2 (.classLink RL 13 zIOB) (by decide +kernel)
  have hw_k1 := C.1.2.2.2.2 (.classLink RL 15 zIAE) (by decide +kernel)
  refine z_aload_n 0 C dL_frequent_0 rfl 3 rfl ?_
  refine z_iconst (v := nI 0) 1 C dL_frequent_1 rfl ?_
  refine z_aload_n 2 C dL_frequent_2 rfl 0 rfl ?_
  refine z_iload_n 3 C dL_frequent_3 rfl 1 rfl ?_
  refine z_iload_n 4 C dL_frequent_4 rfl 2 rfl ?_
  refine z_callVXi 5 C (As := [.int p0, .int p1]) 2 kO_main rfl (c_X5_frequent l hls hg x S hA p0 p1) (cwV 2 C.1.2.2.2.2 gL_frequent_X5_frequent rfl rfl rfl (by decide +kernel) ⟨Nat.le_of_ble_eq_true rfl, Nat.le_of_ble_eq_true rfl⟩) rfl rfl (Nat.le_of_ble_eq_true rfl) ⟨Nat.le_of_ble_eq_true rfl, Nat.le_of_ble_eq_true rfl⟩ dL_frequent_5 (fun E hE => ?_) (fun v y hu => ?_)
  · rcases hE with ⟨hk, rfl⟩ | ⟨hk, rfl⟩ | ⟨hk, rfl⟩
    · refine z_catch 5 C (E := zIOB) htab 0 (x9 := (tableOf [(0, 10, 13, 13), (0, 10, 17, 15)]).getD 0 default) rfl (fun z hz => by cases hz) rfl (by decide) hw_k0 (List.mem_of_getElem? (i := 0) rfl) (fun q9 => ?_)
      refine z_astore (lv' := [(4, .ref q9), (0, .ref (zad g 0)), (1, .int p0), (2, .int p1), (3, .ref (zad g 11))]) 13 C dL_frequent_13 (by decide) rfl ?_
      refine z_iconst (v := nI 1) 15 C dL_frequent_15 rfl ?_
      exact z_iret 16 C hr ⟨by rw [hk], fun h => absurd (hk.symm.trans h) (by decide), zXP_x hA⟩ dL_frequent_16
    · refine z_catch 5 C (E := zIAE) htab 1 (x9 := (tableOf [(0, 10, 13, 13), (0, 10, 17, 15)]).getD 1 default) rfl (List.forall_mem_cons.mpr ⟨Or.inr ⟨by decide, _, hw_k0, C.2.2.2.2.1.2.2.2.1 _ (List.mem_of_getElem? (i := 0) rfl)⟩, fun z hz => by cases hz⟩) rfl (by decide) hw_k1 (List.mem_of_getElem? (i := 1) rfl) (fun q9 => ?_)
      refine z_astore (lv' := [(4, .ref q9), (0, .ref (zad g 0)), (1, .int p0), (2, .int p1), (3, .ref (zad g 11))]) 17 C dL_frequent_17 (by decide) rfl ?_
      refine z_iconst (v := nI 2) 19 C dL_frequent_19 rfl ?_
      exact z_iret 20 C hr ⟨by rw [hk], fun h => absurd (hk.symm.trans h) (by decide), zXP_x hA⟩ dL_frequent_20
    · exact absurd hk (zk2_ne (by decide))
  · obtain ⟨h0, j, hj, rfl, hyx, rfl⟩ := hu
    replace hyx := hyx.symm
    subst hyx
    have hclj := nI_clamp (n := j) (by omega)
    obtain ⟨v9, hv9, hv8⟩ : ∃ v9 : Int32, v9 = nI (zfrn (S.1 (nI j).toNatClampNeg) (S.2.1 (nI j).toNatClampNeg) p1 64) ∧ nI (zfrn (S.1 (nI j).toNatClampNeg) (S.2.1 (nI j).toNatClampNeg) p1 64) = nI (zfrn (S.1 j) (S.2.1 j) p1 64) := ⟨_, rfl, by simp only [hclj]⟩
    rw [← hv8, ← hv9]
    refine z_i2l (v := v9.toInt64) 8 C dL_frequent_8 rfl ?_
    obtain ⟨f1, ef1⟩ : ∃ f9 : Nat → Int64, f9 = vp_updL (x.2.1 11) 0 v9.toInt64 := ⟨_, rfl⟩
    refine z_last (f := f1) 9 C kL_11 (by omega) (by exact ef1.symm) dL_frequent_9 ?_
    refine z_goto 10 C 21 dL_frequent_10 (by decide) ?_
    refine z_iconst (v := nI 0) 21 C dL_frequent_21 rfl ?_
    exact z_iret 22 C hr ⟨by rw [h0], fun _ => by rw [xl_s, ef1]; first | exact pk_uLs | (rw [← hv9]; exact pk_uLs), zXP_ro hA⟩ dL_frequent_22
set_option maxHeartbeats 4000000 in
set_option maxRecDepth 100000 in
/-- L_frequentAt -/
theorem c_L_frequentAt (l : Launch) {g : zG} (hg : zOk g) (x : zT) (hls : l.stackTraces = false) (S : zS) (hA : zAll x S) (p0 p1 p2 : Int32) : Met l yL_frequentAt wsL_frequentAt ({ frames := 8, cells := 3, slots := 18, locals := 135 }) (va_Pc [.ref (zad g 0), .int p0, .int p1, .int p2, .ref (zad g 11)] (zPre g x)) (va_Qi (fun (r : Int32) (u : zT) => r = nI (zk3 (zinb p0 4) (zwib p1 (nI 1) (nI 1000000)) (zfrB (S.1 p0.toNatClampNeg) (S.2.1 p0.toNatClampNeg) p1 p2)) ∧ (zk3 (zinb p0 4) (zwib p1 (nI 1) (nI 1000000)) (zfrB (S.1 p0.toNatClampNeg) (S.2.1 p0.toNatClampNeg) p1 p2) = 0 → u.2.1 11 0 = (zfrV (S.1 p0.toNatClampNeg) (S.2.1 p0.toNatClampNeg) p1 p2).toInt64) ∧ zXP x u S) (zB g) (zA g)) 3 18 (zA g) := by
  refine z_metW (cc := cL_frequentAt) (nL := 6) (ret := (some .int)) hg (by decide) rfl (Nat.le_of_ble_eq_true rfl) ?_
  intro p_ e_ s_ m_ args_ below_ meth_ c_ C hr htab
  show Z p_ l e_ _ s_ m_ args_ below_ meth_ c_ g 6 0 0 _ x 0 [(0, .ref (zad g 0)), (1, .int p0), (2, .int p1), (3, .int p2), (4, .ref (zad g 11))] []
  have hw_k0 := C.1.2.2.2.2 (.classLink RL 13 zIOB) (by decide +kernel)
  have hw_k1 := C.1.2.2.2.2 (.classLink RL 15 zIAE) (by decide +kernel)
  have hw_k2 := C.1.2.2.2.2 (.classLink RL 66 zNSE) (by decide +kernel)
  refine z_aload 0 C dL_frequentAt_0 4 rfl ?_
  refine z_iconst (v := nI 0) 2 C dL_frequentAt_2 rfl ?_
  refine z_aload_n 3 C dL_frequentAt_3 rfl 0 rfl ?_
  refine z_iload_n 4 C dL_frequentAt_4 rfl 1 rfl ?_
  refine z_iload_n 5 C dL_frequentAt_5 rfl 2 rfl ?_
  refine z_iload_n 6 C dL_frequentAt_6 rfl 3 rfl ?_
  refine z_callVXi 7 C (As := [.int p0, .int p1, .int p2]) 3 kO_main rfl (c_X5_frequentAt l hls hg x S hA p0 p1 p2) (cwV 3 C.1.2.2.2.2 gL_frequentAt_X5_frequentAt rfl rfl rfl (by decide +kernel) ⟨Nat.le_of_ble_eq_true rfl, Nat.le_of_ble_eq_true rfl⟩) rfl rfl (Nat.le_of_ble_eq_true rfl) ⟨Nat.le_of_ble_eq_true rfl, Nat.le_of_ble_eq_true rfl⟩ dL_frequentAt_7 (fun E hE => ?_) (fun v y hu => ?_)
  · rcases hE with ⟨hk, rfl⟩ | ⟨hk, rfl⟩ | ⟨hk, rfl⟩
    · refine z_catch 7 C (E := zIOB) htab 0 (x9 := (tableOf [(0, 12, 15, 13), (0, 12, 19, 15), (0, 12, 23, 66)]).getD 0 default) rfl (fun z hz => by cases hz) rfl (by decide) hw_k0 (List.mem_of_getElem? (i := 0) rfl) (fun q9 => ?_)
      refine z_astore (lv' := [(5, .ref q9), (0, .ref (zad g 0)), (1, .int p0), (2, .int p1), (3, .int p2), (4, .ref (zad g 11))]) 15 C dL_frequentAt_15 (by decide) rfl ?_
      refine z_iconst (v := nI 1) 17 C dL_frequentAt_17 rfl ?_
      exact z_iret 18 C hr ⟨by rw [hk], fun h => absurd (hk.symm.trans h) (by decide), zXP_x hA⟩ dL_frequentAt_18
    · refine z_catch 7 C (E := zIAE) htab 1 (x9 := (tableOf [(0, 12, 15, 13), (0, 12, 19, 15), (0, 12, 23, 66)]).getD 1 default) rfl (List.forall_mem_cons.mpr ⟨Or.inr ⟨by decide, _, hw_k0, C.2.2.2.2.1.2.2.2.1 _ (List.mem_of_getElem? (i := 0) rfl)⟩, fun z hz => by cases hz⟩) rfl (by decide) hw_k1 (List.mem_of_getElem? (i := 1) rfl) (fun q9 => ?_)
      refine z_astore (lv' := [(5, .ref q9), (0, .ref (zad g 0)), (1, .int p0), (2, .int p1), (3, .int p2), (4, .ref (zad g 11))]) 19 C dL_frequentAt_19 (by decide) rfl ?_
      refine z_iconst (v := nI 2) 21 C dL_frequentAt_21 rfl ?_
      exact z_iret 22 C hr ⟨by rw [hk], fun h => absurd (hk.symm.trans h) (by decide), zXP_x hA⟩ dL_frequentAt_22
    · refine z_catch 7 C (E := zNSE) htab 2 (x9 := (tableOf [(0, 12, 15, 13), (0, 12, 19, 15), (0, 12, 23, 66)]).getD 2 default) rfl (List.forall_mem_cons.mpr ⟨Or.inr ⟨by decide, _, hw_k0, C.2.2.2.2.1.2.2.2.1 _ (List.mem_of_getElem? (i := 3) rfl)⟩, List.forall_mem_cons.mpr ⟨Or.inr ⟨by decide, _, hw_k1, C.2.2.2.2.1.2.2.2.1 _ (List.mem_of_getElem? (i := 4) rfl)⟩, fun z hz => by cases hz⟩⟩) rfl (by decide) hw_k2 (List.mem_of_getElem? (i := 3) rfl) (fun q9 => ?_)
      refine z_astore (lv' := [(5, .ref q9), (0, .ref (zad g 0)), (1, .int p0), (2, .int p1), (3, .int p2), (4, .ref (zad g 11))]) 23 C dL_frequentAt_23 (by decide) rfl ?_
      refine z_iconst (v := nI 3) 25 C dL_frequentAt_25 rfl ?_
      exact z_iret 26 C hr ⟨by rw [hk], fun h => absurd (hk.symm.trans h) (by decide), zXP_x hA⟩ dL_frequentAt_26
  · obtain ⟨h0, j, i, hj, rfl, hyx, hfa, rfl⟩ := hu
    replace hyx := hyx.symm
    subst hyx
    have hclj := nI_clamp (n := j) (by omega)
    obtain ⟨v9, hv9, hv8⟩ : ∃ v9 : Int32, v9 = zfrV (S.1 (nI j).toNatClampNeg) (S.2.1 (nI j).toNatClampNeg) p1 p2 ∧ zfrV (S.1 (nI j).toNatClampNeg) (S.2.1 (nI j).toNatClampNeg) p1 p2 = nI i := ⟨_, rfl, by simp only [hclj]; exact zfrV_eq hfa⟩
    rw [← hv8, ← hv9]
    refine z_i2l (v := v9.toInt64) 10 C dL_frequentAt_10 rfl ?_
    obtain ⟨f1, ef1⟩ : ∃ f9 : Nat → Int64, f9 = vp_updL (x.2.1 11) 0 v9.toInt64 := ⟨_, rfl⟩
    refine z_last (f := f1) 11 C kL_11 (by omega) (by exact ef1.symm) dL_frequentAt_11 ?_
    refine z_goto 12 C 27 dL_frequentAt_12 (by decide) ?_
    refine z_iconst (v := nI 0) 27 C dL_frequentAt_27 rfl ?_
    exact z_iret 28 C hr ⟨by rw [h0], fun _ => by rw [xl_s, ef1]; first | exact pk_uLs | (rw [← hv9]; exact pk_uLs), zXP_ro hA⟩ dL_frequentAt_28
set_option maxHeartbeats 4000000 in
set_option maxRecDepth 100000 in
/-- L_itemOfRank -/
theorem c_L_itemOfRank (l : Launch) {g : zG} (hg : zOk g) (x : zT) (hls : l.stackTraces = false) (S : zS) (hA : zAll x S) (p0 p1 : Int32) : Met l yL_itemOfRank wsL_itemOfRank ({ frames := 8, cells := 2, slots := 12, locals := 130 }) (va_Pc [.ref (zad g 0), .int p0, .int p1, .ref (zad g 11)] (zPre g x)) (va_Qi (fun (r : Int32) (u : zT) => r = nI (zk2 (zinb p0 4) (zwib p1 (nI 1) (ztot (S.1 p0.toNatClampNeg)))) ∧ (zk2 (zinb p0 4) (zwib p1 (nI 1) (ztot (S.1 p0.toNatClampNeg))) = 0 → u.2.1 11 0 = (nI (zrank (S.1 p0.toNatClampNeg) (S.2.1 p0.toNatClampNeg) 6 p1 0)).toInt64) ∧ zXP x u S) (zB g) (zA g)) 2 12 (zA g) := by
  refine z_metW (cc := cL_itemOfRank) (nL := 5) (ret := (some .int)) hg (by decide) rfl (Nat.le_of_ble_eq_true rfl) ?_
  intro p_ e_ s_ m_ args_ below_ meth_ c_ C hr htab
  show Z p_ l e_ _ s_ m_ args_ below_ meth_ c_ g 5 0 0 _ x 0 [(0, .ref (zad g 0)), (1, .int p0), (2, .int p1), (3, .ref (zad g 11))] []
  have hw_k0 := C.1.2.2.2.2 (.classLink RL 13 zIOB) (by decide +kernel)
  have hw_k1 := C.1.2.2.2.2 (.classLink RL 15 zIAE) (by decide +kernel)
  refine z_aload_n 0 C dL_itemOfRank_0 rfl 3 rfl ?_
  refine z_iconst (v := nI 0) 1 C dL_itemOfRank_1 rfl ?_
  refine z_aload_n 2 C dL_itemOfRank_2 rfl 0 rfl ?_
  refine z_iload_n 3 C dL_itemOfRank_3 rfl 1 rfl ?_
  refine z_iload_n 4 C dL_itemOfRank_4 rfl 2 rfl ?_
  refine z_callVXi 5 C (As := [.int p0, .int p1]) 2 kO_main rfl (c_X5_itemOfRank l hls hg x S hA p0 p1) (cwV 2 C.1.2.2.2.2 gL_itemOfRank_X5_itemOfRank rfl rfl rfl (by decide +kernel) ⟨Nat.le_of_ble_eq_true rfl, Nat.le_of_ble_eq_true rfl⟩) rfl rfl (Nat.le_of_ble_eq_true rfl) ⟨Nat.le_of_ble_eq_true rfl, Nat.le_of_ble_eq_true rfl⟩ dL_itemOfRank_5 (fun E hE => ?_) (fun v y hu => ?_)
  · rcases hE with ⟨hk, rfl⟩ | ⟨hk, rfl⟩ | ⟨hk, rfl⟩
    · refine z_catch 5 C (E := zIOB) htab 0 (x9 := (tableOf [(0, 10, 13, 13), (0, 10, 17, 15)]).getD 0 default) rfl (fun z hz => by cases hz) rfl (by decide) hw_k0 (List.mem_of_getElem? (i := 0) rfl) (fun q9 => ?_)
      refine z_astore (lv' := [(4, .ref q9), (0, .ref (zad g 0)), (1, .int p0), (2, .int p1), (3, .ref (zad g 11))]) 13 C dL_itemOfRank_13 (by decide) rfl ?_
      refine z_iconst (v := nI 1) 15 C dL_itemOfRank_15 rfl ?_
      exact z_iret 16 C hr ⟨by rw [hk], fun h => absurd (hk.symm.trans h) (by decide), zXP_x hA⟩ dL_itemOfRank_16
    · refine z_catch 5 C (E := zIAE) htab 1 (x9 := (tableOf [(0, 10, 13, 13), (0, 10, 17, 15)]).getD 1 default) rfl (List.forall_mem_cons.mpr ⟨Or.inr ⟨by decide, _, hw_k0, C.2.2.2.2.1.2.2.2.1 _ (List.mem_of_getElem? (i := 0) rfl)⟩, fun z hz => by cases hz⟩) rfl (by decide) hw_k1 (List.mem_of_getElem? (i := 1) rfl) (fun q9 => ?_)
      refine z_astore (lv' := [(4, .ref q9), (0, .ref (zad g 0)), (1, .int p0), (2, .int p1), (3, .ref (zad g 11))]) 17 C dL_itemOfRank_17 (by decide) rfl ?_
      refine z_iconst (v := nI 2) 19 C dL_itemOfRank_19 rfl ?_
      exact z_iret 20 C hr ⟨by rw [hk], fun h => absurd (hk.symm.trans h) (by decide), zXP_x hA⟩ dL_itemOfRank_20
    · exact absurd hk (zk2_ne (by decide))
  · obtain ⟨h0, j, hj, rfl, hyx, rfl⟩ := hu
    replace hyx := hyx.symm
    subst hyx
    have hclj := nI_clamp (n := j) (by omega)
    obtain ⟨v9, hv9, hv8⟩ : ∃ v9 : Int32, v9 = nI (zrank (S.1 (nI j).toNatClampNeg) (S.2.1 (nI j).toNatClampNeg) 6 p1 0) ∧ nI (zrank (S.1 (nI j).toNatClampNeg) (S.2.1 (nI j).toNatClampNeg) 6 p1 0) = nI (zrank (S.1 j) (S.2.1 j) 6 p1 0) := ⟨_, rfl, by simp only [hclj]⟩
    rw [← hv8, ← hv9]
    refine z_i2l (v := v9.toInt64) 8 C dL_itemOfRank_8 rfl ?_
    obtain ⟨f1, ef1⟩ : ∃ f9 : Nat → Int64, f9 = vp_updL (x.2.1 11) 0 v9.toInt64 := ⟨_, rfl⟩
    refine z_last (f := f1) 9 C kL_11 (by omega) (by exact ef1.symm) dL_itemOfRank_9 ?_
    refine z_goto 10 C 21 dL_itemOfRank_10 (by decide) ?_
    refine z_iconst (v := nI 0) 21 C dL_itemOfRank_21 rfl ?_
    exact z_iret 22 C hr ⟨by rw [h0], fun _ => by rw [xl_s, ef1]; first | exact pk_uLs | (rw [← hv9]; exact pk_uLs), zXP_ro hA⟩ dL_itemOfRank_22
set_option maxHeartbeats 4000000 in
set_option maxRecDepth 100000 in
/-- L_signedColumn -/
theorem c_L_signedColumn (l : Launch) {g : zG} (hg : zOk g) (x : zT) (hls : l.stackTraces = false) (S : zS) (hA : zAll x S) (p0 p1 : Int32) : Met l yL_signedColumn wsL_signedColumn ({ frames := 8, cells := 2, slots := 12, locals := 125 }) (va_Pc [.ref (zad g 0), .int p0, .int p1, .ref (zad g 11)] (zPre g x)) (va_Qi (fun (r : Int32) (u : zT) => r = nI (zk1 (zinb p0 5 && zinb p1 64)) ∧ (zk1 (zinb p0 5 && zinb p1 64) = 0 → u.2.1 11 0 = (nI (zscol p0.toNatClampNeg p1.toNatClampNeg)).toInt64) ∧ zXP x u S) (zB g) (zA g)) 2 12 (zA g) := by
  refine z_metW (cc := cL_signedColumn) (nL := 5) (ret := (some .int)) hg (by decide) rfl (Nat.le_of_ble_eq_true rfl) ?_
  intro p_ e_ s_ m_ args_ below_ meth_ c_ C hr htab
  show Z p_ l e_ _ s_ m_ args_ below_ meth_ c_ g 5 0 0 _ x 0 [(0, .ref (zad g 0)), (1, .int p0), (2, .int p1), (3, .ref (zad g 11))] []
  have hw_k0 := C.1.2.2.2.2 (.classLink RL 13 zIOB) (by decide +kernel)
  refine z_aload_n 0 C dL_signedColumn_0 rfl 3 rfl ?_
  refine z_iconst (v := nI 0) 1 C dL_signedColumn_1 rfl ?_
  refine z_aload_n 2 C dL_signedColumn_2 rfl 0 rfl ?_
  refine z_iload_n 3 C dL_signedColumn_3 rfl 1 rfl ?_
  refine z_iload_n 4 C dL_signedColumn_4 rfl 2 rfl ?_
  refine z_callVXi 5 C (As := [.int p0, .int p1]) 2 kO_main rfl (c_X5_signedColumn l hls hg x S hA p0 p1) (cwV 2 C.1.2.2.2.2 gL_signedColumn_X5_signedColumn rfl rfl rfl (by decide +kernel) ⟨Nat.le_of_ble_eq_true rfl, Nat.le_of_ble_eq_true rfl⟩) rfl rfl (Nat.le_of_ble_eq_true rfl) ⟨Nat.le_of_ble_eq_true rfl, Nat.le_of_ble_eq_true rfl⟩ dL_signedColumn_5 (fun E hE => ?_) (fun v y hu => ?_)
  · rcases hE with ⟨hk, rfl⟩ | ⟨hk, rfl⟩ | ⟨hk, rfl⟩
    · refine z_catch 5 C (E := zIOB) htab 0 (x9 := (tableOf [(0, 10, 13, 13)]).getD 0 default) rfl (fun z hz => by cases hz) rfl (by decide) hw_k0 (List.mem_of_getElem? (i := 0) rfl) (fun q9 => ?_)
      refine z_astore (lv' := [(4, .ref q9), (0, .ref (zad g 0)), (1, .int p0), (2, .int p1), (3, .ref (zad g 11))]) 13 C dL_signedColumn_13 (by decide) rfl ?_
      refine z_iconst (v := nI 1) 15 C dL_signedColumn_15 rfl ?_
      exact z_iret 16 C hr ⟨by rw [hk], fun h => absurd (hk.symm.trans h) (by decide), zXP_x hA⟩ dL_signedColumn_16
    · exact absurd hk (zk1_ne (by decide))
    · exact absurd hk (zk1_ne (by decide))
  · obtain ⟨h0, a, i, ha, hi, rfl, rfl, hyx, rfl⟩ := hu
    replace hyx := hyx.symm
    subst hyx
    have hcla := nI_clamp (n := a) (by omega)
    have hcli := nI_clamp (n := i) (by omega)
    obtain ⟨v9, hv9, hv8⟩ : ∃ v9 : Int32, v9 = nI (zscol (nI a).toNatClampNeg (nI i).toNatClampNeg) ∧ nI (zscol (nI a).toNatClampNeg (nI i).toNatClampNeg) = nI (zscol a i) := ⟨_, rfl, by simp only [hcla, hcli]⟩
    rw [← hv8, ← hv9]
    refine z_i2l (v := v9.toInt64) 8 C dL_signedColumn_8 rfl ?_
    obtain ⟨f1, ef1⟩ : ∃ f9 : Nat → Int64, f9 = vp_updL (x.2.1 11) 0 v9.toInt64 := ⟨_, rfl⟩
    refine z_last (f := f1) 9 C kL_11 (by omega) (by exact ef1.symm) dL_signedColumn_9 ?_
    refine z_goto 10 C 17 dL_signedColumn_10 (by decide) ?_
    refine z_iconst (v := nI 0) 17 C dL_signedColumn_17 rfl ?_
    exact z_iret 18 C hr ⟨by rw [h0], fun _ => by rw [xl_s, ef1]; first | exact pk_uLs | (rw [← hv9]; exact pk_uLs), zXP_ro hA⟩ dL_signedColumn_18
set_option maxHeartbeats 4000000 in
set_option maxRecDepth 100000 in
/-- L_sign -/
theorem c_L_sign (l : Launch) {g : zG} (hg : zOk g) (x : zT) (hls : l.stackTraces = false) (S : zS) (hA : zAll x S) (p0 p1 : Int32) : Met l yL_sign wsL_sign ({ frames := 8, cells := 2, slots := 12, locals := 125 }) (va_Pc [.ref (zad g 0), .int p0, .int p1, .ref (zad g 11)] (zPre g x)) (va_Qi (fun (r : Int32) (u : zT) => r = nI (zk1 (zinb p0 5 && zinb p1 64)) ∧ (zk1 (zinb p0 5 && zinb p1 64) = 0 → u.2.1 11 0 = (zsg p0.toNatClampNeg p1.toNatClampNeg).toInt64) ∧ zXP x u S) (zB g) (zA g)) 2 12 (zA g) := by
  refine z_metW (cc := cL_sign) (nL := 5) (ret := (some .int)) hg (by decide) rfl (Nat.le_of_ble_eq_true rfl) ?_
  intro p_ e_ s_ m_ args_ below_ meth_ c_ C hr htab
  show Z p_ l e_ _ s_ m_ args_ below_ meth_ c_ g 5 0 0 _ x 0 [(0, .ref (zad g 0)), (1, .int p0), (2, .int p1), (3, .ref (zad g 11))] []
  have hw_k0 := C.1.2.2.2.2 (.classLink RL 13 zIOB) (by decide +kernel)
  refine z_aload_n 0 C dL_sign_0 rfl 3 rfl ?_
  refine z_iconst (v := nI 0) 1 C dL_sign_1 rfl ?_
  refine z_aload_n 2 C dL_sign_2 rfl 0 rfl ?_
  refine z_iload_n 3 C dL_sign_3 rfl 1 rfl ?_
  refine z_iload_n 4 C dL_sign_4 rfl 2 rfl ?_
  refine z_callVXi 5 C (As := [.int p0, .int p1]) 2 kO_main rfl (c_X5_sign l hls hg x S hA p0 p1) (cwV 2 C.1.2.2.2.2 gL_sign_X5_sign rfl rfl rfl (by decide +kernel) ⟨Nat.le_of_ble_eq_true rfl, Nat.le_of_ble_eq_true rfl⟩) rfl rfl (Nat.le_of_ble_eq_true rfl) ⟨Nat.le_of_ble_eq_true rfl, Nat.le_of_ble_eq_true rfl⟩ dL_sign_5 (fun E hE => ?_) (fun v y hu => ?_)
  · rcases hE with ⟨hk, rfl⟩ | ⟨hk, rfl⟩ | ⟨hk, rfl⟩
    · refine z_catch 5 C (E := zIOB) htab 0 (x9 := (tableOf [(0, 10, 13, 13)]).getD 0 default) rfl (fun z hz => by cases hz) rfl (by decide) hw_k0 (List.mem_of_getElem? (i := 0) rfl) (fun q9 => ?_)
      refine z_astore (lv' := [(4, .ref q9), (0, .ref (zad g 0)), (1, .int p0), (2, .int p1), (3, .ref (zad g 11))]) 13 C dL_sign_13 (by decide) rfl ?_
      refine z_iconst (v := nI 1) 15 C dL_sign_15 rfl ?_
      exact z_iret 16 C hr ⟨by rw [hk], fun h => absurd (hk.symm.trans h) (by decide), zXP_x hA⟩ dL_sign_16
    · exact absurd hk (zk1_ne (by decide))
    · exact absurd hk (zk1_ne (by decide))
  · obtain ⟨h0, a, i, ha, hi, rfl, rfl, hyx, rfl⟩ := hu
    replace hyx := hyx.symm
    subst hyx
    have hcla := nI_clamp (n := a) (by omega)
    have hcli := nI_clamp (n := i) (by omega)
    obtain ⟨v9, hv9, hv8⟩ : ∃ v9 : Int32, v9 = zsg (nI a).toNatClampNeg (nI i).toNatClampNeg ∧ zsg (nI a).toNatClampNeg (nI i).toNatClampNeg = zsg a i := ⟨_, rfl, by simp only [hcla, hcli]⟩
    rw [← hv8, ← hv9]
    refine z_i2l (v := v9.toInt64) 8 C dL_sign_8 rfl ?_
    obtain ⟨f1, ef1⟩ : ∃ f9 : Nat → Int64, f9 = vp_updL (x.2.1 11) 0 v9.toInt64 := ⟨_, rfl⟩
    refine z_last (f := f1) 9 C kL_11 (by omega) (by exact ef1.symm) dL_sign_9 ?_
    refine z_goto 10 C 17 dL_sign_10 (by decide) ?_
    refine z_iconst (v := nI 0) 17 C dL_sign_17 rfl ?_
    exact z_iret 18 C hr ⟨by rw [h0], fun _ => by rw [xl_s, ef1]; first | exact pk_uLs | (rw [← hv9]; exact pk_uLs), zXP_ro hA⟩ dL_sign_18
set_option maxHeartbeats 4000000 in
set_option maxRecDepth 100000 in
/-- L_signedCell -/
theorem c_L_signedCell (l : Launch) {g : zG} (hg : zOk g) (x : zT) (hls : l.stackTraces = false) (S : zS) (hA : zAll x S) (p0 p1 p2 : Int32) : Met l yL_signedCell wsL_signedCell ({ frames := 8, cells := 3, slots := 18, locals := 126 }) (va_Pc [.ref (zad g 0), .int p0, .int p1, .int p2, .ref (zad g 11)] (zPre g x)) (va_Qi (fun (r : Int32) (u : zT) => r = nI (zk1 (zinb p0 4 && (zinb p1 5 && zinb p2 8))) ∧ (zk1 (zinb p0 4 && (zinb p1 5 && zinb p2 8)) = 0 → u.2.1 11 0 = (zscell (S.1 p0.toNatClampNeg) p1.toNatClampNeg p2.toNatClampNeg).toInt64) ∧ zXP x u S) (zB g) (zA g)) 3 18 (zA g) := by
  refine z_metW (cc := cL_signedCell) (nL := 6) (ret := (some .int)) hg (by decide) rfl (Nat.le_of_ble_eq_true rfl) ?_
  intro p_ e_ s_ m_ args_ below_ meth_ c_ C hr htab
  show Z p_ l e_ _ s_ m_ args_ below_ meth_ c_ g 6 0 0 _ x 0 [(0, .ref (zad g 0)), (1, .int p0), (2, .int p1), (3, .int p2), (4, .ref (zad g 11))] []
  have hw_k0 := C.1.2.2.2.2 (.classLink RL 13 zIOB) (by decide +kernel)
  refine z_aload 0 C dL_signedCell_0 4 rfl ?_
  refine z_iconst (v := nI 0) 2 C dL_signedCell_2 rfl ?_
  refine z_aload_n 3 C dL_signedCell_3 rfl 0 rfl ?_
  refine z_iload_n 4 C dL_signedCell_4 rfl 1 rfl ?_
  refine z_iload_n 5 C dL_signedCell_5 rfl 2 rfl ?_
  refine z_iload_n 6 C dL_signedCell_6 rfl 3 rfl ?_
  refine z_callVXi 7 C (As := [.int p0, .int p1, .int p2]) 3 kO_main rfl (c_X5_signedCell l hls hg x S hA p0 p1 p2) (cwV 3 C.1.2.2.2.2 gL_signedCell_X5_signedCell rfl rfl rfl (by decide +kernel) ⟨Nat.le_of_ble_eq_true rfl, Nat.le_of_ble_eq_true rfl⟩) rfl rfl (Nat.le_of_ble_eq_true rfl) ⟨Nat.le_of_ble_eq_true rfl, Nat.le_of_ble_eq_true rfl⟩ dL_signedCell_7 (fun E hE => ?_) (fun v y hu => ?_)
  · rcases hE with ⟨hk, rfl⟩ | ⟨hk, rfl⟩ | ⟨hk, rfl⟩
    · refine z_catch 7 C (E := zIOB) htab 0 (x9 := (tableOf [(0, 12, 15, 13)]).getD 0 default) rfl (fun z hz => by cases hz) rfl (by decide) hw_k0 (List.mem_of_getElem? (i := 0) rfl) (fun q9 => ?_)
      refine z_astore (lv' := [(5, .ref q9), (0, .ref (zad g 0)), (1, .int p0), (2, .int p1), (3, .int p2), (4, .ref (zad g 11))]) 15 C dL_signedCell_15 (by decide) rfl ?_
      refine z_iconst (v := nI 1) 17 C dL_signedCell_17 rfl ?_
      exact z_iret 18 C hr ⟨by rw [hk], fun h => absurd (hk.symm.trans h) (by decide), zXP_x hA⟩ dL_signedCell_18
    · exact absurd hk (zk1_ne (by decide))
    · exact absurd hk (zk1_ne (by decide))
  · obtain ⟨h0, j, a, b, hj, ha, hb, rfl, rfl, rfl, hyx, rfl⟩ := hu
    replace hyx := hyx.symm
    subst hyx
    have hclj := nI_clamp (n := j) (by omega)
    have hcla := nI_clamp (n := a) (by omega)
    have hclb := nI_clamp (n := b) (by omega)
    obtain ⟨v9, hv9, hv8⟩ : ∃ v9 : Int32, v9 = zscell (S.1 (nI j).toNatClampNeg) (nI a).toNatClampNeg (nI b).toNatClampNeg ∧ zscell (S.1 (nI j).toNatClampNeg) (nI a).toNatClampNeg (nI b).toNatClampNeg = zscell (S.1 j) a b := ⟨_, rfl, by simp only [hclj, hcla, hclb]⟩
    rw [← hv8, ← hv9]
    refine z_i2l (v := v9.toInt64) 10 C dL_signedCell_10 rfl ?_
    obtain ⟨f1, ef1⟩ : ∃ f9 : Nat → Int64, f9 = vp_updL (x.2.1 11) 0 v9.toInt64 := ⟨_, rfl⟩
    refine z_last (f := f1) 11 C kL_11 (by omega) (by exact ef1.symm) dL_signedCell_11 ?_
    refine z_goto 12 C 19 dL_signedCell_12 (by decide) ?_
    refine z_iconst (v := nI 0) 19 C dL_signedCell_19 rfl ?_
    exact z_iret 20 C hr ⟨by rw [h0], fun _ => by rw [xl_s, ef1]; first | exact pk_uLs | (rw [← hv9]; exact pk_uLs), zXP_ro hA⟩ dL_signedCell_20
set_option maxHeartbeats 4000000 in
set_option maxRecDepth 100000 in
/-- L_signedEstimate -/
theorem c_L_signedEstimate (l : Launch) {g : zG} (hg : zOk g) (x : zT) (hls : l.stackTraces = false) (S : zS) (hA : zAll x S) (p0 p1 : Int32) : Met l yL_signedEstimate wsL_signedEstimate ({ frames := 8, cells := 2, slots := 12, locals := 125 }) (va_Pc [.ref (zad g 0), .int p0, .int p1, .ref (zad g 11)] (zPre g x)) (va_Qi (fun (r : Int32) (u : zT) => r = nI (zk1 (zinb p0 4 && zinb p1 64)) ∧ (zk1 (zinb p0 4 && zinb p1 64) = 0 → u.2.1 11 0 = ((zmidV (fun row => (zsg row p1.toNatClampNeg * zscell (S.1 p0.toNatClampNeg) row (zscol row p1.toNatClampNeg)).toInt64)).toInt32).toInt64) ∧ zXP x u S ∧ (zk1 (zinb p0 4 && zinb p1 64) = 0 → ∃ m, zsest (S.1 p0.toNatClampNeg) p1.toNatClampNeg m)) (zB g) (zA g)) 2 12 (zA g) := by
  refine z_metW (cc := cL_signedEstimate) (nL := 5) (ret := (some .int)) hg (by decide) rfl (Nat.le_of_ble_eq_true rfl) ?_
  intro p_ e_ s_ m_ args_ below_ meth_ c_ C hr htab
  show Z p_ l e_ _ s_ m_ args_ below_ meth_ c_ g 5 0 0 _ x 0 [(0, .ref (zad g 0)), (1, .int p0), (2, .int p1), (3, .ref (zad g 11))] []
  have hw_k0 := C.1.2.2.2.2 (.classLink RL 13 zIOB) (by decide +kernel)
  refine z_aload_n 0 C dL_signedEstimate_0 rfl 3 rfl ?_
  refine z_iconst (v := nI 0) 1 C dL_signedEstimate_1 rfl ?_
  refine z_aload_n 2 C dL_signedEstimate_2 rfl 0 rfl ?_
  refine z_iload_n 3 C dL_signedEstimate_3 rfl 1 rfl ?_
  refine z_iload_n 4 C dL_signedEstimate_4 rfl 2 rfl ?_
  refine z_callVXi 5 C (As := [.int p0, .int p1]) 2 kO_main rfl (c_X5_signedEstimate l hls hg x S hA p0 p1) (cwV 2 C.1.2.2.2.2 gL_signedEstimate_X5_signedEstimate rfl rfl rfl (by decide +kernel) ⟨Nat.le_of_ble_eq_true rfl, Nat.le_of_ble_eq_true rfl⟩) rfl rfl (Nat.le_of_ble_eq_true rfl) ⟨Nat.le_of_ble_eq_true rfl, Nat.le_of_ble_eq_true rfl⟩ dL_signedEstimate_5 (fun E hE => ?_) (fun v y hu => ?_)
  · rcases hE with ⟨hk, rfl⟩ | ⟨hk, rfl⟩ | ⟨hk, rfl⟩
    · refine z_catch 5 C (E := zIOB) htab 0 (x9 := (tableOf [(0, 10, 13, 13)]).getD 0 default) rfl (fun z hz => by cases hz) rfl (by decide) hw_k0 (List.mem_of_getElem? (i := 0) rfl) (fun q9 => ?_)
      refine z_astore (lv' := [(4, .ref q9), (0, .ref (zad g 0)), (1, .int p0), (2, .int p1), (3, .ref (zad g 11))]) 13 C dL_signedEstimate_13 (by decide) rfl ?_
      refine z_iconst (v := nI 1) 15 C dL_signedEstimate_15 rfl ?_
      exact z_iret 16 C hr ⟨by rw [hk], fun h => absurd (hk.symm.trans h) (by decide), zXP_x hA, fun h => absurd (hk.symm.trans h) (by decide)⟩ dL_signedEstimate_16
    · exact absurd hk (zk1_ne (by decide))
    · exact absurd hk (zk1_ne (by decide))
  · obtain ⟨h0, j, i, hj, hi, rfl, rfl, ⟨hm, rfl⟩, mv, hmv, rfl⟩ := hu
    have hclj := nI_clamp (n := j) (by omega)
    have hcli := nI_clamp (n := i) (by omega)
    obtain ⟨v9, hv9, hv8⟩ : ∃ v9 : Int32, v9 = (zmidV (fun row => (zsg row (nI i).toNatClampNeg * zscell (S.1 (nI j).toNatClampNeg) row (zscol row (nI i).toNatClampNeg)).toInt64)).toInt32 ∧ (zmidV (fun row => (zsg row (nI i).toNatClampNeg * zscell (S.1 (nI j).toNatClampNeg) row (zscol row (nI i).toNatClampNeg)).toInt64)).toInt32 = mv.toInt32 := ⟨_, rfl, by simp only [hclj, hcli]; exact congrArg Int64.toInt32 (zmidV_eq hmv)⟩
    rw [← hv8, ← hv9]
    refine z_i2l (v := v9.toInt64) 8 C dL_signedEstimate_8 rfl ?_
    obtain ⟨f1, ef1⟩ : ∃ f9 : Nat → Int64, f9 = vp_updL (x.2.1 11) 0 v9.toInt64 := ⟨_, rfl⟩
    refine z_last (f := f1) 9 C kL_11 (by omega) (by rw [xl_n _ (by unfold zp; omega)]; exact ef1.symm) dL_signedEstimate_9 ?_
    refine z_goto 10 C 17 dL_signedEstimate_10 (by decide) ?_
    refine z_iconst (v := nI 0) 17 C dL_signedEstimate_17 rfl ?_
    exact z_iret 18 C hr ⟨by rw [h0], fun _ => by rw [xl_s, ef1]; first | exact pk_uLs | (rw [← hv9]; exact pk_uLs), zXP_ro2 hA, fun _ => ⟨_, by simp only [hclj, hcli]; exact hmv⟩⟩ dL_signedEstimate_18
set_option maxHeartbeats 4000000 in
set_option maxRecDepth 100000 in
/-- L_signedProduct -/
theorem c_L_signedProduct (l : Launch) {g : zG} (hg : zOk g) (x : zT) (hls : l.stackTraces = false) (S : zS) (hA : zAll x S) (p0 p1 : Int32) : Met l yL_signedProduct wsL_signedProduct ({ frames := 8, cells := 2, slots := 12, locals := 125 }) (va_Pc [.ref (zad g 0), .int p0, .int p1, .ref (zad g 11)] (zPre g x)) (va_Qi (fun (r : Int32) (u : zT) => r = nI (zk1 (zinb p0 4 && zinb p1 4)) ∧ (zk1 (zinb p0 4 && zinb p1 4) = 0 → u.2.1 11 0 = zmidV (fun row => zsumL (fun col => (zscell (S.1 p0.toNatClampNeg) row col).toInt64 * (zscell (S.1 p1.toNatClampNeg) row col).toInt64) 0 8)) ∧ zXP x u S ∧ (zk1 (zinb p0 4 && zinb p1 4) = 0 → ∃ m, zsprod (S.1 p0.toNatClampNeg) (S.1 p1.toNatClampNeg) m)) (zB g) (zA g)) 2 12 (zA g) := by
  refine z_metW (cc := cL_signedProduct) (nL := 5) (ret := (some .int)) hg (by decide) rfl (Nat.le_of_ble_eq_true rfl) ?_
  intro p_ e_ s_ m_ args_ below_ meth_ c_ C hr htab
  show Z p_ l e_ _ s_ m_ args_ below_ meth_ c_ g 5 0 0 _ x 0 [(0, .ref (zad g 0)), (1, .int p0), (2, .int p1), (3, .ref (zad g 11))] []
  have hw_k0 := C.1.2.2.2.2 (.classLink RL 13 zIOB) (by decide +kernel)
  refine z_aload_n 0 C dL_signedProduct_0 rfl 3 rfl ?_
  refine z_iconst (v := nI 0) 1 C dL_signedProduct_1 rfl ?_
  refine z_aload_n 2 C dL_signedProduct_2 rfl 0 rfl ?_
  refine z_iload_n 3 C dL_signedProduct_3 rfl 1 rfl ?_
  refine z_iload_n 4 C dL_signedProduct_4 rfl 2 rfl ?_
  refine z_callVXl 5 C (As := [.int p0, .int p1]) 2 kO_main rfl (c_X5_signedProduct l hls hg x S hA p0 p1) (cwV 2 C.1.2.2.2.2 gL_signedProduct_X5_signedProduct rfl rfl rfl (by decide +kernel) ⟨Nat.le_of_ble_eq_true rfl, Nat.le_of_ble_eq_true rfl⟩) rfl rfl (Nat.le_of_ble_eq_true rfl) ⟨Nat.le_of_ble_eq_true rfl, Nat.le_of_ble_eq_true rfl⟩ dL_signedProduct_5 (fun E hE => ?_) (fun v y hu => ?_)
  · rcases hE with ⟨hk, rfl⟩ | ⟨hk, rfl⟩ | ⟨hk, rfl⟩
    · refine z_catch 5 C (E := zIOB) htab 0 (x9 := (tableOf [(0, 9, 12, 13)]).getD 0 default) rfl (fun z hz => by cases hz) rfl (by decide) hw_k0 (List.mem_of_getElem? (i := 0) rfl) (fun q9 => ?_)
      refine z_astore (lv' := [(4, .ref q9), (0, .ref (zad g 0)), (1, .int p0), (2, .int p1), (3, .ref (zad g 11))]) 12 C dL_signedProduct_12 (by decide) rfl ?_
      refine z_iconst (v := nI 1) 14 C dL_signedProduct_14 rfl ?_
      exact z_iret 15 C hr ⟨by rw [hk], fun h => absurd (hk.symm.trans h) (by decide), zXP_x hA, fun h => absurd (hk.symm.trans h) (by decide)⟩ dL_signedProduct_15
    · exact absurd hk (zk1_ne (by decide))
    · exact absurd hk (zk1_ne (by decide))
  · obtain ⟨h0, j, o, hj, ho, rfl, rfl, ⟨hm, rfl⟩, hmv⟩ := hu
    have hclj := nI_clamp (n := j) (by omega)
    have hclo := nI_clamp (n := o) (by omega)
    obtain ⟨v9, hv9, hv8⟩ : ∃ v9 : Int64, v9 = zmidV (fun row => zsumL (fun col => (zscell (S.1 (nI j).toNatClampNeg) row col).toInt64 * (zscell (S.1 (nI o).toNatClampNeg) row col).toInt64) 0 8) ∧ zmidV (fun row => zsumL (fun col => (zscell (S.1 (nI j).toNatClampNeg) row col).toInt64 * (zscell (S.1 (nI o).toNatClampNeg) row col).toInt64) 0 8) = v := ⟨_, rfl, by simp only [hclj, hclo]; exact zmidV_eq hmv⟩
    rw [← hv8, ← hv9]
    obtain ⟨f1, ef1⟩ : ∃ f9 : Nat → Int64, f9 = vp_updL (x.2.1 11) 0 v9 := ⟨_, rfl⟩
    refine z_last (f := f1) 8 C kL_11 (by omega) (by rw [xl_n _ (by unfold zp; omega)]; exact ef1.symm) dL_signedProduct_8 ?_
    refine z_goto 9 C 16 dL_signedProduct_9 (by decide) ?_
    refine z_iconst (v := nI 0) 16 C dL_signedProduct_16 rfl ?_
    exact z_iret 17 C hr ⟨by rw [h0], fun _ => by rw [xl_s, ef1]; first | exact pk_uLs | (rw [← hv9]; exact pk_uLs), zXP_ro2 hA, fun _ => ⟨_, by simp only [hclj, hclo]; exact hmv⟩⟩ dL_signedProduct_17
set_option maxHeartbeats 4000000 in
set_option maxRecDepth 100000 in
/-- L_counters -/
theorem c_L_counters (l : Launch) {g : zG} (hg : zOk g) (x : zT) (hls : l.stackTraces = false) (S : zS) (hA : zAll x S) (p0 : Int32) : Met l yL_counters wsL_counters ({ frames := 8, cells := 1, slots := 6, locals := 124 }) (va_Pc [.ref (zad g 0), .int p0, .ref (zad g 11)] (zPre g x)) (va_Qi (fun (r : Int32) (u : zT) => r = nI (zk1 (zinb p0 4)) ∧ (zk1 (zinb p0 4) = 0 → u.2.1 11 0 = (nI (S.2.2.1 p0.toNatClampNeg).length).toInt64) ∧ zXP x u S) (zB g) (zA g)) 1 6 (zA g) := by
  refine z_metW (cc := cL_counters) (nL := 4) (ret := (some .int)) hg (by decide) rfl (Nat.le_of_ble_eq_true rfl) ?_
  intro p_ e_ s_ m_ args_ below_ meth_ c_ C hr htab
  show Z p_ l e_ _ s_ m_ args_ below_ meth_ c_ g 4 0 0 _ x 0 [(0, .ref (zad g 0)), (1, .int p0), (2, .ref (zad g 11))] []
  have hw_k0 := C.1.2.2.2.2 (.classLink RL 13 zIOB) (by decide +kernel)
  refine z_aload_n 0 C dL_counters_0 rfl 2 rfl ?_
  refine z_iconst (v := nI 0) 1 C dL_counters_1 rfl ?_
  refine z_aload_n 2 C dL_counters_2 rfl 0 rfl ?_
  refine z_iload_n 3 C dL_counters_3 rfl 1 rfl ?_
  refine z_callVXi 4 C (As := [.int p0]) 1 kO_main rfl (c_X5_counters l hls hg x S hA p0) (cwV 1 C.1.2.2.2.2 gL_counters_X5_counters rfl rfl rfl (by decide +kernel) ⟨Nat.le_of_ble_eq_true rfl, Nat.le_of_ble_eq_true rfl⟩) rfl rfl (Nat.le_of_ble_eq_true rfl) ⟨Nat.le_of_ble_eq_true rfl, Nat.le_of_ble_eq_true rfl⟩ dL_counters_4 (fun E hE => ?_) (fun v y hu => ?_)
  · rcases hE with ⟨hk, rfl⟩ | ⟨hk, rfl⟩ | ⟨hk, rfl⟩
    · refine z_catch 4 C (E := zIOB) htab 0 (x9 := (tableOf [(0, 9, 12, 13)]).getD 0 default) rfl (fun z hz => by cases hz) rfl (by decide) hw_k0 (List.mem_of_getElem? (i := 0) rfl) (fun q9 => ?_)
      refine z_astore_n (lv' := [(3, .ref q9), (0, .ref (zad g 0)), (1, .int p0), (2, .ref (zad g 11))]) 12 C dL_counters_12 rfl (by decide) rfl ?_
      refine z_iconst (v := nI 1) 13 C dL_counters_13 rfl ?_
      exact z_iret 14 C hr ⟨by rw [hk], fun h => absurd (hk.symm.trans h) (by decide), zXP_x hA⟩ dL_counters_14
    · exact absurd hk (zk1_ne (by decide))
    · exact absurd hk (zk1_ne (by decide))
  · obtain ⟨h0, j, hj, rfl, hyx, rfl⟩ := hu
    replace hyx := hyx.symm
    subst hyx
    have hclj := nI_clamp (n := j) (by omega)
    obtain ⟨v9, hv9, hv8⟩ : ∃ v9 : Int32, v9 = nI (S.2.2.1 (nI j).toNatClampNeg).length ∧ nI (S.2.2.1 (nI j).toNatClampNeg).length = nI (S.2.2.1 j).length := ⟨_, rfl, by simp only [hclj]⟩
    rw [← hv8, ← hv9]
    refine z_i2l (v := v9.toInt64) 7 C dL_counters_7 rfl ?_
    obtain ⟨f1, ef1⟩ : ∃ f9 : Nat → Int64, f9 = vp_updL (x.2.1 11) 0 v9.toInt64 := ⟨_, rfl⟩
    refine z_last (f := f1) 8 C kL_11 (by omega) (by exact ef1.symm) dL_counters_8 ?_
    refine z_goto 9 C 15 dL_counters_9 (by decide) ?_
    refine z_iconst (v := nI 0) 15 C dL_counters_15 rfl ?_
    exact z_iret 16 C hr ⟨by rw [h0], fun _ => by rw [xl_s, ef1]; first | exact pk_uLs | (rw [← hv9]; exact pk_uLs), zXP_ro hA⟩ dL_counters_16
set_option maxHeartbeats 4000000 in
set_option maxRecDepth 100000 in
/-- L_counterItem -/
theorem c_L_counterItem (l : Launch) {g : zG} (hg : zOk g) (x : zT) (hls : l.stackTraces = false) (S : zS) (hA : zAll x S) (p0 p1 : Int32) : Met l yL_counterItem wsL_counterItem ({ frames := 8, cells := 2, slots := 12, locals := 125 }) (va_Pc [.ref (zad g 0), .int p0, .int p1, .ref (zad g 11)] (zPre g x)) (va_Qi (fun (r : Int32) (u : zT) => r = nI (zk1 (zinb p0 4 && zinb p1 (S.2.2.1 p0.toNatClampNeg).length)) ∧ (zk1 (zinb p0 4 && zinb p1 (S.2.2.1 p0.toNatClampNeg).length) = 0 → u.2.1 11 0 = ((zL (S.2.2.1 p0.toNatClampNeg) p1.toNatClampNeg).1).toInt64) ∧ zXP x u S) (zB g) (zA g)) 2 12 (zA g) := by
  refine z_metW (cc := cL_counterItem) (nL := 5) (ret := (some .int)) hg (by decide) rfl (Nat.le_of_ble_eq_true rfl) ?_
  intro p_ e_ s_ m_ args_ below_ meth_ c_ C hr htab
  show Z p_ l e_ _ s_ m_ args_ below_ meth_ c_ g 5 0 0 _ x 0 [(0, .ref (zad g 0)), (1, .int p0), (2, .int p1), (3, .ref (zad g 11))] []
  have hw_k0 := C.1.2.2.2.2 (.classLink RL 13 zIOB) (by decide +kernel)
  refine z_aload_n 0 C dL_counterItem_0 rfl 3 rfl ?_
  refine z_iconst (v := nI 0) 1 C dL_counterItem_1 rfl ?_
  refine z_aload_n 2 C dL_counterItem_2 rfl 0 rfl ?_
  refine z_iload_n 3 C dL_counterItem_3 rfl 1 rfl ?_
  refine z_iload_n 4 C dL_counterItem_4 rfl 2 rfl ?_
  refine z_callVXi 5 C (As := [.int p0, .int p1]) 2 kO_main rfl (c_X5_counterItem l hls hg x S hA p0 p1) (cwV 2 C.1.2.2.2.2 gL_counterItem_X5_counterItem rfl rfl rfl (by decide +kernel) ⟨Nat.le_of_ble_eq_true rfl, Nat.le_of_ble_eq_true rfl⟩) rfl rfl (Nat.le_of_ble_eq_true rfl) ⟨Nat.le_of_ble_eq_true rfl, Nat.le_of_ble_eq_true rfl⟩ dL_counterItem_5 (fun E hE => ?_) (fun v y hu => ?_)
  · rcases hE with ⟨hk, rfl⟩ | ⟨hk, rfl⟩ | ⟨hk, rfl⟩
    · refine z_catch 5 C (E := zIOB) htab 0 (x9 := (tableOf [(0, 10, 13, 13)]).getD 0 default) rfl (fun z hz => by cases hz) rfl (by decide) hw_k0 (List.mem_of_getElem? (i := 0) rfl) (fun q9 => ?_)
      refine z_astore (lv' := [(4, .ref q9), (0, .ref (zad g 0)), (1, .int p0), (2, .int p1), (3, .ref (zad g 11))]) 13 C dL_counterItem_13 (by decide) rfl ?_
      refine z_iconst (v := nI 1) 15 C dL_counterItem_15 rfl ?_
      exact z_iret 16 C hr ⟨by rw [hk], fun h => absurd (hk.symm.trans h) (by decide), zXP_x hA⟩ dL_counterItem_16
    · exact absurd hk (zk1_ne (by decide))
    · exact absurd hk (zk1_ne (by decide))
  · obtain ⟨h0, j, q, hj, hq, rfl, rfl, hyx, rfl⟩ := hu
    replace hyx := hyx.symm
    subst hyx
    have hclj := nI_clamp (n := j) (by omega)
    have hclq := nI_clamp (n := q) (by have := (hA j hj).2.2.2.2.2.2.2.1; omega)
    obtain ⟨v9, hv9, hv8⟩ : ∃ v9 : Int32, v9 = (zL (S.2.2.1 (nI j).toNatClampNeg) (nI q).toNatClampNeg).1 ∧ (zL (S.2.2.1 (nI j).toNatClampNeg) (nI q).toNatClampNeg).1 = (zL (S.2.2.1 j) q).1 := ⟨_, rfl, by simp only [hclj, hclq]⟩
    rw [← hv8, ← hv9]
    refine z_i2l (v := v9.toInt64) 8 C dL_counterItem_8 rfl ?_
    obtain ⟨f1, ef1⟩ : ∃ f9 : Nat → Int64, f9 = vp_updL (x.2.1 11) 0 v9.toInt64 := ⟨_, rfl⟩
    refine z_last (f := f1) 9 C kL_11 (by omega) (by exact ef1.symm) dL_counterItem_9 ?_
    refine z_goto 10 C 17 dL_counterItem_10 (by decide) ?_
    refine z_iconst (v := nI 0) 17 C dL_counterItem_17 rfl ?_
    exact z_iret 18 C hr ⟨by rw [h0], fun _ => by rw [xl_s, ef1]; first | exact pk_uLs | (rw [← hv9]; exact pk_uLs), zXP_ro hA⟩ dL_counterItem_18
set_option maxHeartbeats 4000000 in
set_option maxRecDepth 100000 in
/-- L_counterOf -/
theorem c_L_counterOf (l : Launch) {g : zG} (hg : zOk g) (x : zT) (hls : l.stackTraces = false) (S : zS) (hA : zAll x S) (p0 p1 : Int32) : Met l yL_counterOf wsL_counterOf ({ frames := 8, cells := 2, slots := 12, locals := 125 }) (va_Pc [.ref (zad g 0), .int p0, .int p1, .ref (zad g 11)] (zPre g x)) (va_Qi (fun (r : Int32) (u : zT) => r = nI (zk1 (zinb p0 4 && zinb p1 64)) ∧ (zk1 (zinb p0 4 && zinb p1 64) = 0 → u.2.1 11 0 = (zwt (S.2.2.1 p0.toNatClampNeg) (nI p1.toNatClampNeg)).toInt64) ∧ zXP x u S) (zB g) (zA g)) 2 12 (zA g) := by
  refine z_metW (cc := cL_counterOf) (nL := 5) (ret := (some .int)) hg (by decide) rfl (Nat.le_of_ble_eq_true rfl) ?_
  intro p_ e_ s_ m_ args_ below_ meth_ c_ C hr htab
  show Z p_ l e_ _ s_ m_ args_ below_ meth_ c_ g 5 0 0 _ x 0 [(0, .ref (zad g 0)), (1, .int p0), (2, .int p1), (3, .ref (zad g 11))] []
  have hw_k0 := C.1.2.2.2.2 (.classLink RL 13 zIOB) (by decide +kernel)
  refine z_aload_n 0 C dL_counterOf_0 rfl 3 rfl ?_
  refine z_iconst (v := nI 0) 1 C dL_counterOf_1 rfl ?_
  refine z_aload_n 2 C dL_counterOf_2 rfl 0 rfl ?_
  refine z_iload_n 3 C dL_counterOf_3 rfl 1 rfl ?_
  refine z_iload_n 4 C dL_counterOf_4 rfl 2 rfl ?_
  refine z_callVXi 5 C (As := [.int p0, .int p1]) 2 kO_main rfl (c_X5_counterOf l hls hg x S hA p0 p1) (cwV 2 C.1.2.2.2.2 gL_counterOf_X5_counterOf rfl rfl rfl (by decide +kernel) ⟨Nat.le_of_ble_eq_true rfl, Nat.le_of_ble_eq_true rfl⟩) rfl rfl (Nat.le_of_ble_eq_true rfl) ⟨Nat.le_of_ble_eq_true rfl, Nat.le_of_ble_eq_true rfl⟩ dL_counterOf_5 (fun E hE => ?_) (fun v y hu => ?_)
  · rcases hE with ⟨hk, rfl⟩ | ⟨hk, rfl⟩ | ⟨hk, rfl⟩
    · refine z_catch 5 C (E := zIOB) htab 0 (x9 := (tableOf [(0, 10, 13, 13)]).getD 0 default) rfl (fun z hz => by cases hz) rfl (by decide) hw_k0 (List.mem_of_getElem? (i := 0) rfl) (fun q9 => ?_)
      refine z_astore (lv' := [(4, .ref q9), (0, .ref (zad g 0)), (1, .int p0), (2, .int p1), (3, .ref (zad g 11))]) 13 C dL_counterOf_13 (by decide) rfl ?_
      refine z_iconst (v := nI 1) 15 C dL_counterOf_15 rfl ?_
      exact z_iret 16 C hr ⟨by rw [hk], fun h => absurd (hk.symm.trans h) (by decide), zXP_x hA⟩ dL_counterOf_16
    · exact absurd hk (zk1_ne (by decide))
    · exact absurd hk (zk1_ne (by decide))
  · obtain ⟨h0, j, i, hj, hi, rfl, rfl, hyx, rfl⟩ := hu
    replace hyx := hyx.symm
    subst hyx
    have hclj := nI_clamp (n := j) (by omega)
    have hcli := nI_clamp (n := i) (by omega)
    obtain ⟨v9, hv9, hv8⟩ : ∃ v9 : Int32, v9 = zwt (S.2.2.1 (nI j).toNatClampNeg) (nI (nI i).toNatClampNeg) ∧ zwt (S.2.2.1 (nI j).toNatClampNeg) (nI (nI i).toNatClampNeg) = zwt (S.2.2.1 j) (nI i) := ⟨_, rfl, by simp only [hclj, hcli]⟩
    rw [← hv8, ← hv9]
    refine z_i2l (v := v9.toInt64) 8 C dL_counterOf_8 rfl ?_
    obtain ⟨f1, ef1⟩ : ∃ f9 : Nat → Int64, f9 = vp_updL (x.2.1 11) 0 v9.toInt64 := ⟨_, rfl⟩
    refine z_last (f := f1) 9 C kL_11 (by omega) (by exact ef1.symm) dL_counterOf_9 ?_
    refine z_goto 10 C 17 dL_counterOf_10 (by decide) ?_
    refine z_iconst (v := nI 0) 17 C dL_counterOf_17 rfl ?_
    exact z_iret 18 C hr ⟨by rw [h0], fun _ => by rw [xl_s, ef1]; first | exact pk_uLs | (rw [← hv9]; exact pk_uLs), zXP_ro hA⟩ dL_counterOf_18
set_option maxHeartbeats 4000000 in
set_option maxRecDepth 100000 in
/-- L_taken -/
theorem c_L_taken (l : Launch) {g : zG} (hg : zOk g) (x : zT) (hls : l.stackTraces = false) (S : zS) (hA : zAll x S) (p0 : Int32) : Met l yL_taken wsL_taken ({ frames := 8, cells := 1, slots := 6, locals := 124 }) (va_Pc [.ref (zad g 0), .int p0, .ref (zad g 11)] (zPre g x)) (va_Qi (fun (r : Int32) (u : zT) => r = nI (zk1 (zinb p0 4)) ∧ (zk1 (zinb p0 4) = 0 → u.2.1 11 0 = (S.2.2.2 p0.toNatClampNeg).toInt64) ∧ zXP x u S) (zB g) (zA g)) 1 6 (zA g) := by
  refine z_metW (cc := cL_taken) (nL := 4) (ret := (some .int)) hg (by decide) rfl (Nat.le_of_ble_eq_true rfl) ?_
  intro p_ e_ s_ m_ args_ below_ meth_ c_ C hr htab
  show Z p_ l e_ _ s_ m_ args_ below_ meth_ c_ g 4 0 0 _ x 0 [(0, .ref (zad g 0)), (1, .int p0), (2, .ref (zad g 11))] []
  have hw_k0 := C.1.2.2.2.2 (.classLink RL 13 zIOB) (by decide +kernel)
  refine z_aload_n 0 C dL_taken_0 rfl 2 rfl ?_
  refine z_iconst (v := nI 0) 1 C dL_taken_1 rfl ?_
  refine z_aload_n 2 C dL_taken_2 rfl 0 rfl ?_
  refine z_iload_n 3 C dL_taken_3 rfl 1 rfl ?_
  refine z_callVXi 4 C (As := [.int p0]) 1 kO_main rfl (c_X5_taken l hls hg x S hA p0) (cwV 1 C.1.2.2.2.2 gL_taken_X5_taken rfl rfl rfl (by decide +kernel) ⟨Nat.le_of_ble_eq_true rfl, Nat.le_of_ble_eq_true rfl⟩) rfl rfl (Nat.le_of_ble_eq_true rfl) ⟨Nat.le_of_ble_eq_true rfl, Nat.le_of_ble_eq_true rfl⟩ dL_taken_4 (fun E hE => ?_) (fun v y hu => ?_)
  · rcases hE with ⟨hk, rfl⟩ | ⟨hk, rfl⟩ | ⟨hk, rfl⟩
    · refine z_catch 4 C (E := zIOB) htab 0 (x9 := (tableOf [(0, 9, 12, 13)]).getD 0 default) rfl (fun z hz => by cases hz) rfl (by decide) hw_k0 (List.mem_of_getElem? (i := 0) rfl) (fun q9 => ?_)
      refine z_astore_n (lv' := [(3, .ref q9), (0, .ref (zad g 0)), (1, .int p0), (2, .ref (zad g 11))]) 12 C dL_taken_12 rfl (by decide) rfl ?_
      refine z_iconst (v := nI 1) 13 C dL_taken_13 rfl ?_
      exact z_iret 14 C hr ⟨by rw [hk], fun h => absurd (hk.symm.trans h) (by decide), zXP_x hA⟩ dL_taken_14
    · exact absurd hk (zk1_ne (by decide))
    · exact absurd hk (zk1_ne (by decide))
  · obtain ⟨h0, j, hj, rfl, hyx, rfl⟩ := hu
    replace hyx := hyx.symm
    subst hyx
    have hclj := nI_clamp (n := j) (by omega)
    obtain ⟨v9, hv9, hv8⟩ : ∃ v9 : Int32, v9 = S.2.2.2 (nI j).toNatClampNeg ∧ S.2.2.2 (nI j).toNatClampNeg = S.2.2.2 j := ⟨_, rfl, by simp only [hclj]⟩
    rw [← hv8, ← hv9]
    refine z_i2l (v := v9.toInt64) 7 C dL_taken_7 rfl ?_
    obtain ⟨f1, ef1⟩ : ∃ f9 : Nat → Int64, f9 = vp_updL (x.2.1 11) 0 v9.toInt64 := ⟨_, rfl⟩
    refine z_last (f := f1) 8 C kL_11 (by omega) (by exact ef1.symm) dL_taken_8 ?_
    refine z_goto 9 C 15 dL_taken_9 (by decide) ?_
    refine z_iconst (v := nI 0) 15 C dL_taken_15 rfl ?_
    exact z_iret 16 C hr ⟨by rw [h0], fun _ => by rw [xl_s, ef1]; first | exact pk_uLs | (rw [← hv9]; exact pk_uLs), zXP_ro hA⟩ dL_taken_16
