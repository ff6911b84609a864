/-! ===== methods that may throw: what they leave is the world as it was ===== -/
def zXC (g : zG) (x : zT) (PX : String → Prop) : String → State → State → Prop := vx_X (fun u : zT => u = x) (fun E u t => zB g u t ∧ PX E) (zA g)
theorem z_metX {l : Launch} {g : zG} {x : zT} {y : MethodName} {ws ws' : List Cond} {rm : Room} {av : List Value} {Qc : Array Value → State → Outcome → State → Prop} {XC : String → State → State → Prop} {mc ms : Nat} {cc : ByteArray} {nL : Nat} {ret : Option FieldType} (hg : zOk g) (hy : plainName y.cls = true) (hw : ws = Cond.code y cc nL ret :: ws') (hav : (lg_sl av).length ≤ nL)
    (body : ∀ (p : Program) (e : Env) (s : State) (m : MethodId) (args : Array Value) (below : List Frame) (meth : Method) (c : Code), zC p s m args meth c g cc nL y.cls ws → meth.sig.returnType = ret → (∀ z ∈ c.exceptionTable.toList, False) → Z p l e (headSpec ws rm).room s m args below meth c g nL 0 0 (vx_MQ below Qc XC args s mc ms (zA g)) x 0 (lv_args 0 av) []) : vx_Met l y ws rm (va_Pc av (zPre g x)) Qc XC mc ms (zA g) := by
  refine vx_ofW (cc := cc) (maxL := nL) (ret := ret) hy hw ?_
  intro p e s m args below meth c s₁ B hml hout hv
  obtain ⟨rfl, h1, h2, h3, h4⟩ := hv
  have hl := lv_entry av (n := nL) hav
  rw [lg_entry_eq]
  exact body p e s m _ below meth c ⟨⟨B.exec, B.bytes, hml, findClass_of_methodNamed B.named, atoms_spec (ws := ws) B.pre⟩, h3, hg, h1, h4, B.notSynchronized⟩ B.returns hout s.heap [] _ h2 va_S.rf hl
/-- the words of a throw that are no good words -/
def zbad (X : String) : List Cond := [.castable X X, .declares ⟨"java/lang/RuntimeException", "<init>", "(Ljava/lang/String;)V"⟩, .declares ⟨"java/lang/Exception", "<init>", "(Ljava/lang/String;)V"⟩, .declares ⟨"java/lang/Throwable", "<init>", "(Ljava/lang/String;)V"⟩]
theorem zbad_at {g : zG} {s : State} {args : Array Value} {X : String} (h : zSt g s) (hX : X ∈ zxs) : ∀ w ∈ zbad X, w.before args s = true := by
  obtain ⟨-, h2, h3, -⟩ := h
  refine vx_c (va_Nw.use rfl (h2 X hX)) (vx_c (va_Nw.use rfl (h3 _ (List.mem_of_getElem? (i := 0) rfl))) (vx_c (va_Nw.use rfl (h3 _ (List.mem_of_getElem? (i := 1) rfl))) (vx_c (va_Nw.use rfl (h3 _ (List.mem_of_getElem? (i := 2) rfl))) vx_n)))
section ZX
variable {p : Program} {l : Launch} {e : Env} {R : Room} {s : State} {m : MethodId} {args : Array Value} {below : List Frame} {meth : Method} {c : Code} {g : zG} {nL cells slots : Nat} {Q : State → Prop} {x : zT} {lv : List (Nat × Value)} {st : List Value} {cc : ByteArray} {own : String} {Ts : List Cond}
theorem z_throwS (pc : Nat) (C : zC p s m args meth c g cc nL own Ts) (hl : l.stackTraces = false) {cls text : String} {names : List String} {ik is ic mc ms : Nat} {x0 : zT} {PX : String → Prop} {Qc : Array Value → State → Outcome → State → Prop}
    (hcls : Bundle.fit cls = true) (hnames : ∀ n ∈ names, Bundle.fit n = true) (hX : cls ∈ zxs) (hk : (Cond.classLink own ik cls).before args s = true) (hini : (Cond.initialized cls).before args s = true)
    (hstr : (own, is, text) ∈ zst) (hgd : ∀ w ∈ (vx_atS own ic cls names).filter goodWord, w ∈ Ts) (hbd : ∀ w ∈ (vx_atS own ic cls names).filter (fun w => !goodWord w), w ∈ zbad cls)
    (hgood : ∀ w ∈ Cond.classLink own ik cls :: Cond.initialized cls :: vx_atS own ic cls names, vx_ot w = true)
    (d0 : decode cc pc = .ok (.new ik, 3)) (d3 : decode cc (pc + 3) = .ok (.dup, 1)) (d4 : decode cc (pc + 4) = .ok (.ldc is, 2)) (d6 : decode cc (pc + 6) = .ok (.invokespecial ic, 3)) (d9 : decode cc (pc + 9) = .ok (.athrow, 1))
    (hout : ∀ z ∈ c.exceptionTable.toList, False) (hRframes : names.length + 3 < R.frames) (hRlocals : (st.map fun v => v.category).sum + (13 * (names.length + 1) + 43) ≤ R.locals) (hR : cells + 1 ≤ R.cells ∧ slots + 6 ≤ R.slots)
    (hx0 : x = x0) (hPX : PX cls) (hc : cells + 1 ≤ mc ∧ slots + 6 ≤ ms) : Z p l e R s m args below meth c g nL cells slots (vx_MQ below Qc (zXC g x0 PX) args s mc ms (zA g)) x (pc) lv (st) := fun H locs ls hP hS hlv => by
  obtain ⟨sa, hsa⟩ := C.2.2.2.2.1.2.2.2.2.2.2.1 _ hstr
  have hz := C.2.2.2.2.1
  refine vx_throwS C.1.1 C.1.2.1 hl C.1.2.2.2.1 hcls hnames hk hini hsa (vx_hat (fun w h => C.1.2.2.2.2 w (hgd w h)) hbd (zbad_at hz hX)) hgood hz.2.2.2.2.1 hz.2.2.2.2.2.1 hS (hlv.1.trans C.1.2.2.1.symm) d0 d3 d4 d6 d9 (fun z h => (hout z h).elim) hRframes hRlocals hR.1 hR.2 C.2.2.2.2.2 (fun t hvm h1 h2 => ?_) hS.2.2 hc.1 hc.2
  have hk9 : ∀ (k : Nat) (q : Nat × va_E), (zw g x)[k]? = some q → t.heap[q.1]? = H[q.1]? := fun k q hq => h2 q.1 ((hP k q hq).lt)
  exact ⟨x, hx0, ⟨hP.kept hk9, hPX⟩, ⟨Nat.le_trans hS.1 h1, fun q q1 q2 => (h2 q (Nat.lt_of_lt_of_le q1 hS.1)).trans (hS.2.1 q q1 q2)⟩⟩
theorem z_callSX (pc : Nat) (C : zC p s m args meth c g cc nL own Ts) {y : MethodName} {bytes : ByteArray} {maxL mc ms mc0 ms0 index : Nat} {ret : Option FieldType} {ws : List Cond} {rm : Room} {stk As : List Value} {post : zT → Prop} {x0 : zT} {PX PX0 : String → Prop} {Qc : Array Value → State → Outcome → State → Prop} (n : Nat) (hM : vx_Met l y ws rm (va_Pc As (zPre g x)) (va_Qv post (zB g) (zA g)) (zXC g x PX) mc ms (zA g)) (cw : CallB R s args own index y bytes maxL ret ws rm mc ms n ∧ (Cond.static y).before args s = true) (hn : As.length = n) (hstk : stk = As.reverse ++ st) (hroom : (st.map fun v => v.category).sum ≤ 8) (hf : cells + mc ≤ R.cells ∧ slots + ms ≤ R.slots) (hdg : decode cc pc = .ok (.invokestatic index, 3))
    (hout : ∀ z ∈ c.exceptionTable.toList, False) (hx0 : x = x0) (hPX : ∀ E, PX E → PX0 E) (hc : cells + mc ≤ mc0 ∧ slots + ms ≤ ms0)
    (kk : ∀ (u : zT), post u → Z p l e R s m args below meth c g nL (cells + mc) (slots + ms) (vx_MQ below Qc (zXC g x0 PX0) args s mc0 ms0 (zA g)) u (pc + 3) lv (st)) : Z p l e R s m args below meth c g nL cells slots (vx_MQ below Qc (zXC g x0 PX0) args s mc0 ms0 (zA g)) x (pc) lv (stk) := fun H locs ls hP hS hl => by
  subst hstk
  refine vx_callv (vx_runS (As := As) (rest := st) C.1 hM cw ⟨zpc_blind, fun U hU hW => ⟨rfl, zpre_at C hP hS hU hW⟩⟩ rfl hn hl.1 rfl (lv_room hroom) hdg hf) hS (fun q _ h => h) (fun q h => h) (fun q _ h => h) (fun E ce q9 u t H1 locs1 ht hvm hw hB hz1 hk1 hS1 hcell hcv hcl => ?_) (fun u t H1 locs1 ht hvm hw hB hz1 hk1 hS1 => kk u hw H1 locs1 ls (by rw [← ht]; exact hB) hS1 hl)
  refine vx_out (fun z h => (hout z h).elim) C.2.2.2.2.2 hcell hcv hcl (fun t2 ht2 hvm2 => ⟨u, hw.trans hx0, ⟨?_, hPX E hB.2⟩, hS1.F ht2⟩) hS1.2.2 hc.1 hc.2
  show va_P g.1 vwCl (zw g u) t2.heap
  rw [ht2, ← ht]
  exact hB.1
end ZX
/-! NoSuchElementException (the rows of kit/laws for 'new E(text)', turned to a constructor that links its superclass's by another place) -/
section ZNS
variable {p : Program} {l : Launch} {e : Env} {R : Room} {s : State} {m₀ : MethodId} {args : Array Value} {below : List Frame} {meth : Method} {c : Code} {W : State} {locs : List Loc} {cells slots : Nat}
theorem zrx_0 : decode zrx 0 = .ok (.aload_n 0, 1) := by decide +kernel
theorem zrx_1 : decode zrx 1 = .ok (.aload_n 1, 1) := by decide +kernel
theorem zrx_2 : decode zrx 2 = .ok (.invokespecial 13, 3) := by decide +kernel
theorem zrx_5 : decode zrx 5 = .ok (.return_, 1) := by decide +kernel
theorem zown_t : ∀ w ∈ Bundle.throwableAtoms, w ∈ zown := by decide +kernel
theorem zown_c : ∀ w ∈ Bundle.chainSAtoms zRn ["java/lang/Exception"], w ∈ zown := by decide +kernel
set_option maxHeartbeats 4000000 in
theorem zctorN (X : Stand p l e R s m₀ args below meth c W locs cells slots) (hexec : p.tables.exec = Jvm.exec) (htr : e.platform.stackTraces = false)
    (hown : s.vm.findClass RX5 = some m₀.cls) (h : ∀ a ∈ zown, a.before args s = true)
    (hlocs : ∀ x ∈ locs, ∀ cell, s.heap[x.base]? = some cell → cell.vm.isStatics = false)
    {a : Addr} {cX : ClassId} {kX : Class} (hfoundX : s.vm.findClass zNn = some cX) (hkX : s.vm.classes[cX]? = some kX) (hcell : W.heap[a]? = some (freshCell cX kX)) (hnew : s.heap.size ≤ a)
    {msg : Value} (hmsg : msg.isRef = true)
    {g : JFrame} (hg : g.method = m₀) (hsize : g.locals.size = c.maxLocals) {rest : List Value} (hstack : g.stack = msg :: .ref a :: .ref a :: rest)
    (hd6 : decode c.code g.pc = .ok (.invokespecial 96, 3))
    (hRframes : 5 < R.frames) (hRlocals : 2 * g.monitorRoom + ((Value.ref a :: rest).map fun v => v.category).sum + (13 * 3 + 42) ≤ R.locals) :
    ∃ (V : State) (ce : Cell) (L : List Loc), Stand p l e R s m₀ args below meth c (V.setCell a ce) (locs ++ L) cells slots ∧ (∀ y ∈ L, y.base = a) ∧ a < V.heap.size ∧ ce.cls = cX ∧ ce.vm = .none ∧
      ∀ target, Steps p.tables e below ((V.setCell a ce).setTop { g with stack := .ref a :: rest, pc := g.pc + 3 }) target → Steps p.tables e below (W.setTop g) target := by
  have howns : e.platform.frameOwnsMonitors = true := by rw [X.admits.platform]
  have hfin : e.platform.finalization = false := by rw [X.admits.platform]
  have hpl : e.platform.magicAccessors = ({} : Platform).magicAccessors := by rw [X.admits.platform]
  have a' : ∀ x, x ∈ zown → x.holds args s none s [] = true := fun x hx => h x hx
  obtain ⟨T, Z0, L, -, Y⟩ := ThrowableC.of_atoms (args := args) howns hfin hpl (fun x hx => h x (zown_t x hx))
  obtain ⟨Z, M, LZ, LM, hnZ⟩ := Init0T.ofS_atoms (args := args) hpl L Y (fun x hx => h x (by revert x; decide +kernel))
  obtain ⟨P1, L1, hP1m, hP1s⟩ := PassC.ofS_atoms (args := args) (s := s) hpl (X := zNn) (Y := zRn) (by decide +kernel) (by decide +kernel) zrx_0 zrx_1 zrx_2 zrx_5 (fun x hx => h x (List.mem_append_left _ hx))
  obtain ⟨P2, Ps, hlen, L2, hL, hP2m, hsup, hpass⟩ := Bundle.chainS (args := args) hpl hnZ ["java/lang/Exception"] zRn (by decide +kernel) (by decide +kernel) (fun x hx => h x (zown_c x hx))
  have hfound : s.vm.findClass zNn = some P1.m.cls := findClass_of_methodNamed hP1m
  cases Option.some.inj (hfoundX.symm.trans hfound)
  obtain ⟨c1, kX', hc1, hk, hord, -, -, hn6⟩ := Cond.instantiable_spec (a' (.instantiable zNn 6) (by decide +kernel))
  cases Option.some.inj (hc1.symm.trans hfound)
  cases Option.some.inj (hkX.symm.trans hk)
  have hsel0 : selectMethod e.platform s.vm P1.m.cls T.fill0 = .method T.fill0 := by
    obtain ⟨c2, r2, m2, q1, q2, q3, q4, -⟩ := Cond.selects_spec (a' (.selects zNn Bundle.tFill0 Bundle.tFill0) (by decide +kernel))
    cases Option.some.inj (q1.symm.trans hfound)
    cases Option.some.inj (q2.symm.trans (State.methodFound?_of_named Y.fill0 (by decide)))
    cases Option.some.inj (q3.symm.trans Y.fill0)
    rw [Launch.admits_selectMethod X.admits]; exact q4
  have hselF : selectMethod e.platform s.vm P1.m.cls T.fill = .method T.fill := by
    obtain ⟨c2, r2, m2, q1, q2, q3, q4, -⟩ := Cond.selects_spec (a' (.selects zNn Bundle.tFill Bundle.tFill) (by decide +kernel))
    cases Option.some.inj (q1.symm.trans hfound)
    cases Option.some.inj (q2.symm.trans (State.methodFound?_of_named Y.fill (by decide)))
    cases Option.some.inj (q3.symm.trans Y.fill)
    rw [Launch.admits_selectMethod X.admits]; exact q4
  obtain ⟨cellS0, hcS0, hiss⟩ := Y.statics
  obtain ⟨u0, hu0⟩ := Cond.staticRefV Y.unassigned L.unassignedStatic L.statics hcS0 hiss (a' (.isRef (.static Bundle.tN "UNASSIGNED_STACK" Bundle.steD)) (by decide +kernel))
  obtain ⟨sen, hsen⟩ := Cond.staticRefV Y.sentinel L.sentinelStatic L.statics hcS0 hiss (a' (.isRef (.static Bundle.tN "SUPPRESSED_SENTINEL" Bundle.listD)) (by decide +kernel))
  obtain ⟨ci198, i198, fB, hk198, hg198, ha198, hsB, -, hnB, htB, hffB⟩ := Cond.ownField (t := .object "java/lang/Object") Y.found L.cls (by decide +kernel) (a' (.fieldLink Bundle.tN 198 Bundle.tN "backtrace" "Ljava/lang/Object;") (by decide +kernel)) (a' (.lays Bundle.tN Bundle.tN "backtrace" "Ljava/lang/Object;") (by decide +kernel)) e.platform hpl
  obtain ⟨cellS, hcS', heS, -, hkeep⟩ := X.same.2.2.2.2.2 T.aS cellS0 hcS0
  have hcellS : W.heap[T.aS]? = some cellS := hcS'
  have hout' : ∀ i, (⟨T.aS, i⟩ : Loc) ∉ locs := fun i hmem => by
    have := hlocs _ hmem cellS0 hcS0
    rw [hiss] at this; cases this
  have hknownS : cellS.vm ≠ .unknown := by
    rw [heS]; intro hu
    rw [show cellS0.vm = .unknown from hu] at hiss
    cases hiss
  have hneS : T.aS ≠ a := Nat.ne_of_lt (Nat.lt_of_lt_of_le (Array.getElem?_eq_some_iff.mp hcS0).1 hnew)
  obtain ⟨iM, hffM⟩ := Y.msg
  obtain ⟨tyC, dC, hdC, hdnC⟩ := Cond.laysAt hfound hk Y.cause (a' (.lays zNn Bundle.tN "cause" "Ljava/lang/Throwable;") (by decide +kernel))
  obtain ⟨tyS, dS, hdS, hdnS⟩ := Cond.laysAt hfound hk Y.stack (a' (.lays zNn Bundle.tN "stackTrace" Bundle.steD) (by decide +kernel))
  obtain ⟨tyP, dP, hdP, hdnP⟩ := Cond.laysAt hfound hk Y.supp (a' (.lays zNn Bundle.tN "suppressedExceptions" Bundle.listD) (by decide +kernel))
  obtain ⟨tyM, dM, hdM, hdnM⟩ := Cond.laysAt hfound hk hffM (a' (.lays zNn Bundle.tN "detailMessage" "Ljava/lang/String;") (by decide +kernel))
  obtain ⟨tyB, dB, hdB, hdnB⟩ := Cond.laysAt hfound hk hffB (a' (.lays zNn Bundle.tN "backtrace" "Ljava/lang/Object;") (by decide +kernel))
  have bC := Cond.laysApart hdB hdC hdnB hdnC (by rw [hnB, Y.causeName]; decide)
  have bS := Cond.laysApart hdB hdS hdnB hdnS (by rw [hnB, Y.stackName]; decide)
  have bP := Cond.laysApart hdB hdP hdnB hdnP (by rw [hnB, Y.suppName]; decide)
  have hskip : SkipFacts T e.platform s (fun u => u) u0 ((preparedCellV T.toThrowableT (freshCell P1.m.cls kX) a u0 sen).withEntry W.cur) :=
    ⟨{ ci198 := ci198, i198 := i198, fBack := fB }, ⟨hk198, hg198, ha198, hsB⟩, by
      have := fresh_default (c := P1.m.cls) tyB
      rw [htB] at this
      simpa [preparedCellV, Cell.setSlot, Cell.withEntry, Array.getElem?_setIfInBounds, bC, bS, bP, bC.symm, bS.symm, bP.symm, defaultValue] using this, fun _ _ => rfl⟩
  obtain ⟨tm, methC, cdC, kC, vm₁, hnC, -, -, -, -, -, -, -, hW₁, st1⟩ := Steps.initColdS (tb := p.tables) (e := e) (below := below) (s := s) (U := W) X.here hexec X.warmed hpl hown (t := Bundle.initS zNn) rfl rfl (by decide +kernel)
    (a' (.methodLink RX5 96 (Bundle.initS zNn)) (by decide +kernel)) (h (.instanceMethod (Bundle.initS zNn)) (by decide +kernel)) (bytes := zrx) (maxL := 2) (h (.code (Bundle.initS zNn) zrx 2 none) (by decide +kernel))
    (f := g) hg (a := a) (msg := msg) (rest := .ref a :: rest) hstack hd6
  cases Option.some.inj (hnC.symm.trans hP1m)
  have X₁ := X.noted hW₁
  have hlen1 : Ps.length = 1 := hlen
  obtain ⟨vm₂, X₂, st2⟩ := X₁.ctorMessageOffV hexec (g := { g with stack := .ref a :: rest }) hg hsize T L Z LZ M LM (P1 :: P2 :: Ps)
    (fun P hP => by
      rcases List.mem_cons.mp hP with rfl | hP
      · exact L1
      · rcases List.mem_cons.mp hP with rfl | hP
        · exact L2
        · exact hL P hP) ⟨Option.some.inj (hP1s.symm.trans hP2m), hsup, hpass⟩ (u0 := u0) (sen := sen) (self := a) hmsg (cell := freshCell P1.m.cls kX) (cellS := cellS)
    hcell (fun _ => by simp) (by simp) rfl rfl hsel0 hselF hcellS hneS hknownS (by rw [hkeep _ (hout' _)]; exact hu0) (by rw [hkeep _ (hout' _)]; exact hsen)
    (Takes.of_laid hk hord tyC (by rw [Y.causeType]; rfl)) (Takes.of_laid hk hord tyS (by rw [Y.stackType]; exact fits_refV_array _ u0)) (Takes.of_laid hk hord tyP (by rw [Y.suppType]; exact fits_refV_object _ sen))
    (Takes.of_laid hk hord tyM (by rw [Y.msgType]; exact fits_refV_object _ ⟨msg, hmsg⟩)) Y.objLocals hskip htr [] hd6
    (by simp only [List.length_cons, hlen1]; omega) (by simp only [List.length_cons, hlen1]; exact hRlocals)
  have hlt : a < ((W.setVm vm₁).setVm vm₂).heap.size := (Array.getElem?_eq_some_iff.mp hcell).1
  refine ⟨(W.setVm vm₁).setVm vm₂, _, _, X₂, fun y hy => ?_, hlt, rfl, rfl, fun target hwalk => st1 _ (fun acts => ?_)⟩
  · simp only [List.mem_cons, List.not_mem_nil, or_false] at hy
    rcases hy with rfl | rfl | rfl | rfl | rfl <;> rfl
  · rw [doInvoke_state]
    exact st2 _ hwalk
end ZNS
section ZNP
variable {p : Program} {l : Launch} {e : Env} {R : Room} {s : State} {m : MethodId} {args : Array Value} {below : List Frame} {meth : Method} {c : Code} {H : Heap} {locs : List Loc} {cells slots : Nat} {Q : State → Prop} {ls : Array Slot} {rest : List Value}
theorem vx_back9 {T S : State} {R' : Room} {k n : Nat} (X : Stand p l e R s m args below meth c T locs cells slots) (Y : Stand p l e R' ((T.setVm s.vm).setFrames (.invoking m args :: below)) m args below meth c T [] 0 0) (Z : Stand p l e R' ((T.setVm s.vm).setFrames (.invoking m args :: below)) m args below meth c S [] k n) :
    Stand p l e R s m args below meth c S locs (cells + k) (slots + n) := by
  have hW0 : s.WarmedH ((T.setVm s.vm).setFrames (.invoking m args :: below)).vm := State.WarmedH.refl s
  refine { admits := X.admits, cas := X.cas, clock := X.clock, frames := X.frames, room := X.room, hears := X.hears, method := X.method, code := X.code, here := Z.here, tail := Z.tail, warmed := State.WarmedH.trans hW0 Z.warmed, limits := Z.limits.trans (Y.limits.symm.trans X.limits), bytes := Z.bytes.trans (Y.bytes.symm.trans X.bytes), same := ?_ }
  obtain ⟨e1, e2⟩ := Z.same
  rw [State.setFrames_setFrames] at e1
  have h2 : (T.setVm s.vm).sameButNew (S.setVm s.vm) [] k n := ⟨e1, e2⟩
  have h3 := X.same.trans h2
  rw [List.append_nil] at h3
  exact h3
theorem vx_athrow {cc : ByteArray} {pc : Nat} (hexec : p.tables.exec = Jvm.exec) (hb : c.code = cc) {q : Addr} (hdg : decode cc pc = .ok (.athrow, 1)) (k : vx_W p l e R s m args below meth c H locs cells slots Q (F0 m pc ls rest) q) : W p l e R s m args below meth c H locs cells slots Q (F0 m pc ls (.ref q :: rest)) := by
  intro T hT X
  obtain ⟨t, st, hq⟩ := k T hT X
  refine ⟨t, ?_, hq⟩
  have hdg' : decode c.code pc = .ok (.athrow, 1) := by rw [hb]; exact hdg
  jvm_step X.here [X.here.top, hexec, hdg', athrow.wp_sem]
  exact st
end ZNP
section ZNT
variable {p : Program} {l : Launch} {e : Env} {R : Room} {s : State} {m : MethodId} {args : Array Value} {below : List Frame} {meth : Method} {c : Code} {H : Heap} {locs : List Loc} {cells slots : Nat} {Q : State → Prop} {ls : Array Slot} {rest : List Value}
theorem zmakeN {cc : ByteArray} {pc : Nat} (hexec : p.tables.exec = Jvm.exec) (hb : c.code = cc) (hl : l.stackTraces = false) {text : String} {ik is sa : Nat} {A : Nat → Prop}
    (hown : s.vm.findClass RX5 = some m.cls) (hk : (Cond.classLink RX5 ik zNn).before args s = true) (hini : (Cond.initialized zNn).before args s = true) (hstr : vk_R RX5 is text sa s) (hat : ∀ w ∈ zatN, w.before args s = true)
    (hgood : ∀ w ∈ Cond.classLink RX5 ik zNn :: Cond.initialized zNn :: zatN, vx_ot w = true)
    (hU : vx_Zq Bundle.tN "UNASSIGNED_STACK" Bundle.steD A s s.heap) (hN : vx_Zq Bundle.tN "SUPPRESSED_SENTINEL" Bundle.listD A s s.heap) (hS : va_S A s.heap H locs) (hsize : ls.size = c.maxLocals)
    (d0 : decode cc pc = .ok (.new ik, 3)) (d3 : decode cc (pc + 3) = .ok (.dup, 1)) (d4 : decode cc (pc + 4) = .ok (.ldc is, 2)) (d6 : decode cc (pc + 6) = .ok (.invokespecial 96, 3))
    (hRframes : 5 < R.frames) (hRlocals : (rest.map fun v => v.category).sum + (13 * 3 + 43) ≤ R.locals) (hRcells : cells + 1 ≤ R.cells) (hRslots : slots + 6 ≤ R.slots)
    (kk : ∀ (q : Nat) (ce : Cell) (H1 : Heap), H.size ≤ H1.size → (∀ x : Nat, x < H.size → H1[x]? = H[x]?) → H1[q]? = some ce → ce.vm = .none → s.vm.findClass zNn = some ce.cls → W p l e R s m args below meth c H1 locs (cells + 1) (slots + 6) Q (F0 m (pc + 9) ls (.ref q :: rest))) :
    W p l e R s m args below meth c H locs cells slots Q (F0 m pc ls rest) := by
  intro T hT X
  subst hT
  have htr : e.platform.stackTraces = false := (show e.platform.stackTraces = l.stackTraces by rw [X.admits.platform]).trans hl
  have Y := vx_rebase X (R' := { frames := R.frames, locals := R.locals, cells := 1, slots := 6 }) (Nat.le_refl _) (Nat.le_refl _) hRcells hRslots
  obtain ⟨s', hA'⟩ : ∃ z, z = (T.setVm s.vm).setFrames (.invoking m args :: below) := ⟨_, rfl⟩
  rw [← hA'] at Y
  have hvm : s'.vm = s.vm := by rw [hA']; rfl
  have hhp : s'.heap = T.heap := by rw [hA']; rfl
  have hW0 : s.WarmedH s'.vm := by rw [hvm]; exact State.WarmedH.refl s
  have hat' : ∀ w ∈ zatN, w.before args s' = true := fun w hw => vx_ot_at hW0 hvm.symm (hgood w (List.mem_cons_of_mem _ (List.mem_cons_of_mem _ hw))) (hat w hw)
  have hk' : (Cond.classLink RX5 ik zNn).before args s' = true := vx_ot_at hW0 hvm.symm (hgood _ List.mem_cons_self) hk
  have hini' : (Cond.initialized zNn).before args s' = true := vx_ot_at hW0 hvm.symm (hgood _ (List.mem_cons_of_mem _ List.mem_cons_self)) hini
  have hU' : vx_Zq Bundle.tN "UNASSIGNED_STACK" Bundle.steD A s' s'.heap := by rw [hhp]; exact vx_Zq.moved hW0.alike (hU.kept hS.2.1)
  have hN' : vx_Zq Bundle.tN "SUPPRESSED_SENTINEL" Bundle.listD A s' s'.heap := by rw [hhp]; exact vx_Zq.moved hW0.alike (hN.kept hS.2.1)
  have h : ∀ w ∈ zown, w.before args s' = true := vx_own hat' (vx_isRefq hU'.1) (vx_isRefq hN'.1) hU'.2.word hN'.2.word
  have hown' : s'.vm.findClass RX5 = some m.cls := by rw [hvm]; exact hown
  have hins : (Cond.instantiable zNn 6).before args s' = true := h _ (by decide +kernel)
  obtain ⟨vm₁, cX, kX, hfX, hkX, -, -, X₁, st1⟩ := Y.newCold hexec (own := RX5) (C := zNn) (index := ik) (n := 6) hown' hk' hins hini'
    (g := F0 m pc ls rest) rfl (by rw [hb]; exact d0) (Nat.le_refl _) (Nat.le_refl _)
  generalize hT1 : (T.setVm vm₁).pushCell { cls := cX, slots := kX.instanceTypes.map defaultValue, vm := .none } = T1 at X₁ st1
  have hcat : (Value.ref T.heap.size).category = 1 := rfl
  have hcellA : T1.heap[T.heap.size]? = some (freshCell cX kX) := by rw [← hT1]; exact State.heap_pushCell_size _ _
  have d3' : decode c.code (pc + 3) = .ok (.dup, 1) := by rw [hb]; exact d3
  have d4' : decode c.code (pc + 4) = .ok (.ldc is, 2) := by rw [hb]; exact d4
  have hstr' : vk_R RX5 is text sa s' := vk_R.warm hW0 hstr
  obtain ⟨V, ce, L, Z, hL, hlt, hcl9, hvm9, st⟩ := zctorN X₁ hexec htr hown' h (fun x hx => nomatch hx) hfX hkX hcellA (by rw [hhp]; exact Nat.le_refl _) (msg := .ref sa) rfl
    (g := { method := m, pc := pc + 6, locals := ls, stack := .ref sa :: .ref T.heap.size :: .ref T.heap.size :: rest, locked := none }) rfl hsize (rest := rest) rfl
    (by rw [hb]; exact d6) hRframes (by simp only [List.map_cons, List.sum_cons, hcat]; omega)
  have Z0 := Stand.forget (locs := []) Z (fun y hy => by rw [hL y hy, hhp]; exact Nat.le_refl _)
  obtain ⟨f1, f2⟩ := vx_frame Z0.same
  rw [hhp] at f1 f2
  have hcid : s.vm.findClass zNn = some ce.cls := by
    rw [hcl9]
    rw [hvm] at hfX
    exact hfX
  have hh : (V.setCell T.heap.size ce).heap[T.heap.size]? = some ce := heapAt_setCell_self (s := V) ce hlt
  subst hA'
  have X5 := vx_back9 X Y Z0
  have X6 : Stand p l e R s m args below meth c (V.setCell T.heap.size ce) locs (cells + 1) (slots + 6) := { X5 with same := X5.same.mono (by omega) (by omega) }
  obtain ⟨t, a1, b1⟩ := kk T.heap.size ce (V.setCell T.heap.size ce).heap f1 (fun q hq => f2 q hq (fun z hz => nomatch hz)) hh hvm9 hcid _ rfl X6
  refine ⟨t, st1 _ ?_, b1⟩
  show Steps p.tables e below (T1.setTop { method := m, pc := pc + 3, locals := ls, stack := .ref T.heap.size :: rest, locked := none }) _
  jvm_step X₁.here [X₁.here.top, hexec, d3', Value.category]
  exact X₁.ldcString hexec (own := RX5) (text := text) (index := is) (a := sa) hown' hstr'.1 hstr'.2
    (g := { method := m, pc := pc + 4, locals := ls, stack := .ref T.heap.size :: .ref T.heap.size :: rest, locked := none }) rfl d4' _ (st _ a1)
end ZNT
section ZXN
variable {p : Program} {l : Launch} {e : Env} {R : Room} {s : State} {m : MethodId} {args : Array Value} {below : List Frame} {meth : Method} {c : Code} {g : zG} {nL cells slots : Nat} {Q : State → Prop} {x : zT} {lv : List (Nat × Value)} {st : List Value} {cc : ByteArray} {Ts : List Cond}
theorem z_throwN (pc : Nat) (C : zC p s m args meth c g cc nL RX5 Ts) (hl : l.stackTraces = false) {text : String} {ik is mc ms : Nat} {x0 : zT} {PX : String → Prop} {Qc : Array Value → State → Outcome → State → Prop}
    (hk : (Cond.classLink RX5 ik zNn).before args s = true) (hini : (Cond.initialized zNn).before args s = true)
    (hstr : (RX5, is, text) ∈ zst) (hgd : ∀ w ∈ zatN.filter goodWord, w ∈ Ts) (hbd : ∀ w ∈ zatN.filter (fun w => !goodWord w), w ∈ zbad zNn)
    (hgood : ∀ w ∈ Cond.classLink RX5 ik zNn :: Cond.initialized zNn :: zatN, vx_ot w = true)
    (d0 : decode cc pc = .ok (.new ik, 3)) (d3 : decode cc (pc + 3) = .ok (.dup, 1)) (d4 : decode cc (pc + 4) = .ok (.ldc is, 2)) (d6 : decode cc (pc + 6) = .ok (.invokespecial 96, 3)) (d9 : decode cc (pc + 9) = .ok (.athrow, 1))
    (hout : ∀ z ∈ c.exceptionTable.toList, False) (hRframes : 5 < R.frames) (hRlocals : (st.map fun v => v.category).sum + (13 * 3 + 43) ≤ R.locals) (hR : cells + 1 ≤ R.cells ∧ slots + 6 ≤ R.slots)
    (hx0 : x = x0) (hPX : PX zNn) (hc : cells + 1 ≤ mc ∧ slots + 6 ≤ ms) : Z p l e R s m args below meth c g nL cells slots (vx_MQ below Qc (zXC g x0 PX) args s mc ms (zA g)) x (pc) lv (st) := fun H locs ls hP hS hlv => by
  obtain ⟨sa, hsa⟩ := C.2.2.2.2.1.2.2.2.2.2.2.1 _ hstr
  have hz := C.2.2.2.2.1
  refine zmakeN C.1.1 C.1.2.1 hl C.1.2.2.2.1 hk hini hsa (vx_hat (fun w h => C.1.2.2.2.2 w (hgd w h)) hbd (zbad_at hz (List.mem_of_getElem? (i := 3) rfl))) hgood hz.2.2.2.2.1 hz.2.2.2.2.2.1 hS (hlv.1.trans C.1.2.2.1.symm) d0 d3 d4 d6 hRframes hRlocals hR.1 hR.2 (fun q ce H1 f1 f2 hcell hvm hcl => ?_)
  refine vx_athrow C.1.1 C.1.2.1 d9 (vx_out (fun z h => (hout z h).elim) C.2.2.2.2.2 hcell hvm hcl (fun t ht hvm2 => ?_) hS.2.2 hc.1 hc.2)
  have hk9 : ∀ (k : Nat) (q : Nat × va_E), (zw g x)[k]? = some q → t.heap[q.1]? = H[q.1]? := fun k q hq => by rw [ht]; exact f2 q.1 ((hP k q hq).lt)
  exact ⟨x, hx0, ⟨hP.kept hk9, hPX⟩, ⟨Nat.le_trans hS.1 (by rw [ht]; exact f1), fun q q1 q2 => by rw [ht]; exact (f2 q (Nat.lt_of_lt_of_le q1 hS.1)).trans (hS.2.1 q q1 q2)⟩⟩
end ZXN
/-! codes: which exception a call throws -/
def zinb (p : Int32) (n : Nat) : Bool := decide (0 ≤ p) && decide (p < nI n)
theorem zinb_t {p : Int32} {n : Nat} (hn : n < 2 ^ 31) : zinb p n = true ↔ ∃ j, j < n ∧ p = nI j := by
  unfold zinb
  rw [Bool.and_eq_true, decide_eq_true_eq, decide_eq_true_eq]
  constructor
  · intro ⟨h1, h2⟩
    obtain ⟨j, hj, e⟩ := nI_of (x := p) (Int32.not_lt.mpr h1)
    subst e
    exact ⟨j, (nI_ltI hj hn).mp h2, rfl⟩
  · intro ⟨j, hj, e⟩
    subst e
    exact ⟨nI_pos' (by omega), nI_lt hj hn⟩
def zk1 (a : Bool) : Nat := if a then 0 else 1
def zk2 (a b : Bool) : Nat := if a then (if b then 0 else 2) else 1
def zk3 (a b c : Bool) : Nat := if a then (if b then (if c then 0 else 3) else 2) else 1
def zPX (k : Nat) (E : String) : Prop := (k = 1 ∧ E = zIOB) ∨ (k = 2 ∧ E = zIAE) ∨ (k = 3 ∧ E = zISE)
def zPN (k : Nat) (E : String) : Prop := (k = 1 ∧ E = zIOB) ∨ (k = 2 ∧ E = zIAE) ∨ (k = 3 ∧ E = zNSE)
