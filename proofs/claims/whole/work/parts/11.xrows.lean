/-! ===== methods that may throw: what they leave is the world as it was ===== -/
def zXC (g : zG) (x : zT) (PX : String → Prop) : String → State → State → Prop := vx_X (fun u : zT => u = x) (fun E u t => zB g u t ∧ PX E) (zA g)
theorem z_metX {l : Launch} {g : zG} {x : zT} {y : MethodName} {ws ws' : List Cond} {rm : Room} {av : List Value} {Qc : Array Value → State → Outcome → State → Prop} {XC : String → State → State → Prop} {mc ms : Nat} {cc : ByteArray} {nL : Nat} {ret : Option FieldType} (hg : zOk g) (hy : plainName y.cls = true) (hw : ws = Cond.code y cc nL ret :: ws') (hav : (lg_sl av).length ≤ nL)
    (body : ∀ (p : Program) (e : Env) (s : State) (m : MethodId) (args : Array Value) (below : List Frame) (meth : Method) (c : Code), zC p s m args meth c g cc nL y.cls ws → meth.sig.returnType = ret → (∀ z ∈ c.exceptionTable.toList, False) → Z p l e (headSpec ws rm).room s m args below meth c g nL 0 0 (vx_MQ below Qc XC args s mc ms (zA g)) x 0 (lv_args 0 av) []) : vx_Met l y ws rm (va_Pc av (zPre g x)) Qc XC mc ms (zA g) := by
  refine vx_ofW (cc := cc) (maxL := nL) (ret := ret) hy hw ?_
  intro p e s m args below meth c s₁ B hml hout hv
  obtain ⟨rfl, h1, h2, h3, h4⟩ := hv
  have hl := lv_entry av (n := nL) hav
  rw [lg_entry_eq]
  exact body p e s m _ below meth c ⟨⟨B.exec, B.bytes, hml, findClass_of_methodNamed B.named, atoms_spec (ws := ws) B.pre⟩, h3, hg, h1, h4, B.notSynchronized⟩ B.returns hout s.heap [] _ h2 va_S.rf hl
/-- the words of a throw that are no good words -/
def zbad (X : String) : List Cond := [.castable X X, .declares ⟨"java/lang/RuntimeException", "<init>", "(Ljava/lang/String;)V"⟩, .declares ⟨"java/lang/Exception", "<init>", "(Ljava/lang/String;)V"⟩, .declares ⟨"java/lang/Throwable", "<init>", "(Ljava/lang/String;)V"⟩]
theorem zbad_at {g : zG} {s : State} {args : Array Value} {X : String} (h : zSt g s) (hX : X ∈ zxs) : ∀ w ∈ zbad X, w.before args s = true := by
  obtain ⟨-, h2, h3, -⟩ := h
  refine vx_c (va_Nw.use rfl (h2 X hX)) (vx_c (va_Nw.use rfl (h3 _ (List.mem_of_getElem? (i := 0) rfl))) (vx_c (va_Nw.use rfl (h3 _ (List.mem_of_getElem? (i := 1) rfl))) (vx_c (va_Nw.use rfl (h3 _ (List.mem_of_getElem? (i := 2) rfl))) vx_n)))
section ZX
variable {p : Program} {l : Launch} {e : Env} {R : Room} {s : State} {m : MethodId} {args : Array Value} {below : List Frame} {meth : Method} {c : Code} {g : zG} {nL cells slots : Nat} {Q : State → Prop} {x : zT} {lv : List (Nat × Value)} {st : List Value} {cc : ByteArray} {own : String} {Ts : List Cond}
theorem z_throwS (pc : Nat) (C : zC p s m args meth c g cc nL own Ts) (hl : l.stackTraces = false) {cls text : String} {names : List String} {ik is ic mc ms : Nat} {x0 : zT} {PX : String → Prop} {Qc : Array Value → State → Outcome → State → Prop}
    (hcls : Bundle.fit cls = true) (hnames : ∀ n ∈ names, Bundle.fit n = true) (hX : cls ∈ zxs) (hk : (Cond.classLink own ik cls).before args s = true) (hini : (Cond.initialized cls).before args s = true)
    (hstr : (own, is, text) ∈ zst) (hgd : ∀ w ∈ (vx_atS own ic cls names).filter goodWord, w ∈ Ts) (hbd : ∀ w ∈ (vx_atS own ic cls names).filter (fun w => !goodWord w), w ∈ zbad cls)
    (hgood : ∀ w ∈ Cond.classLink own ik cls :: Cond.initialized cls :: vx_atS own ic cls names, vx_ot w = true)
    (d0 : decode cc pc = .ok (.new ik, 3)) (d3 : decode cc (pc + 3) = .ok (.dup, 1)) (d4 : decode cc (pc + 4) = .ok (.ldc is, 2)) (d6 : decode cc (pc + 6) = .ok (.invokespecial ic, 3)) (d9 : decode cc (pc + 9) = .ok (.athrow, 1))
    (hout : ∀ z ∈ c.exceptionTable.toList, False) (hRframes : names.length + 3 < R.frames) (hRlocals : (st.map fun v => v.category).sum + (13 * (names.length + 1) + 43) ≤ R.locals) (hR : cells + 1 ≤ R.cells ∧ slots + 6 ≤ R.slots)
    (hx0 : x = x0) (hPX : PX cls) (hc : cells + 1 ≤ mc ∧ slots + 6 ≤ ms) : Z p l e R s m args below meth c g nL cells slots (vx_MQ below Qc (zXC g x0 PX) args s mc ms (zA g)) x (pc) lv (st) := fun H locs ls hP hS hlv => by
  obtain ⟨sa, hsa⟩ := C.2.2.2.2.1.2.2.2.2.2.2.1 _ hstr
  have hz := C.2.2.2.2.1
  refine vx_throwS C.1.1 C.1.2.1 hl C.1.2.2.2.1 hcls hnames hk hini hsa (vx_hat (fun w h => C.1.2.2.2.2 w (hgd w h)) hbd (zbad_at hz hX)) hgood hz.2.2.2.2.1 hz.2.2.2.2.2.1 hS (hlv.1.trans C.1.2.2.1.symm) d0 d3 d4 d6 d9 (fun z h => (hout z h).elim) hRframes hRlocals hR.1 hR.2 C.2.2.2.2.2 (fun t hvm h1 h2 => ?_) hS.2.2 hc.1 hc.2
  have hk9 : ∀ (k : Nat) (q : Nat × va_E), (zw g x)[k]? = some q → t.heap[q.1]? = H[q.1]? := fun k q hq => h2 q.1 ((hP k q hq).lt)
  exact ⟨x, hx0, ⟨hP.kept hk9, hPX⟩, ⟨Nat.le_trans hS.1 h1, fun q q1 q2 => (h2 q (Nat.lt_of_lt_of_le q1 hS.1)).trans (hS.2.1 q q1 q2)⟩⟩
theorem z_callSX (pc : Nat) (C : zC p s m args meth c g cc nL own Ts) {y : MethodName} {bytes : ByteArray} {maxL mc ms mc0 ms0 index : Nat} {ret : Option FieldType} {ws : List Cond} {rm : Room} {stk As : List Value} {post : zT → Prop} {x0 : zT} {PX PX0 : String → Prop} {Qc : Array Value → State → Outcome → State → Prop} (n : Nat) (hM : vx_Met l y ws rm (va_Pc As (zPre g x)) (va_Qv post (zB g) (zA g)) (zXC g x PX) mc ms (zA g)) (cw : CallB R s args own index y bytes maxL ret ws rm mc ms n ∧ (Cond.static y).before args s = true) (hn : As.length = n) (hstk : stk = As.reverse ++ st) (hroom : (st.map fun v => v.category).sum ≤ 8) (hf : cells + mc ≤ R.cells ∧ slots + ms ≤ R.slots) (hdg : decode cc pc = .ok (.invokestatic index, 3))
    (hout : ∀ z ∈ c.exceptionTable.toList, False) (hx0 : x = x0) (hPX : ∀ E, PX E → PX0 E) (hc : cells + mc ≤ mc0 ∧ slots + ms ≤ ms0)
    (kk : ∀ (u : zT), post u → Z p l e R s m args below meth c g nL (cells + mc) (slots + ms) (vx_MQ below Qc (zXC g x0 PX0) args s mc0 ms0 (zA g)) u (pc + 3) lv (st)) : Z p l e R s m args below meth c g nL cells slots (vx_MQ below Qc (zXC g x0 PX0) args s mc0 ms0 (zA g)) x (pc) lv (stk) := fun H locs ls hP hS hl => by
  subst hstk
  refine vx_callv (vx_runS (As := As) (rest := st) C.1 hM cw ⟨zpc_blind, fun U hU hW => ⟨rfl, zpre_at C hP hS hU hW⟩⟩ rfl hn hl.1 rfl (lv_room hroom) hdg hf) hS (fun q _ h => h) (fun q h => h) (fun q _ h => h) (fun E ce q9 u t H1 locs1 ht hvm hw hB hz1 hk1 hS1 hcell hcv hcl => ?_) (fun u t H1 locs1 ht hvm hw hB hz1 hk1 hS1 => kk u hw H1 locs1 ls (by rw [← ht]; exact hB) hS1 hl)
  refine vx_out (fun z h => (hout z h).elim) C.2.2.2.2.2 hcell hcv hcl (fun t2 ht2 hvm2 => ⟨u, hw.trans hx0, ⟨?_, hPX E hB.2⟩, hS1.F ht2⟩) hS1.2.2 hc.1 hc.2
  show va_P g.1 vwCl (zw g u) t2.heap
  rw [ht2, ← ht]
  exact hB.1
end ZX
/-! codes: which exception a call throws -/
def zinb (p : Int32) (n : Nat) : Bool := decide (0 ≤ p) && decide (p < nI n)
theorem zinb_t {p : Int32} {n : Nat} (hn : n < 2 ^ 31) : zinb p n = true ↔ ∃ j, j < n ∧ p = nI j := by
  unfold zinb
  rw [Bool.and_eq_true, decide_eq_true_eq, decide_eq_true_eq]
  constructor
  · intro ⟨h1, h2⟩
    obtain ⟨j, hj, e⟩ := nI_of (x := p) (Int32.not_lt.mpr h1)
    subst e
    exact ⟨j, (nI_ltI hj hn).mp h2, rfl⟩
  · intro ⟨j, hj, e⟩
    subst e
    exact ⟨nI_pos' (by omega), nI_lt hj hn⟩
def zk1 (a : Bool) : Nat := if a then 0 else 1
def zk2 (a b : Bool) : Nat := if a then (if b then 0 else 2) else 1
def zk3 (a b c : Bool) : Nat := if a then (if b then (if c then 0 else 3) else 2) else 1
def zPX (k : Nat) (E : String) : Prop := (k = 1 ∧ E = zIOB) ∨ (k = 2 ∧ E = zIAE) ∨ (k = 3 ∧ E = zISE)
def zPN (k : Nat) (E : String) : Prop := (k = 1 ∧ E = zIOB) ∨ (k = 2 ∧ E = zIAE) ∨ (k = 3 ∧ E = zNSE)
