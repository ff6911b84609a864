section
-- ===== PART A: goes FIRST, ahead of the names: the tables' words, and 'selects' of the private methods out of them =====
/-- a private method of a class that the tables say can be made, by its rows of tables_1 -/
def lw_okq (q : MethodName × Nat) : Prop := (q.1.cls ≠ "java/lang/invoke/MethodHandle" ∧ q.1.cls ≠ "java/lang/invoke/VarHandle") ∧ Cond.instantiable q.1.cls q.2 ∈ tables_1 ∧ Cond.privateMethod q.1 ∈ tables_1 ∧ Cond.instanceMethod q.1 ∈ tables_1
theorem lw_p0 : lw_okq (⟨"java/lang/Throwable", "fillInStackTrace", "(I)Ljava/lang/Throwable;"⟩, 6) := ⟨⟨by decide +kernel, by decide +kernel⟩, List.mem_of_getElem? (i := 157) (by decide +kernel), List.mem_of_getElem? (i := 155) (by decide +kernel), List.mem_of_getElem? (i := 156) (by decide +kernel)⟩
theorem lw_p1 : lw_okq (⟨"Countcote$SignedSketch", "rowProduct", "(ILCountcote$SignedSketch;)J"⟩, 2) := ⟨⟨by decide +kernel, by decide +kernel⟩, List.mem_of_getElem? (i := 45) (by decide +kernel), List.mem_of_getElem? (i := 252) (by decide +kernel), List.mem_of_getElem? (i := 253) (by decide +kernel)⟩
theorem lw_p2 : lw_okq (⟨"Countcote$SignedSketch", "middleNumber", "()J"⟩, 2) := ⟨⟨by decide +kernel, by decide +kernel⟩, List.mem_of_getElem? (i := 45) (by decide +kernel), List.mem_of_getElem? (i := 260) (by decide +kernel), List.mem_of_getElem? (i := 261) (by decide +kernel)⟩
theorem lw_p3 : lw_okq (⟨"Countcote$FewCounters", "placeOf", "(I)I"⟩, 4) := ⟨⟨by decide +kernel, by decide +kernel⟩, List.mem_of_getElem? (i := 59) (by decide +kernel), List.mem_of_getElem? (i := 366) (by decide +kernel), List.mem_of_getElem? (i := 367) (by decide +kernel)⟩
theorem lw_p4 : lw_okq (⟨"Countcote$FewCounters", "grow", "(II)V"⟩, 4) := ⟨⟨by decide +kernel, by decide +kernel⟩, List.mem_of_getElem? (i := 59) (by decide +kernel), List.mem_of_getElem? (i := 370) (by decide +kernel), List.mem_of_getElem? (i := 371) (by decide +kernel)⟩
theorem lw_p5 : lw_okq (⟨"Countcote$FewCounters", "leastWeight", "()I"⟩, 4) := ⟨⟨by decide +kernel, by decide +kernel⟩, List.mem_of_getElem? (i := 59) (by decide +kernel), List.mem_of_getElem? (i := 374) (by decide +kernel), List.mem_of_getElem? (i := 375) (by decide +kernel)⟩
theorem lw_p6 : lw_okq (⟨"Countcote$FewCounters", "takeAway", "(I)V"⟩, 4) := ⟨⟨by decide +kernel, by decide +kernel⟩, List.mem_of_getElem? (i := 59) (by decide +kernel), List.mem_of_getElem? (i := 379) (by decide +kernel), List.mem_of_getElem? (i := 380) (by decide +kernel)⟩
theorem lw_p7 : lw_okq (⟨"Countcote$FewCounters", "weightReachedBy", "(I)I"⟩, 4) := ⟨⟨by decide +kernel, by decide +kernel⟩, List.mem_of_getElem? (i := 59) (by decide +kernel), List.mem_of_getElem? (i := 425) (by decide +kernel), List.mem_of_getElem? (i := 426) (by decide +kernel)⟩
theorem lw_p8 : lw_okq (⟨"Countcote$FewCounters", "countersReaching", "(I)I"⟩, 4) := ⟨⟨by decide +kernel, by decide +kernel⟩, List.mem_of_getElem? (i := 59) (by decide +kernel), List.mem_of_getElem? (i := 429) (by decide +kernel), List.mem_of_getElem? (i := 430) (by decide +kernel)⟩
def lw_privs_1 : List (MethodName × Nat) := [(⟨"java/lang/Throwable", "fillInStackTrace", "(I)Ljava/lang/Throwable;"⟩, 6), (⟨"Countcote$SignedSketch", "rowProduct", "(ILCountcote$SignedSketch;)J"⟩, 2), (⟨"Countcote$SignedSketch", "middleNumber", "()J"⟩, 2), (⟨"Countcote$FewCounters", "placeOf", "(I)I"⟩, 4), (⟨"Countcote$FewCounters", "grow", "(II)V"⟩, 4), (⟨"Countcote$FewCounters", "leastWeight", "()I"⟩, 4), (⟨"Countcote$FewCounters", "takeAway", "(I)V"⟩, 4), (⟨"Countcote$FewCounters", "weightReachedBy", "(I)I"⟩, 4), (⟨"Countcote$FewCounters", "countersReaching", "(I)I"⟩, 4)]
theorem lw_r1 : ∀ q ∈ lw_privs_1, lw_okq q := List.forall_mem_cons.mpr ⟨lw_p0, List.forall_mem_cons.mpr ⟨lw_p1, List.forall_mem_cons.mpr ⟨lw_p2, List.forall_mem_cons.mpr ⟨lw_p3, List.forall_mem_cons.mpr ⟨lw_p4, List.forall_mem_cons.mpr ⟨lw_p5, List.forall_mem_cons.mpr ⟨lw_p6, List.forall_mem_cons.mpr ⟨lw_p7, List.forall_mem_cons.mpr ⟨lw_p8, fun _ h => absurd h List.not_mem_nil⟩⟩⟩⟩⟩⟩⟩⟩⟩
def lw_privs : List (MethodName × Nat) := lw_privs_1
def lw_tbl : List Cond := k2_sels lw_privs ++ tables_1
theorem lw_privs_ok : ∀ q ∈ lw_privs, lw_okq q := lw_r1
/-- the streams that the claim lets the run draw from -/
abbrev lw_cs : List Choice := [Jvm.Choice.named "NaN.bits"]
theorem lw_bits : nanBits ∈ lw_cs := by first | decide | exact List.mem_cons_self | simp [lw_cs, nanBits]
-- ===== end of PART A; then your names; then what follows =====

/-! ===== BEGIN words of one list among another's, by their places ===== -/
theorem goodIn_r {big : List Cond} (ws : List Cond) (ps : List Nat) (hp : ws = ps.filterMap (fun i => big[i]?)) (h : ws.all goodWord = true) : GoodIn big ws := by
  intro w hw
  have h1 := List.all_eq_true.mp h w hw
  rw [hp] at hw
  obtain ⟨i, -, hi⟩ := List.mem_filterMap.mp hw
  have hm : w ∈ big := by first | exact List.mem_of_getElem? hi | exact List.getElem?_mem hi
  exact ⟨hm, good_of_word h1⟩
theorem goodIn_app {big a b : List Cond} (ha : GoodIn big a) (hb : GoodIn big b) : GoodIn big (a ++ b) := fun w h => (List.mem_append.mp h).elim (ha w) (hb w)
theorem goodIn_ca {big a b : List Cond} {c : Cond} (ha : GoodIn big (c :: a)) (hb : GoodIn big b) : GoodIn big (c :: (a ++ b)) := fun w h => (List.mem_cons.mp h).elim (fun e => ha w (List.mem_cons.mpr (Or.inl e))) (fun h => (List.mem_append.mp h).elim (fun h => ha w (List.mem_cons.mpr (Or.inr h))) (hb w))
theorem goodIn_sub {big ws : List Cond} (hm : ∀ w ∈ ws, w ∈ big) (h : ws.all goodWord = true) : GoodIn big ws := fun w hw => ⟨hm w hw, good_of_word (List.all_eq_true.mp h w hw)⟩
/-! ===== END ===== -/

/-! ===== BEGIN exceptions that leave a method, and their catching by the caller (launches without stack traces) ===== -/
section VXA
/-! The laws vx_back, vx_callV, vx_callS, vx_callSW, vx_throw0, vx_throwS follow proofs of the library, with one case more: JvmDerived/Free/Laws.lean (Back.of_free), Shelf42/LK1.lean (callV, callS), Shelf/KitTraced.lean (throwNew0V, throwNewS). -/
/-- where a method has thrown q: the class by its name, the cell, what was written, the world -/
def vx_T (XC : String → State → State → Prop) (st : State) (q : Addr) (t : State) (mc ms : Nat) (free : Addr → Prop) : Prop :=
  ∃ (E : String) (ce : Cell) (L : List Loc), XC E st t ∧ t.heap[q]? = some ce ∧ ce.vm = .none ∧ st.vm.findClass E = some ce.cls ∧ st.WarmedH t.vm ∧ st.sameButNew ({ t with vm := st.vm } : State) L mc ms ∧ ∀ z ∈ L, free z.base
def vx_Q (Qc : Array Value → State → Outcome → State → Prop) (XC : String → State → State → Prop) (mc ms : Nat) (free : Addr → Prop) : Array Value → State → Outcome → State → Prop := fun a st o t =>
  (Qc a st o t ∧ ∃ L, FrameEnd st o t L mc ms ∧ ∀ q ∈ L, free q.base) ∨ ∃ q, o = .threw q ∧ vx_T XC st q t mc ms free
/-- a callee that returns or throws -/
def vx_Met (l : Launch) (y : MethodName) (ws : List Cond) (rm : Room) (Pc : Array Value → State → Prop) (Qc : Array Value → State → Outcome → State → Prop) (XC : String → State → State → Prop) (mc ms : Nat) (free : Addr → Prop) : Prop :=
  MetFree l y (headSpec ws rm) Pc (fun _ _ _ _ _ => True) (vx_Q Qc XC mc ms free)
def vx_Post (XC : String → State → State → Prop) (mc ms : Nat) (free : Addr → Prop) : Pt → Array Value → Addr → Pt → Prop := fun A a q B =>
  ∃ (g : JFrame) (mk : MethodId) (t : State) (L : List Loc) (E : String) (ce : Cell), B.U.heap = t.heap ∧ B.U.vm = t.vm ∧ XC E (A.U.calling g mk a) t ∧ t.heap[q]? = some ce ∧ ce.vm = .none ∧ A.U.vm.findClass E = some ce.cls ∧ B.locs = A.locs ++ L ∧ (∀ z ∈ L, free z.base) ∧ B.cells = A.cells + mc ∧ B.slots = A.slots + ms
def vx_Back (l : Launch) (R : Room) (p : Program) (e : Env) (below : List Frame) (s : State) (sargs : Array Value) (y : MethodName) (len W9 : Nat)
    (Pre : Pt → Array Value → Prop) (Post : Pt → Array Value → Option Value → Pt → Prop) (PostX : Pt → Array Value → Addr → Pt → Prop) : Prop :=
  ∀ (m : MethodId) (meth : Method) (c : Code) (A : Pt) (g : JFrame) (ig : Instr) (mk : MethodId) (a : Array Value),
    Stand p l e R s m sargs below meth c A.U A.locs A.cells A.slots → g.method = m → g.locals.size = c.maxLocals → decode c.code g.pc = .ok (ig, len) →
    2 * g.monitorRoom + (g.stack.map fun v => v.category).sum ≤ W9 → A.U.methodNamed? y = some mk → Pre A a →
    (∃ (v : Option Value) (B : Pt), Stand p l e R s m sargs below meth c B.U B.locs B.cells B.slots ∧ Post A a v B ∧
      Steps p.tables e below (doInvoke e (A.U.setTop g) [] mk a).1 (B.U.setTop { g with pc := g.pc + len, stack := v.toList ++ g.stack })) ∨
    (∃ (q : Addr) (B : Pt), Stand p l e R s m sargs below meth c B.U B.locs B.cells B.slots ∧ PostX A a q B ∧
      Steps p.tables e below (doInvoke e (A.U.setTop g) [] mk a).1 ((B.U.setTop g).pushFrame (.throwing q)))
section Payer
variable {l : Launch} {R : Room} {p : Program} {e : Env} {below : List Frame} {s : State} {sargs : Array Value} {y : MethodName} {len W9 : Nat}
theorem vx_back {ws : List Cond} {rm : Room} {Pc : Array Value → State → Prop} {Qc : Array Value → State → Outcome → State → Prop} {XC : String → State → State → Prop} {mc ms : Nat} {free : Addr → Prop} {bytes : ByteArray} {maxL : Nat} {ret : Option FieldType}
    (hM : vx_Met l y ws rm Pc Qc XC mc ms free) (hblind : FrameBlind Pc) (hrc : rm.cells = mc) (hrs : rm.slots = ms)
    (hframes : rm.frames + 1 ≤ R.frames) (hlocals : W9 + (maxL + 11) + rm.locals ≤ R.locals)
    (hws : ∀ w ∈ ws, ∀ a' U, s.WarmedH U.vm → w.before a' U = true) (hcode : Cond.code y bytes maxL ret ∈ ws) (hinit : ∀ a' U, s.WarmedH U.vm → (Cond.initialized y.cls).before a' U = true) :
    vx_Back l R p e below s sargs y len W9 (PreOf R mc ms Pc) (PostOf Qc mc ms free) (vx_Post XC mc ms free) := by
  intro m meth c A g ig mk a X hg hsize hdg hW hn hp
  have h1 : (headSpec ws rm).pre.before a A.U = true := atoms_intro fun w hw => hws w hw _ _ X.warmed
  have h2 : (Cond.code y bytes maxL ret).before a A.U = true := hws _ hcode _ _ X.warmed
  have h3 : (Cond.initialized y.cls).before a A.U = true := hinit _ _ X.warmed
  have h4 : A.cells + (headSpec ws rm).room.cells ≤ R.cells := by rw [show (headSpec ws rm).room.cells = mc from hrc]; exact hp.1
  have h5 : A.slots + (headSpec ws rm).room.slots ≤ R.slots := by rw [show (headSpec ws rm).room.slots = ms from hrs]; exact hp.2.1
  have hPc : Pc a (A.U.calling g mk a) := hblind _ _ _ _ hp.2.2
  obtain ⟨U, Ls, c0, s0⟩ := A
  dsimp only [Pt.U, Pt.locs, Pt.cells, Pt.slots] at h1 h2 h3 h4 h5 X hn hPc ⊢
  obtain ⟨methY, cY, hmY, hcY, -, hlY, -, -, -, -⟩ := Cond.code_spec hn h2
  obtain ⟨kY, hkY, -⟩ := className_of_methodNamed hn
  have hinitY : kY.init = .initialized := Cond.initialized_spec (findClass_of_methodNamed hn) hkY h3
  have h : At U g.method c below := by rw [hg]; exact X.here
  have hlocals9 : W9 + (maxL + 11) + (headSpec ws rm).room.locals ≤ R.locals := hlocals
  have happ : (headSpec ws rm).appliesLoose y e.platform (U.calling g mk a) = true :=
    Spec.appliesLoose_calling (g := g) h hdg hn hkY hinitY
      (X.room_calling (g := g) (R' := (headSpec ws rm).room) hsize hmY hcY hframes (by rw [hlY]; omega) h4 h5) h1
  obtain ⟨mid, hmid⟩ := h.above
  have hfr : (U.setTop g).frames = (.java g :: mid) ++ below := by rw [State.frames_setTop' g h.top, hmid]; rfl
  obtain ⟨o, s₂, hsteps, -, hend, hq⟩ := Steps.callFree hM p X.admits X.cas X.clock (acts := []) hfr happ hPc trivial
  have hq' : vx_Q Qc XC mc ms free a (U.calling g mk a) o s₂ := hq
  rw [State.frames_setTop' g h.top] at hend
  obtain ⟨g₀, hg0⟩ := Option.isSome_iff_exists.mp h.top
  obtain ⟨r, hr⟩ := State.topJava?_eq_some.mp hg0
  have hr' : (({ U with heap := s₂.heap, slotsUsed := s₂.slotsUsed } : State).setVm s₂.vm).frames = .java g₀ :: r := hr
  rcases hq' with ⟨hqc, L, hfe, hL⟩ | ⟨q, rfl, E, ce, L, hx, hce, hcv, hcl, hW₂, hsm, hL⟩
  · obtain ⟨⟨v, rfl⟩, hW₂, e2, q2, q3, q4, q5, q6⟩ := id hfe
    have e3 : s₂ = ({ (U.calling g mk a).setFrames s₂.frames with heap := s₂.heap, slotsUsed := s₂.slotsUsed } : State).setVm s₂.vm := by
      have : s₂ = ({ s₂ with vm := (U.calling g mk a).vm } : State).setVm s₂.vm := rfl
      rw [e2] at this
      exact this
    obtain ⟨c₂, i₂, len₂, hc₂, hd₂, hf₂⟩ := hend
    have hW' : U.WarmedH s₂.vm := hW₂
    have hcc : c₂ = c := by
      have h1 : s₂.code? g.method = U.code? g.method := by
        rw [State.code?_eq, State.code?_eq, hW'.alike.method?]
      exact Option.some.inj (hc₂.symm.trans (h1.trans h.code))
    subst hcc
    have hlen : len₂ = len := by rw [hdg] at hd₂; cases hd₂; rfl
    subst hlen
    have hs₂ : s₂ = (({ U with heap := s₂.heap, slotsUsed := s₂.slotsUsed } : State).setVm s₂.vm).setTop { g with pc := g.pc + len₂, stack := v.toList ++ g.stack } := by
      refine e3.trans ?_
      rw [hf₂, State.calling_eq h.top, State.setFrames_setFrames, State.setTop_of_frames _ hr', hr]
      rfl
    have hsame : U.sameButNew ({ U with heap := s₂.heap, slotsUsed := s₂.slotsUsed } : State) L mc ms := by
      refine ⟨?_, q2, q3, q4, q5, q6⟩
      obtain ⟨t, ht, -⟩ := State.frames_cons hr
      show ({ U with heap := s₂.heap, slotsUsed := s₂.slotsUsed } : State) = { U.setFrames U.frames with heap := s₂.heap, slotsUsed := s₂.slotsUsed }
      rw [State.setFrames_self ht]
    subst hg
    refine Or.inl ⟨v, ⟨(({ U with heap := s₂.heap, slotsUsed := s₂.slotsUsed } : State).setVm s₂.vm), Ls ++ L, c0 + mc, s0 + ms⟩,
      ⟨X.admits, X.cas, X.clock, X.frames, X.room, X.hears, X.method, X.code, (X.here.setHeapUsed s₂.heap s₂.slotsUsed).setVm hW'.alike, X.tail, State.WarmedH.trans X.warmed hW', X.limits, X.bytes, X.same.trans (hsame.setVm s.vm)⟩,
      ⟨g, mk, s₂, L, rfl, rfl, hqc, rfl, hL, rfl, rfl⟩, ?_⟩
    show Steps p.tables e below _ ((({ U with heap := s₂.heap, slotsUsed := s₂.slotsUsed } : State).setVm s₂.vm).setTop { g with pc := g.pc + len₂, stack := v.toList ++ g.stack })
    rw [← hs₂]
    exact hsteps
  · obtain ⟨e2, q2, q3, q4, q5, q6⟩ := id hsm
    have e3 : s₂ = ({ (U.calling g mk a).setFrames s₂.frames with heap := s₂.heap, slotsUsed := s₂.slotsUsed } : State).setVm s₂.vm := by
      have : s₂ = ({ s₂ with vm := (U.calling g mk a).vm } : State).setVm s₂.vm := rfl
      rw [e2] at this
      exact this
    have hf₂ : s₂.frames = .throwing q :: .java g :: U.frames.tail := hend
    have hW' : U.WarmedH s₂.vm := hW₂
    have hs₂ : s₂ = ((({ U with heap := s₂.heap, slotsUsed := s₂.slotsUsed } : State).setVm s₂.vm).setTop g).pushFrame (.throwing q) := by
      refine e3.trans ?_
      rw [hf₂, State.calling_eq h.top, State.setFrames_setFrames, State.pushFrame, State.frames_setTop _ hr', State.setTop_of_frames _ hr', State.setFrames_setFrames, hr]
      rfl
    have hsame : U.sameButNew ({ U with heap := s₂.heap, slotsUsed := s₂.slotsUsed } : State) L mc ms := by
      refine ⟨?_, q2, q3, q4, q5, q6⟩
      obtain ⟨t, ht, -⟩ := State.frames_cons hr
      show ({ U with heap := s₂.heap, slotsUsed := s₂.slotsUsed } : State) = { U.setFrames U.frames with heap := s₂.heap, slotsUsed := s₂.slotsUsed }
      rw [State.setFrames_self ht]
    subst hg
    refine Or.inr ⟨q, ⟨(({ U with heap := s₂.heap, slotsUsed := s₂.slotsUsed } : State).setVm s₂.vm), Ls ++ L, c0 + mc, s0 + ms⟩,
      ⟨X.admits, X.cas, X.clock, X.frames, X.room, X.hears, X.method, X.code, (X.here.setHeapUsed s₂.heap s₂.slotsUsed).setVm hW'.alike, X.tail, State.WarmedH.trans X.warmed hW', X.limits, X.bytes, X.same.trans (hsame.setVm s.vm)⟩,
      ⟨g, mk, s₂, L, E, ce, rfl, rfl, hx, hce, hcv, hcl, rfl, hL, rfl, rfl⟩, ?_⟩
    show Steps p.tables e below _ (((({ U with heap := s₂.heap, slotsUsed := s₂.slotsUsed } : State).setVm s₂.vm).setTop g).pushFrame (.throwing q))
    rw [← hs₂]
    exact hsteps
end Payer
section Calls
variable {p : Program} {l : Launch} {e : Env} {R : Room} {s : State} {m : MethodId} {args : Array Value} {below : List Frame} {meth : Method} {c : Code} {T : State} {locs : List Loc} {cells slots : Nat}
theorem vx_callV (X : Stand p l e R s m args below meth c T locs cells slots) (hexec : p.tables.exec = Jvm.exec) {own C : String} {index : Nat} {y : MethodName} {bytes : ByteArray} {maxL : Nat} {ret : Option FieldType}
    (hown : s.vm.findClass own = some m.cls) (hlink : (Cond.methodLink own index y).before args s = true) (hinst : (Cond.instanceMethod y).before args s = true) (hsel : (Cond.selects C y y).before args s = true)
    (hcode : (Cond.code y bytes maxL ret).before args s = true) (hy : y.cls ≠ "java/lang/invoke/MethodHandle" ∧ y.cls ≠ "java/lang/invoke/VarHandle")
    {W9 : Nat} {Pre : Pt → Array Value → Prop} {Post : Pt → Array Value → Option Value → Pt → Prop} {PostX : Pt → Array Value → Addr → Pt → Prop} (hK : vx_Back l R p e below s args y 3 W9 Pre Post PostX)
    {b : Addr} {cellB : Cell} (hcell : T.heap[b]? = some cellB) (hobj : cellB.vm.isStatics = false) (hcls : s.vm.findClass C = some cellB.cls)
    {g : JFrame} (hg : g.method = m) (hsize : g.locals.size = c.maxLocals) {argsL rest : List Value} (hlen : ∀ sig, parseMethodDescriptor y.desc = some sig → argsL.length = sig.parameters.length)
    (hstack : g.stack = argsL.reverse ++ .ref b :: rest) (hW : 2 * g.monitorRoom + (rest.map fun v => v.category).sum ≤ W9) (hdg : decode c.code g.pc = .ok (.invokevirtual index, 3))
    (hpre : ∀ vm₁, s.WarmedH vm₁ → Pre ⟨T.setVm vm₁, locs, cells, slots⟩ (Value.ref b :: argsL).toArray) :
    (∃ (v : Option Value) (vm₁ : Vm) (B : Pt), s.WarmedH vm₁ ∧ Stand p l e R s m args below meth c B.U B.locs B.cells B.slots ∧ Post ⟨T.setVm vm₁, locs, cells, slots⟩ (Value.ref b :: argsL).toArray v B ∧
      ∀ target, Steps p.tables e below (B.U.setTop { g with pc := g.pc + 3, stack := v.toList ++ rest }) target → Steps p.tables e below (T.setTop g) target) ∨
    (∃ (q : Addr) (vm₁ : Vm) (B : Pt), s.WarmedH vm₁ ∧ Stand p l e R s m args below meth c B.U B.locs B.cells B.slots ∧ PostX ⟨T.setVm vm₁, locs, cells, slots⟩ (Value.ref b :: argsL).toArray q B ∧
      Steps p.tables e below (T.setTop g) ((B.U.setTop { g with stack := rest }).pushFrame (.throwing q))) := by
  obtain ⟨mk, methM, hnamed, hmethM, hstM, habM⟩ := Cond.instanceMethod_spec hinst
  obtain ⟨methM', cM, hmethM', -, -, -, -, -, -, hsigM⟩ := Cond.code_spec hnamed hcode
  cases hmethM.symm.trans hmethM'
  obtain ⟨c2, r2, m2, q1, q2, q3, q4, kP, hkP, hkPi⟩ := Cond.selects_spec hsel
  cases hcls.symm.trans q1
  cases (State.methodFound?_of_named hnamed hy).symm.trans q2
  cases hnamed.symm.trans q3
  have hselP : selectMethod e.platform s.vm cellB.cls mk = .method mk := by rw [Launch.admits_selectMethod X.admits]; exact q4
  obtain ⟨vm₁, X₁, hstep₁⟩ := X.invokevirtual hexec hown hlink hnamed hmethM hstM hkP hkPi hy (a := b) (cell := cellB) hcell
    (fun z h => by rw [h] at hobj; cases hobj) hselP hmethM habM hkP hkPi (g := g) hg (argsL := argsL) (rest := rest) (hlen _ hsigM) hstack hdg
  rcases hK m meth c ⟨T.setVm vm₁, locs, cells, slots⟩ { g with stack := rest } (.invokevirtual index) mk (Value.ref b :: argsL).toArray X₁ hg hsize hdg hW (X₁.named hnamed) (hpre vm₁ X₁.warmed) with ⟨v, B, X', hpost, hsteps⟩ | ⟨q, B, X', hpost, hsteps⟩
  · exact Or.inl ⟨v, vm₁, B, X₁.warmed, X', hpost, fun target h => hstep₁ _ fun acts => by rw [doInvoke_state]; exact hsteps.trans h⟩
  · exact Or.inr ⟨q, vm₁, B, X₁.warmed, X', hpost, hstep₁ _ fun acts => by rw [doInvoke_state]; exact hsteps⟩
theorem vx_callS (X : Stand p l e R s m args below meth c T locs cells slots) (hexec : p.tables.exec = Jvm.exec) {own : String} {index : Nat} {y : MethodName} {bytes : ByteArray} {maxL : Nat} {ret : Option FieldType}
    (hown : s.vm.findClass own = some m.cls) (hlink : (Cond.methodLink own index y).before args s = true) (hstat : (Cond.static y).before args s = true) (hinit : (Cond.initialized y.cls).before args s = true)
    (hcode : (Cond.code y bytes maxL ret).before args s = true) (hy : y.cls ≠ "java/lang/invoke/MethodHandle" ∧ y.cls ≠ "java/lang/invoke/VarHandle")
    {W9 : Nat} {Pre : Pt → Array Value → Prop} {Post : Pt → Array Value → Option Value → Pt → Prop} {PostX : Pt → Array Value → Addr → Pt → Prop} (hK : vx_Back l R p e below s args y 3 W9 Pre Post PostX)
    {g : JFrame} (hg : g.method = m) (hsize : g.locals.size = c.maxLocals) {argsL rest : List Value} (hlen : ∀ sig, parseMethodDescriptor y.desc = some sig → argsL.length = sig.parameters.length)
    (hstack : g.stack = argsL.reverse ++ rest) (hW : 2 * g.monitorRoom + (rest.map fun v => v.category).sum ≤ W9) (hdg : decode c.code g.pc = .ok (.invokestatic index, 3))
    (hpre : ∀ vm₁, s.WarmedH vm₁ → Pre ⟨T.setVm vm₁, locs, cells, slots⟩ argsL.toArray) :
    (∃ (v : Option Value) (vm₁ : Vm) (B : Pt), s.WarmedH vm₁ ∧ Stand p l e R s m args below meth c B.U B.locs B.cells B.slots ∧ Post ⟨T.setVm vm₁, locs, cells, slots⟩ argsL.toArray v B ∧
      ∀ target, Steps p.tables e below (B.U.setTop { g with pc := g.pc + 3, stack := v.toList ++ rest }) target → Steps p.tables e below (T.setTop g) target) ∨
    (∃ (q : Addr) (vm₁ : Vm) (B : Pt), s.WarmedH vm₁ ∧ Stand p l e R s m args below meth c B.U B.locs B.cells B.slots ∧ PostX ⟨T.setVm vm₁, locs, cells, slots⟩ argsL.toArray q B ∧
      Steps p.tables e below (T.setTop g) ((B.U.setTop { g with stack := rest }).pushFrame (.throwing q))) := by
  obtain ⟨mk, hnamed⟩ := Cond.code_named hcode
  obtain ⟨methM, cM, hmethM, -, -, -, -, -, -, hsigM⟩ := Cond.code_spec hnamed hcode
  have hstatic : methM.isStatic = true := Cond.static_spec hnamed hmethM hstat
  obtain ⟨kP, hkP, -⟩ := className_of_methodNamed hnamed
  have hinitP : kP.init = .initialized := Cond.initialized_spec (findClass_of_methodNamed hnamed) hkP hinit
  obtain ⟨vm₁, X₁, hstep₁⟩ := X.invokestatic hexec hown hlink hnamed hmethM hstatic hkP hinitP hy (g := g) hg (argsL := argsL) (rest := rest) (hlen _ hsigM) hstack hdg
  rcases hK m meth c ⟨T.setVm vm₁, locs, cells, slots⟩ { g with stack := rest } (.invokestatic index) mk argsL.toArray X₁ hg hsize hdg hW (X₁.named hnamed) (hpre vm₁ X₁.warmed) with ⟨v, B, X', hpost, hsteps⟩ | ⟨q, B, X', hpost, hsteps⟩
  · exact Or.inl ⟨v, vm₁, B, X₁.warmed, X', hpost, fun target h => hstep₁ _ fun acts => by rw [doInvoke_state]; exact hsteps.trans h⟩
  · exact Or.inr ⟨q, vm₁, B, X₁.warmed, X', hpost, hstep₁ _ fun acts => by rw [doInvoke_state]; exact hsteps⟩
end Calls
theorem vx_cls {s : State} {T : State} {vm₁ : Vm} {E : String} {k : ClassId} (hW : s.WarmedH vm₁) (h : (T.setVm vm₁).vm.findClass E = some k) : s.vm.findClass E = some k := by
  have h1 : vm₁.findClass E = some k := h
  rw [hW.alike.findClass] at h1
  exact h1
/-- the method's frame g, with q thrown over it -/
def vx_W (p : Program) (l : Launch) (e : Env) (R : Room) (s : State) (m : MethodId) (args : Array Value) (below : List Frame) (meth : Method) (c : Code) (H : Heap) (locs : List Loc) (cells slots : Nat) (Q : State → Prop) (g : JFrame) (q : Addr) : Prop :=
  ∀ T : State, T.heap = H → Stand p l e R s m args below meth c T locs cells slots → ∃ t, Steps p.tables e below ((T.setTop g).pushFrame (.throwing q)) t ∧ Q t
def vx_Run (p : Program) (l : Launch) (e : Env) (R : Room) (s : State) (m : MethodId) (args : Array Value) (below : List Frame) (meth : Method) (c : Code) (H : Heap) (locs : List Loc) (cells slots mc ms : Nat) (g : JFrame) (rest : List Value) (Qa : State → Outcome → State → Prop) (XC : String → State → State → Prop) (free : Addr → Prop) : Prop :=
  ∀ T : State, T.heap = H → Stand p l e R s m args below meth c T locs cells slots →
    (∃ (v : Option Value) (st₀ t T' : State) (L : List Loc), st₀.heap = H ∧ Stand p l e R s m args below meth c T' (locs ++ L) (cells + mc) (slots + ms) ∧ (∀ q ∈ L, free q.base) ∧ T'.heap = t.heap ∧ T'.vm = t.vm ∧ Qa st₀ (.returned v) t ∧
      Goes p e below T g T' { g with pc := g.pc + 3, stack := v.toList ++ rest }) ∨
    (∃ (q : Addr) (st₀ t T' : State) (L : List Loc) (E : String) (ce : Cell), st₀.heap = H ∧ Stand p l e R s m args below meth c T' (locs ++ L) (cells + mc) (slots + ms) ∧ (∀ z ∈ L, free z.base) ∧ T'.heap = t.heap ∧ T'.vm = t.vm ∧ XC E st₀ t ∧ t.heap[q]? = some ce ∧ ce.vm = .none ∧ s.vm.findClass E = some ce.cls ∧
      Steps p.tables e below (T.setTop g) ((T'.setTop { g with stack := rest }).pushFrame (.throwing q)))
def vx_X {S : Type} (px : S → Prop) (B : String → S → State → Prop) (A : Nat → Prop) : String → State → State → Prop := fun E st t => ∃ u : S, px u ∧ B E u t ∧ va_F A st t
section Runs
variable {p : Program} {l : Launch} {e : Env} {R : Room} {s : State} {m : MethodId} {args : Array Value} {below : List Frame} {meth : Method} {c : Code} {H : Heap} {locs : List Loc} {cells slots : Nat}
variable {y : MethodName} {bytes cc : ByteArray} {maxL nL mc ms n index : Nat} {ret : Option FieldType} {ws : List Cond} {rm : Room} {Pc : Array Value → State → Prop} {Qc : Array Value → State → Outcome → State → Prop} {XC : String → State → State → Prop} {free : Addr → Prop} {Ts : List Cond} {own C : String} {b : Addr} {As rest : List Value} {g : JFrame}
theorem vx_callBack (cb : CallB R s args own index y bytes maxL ret ws rm mc ms n) (hM : vx_Met l y ws rm Pc Qc XC mc ms free) (hbl : FrameBlind Pc) : vx_Back l R p e below s args y 3 8 (PreOf R mc ms Pc) (PostOf Qc mc ms free) (vx_Post XC mc ms free) := by
  obtain ⟨hrc, hrs, hfr, hlo, hws, hcw, -, hini, -⟩ := cb
  exact vx_back (bytes := bytes) (maxL := maxL) (ret := ret) hM hbl hrc hrs hfr hlo hws hcw (fun a' U hW => word_at hW (Or.inl (by first | rfl | simp [Cond.onTables, Cond.keeps, Cond.steady])) hini)
theorem vx_runV (S : CallFix p m c cc nL s args Ts own) (hM : vx_Met l y ws rm Pc Qc XC mc ms free) (cw : CallW R s args own C index y bytes maxL ret ws rm mc ms n) (hp : PreV s H C b Pc As)
    (hg : g.method = m) (hn : As.length = n) (hsize : g.locals.size = nL) (hstack : g.stack = As.reverse ++ .ref b :: rest) (hW : 2 * g.monitorRoom + (rest.map fun v => v.category).sum ≤ 8) (hdg : decode cc g.pc = .ok (.invokevirtual index, 3)) (hf : cells + mc ≤ R.cells ∧ slots + ms ≤ R.slots) :
    vx_Run p l e R s m args below meth c H locs cells slots mc ms g rest (Qc (Value.ref b :: As).toArray) XC free := by
  have hK : vx_Back l R p e below s args y 3 8 (PreOf R mc ms Pc) (PostOf Qc mc ms free) (vx_Post XC mc ms free) := vx_callBack cw.1 hM hp.1
  obtain ⟨⟨-, -, -, -, -, -, hcode, -, hy, hlen, hl⟩, hin, hse⟩ := cw
  obtain ⟨hx, hb, hml, ho, -⟩ := S
  obtain ⟨-, ⟨cellB, hcB, hoB, hclB⟩, hPc⟩ := hp
  intro T hT X
  rcases vx_callV X hx (C := C) (bytes := bytes) (maxL := maxL) (ret := ret) ho hl hin hse hcode hy hK (by rw [hT]; exact hcB) hoB hclB hg (hsize.trans hml.symm) (argsL := As) (rest := rest) (fun sig h => hn.trans (hlen sig h)) hstack hW (by rw [hb]; exact hdg)
    (fun vm₁ hW₁ => ⟨hf.1, hf.2, hPc (T.setVm vm₁) hT hW₁⟩) with ⟨v, vm₁, ⟨U', l2, c2, s2⟩, hW₁, X', ⟨g', mk, t, L, e1, e2, hq, h1, hL, h2, h3⟩, st⟩ | ⟨q, vm₁, ⟨U', l2, c2, s2⟩, hW₁, X', ⟨g', mk, t, L, E, ce, e1, e2, hq, hce, hcv, hcl, h1, hL, h2, h3⟩, st⟩
  · dsimp only [Pt.U, Pt.locs, Pt.cells, Pt.slots] at X' e1 e2 h1 h2 h3 st
    subst h1; subst h2; subst h3
    exact Or.inl ⟨v, (T.setVm vm₁).calling g' mk (Value.ref b :: As).toArray, t, U', L, hT, X', hL, e1, e2, hq, st⟩
  · dsimp only [Pt.U, Pt.locs, Pt.cells, Pt.slots] at X' e1 e2 h1 h2 h3 st hcl
    subst h1; subst h2; subst h3
    exact Or.inr ⟨q, (T.setVm vm₁).calling g' mk (Value.ref b :: As).toArray, t, U', L, E, ce, hT, X', hL, e1, e2, hq, hce, hcv, vx_cls hW₁ hcl, st⟩
theorem vx_runS (S : CallFix p m c cc nL s args Ts own) (hM : vx_Met l y ws rm Pc Qc XC mc ms free) (cw : CallB R s args own index y bytes maxL ret ws rm mc ms n ∧ (Cond.static y).before args s = true) (hp : PreS s H Pc As)
    (hg : g.method = m) (hn : As.length = n) (hsize : g.locals.size = nL) (hstack : g.stack = As.reverse ++ rest) (hW : 2 * g.monitorRoom + (rest.map fun v => v.category).sum ≤ 8) (hdg : decode cc g.pc = .ok (.invokestatic index, 3)) (hf : cells + mc ≤ R.cells ∧ slots + ms ≤ R.slots) :
    vx_Run p l e R s m args below meth c H locs cells slots mc ms g rest (Qc As.toArray) XC free := by
  have hK : vx_Back l R p e below s args y 3 8 (PreOf R mc ms Pc) (PostOf Qc mc ms free) (vx_Post XC mc ms free) := vx_callBack cw.1 hM hp.1
  obtain ⟨⟨-, -, -, -, -, -, hcode, hini, hy, hlen, hl⟩, hstt⟩ := cw
  obtain ⟨hx, hb, hml, ho, -⟩ := S
  intro T hT X
  rcases vx_callS X hx (bytes := bytes) (maxL := maxL) (ret := ret) ho hl hstt hini hcode hy hK hg (hsize.trans hml.symm) (argsL := As) (rest := rest) (fun sig h => hn.trans (hlen sig h)) hstack hW (by rw [hb]; exact hdg)
    (fun vm₁ hW₁ => ⟨hf.1, hf.2, hp.2 (T.setVm vm₁) hT hW₁⟩) with ⟨v, vm₁, ⟨U', l2, c2, s2⟩, hW₁, X', ⟨g', mk, t, L, e1, e2, hq, h1, hL, h2, h3⟩, st⟩ | ⟨q, vm₁, ⟨U', l2, c2, s2⟩, hW₁, X', ⟨g', mk, t, L, E, ce, e1, e2, hq, hce, hcv, hcl, h1, hL, h2, h3⟩, st⟩
  · dsimp only [Pt.U, Pt.locs, Pt.cells, Pt.slots] at X' e1 e2 h1 h2 h3 st
    subst h1; subst h2; subst h3
    exact Or.inl ⟨v, (T.setVm vm₁).calling g' mk As.toArray, t, U', L, hT, X', hL, e1, e2, hq, st⟩
  · dsimp only [Pt.U, Pt.locs, Pt.cells, Pt.slots] at X' e1 e2 h1 h2 h3 st hcl
    subst h1; subst h2; subst h3
    exact Or.inr ⟨q, (T.setVm vm₁).calling g' mk As.toArray, t, U', L, E, ce, hT, X', hL, e1, e2, hq, hce, hcv, vx_cls hW₁ hcl, st⟩
end Runs
section Rows
variable {p : Program} {l : Launch} {e : Env} {R : Room} {s : State} {m : MethodId} {args : Array Value} {below : List Frame} {meth : Method} {c : Code} {H : Heap} {locs : List Loc} {cells slots : Nat} {Q : State → Prop}
variable {mc ms : Nat} {free : Addr → Prop} {A0 A1 : Nat → Prop} {H0 : Heap} {a : Array Value} {pc : Nat} {ls : Array Slot} {st0 rest : List Value}
theorem vx_keep {st₀ t T' : State} {L : List Loc} (h0 : st₀.heap = H) (e1 : T'.heap = t.heap) (hS : va_S A0 H0 H locs) (hA : ∀ q, q < H.size → A1 q → A0 q) (hf : ∀ q, free q → A0 q) (hL : ∀ q ∈ L, free q.base) (hF : va_F A1 st₀ t) :
    H.size ≤ T'.heap.size ∧ (∀ q : Nat, q < H.size → ¬ A1 q → T'.heap[q]? = H[q]?) ∧ va_S A0 H0 T'.heap (locs ++ L) := by
  obtain ⟨hz, hk⟩ := hF
  rw [h0] at hz hk
  exact ⟨by rw [e1]; exact hz, fun q h1 h2 => by rw [e1]; exact hk q h1 h2,
    ⟨Nat.le_trans hS.1 (by rw [e1]; exact hz), fun q h1 h2 => by rw [e1, hk q (Nat.lt_of_lt_of_le h1 hS.1) (fun z => h2 (hA q (Nat.lt_of_lt_of_le h1 hS.1) z))]; exact hS.2.1 q h1 h2, fun q hq => by
      rcases List.mem_append.mp hq with h | h
      · exact hS.2.2 q h
      · exact hf _ (hL q h)⟩⟩
theorem vx_calli {S SX : Type} {post : Int32 → S → Prop} {px : SX → Prop} {B : S → State → Prop} {BX : String → SX → State → Prop} {AX : Nat → Prop} (hr : vx_Run p l e R s m args below meth c H locs cells slots mc ms (F0 m pc ls st0) rest (va_Qi post B A1 a) (vx_X px BX AX) free) (hS : va_S A0 H0 H locs) (hA : ∀ q, q < H.size → A1 q → A0 q) (hf : ∀ q, free q → A0 q) (hAX : ∀ q, q < H.size → AX q → A0 q)
    (kx : ∀ (E : String) (ce : Cell) (q9 : Addr) (u : SX) (t : State) (H1 : Heap) (locs1 : List Loc), t.heap = H1 → s.vm.Alike t.vm → px u → BX E u t → H.size ≤ H1.size → (∀ q : Nat, q < H.size → ¬ AX q → H1[q]? = H[q]?) → va_S A0 H0 H1 locs1 → H1[q9]? = some ce → ce.vm = .none → s.vm.findClass E = some ce.cls → vx_W p l e R s m args below meth c H1 locs1 (cells + mc) (slots + ms) Q (F0 m pc ls rest) q9)
    (kk : ∀ (r : Int32) (u : S) (t : State) (H1 : Heap) (locs1 : List Loc), t.heap = H1 → s.vm.Alike t.vm → post r u → B u t → H.size ≤ H1.size → (∀ q : Nat, q < H.size → ¬ A1 q → H1[q]? = H[q]?) → va_S A0 H0 H1 locs1 → W p l e R s m args below meth c H1 locs1 (cells + mc) (slots + ms) Q (F0 m (pc + 3) ls (.int r :: rest))) : W p l e R s m args below meth c H locs cells slots Q (F0 m pc ls st0) := by
  intro T hT X
  rcases hr T hT X with ⟨v, st₀, t, T', L, h0, X', hL, e1, e2, ⟨⟨r, u, hv, hp, hb⟩, hF⟩, st⟩ | ⟨q, st₀, t, T', L, E, ce, h0, X', hL, e1, e2, ⟨u, hp, hb, hF⟩, hce, hcv, hcl, st⟩
  · cases hv
    obtain ⟨k1, k2, k3⟩ := vx_keep h0 e1 hS hA hf hL hF
    obtain ⟨t2, a1, b1⟩ := kk r u t T'.heap (locs ++ L) e1.symm (by rw [← e2]; exact X'.warmed.alike) hp hb k1 k2 k3 T' rfl X'
    exact ⟨t2, st t2 a1, b1⟩
  · obtain ⟨k1, k2, k3⟩ := vx_keep h0 e1 hS hAX hf hL hF
    obtain ⟨t2, a1, b1⟩ := kx E ce q u t T'.heap (locs ++ L) e1.symm (by rw [← e2]; exact X'.warmed.alike) hp hb k1 k2 k3 (by rw [e1]; exact hce) hcv hcl T' rfl X'
    exact ⟨t2, st.trans a1, b1⟩
theorem vx_calll {S SX : Type} {post : Int64 → S → Prop} {px : SX → Prop} {B : S → State → Prop} {BX : String → SX → State → Prop} {AX : Nat → Prop} (hr : vx_Run p l e R s m args below meth c H locs cells slots mc ms (F0 m pc ls st0) rest (va_Ql post B A1 a) (vx_X px BX AX) free) (hS : va_S A0 H0 H locs) (hA : ∀ q, q < H.size → A1 q → A0 q) (hf : ∀ q, free q → A0 q) (hAX : ∀ q, q < H.size → AX q → A0 q)
    (kx : ∀ (E : String) (ce : Cell) (q9 : Addr) (u : SX) (t : State) (H1 : Heap) (locs1 : List Loc), t.heap = H1 → s.vm.Alike t.vm → px u → BX E u t → H.size ≤ H1.size → (∀ q : Nat, q < H.size → ¬ AX q → H1[q]? = H[q]?) → va_S A0 H0 H1 locs1 → H1[q9]? = some ce → ce.vm = .none → s.vm.findClass E = some ce.cls → vx_W p l e R s m args below meth c H1 locs1 (cells + mc) (slots + ms) Q (F0 m pc ls rest) q9)
    (kk : ∀ (r : Int64) (u : S) (t : State) (H1 : Heap) (locs1 : List Loc), t.heap = H1 → s.vm.Alike t.vm → post r u → B u t → H.size ≤ H1.size → (∀ q : Nat, q < H.size → ¬ A1 q → H1[q]? = H[q]?) → va_S A0 H0 H1 locs1 → W p l e R s m args below meth c H1 locs1 (cells + mc) (slots + ms) Q (F0 m (pc + 3) ls (.long r :: rest))) : W p l e R s m args below meth c H locs cells slots Q (F0 m pc ls st0) := by
  intro T hT X
  rcases hr T hT X with ⟨v, st₀, t, T', L, h0, X', hL, e1, e2, ⟨⟨r, u, hv, hp, hb⟩, hF⟩, st⟩ | ⟨q, st₀, t, T', L, E, ce, h0, X', hL, e1, e2, ⟨u, hp, hb, hF⟩, hce, hcv, hcl, st⟩
  · cases hv
    obtain ⟨k1, k2, k3⟩ := vx_keep h0 e1 hS hA hf hL hF
    obtain ⟨t2, a1, b1⟩ := kk r u t T'.heap (locs ++ L) e1.symm (by rw [← e2]; exact X'.warmed.alike) hp hb k1 k2 k3 T' rfl X'
    exact ⟨t2, st t2 a1, b1⟩
  · obtain ⟨k1, k2, k3⟩ := vx_keep h0 e1 hS hAX hf hL hF
    obtain ⟨t2, a1, b1⟩ := kx E ce q u t T'.heap (locs ++ L) e1.symm (by rw [← e2]; exact X'.warmed.alike) hp hb k1 k2 k3 (by rw [e1]; exact hce) hcv hcl T' rfl X'
    exact ⟨t2, st.trans a1, b1⟩
theorem vx_callf {S SX : Type} {post : UInt32 → S → Prop} {px : SX → Prop} {B : S → State → Prop} {BX : String → SX → State → Prop} {AX : Nat → Prop} (hr : vx_Run p l e R s m args below meth c H locs cells slots mc ms (F0 m pc ls st0) rest (va_Qf post B A1 a) (vx_X px BX AX) free) (hS : va_S A0 H0 H locs) (hA : ∀ q, q < H.size → A1 q → A0 q) (hf : ∀ q, free q → A0 q) (hAX : ∀ q, q < H.size → AX q → A0 q)
    (kx : ∀ (E : String) (ce : Cell) (q9 : Addr) (u : SX) (t : State) (H1 : Heap) (locs1 : List Loc), t.heap = H1 → s.vm.Alike t.vm → px u → BX E u t → H.size ≤ H1.size → (∀ q : Nat, q < H.size → ¬ AX q → H1[q]? = H[q]?) → va_S A0 H0 H1 locs1 → H1[q9]? = some ce → ce.vm = .none → s.vm.findClass E = some ce.cls → vx_W p l e R s m args below meth c H1 locs1 (cells + mc) (slots + ms) Q (F0 m pc ls rest) q9)
    (kk : ∀ (r : UInt32) (u : S) (t : State) (H1 : Heap) (locs1 : List Loc), t.heap = H1 → s.vm.Alike t.vm → post r u → B u t → H.size ≤ H1.size → (∀ q : Nat, q < H.size → ¬ A1 q → H1[q]? = H[q]?) → va_S A0 H0 H1 locs1 → W p l e R s m args below meth c H1 locs1 (cells + mc) (slots + ms) Q (F0 m (pc + 3) ls (.float r :: rest))) : W p l e R s m args below meth c H locs cells slots Q (F0 m pc ls st0) := by
  intro T hT X
  rcases hr T hT X with ⟨v, st₀, t, T', L, h0, X', hL, e1, e2, ⟨⟨r, u, hv, hp, hb⟩, hF⟩, st⟩ | ⟨q, st₀, t, T', L, E, ce, h0, X', hL, e1, e2, ⟨u, hp, hb, hF⟩, hce, hcv, hcl, st⟩
  · cases hv
    obtain ⟨k1, k2, k3⟩ := vx_keep h0 e1 hS hA hf hL hF
    obtain ⟨t2, a1, b1⟩ := kk r u t T'.heap (locs ++ L) e1.symm (by rw [← e2]; exact X'.warmed.alike) hp hb k1 k2 k3 T' rfl X'
    exact ⟨t2, st t2 a1, b1⟩
  · obtain ⟨k1, k2, k3⟩ := vx_keep h0 e1 hS hAX hf hL hF
    obtain ⟨t2, a1, b1⟩ := kx E ce q u t T'.heap (locs ++ L) e1.symm (by rw [← e2]; exact X'.warmed.alike) hp hb k1 k2 k3 (by rw [e1]; exact hce) hcv hcl T' rfl X'
    exact ⟨t2, st.trans a1, b1⟩
theorem vx_calld {S SX : Type} {post : UInt64 → S → Prop} {px : SX → Prop} {B : S → State → Prop} {BX : String → SX → State → Prop} {AX : Nat → Prop} (hr : vx_Run p l e R s m args below meth c H locs cells slots mc ms (F0 m pc ls st0) rest (va_Qd post B A1 a) (vx_X px BX AX) free) (hS : va_S A0 H0 H locs) (hA : ∀ q, q < H.size → A1 q → A0 q) (hf : ∀ q, free q → A0 q) (hAX : ∀ q, q < H.size → AX q → A0 q)
    (kx : ∀ (E : String) (ce : Cell) (q9 : Addr) (u : SX) (t : State) (H1 : Heap) (locs1 : List Loc), t.heap = H1 → s.vm.Alike t.vm → px u → BX E u t → H.size ≤ H1.size → (∀ q : Nat, q < H.size → ¬ AX q → H1[q]? = H[q]?) → va_S A0 H0 H1 locs1 → H1[q9]? = some ce → ce.vm = .none → s.vm.findClass E = some ce.cls → vx_W p l e R s m args below meth c H1 locs1 (cells + mc) (slots + ms) Q (F0 m pc ls rest) q9)
    (kk : ∀ (r : UInt64) (u : S) (t : State) (H1 : Heap) (locs1 : List Loc), t.heap = H1 → s.vm.Alike t.vm → post r u → B u t → H.size ≤ H1.size → (∀ q : Nat, q < H.size → ¬ A1 q → H1[q]? = H[q]?) → va_S A0 H0 H1 locs1 → W p l e R s m args below meth c H1 locs1 (cells + mc) (slots + ms) Q (F0 m (pc + 3) ls (.double r :: rest))) : W p l e R s m args below meth c H locs cells slots Q (F0 m pc ls st0) := by
  intro T hT X
  rcases hr T hT X with ⟨v, st₀, t, T', L, h0, X', hL, e1, e2, ⟨⟨r, u, hv, hp, hb⟩, hF⟩, st⟩ | ⟨q, st₀, t, T', L, E, ce, h0, X', hL, e1, e2, ⟨u, hp, hb, hF⟩, hce, hcv, hcl, st⟩
  · cases hv
    obtain ⟨k1, k2, k3⟩ := vx_keep h0 e1 hS hA hf hL hF
    obtain ⟨t2, a1, b1⟩ := kk r u t T'.heap (locs ++ L) e1.symm (by rw [← e2]; exact X'.warmed.alike) hp hb k1 k2 k3 T' rfl X'
    exact ⟨t2, st t2 a1, b1⟩
  · obtain ⟨k1, k2, k3⟩ := vx_keep h0 e1 hS hAX hf hL hF
    obtain ⟨t2, a1, b1⟩ := kx E ce q u t T'.heap (locs ++ L) e1.symm (by rw [← e2]; exact X'.warmed.alike) hp hb k1 k2 k3 (by rw [e1]; exact hce) hcv hcl T' rfl X'
    exact ⟨t2, st.trans a1, b1⟩
theorem vx_callv {S SX : Type} {post : S → Prop} {px : SX → Prop} {B : S → State → Prop} {BX : String → SX → State → Prop} {AX : Nat → Prop} (hr : vx_Run p l e R s m args below meth c H locs cells slots mc ms (F0 m pc ls st0) rest (va_Qv post B A1 a) (vx_X px BX AX) free) (hS : va_S A0 H0 H locs) (hA : ∀ q, q < H.size → A1 q → A0 q) (hf : ∀ q, free q → A0 q) (hAX : ∀ q, q < H.size → AX q → A0 q)
    (kx : ∀ (E : String) (ce : Cell) (q9 : Addr) (u : SX) (t : State) (H1 : Heap) (locs1 : List Loc), t.heap = H1 → s.vm.Alike t.vm → px u → BX E u t → H.size ≤ H1.size → (∀ q : Nat, q < H.size → ¬ AX q → H1[q]? = H[q]?) → va_S A0 H0 H1 locs1 → H1[q9]? = some ce → ce.vm = .none → s.vm.findClass E = some ce.cls → vx_W p l e R s m args below meth c H1 locs1 (cells + mc) (slots + ms) Q (F0 m pc ls rest) q9)
    (kk : ∀ (u : S) (t : State) (H1 : Heap) (locs1 : List Loc), t.heap = H1 → s.vm.Alike t.vm → post u → B u t → H.size ≤ H1.size → (∀ q : Nat, q < H.size → ¬ A1 q → H1[q]? = H[q]?) → va_S A0 H0 H1 locs1 → W p l e R s m args below meth c H1 locs1 (cells + mc) (slots + ms) Q (F0 m (pc + 3) ls (rest))) : W p l e R s m args below meth c H locs cells slots Q (F0 m pc ls st0) := by
  intro T hT X
  rcases hr T hT X with ⟨v, st₀, t, T', L, h0, X', hL, e1, e2, ⟨⟨u, hv, hp, hb⟩, hF⟩, st⟩ | ⟨q, st₀, t, T', L, E, ce, h0, X', hL, e1, e2, ⟨u, hp, hb, hF⟩, hce, hcv, hcl, st⟩
  · cases hv
    obtain ⟨k1, k2, k3⟩ := vx_keep h0 e1 hS hA hf hL hF
    obtain ⟨t2, a1, b1⟩ := kk u t T'.heap (locs ++ L) e1.symm (by rw [← e2]; exact X'.warmed.alike) hp hb k1 k2 k3 T' rfl X'
    exact ⟨t2, st t2 a1, b1⟩
  · obtain ⟨k1, k2, k3⟩ := vx_keep h0 e1 hS hAX hf hL hF
    obtain ⟨t2, a1, b1⟩ := kx E ce q u t T'.heap (locs ++ L) e1.symm (by rw [← e2]; exact X'.warmed.alike) hp hb k1 k2 k3 (by rw [e1]; exact hce) hcv hcl T' rfl X'
    exact ⟨t2, st.trans a1, b1⟩
/-- caught by the row x of this method's table; the rows ahead don't take it -/
theorem vx_catch {own name : String} {E : String} {ce : Cell} {q : Addr} (hown : s.vm.findClass own = some m.cls) (pre : List ExceptionTableEntry) (x : ExceptionTableEntry) (suf : List ExceptionTableEntry) (hsplit : c.exceptionTable.toList = pre ++ x :: suf)
    (hpass : ∀ z ∈ pre, covers z pc = false ∨ (z.catchType ≠ 0 ∧ ∃ nm : String, (Cond.classLink own z.catchType nm).before args s = true ∧ va_Nc E nm s)) (hx : covers x pc = true) (h0 : x.catchType ≠ 0)
    (hlink : (Cond.classLink own x.catchType name).before args s = true) (hcast : (Cond.castable E name).before args s = true) (hcell : H[q]? = some ce) (hv : ce.vm = .none) (hcl : s.vm.findClass E = some ce.cls)
    (kk : W p l e R s m args below meth c H locs cells slots Q (F0 m x.handlerPc ls [.ref q])) : vx_W p l e R s m args below meth c H locs cells slots Q (F0 m pc ls rest) q := by
  intro T hT X
  have hpl : e.platform.magicAccessors = ({} : Platform).magicAccessors := by rw [X.admits.platform]
  obtain ⟨c3, c4, hc3, hc4, hasg⟩ := Cond.castable_spec hcast
  cases Option.some.inj (hc3.symm.trans hcl)
  obtain ⟨c5, hc5, hcl5⟩ := Cond.classLink_spec hown hlink e.platform hpl
  cases Option.some.inj (hc4.symm.trans hc5)
  obtain ⟨vm', X', st⟩ := X.thenCaughtThrough q (g := F0 m pc ls rest) rfl (Steps.refl _) (by rw [hT]; exact hcell) (by rw [hv]; rfl) (by obtain ⟨k9, h9, -⟩ := Vm.findClass_spec hcl; exact ⟨k9, h9⟩) pre x suf hsplit
    (fun z hz => by
      rcases hpass z hz with h | ⟨hz0, nm, hl1, hn1⟩
      · exact Or.inl h
      · obtain ⟨c6, hc6, hcl6⟩ := Cond.classLink_spec hown hl1 e.platform hpl
        obtain ⟨a8, b8, h1, h2, h3⟩ := hn1
        cases Option.some.inj (h1.symm.trans hcl)
        cases Option.some.inj (h2.symm.trans hc6)
        exact Or.inr ⟨hz0, _, hcl6, h3⟩) hx (Or.inr ⟨h0, c4, hcl5, hasg⟩)
  obtain ⟨t, a1, b1⟩ := kk (T.setVm vm') hT X'
  exact ⟨t, st.trans a1, b1⟩
end Rows
section Ends
variable {p : Program} {l : Launch} {e : Env} {R : Room} {s : State} {m : MethodId} {args : Array Value} {below : List Frame} {meth : Method} {c : Code} {H : Heap} {locs : List Loc} {cells slots : Nat} {Q : State → Prop}
variable {mc ms : Nat} {free : Addr → Prop} {A0 A1 : Nat → Prop} {H0 : Heap} {a : Array Value} {ls : Array Slot} {st0 rest : List Value}
variable {Qc : Array Value → State → Outcome → State → Prop} {XC : String → State → State → Prop}
/-- what a body that may throw owes at its end -/
def vx_MQ (below : List Frame) (Qc : Array Value → State → Outcome → State → Prop) (XC : String → State → State → Prop) (a : Array Value) (s : State) (mc ms : Nat) (free : Addr → Prop) : State → Prop := fun t =>
  ∃ o, t.status = .running ∧ Ended t below o ∧ vx_Q Qc XC mc ms free a s o t
theorem vx_ret {g : JFrame} {mc ms : Nat} (k : W p l e R s m args below meth c H locs cells slots (MQ below Qc args s mc ms free) g) : W p l e R s m args below meth c H locs cells slots (vx_MQ below Qc XC args s mc ms free) g := by
  intro T hT X
  obtain ⟨t, a1, o, b1, b2, b3, b4⟩ := k T hT X
  exact ⟨t, a1, o, b1, b2, Or.inl ⟨b3, b4⟩⟩
/-- not caught here: it goes on to the caller -/
theorem vx_widen {g : JFrame} {q : Addr} {k n : Nat} (h1 : cells ≤ k) (h2 : slots ≤ n) (kk : vx_W p l e R s m args below meth c H locs k n Q g q) : vx_W p l e R s m args below meth c H locs cells slots Q g q := fun T hT X => kk T hT (stand_widen X h1 h2)
theorem vx_out {pc : Nat} {E : String} {ce : Cell} {q : Addr} {mc ms : Nat} (hout : ∀ x ∈ c.exceptionTable.toList, covers x pc = false) (hlocks : meth.locks = false) (hcell : H[q]? = some ce) (hv : ce.vm = .none) (hcl : s.vm.findClass E = some ce.cls)
    (hx : ∀ t : State, t.heap = H → s.vm.Alike t.vm → XC E s t) (hf : ∀ z ∈ locs, free z.base) (hc : cells ≤ mc) (hs : slots ≤ ms) :
    vx_W p l e R s m args below meth c H locs cells slots (vx_MQ below Qc XC args s mc ms free) (F0 m pc ls rest) q := by
  intro T hT X
  obtain ⟨st1, hrun, hend, hW, hsm⟩ := X.leaveThrown q (g := F0 m pc ls rest) rfl rfl rfl hout hlocks
  have hcell9 : (T.setFrames (.throwing q :: below)).heap[q]? = some ce := by
    show T.heap[q]? = some ce
    rw [hT]; exact hcell
  exact ⟨_, st1, .threw q, hrun, hend, Or.inr ⟨q, rfl, E, ce, locs, hx _ hT hW.alike, hcell9, hv, hcl, hW, hsm.mono hc hs, hf⟩⟩
theorem vx_frame {U : State} {k n : Nat} (h : s.sameButNew ({ U with vm := s.vm } : State) locs k n) : s.heap.size ≤ U.heap.size ∧ ∀ q : Nat, q < s.heap.size → (∀ z ∈ locs, z.base ≠ q) → U.heap[q]? = s.heap[q]? := by
  obtain ⟨-, h2, -, -, -, h6⟩ := h
  refine ⟨h2, fun q hq hz => ?_⟩
  obtain ⟨c9, e1, e2, e3, e4⟩ := h6 q _ (Array.getElem?_eq_getElem hq)
  have hs : c9.slots = (s.heap[q]).slots := Array.ext_getElem? fun i => e4 i fun hm => hz _ hm rfl
  have h9 : c9 = s.heap[q] := by
    rw [hs] at e2
    exact e2
  have e5 : U.heap[q]? = some c9 := e1
  rw [e5, h9, Array.getElem?_eq_getElem hq]
/-- the words of a throw but the four that speak of the heap -/
def vx_no (w : Cond) : Bool := decide (w ≠ .isRef (.static Bundle.tN "UNASSIGNED_STACK" Bundle.steD)) && decide (w ≠ .isRef (.static Bundle.tN "SUPPRESSED_SENTINEL" Bundle.listD)) && decide (w ≠ .laysStatic Bundle.tN "UNASSIGNED_STACK" Bundle.steD) && decide (w ≠ .laysStatic Bundle.tN "SUPPRESSED_SENTINEL" Bundle.listD)
def vx_at0 (own : String) (ic : Nat) (X : String) (names : List String) : List Cond := (Bundle.ownAtoms0 own ic X names).filter vx_no
def vx_atS (own : String) (ic : Nat) (X : String) (names : List String) : List Cond := (Bundle.ownAtoms own ic X names).filter vx_no
/-- a word that the tables alone decide, or a good one -/
def vx_ot (w : Cond) : Bool := w.onTables || goodWord w
theorem vx_ot_at {args a' : Array Value} {s U : State} {w : Cond} (hW : s.WarmedH U.vm) (hvm : s.vm = U.vm) (hg : vx_ot w = true) (h : w.before args s = true) : w.before a' U = true := by
  simp only [vx_ot, Bool.or_eq_true] at hg
  rcases hg with hg | hg
  · exact va_tabs hg hvm h
  · exact word_at hW (good_of_word hg) h
/-- a list's words: the good ones out of the method's own list, the others by premises of their own -/
theorem vx_hat {args : Array Value} {s : State} {L B : List Cond} (h1 : ∀ w ∈ L.filter goodWord, w.before args s = true) (h2 : ∀ w ∈ L.filter (fun w => !goodWord w), w ∈ B) (h3 : ∀ w ∈ B, w.before args s = true) : ∀ w ∈ L, w.before args s = true := by
  intro w hw
  by_cases g : goodWord w = true
  · exact h1 w (List.mem_filter.mpr ⟨hw, g⟩)
  · refine h3 w (h2 w (List.mem_filter.mpr ⟨hw, ?_⟩))
    show (!goodWord w) = true
    cases hgw : goodWord w
    · rfl
    · exact absurd hgw g
theorem vx_c {args : Array Value} {s : State} {w : Cond} {B : List Cond} (h : w.before args s = true) (t : ∀ w ∈ B, w.before args s = true) : ∀ w' ∈ w :: B, w'.before args s = true := fun w' h' => (List.mem_cons.mp h').elim (fun e => by rw [e]; exact h) (t w')
theorem vx_n {args : Array Value} {s : State} : ∀ w ∈ ([] : List Cond), w.before args s = true := fun _ h => nomatch h
theorem vx_own {args : Array Value} {s : State} {L : List Cond} (h1 : ∀ w ∈ L.filter vx_no, w.before args s = true)
    (hU : (Cond.isRef (.static Bundle.tN "UNASSIGNED_STACK" Bundle.steD)).before args s = true) (hN : (Cond.isRef (.static Bundle.tN "SUPPRESSED_SENTINEL" Bundle.listD)).before args s = true)
    (lU : (Cond.laysStatic Bundle.tN "UNASSIGNED_STACK" Bundle.steD).before args s = true) (lN : (Cond.laysStatic Bundle.tN "SUPPRESSED_SENTINEL" Bundle.listD).before args s = true) : ∀ w ∈ L, w.before args s = true := by
  intro w hw
  by_cases e1 : w = .isRef (.static Bundle.tN "UNASSIGNED_STACK" Bundle.steD)
  · rw [e1]; exact hU
  · by_cases e2 : w = .isRef (.static Bundle.tN "SUPPRESSED_SENTINEL" Bundle.listD)
    · rw [e2]; exact hN
    · by_cases e3 : w = .laysStatic Bundle.tN "UNASSIGNED_STACK" Bundle.steD
      · rw [e3]; exact lU
      · by_cases e4 : w = .laysStatic Bundle.tN "SUPPRESSED_SENTINEL" Bundle.listD
        · rw [e4]; exact lN
        · exact h1 w (List.mem_filter.mpr ⟨hw, by unfold vx_no; rw [decide_eq_true e1, decide_eq_true e2, decide_eq_true e3, decide_eq_true e4]; rfl⟩)
/-- where a static field lies, its class's statics cell in H -/
def vx_L (C n d : String) (A : Nat → Prop) (U : State) (H : Heap) : Prop := ∃ (c : ClassId) (k : Class) (i : Nat) (f : Field) (a : Nat) (cell : Cell), U.vm.findClass C = some c ∧ U.fieldFound? C n d = some (c, k, i, f) ∧ f.isStatic = true ∧ k.statics = some a ∧ H[a]? = some cell ∧ cell.vm.isStatics = true ∧ cell.cls = c ∧ f.slot < cell.slots.size ∧ k.staticTypes[f.slot]? = some f.type ∧ ¬ A a
theorem vx_L.moved {C n d : String} {A : Nat → Prop} {u U : State} {H : Heap} (hvm : u.vm.Alike U.vm) (h : vx_L C n d A u H) : vx_L C n d A U H := by
  obtain ⟨c, k, i, f, a, cell, h1, h2, h3, h4, h5, h6, h7, h8, h9, h10⟩ := h
  obtain ⟨k', hi', he⟩ := State.fieldFound?_setVm hvm h2
  exact ⟨c, k', i, f, a, cell, by rw [hvm.findClass]; exact h1, hi', h3, by rw [he]; exact h4, h5, h6, h7, h8, by rw [he]; exact h9, h10⟩
theorem vx_L.kept {C n d : String} {A : Nat → Prop} {U : State} {H H1 : Heap} (h : vx_L C n d A U H) (hq : ∀ a : Nat, a < H.size → ¬ A a → H1[a]? = H[a]?) : vx_L C n d A U H1 := by
  obtain ⟨c, k, i, f, a, cell, h1, h2, h3, h4, h5, h6, h7, h8, h9, h10⟩ := h
  exact ⟨c, k, i, f, a, cell, h1, h2, h3, h4, by rw [hq a (Array.getElem?_eq_some_iff.mp h5).1 h10]; exact h5, h6, h7, h8, h9, h10⟩
theorem vx_L.narrow {C n d : String} {A B : Nat → Prop} {U : State} {H : Heap} (h : vx_L C n d A U H) (hAB : ∀ q, B q → A q) : vx_L C n d B U H := by
  obtain ⟨c, k, i, f, a, cell, h1, h2, h3, h4, h5, h6, h7, h8, h9, h10⟩ := h
  exact ⟨c, k, i, f, a, cell, h1, h2, h3, h4, h5, h6, h7, h8, h9, fun z => h10 (hAB _ z)⟩
theorem vx_L.word {C n d : String} {A : Nat → Prop} {s : State} {args : Array Value} (h : vx_L C n d A s s.heap) : (Cond.laysStatic C n d).before args s = true := by
  obtain ⟨c, k, i, f, a, cell, h1, h2, h3, h4, h5, h6, h7, h8, h9, -⟩ := h
  show (Cond.laysStatic C n d).holds args s none s [] = true
  exact Cond.laysStatic_of h1 h2 h3 h4 h5 h6 h7 h8 h9
/-- .. and what it holds: null or some reference -/
def vx_Zq (C n d : String) (A : Nat → Prop) (U : State) (H : Heap) : Prop := va_Zq C n d A U H ∧ vx_L C n d A U H
theorem vx_Zq.moved {C n d : String} {A : Nat → Prop} {u U : State} {H : Heap} (hvm : u.vm.Alike U.vm) (h : vx_Zq C n d A u H) : vx_Zq C n d A U H := ⟨va_Zq.moved hvm h.1, vx_L.moved hvm h.2⟩
theorem vx_Zq.kept {C n d : String} {A : Nat → Prop} {U : State} {H H1 : Heap} (h : vx_Zq C n d A U H) (hq : ∀ a : Nat, a < H.size → ¬ A a → H1[a]? = H[a]?) : vx_Zq C n d A U H1 := ⟨va_Zq.kept h.1 hq, vx_L.kept h.2 hq⟩
theorem vx_Zq.narrow {C n d : String} {A B : Nat → Prop} {U : State} {H : Heap} (h : vx_Zq C n d A U H) (hAB : ∀ q, B q → A q) : vx_Zq C n d B U H := ⟨va_Zq.narrow h.1 hAB, vx_L.narrow h.2 hAB⟩
theorem vx_Zqof {args : Array Value} {s : State} {C n d : String} {A : Nat → Prop} (hl : (Cond.laysStatic C n d).before args s = true) (hini : (Cond.initialized C).before args s = true) (h : (Cond.isRef (.static C n d)).before args s = true) (hA : ∀ a : Nat, a < s.heap.size → ¬ A a) : vx_Zq C n d A s s.heap := by
  refine ⟨va_Zqof hl hini h hA, ?_⟩
  obtain ⟨c, k, i, f, a, cell, h1, h2, h3, h4, h5, h6, h7, h8, h9⟩ := Cond.laysStatic_spec hl
  exact ⟨c, k, i, f, a, cell, h1, h2, h3, h4, h5, h6, h7, h8, h9, hA a (Array.getElem?_eq_some_iff.mp h5).1⟩
theorem vx_isRef {C n d : String} {v : Value} {A : Nat → Prop} {s : State} {args : Array Value} (h : va_Z C n d v A s s.heap) (hv : v.isRef = true) : (Cond.isRef (.static C n d)).before args s = true := by
  obtain ⟨cf, kf, fi, f, a, cell, h1, h2, h3, h4, h5, h6, h7, -⟩ := h
  have he : (Term.static C n d).eval args s none [] s = some v := by
    simp [Term.eval, State.fieldNamed?, h1, h2, h4, h5, h6, h7]
  simp only [Cond.before, Cond.holds, Cond.value, he]
  cases v <;> simp_all [Value.isRef]
theorem vx_isRefq {C n d : String} {A : Nat → Prop} {s : State} {args : Array Value} (h : va_Zq C n d A s s.heap) : (Cond.isRef (.static C n d)).before args s = true := by
  rcases h with h | ⟨t, h⟩
  · exact vx_isRef h rfl
  · exact vx_isRef h rfl
/-- the same frame, seen from here: as if the method were called anew in this heap -/
theorem vx_rebase {T : State} (X : Stand p l e R s m args below meth c T locs cells slots) {R' : Room} (hf : R'.frames ≤ R.frames) (hl : R'.locals ≤ R.locals) (hc : cells + R'.cells ≤ R.cells) (hs : slots + R'.slots ≤ R.slots) :
    Stand p l e R' ((T.setVm s.vm).setFrames (.invoking m args :: below)) m args below meth c T [] 0 0 := by
  have htop : (T.setVm s.vm).topJava?.isSome := X.here.top
  have hF : ((T.setVm s.vm).setFrames (.invoking m args :: below)).frames = .invoking m args :: below := State.frames_setFrames _ (State.cur_lt_of_top htop)
  obtain ⟨g₀, hg0⟩ := Option.isSome_iff_exists.mp htop
  obtain ⟨r, hr⟩ := State.topJava?_eq_some.mp hg0
  have hl9 : e.platform.stackLimits (T.setVm s.vm).me = e.platform.stackLimits s.me := X.limits
  have hb9 : (T.setVm s.vm).me.stackBytes = s.me.stackBytes := X.bytes
  refine ⟨X.admits, X.cas, X.clock, hF, ?_, X.hears, X.method, X.code, X.here, X.tail, X.warmed, ?_, ?_, ?_⟩
  · have h := X.room
    have hU : ((T.setVm s.vm).setFrames (.invoking m args :: below)).localsInUse = s.localsInUse := by
      rw [State.localsInUse_invoking hF (meth := meth) (c := c) X.method X.code, State.localsInUse_invoking X.frames X.method X.code]
    simp only [State.hasRoom, Bool.and_eq_true, decide_eq_true_eq] at h ⊢
    obtain ⟨⟨⟨⟨h1, h2, h3, h4, h5, h6⟩, h7⟩, h8⟩, h9⟩ := h
    rw [X.frames, List.length_cons] at h2 h3
    have q1 := X.heapSize
    have q2 := X.used
    simp only [hF, hU, List.length_cons, State.stackLimits_setFrames, State.stackBytes_setFrames, hl9, hb9]
    refine ⟨⟨⟨⟨by omega, by omega, by omega, by omega, by omega, h6⟩, ?_⟩, ?_⟩, X.book⟩
    · show T.heap.size + R'.cells ≤ e.platform.maxCells
      omega
    · show T.slotsUsed + R'.slots ≤ e.platform.maxSlots
      omega
  · rw [State.stackLimits_setFrames]; rfl
  · rw [State.stackBytes_setFrames]; rfl
  · refine ⟨?_, Nat.le_refl _, Nat.le_refl _, ?_, ?_, fun a c9 h9 => ⟨c9, h9, rfl, rfl, fun _ _ => rfl⟩⟩
    · obtain ⟨t, ht, -⟩ := State.frames_cons hr
      show T.setVm s.vm = { ((T.setVm s.vm).setFrames (.invoking m args :: below)).setFrames (T.setVm s.vm).frames with heap := T.heap, slotsUsed := T.slotsUsed }
      rw [State.setFrames_setFrames, State.setFrames_self ht]
      rfl
    · show T.slotsUsed = T.slotsUsed + ((T.heap.toList.drop T.heap.size).map (·.slots.size)).sum
      rw [List.drop_eq_nil_of_le (Nat.le_of_eq Array.length_toList)]
      rfl
    · show ((T.heap.toList.drop T.heap.size).map (·.slots.size)).sum ≤ 0
      rw [List.drop_eq_nil_of_le (Nat.le_of_eq Array.length_toList)]
      exact Nat.le_refl _
/-- 'throw new E()': new; dup; invokespecial; athrow -/
theorem vx_throw0 {cc : ByteArray} {pc : Nat} (hexec : p.tables.exec = Jvm.exec) (hb : c.code = cc) (hl : l.stackTraces = false) {own cls : String} {names : List String} {ik ic mc ms : Nat} {A : Nat → Prop}
    (hown : s.vm.findClass own = some m.cls) (hcls : Bundle.fit cls = true) (hnames : ∀ n ∈ names, Bundle.fit n = true)
    (hk : (Cond.classLink own ik cls).before args s = true) (hini : (Cond.initialized cls).before args s = true) (hat : ∀ w ∈ vx_at0 own ic cls names, w.before args s = true)
    (hgood : ∀ w ∈ Cond.classLink own ik cls :: Cond.initialized cls :: vx_at0 own ic cls names, vx_ot w = true)
    (hU : vx_Zq Bundle.tN "UNASSIGNED_STACK" Bundle.steD A s s.heap) (hN : vx_Zq Bundle.tN "SUPPRESSED_SENTINEL" Bundle.listD A s s.heap) (hS : va_S A s.heap H locs) (hsize : ls.size = c.maxLocals)
    (d0 : decode cc pc = .ok (.new ik, 3)) (d3 : decode cc (pc + 3) = .ok (.dup, 1)) (d4 : decode cc (pc + 4) = .ok (.invokespecial ic, 3)) (d7 : decode cc (pc + 7) = .ok (.athrow, 1))
    (hout : ∀ x ∈ c.exceptionTable.toList, covers x (pc + 7) = false)
    (hRframes : names.length + 3 < R.frames) (hRlocals : (rest.map fun v => v.category).sum + (13 * (names.length + 1) + 42) ≤ R.locals) (hRcells : cells + 1 ≤ R.cells) (hRslots : slots + 6 ≤ R.slots) (hlocks : meth.locks = false)
    (hx : ∀ t : State, s.vm.Alike t.vm → H.size ≤ t.heap.size → (∀ q : Nat, q < H.size → t.heap[q]? = H[q]?) → XC cls s t)
    (hf : ∀ z ∈ locs, free z.base) (hc : cells + 1 ≤ mc) (hs : slots + 6 ≤ ms) :
    W p l e R s m args below meth c H locs cells slots (vx_MQ below Qc XC args s mc ms free) (F0 m pc ls rest) := by
  intro T hT X
  have htr : e.platform.stackTraces = false := (show e.platform.stackTraces = l.stackTraces by rw [X.admits.platform]).trans hl
  have Y := vx_rebase X (R' := { frames := R.frames, locals := R.locals, cells := 1, slots := 6 }) (Nat.le_refl _) (Nat.le_refl _) hRcells hRslots
  obtain ⟨s', hA⟩ : ∃ z, z = (T.setVm s.vm).setFrames (.invoking m args :: below) := ⟨_, rfl⟩
  rw [← hA] at Y
  have hvm : s'.vm = s.vm := by rw [hA]; rfl
  have hhp : s'.heap = H := by rw [hA]; exact hT
  have hW0 : s.WarmedH s'.vm := by rw [hvm]; exact State.WarmedH.refl s
  have hat' : ∀ w ∈ vx_at0 own ic cls names, w.before args s' = true := fun w hw => vx_ot_at hW0 hvm.symm (hgood w (List.mem_cons_of_mem _ (List.mem_cons_of_mem _ hw))) (hat w hw)
  have hk' : (Cond.classLink own ik cls).before args s' = true := vx_ot_at hW0 hvm.symm (hgood _ List.mem_cons_self) hk
  have hini' : (Cond.initialized cls).before args s' = true := vx_ot_at hW0 hvm.symm (hgood _ (List.mem_cons_of_mem _ List.mem_cons_self)) hini
  have hU' : vx_Zq Bundle.tN "UNASSIGNED_STACK" Bundle.steD A s' s'.heap := by rw [hhp]; exact vx_Zq.moved hW0.alike (hU.kept hS.2.1)
  have hN' : vx_Zq Bundle.tN "SUPPRESSED_SENTINEL" Bundle.listD A s' s'.heap := by rw [hhp]; exact vx_Zq.moved hW0.alike (hN.kept hS.2.1)
  have h : ∀ w ∈ Bundle.ownAtoms0 own ic cls names, w.before args s' = true := vx_own hat' (vx_isRefq hU'.1) (vx_isRefq hN'.1) hU'.2.word hN'.2.word
  have hown' : s'.vm.findClass own = some m.cls := by rw [hvm]; exact hown
  have hins : (Cond.instantiable cls 6).before args s' = true := h _ (by simp [Bundle.ownAtoms0])
  obtain ⟨vm₁, cX, kX, hfX, hkX, -, -, X₁, st1⟩ := Y.newCold hexec (own := own) (C := cls) (index := ik) (n := 6) hown' hk' hins hini'
    (g := F0 m pc ls rest) rfl (by rw [hb]; exact d0) (Nat.le_refl _) (Nat.le_refl _)
  generalize hT1 : (T.setVm vm₁).pushCell { cls := cX, slots := kX.instanceTypes.map defaultValue, vm := .none } = T1 at X₁ st1
  have hcat : (Value.ref T.heap.size).category = 1 := rfl
  have hcellA : T1.heap[T.heap.size]? = some (freshCell cX kX) := by rw [← hT1]; exact State.heap_pushCell_size _ _
  have d3' : decode c.code (pc + 3) = .ok (.dup, 1) := by rw [hb]; exact d3
  obtain ⟨U, hsteps, hrun, hend, hW, hsame, ce, hce, hO⟩ := X₁.ctorThrow0 hexec htr (own := own) (cls := cls) (names := names) (ic := ic) hown' hcls hnames h (fun x hx => nomatch hx) hfX hkX hcellA (by rw [hhp, hT]; exact Nat.le_refl _)
    (g := { method := m, pc := pc + 4, locals := ls, stack := .ref T.heap.size :: .ref T.heap.size :: rest, locked := none }) rfl hsize rfl rfl (rest := rest) rfl
    (by rw [hb]; exact d4) (by rw [hb]; exact d7) hout hRframes (by simp only [List.map_cons, List.sum_cons, hcat]; omega) hlocks
  obtain ⟨f1, f2⟩ := vx_frame hsame
  rw [hhp] at f1 f2
  have hWs : s.WarmedH U.vm := State.WarmedH.trans hW0 hW
  have hcl : s.vm.findClass cls = some ce.cls := by
    have h9 := hO.cls
    rw [hvm] at h9
    exact h9
  have hall : s.sameButNew ({ U with vm := s.vm } : State) locs mc ms := by
    subst hA
    obtain ⟨e1, e2⟩ := hsame
    rw [State.setFrames_setFrames] at e1
    have h2 : (T.setVm s.vm).sameButNew ({ U with vm := s.vm } : State) [] (0 + 1) (0 + 6) := ⟨e1, e2⟩
    have h3 := X.same.trans h2
    rw [List.append_nil] at h3
    exact h3.mono hc hs
  refine ⟨U, ?_, .threw T.heap.size, hrun, hend, Or.inr ⟨T.heap.size, rfl, cls, ce, locs, hx U hWs.alike f1 (fun q hq => f2 q hq (fun z hz => nomatch hz)), hce, hO.vm, hcl, hWs, hall, hf⟩⟩
  refine st1 _ ?_
  show Steps p.tables e below (T1.setTop { method := m, pc := pc + 3, locals := ls, stack := .ref T.heap.size :: rest, locked := none }) _
  jvm_step X₁.here [X₁.here.top, hexec, d3', Value.category]
  exact hsteps
/-- 'throw new E("text")': new; dup; ldc; invokespecial; athrow -/
theorem vx_throwS {cc : ByteArray} {pc : Nat} (hexec : p.tables.exec = Jvm.exec) (hb : c.code = cc) (hl : l.stackTraces = false) {own cls text : String} {names : List String} {ik is ic mc ms sa : Nat} {A : Nat → Prop}
    (hown : s.vm.findClass own = some m.cls) (hcls : Bundle.fit cls = true) (hnames : ∀ n ∈ names, Bundle.fit n = true)
    (hk : (Cond.classLink own ik cls).before args s = true) (hini : (Cond.initialized cls).before args s = true) (hstr : vk_R own is text sa s) (hat : ∀ w ∈ vx_atS own ic cls names, w.before args s = true)
    (hgood : ∀ w ∈ Cond.classLink own ik cls :: Cond.initialized cls :: vx_atS own ic cls names, vx_ot w = true)
    (hU : vx_Zq Bundle.tN "UNASSIGNED_STACK" Bundle.steD A s s.heap) (hN : vx_Zq Bundle.tN "SUPPRESSED_SENTINEL" Bundle.listD A s s.heap) (hS : va_S A s.heap H locs) (hsize : ls.size = c.maxLocals)
    (d0 : decode cc pc = .ok (.new ik, 3)) (d3 : decode cc (pc + 3) = .ok (.dup, 1)) (d4 : decode cc (pc + 4) = .ok (.ldc is, 2)) (d6 : decode cc (pc + 6) = .ok (.invokespecial ic, 3)) (d9 : decode cc (pc + 9) = .ok (.athrow, 1))
    (hout : ∀ x ∈ c.exceptionTable.toList, covers x (pc + 9) = false)
    (hRframes : names.length + 3 < R.frames) (hRlocals : (rest.map fun v => v.category).sum + (13 * (names.length + 1) + 43) ≤ R.locals) (hRcells : cells + 1 ≤ R.cells) (hRslots : slots + 6 ≤ R.slots) (hlocks : meth.locks = false)
    (hx : ∀ t : State, s.vm.Alike t.vm → H.size ≤ t.heap.size → (∀ q : Nat, q < H.size → t.heap[q]? = H[q]?) → XC cls s t)
    (hf : ∀ z ∈ locs, free z.base) (hc : cells + 1 ≤ mc) (hs : slots + 6 ≤ ms) :
    W p l e R s m args below meth c H locs cells slots (vx_MQ below Qc XC args s mc ms free) (F0 m pc ls rest) := by
  intro T hT X
  have htr : e.platform.stackTraces = false := (show e.platform.stackTraces = l.stackTraces by rw [X.admits.platform]).trans hl
  have Y := vx_rebase X (R' := { frames := R.frames, locals := R.locals, cells := 1, slots := 6 }) (Nat.le_refl _) (Nat.le_refl _) hRcells hRslots
  obtain ⟨s', hA⟩ : ∃ z, z = (T.setVm s.vm).setFrames (.invoking m args :: below) := ⟨_, rfl⟩
  rw [← hA] at Y
  have hvm : s'.vm = s.vm := by rw [hA]; rfl
  have hhp : s'.heap = H := by rw [hA]; exact hT
  have hW0 : s.WarmedH s'.vm := by rw [hvm]; exact State.WarmedH.refl s
  have hat' : ∀ w ∈ vx_atS own ic cls names, w.before args s' = true := fun w hw => vx_ot_at hW0 hvm.symm (hgood w (List.mem_cons_of_mem _ (List.mem_cons_of_mem _ hw))) (hat w hw)
  have hk' : (Cond.classLink own ik cls).before args s' = true := vx_ot_at hW0 hvm.symm (hgood _ List.mem_cons_self) hk
  have hini' : (Cond.initialized cls).before args s' = true := vx_ot_at hW0 hvm.symm (hgood _ (List.mem_cons_of_mem _ List.mem_cons_self)) hini
  have hU' : vx_Zq Bundle.tN "UNASSIGNED_STACK" Bundle.steD A s' s'.heap := by rw [hhp]; exact vx_Zq.moved hW0.alike (hU.kept hS.2.1)
  have hN' : vx_Zq Bundle.tN "SUPPRESSED_SENTINEL" Bundle.listD A s' s'.heap := by rw [hhp]; exact vx_Zq.moved hW0.alike (hN.kept hS.2.1)
  have h : ∀ w ∈ Bundle.ownAtoms own ic cls names, w.before args s' = true := vx_own hat' (vx_isRefq hU'.1) (vx_isRefq hN'.1) hU'.2.word hN'.2.word
  have hown' : s'.vm.findClass own = some m.cls := by rw [hvm]; exact hown
  have hins : (Cond.instantiable cls 6).before args s' = true := h _ (by simp [Bundle.ownAtoms])
  obtain ⟨vm₁, cX, kX, hfX, hkX, -, -, X₁, st1⟩ := Y.newCold hexec (own := own) (C := cls) (index := ik) (n := 6) hown' hk' hins hini'
    (g := F0 m pc ls rest) rfl (by rw [hb]; exact d0) (Nat.le_refl _) (Nat.le_refl _)
  generalize hT1 : (T.setVm vm₁).pushCell { cls := cX, slots := kX.instanceTypes.map defaultValue, vm := .none } = T1 at X₁ st1
  have hcat : (Value.ref T.heap.size).category = 1 := rfl
  have hcellA : T1.heap[T.heap.size]? = some (freshCell cX kX) := by rw [← hT1]; exact State.heap_pushCell_size _ _
  have d3' : decode c.code (pc + 3) = .ok (.dup, 1) := by rw [hb]; exact d3
  have d4' : decode c.code (pc + 4) = .ok (.ldc is, 2) := by rw [hb]; exact d4
  have hstr' : vk_R own is text sa s' := vk_R.warm hW0 hstr
  obtain ⟨U, hsteps, hrun, hend, hW, hsame, ce, hce, hO⟩ := X₁.ctorThrowS hexec htr (own := own) (cls := cls) (names := names) (ic := ic) hown' hcls hnames h (fun x hx => nomatch hx) hfX hkX hcellA (by rw [hhp, hT]; exact Nat.le_refl _) (msg := .ref sa) rfl
    (g := { method := m, pc := pc + 6, locals := ls, stack := .ref sa :: .ref T.heap.size :: .ref T.heap.size :: rest, locked := none }) rfl hsize rfl rfl (rest := rest) rfl
    (by rw [hb]; exact d6) (by rw [hb]; exact d9) hout hRframes (by simp only [List.map_cons, List.sum_cons, hcat]; omega) hlocks
  obtain ⟨f1, f2⟩ := vx_frame hsame
  rw [hhp] at f1 f2
  have hWs : s.WarmedH U.vm := State.WarmedH.trans hW0 hW
  have hcl : s.vm.findClass cls = some ce.cls := by
    have h9 := hO.cls
    rw [hvm] at h9
    exact h9
  have hall : s.sameButNew ({ U with vm := s.vm } : State) locs mc ms := by
    subst hA
    obtain ⟨e1, e2⟩ := hsame
    rw [State.setFrames_setFrames] at e1
    have h2 : (T.setVm s.vm).sameButNew ({ U with vm := s.vm } : State) [] (0 + 1) (0 + 6) := ⟨e1, e2⟩
    have h3 := X.same.trans h2
    rw [List.append_nil] at h3
    exact h3.mono hc hs
  refine ⟨U, ?_, .threw T.heap.size, hrun, hend, Or.inr ⟨T.heap.size, rfl, cls, ce, locs, hx U hWs.alike f1 (fun q hq => f2 q hq (fun z hz => nomatch hz)), hce, hO.vm, hcl, hWs, hall, hf⟩⟩
  refine st1 _ ?_
  show Steps p.tables e below (T1.setTop { method := m, pc := pc + 3, locals := ls, stack := .ref T.heap.size :: rest, locked := none }) _
  jvm_step X₁.here [X₁.here.top, hexec, d3', Value.category]
  exact X₁.ldcString hexec (own := own) (text := text) (index := is) (a := sa) hown' hstr'.1 hstr'.2
    (g := { method := m, pc := pc + 4, locals := ls, stack := .ref T.heap.size :: .ref T.heap.size :: rest, locked := none }) rfl d4' _ hsteps
/-- 'throw new E("text")', the text by a wide index -/
theorem vx_throwSW {cc : ByteArray} {pc : Nat} (hexec : p.tables.exec = Jvm.exec) (hb : c.code = cc) (hl : l.stackTraces = false) {own cls text : String} {names : List String} {ik is ic mc ms sa : Nat} {A : Nat → Prop}
    (hown : s.vm.findClass own = some m.cls) (hcls : Bundle.fit cls = true) (hnames : ∀ n ∈ names, Bundle.fit n = true)
    (hk : (Cond.classLink own ik cls).before args s = true) (hini : (Cond.initialized cls).before args s = true) (hstr : vk_R own is text sa s) (hat : ∀ w ∈ vx_atS own ic cls names, w.before args s = true)
    (hgood : ∀ w ∈ Cond.classLink own ik cls :: Cond.initialized cls :: vx_atS own ic cls names, vx_ot w = true)
    (hU : vx_Zq Bundle.tN "UNASSIGNED_STACK" Bundle.steD A s s.heap) (hN : vx_Zq Bundle.tN "SUPPRESSED_SENTINEL" Bundle.listD A s s.heap) (hS : va_S A s.heap H locs) (hsize : ls.size = c.maxLocals)
    (d0 : decode cc pc = .ok (.new ik, 3)) (d3 : decode cc (pc + 3) = .ok (.dup, 1)) (d4 : decode cc (pc + 4) = .ok (.ldc_w is, 3)) (d7 : decode cc (pc + 7) = .ok (.invokespecial ic, 3)) (d10 : decode cc (pc + 10) = .ok (.athrow, 1))
    (hout : ∀ x ∈ c.exceptionTable.toList, covers x (pc + 10) = false)
    (hRframes : names.length + 3 < R.frames) (hRlocals : (rest.map fun v => v.category).sum + (13 * (names.length + 1) + 43) ≤ R.locals) (hRcells : cells + 1 ≤ R.cells) (hRslots : slots + 6 ≤ R.slots) (hlocks : meth.locks = false)
    (hx : ∀ t : State, s.vm.Alike t.vm → H.size ≤ t.heap.size → (∀ q : Nat, q < H.size → t.heap[q]? = H[q]?) → XC cls s t)
    (hf : ∀ z ∈ locs, free z.base) (hc : cells + 1 ≤ mc) (hs : slots + 6 ≤ ms) :
    W p l e R s m args below meth c H locs cells slots (vx_MQ below Qc XC args s mc ms free) (F0 m pc ls rest) := by
  intro T hT X
  have htr : e.platform.stackTraces = false := (show e.platform.stackTraces = l.stackTraces by rw [X.admits.platform]).trans hl
  have Y := vx_rebase X (R' := { frames := R.frames, locals := R.locals, cells := 1, slots := 6 }) (Nat.le_refl _) (Nat.le_refl _) hRcells hRslots
  obtain ⟨s', hA⟩ : ∃ z, z = (T.setVm s.vm).setFrames (.invoking m args :: below) := ⟨_, rfl⟩
  rw [← hA] at Y
  have hvm : s'.vm = s.vm := by rw [hA]; rfl
  have hhp : s'.heap = H := by rw [hA]; exact hT
  have hW0 : s.WarmedH s'.vm := by rw [hvm]; exact State.WarmedH.refl s
  have hat' : ∀ w ∈ vx_atS own ic cls names, w.before args s' = true := fun w hw => vx_ot_at hW0 hvm.symm (hgood w (List.mem_cons_of_mem _ (List.mem_cons_of_mem _ hw))) (hat w hw)
  have hk' : (Cond.classLink own ik cls).before args s' = true := vx_ot_at hW0 hvm.symm (hgood _ List.mem_cons_self) hk
  have hini' : (Cond.initialized cls).before args s' = true := vx_ot_at hW0 hvm.symm (hgood _ (List.mem_cons_of_mem _ List.mem_cons_self)) hini
  have hU' : vx_Zq Bundle.tN "UNASSIGNED_STACK" Bundle.steD A s' s'.heap := by rw [hhp]; exact vx_Zq.moved hW0.alike (hU.kept hS.2.1)
  have hN' : vx_Zq Bundle.tN "SUPPRESSED_SENTINEL" Bundle.listD A s' s'.heap := by rw [hhp]; exact vx_Zq.moved hW0.alike (hN.kept hS.2.1)
  have h : ∀ w ∈ Bundle.ownAtoms own ic cls names, w.before args s' = true := vx_own hat' (vx_isRefq hU'.1) (vx_isRefq hN'.1) hU'.2.word hN'.2.word
  have hown' : s'.vm.findClass own = some m.cls := by rw [hvm]; exact hown
  have hins : (Cond.instantiable cls 6).before args s' = true := h _ (by simp [Bundle.ownAtoms])
  obtain ⟨vm₁, cX, kX, hfX, hkX, -, -, X₁, st1⟩ := Y.newCold hexec (own := own) (C := cls) (index := ik) (n := 6) hown' hk' hins hini'
    (g := F0 m pc ls rest) rfl (by rw [hb]; exact d0) (Nat.le_refl _) (Nat.le_refl _)
  generalize hT1 : (T.setVm vm₁).pushCell { cls := cX, slots := kX.instanceTypes.map defaultValue, vm := .none } = T1 at X₁ st1
  have hcat : (Value.ref T.heap.size).category = 1 := rfl
  have hcellA : T1.heap[T.heap.size]? = some (freshCell cX kX) := by rw [← hT1]; exact State.heap_pushCell_size _ _
  have d3' : decode c.code (pc + 3) = .ok (.dup, 1) := by rw [hb]; exact d3
  have d4' : decode c.code (pc + 4) = .ok (.ldc_w is, 3) := by rw [hb]; exact d4
  have hstr' : vk_R own is text sa s' := vk_R.warm hW0 hstr
  obtain ⟨U, hsteps, hrun, hend, hW, hsame, ce, hce, hO⟩ := X₁.ctorThrowS hexec htr (own := own) (cls := cls) (names := names) (ic := ic) hown' hcls hnames h (fun x hx => nomatch hx) hfX hkX hcellA (by rw [hhp, hT]; exact Nat.le_refl _) (msg := .ref sa) rfl
    (g := { method := m, pc := pc + 7, locals := ls, stack := .ref sa :: .ref T.heap.size :: .ref T.heap.size :: rest, locked := none }) rfl hsize rfl rfl (rest := rest) rfl
    (by rw [hb]; exact d7) (by rw [hb]; exact d10) hout hRframes (by simp only [List.map_cons, List.sum_cons, hcat]; omega) hlocks
  obtain ⟨f1, f2⟩ := vx_frame hsame
  rw [hhp] at f1 f2
  have hWs : s.WarmedH U.vm := State.WarmedH.trans hW0 hW
  have hcl : s.vm.findClass cls = some ce.cls := by
    have h9 := hO.cls
    rw [hvm] at h9
    exact h9
  have hall : s.sameButNew ({ U with vm := s.vm } : State) locs mc ms := by
    subst hA
    obtain ⟨e1, e2⟩ := hsame
    rw [State.setFrames_setFrames] at e1
    have h2 : (T.setVm s.vm).sameButNew ({ U with vm := s.vm } : State) [] (0 + 1) (0 + 6) := ⟨e1, e2⟩
    have h3 := X.same.trans h2
    rw [List.append_nil] at h3
    exact h3.mono hc hs
  refine ⟨U, ?_, .threw T.heap.size, hrun, hend, Or.inr ⟨T.heap.size, rfl, cls, ce, locs, hx U hWs.alike f1 (fun q hq => f2 q hq (fun z hz => nomatch hz)), hce, hO.vm, hcl, hWs, hall, hf⟩⟩
  refine st1 _ ?_
  show Steps p.tables e below (T1.setTop { method := m, pc := pc + 3, locals := ls, stack := .ref T.heap.size :: rest, locked := none }) _
  jvm_step X₁.here [X₁.here.top, hexec, d3', Value.category]
  exact X₁.ldcStringW hexec (own := own) (text := text) (index := is) (a := sa) hown' hstr'.1 hstr'.2
    (g := { method := m, pc := pc + 4, locals := ls, stack := .ref T.heap.size :: .ref T.heap.size :: rest, locked := none }) rfl d4' _ hsteps
end Ends
section Bodies
variable {l : Launch}
theorem vx_ofW {y : MethodName} {ws ws' : List Cond} {rm : Room} {Pc : Array Value → State → Prop} {Qc : Array Value → State → Outcome → State → Prop} {XC : String → State → State → Prop} {mc ms : Nat} {free : Addr → Prop} {cc : ByteArray} {maxL : Nat} {ret : Option FieldType}
    (hy : plainName y.cls = true) (hw : ws = Cond.code y cc maxL ret :: ws')
    (body : ∀ p e s m args below meth c s₁, BodyLoose p l y (headSpec ws rm) cc maxL ret e s m args below meth c s₁ → c.maxLocals = maxL → (∀ x ∈ c.exceptionTable.toList, False) → Pc args s →
      W p l e (headSpec ws rm).room s m args below meth c s.heap [] 0 0 (vx_MQ below Qc XC args s mc ms free) (entryFrame m args maxL)) : vx_Met l y ws rm Pc Qc XC mc ms free := by
  refine MetFree.of_bodyS (code := cc) (maxLocals := maxL) (ret := ret) hy ?_ ?_
  · intro args s m h hn
    obtain ⟨meth, c, h1, h2, h3, h4, h5, h6, -, -⟩ := Cond.code_spec hn (atoms_spec (ws := ws) h _ (by rw [hw]; exact List.mem_cons_self))
    exact ⟨meth, c, h1, h2, h3, h4, h5, h6⟩
  · intro p e s m args below meth c s₁ B hml hP _
    have hh0 : s₁.heap = s.heap := by rw [B.state]; rfl
    have ht : ∀ x ∈ c.exceptionTable.toList, False := by
      obtain ⟨meth9, c9, h1, h2, -, -, -, -, h7, -⟩ := Cond.code_spec B.named (atoms_spec (ws := ws) B.pre _ (by rw [hw]; exact List.mem_cons_self))
      cases Option.some.inj (h1.symm.trans B.method)
      cases Option.some.inj (h2.symm.trans (Stand.of_body B).code)
      intro x hx
      rw [Array.isEmpty_iff.mp h7] at hx
      cases hx
    obtain ⟨t, a1, o, b1, b2, b3⟩ := body p e s m args below meth c s₁ B hml ht hP s₁ hh0 (Stand.of_body B)
    exact ⟨t, o, a1, b1, b2, b3⟩
/-- the table of a body with handlers -/
theorem vx_table {p : Program} {x y : MethodName} {S : Spec} {cc bytes : ByteArray} {maxL maxL' : Nat} {ret ret' : Option FieldType} {e : Env} {s s₁ : State} {m : MethodId} {args : Array Value} {below : List Frame} {meth : Method} {c : Code} {hh : List (Nat × Nat × Nat × Nat)}
    (B : BodyLoose p l y S cc maxL ret e s m args below meth c s₁) (h : (Cond.codeWith y bytes maxL' ret' hh).before args s = true) : c.exceptionTable.toList = tableOf hh := by
  obtain ⟨m9, meth9, c9, hn9, h1, h2, -, -, h6, -⟩ := Cond.codeWith_spec h
  cases Option.some.inj (hn9.symm.trans B.named)
  cases Option.some.inj (h1.symm.trans B.method)
  cases Option.some.inj (h2.symm.trans (Stand.of_body B).code)
  rw [← h6, table_eq]
end Bodies
end VXA
/-! ===== END ===== -/
/-! ===== BEGIN a static call of a method with an exception table ===== -/
section VXS
variable {p : Program} {l : Launch} {e : Env} {R : Room} {s : State} {m : MethodId} {args : Array Value} {below : List Frame} {meth : Method} {c : Code} {T : State} {H : Heap} {locs : List Loc} {cells slots : Nat}
abbrev vx_CSW (R : Room) (s : State) (args : Array Value) (own : String) (index : Nat) (y : MethodName) (bytes : ByteArray) (maxL : Nat) (ret : Option FieldType) (hh : List (Nat × Nat × Nat × Nat)) (ws : List Cond) (rm : Room) (mc ms n : Nat) : Prop :=
  (rm.cells = mc ∧ rm.slots = ms ∧ rm.frames + 1 ≤ R.frames ∧ 8 + (maxL + 11) + rm.locals ≤ R.locals ∧ (∀ w ∈ ws, ∀ (a' : Array Value) (U : State), s.WarmedH U.vm → w.before a' U = true) ∧ Cond.codeWith y bytes maxL ret hh ∈ ws) ∧
  (Cond.codeWith y bytes maxL ret hh).before args s = true ∧ (Cond.initialized y.cls).before args s = true ∧ (y.cls ≠ "java/lang/invoke/MethodHandle" ∧ y.cls ≠ "java/lang/invoke/VarHandle") ∧
  (∀ sig, parseMethodDescriptor y.desc = some sig → n = sig.parameters.length) ∧ (Cond.methodLink own index y).before args s = true ∧ (Cond.static y).before args s = true
theorem vx_cwSW {own : String} {index maxL mc ms : Nat} {y : MethodName} {bytes : ByteArray} {ret : Option FieldType} {hh : List (Nat × Nat × Nat × Nat)} {Ts ws ws' : List Cond} {rm : Room} (n : Nat) (ht : ∀ w ∈ Ts, w.before args s = true) (hT : GoodIn Ts (va_wsS own index y ws)) (hw : ws = Cond.codeWith y bytes maxL ret hh :: ws') (hrc : rm.cells = mc) (hrs : rm.slots = ms)
    (hd : y.cls ≠ "java/lang/invoke/MethodHandle" ∧ y.cls ≠ "java/lang/invoke/VarHandle" ∧ (parseMethodDescriptor y.desc).map (fun d => d.parameters.length) = some n) (hR : rm.frames + 1 ≤ R.frames ∧ 8 + (maxL + 11) + rm.locals ≤ R.locals) :
    vx_CSW R s args own index y bytes maxL ret hh ws rm mc ms n := by
  have ok : ∀ w ∈ va_wsS own index y ws, w.before args s = true := fun w h => ht w (hT w h).1
  have hG : GoodIn Ts ws := fun w h => hT w (by unfold va_wsS; exact List.mem_append_right _ h)
  have hc : Cond.codeWith y bytes maxL ret hh ∈ ws := by rw [hw]; exact List.mem_cons_self
  refine ⟨⟨hrc, hrs, hR.1, hR.2, pay_in ht hG, hc⟩, ht _ (hG _ hc).1, ok _ (by simp [va_wsS]), ⟨hd.1, hd.2.1⟩, fun sig h => ?_, ok _ (by simp [va_wsS]), ok _ (by simp [va_wsS])⟩
  have h2 := hd.2.2
  rw [h] at h2
  exact (Option.some.inj h2).symm
theorem vx_callSW (X : Stand p l e R s m args below meth c T locs cells slots) (hexec : p.tables.exec = Jvm.exec) {own : String} {index : Nat} {y : MethodName} {bytes : ByteArray} {maxL : Nat} {ret : Option FieldType} {hh : List (Nat × Nat × Nat × Nat)}
    (hown : s.vm.findClass own = some m.cls) (hlink : (Cond.methodLink own index y).before args s = true) (hstat : (Cond.static y).before args s = true) (hinit : (Cond.initialized y.cls).before args s = true)
    (hcode : (Cond.codeWith y bytes maxL ret hh).before args s = true) (hy : y.cls ≠ "java/lang/invoke/MethodHandle" ∧ y.cls ≠ "java/lang/invoke/VarHandle")
    {W9 : Nat} {Pre : Pt → Array Value → Prop} {Post : Pt → Array Value → Option Value → Pt → Prop} (hK : Back l R p e below s args y 3 W9 Pre Post)
    {g : JFrame} (hg : g.method = m) (hsize : g.locals.size = c.maxLocals) {argsL rest : List Value} (hlen : ∀ sig, parseMethodDescriptor y.desc = some sig → argsL.length = sig.parameters.length)
    (hstack : g.stack = argsL.reverse ++ rest) (hW : 2 * g.monitorRoom + (rest.map fun v => v.category).sum ≤ W9) (hdg : decode c.code g.pc = .ok (.invokestatic index, 3))
    (hpre : ∀ vm₁, s.WarmedH vm₁ → Pre ⟨T.setVm vm₁, locs, cells, slots⟩ argsL.toArray) :
    ∃ (v : Option Value) (vm₁ : Vm) (B : Pt), s.WarmedH vm₁ ∧ Stand p l e R s m args below meth c B.U B.locs B.cells B.slots ∧ Post ⟨T.setVm vm₁, locs, cells, slots⟩ argsL.toArray v B ∧
      ∀ target, Steps p.tables e below (B.U.setTop { g with pc := g.pc + 3, stack := v.toList ++ rest }) target → Steps p.tables e below (T.setTop g) target := by
  obtain ⟨mk, methM, cM, hnamed, hmethM, -, -, -, -, -, -, hsigM⟩ := Cond.codeWith_spec hcode
  have hstatic : methM.isStatic = true := Cond.static_spec hnamed hmethM hstat
  obtain ⟨kP, hkP, -⟩ := className_of_methodNamed hnamed
  have hinitP : kP.init = .initialized := Cond.initialized_spec (findClass_of_methodNamed hnamed) hkP hinit
  obtain ⟨vm₁, X₁, hstep₁⟩ := X.invokestatic hexec hown hlink hnamed hmethM hstatic hkP hinitP hy (g := g) hg (argsL := argsL) (rest := rest) (hlen _ hsigM) hstack hdg
  obtain ⟨v, B, X', hpost, hsteps⟩ := hK m meth c ⟨T.setVm vm₁, locs, cells, slots⟩ { g with stack := rest } (.invokestatic index) mk argsL.toArray X₁ hg hsize hdg hW (X₁.named hnamed) (hpre vm₁ X₁.warmed)
  exact ⟨v, vm₁, B, X₁.warmed, X', hpost, fun target h => hstep₁ _ fun acts => by rw [doInvoke_state]; exact hsteps.trans h⟩
theorem vx_runSW {y : MethodName} {bytes cc : ByteArray} {maxL nL mc ms n index : Nat} {ret : Option FieldType} {hh : List (Nat × Nat × Nat × Nat)} {ws : List Cond} {rm : Room} {Pc : Array Value → State → Prop} {Qc : Array Value → State → Outcome → State → Prop} {free : Addr → Prop} {Ts : List Cond} {own : String} {As rest : List Value} {g : JFrame}
    (S : CallFix p m c cc nL s args Ts own) (hM : Met l y ws rm Pc Qc mc ms free) (cw : vx_CSW R s args own index y bytes maxL ret hh ws rm mc ms n) (hp : PreS s H Pc As)
    (hg : g.method = m) (hn : As.length = n) (hsize : g.locals.size = nL) (hstack : g.stack = As.reverse ++ rest) (hW : 2 * g.monitorRoom + (rest.map fun v => v.category).sum ≤ 8) (hdg : decode cc g.pc = .ok (.invokestatic index, 3)) (hf : cells + mc ≤ R.cells ∧ slots + ms ≤ R.slots) :
    va_Run p l e R s m args below meth c H locs cells slots mc ms g rest (Qc As.toArray) (free) := by
  obtain ⟨⟨hrc, hrs, hfr, hlo, hws, hcw⟩, hcode, hini, hy, hlen, hl, hstt⟩ := cw
  have hK : Back l R p e below s args y 3 8 (PreOf R mc ms Pc) (PostOf Qc mc ms free) := va_backW (hh := hh) (bytes := bytes) (maxL := maxL) (ret := ret) hM hp.1 hrc hrs hfr hlo hws hcw (fun a' U hW => word_at hW (Or.inl (by first | rfl | simp [Cond.onTables, Cond.keeps, Cond.steady])) hini)
  obtain ⟨hx, hb, hml, ho, -⟩ := S
  intro T hT X
  obtain ⟨v, vm₁, ⟨U', l2, c2, s2⟩, hW₁, X', ⟨g', mk, t, L, e1, e2, hq, h1, hL, h2, h3⟩, st⟩ := vx_callSW X hx (hh := hh) (bytes := bytes) (maxL := maxL) (ret := ret) ho hl hstt hini hcode hy hK hg (hsize.trans hml.symm) (argsL := As) (rest := rest) (fun sig h => hn.trans (hlen sig h)) hstack hW (by rw [hb]; exact hdg)
    (fun vm₁ hW₁ => ⟨hf.1, hf.2, hp.2 (T.setVm vm₁) hT hW₁⟩)
  dsimp only [Pt.U, Pt.locs, Pt.cells, Pt.slots] at X' e1 e2 h1 h2 h3 st
  subst h1; subst h2; subst h3
  exact ⟨v, (T.setVm vm₁).calling g' mk As.toArray, t, U', L, hT, X', hL, e1, e2, hq, st⟩
/-- not caught here, past rows that name other classes: it goes on to the caller -/
theorem vx_outP {p : Program} {l : Launch} {e : Env} {R : Room} {s : State} {m : MethodId} {args : Array Value} {below : List Frame} {meth : Method} {c : Code} {H : Heap} {locs : List Loc} {cells slots : Nat} {free : Addr → Prop} {ls : Array Slot} {rest : List Value} {Qc : Array Value → State → Outcome → State → Prop} {XC : String → State → State → Prop}
    {pc : Nat} {own E : String} {ce : Cell} {q : Addr} {mc ms : Nat} (hown : s.vm.findClass own = some m.cls) (hlocks : meth.locks = false)
    (hpass : ∀ z ∈ c.exceptionTable.toList, covers z pc = false ∨ (z.catchType ≠ 0 ∧ ∃ nm : String, (Cond.classLink own z.catchType nm).before args s = true ∧ va_Nc E nm s)) (hcell : H[q]? = some ce) (hv : ce.vm = .none) (hcl : s.vm.findClass E = some ce.cls)
    (hx : ∀ t : State, t.heap = H → s.vm.Alike t.vm → XC E s t) (hf : ∀ z ∈ locs, free z.base) (hc : cells ≤ mc) (hs : slots ≤ ms) :
    vx_W p l e R s m args below meth c H locs cells slots (vx_MQ below Qc XC args s mc ms free) (F0 m pc ls rest) q := by
  intro T hT X
  have hpl : e.platform.magicAccessors = ({} : Platform).magicAccessors := by rw [X.admits.platform]
  obtain ⟨vm', hW', X', st⟩ := X.outThrough hlocks q (g := F0 m pc ls rest) rfl rfl rfl (cell := ce) (by rw [hT]; exact hcell) (by rw [hv]; rfl)
    (by obtain ⟨k9, h9, -⟩ := Vm.findClass_spec hcl; exact ⟨k9, h9⟩) (fun z hz => by
      rcases hpass z hz with h | ⟨hz0, nm, hl1, hn1⟩
      · exact Or.inl h
      · obtain ⟨c6, hc6, hcl6⟩ := Cond.classLink_spec hown hl1 e.platform hpl
        obtain ⟨a8, b8, h1, h2, h3⟩ := hn1
        cases Option.some.inj (h1.symm.trans hcl)
        cases Option.some.inj (h2.symm.trans hc6)
        exact Or.inr ⟨hz0, _, hcl6, h3⟩)
  obtain ⟨g₀, hfr⟩ := X'.frames_eq
  have hcell9 : ((T.setVm vm').setFrames (.throwing q :: below)).heap[q]? = some ce := by
    show T.heap[q]? = some ce
    rw [hT]; exact hcell
  have hend : Ended ((T.setVm vm').setFrames (.throwing q :: below)) below (.threw q) := State.frames_setFrames _ (State.cur_lt_of_frames hfr)
  refine ⟨(T.setVm vm').setFrames (.throwing q :: below), ?_, .threw q, X'.here.running, hend, Or.inr ⟨q, rfl, E, ce, locs, hx _ hT (X'.ends _).1.alike, hcell9, hv, hcl, (X'.ends _).1, (X'.ends _).2.mono hc hs, hf⟩⟩
  rw [X.pushThrowing_eq]
  exact st
/-- a thing of a world lies in the heap -/
theorem vx_lt {D : va_G} {cl : List vw_C} {ws : va_W} {H1 : Heap} (h : va_P D cl ws H1) {k : Nat} {q : Nat × va_E} (hk : ws[k]? = some q) : q.1 < H1.size := (h k q hk).lt
end VXS
/-! ===== END ===== -/
/-! ===== BEGIN methods with a table of their own: called by a name, returning or throwing ===== -/
section VXH
/-! vx_backW, vx_callVX, vx_callSX, vx_callVW, vx_runVW, vx_runVX, vx_runSX, vx_ofWH follow the same proofs as their sisters above (Free/Laws.lean, Shelf42/LK1.lean); vx_outP calls Shelf42/NT130.lean (outThrough). -/
section
variable {l : Launch} {R : Room} {p : Program} {e : Env} {below : List Frame} {s : State} {sargs : Array Value} {y : MethodName} {len W9 : Nat}
theorem vx_backW {ws : List Cond} {rm : Room} {Pc : Array Value → State → Prop} {Qc : Array Value → State → Outcome → State → Prop} {XC : String → State → State → Prop} {mc ms : Nat} {free : Addr → Prop} {bytes : ByteArray} {maxL : Nat} {ret : Option FieldType} {hh : List (Nat × Nat × Nat × Nat)}
    (hM : vx_Met l y ws rm Pc Qc XC mc ms free) (hblind : FrameBlind Pc) (hrc : rm.cells = mc) (hrs : rm.slots = ms)
    (hframes : rm.frames + 1 ≤ R.frames) (hlocals : W9 + (maxL + 11) + rm.locals ≤ R.locals)
    (hws : ∀ w ∈ ws, ∀ a' U, s.WarmedH U.vm → w.before a' U = true) (hcode : Cond.codeWith y bytes maxL ret hh ∈ ws) (hinit : ∀ a' U, s.WarmedH U.vm → (Cond.initialized y.cls).before a' U = true) :
    vx_Back l R p e below s sargs y len W9 (PreOf R mc ms Pc) (PostOf Qc mc ms free) (vx_Post XC mc ms free) := by
  intro m meth c A g ig mk a X hg hsize hdg hW hn hp
  have h1 : (headSpec ws rm).pre.before a A.U = true := atoms_intro fun w hw => hws w hw _ _ X.warmed
  have h2 : (Cond.codeWith y bytes maxL ret hh).before a A.U = true := hws _ hcode _ _ X.warmed
  have h3 : (Cond.initialized y.cls).before a A.U = true := hinit _ _ X.warmed
  have h4 : A.cells + (headSpec ws rm).room.cells ≤ R.cells := by rw [show (headSpec ws rm).room.cells = mc from hrc]; exact hp.1
  have h5 : A.slots + (headSpec ws rm).room.slots ≤ R.slots := by rw [show (headSpec ws rm).room.slots = ms from hrs]; exact hp.2.1
  have hPc : Pc a (A.U.calling g mk a) := hblind _ _ _ _ hp.2.2
  obtain ⟨U, Ls, c0, s0⟩ := A
  dsimp only [Pt.U, Pt.locs, Pt.cells, Pt.slots] at h1 h2 h3 h4 h5 X hn hPc ⊢
  obtain ⟨m9, methY, cY, hn9, hmY, hcY, -, hlY, -⟩ := Cond.codeWith_spec h2
  cases Option.some.inj (hn9.symm.trans hn)
  obtain ⟨kY, hkY, -⟩ := className_of_methodNamed hn
  have hinitY : kY.init = .initialized := Cond.initialized_spec (findClass_of_methodNamed hn) hkY h3
  have h : At U g.method c below := by rw [hg]; exact X.here
  have hlocals9 : W9 + (maxL + 11) + (headSpec ws rm).room.locals ≤ R.locals := hlocals
  have happ : (headSpec ws rm).appliesLoose y e.platform (U.calling g mk a) = true :=
    Spec.appliesLoose_calling (g := g) h hdg hn hkY hinitY
      (X.room_calling (g := g) (R' := (headSpec ws rm).room) hsize hmY hcY hframes (by rw [hlY]; omega) h4 h5) h1
  obtain ⟨mid, hmid⟩ := h.above
  have hfr : (U.setTop g).frames = (.java g :: mid) ++ below := by rw [State.frames_setTop' g h.top, hmid]; rfl
  obtain ⟨o, s₂, hsteps, -, hend, hq⟩ := Steps.callFree hM p X.admits X.cas X.clock (acts := []) hfr happ hPc trivial
  have hq' : vx_Q Qc XC mc ms free a (U.calling g mk a) o s₂ := hq
  rw [State.frames_setTop' g h.top] at hend
  obtain ⟨g₀, hg0⟩ := Option.isSome_iff_exists.mp h.top
  obtain ⟨r, hr⟩ := State.topJava?_eq_some.mp hg0
  have hr' : (({ U with heap := s₂.heap, slotsUsed := s₂.slotsUsed } : State).setVm s₂.vm).frames = .java g₀ :: r := hr
  rcases hq' with ⟨hqc, L, hfe, hL⟩ | ⟨q, rfl, E, ce, L, hx, hce, hcv, hcl, hW₂, hsm, hL⟩
  · obtain ⟨⟨v, rfl⟩, hW₂, e2, q2, q3, q4, q5, q6⟩ := id hfe
    have e3 : s₂ = ({ (U.calling g mk a).setFrames s₂.frames with heap := s₂.heap, slotsUsed := s₂.slotsUsed } : State).setVm s₂.vm := by
      have : s₂ = ({ s₂ with vm := (U.calling g mk a).vm } : State).setVm s₂.vm := rfl
      rw [e2] at this
      exact this
    obtain ⟨c₂, i₂, len₂, hc₂, hd₂, hf₂⟩ := hend
    have hW' : U.WarmedH s₂.vm := hW₂
    have hcc : c₂ = c := by
      have h1 : s₂.code? g.method = U.code? g.method := by
        rw [State.code?_eq, State.code?_eq, hW'.alike.method?]
      exact Option.some.inj (hc₂.symm.trans (h1.trans h.code))
    subst hcc
    have hlen : len₂ = len := by rw [hdg] at hd₂; cases hd₂; rfl
    subst hlen
    have hs₂ : s₂ = (({ U with heap := s₂.heap, slotsUsed := s₂.slotsUsed } : State).setVm s₂.vm).setTop { g with pc := g.pc + len₂, stack := v.toList ++ g.stack } := by
      refine e3.trans ?_
      rw [hf₂, State.calling_eq h.top, State.setFrames_setFrames, State.setTop_of_frames _ hr', hr]
      rfl
    have hsame : U.sameButNew ({ U with heap := s₂.heap, slotsUsed := s₂.slotsUsed } : State) L mc ms := by
      refine ⟨?_, q2, q3, q4, q5, q6⟩
      obtain ⟨t, ht, -⟩ := State.frames_cons hr
      show ({ U with heap := s₂.heap, slotsUsed := s₂.slotsUsed } : State) = { U.setFrames U.frames with heap := s₂.heap, slotsUsed := s₂.slotsUsed }
      rw [State.setFrames_self ht]
    subst hg
    refine Or.inl ⟨v, ⟨(({ U with heap := s₂.heap, slotsUsed := s₂.slotsUsed } : State).setVm s₂.vm), Ls ++ L, c0 + mc, s0 + ms⟩,
      ⟨X.admits, X.cas, X.clock, X.frames, X.room, X.hears, X.method, X.code, (X.here.setHeapUsed s₂.heap s₂.slotsUsed).setVm hW'.alike, X.tail, State.WarmedH.trans X.warmed hW', X.limits, X.bytes, X.same.trans (hsame.setVm s.vm)⟩,
      ⟨g, mk, s₂, L, rfl, rfl, hqc, rfl, hL, rfl, rfl⟩, ?_⟩
    show Steps p.tables e below _ ((({ U with heap := s₂.heap, slotsUsed := s₂.slotsUsed } : State).setVm s₂.vm).setTop { g with pc := g.pc + len₂, stack := v.toList ++ g.stack })
    rw [← hs₂]
    exact hsteps
  · obtain ⟨e2, q2, q3, q4, q5, q6⟩ := id hsm
    have e3 : s₂ = ({ (U.calling g mk a).setFrames s₂.frames with heap := s₂.heap, slotsUsed := s₂.slotsUsed } : State).setVm s₂.vm := by
      have : s₂ = ({ s₂ with vm := (U.calling g mk a).vm } : State).setVm s₂.vm := rfl
      rw [e2] at this
      exact this
    have hf₂ : s₂.frames = .throwing q :: .java g :: U.frames.tail := hend
    have hW' : U.WarmedH s₂.vm := hW₂
    have hs₂ : s₂ = ((({ U with heap := s₂.heap, slotsUsed := s₂.slotsUsed } : State).setVm s₂.vm).setTop g).pushFrame (.throwing q) := by
      refine e3.trans ?_
      rw [hf₂, State.calling_eq h.top, State.setFrames_setFrames, State.pushFrame, State.frames_setTop _ hr', State.setTop_of_frames _ hr', State.setFrames_setFrames, hr]
      rfl
    have hsame : U.sameButNew ({ U with heap := s₂.heap, slotsUsed := s₂.slotsUsed } : State) L mc ms := by
      refine ⟨?_, q2, q3, q4, q5, q6⟩
      obtain ⟨t, ht, -⟩ := State.frames_cons hr
      show ({ U with heap := s₂.heap, slotsUsed := s₂.slotsUsed } : State) = { U.setFrames U.frames with heap := s₂.heap, slotsUsed := s₂.slotsUsed }
      rw [State.setFrames_self ht]
    subst hg
    refine Or.inr ⟨q, ⟨(({ U with heap := s₂.heap, slotsUsed := s₂.slotsUsed } : State).setVm s₂.vm), Ls ++ L, c0 + mc, s0 + ms⟩,
      ⟨X.admits, X.cas, X.clock, X.frames, X.room, X.hears, X.method, X.code, (X.here.setHeapUsed s₂.heap s₂.slotsUsed).setVm hW'.alike, X.tail, State.WarmedH.trans X.warmed hW', X.limits, X.bytes, X.same.trans (hsame.setVm s.vm)⟩,
      ⟨g, mk, s₂, L, E, ce, rfl, rfl, hx, hce, hcv, hcl, rfl, hL, rfl, rfl⟩, ?_⟩
    show Steps p.tables e below _ (((({ U with heap := s₂.heap, slotsUsed := s₂.slotsUsed } : State).setVm s₂.vm).setTop g).pushFrame (.throwing q))
    rw [← hs₂]
    exact hsteps
end
variable {p : Program} {l : Launch} {e : Env} {R : Room} {s : State} {m : MethodId} {args : Array Value} {below : List Frame} {meth : Method} {c : Code} {T : State} {H : Heap} {locs : List Loc} {cells slots : Nat}
theorem vx_callVX (X : Stand p l e R s m args below meth c T locs cells slots) (hexec : p.tables.exec = Jvm.exec) {own C : String} {index : Nat} {y : MethodName} {bytes : ByteArray} {maxL : Nat} {ret : Option FieldType} {hh : List (Nat × Nat × Nat × Nat)}
    (hown : s.vm.findClass own = some m.cls) (hlink : (Cond.methodLink own index y).before args s = true) (hinst : (Cond.instanceMethod y).before args s = true) (hsel : (Cond.selects C y y).before args s = true)
    (hcode : (Cond.codeWith y bytes maxL ret hh).before args s = true) (hy : y.cls ≠ "java/lang/invoke/MethodHandle" ∧ y.cls ≠ "java/lang/invoke/VarHandle")
    {W9 : Nat} {Pre : Pt → Array Value → Prop} {Post : Pt → Array Value → Option Value → Pt → Prop} {PostX : Pt → Array Value → Addr → Pt → Prop} (hK : vx_Back l R p e below s args y 3 W9 Pre Post PostX)
    {b : Addr} {cellB : Cell} (hcell : T.heap[b]? = some cellB) (hobj : cellB.vm.isStatics = false) (hcls : s.vm.findClass C = some cellB.cls)
    {g : JFrame} (hg : g.method = m) (hsize : g.locals.size = c.maxLocals) {argsL rest : List Value} (hlen : ∀ sig, parseMethodDescriptor y.desc = some sig → argsL.length = sig.parameters.length)
    (hstack : g.stack = argsL.reverse ++ .ref b :: rest) (hW : 2 * g.monitorRoom + (rest.map fun v => v.category).sum ≤ W9) (hdg : decode c.code g.pc = .ok (.invokevirtual index, 3))
    (hpre : ∀ vm₁, s.WarmedH vm₁ → Pre ⟨T.setVm vm₁, locs, cells, slots⟩ (Value.ref b :: argsL).toArray) :
    (∃ (v : Option Value) (vm₁ : Vm) (B : Pt), s.WarmedH vm₁ ∧ Stand p l e R s m args below meth c B.U B.locs B.cells B.slots ∧ Post ⟨T.setVm vm₁, locs, cells, slots⟩ (Value.ref b :: argsL).toArray v B ∧
      ∀ target, Steps p.tables e below (B.U.setTop { g with pc := g.pc + 3, stack := v.toList ++ rest }) target → Steps p.tables e below (T.setTop g) target) ∨
    (∃ (q : Addr) (vm₁ : Vm) (B : Pt), s.WarmedH vm₁ ∧ Stand p l e R s m args below meth c B.U B.locs B.cells B.slots ∧ PostX ⟨T.setVm vm₁, locs, cells, slots⟩ (Value.ref b :: argsL).toArray q B ∧
      Steps p.tables e below (T.setTop g) ((B.U.setTop { g with stack := rest }).pushFrame (.throwing q))) := by
  obtain ⟨mk, methM, hnamed, hmethM, hstM, habM⟩ := Cond.instanceMethod_spec hinst
  obtain ⟨m8, methM', cM, hn8, hmethM', -, -, -, -, -, -, hsigM⟩ := Cond.codeWith_spec hcode
  cases Option.some.inj (hn8.symm.trans hnamed)
  cases hmethM.symm.trans hmethM'
  obtain ⟨c2, r2, m2, q1, q2, q3, q4, kP, hkP, hkPi⟩ := Cond.selects_spec hsel
  cases hcls.symm.trans q1
  cases (State.methodFound?_of_named hnamed hy).symm.trans q2
  cases hnamed.symm.trans q3
  have hselP : selectMethod e.platform s.vm cellB.cls mk = .method mk := by rw [Launch.admits_selectMethod X.admits]; exact q4
  obtain ⟨vm₁, X₁, hstep₁⟩ := X.invokevirtual hexec hown hlink hnamed hmethM hstM hkP hkPi hy (a := b) (cell := cellB) hcell
    (fun z h => by rw [h] at hobj; cases hobj) hselP hmethM habM hkP hkPi (g := g) hg (argsL := argsL) (rest := rest) (hlen _ hsigM) hstack hdg
  rcases hK m meth c ⟨T.setVm vm₁, locs, cells, slots⟩ { g with stack := rest } (.invokevirtual index) mk (Value.ref b :: argsL).toArray X₁ hg hsize hdg hW (X₁.named hnamed) (hpre vm₁ X₁.warmed) with ⟨v, B, X', hpost, hsteps⟩ | ⟨q, B, X', hpost, hsteps⟩
  · exact Or.inl ⟨v, vm₁, B, X₁.warmed, X', hpost, fun target h => hstep₁ _ fun acts => by rw [doInvoke_state]; exact hsteps.trans h⟩
  · exact Or.inr ⟨q, vm₁, B, X₁.warmed, X', hpost, hstep₁ _ fun acts => by rw [doInvoke_state]; exact hsteps⟩
theorem vx_callSX (X : Stand p l e R s m args below meth c T locs cells slots) (hexec : p.tables.exec = Jvm.exec) {own : String} {index : Nat} {y : MethodName} {bytes : ByteArray} {maxL : Nat} {ret : Option FieldType} {hh : List (Nat × Nat × Nat × Nat)}
    (hown : s.vm.findClass own = some m.cls) (hlink : (Cond.methodLink own index y).before args s = true) (hstat : (Cond.static y).before args s = true) (hinit : (Cond.initialized y.cls).before args s = true)
    (hcode : (Cond.codeWith y bytes maxL ret hh).before args s = true) (hy : y.cls ≠ "java/lang/invoke/MethodHandle" ∧ y.cls ≠ "java/lang/invoke/VarHandle")
    {W9 : Nat} {Pre : Pt → Array Value → Prop} {Post : Pt → Array Value → Option Value → Pt → Prop} {PostX : Pt → Array Value → Addr → Pt → Prop} (hK : vx_Back l R p e below s args y 3 W9 Pre Post PostX)
    {g : JFrame} (hg : g.method = m) (hsize : g.locals.size = c.maxLocals) {argsL rest : List Value} (hlen : ∀ sig, parseMethodDescriptor y.desc = some sig → argsL.length = sig.parameters.length)
    (hstack : g.stack = argsL.reverse ++ rest) (hW : 2 * g.monitorRoom + (rest.map fun v => v.category).sum ≤ W9) (hdg : decode c.code g.pc = .ok (.invokestatic index, 3))
    (hpre : ∀ vm₁, s.WarmedH vm₁ → Pre ⟨T.setVm vm₁, locs, cells, slots⟩ argsL.toArray) :
    (∃ (v : Option Value) (vm₁ : Vm) (B : Pt), s.WarmedH vm₁ ∧ Stand p l e R s m args below meth c B.U B.locs B.cells B.slots ∧ Post ⟨T.setVm vm₁, locs, cells, slots⟩ argsL.toArray v B ∧
      ∀ target, Steps p.tables e below (B.U.setTop { g with pc := g.pc + 3, stack := v.toList ++ rest }) target → Steps p.tables e below (T.setTop g) target) ∨
    (∃ (q : Addr) (vm₁ : Vm) (B : Pt), s.WarmedH vm₁ ∧ Stand p l e R s m args below meth c B.U B.locs B.cells B.slots ∧ PostX ⟨T.setVm vm₁, locs, cells, slots⟩ argsL.toArray q B ∧
      Steps p.tables e below (T.setTop g) ((B.U.setTop { g with stack := rest }).pushFrame (.throwing q))) := by
  obtain ⟨mk, methM, cM, hnamed, hmethM, -, -, -, -, -, -, hsigM⟩ := Cond.codeWith_spec hcode
  have hstatic : methM.isStatic = true := Cond.static_spec hnamed hmethM hstat
  obtain ⟨kP, hkP, -⟩ := className_of_methodNamed hnamed
  have hinitP : kP.init = .initialized := Cond.initialized_spec (findClass_of_methodNamed hnamed) hkP hinit
  obtain ⟨vm₁, X₁, hstep₁⟩ := X.invokestatic hexec hown hlink hnamed hmethM hstatic hkP hinitP hy (g := g) hg (argsL := argsL) (rest := rest) (hlen _ hsigM) hstack hdg
  rcases hK m meth c ⟨T.setVm vm₁, locs, cells, slots⟩ { g with stack := rest } (.invokestatic index) mk argsL.toArray X₁ hg hsize hdg hW (X₁.named hnamed) (hpre vm₁ X₁.warmed) with ⟨v, B, X', hpost, hsteps⟩ | ⟨q, B, X', hpost, hsteps⟩
  · exact Or.inl ⟨v, vm₁, B, X₁.warmed, X', hpost, fun target h => hstep₁ _ fun acts => by rw [doInvoke_state]; exact hsteps.trans h⟩
  · exact Or.inr ⟨q, vm₁, B, X₁.warmed, X', hpost, hstep₁ _ fun acts => by rw [doInvoke_state]; exact hsteps⟩
theorem vx_callVW (X : Stand p l e R s m args below meth c T locs cells slots) (hexec : p.tables.exec = Jvm.exec) {own C : String} {index : Nat} {y : MethodName} {bytes : ByteArray} {maxL : Nat} {ret : Option FieldType} {hh : List (Nat × Nat × Nat × Nat)}
    (hown : s.vm.findClass own = some m.cls) (hlink : (Cond.methodLink own index y).before args s = true) (hinst : (Cond.instanceMethod y).before args s = true) (hsel : (Cond.selects C y y).before args s = true)
    (hcode : (Cond.codeWith y bytes maxL ret hh).before args s = true) (hy : y.cls ≠ "java/lang/invoke/MethodHandle" ∧ y.cls ≠ "java/lang/invoke/VarHandle")
    {W9 : Nat} {Pre : Pt → Array Value → Prop} {Post : Pt → Array Value → Option Value → Pt → Prop} (hK : Back l R p e below s args y 3 W9 Pre Post)
    {b : Addr} {cellB : Cell} (hcell : T.heap[b]? = some cellB) (hobj : cellB.vm.isStatics = false) (hcls : s.vm.findClass C = some cellB.cls)
    {g : JFrame} (hg : g.method = m) (hsize : g.locals.size = c.maxLocals) {argsL rest : List Value} (hlen : ∀ sig, parseMethodDescriptor y.desc = some sig → argsL.length = sig.parameters.length)
    (hstack : g.stack = argsL.reverse ++ .ref b :: rest) (hW : 2 * g.monitorRoom + (rest.map fun v => v.category).sum ≤ W9) (hdg : decode c.code g.pc = .ok (.invokevirtual index, 3))
    (hpre : ∀ vm₁, s.WarmedH vm₁ → Pre ⟨T.setVm vm₁, locs, cells, slots⟩ (Value.ref b :: argsL).toArray) :
    ∃ (v : Option Value) (vm₁ : Vm) (B : Pt), s.WarmedH vm₁ ∧ Stand p l e R s m args below meth c B.U B.locs B.cells B.slots ∧ Post ⟨T.setVm vm₁, locs, cells, slots⟩ (Value.ref b :: argsL).toArray v B ∧
      ∀ target, Steps p.tables e below (B.U.setTop { g with pc := g.pc + 3, stack := v.toList ++ rest }) target → Steps p.tables e below (T.setTop g) target := by
  obtain ⟨mk, methM, hnamed, hmethM, hstM, habM⟩ := Cond.instanceMethod_spec hinst
  obtain ⟨m8, methM', cM, hn8, hmethM', -, -, -, -, -, -, hsigM⟩ := Cond.codeWith_spec hcode
  cases Option.some.inj (hn8.symm.trans hnamed)
  cases hmethM.symm.trans hmethM'
  obtain ⟨c2, r2, m2, q1, q2, q3, q4, kP, hkP, hkPi⟩ := Cond.selects_spec hsel
  cases hcls.symm.trans q1
  cases (State.methodFound?_of_named hnamed hy).symm.trans q2
  cases hnamed.symm.trans q3
  have hselP : selectMethod e.platform s.vm cellB.cls mk = .method mk := by rw [Launch.admits_selectMethod X.admits]; exact q4
  obtain ⟨vm₁, X₁, hstep₁⟩ := X.invokevirtual hexec hown hlink hnamed hmethM hstM hkP hkPi hy (a := b) (cell := cellB) hcell
    (fun z h => by rw [h] at hobj; cases hobj) hselP hmethM habM hkP hkPi (g := g) hg (argsL := argsL) (rest := rest) (hlen _ hsigM) hstack hdg
  obtain ⟨v, B, X', hpost, hsteps⟩ := hK m meth c ⟨T.setVm vm₁, locs, cells, slots⟩ { g with stack := rest } (.invokevirtual index) mk (Value.ref b :: argsL).toArray X₁ hg hsize hdg hW (X₁.named hnamed) (hpre vm₁ X₁.warmed)
  exact ⟨v, vm₁, B, X₁.warmed, X', hpost, fun target h => hstep₁ _ fun acts => by rw [doInvoke_state]; exact hsteps.trans h⟩
abbrev vx_CVW (R : Room) (s : State) (args : Array Value) (own C : String) (index : Nat) (y : MethodName) (bytes : ByteArray) (maxL : Nat) (ret : Option FieldType) (hh : List (Nat × Nat × Nat × Nat)) (ws : List Cond) (rm : Room) (mc ms n : Nat) : Prop :=
  (rm.cells = mc ∧ rm.slots = ms ∧ rm.frames + 1 ≤ R.frames ∧ 8 + (maxL + 11) + rm.locals ≤ R.locals ∧ (∀ w ∈ ws, ∀ (a' : Array Value) (U : State), s.WarmedH U.vm → w.before a' U = true) ∧ Cond.codeWith y bytes maxL ret hh ∈ ws) ∧
  (Cond.codeWith y bytes maxL ret hh).before args s = true ∧ (Cond.initialized y.cls).before args s = true ∧ (y.cls ≠ "java/lang/invoke/MethodHandle" ∧ y.cls ≠ "java/lang/invoke/VarHandle") ∧
  (∀ sig, parseMethodDescriptor y.desc = some sig → n = sig.parameters.length) ∧ (Cond.methodLink own index y).before args s = true ∧ (Cond.instanceMethod y).before args s = true ∧ (Cond.selects C y y).before args s = true
theorem vx_cwVW {own C : String} {index maxL mc ms : Nat} {y : MethodName} {bytes : ByteArray} {ret : Option FieldType} {hh : List (Nat × Nat × Nat × Nat)} {Ts ws ws' : List Cond} {rm : Room} (n : Nat) (ht : ∀ w ∈ Ts, w.before args s = true) (hT : GoodIn Ts (wsV own index C y ws)) (hw : ws = Cond.codeWith y bytes maxL ret hh :: ws') (hrc : rm.cells = mc) (hrs : rm.slots = ms)
    (hd : y.cls = C ∧ y.cls ≠ "java/lang/invoke/MethodHandle" ∧ y.cls ≠ "java/lang/invoke/VarHandle" ∧ (parseMethodDescriptor y.desc).map (fun d => d.parameters.length) = some n) (hR : rm.frames + 1 ≤ R.frames ∧ 8 + (maxL + 11) + rm.locals ≤ R.locals) :
    vx_CVW R s args own C index y bytes maxL ret hh ws rm mc ms n := by
  obtain ⟨hC, hd⟩ := hd
  subst hC
  have ok : ∀ w ∈ wsV own index y.cls y ws, w.before args s = true := fun w h => ht w (hT w h).1
  have hG : GoodIn Ts ws := fun w h => hT w (by unfold wsV; exact List.mem_append_right _ h)
  have hc : Cond.codeWith y bytes maxL ret hh ∈ ws := by rw [hw]; exact List.mem_cons_self
  refine ⟨⟨hrc, hrs, hR.1, hR.2, pay_in ht hG, hc⟩, ht _ (hG _ hc).1, ok _ (by simp [wsV]), ⟨hd.1, hd.2.1⟩, fun sig h => ?_, ok _ (by simp [wsV]), ok _ (by simp [wsV]), ok _ (by simp [wsV])⟩
  have h2 := hd.2.2
  rw [h] at h2
  exact (Option.some.inj h2).symm
theorem vx_runVW {y : MethodName} {bytes cc : ByteArray} {maxL nL mc ms n index : Nat} {ret : Option FieldType} {hh : List (Nat × Nat × Nat × Nat)} {ws : List Cond} {rm : Room} {Pc : Array Value → State → Prop} {Qc : Array Value → State → Outcome → State → Prop} {free : Addr → Prop} {Ts : List Cond} {own C : String} {b : Addr} {As rest : List Value} {g : JFrame}
    (S : CallFix p m c cc nL s args Ts own) (hM : Met l y ws rm Pc Qc mc ms free) (cw : vx_CVW R s args own C index y bytes maxL ret hh ws rm mc ms n) (hp : PreV s H C b Pc As)
    (hg : g.method = m) (hn : As.length = n) (hsize : g.locals.size = nL) (hstack : g.stack = As.reverse ++ .ref b :: rest) (hW : 2 * g.monitorRoom + (rest.map fun v => v.category).sum ≤ 8) (hdg : decode cc g.pc = .ok (.invokevirtual index, 3)) (hf : cells + mc ≤ R.cells ∧ slots + ms ≤ R.slots) :
    va_Run p l e R s m args below meth c H locs cells slots mc ms g rest (Qc (Value.ref b :: As).toArray) free := by
  obtain ⟨⟨hrc, hrs, hfr, hlo, hws, hcw⟩, hcode, hini, hy, hlen, hl, hin, hse⟩ := cw
  have hK : Back l R p e below s args y 3 8 (PreOf R mc ms Pc) (PostOf Qc mc ms free) := va_backW (hh := hh) (bytes := bytes) (maxL := maxL) (ret := ret) hM hp.1 hrc hrs hfr hlo hws hcw (fun a' U hW => word_at hW (Or.inl (by first | rfl | simp [Cond.onTables, Cond.keeps, Cond.steady])) hini)
  obtain ⟨hx, hb, hml, ho, -⟩ := S
  obtain ⟨-, ⟨cellB, hcB, hoB, hclB⟩, hPc⟩ := hp
  intro T hT X
  obtain ⟨v, vm₁, ⟨U', l2, c2, s2⟩, hW₁, X', ⟨g', mk, t, L, e1, e2, hq, h1, hL, h2, h3⟩, st⟩ := vx_callVW X hx (C := C) (hh := hh) (bytes := bytes) (maxL := maxL) (ret := ret) ho hl hin hse hcode hy hK (by rw [hT]; exact hcB) hoB hclB hg (hsize.trans hml.symm) (argsL := As) (rest := rest) (fun sig h => hn.trans (hlen sig h)) hstack hW (by rw [hb]; exact hdg)
    (fun vm₁ hW₁ => ⟨hf.1, hf.2, hPc (T.setVm vm₁) hT hW₁⟩)
  dsimp only [Pt.U, Pt.locs, Pt.cells, Pt.slots] at X' e1 e2 h1 h2 h3 st
  subst h1; subst h2; subst h3
  exact ⟨v, (T.setVm vm₁).calling g' mk (Value.ref b :: As).toArray, t, U', L, hT, X', hL, e1, e2, hq, st⟩
section
variable {y : MethodName} {bytes cc : ByteArray} {maxL nL mc ms n index : Nat} {ret : Option FieldType} {ws : List Cond} {rm : Room} {Pc : Array Value → State → Prop} {Qc : Array Value → State → Outcome → State → Prop} {XC : String → State → State → Prop} {free : Addr → Prop} {Ts : List Cond} {own C : String} {b : Addr} {As rest : List Value} {g : JFrame}
theorem vx_runVX {hh : List (Nat × Nat × Nat × Nat)} (S : CallFix p m c cc nL s args Ts own) (hM : vx_Met l y ws rm Pc Qc XC mc ms free) (cw : vx_CVW R s args own C index y bytes maxL ret hh ws rm mc ms n) (hp : PreV s H C b Pc As)
    (hg : g.method = m) (hn : As.length = n) (hsize : g.locals.size = nL) (hstack : g.stack = As.reverse ++ .ref b :: rest) (hW : 2 * g.monitorRoom + (rest.map fun v => v.category).sum ≤ 8) (hdg : decode cc g.pc = .ok (.invokevirtual index, 3)) (hf : cells + mc ≤ R.cells ∧ slots + ms ≤ R.slots) :
    vx_Run p l e R s m args below meth c H locs cells slots mc ms g rest (Qc (Value.ref b :: As).toArray) XC free := by
  obtain ⟨⟨hrc, hrs, hfr, hlo, hws, hcw⟩, hcode, hini, hy, hlen, hl, hin, hse⟩ := cw
  have hK : vx_Back l R p e below s args y 3 8 (PreOf R mc ms Pc) (PostOf Qc mc ms free) (vx_Post XC mc ms free) := vx_backW (hh := hh) (bytes := bytes) (maxL := maxL) (ret := ret) hM hp.1 hrc hrs hfr hlo hws hcw (fun a' U hW => word_at hW (Or.inl (by first | rfl | simp [Cond.onTables, Cond.keeps, Cond.steady])) hini)
  obtain ⟨hx, hb, hml, ho, -⟩ := S
  obtain ⟨-, ⟨cellB, hcB, hoB, hclB⟩, hPc⟩ := hp
  intro T hT X
  rcases vx_callVX X hx (C := C) (hh := hh) (bytes := bytes) (maxL := maxL) (ret := ret) ho hl hin hse hcode hy hK (by rw [hT]; exact hcB) hoB hclB hg (hsize.trans hml.symm) (argsL := As) (rest := rest) (fun sig h => hn.trans (hlen sig h)) hstack hW (by rw [hb]; exact hdg)
    (fun vm₁ hW₁ => ⟨hf.1, hf.2, hPc (T.setVm vm₁) hT hW₁⟩) with ⟨v, vm₁, ⟨U', l2, c2, s2⟩, hW₁, X', ⟨g', mk, t, L, e1, e2, hq, h1, hL, h2, h3⟩, st⟩ | ⟨q, vm₁, ⟨U', l2, c2, s2⟩, hW₁, X', ⟨g', mk, t, L, E, ce, e1, e2, hq, hce, hcv, hcl, h1, hL, h2, h3⟩, st⟩
  · dsimp only [Pt.U, Pt.locs, Pt.cells, Pt.slots] at X' e1 e2 h1 h2 h3 st
    subst h1; subst h2; subst h3
    exact Or.inl ⟨v, (T.setVm vm₁).calling g' mk (Value.ref b :: As).toArray, t, U', L, hT, X', hL, e1, e2, hq, st⟩
  · dsimp only [Pt.U, Pt.locs, Pt.cells, Pt.slots] at X' e1 e2 h1 h2 h3 st hcl
    subst h1; subst h2; subst h3
    exact Or.inr ⟨q, (T.setVm vm₁).calling g' mk (Value.ref b :: As).toArray, t, U', L, E, ce, hT, X', hL, e1, e2, hq, hce, hcv, vx_cls hW₁ hcl, st⟩
theorem vx_runSX {hh : List (Nat × Nat × Nat × Nat)} (S : CallFix p m c cc nL s args Ts own) (hM : vx_Met l y ws rm Pc Qc XC mc ms free) (cw : vx_CSW R s args own index y bytes maxL ret hh ws rm mc ms n) (hp : PreS s H Pc As)
    (hg : g.method = m) (hn : As.length = n) (hsize : g.locals.size = nL) (hstack : g.stack = As.reverse ++ rest) (hW : 2 * g.monitorRoom + (rest.map fun v => v.category).sum ≤ 8) (hdg : decode cc g.pc = .ok (.invokestatic index, 3)) (hf : cells + mc ≤ R.cells ∧ slots + ms ≤ R.slots) :
    vx_Run p l e R s m args below meth c H locs cells slots mc ms g rest (Qc As.toArray) XC free := by
  obtain ⟨⟨hrc, hrs, hfr, hlo, hws, hcw⟩, hcode, hini, hy, hlen, hl, hstt⟩ := cw
  have hK : vx_Back l R p e below s args y 3 8 (PreOf R mc ms Pc) (PostOf Qc mc ms free) (vx_Post XC mc ms free) := vx_backW (hh := hh) (bytes := bytes) (maxL := maxL) (ret := ret) hM hp.1 hrc hrs hfr hlo hws hcw (fun a' U hW => word_at hW (Or.inl (by first | rfl | simp [Cond.onTables, Cond.keeps, Cond.steady])) hini)
  obtain ⟨hx, hb, hml, ho, -⟩ := S
  intro T hT X
  rcases vx_callSX X hx (hh := hh) (bytes := bytes) (maxL := maxL) (ret := ret) ho hl hstt hini hcode hy hK hg (hsize.trans hml.symm) (argsL := As) (rest := rest) (fun sig h => hn.trans (hlen sig h)) hstack hW (by rw [hb]; exact hdg)
    (fun vm₁ hW₁ => ⟨hf.1, hf.2, hp.2 (T.setVm vm₁) hT hW₁⟩) with ⟨v, vm₁, ⟨U', l2, c2, s2⟩, hW₁, X', ⟨g', mk, t, L, e1, e2, hq, h1, hL, h2, h3⟩, st⟩ | ⟨q, vm₁, ⟨U', l2, c2, s2⟩, hW₁, X', ⟨g', mk, t, L, E, ce, e1, e2, hq, hce, hcv, hcl, h1, hL, h2, h3⟩, st⟩
  · dsimp only [Pt.U, Pt.locs, Pt.cells, Pt.slots] at X' e1 e2 h1 h2 h3 st
    subst h1; subst h2; subst h3
    exact Or.inl ⟨v, (T.setVm vm₁).calling g' mk As.toArray, t, U', L, hT, X', hL, e1, e2, hq, st⟩
  · dsimp only [Pt.U, Pt.locs, Pt.cells, Pt.slots] at X' e1 e2 h1 h2 h3 st hcl
    subst h1; subst h2; subst h3
    exact Or.inr ⟨q, (T.setVm vm₁).calling g' mk As.toArray, t, U', L, E, ce, hT, X', hL, e1, e2, hq, hce, hcv, vx_cls hW₁ hcl, st⟩
end
end VXH
theorem vx_ofWH {l : Launch} {y : MethodName} {ws ws' : List Cond} {rm : Room} {Pc : Array Value → State → Prop} {Qc : Array Value → State → Outcome → State → Prop} {XC : String → State → State → Prop} {mc ms : Nat} {free : Addr → Prop} {cc : ByteArray} {maxL : Nat} {ret : Option FieldType} {hh : List (Nat × Nat × Nat × Nat)}
    (hy : plainName y.cls = true) (hw : ws = Cond.codeWith y cc maxL ret hh :: ws')
    (body : ∀ p e s m args below meth c s₁, BodyLoose p l y (headSpec ws rm) cc maxL ret e s m args below meth c s₁ → c.maxLocals = maxL → Pc args s →
      W p l e (headSpec ws rm).room s m args below meth c s.heap [] 0 0 (vx_MQ below Qc XC args s mc ms free) (entryFrame m args maxL)) : vx_Met l y ws rm Pc Qc XC mc ms free := by
  refine MetFree.of_bodyS (code := cc) (maxLocals := maxL) (ret := ret) hy ?_ ?_
  · intro args s m h hn
    obtain ⟨m9, meth, c, hn9, h1, h2, h3, h4, -, h5, h6, -⟩ := Cond.codeWith_spec (atoms_spec (ws := ws) h _ (by rw [hw]; exact List.mem_cons_self))
    cases hn.symm.trans hn9
    exact ⟨meth, c, h1, h2, h3, h4, h5, h6⟩
  · intro p e s m args below meth c s₁ B hml hP _
    have hh0 : s₁.heap = s.heap := by rw [B.state]; rfl
    obtain ⟨t, a1, o, b1, b2, b3⟩ := body p e s m args below meth c s₁ B hml hP s₁ hh0 (Stand.of_body B)
    exact ⟨t, o, a1, b1, b2, b3⟩
/-! ===== END ===== -/

/-! ===== BEGIN printed: names, fields, word lists, decode rows ===== -/
/-- no call of this law throws: the words of a throw aren't needed -/
def zatN : List Cond := []
def RX0 : String := "Countcote$CarefulSketch"
def TX0 : u_T := fun k => match k with
  | _ => ("Countcote$CarefulSketch", "cells", "[I", true)
def tyX0 : Nat → FieldType := fun k => match k with
  | _ => .array .int
abbrev wsX00 : List Cond := u_ws RX0 TX0 1
theorem nmX0 : ∀ a, a < 1 → ∀ b, b < 1 → a ≠ b → (TX0 a).2.1 ≠ (TX0 b).2.1 := by decide +kernel
theorem tyX0_ok : ∀ k, k < 1 → parseFieldDescriptor (TX0 k).2.2.1 = some (tyX0 k) := by decide +kernel
abbrev cX0_init : ByteArray := prog_2_method_1_code
def yX0_init : MethodName := ⟨RX0, "<init>", "()V"⟩
abbrev cX0_columnOf : ByteArray := prog_2_method_2_code
def yX0_columnOf : MethodName := ⟨RX0, "columnOf", "(II)I"⟩
abbrev cX0_placeOf : ByteArray := prog_2_method_3_code
def yX0_placeOf : MethodName := ⟨RX0, "placeOf", "(II)I"⟩
abbrev cX0_cellAt : ByteArray := prog_2_method_4_code
def yX0_cellAt : MethodName := ⟨RX0, "cellAt", "(II)I"⟩
abbrev cX0_leastOf : ByteArray := prog_2_method_5_code
def yX0_leastOf : MethodName := ⟨RX0, "leastOf", "(I)I"⟩
abbrev cX0_put : ByteArray := prog_2_method_6_code
def yX0_put : MethodName := ⟨RX0, "put", "(II)V"⟩
abbrev cX0_join : ByteArray := prog_2_method_7_code
def yX0_join : MethodName := ⟨RX0, "join", "(LCountcote$CarefulSketch;)V"⟩
abbrev cX0_empty : ByteArray := prog_2_method_8_code
def yX0_empty : MethodName := ⟨RX0, "empty", "()V"⟩
def RX1 : String := "Countcote$FewCounters"
def TX1 : u_T := fun k => match k with
  | 0 => ("Countcote$FewCounters", "items", "[I", true)
  | 1 => ("Countcote$FewCounters", "weights", "[I", true)
  | 2 => ("Countcote$FewCounters", "used", "I", false)
  | _ => ("Countcote$FewCounters", "away", "I", false)
def tyX1 : Nat → FieldType := fun k => match k with
  | 0 => .array .int
  | 1 => .array .int
  | 2 => .int
  | _ => .int
abbrev wsX10 : List Cond := u_ws RX1 TX1 4
theorem nmX1 : ∀ a, a < 4 → ∀ b, b < 4 → a ≠ b → (TX1 a).2.1 ≠ (TX1 b).2.1 := by decide +kernel
theorem tyX1_ok : ∀ k, k < 4 → parseFieldDescriptor (TX1 k).2.2.1 = some (tyX1 k) := by decide +kernel
abbrev cX1_init : ByteArray := prog_3_method_1_code
def yX1_init : MethodName := ⟨RX1, "<init>", "()V"⟩
abbrev cX1_weightOf : ByteArray := prog_3_method_2_code
def yX1_weightOf : MethodName := ⟨RX1, "weightOf", "(I)I"⟩
abbrev cX1_put : ByteArray := prog_3_method_3_code
def yX1_put : MethodName := ⟨RX1, "put", "(II)V"⟩
abbrev cX1_join : ByteArray := prog_3_method_4_code
def yX1_join : MethodName := ⟨RX1, "join", "(LCountcote$FewCounters;)V"⟩
abbrev cX1_empty : ByteArray := prog_3_method_5_code
def yX1_empty : MethodName := ⟨RX1, "empty", "()V"⟩
abbrev cX1_placeOf : ByteArray := prog_3_method_6_code
def yX1_placeOf : MethodName := ⟨RX1, "placeOf", "(I)I"⟩
abbrev cX1_grow : ByteArray := prog_3_method_7_code
def yX1_grow : MethodName := ⟨RX1, "grow", "(II)V"⟩
abbrev cX1_takeAway : ByteArray := prog_3_method_8_code
def yX1_takeAway : MethodName := ⟨RX1, "takeAway", "(I)V"⟩
abbrev cX1_leastWeight : ByteArray := prog_3_method_9_code
def yX1_leastWeight : MethodName := ⟨RX1, "leastWeight", "()I"⟩
abbrev cX1_weightReachedBy : ByteArray := prog_3_method_10_code
def yX1_weightReachedBy : MethodName := ⟨RX1, "weightReachedBy", "(I)I"⟩
abbrev cX1_countersReaching : ByteArray := prog_3_method_11_code
def yX1_countersReaching : MethodName := ⟨RX1, "countersReaching", "(I)I"⟩
def RX2 : String := "Countcote$PlainCounts"
def TX2 : u_T := fun k => match k with
  | _ => ("Countcote$PlainCounts", "sums", "[I", true)
def tyX2 : Nat → FieldType := fun k => match k with
  | _ => .array .int
abbrev wsX20 : List Cond := u_ws RX2 TX2 1
theorem nmX2 : ∀ a, a < 1 → ∀ b, b < 1 → a ≠ b → (TX2 a).2.1 ≠ (TX2 b).2.1 := by decide +kernel
theorem tyX2_ok : ∀ k, k < 1 → parseFieldDescriptor (TX2 k).2.2.1 = some (tyX2 k) := by decide +kernel
abbrev cX2_init : ByteArray := prog_4_method_1_code
def yX2_init : MethodName := ⟨RX2, "<init>", "()V"⟩
abbrev cX2_put : ByteArray := prog_4_method_2_code
def yX2_put : MethodName := ⟨RX2, "put", "(II)V"⟩
abbrev cX2_join : ByteArray := prog_4_method_3_code
def yX2_join : MethodName := ⟨RX2, "join", "(LCountcote$PlainCounts;)V"⟩
abbrev cX2_empty : ByteArray := prog_4_method_4_code
def yX2_empty : MethodName := ⟨RX2, "empty", "()V"⟩
abbrev cX2_sum : ByteArray := prog_4_method_5_code
def yX2_sum : MethodName := ⟨RX2, "sum", "()I"⟩
abbrev cX2_ofHalf : ByteArray := prog_4_method_6_code
def yX2_ofHalf : MethodName := ⟨RX2, "ofHalf", "(II)I"⟩
abbrev cX2_ofItems : ByteArray := prog_4_method_7_code
def yX2_ofItems : MethodName := ⟨RX2, "ofItems", "(II)I"⟩
abbrev cX2_times : ByteArray := prog_4_method_8_code
def yX2_times : MethodName := ⟨RX2, "times", "(LCountcote$PlainCounts;)J"⟩
def RX3 : String := "Countcote$SignedSketch"
def TX3 : u_T := fun k => match k with
  | 0 => ("Countcote$SignedSketch", "cells", "[I", true)
  | _ => ("Countcote$SignedSketch", "numbers", "[J", true)
def tyX3 : Nat → FieldType := fun k => match k with
  | 0 => .array .int
  | _ => .array .long
abbrev wsX30 : List Cond := u_ws RX3 TX3 2
theorem nmX3 : ∀ a, a < 2 → ∀ b, b < 2 → a ≠ b → (TX3 a).2.1 ≠ (TX3 b).2.1 := by decide +kernel
theorem tyX3_ok : ∀ k, k < 2 → parseFieldDescriptor (TX3 k).2.2.1 = some (tyX3 k) := by decide +kernel
abbrev cX3_init : ByteArray := prog_5_method_1_code
def yX3_init : MethodName := ⟨RX3, "<init>", "()V"⟩
abbrev cX3_columnOf : ByteArray := prog_5_method_2_code
def yX3_columnOf : MethodName := ⟨RX3, "columnOf", "(II)I"⟩
abbrev cX3_signOf : ByteArray := prog_5_method_3_code
def yX3_signOf : MethodName := ⟨RX3, "signOf", "(II)I"⟩
abbrev cX3_placeOf : ByteArray := prog_5_method_4_code
def yX3_placeOf : MethodName := ⟨RX3, "placeOf", "(II)I"⟩
abbrev cX3_cellAt : ByteArray := prog_5_method_5_code
def yX3_cellAt : MethodName := ⟨RX3, "cellAt", "(II)I"⟩
abbrev cX3_put : ByteArray := prog_5_method_6_code
def yX3_put : MethodName := ⟨RX3, "put", "(II)V"⟩
abbrev cX3_join : ByteArray := prog_5_method_7_code
def yX3_join : MethodName := ⟨RX3, "join", "(LCountcote$SignedSketch;)V"⟩
abbrev cX3_empty : ByteArray := prog_5_method_8_code
def yX3_empty : MethodName := ⟨RX3, "empty", "()V"⟩
abbrev cX3_middleProduct : ByteArray := prog_5_method_10_code
def yX3_middleProduct : MethodName := ⟨RX3, "middleProduct", "(LCountcote$SignedSketch;)J"⟩
abbrev cX3_rowProduct : ByteArray := prog_5_method_11_code
def yX3_rowProduct : MethodName := ⟨RX3, "rowProduct", "(ILCountcote$SignedSketch;)J"⟩
abbrev cX3_middleNumber : ByteArray := prog_5_method_12_code
def yX3_middleNumber : MethodName := ⟨RX3, "middleNumber", "()J"⟩
def RX4 : String := "Countcote$Stream"
def TX4 : u_T := fun k => match k with
  | 0 => ("Countcote$Stream", "plain", "LCountcote$PlainCounts;", true)
  | 1 => ("Countcote$Stream", "careful", "[LCountcote$CarefulSketch;", true)
  | 2 => ("Countcote$Stream", "signed", "LCountcote$SignedSketch;", true)
  | _ => ("Countcote$Stream", "few", "LCountcote$FewCounters;", true)
def tyX4 : Nat → FieldType := fun k => match k with
  | 0 => .object "Countcote$PlainCounts"
  | 1 => .array (.object "Countcote$CarefulSketch")
  | 2 => .object "Countcote$SignedSketch"
  | _ => .object "Countcote$FewCounters"
abbrev wsX40 : List Cond := u_ws RX4 TX4 4
theorem nmX4 : ∀ a, a < 4 → ∀ b, b < 4 → a ≠ b → (TX4 a).2.1 ≠ (TX4 b).2.1 := by decide +kernel
theorem tyX4_ok : ∀ k, k < 4 → parseFieldDescriptor (TX4 k).2.2.1 = some (tyX4 k) := by decide +kernel
abbrev cX4_init : ByteArray := prog_6_method_1_code
def yX4_init : MethodName := ⟨RX4, "<init>", "()V"⟩
abbrev cX4_put : ByteArray := prog_6_method_2_code
def yX4_put : MethodName := ⟨RX4, "put", "(II)V"⟩
abbrev cX4_join : ByteArray := prog_6_method_3_code
def yX4_join : MethodName := ⟨RX4, "join", "(LCountcote$Stream;)V"⟩
abbrev cX4_empty : ByteArray := prog_6_method_4_code
def yX4_empty : MethodName := ⟨RX4, "empty", "()V"⟩
abbrev cX4_estimateOf : ByteArray := prog_6_method_5_code
def yX4_estimateOf : MethodName := ⟨RX4, "estimateOf", "(II)I"⟩
abbrev cX4_reaches : ByteArray := prog_6_method_6_code
def yX4_reaches : MethodName := ⟨RX4, "reaches", "(II)Z"⟩
def RX5 : String := "Countcote"
def TX5 : u_T := fun k => match k with
  | _ => ("Countcote", "streams", "[LCountcote$Stream;", true)
def tyX5 : Nat → FieldType := fun k => match k with
  | _ => .array (.object "Countcote$Stream")
abbrev wsX50 : List Cond := u_ws RX5 TX5 1
theorem nmX5 : ∀ a, a < 1 → ∀ b, b < 1 → a ≠ b → (TX5 a).2.1 ≠ (TX5 b).2.1 := by decide +kernel
theorem tyX5_ok : ∀ k, k < 1 → parseFieldDescriptor (TX5 k).2.2.1 = some (tyX5 k) := by decide +kernel
abbrev cX5_init : ByteArray := prog_1_method_1_code
def yX5_init : MethodName := ⟨RX5, "<init>", "()V"⟩
abbrev cX5_add : ByteArray := prog_1_method_2_code
def yX5_add : MethodName := ⟨RX5, "add", "(III)I"⟩
abbrev cX5_merge : ByteArray := prog_1_method_3_code
def yX5_merge : MethodName := ⟨RX5, "merge", "(II)I"⟩
abbrev cX5_clear : ByteArray := prog_1_method_4_code
def yX5_clear : MethodName := ⟨RX5, "clear", "(I)I"⟩
abbrev cX5_total : ByteArray := prog_1_method_5_code
def yX5_total : MethodName := ⟨RX5, "total", "(I)I"⟩
abbrev cX5_count : ByteArray := prog_1_method_6_code
def yX5_count : MethodName := ⟨RX5, "count", "(II)I"⟩
abbrev cX5_countOfRange : ByteArray := prog_1_method_7_code
def yX5_countOfRange : MethodName := ⟨RX5, "countOfRange", "(III)I"⟩
abbrev cX5_product : ByteArray := prog_1_method_8_code
def yX5_product : MethodName := ⟨RX5, "product", "(II)J"⟩
abbrev cX5_column : ByteArray := prog_1_method_9_code
def yX5_column : MethodName := ⟨RX5, "column", "(II)I"⟩
abbrev cX5_cell : ByteArray := prog_1_method_10_code
def yX5_cell : MethodName := ⟨RX5, "cell", "(IIII)I"⟩
abbrev cX5_estimate : ByteArray := prog_1_method_11_code
def yX5_estimate : MethodName := ⟨RX5, "estimate", "(III)I"⟩
abbrev cX5_share : ByteArray := prog_1_method_12_code
def yX5_share : MethodName := ⟨RX5, "share", "(II)D"⟩
abbrev cX5_parts : ByteArray := prog_1_method_13_code
def yX5_parts : MethodName := ⟨RX5, "parts", "(II)I"⟩
abbrev cX5_estimateOfRange : ByteArray := prog_1_method_14_code
def yX5_estimateOfRange : MethodName := ⟨RX5, "estimateOfRange", "(III)I"⟩
abbrev cX5_frequent : ByteArray := prog_1_method_15_code
def yX5_frequent : MethodName := ⟨RX5, "frequent", "(II)I"⟩
abbrev cX5_frequentAt : ByteArray := prog_1_method_16_code
def yX5_frequentAt : MethodName := ⟨RX5, "frequentAt", "(III)I"⟩
abbrev cX5_itemOfRank : ByteArray := prog_1_method_17_code
def yX5_itemOfRank : MethodName := ⟨RX5, "itemOfRank", "(II)I"⟩
abbrev cX5_signedColumn : ByteArray := prog_1_method_18_code
def yX5_signedColumn : MethodName := ⟨RX5, "signedColumn", "(II)I"⟩
abbrev cX5_sign : ByteArray := prog_1_method_19_code
def yX5_sign : MethodName := ⟨RX5, "sign", "(II)I"⟩
abbrev cX5_signedCell : ByteArray := prog_1_method_20_code
def yX5_signedCell : MethodName := ⟨RX5, "signedCell", "(III)I"⟩
abbrev cX5_signedProduct : ByteArray := prog_1_method_22_code
def yX5_signedProduct : MethodName := ⟨RX5, "signedProduct", "(II)J"⟩
abbrev cX5_counters : ByteArray := prog_1_method_23_code
def yX5_counters : MethodName := ⟨RX5, "counters", "(I)I"⟩
abbrev cX5_counterItem : ByteArray := prog_1_method_24_code
def yX5_counterItem : MethodName := ⟨RX5, "counterItem", "(II)I"⟩
abbrev cX5_counterOf : ByteArray := prog_1_method_25_code
def yX5_counterOf : MethodName := ⟨RX5, "counterOf", "(II)I"⟩
abbrev cX5_taken : ByteArray := prog_1_method_26_code
def yX5_taken : MethodName := ⟨RX5, "taken", "(I)I"⟩
abbrev cX5_requirePlace : ByteArray := prog_1_method_27_code
def yX5_requirePlace : MethodName := ⟨RX5, "requirePlace", "(II)V"⟩
abbrev cX5_requireRange : ByteArray := prog_1_method_28_code
def yX5_requireRange : MethodName := ⟨RX5, "requireRange", "(II)V"⟩
abbrev cX5_requireWithin : ByteArray := prog_1_method_29_code
def yX5_requireWithin : MethodName := ⟨RX5, "requireWithin", "(III)V"⟩
abbrev cX5_requireRoom : ByteArray := prog_1_method_30_code
def yX5_requireRoom : MethodName := ⟨RX5, "requireRoom", "(I)V"⟩
abbrev cX5_greatestLevel : ByteArray := prog_1_method_31_code
def yX5_greatestLevel : MethodName := ⟨RX5, "greatestLevel", "(II)I"⟩
abbrev cX5_isHalfWithin : ByteArray := prog_1_method_32_code
def yX5_isHalfWithin : MethodName := ⟨RX5, "isHalfWithin", "(III)Z"⟩
def RX6 : String := "CountcoteModel"
def TX6 : u_T := fun k => match k with
  | _ => ("", "", "", false)
def tyX6 : Nat → FieldType := fun k => match k with
  | _ => .int
abbrev wsX60 : List Cond := u_ws RX6 TX6 0
theorem nmX6 : ∀ a, a < 0 → ∀ b, b < 0 → a ≠ b → (TX6 a).2.1 ≠ (TX6 b).2.1 := by decide +kernel
theorem tyX6_ok : ∀ k, k < 0 → parseFieldDescriptor (TX6 k).2.2.1 = some (tyX6 k) := by decide +kernel
def RJx145de : String := "java/io/Serializable"
def TJx145de : u_T := fun k => match k with
  | _ => ("", "", "", false)
def tyJx145de : Nat → FieldType := fun k => match k with
  | _ => .int
abbrev wsJx145de0 : List Cond := u_ws RJx145de TJx145de 0
theorem nmJx145de : ∀ a, a < 0 → ∀ b, b < 0 → a ≠ b → (TJx145de a).2.1 ≠ (TJx145de b).2.1 := by decide +kernel
theorem tyJx145de_ok : ∀ k, k < 0 → parseFieldDescriptor (TJx145de k).2.2.1 = some (tyJx145de k) := by decide +kernel
def RJ9 : String := "java/lang/Math"
def TJ9 : u_T := fun k => match k with
  | _ => ("", "", "", false)
def tyJ9 : Nat → FieldType := fun k => match k with
  | _ => .int
abbrev wsJ90 : List Cond := u_ws RJ9 TJ9 0
theorem nmJ9 : ∀ a, a < 0 → ∀ b, b < 0 → a ≠ b → (TJ9 a).2.1 ≠ (TJ9 b).2.1 := by decide +kernel
theorem tyJ9_ok : ∀ k, k < 0 → parseFieldDescriptor (TJ9 k).2.2.1 = some (tyJ9 k) := by decide +kernel
abbrev cJ9_max_7cf53 : ByteArray := prog_14_method_65_code
def yJ9_max_7cf53 : MethodName := ⟨RJ9, "max", "(II)I"⟩
abbrev cJ9_min_7cf53 : ByteArray := prog_14_method_69_code
def yJ9_min_7cf53 : MethodName := ⟨RJ9, "min", "(II)I"⟩
def RJ0 : String := "java/lang/String"
def TJ0 : u_T := fun k => match k with
  | _ => ("", "", "", false)
def tyJ0 : Nat → FieldType := fun k => match k with
  | _ => .int
abbrev wsJ00 : List Cond := u_ws RJ0 TJ0 0
theorem nmJ0 : ∀ a, a < 0 → ∀ b, b < 0 → a ≠ b → (TJ0 a).2.1 ≠ (TJ0 b).2.1 := by decide +kernel
theorem tyJ0_ok : ∀ k, k < 0 → parseFieldDescriptor (TJ0 k).2.2.1 = some (tyJ0 k) := by decide +kernel
def RJ7 : String := "java/util/Arrays"
def TJ7 : u_T := fun k => match k with
  | _ => ("", "", "", false)
def tyJ7 : Nat → FieldType := fun k => match k with
  | _ => .int
abbrev wsJ70 : List Cond := u_ws RJ7 TJ7 0
theorem nmJ7 : ∀ a, a < 0 → ∀ b, b < 0 → a ≠ b → (TJ7 a).2.1 ≠ (TJ7 b).2.1 := by decide +kernel
theorem tyJ7_ok : ∀ k, k < 0 → parseFieldDescriptor (TJ7 k).2.2.1 = some (tyJ7 k) := by decide +kernel
abbrev cJ7_fill_53178 : ByteArray := prog_18_method_103_code
def yJ7_fill_53178 : MethodName := ⟨RJ7, "fill", "([II)V"⟩
def RL : String := "CountcoteLaw"
abbrev cL_draw : ByteArray := method_2_code
def yL_draw : MethodName := ⟨RL, "draw", "([II)I"⟩
abbrev cL_step : ByteArray := method_3_code
def yL_step : MethodName := ⟨RL, "step", "(LCountcote;III)Z"⟩
abbrev cL_areHalves : ByteArray := method_4_code
def yL_areHalves : MethodName := ⟨RL, "areHalves", "(LCountcote;I)Z"⟩
abbrev cL_areCounters : ByteArray := method_5_code
def yL_areCounters : MethodName := ⟨RL, "areCounters", "(LCountcote;I)Z"⟩
abbrev cL_areRows : ByteArray := method_6_code
def yL_areRows : MethodName := ⟨RL, "areRows", "(LCountcote;I)Z"⟩
abbrev cL_areAsked : ByteArray := method_7_code
def yL_areAsked : MethodName := ⟨RL, "areAsked", "(LCountcote;IIII)Z"⟩
abbrev cL_law : ByteArray := code
def yL_law : MethodName := ⟨RL, "law", "([I)Z"⟩
def wsX0_init : List Cond := .code yX0_init cX0_init 1 none :: ([.methodLink RX0 1 objectInit, .instanceMethod objectInit, .code objectInit ⟨#[0xb1]⟩ 1 none, .arrayClass .int, .fieldLink RX0 9 "Countcote$CarefulSketch" "cells" "[I"] ++ wsX00)
def wsX0_columnOf : List Cond := .code yX0_columnOf cX0_columnOf 2 (some .int) :: ([.fieldLink RX0 13 "Countcote$CarefulSketch" "FACTORS" "[I", .fieldLink RX0 16 "Countcote$CarefulSketch" "SHIFTS" "[I"])
def wsX0_placeOf : List Cond := .code yX0_placeOf cX0_placeOf 2 (some .int) :: ([.methodLink RX0 19 yX0_columnOf, .static yX0_columnOf, .initialized RX0, .code yX0_columnOf cX0_columnOf 2 (some .int), .fieldLink RX0 13 "Countcote$CarefulSketch" "FACTORS" "[I", .fieldLink RX0 16 "Countcote$CarefulSketch" "SHIFTS" "[I"])
def wsX0_cellAt : List Cond := .code yX0_cellAt cX0_cellAt 3 (some .int) :: ([.fieldLink RX0 9 "Countcote$CarefulSketch" "cells" "[I"] ++ wsX00)
def wsX0_leastOf : List Cond := .code yX0_leastOf cX0_leastOf 4 (some .int) :: ([.fieldLink RX0 9 "Countcote$CarefulSketch" "cells" "[I", .methodLink RX0 26 Lib.Math.min.name, .static Lib.Math.min.name, .initialized "java/lang/Math", .code Lib.Math.min.name Lib.Math.min.code 2 (some .int), .methodLink RX0 23 yX0_placeOf, .static yX0_placeOf, .initialized RX0, .code yX0_placeOf cX0_placeOf 2 (some .int), .methodLink RX0 19 yX0_columnOf, .static yX0_columnOf, .code yX0_columnOf cX0_columnOf 2 (some .int), .fieldLink RX0 13 "Countcote$CarefulSketch" "FACTORS" "[I", .fieldLink RX0 16 "Countcote$CarefulSketch" "SHIFTS" "[I"] ++ wsX00)
def wsX0_put : List Cond := .code yX0_put cX0_put 6 none :: ([.fieldLink RX0 9 "Countcote$CarefulSketch" "cells" "[I", .methodLink RX0 35 Lib.Math.max.name, .static Lib.Math.max.name, .initialized "java/lang/Math", .code Lib.Math.max.name Lib.Math.max.code 2 (some .int), .methodLink RX0 31 yX0_leastOf, .instanceMethod yX0_leastOf, .selects RX0 yX0_leastOf yX0_leastOf, .initialized RX0, .code yX0_leastOf cX0_leastOf 4 (some .int), .methodLink RX0 26 Lib.Math.min.name, .static Lib.Math.min.name, .code Lib.Math.min.name Lib.Math.min.code 2 (some .int), .methodLink RX0 23 yX0_placeOf, .static yX0_placeOf, .code yX0_placeOf cX0_placeOf 2 (some .int), .methodLink RX0 19 yX0_columnOf, .static yX0_columnOf, .code yX0_columnOf cX0_columnOf 2 (some .int), .fieldLink RX0 13 "Countcote$CarefulSketch" "FACTORS" "[I", .fieldLink RX0 16 "Countcote$CarefulSketch" "SHIFTS" "[I"] ++ wsX00)
def wsX0_join : List Cond := .code yX0_join cX0_join 3 none :: ([.fieldLink RX0 9 "Countcote$CarefulSketch" "cells" "[I"] ++ wsX00)
def wsJ7_fill_53178 : List Cond := .code yJ7_fill_53178 cJ7_fill_53178 4 none :: ([])
def wsX0_empty : List Cond := .code yX0_empty cX0_empty 1 none :: ([.fieldLink RX0 9 "Countcote$CarefulSketch" "cells" "[I", .methodLink RX0 38 yJ7_fill_53178, .static yJ7_fill_53178, .initialized RJ7, .code yJ7_fill_53178 cJ7_fill_53178 4 none] ++ wsX00)
def wsX1_init : List Cond := .code yX1_init cX1_init 1 none :: ([.methodLink RX1 3 objectInit, .instanceMethod objectInit, .code objectInit ⟨#[0xb1]⟩ 1 none, .arrayClass .int, .fieldLink RX1 11 "Countcote$FewCounters" "items" "[I", .fieldLink RX1 15 "Countcote$FewCounters" "weights" "[I"] ++ wsX10)
def wsX1_placeOf : List Cond := .code yX1_placeOf cX1_placeOf 3 (some .int) :: ([.fieldLink RX1 22 "Countcote$FewCounters" "used" "I", .fieldLink RX1 11 "Countcote$FewCounters" "items" "[I"] ++ wsX10)
def wsX1_weightOf : List Cond := .code yX1_weightOf cX1_weightOf 3 (some .int) :: ([.fieldLink RX1 15 "Countcote$FewCounters" "weights" "[I", .methodLink RX1 18 yX1_placeOf, .instanceMethod yX1_placeOf, .selects RX1 yX1_placeOf yX1_placeOf, .initialized RX1, .code yX1_placeOf cX1_placeOf 3 (some .int), .fieldLink RX1 22 "Countcote$FewCounters" "used" "I", .fieldLink RX1 11 "Countcote$FewCounters" "items" "[I"] ++ wsX10)
def wsX1_grow : List Cond := .code yX1_grow cX1_grow 4 none :: ([.fieldLink RX1 15 "Countcote$FewCounters" "weights" "[I", .fieldLink RX1 22 "Countcote$FewCounters" "used" "I", .fieldLink RX1 11 "Countcote$FewCounters" "items" "[I", .methodLink RX1 18 yX1_placeOf, .instanceMethod yX1_placeOf, .selects RX1 yX1_placeOf yX1_placeOf, .initialized RX1, .code yX1_placeOf cX1_placeOf 3 (some .int)] ++ wsX10)
def wsX1_leastWeight : List Cond := .code yX1_leastWeight cX1_leastWeight 3 (some .int) :: ([.fieldLink RX1 15 "Countcote$FewCounters" "weights" "[I", .fieldLink RX1 22 "Countcote$FewCounters" "used" "I", .methodLink RX1 34 Lib.Math.min.name, .static Lib.Math.min.name, .initialized "java/lang/Math", .code Lib.Math.min.name Lib.Math.min.code 2 (some .int)] ++ wsX10)
def wsX1_takeAway : List Cond := .code yX1_takeAway cX1_takeAway 5 none :: ([.fieldLink RX1 22 "Countcote$FewCounters" "used" "I", .fieldLink RX1 15 "Countcote$FewCounters" "weights" "[I", .fieldLink RX1 11 "Countcote$FewCounters" "items" "[I", .fieldLink RX1 44 "Countcote$FewCounters" "away" "I"] ++ wsX10)
def wsX1_put_r1 : List Cond := [Cond.fieldLink RX1 22 "Countcote$FewCounters" "used" "I", Cond.methodLink RX1 34 Lib.Math.min.name, Cond.static Lib.Math.min.name, Cond.initialized "java/lang/Math", Cond.code Lib.Math.min.name Lib.Math.min.code 2 (some .int), Cond.methodLink RX1 18 yX1_placeOf, Cond.instanceMethod yX1_placeOf, Cond.selects RX1 yX1_placeOf yX1_placeOf, Cond.initialized RX1, Cond.code yX1_placeOf cX1_placeOf 3 (some .int), Cond.fieldLink RX1 11 "Countcote$FewCounters" "items" "[I", Cond.methodLink RX1 26 yX1_grow, Cond.instanceMethod yX1_grow, Cond.selects RX1 yX1_grow yX1_grow, Cond.code yX1_grow cX1_grow 4 none, Cond.fieldLink RX1 15 "Countcote$FewCounters" "weights" "[I", Cond.methodLink RX1 30 yX1_leastWeight, Cond.instanceMethod yX1_leastWeight, Cond.selects RX1 yX1_leastWeight yX1_leastWeight, Cond.code yX1_leastWeight cX1_leastWeight 3 (some .int), Cond.methodLink RX1 40 yX1_takeAway, Cond.instanceMethod yX1_takeAway, Cond.selects RX1 yX1_takeAway yX1_takeAway, Cond.code yX1_takeAway cX1_takeAway 5 none]
def wsX1_put_r2 : List Cond := [Cond.fieldLink RX1 44 "Countcote$FewCounters" "away" "I"]
def wsX1_put : List Cond := .code yX1_put cX1_put 4 none :: ((wsX1_put_r1 ++ wsX1_put_r2) ++ wsX10)
def wsX1_countersReaching : List Cond := .code yX1_countersReaching cX1_countersReaching 4 (some .int) :: ([.fieldLink RX1 22 "Countcote$FewCounters" "used" "I", .fieldLink RX1 15 "Countcote$FewCounters" "weights" "[I"] ++ wsX10)
def wsX1_weightReachedBy : List Cond := .code yX1_weightReachedBy cX1_weightReachedBy 4 (some .int) :: ([.fieldLink RX1 22 "Countcote$FewCounters" "used" "I", .fieldLink RX1 15 "Countcote$FewCounters" "weights" "[I", .methodLink RX1 50 yX1_countersReaching, .instanceMethod yX1_countersReaching, .selects RX1 yX1_countersReaching yX1_countersReaching, .initialized RX1, .code yX1_countersReaching cX1_countersReaching 4 (some .int)] ++ wsX10)
def wsX1_join_r1 : List Cond := [Cond.fieldLink RX1 22 "Countcote$FewCounters" "used" "I", Cond.fieldLink RX1 11 "Countcote$FewCounters" "items" "[I", Cond.fieldLink RX1 15 "Countcote$FewCounters" "weights" "[I", Cond.fieldLink RX1 44 "Countcote$FewCounters" "away" "I", Cond.methodLink RX1 26 yX1_grow, Cond.instanceMethod yX1_grow, Cond.selects RX1 yX1_grow yX1_grow, Cond.initialized RX1, Cond.code yX1_grow cX1_grow 4 none, Cond.methodLink RX1 18 yX1_placeOf, Cond.instanceMethod yX1_placeOf, Cond.selects RX1 yX1_placeOf yX1_placeOf, Cond.code yX1_placeOf cX1_placeOf 3 (some .int), Cond.methodLink RX1 47 yX1_weightReachedBy, Cond.instanceMethod yX1_weightReachedBy, Cond.selects RX1 yX1_weightReachedBy yX1_weightReachedBy, Cond.code yX1_weightReachedBy cX1_weightReachedBy 4 (some .int), Cond.methodLink RX1 50 yX1_countersReaching, Cond.instanceMethod yX1_countersReaching, Cond.selects RX1 yX1_countersReaching yX1_countersReaching, Cond.code yX1_countersReaching cX1_countersReaching 4 (some .int), Cond.methodLink RX1 40 yX1_takeAway, Cond.instanceMethod yX1_takeAway, Cond.selects RX1 yX1_takeAway yX1_takeAway]
def wsX1_join_r2 : List Cond := [Cond.code yX1_takeAway cX1_takeAway 5 none]
def wsX1_join : List Cond := .code yX1_join cX1_join 3 none :: ((wsX1_join_r1 ++ wsX1_join_r2) ++ wsX10)
def wsX1_empty : List Cond := .code yX1_empty cX1_empty 1 none :: ([.fieldLink RX1 22 "Countcote$FewCounters" "used" "I", .fieldLink RX1 44 "Countcote$FewCounters" "away" "I"] ++ wsX10)
def wsX2_init : List Cond := .code yX2_init cX2_init 1 none :: ([.methodLink RX2 3 objectInit, .instanceMethod objectInit, .code objectInit ⟨#[0xb1]⟩ 1 none, .arrayClass .int, .fieldLink RX2 9 "Countcote$PlainCounts" "sums" "[I"] ++ wsX20)
def wsX2_put : List Cond := .code yX2_put cX2_put 4 none :: ([.fieldLink RX2 9 "Countcote$PlainCounts" "sums" "[I"] ++ wsX20)
def wsX2_join : List Cond := .code yX2_join cX2_join 3 none :: ([.fieldLink RX2 9 "Countcote$PlainCounts" "sums" "[I"] ++ wsX20)
def wsX2_empty : List Cond := .code yX2_empty cX2_empty 1 none :: ([.fieldLink RX2 9 "Countcote$PlainCounts" "sums" "[I", .methodLink RX2 15 yJ7_fill_53178, .static yJ7_fill_53178, .initialized RJ7, .code yJ7_fill_53178 cJ7_fill_53178 4 none] ++ wsX20)
def wsX2_sum : List Cond := .code yX2_sum cX2_sum 1 (some .int) :: ([.fieldLink RX2 9 "Countcote$PlainCounts" "sums" "[I"] ++ wsX20)
def wsX2_ofHalf : List Cond := .code yX2_ofHalf cX2_ofHalf 3 (some .int) :: ([.fieldLink RX2 9 "Countcote$PlainCounts" "sums" "[I"] ++ wsX20)
def wsX2_ofItems : List Cond := .code yX2_ofItems cX2_ofItems 5 (some .int) :: ([.fieldLink RX2 9 "Countcote$PlainCounts" "sums" "[I"] ++ wsX20)
def wsX2_times : List Cond := .code yX2_times cX2_times 5 (some .long) :: ([.fieldLink RX2 9 "Countcote$PlainCounts" "sums" "[I"] ++ wsX20)
def wsX3_init : List Cond := .code yX3_init cX3_init 1 none :: ([.methodLink RX3 1 objectInit, .instanceMethod objectInit, .code objectInit ⟨#[0xb1]⟩ 1 none, .arrayClass .int, .fieldLink RX3 9 "Countcote$SignedSketch" "cells" "[I", .arrayClass .long, .fieldLink RX3 13 "Countcote$SignedSketch" "numbers" "[J"] ++ wsX30)
def wsX3_columnOf : List Cond := .code yX3_columnOf cX3_columnOf 2 (some .int) :: ([.fieldLink RX3 17 "Countcote$SignedSketch" "COLUMN_FACTORS" "[I", .fieldLink RX3 20 "Countcote$SignedSketch" "COLUMN_SHIFTS" "[I"])
def wsX3_signOf : List Cond := .code yX3_signOf cX3_signOf 2 (some .int) :: ([.fieldLink RX3 23 "Countcote$SignedSketch" "SIGN_FACTORS" "[I", .fieldLink RX3 26 "Countcote$SignedSketch" "SIGN_SHIFTS" "[I"])
def wsX3_placeOf : List Cond := .code yX3_placeOf cX3_placeOf 2 (some .int) :: ([.methodLink RX3 29 yX3_columnOf, .static yX3_columnOf, .initialized RX3, .code yX3_columnOf cX3_columnOf 2 (some .int), .fieldLink RX3 17 "Countcote$SignedSketch" "COLUMN_FACTORS" "[I", .fieldLink RX3 20 "Countcote$SignedSketch" "COLUMN_SHIFTS" "[I"])
def wsX3_cellAt : List Cond := .code yX3_cellAt cX3_cellAt 3 (some .int) :: ([.fieldLink RX3 9 "Countcote$SignedSketch" "cells" "[I"] ++ wsX30)
def wsX3_put : List Cond := .code yX3_put cX3_put 4 none :: ([.fieldLink RX3 9 "Countcote$SignedSketch" "cells" "[I", .methodLink RX3 33 yX3_placeOf, .static yX3_placeOf, .initialized RX3, .code yX3_placeOf cX3_placeOf 2 (some .int), .methodLink RX3 29 yX3_columnOf, .static yX3_columnOf, .code yX3_columnOf cX3_columnOf 2 (some .int), .fieldLink RX3 17 "Countcote$SignedSketch" "COLUMN_FACTORS" "[I", .fieldLink RX3 20 "Countcote$SignedSketch" "COLUMN_SHIFTS" "[I", .methodLink RX3 36 yX3_signOf, .static yX3_signOf, .code yX3_signOf cX3_signOf 2 (some .int), .fieldLink RX3 23 "Countcote$SignedSketch" "SIGN_FACTORS" "[I", .fieldLink RX3 26 "Countcote$SignedSketch" "SIGN_SHIFTS" "[I"] ++ wsX30)
def wsX3_join : List Cond := .code yX3_join cX3_join 3 none :: ([.fieldLink RX3 9 "Countcote$SignedSketch" "cells" "[I"] ++ wsX30)
def wsX3_empty : List Cond := .code yX3_empty cX3_empty 1 none :: ([.fieldLink RX3 9 "Countcote$SignedSketch" "cells" "[I", .methodLink RX3 39 yJ7_fill_53178, .static yJ7_fill_53178, .initialized RJ7, .code yJ7_fill_53178 cJ7_fill_53178 4 none] ++ wsX30)
def wsX3_rowProduct : List Cond := .code yX3_rowProduct cX3_rowProduct 6 (some .long) :: ([.methodLink RX3 53 yX3_cellAt, .instanceMethod yX3_cellAt, .selects RX3 yX3_cellAt yX3_cellAt, .initialized RX3, .code yX3_cellAt cX3_cellAt 3 (some .int), .fieldLink RX3 9 "Countcote$SignedSketch" "cells" "[I"] ++ wsX30)
def wsX3_middleNumber : List Cond := .code yX3_middleNumber cX3_middleNumber 5 (some .long) :: ([.fieldLink RX3 13 "Countcote$SignedSketch" "numbers" "[J"] ++ wsX30)
def wsX3_middleProduct : List Cond := .code yX3_middleProduct cX3_middleProduct 3 (some .long) :: ([.fieldLink RX3 13 "Countcote$SignedSketch" "numbers" "[J", .methodLink RX3 49 yX3_rowProduct, .instanceMethod yX3_rowProduct, .selects RX3 yX3_rowProduct yX3_rowProduct, .initialized RX3, .code yX3_rowProduct cX3_rowProduct 6 (some .long), .methodLink RX3 53 yX3_cellAt, .instanceMethod yX3_cellAt, .selects RX3 yX3_cellAt yX3_cellAt, .code yX3_cellAt cX3_cellAt 3 (some .int), .fieldLink RX3 9 "Countcote$SignedSketch" "cells" "[I", .methodLink RX3 45 yX3_middleNumber, .instanceMethod yX3_middleNumber, .selects RX3 yX3_middleNumber yX3_middleNumber, .code yX3_middleNumber cX3_middleNumber 5 (some .long)] ++ wsX30)
def wsX4_init_r1 : List Cond := [Cond.methodLink RX4 3 objectInit, Cond.instanceMethod objectInit, Cond.code objectInit ⟨#[0xb1]⟩ 1 none, Cond.classLink RX4 9 RX2, Cond.instantiable RX2 1, Cond.initialized RX2, Cond.fieldLink RX4 12 "Countcote$Stream" "plain" "LCountcote$PlainCounts;", Cond.classLink RX4 18 RX0, Cond.fieldLink RX4 20 "Countcote$Stream" "careful" "[LCountcote$CarefulSketch;", Cond.classLink RX4 24 RX3, Cond.instantiable RX3 2, Cond.initialized RX3, Cond.fieldLink RX4 27 "Countcote$Stream" "signed" "LCountcote$SignedSketch;", Cond.classLink RX4 31 RX1, Cond.instantiable RX1 4, Cond.initialized RX1, Cond.fieldLink RX4 34 "Countcote$Stream" "few" "LCountcote$FewCounters;", Cond.instantiable RX0 1, Cond.initialized RX0, Cond.instanceMethod yX2_init, Cond.code yX2_init cX2_init 1 none, Cond.methodLink RX2 3 objectInit, Cond.arrayClass .int, Cond.fieldLink RX2 9 "Countcote$PlainCounts" "sums" "[I"]
def wsX4_init_r2 : List Cond := [Cond.instanceMethod yX3_init, Cond.code yX3_init cX3_init 1 none, Cond.methodLink RX3 1 objectInit, Cond.fieldLink RX3 9 "Countcote$SignedSketch" "cells" "[I", Cond.arrayClass .long, Cond.fieldLink RX3 13 "Countcote$SignedSketch" "numbers" "[J", Cond.instanceMethod yX1_init, Cond.code yX1_init cX1_init 1 none, Cond.methodLink RX1 3 objectInit, Cond.fieldLink RX1 11 "Countcote$FewCounters" "items" "[I", Cond.fieldLink RX1 15 "Countcote$FewCounters" "weights" "[I", Cond.instanceMethod yX0_init, Cond.code yX0_init cX0_init 1 none, Cond.methodLink RX0 1 objectInit, Cond.fieldLink RX0 9 "Countcote$CarefulSketch" "cells" "[I"]
def wsX4_init : List Cond := .code yX4_init cX4_init 2 none :: ((wsX4_init_r1 ++ wsX4_init_r2) ++ wsX20 ++ wsX40 ++ wsX30 ++ wsX10 ++ wsX00)
def wsX4_put_r1 : List Cond := [Cond.fieldLink RX4 12 "Countcote$Stream" "plain" "LCountcote$PlainCounts;", Cond.fieldLink RX4 20 "Countcote$Stream" "careful" "[LCountcote$CarefulSketch;", Cond.fieldLink RX4 27 "Countcote$Stream" "signed" "LCountcote$SignedSketch;", Cond.fieldLink RX4 34 "Countcote$Stream" "few" "LCountcote$FewCounters;", Cond.methodLink RX4 39 yX2_put, Cond.instanceMethod yX2_put, Cond.selects RX2 yX2_put yX2_put, Cond.initialized RX2, Cond.code yX2_put cX2_put 4 none, Cond.fieldLink RX2 9 "Countcote$PlainCounts" "sums" "[I", Cond.methodLink RX4 43 yX0_put, Cond.instanceMethod yX0_put, Cond.selects RX0 yX0_put yX0_put, Cond.initialized RX0, Cond.code yX0_put cX0_put 6 none, Cond.fieldLink RX0 9 "Countcote$CarefulSketch" "cells" "[I", Cond.methodLink RX0 35 Lib.Math.max.name, Cond.static Lib.Math.max.name, Cond.initialized "java/lang/Math", Cond.code Lib.Math.max.name Lib.Math.max.code 2 (some .int), Cond.methodLink RX0 31 yX0_leastOf, Cond.instanceMethod yX0_leastOf, Cond.selects RX0 yX0_leastOf yX0_leastOf, Cond.code yX0_leastOf cX0_leastOf 4 (some .int)]
def wsX4_put_r2 : List Cond := [Cond.methodLink RX0 26 Lib.Math.min.name, Cond.static Lib.Math.min.name, Cond.code Lib.Math.min.name Lib.Math.min.code 2 (some .int), Cond.methodLink RX0 23 yX0_placeOf, Cond.static yX0_placeOf, Cond.code yX0_placeOf cX0_placeOf 2 (some .int), Cond.methodLink RX0 19 yX0_columnOf, Cond.static yX0_columnOf, Cond.code yX0_columnOf cX0_columnOf 2 (some .int), Cond.fieldLink RX0 13 "Countcote$CarefulSketch" "FACTORS" "[I", Cond.fieldLink RX0 16 "Countcote$CarefulSketch" "SHIFTS" "[I", Cond.methodLink RX4 44 yX3_put, Cond.instanceMethod yX3_put, Cond.selects RX3 yX3_put yX3_put, Cond.initialized RX3, Cond.code yX3_put cX3_put 4 none, Cond.fieldLink RX3 9 "Countcote$SignedSketch" "cells" "[I", Cond.methodLink RX3 33 yX3_placeOf, Cond.static yX3_placeOf, Cond.code yX3_placeOf cX3_placeOf 2 (some .int), Cond.methodLink RX3 29 yX3_columnOf, Cond.static yX3_columnOf, Cond.code yX3_columnOf cX3_columnOf 2 (some .int), Cond.fieldLink RX3 17 "Countcote$SignedSketch" "COLUMN_FACTORS" "[I"]
def wsX4_put_r3 : List Cond := [Cond.fieldLink RX3 20 "Countcote$SignedSketch" "COLUMN_SHIFTS" "[I", Cond.methodLink RX3 36 yX3_signOf, Cond.static yX3_signOf, Cond.code yX3_signOf cX3_signOf 2 (some .int), Cond.fieldLink RX3 23 "Countcote$SignedSketch" "SIGN_FACTORS" "[I", Cond.fieldLink RX3 26 "Countcote$SignedSketch" "SIGN_SHIFTS" "[I", Cond.methodLink RX4 45 yX1_put, Cond.instanceMethod yX1_put, Cond.selects RX1 yX1_put yX1_put, Cond.initialized RX1, Cond.code yX1_put cX1_put 4 none, Cond.fieldLink RX1 22 "Countcote$FewCounters" "used" "I", Cond.methodLink RX1 34 Lib.Math.min.name, Cond.methodLink RX1 18 yX1_placeOf, Cond.instanceMethod yX1_placeOf, Cond.selects RX1 yX1_placeOf yX1_placeOf, Cond.code yX1_placeOf cX1_placeOf 3 (some .int), Cond.fieldLink RX1 11 "Countcote$FewCounters" "items" "[I", Cond.methodLink RX1 26 yX1_grow, Cond.instanceMethod yX1_grow, Cond.selects RX1 yX1_grow yX1_grow, Cond.code yX1_grow cX1_grow 4 none, Cond.fieldLink RX1 15 "Countcote$FewCounters" "weights" "[I", Cond.methodLink RX1 30 yX1_leastWeight]
def wsX4_put_r4 : List Cond := [Cond.instanceMethod yX1_leastWeight, Cond.selects RX1 yX1_leastWeight yX1_leastWeight, Cond.code yX1_leastWeight cX1_leastWeight 3 (some .int), Cond.methodLink RX1 40 yX1_takeAway, Cond.instanceMethod yX1_takeAway, Cond.selects RX1 yX1_takeAway yX1_takeAway, Cond.code yX1_takeAway cX1_takeAway 5 none, Cond.fieldLink RX1 44 "Countcote$FewCounters" "away" "I"]
def wsX4_put : List Cond := .code yX4_put cX4_put 4 none :: ((wsX4_put_r1 ++ (wsX4_put_r2 ++ (wsX4_put_r3 ++ wsX4_put_r4))) ++ wsX40 ++ wsX20 ++ wsX00 ++ wsX30 ++ wsX10)
def wsX4_join_r1 : List Cond := [Cond.fieldLink RX4 12 "Countcote$Stream" "plain" "LCountcote$PlainCounts;", Cond.fieldLink RX4 20 "Countcote$Stream" "careful" "[LCountcote$CarefulSketch;", Cond.fieldLink RX4 27 "Countcote$Stream" "signed" "LCountcote$SignedSketch;", Cond.fieldLink RX4 34 "Countcote$Stream" "few" "LCountcote$FewCounters;", Cond.methodLink RX4 46 yX2_join, Cond.instanceMethod yX2_join, Cond.selects RX2 yX2_join yX2_join, Cond.initialized RX2, Cond.code yX2_join cX2_join 3 none, Cond.fieldLink RX2 9 "Countcote$PlainCounts" "sums" "[I", Cond.methodLink RX4 50 yX0_join, Cond.instanceMethod yX0_join, Cond.selects RX0 yX0_join yX0_join, Cond.initialized RX0, Cond.code yX0_join cX0_join 3 none, Cond.fieldLink RX0 9 "Countcote$CarefulSketch" "cells" "[I", Cond.methodLink RX4 53 yX3_join, Cond.instanceMethod yX3_join, Cond.selects RX3 yX3_join yX3_join, Cond.initialized RX3, Cond.code yX3_join cX3_join 3 none, Cond.fieldLink RX3 9 "Countcote$SignedSketch" "cells" "[I", Cond.methodLink RX4 56 yX1_join, Cond.instanceMethod yX1_join]
def wsX4_join_r2 : List Cond := [Cond.selects RX1 yX1_join yX1_join, Cond.initialized RX1, Cond.code yX1_join cX1_join 3 none, Cond.fieldLink RX1 22 "Countcote$FewCounters" "used" "I", Cond.fieldLink RX1 11 "Countcote$FewCounters" "items" "[I", Cond.fieldLink RX1 15 "Countcote$FewCounters" "weights" "[I", Cond.fieldLink RX1 44 "Countcote$FewCounters" "away" "I", Cond.methodLink RX1 26 yX1_grow, Cond.instanceMethod yX1_grow, Cond.selects RX1 yX1_grow yX1_grow, Cond.code yX1_grow cX1_grow 4 none, Cond.methodLink RX1 18 yX1_placeOf, Cond.instanceMethod yX1_placeOf, Cond.selects RX1 yX1_placeOf yX1_placeOf, Cond.code yX1_placeOf cX1_placeOf 3 (some .int), Cond.methodLink RX1 47 yX1_weightReachedBy, Cond.instanceMethod yX1_weightReachedBy, Cond.selects RX1 yX1_weightReachedBy yX1_weightReachedBy, Cond.code yX1_weightReachedBy cX1_weightReachedBy 4 (some .int), Cond.methodLink RX1 50 yX1_countersReaching, Cond.instanceMethod yX1_countersReaching, Cond.selects RX1 yX1_countersReaching yX1_countersReaching, Cond.code yX1_countersReaching cX1_countersReaching 4 (some .int), Cond.methodLink RX1 40 yX1_takeAway]
def wsX4_join_r3 : List Cond := [Cond.instanceMethod yX1_takeAway, Cond.selects RX1 yX1_takeAway yX1_takeAway, Cond.code yX1_takeAway cX1_takeAway 5 none]
def wsX4_join : List Cond := .code yX4_join cX4_join 3 none :: ((wsX4_join_r1 ++ (wsX4_join_r2 ++ wsX4_join_r3)) ++ wsX40 ++ wsX20 ++ wsX00 ++ wsX30 ++ wsX10)
def wsX4_empty_r1 : List Cond := [Cond.fieldLink RX4 12 "Countcote$Stream" "plain" "LCountcote$PlainCounts;", Cond.fieldLink RX4 20 "Countcote$Stream" "careful" "[LCountcote$CarefulSketch;", Cond.fieldLink RX4 27 "Countcote$Stream" "signed" "LCountcote$SignedSketch;", Cond.fieldLink RX4 34 "Countcote$Stream" "few" "LCountcote$FewCounters;", Cond.methodLink RX4 59 yX2_empty, Cond.instanceMethod yX2_empty, Cond.selects RX2 yX2_empty yX2_empty, Cond.initialized RX2, Cond.code yX2_empty cX2_empty 1 none, Cond.fieldLink RX2 9 "Countcote$PlainCounts" "sums" "[I", Cond.methodLink RX2 15 yJ7_fill_53178, Cond.static yJ7_fill_53178, Cond.initialized RJ7, Cond.code yJ7_fill_53178 cJ7_fill_53178 4 none, Cond.methodLink RX4 62 yX0_empty, Cond.instanceMethod yX0_empty, Cond.selects RX0 yX0_empty yX0_empty, Cond.initialized RX0, Cond.code yX0_empty cX0_empty 1 none, Cond.fieldLink RX0 9 "Countcote$CarefulSketch" "cells" "[I", Cond.methodLink RX0 38 yJ7_fill_53178, Cond.methodLink RX4 63 yX3_empty, Cond.instanceMethod yX3_empty, Cond.selects RX3 yX3_empty yX3_empty]
def wsX4_empty_r2 : List Cond := [Cond.initialized RX3, Cond.code yX3_empty cX3_empty 1 none, Cond.fieldLink RX3 9 "Countcote$SignedSketch" "cells" "[I", Cond.methodLink RX3 39 yJ7_fill_53178, Cond.methodLink RX4 64 yX1_empty, Cond.instanceMethod yX1_empty, Cond.selects RX1 yX1_empty yX1_empty, Cond.initialized RX1, Cond.code yX1_empty cX1_empty 1 none, Cond.fieldLink RX1 22 "Countcote$FewCounters" "used" "I", Cond.fieldLink RX1 44 "Countcote$FewCounters" "away" "I"]
def wsX4_empty : List Cond := .code yX4_empty cX4_empty 2 none :: ((wsX4_empty_r1 ++ wsX4_empty_r2) ++ wsX40 ++ wsX20 ++ wsX00 ++ wsX30 ++ wsX10)
def wsX4_estimateOf_r1 : List Cond := [Cond.fieldLink RX4 20 "Countcote$Stream" "careful" "[LCountcote$CarefulSketch;", Cond.fieldLink RX4 12 "Countcote$Stream" "plain" "LCountcote$PlainCounts;", Cond.methodLink RX4 65 yX0_leastOf, Cond.instanceMethod yX0_leastOf, Cond.selects RX0 yX0_leastOf yX0_leastOf, Cond.initialized RX0, Cond.code yX0_leastOf cX0_leastOf 4 (some .int), Cond.fieldLink RX0 9 "Countcote$CarefulSketch" "cells" "[I", Cond.methodLink RX0 26 Lib.Math.min.name, Cond.static Lib.Math.min.name, Cond.initialized "java/lang/Math", Cond.code Lib.Math.min.name Lib.Math.min.code 2 (some .int), Cond.methodLink RX0 23 yX0_placeOf, Cond.static yX0_placeOf, Cond.code yX0_placeOf cX0_placeOf 2 (some .int), Cond.methodLink RX0 19 yX0_columnOf, Cond.static yX0_columnOf, Cond.code yX0_columnOf cX0_columnOf 2 (some .int), Cond.fieldLink RX0 13 "Countcote$CarefulSketch" "FACTORS" "[I", Cond.fieldLink RX0 16 "Countcote$CarefulSketch" "SHIFTS" "[I", Cond.methodLink RX4 69 yX2_ofHalf, Cond.instanceMethod yX2_ofHalf, Cond.selects RX2 yX2_ofHalf yX2_ofHalf, Cond.initialized RX2]
def wsX4_estimateOf_r2 : List Cond := [Cond.code yX2_ofHalf cX2_ofHalf 3 (some .int), Cond.fieldLink RX2 9 "Countcote$PlainCounts" "sums" "[I"]
def wsX4_estimateOf : List Cond := .code yX4_estimateOf cX4_estimateOf 3 (some .int) :: ((wsX4_estimateOf_r1 ++ wsX4_estimateOf_r2) ++ wsX40 ++ wsX00 ++ wsX20)
def wsX4_reaches_r1 : List Cond := [Cond.methodLink RX4 73 yX4_estimateOf, Cond.instanceMethod yX4_estimateOf, Cond.selects RX4 yX4_estimateOf yX4_estimateOf, Cond.initialized RX4, Cond.code yX4_estimateOf cX4_estimateOf 3 (some .int), Cond.fieldLink RX4 20 "Countcote$Stream" "careful" "[LCountcote$CarefulSketch;", Cond.fieldLink RX4 12 "Countcote$Stream" "plain" "LCountcote$PlainCounts;", Cond.methodLink RX4 65 yX0_leastOf, Cond.instanceMethod yX0_leastOf, Cond.selects RX0 yX0_leastOf yX0_leastOf, Cond.initialized RX0, Cond.code yX0_leastOf cX0_leastOf 4 (some .int), Cond.fieldLink RX0 9 "Countcote$CarefulSketch" "cells" "[I", Cond.methodLink RX0 26 Lib.Math.min.name, Cond.static Lib.Math.min.name, Cond.initialized "java/lang/Math", Cond.code Lib.Math.min.name Lib.Math.min.code 2 (some .int), Cond.methodLink RX0 23 yX0_placeOf, Cond.static yX0_placeOf, Cond.code yX0_placeOf cX0_placeOf 2 (some .int), Cond.methodLink RX0 19 yX0_columnOf, Cond.static yX0_columnOf, Cond.code yX0_columnOf cX0_columnOf 2 (some .int), Cond.fieldLink RX0 13 "Countcote$CarefulSketch" "FACTORS" "[I"]
def wsX4_reaches_r2 : List Cond := [Cond.fieldLink RX0 16 "Countcote$CarefulSketch" "SHIFTS" "[I", Cond.methodLink RX4 69 yX2_ofHalf, Cond.instanceMethod yX2_ofHalf, Cond.selects RX2 yX2_ofHalf yX2_ofHalf, Cond.initialized RX2, Cond.code yX2_ofHalf cX2_ofHalf 3 (some .int), Cond.fieldLink RX2 9 "Countcote$PlainCounts" "sums" "[I"]
def wsX4_reaches : List Cond := .code yX4_reaches cX4_reaches 4 (some .boolean) :: ((wsX4_reaches_r1 ++ wsX4_reaches_r2) ++ wsX40 ++ wsX00 ++ wsX20)
def wsX5_init_r1 : List Cond := [Cond.methodLink RX5 1 objectInit, Cond.instanceMethod objectInit, Cond.code objectInit ⟨#[0xb1]⟩ 1 none, Cond.classLink RX5 9 RX4, Cond.fieldLink RX5 11 "Countcote" "streams" "[LCountcote$Stream;", Cond.instantiable RX4 4, Cond.initialized RX4, Cond.methodLink RX5 15 yX4_init, Cond.instanceMethod yX4_init, Cond.code yX4_init cX4_init 2 none, Cond.methodLink RX4 3 objectInit, Cond.classLink RX4 9 RX2, Cond.instantiable RX2 1, Cond.initialized RX2, Cond.fieldLink RX4 12 "Countcote$Stream" "plain" "LCountcote$PlainCounts;", Cond.classLink RX4 18 RX0, Cond.fieldLink RX4 20 "Countcote$Stream" "careful" "[LCountcote$CarefulSketch;", Cond.classLink RX4 24 RX3, Cond.instantiable RX3 2, Cond.initialized RX3, Cond.fieldLink RX4 27 "Countcote$Stream" "signed" "LCountcote$SignedSketch;", Cond.classLink RX4 31 RX1, Cond.instantiable RX1 4, Cond.initialized RX1]
def wsX5_init_r2 : List Cond := [Cond.fieldLink RX4 34 "Countcote$Stream" "few" "LCountcote$FewCounters;", Cond.instantiable RX0 1, Cond.initialized RX0, Cond.instanceMethod yX2_init, Cond.code yX2_init cX2_init 1 none, Cond.methodLink RX2 3 objectInit, Cond.arrayClass .int, Cond.fieldLink RX2 9 "Countcote$PlainCounts" "sums" "[I", Cond.instanceMethod yX3_init, Cond.code yX3_init cX3_init 1 none, Cond.methodLink RX3 1 objectInit, Cond.fieldLink RX3 9 "Countcote$SignedSketch" "cells" "[I", Cond.arrayClass .long, Cond.fieldLink RX3 13 "Countcote$SignedSketch" "numbers" "[J", Cond.instanceMethod yX1_init, Cond.code yX1_init cX1_init 1 none, Cond.methodLink RX1 3 objectInit, Cond.fieldLink RX1 11 "Countcote$FewCounters" "items" "[I", Cond.fieldLink RX1 15 "Countcote$FewCounters" "weights" "[I", Cond.instanceMethod yX0_init, Cond.code yX0_init cX0_init 1 none, Cond.methodLink RX0 1 objectInit, Cond.fieldLink RX0 9 "Countcote$CarefulSketch" "cells" "[I"]
def wsX5_init : List Cond := .code yX5_init cX5_init 2 none :: ((wsX5_init_r1 ++ wsX5_init_r2) ++ wsX50 ++ wsX40 ++ wsX20 ++ wsX30 ++ wsX10 ++ wsX00)
def wsX5_requirePlace : List Cond := .code yX5_requirePlace cX5_requirePlace 2 none :: ([.classLink RX5 136 "java/lang/IndexOutOfBoundsException", .initialized "java/lang/IndexOutOfBoundsException"] ++ zatN)
def wsX5_requireWithin : List Cond := .code yX5_requireWithin cX5_requireWithin 3 none :: ([.classLink RX5 41 "java/lang/IllegalArgumentException", .initialized "java/lang/IllegalArgumentException"] ++ zatN)
def wsX5_requireRoom : List Cond := .code yX5_requireRoom cX5_requireRoom 1 none :: ([.classLink RX5 145 "java/lang/IllegalStateException", .initialized "java/lang/IllegalStateException", .constant RX5 87 (1000000)] ++ zatN)
def wsX5_add_r1 : List Cond := [Cond.fieldLink RX5 11 "Countcote" "streams" "[LCountcote$Stream;", Cond.fieldLink RX5 24 "Countcote$Stream" "plain" "LCountcote$PlainCounts;", Cond.methodLink RX5 16 yX5_requirePlace, Cond.static yX5_requirePlace, Cond.initialized RX5, Cond.code yX5_requirePlace cX5_requirePlace 2 none, Cond.classLink RX5 136 "java/lang/IndexOutOfBoundsException", Cond.initialized "java/lang/IndexOutOfBoundsException", Cond.methodLink RX5 20 yX5_requireWithin, Cond.static yX5_requireWithin, Cond.code yX5_requireWithin cX5_requireWithin 3 none, Cond.classLink RX5 41 "java/lang/IllegalArgumentException", Cond.initialized "java/lang/IllegalArgumentException", Cond.methodLink RX5 28 yX2_sum, Cond.instanceMethod yX2_sum, Cond.selects RX2 yX2_sum yX2_sum, Cond.initialized RX2, Cond.code yX2_sum cX2_sum 1 (some .int), Cond.fieldLink RX2 9 "Countcote$PlainCounts" "sums" "[I", Cond.methodLink RX5 34 yX5_requireRoom, Cond.static yX5_requireRoom, Cond.code yX5_requireRoom cX5_requireRoom 1 none, Cond.classLink RX5 145 "java/lang/IllegalStateException", Cond.initialized "java/lang/IllegalStateException"]
def wsX5_add_r2 : List Cond := [Cond.constant RX5 87 (1000000), Cond.methodLink RX5 38 yX4_put, Cond.instanceMethod yX4_put, Cond.selects RX4 yX4_put yX4_put, Cond.initialized RX4, Cond.code yX4_put cX4_put 4 none, Cond.fieldLink RX4 12 "Countcote$Stream" "plain" "LCountcote$PlainCounts;", Cond.fieldLink RX4 20 "Countcote$Stream" "careful" "[LCountcote$CarefulSketch;", Cond.fieldLink RX4 27 "Countcote$Stream" "signed" "LCountcote$SignedSketch;", Cond.fieldLink RX4 34 "Countcote$Stream" "few" "LCountcote$FewCounters;", Cond.methodLink RX4 39 yX2_put, Cond.instanceMethod yX2_put, Cond.selects RX2 yX2_put yX2_put, Cond.code yX2_put cX2_put 4 none, Cond.methodLink RX4 43 yX0_put, Cond.instanceMethod yX0_put, Cond.selects RX0 yX0_put yX0_put, Cond.initialized RX0, Cond.code yX0_put cX0_put 6 none, Cond.fieldLink RX0 9 "Countcote$CarefulSketch" "cells" "[I", Cond.methodLink RX0 35 Lib.Math.max.name, Cond.static Lib.Math.max.name, Cond.initialized "java/lang/Math", Cond.code Lib.Math.max.name Lib.Math.max.code 2 (some .int)]
def wsX5_add_r3 : List Cond := [Cond.methodLink RX0 31 yX0_leastOf, Cond.instanceMethod yX0_leastOf, Cond.selects RX0 yX0_leastOf yX0_leastOf, Cond.code yX0_leastOf cX0_leastOf 4 (some .int), Cond.methodLink RX0 26 Lib.Math.min.name, Cond.static Lib.Math.min.name, Cond.code Lib.Math.min.name Lib.Math.min.code 2 (some .int), Cond.methodLink RX0 23 yX0_placeOf, Cond.static yX0_placeOf, Cond.code yX0_placeOf cX0_placeOf 2 (some .int), Cond.methodLink RX0 19 yX0_columnOf, Cond.static yX0_columnOf, Cond.code yX0_columnOf cX0_columnOf 2 (some .int), Cond.fieldLink RX0 13 "Countcote$CarefulSketch" "FACTORS" "[I", Cond.fieldLink RX0 16 "Countcote$CarefulSketch" "SHIFTS" "[I", Cond.methodLink RX4 44 yX3_put, Cond.instanceMethod yX3_put, Cond.selects RX3 yX3_put yX3_put, Cond.initialized RX3, Cond.code yX3_put cX3_put 4 none, Cond.fieldLink RX3 9 "Countcote$SignedSketch" "cells" "[I", Cond.methodLink RX3 33 yX3_placeOf, Cond.static yX3_placeOf, Cond.code yX3_placeOf cX3_placeOf 2 (some .int)]
def wsX5_add_r4 : List Cond := [Cond.methodLink RX3 29 yX3_columnOf, Cond.static yX3_columnOf, Cond.code yX3_columnOf cX3_columnOf 2 (some .int), Cond.fieldLink RX3 17 "Countcote$SignedSketch" "COLUMN_FACTORS" "[I", Cond.fieldLink RX3 20 "Countcote$SignedSketch" "COLUMN_SHIFTS" "[I", Cond.methodLink RX3 36 yX3_signOf, Cond.static yX3_signOf, Cond.code yX3_signOf cX3_signOf 2 (some .int), Cond.fieldLink RX3 23 "Countcote$SignedSketch" "SIGN_FACTORS" "[I", Cond.fieldLink RX3 26 "Countcote$SignedSketch" "SIGN_SHIFTS" "[I", Cond.methodLink RX4 45 yX1_put, Cond.instanceMethod yX1_put, Cond.selects RX1 yX1_put yX1_put, Cond.initialized RX1, Cond.code yX1_put cX1_put 4 none, Cond.fieldLink RX1 22 "Countcote$FewCounters" "used" "I", Cond.methodLink RX1 34 Lib.Math.min.name, Cond.methodLink RX1 18 yX1_placeOf, Cond.instanceMethod yX1_placeOf, Cond.selects RX1 yX1_placeOf yX1_placeOf, Cond.code yX1_placeOf cX1_placeOf 3 (some .int), Cond.fieldLink RX1 11 "Countcote$FewCounters" "items" "[I", Cond.methodLink RX1 26 yX1_grow, Cond.instanceMethod yX1_grow]
def wsX5_add_r5 : List Cond := [Cond.selects RX1 yX1_grow yX1_grow, Cond.code yX1_grow cX1_grow 4 none, Cond.fieldLink RX1 15 "Countcote$FewCounters" "weights" "[I", Cond.methodLink RX1 30 yX1_leastWeight, Cond.instanceMethod yX1_leastWeight, Cond.selects RX1 yX1_leastWeight yX1_leastWeight, Cond.code yX1_leastWeight cX1_leastWeight 3 (some .int), Cond.methodLink RX1 40 yX1_takeAway, Cond.instanceMethod yX1_takeAway, Cond.selects RX1 yX1_takeAway yX1_takeAway, Cond.code yX1_takeAway cX1_takeAway 5 none, Cond.fieldLink RX1 44 "Countcote$FewCounters" "away" "I"]
def wsX5_add : List Cond := .code yX5_add cX5_add 5 (some .int) :: ((wsX5_add_r1 ++ (wsX5_add_r2 ++ (wsX5_add_r3 ++ (wsX5_add_r4 ++ wsX5_add_r5)))) ++ wsX50 ++ wsX40 ++ wsX20 ++ wsX00 ++ wsX30 ++ wsX10 ++ zatN ++ zatN ++ zatN)
def wsX5_merge_r1 : List Cond := [Cond.classLink RX5 41 "java/lang/IllegalArgumentException", Cond.initialized "java/lang/IllegalArgumentException", Cond.fieldLink RX5 11 "Countcote" "streams" "[LCountcote$Stream;", Cond.fieldLink RX5 24 "Countcote$Stream" "plain" "LCountcote$PlainCounts;", Cond.methodLink RX5 16 yX5_requirePlace, Cond.static yX5_requirePlace, Cond.initialized RX5, Cond.code yX5_requirePlace cX5_requirePlace 2 none, Cond.classLink RX5 136 "java/lang/IndexOutOfBoundsException", Cond.initialized "java/lang/IndexOutOfBoundsException", Cond.methodLink RX5 28 yX2_sum, Cond.instanceMethod yX2_sum, Cond.selects RX2 yX2_sum yX2_sum, Cond.initialized RX2, Cond.code yX2_sum cX2_sum 1 (some .int), Cond.fieldLink RX2 9 "Countcote$PlainCounts" "sums" "[I", Cond.methodLink RX5 34 yX5_requireRoom, Cond.static yX5_requireRoom, Cond.code yX5_requireRoom cX5_requireRoom 1 none, Cond.classLink RX5 145 "java/lang/IllegalStateException", Cond.initialized "java/lang/IllegalStateException", Cond.constant RX5 87 (1000000), Cond.methodLink RX5 48 yX4_join, Cond.instanceMethod yX4_join]
def wsX5_merge_r2 : List Cond := [Cond.selects RX4 yX4_join yX4_join, Cond.initialized RX4, Cond.code yX4_join cX4_join 3 none, Cond.fieldLink RX4 12 "Countcote$Stream" "plain" "LCountcote$PlainCounts;", Cond.fieldLink RX4 20 "Countcote$Stream" "careful" "[LCountcote$CarefulSketch;", Cond.fieldLink RX4 27 "Countcote$Stream" "signed" "LCountcote$SignedSketch;", Cond.fieldLink RX4 34 "Countcote$Stream" "few" "LCountcote$FewCounters;", Cond.methodLink RX4 46 yX2_join, Cond.instanceMethod yX2_join, Cond.selects RX2 yX2_join yX2_join, Cond.code yX2_join cX2_join 3 none, Cond.methodLink RX4 50 yX0_join, Cond.instanceMethod yX0_join, Cond.selects RX0 yX0_join yX0_join, Cond.initialized RX0, Cond.code yX0_join cX0_join 3 none, Cond.fieldLink RX0 9 "Countcote$CarefulSketch" "cells" "[I", Cond.methodLink RX4 53 yX3_join, Cond.instanceMethod yX3_join, Cond.selects RX3 yX3_join yX3_join, Cond.initialized RX3, Cond.code yX3_join cX3_join 3 none, Cond.fieldLink RX3 9 "Countcote$SignedSketch" "cells" "[I", Cond.methodLink RX4 56 yX1_join]
def wsX5_merge_r3 : List Cond := [Cond.instanceMethod yX1_join, Cond.selects RX1 yX1_join yX1_join, Cond.initialized RX1, Cond.code yX1_join cX1_join 3 none, Cond.fieldLink RX1 22 "Countcote$FewCounters" "used" "I", Cond.fieldLink RX1 11 "Countcote$FewCounters" "items" "[I", Cond.fieldLink RX1 15 "Countcote$FewCounters" "weights" "[I", Cond.fieldLink RX1 44 "Countcote$FewCounters" "away" "I", Cond.methodLink RX1 26 yX1_grow, Cond.instanceMethod yX1_grow, Cond.selects RX1 yX1_grow yX1_grow, Cond.code yX1_grow cX1_grow 4 none, Cond.methodLink RX1 18 yX1_placeOf, Cond.instanceMethod yX1_placeOf, Cond.selects RX1 yX1_placeOf yX1_placeOf, Cond.code yX1_placeOf cX1_placeOf 3 (some .int), Cond.methodLink RX1 47 yX1_weightReachedBy, Cond.instanceMethod yX1_weightReachedBy, Cond.selects RX1 yX1_weightReachedBy yX1_weightReachedBy, Cond.code yX1_weightReachedBy cX1_weightReachedBy 4 (some .int), Cond.methodLink RX1 50 yX1_countersReaching, Cond.instanceMethod yX1_countersReaching, Cond.selects RX1 yX1_countersReaching yX1_countersReaching, Cond.code yX1_countersReaching cX1_countersReaching 4 (some .int)]
def wsX5_merge_r4 : List Cond := [Cond.methodLink RX1 40 yX1_takeAway, Cond.instanceMethod yX1_takeAway, Cond.selects RX1 yX1_takeAway yX1_takeAway, Cond.code yX1_takeAway cX1_takeAway 5 none]
def wsX5_merge : List Cond := .code yX5_merge cX5_merge 5 (some .int) :: ((wsX5_merge_r1 ++ (wsX5_merge_r2 ++ (wsX5_merge_r3 ++ wsX5_merge_r4))) ++ wsX50 ++ wsX40 ++ wsX20 ++ wsX00 ++ wsX30 ++ wsX10 ++ zatN ++ zatN ++ zatN)
def wsX5_clear_r1 : List Cond := [Cond.fieldLink RX5 11 "Countcote" "streams" "[LCountcote$Stream;", Cond.fieldLink RX5 24 "Countcote$Stream" "plain" "LCountcote$PlainCounts;", Cond.methodLink RX5 16 yX5_requirePlace, Cond.static yX5_requirePlace, Cond.initialized RX5, Cond.code yX5_requirePlace cX5_requirePlace 2 none, Cond.classLink RX5 136 "java/lang/IndexOutOfBoundsException", Cond.initialized "java/lang/IndexOutOfBoundsException", Cond.methodLink RX5 28 yX2_sum, Cond.instanceMethod yX2_sum, Cond.selects RX2 yX2_sum yX2_sum, Cond.initialized RX2, Cond.code yX2_sum cX2_sum 1 (some .int), Cond.fieldLink RX2 9 "Countcote$PlainCounts" "sums" "[I", Cond.methodLink RX5 52 yX4_empty, Cond.instanceMethod yX4_empty, Cond.selects RX4 yX4_empty yX4_empty, Cond.initialized RX4, Cond.code yX4_empty cX4_empty 2 none, Cond.fieldLink RX4 12 "Countcote$Stream" "plain" "LCountcote$PlainCounts;", Cond.fieldLink RX4 20 "Countcote$Stream" "careful" "[LCountcote$CarefulSketch;", Cond.fieldLink RX4 27 "Countcote$Stream" "signed" "LCountcote$SignedSketch;", Cond.fieldLink RX4 34 "Countcote$Stream" "few" "LCountcote$FewCounters;", Cond.methodLink RX4 59 yX2_empty]
def wsX5_clear_r2 : List Cond := [Cond.instanceMethod yX2_empty, Cond.selects RX2 yX2_empty yX2_empty, Cond.code yX2_empty cX2_empty 1 none, Cond.methodLink RX2 15 yJ7_fill_53178, Cond.static yJ7_fill_53178, Cond.initialized RJ7, Cond.code yJ7_fill_53178 cJ7_fill_53178 4 none, Cond.methodLink RX4 62 yX0_empty, Cond.instanceMethod yX0_empty, Cond.selects RX0 yX0_empty yX0_empty, Cond.initialized RX0, Cond.code yX0_empty cX0_empty 1 none, Cond.fieldLink RX0 9 "Countcote$CarefulSketch" "cells" "[I", Cond.methodLink RX0 38 yJ7_fill_53178, Cond.methodLink RX4 63 yX3_empty, Cond.instanceMethod yX3_empty, Cond.selects RX3 yX3_empty yX3_empty, Cond.initialized RX3, Cond.code yX3_empty cX3_empty 1 none, Cond.fieldLink RX3 9 "Countcote$SignedSketch" "cells" "[I", Cond.methodLink RX3 39 yJ7_fill_53178, Cond.methodLink RX4 64 yX1_empty, Cond.instanceMethod yX1_empty, Cond.selects RX1 yX1_empty yX1_empty]
def wsX5_clear_r3 : List Cond := [Cond.initialized RX1, Cond.code yX1_empty cX1_empty 1 none, Cond.fieldLink RX1 22 "Countcote$FewCounters" "used" "I", Cond.fieldLink RX1 44 "Countcote$FewCounters" "away" "I"]
def wsX5_clear : List Cond := .code yX5_clear cX5_clear 3 (some .int) :: ((wsX5_clear_r1 ++ (wsX5_clear_r2 ++ wsX5_clear_r3)) ++ wsX50 ++ wsX40 ++ wsX20 ++ wsX00 ++ wsX30 ++ wsX10 ++ zatN)
def wsX5_total : List Cond := .code yX5_total cX5_total 2 (some .int) :: ([.fieldLink RX5 11 "Countcote" "streams" "[LCountcote$Stream;", .fieldLink RX5 24 "Countcote$Stream" "plain" "LCountcote$PlainCounts;", .methodLink RX5 16 yX5_requirePlace, .static yX5_requirePlace, .initialized RX5, .code yX5_requirePlace cX5_requirePlace 2 none, .classLink RX5 136 "java/lang/IndexOutOfBoundsException", .initialized "java/lang/IndexOutOfBoundsException", .methodLink RX5 28 yX2_sum, .instanceMethod yX2_sum, .selects RX2 yX2_sum yX2_sum, .initialized RX2, .code yX2_sum cX2_sum 1 (some .int), .fieldLink RX2 9 "Countcote$PlainCounts" "sums" "[I"] ++ wsX50 ++ wsX40 ++ wsX20 ++ zatN)
def wsX5_count : List Cond := .code yX5_count cX5_count 3 (some .int) :: ([.fieldLink RX5 11 "Countcote" "streams" "[LCountcote$Stream;", .fieldLink RX5 24 "Countcote$Stream" "plain" "LCountcote$PlainCounts;", .methodLink RX5 16 yX5_requirePlace, .static yX5_requirePlace, .initialized RX5, .code yX5_requirePlace cX5_requirePlace 2 none, .classLink RX5 136 "java/lang/IndexOutOfBoundsException", .initialized "java/lang/IndexOutOfBoundsException", .methodLink RX5 55 yX2_ofHalf, .instanceMethod yX2_ofHalf, .selects RX2 yX2_ofHalf yX2_ofHalf, .initialized RX2, .code yX2_ofHalf cX2_ofHalf 3 (some .int), .fieldLink RX2 9 "Countcote$PlainCounts" "sums" "[I"] ++ wsX50 ++ wsX40 ++ wsX20 ++ zatN)
def wsX5_requireRange : List Cond := .code yX5_requireRange cX5_requireRange 2 none :: ([.classLink RX5 41 "java/lang/IllegalArgumentException", .initialized "java/lang/IllegalArgumentException", .methodLink RX5 16 yX5_requirePlace, .static yX5_requirePlace, .initialized RX5, .code yX5_requirePlace cX5_requirePlace 2 none, .classLink RX5 136 "java/lang/IndexOutOfBoundsException", .initialized "java/lang/IndexOutOfBoundsException"] ++ zatN ++ zatN)
def wsX5_countOfRange : List Cond := .code yX5_countOfRange cX5_countOfRange 4 (some .int) :: ([.fieldLink RX5 11 "Countcote" "streams" "[LCountcote$Stream;", .fieldLink RX5 24 "Countcote$Stream" "plain" "LCountcote$PlainCounts;", .methodLink RX5 16 yX5_requirePlace, .static yX5_requirePlace, .initialized RX5, .code yX5_requirePlace cX5_requirePlace 2 none, .classLink RX5 136 "java/lang/IndexOutOfBoundsException", .initialized "java/lang/IndexOutOfBoundsException", .methodLink RX5 59 yX5_requireRange, .static yX5_requireRange, .code yX5_requireRange cX5_requireRange 2 none, .classLink RX5 41 "java/lang/IllegalArgumentException", .initialized "java/lang/IllegalArgumentException", .methodLink RX5 62 yX2_ofItems, .instanceMethod yX2_ofItems, .selects RX2 yX2_ofItems yX2_ofItems, .initialized RX2, .code yX2_ofItems cX2_ofItems 5 (some .int), .fieldLink RX2 9 "Countcote$PlainCounts" "sums" "[I"] ++ wsX50 ++ wsX40 ++ wsX20 ++ zatN ++ zatN)
def wsX5_product : List Cond := .code yX5_product cX5_product 3 (some .long) :: ([.fieldLink RX5 11 "Countcote" "streams" "[LCountcote$Stream;", .fieldLink RX5 24 "Countcote$Stream" "plain" "LCountcote$PlainCounts;", .methodLink RX5 16 yX5_requirePlace, .static yX5_requirePlace, .initialized RX5, .code yX5_requirePlace cX5_requirePlace 2 none, .classLink RX5 136 "java/lang/IndexOutOfBoundsException", .initialized "java/lang/IndexOutOfBoundsException", .methodLink RX5 65 yX2_times, .instanceMethod yX2_times, .selects RX2 yX2_times yX2_times, .initialized RX2, .code yX2_times cX2_times 5 (some .long), .fieldLink RX2 9 "Countcote$PlainCounts" "sums" "[I"] ++ wsX50 ++ wsX40 ++ wsX20 ++ zatN)
def wsX5_column : List Cond := .code yX5_column cX5_column 3 (some .int) :: ([.methodLink RX5 16 yX5_requirePlace, .static yX5_requirePlace, .initialized RX5, .code yX5_requirePlace cX5_requirePlace 2 none, .classLink RX5 136 "java/lang/IndexOutOfBoundsException", .initialized "java/lang/IndexOutOfBoundsException", .methodLink RX5 71 yX0_columnOf, .static yX0_columnOf, .initialized RX0, .code yX0_columnOf cX0_columnOf 2 (some .int), .fieldLink RX0 13 "Countcote$CarefulSketch" "FACTORS" "[I", .fieldLink RX0 16 "Countcote$CarefulSketch" "SHIFTS" "[I"] ++ zatN)
def wsX5_cell : List Cond := .code yX5_cell cX5_cell 5 (some .int) :: ([.fieldLink RX5 11 "Countcote" "streams" "[LCountcote$Stream;", .fieldLink RX5 74 "Countcote$Stream" "careful" "[LCountcote$CarefulSketch;", .methodLink RX5 16 yX5_requirePlace, .static yX5_requirePlace, .initialized RX5, .code yX5_requirePlace cX5_requirePlace 2 none, .classLink RX5 136 "java/lang/IndexOutOfBoundsException", .initialized "java/lang/IndexOutOfBoundsException", .methodLink RX5 78 yX0_cellAt, .instanceMethod yX0_cellAt, .selects RX0 yX0_cellAt yX0_cellAt, .initialized RX0, .code yX0_cellAt cX0_cellAt 3 (some .int), .fieldLink RX0 9 "Countcote$CarefulSketch" "cells" "[I"] ++ wsX50 ++ wsX40 ++ wsX00 ++ zatN)
def wsX5_estimate_r1 : List Cond := [Cond.fieldLink RX5 11 "Countcote" "streams" "[LCountcote$Stream;", Cond.methodLink RX5 16 yX5_requirePlace, Cond.static yX5_requirePlace, Cond.initialized RX5, Cond.code yX5_requirePlace cX5_requirePlace 2 none, Cond.classLink RX5 136 "java/lang/IndexOutOfBoundsException", Cond.initialized "java/lang/IndexOutOfBoundsException", Cond.methodLink RX5 81 yX4_estimateOf, Cond.instanceMethod yX4_estimateOf, Cond.selects RX4 yX4_estimateOf yX4_estimateOf, Cond.initialized RX4, Cond.code yX4_estimateOf cX4_estimateOf 3 (some .int), Cond.fieldLink RX4 20 "Countcote$Stream" "careful" "[LCountcote$CarefulSketch;", Cond.fieldLink RX4 12 "Countcote$Stream" "plain" "LCountcote$PlainCounts;", Cond.methodLink RX4 65 yX0_leastOf, Cond.instanceMethod yX0_leastOf, Cond.selects RX0 yX0_leastOf yX0_leastOf, Cond.initialized RX0, Cond.code yX0_leastOf cX0_leastOf 4 (some .int), Cond.fieldLink RX0 9 "Countcote$CarefulSketch" "cells" "[I", Cond.methodLink RX0 26 Lib.Math.min.name, Cond.static Lib.Math.min.name, Cond.initialized "java/lang/Math", Cond.code Lib.Math.min.name Lib.Math.min.code 2 (some .int)]
def wsX5_estimate_r2 : List Cond := [Cond.methodLink RX0 23 yX0_placeOf, Cond.static yX0_placeOf, Cond.code yX0_placeOf cX0_placeOf 2 (some .int), Cond.methodLink RX0 19 yX0_columnOf, Cond.static yX0_columnOf, Cond.code yX0_columnOf cX0_columnOf 2 (some .int), Cond.fieldLink RX0 13 "Countcote$CarefulSketch" "FACTORS" "[I", Cond.fieldLink RX0 16 "Countcote$CarefulSketch" "SHIFTS" "[I", Cond.methodLink RX4 69 yX2_ofHalf, Cond.instanceMethod yX2_ofHalf, Cond.selects RX2 yX2_ofHalf yX2_ofHalf, Cond.initialized RX2, Cond.code yX2_ofHalf cX2_ofHalf 3 (some .int), Cond.fieldLink RX2 9 "Countcote$PlainCounts" "sums" "[I"]
def wsX5_estimate : List Cond := .code yX5_estimate cX5_estimate 4 (some .int) :: ((wsX5_estimate_r1 ++ wsX5_estimate_r2) ++ wsX50 ++ wsX40 ++ wsX00 ++ wsX20 ++ zatN)
def wsX5_share_r1 : List Cond := [Cond.fieldLink RX5 11 "Countcote" "streams" "[LCountcote$Stream;", Cond.fieldLink RX5 24 "Countcote$Stream" "plain" "LCountcote$PlainCounts;", Cond.methodLink RX5 16 yX5_requirePlace, Cond.static yX5_requirePlace, Cond.initialized RX5, Cond.code yX5_requirePlace cX5_requirePlace 2 none, Cond.classLink RX5 136 "java/lang/IndexOutOfBoundsException", Cond.initialized "java/lang/IndexOutOfBoundsException", Cond.methodLink RX5 28 yX2_sum, Cond.instanceMethod yX2_sum, Cond.selects RX2 yX2_sum yX2_sum, Cond.initialized RX2, Cond.code yX2_sum cX2_sum 1 (some .int), Cond.fieldLink RX2 9 "Countcote$PlainCounts" "sums" "[I", Cond.methodLink RX5 81 yX4_estimateOf, Cond.instanceMethod yX4_estimateOf, Cond.selects RX4 yX4_estimateOf yX4_estimateOf, Cond.initialized RX4, Cond.code yX4_estimateOf cX4_estimateOf 3 (some .int), Cond.fieldLink RX4 20 "Countcote$Stream" "careful" "[LCountcote$CarefulSketch;", Cond.fieldLink RX4 12 "Countcote$Stream" "plain" "LCountcote$PlainCounts;", Cond.methodLink RX4 65 yX0_leastOf, Cond.instanceMethod yX0_leastOf, Cond.selects RX0 yX0_leastOf yX0_leastOf]
def wsX5_share_r2 : List Cond := [Cond.initialized RX0, Cond.code yX0_leastOf cX0_leastOf 4 (some .int), Cond.fieldLink RX0 9 "Countcote$CarefulSketch" "cells" "[I", Cond.methodLink RX0 26 Lib.Math.min.name, Cond.static Lib.Math.min.name, Cond.initialized "java/lang/Math", Cond.code Lib.Math.min.name Lib.Math.min.code 2 (some .int), Cond.methodLink RX0 23 yX0_placeOf, Cond.static yX0_placeOf, Cond.code yX0_placeOf cX0_placeOf 2 (some .int), Cond.methodLink RX0 19 yX0_columnOf, Cond.static yX0_columnOf, Cond.code yX0_columnOf cX0_columnOf 2 (some .int), Cond.fieldLink RX0 13 "Countcote$CarefulSketch" "FACTORS" "[I", Cond.fieldLink RX0 16 "Countcote$CarefulSketch" "SHIFTS" "[I", Cond.methodLink RX4 69 yX2_ofHalf, Cond.instanceMethod yX2_ofHalf, Cond.selects RX2 yX2_ofHalf yX2_ofHalf, Cond.code yX2_ofHalf cX2_ofHalf 3 (some .int)]
def wsX5_share : List Cond := .code yX5_share cX5_share 4 (some .double) :: ((wsX5_share_r1 ++ wsX5_share_r2) ++ wsX50 ++ wsX40 ++ wsX20 ++ wsX00 ++ zatN)
def wsX5_isHalfWithin : List Cond := .code yX5_isHalfWithin cX5_isHalfWithin 4 (some .boolean) :: ([])
def wsX5_greatestLevel : List Cond := .code yX5_greatestLevel cX5_greatestLevel 3 (some .int) :: ([.methodLink RX5 150 yX5_isHalfWithin, .static yX5_isHalfWithin, .initialized RX5, .code yX5_isHalfWithin cX5_isHalfWithin 4 (some .boolean)])
def wsX5_parts : List Cond := .code yX5_parts cX5_parts 5 (some .int) :: ([.methodLink RX5 59 yX5_requireRange, .static yX5_requireRange, .initialized RX5, .code yX5_requireRange cX5_requireRange 2 none, .classLink RX5 41 "java/lang/IllegalArgumentException", .initialized "java/lang/IllegalArgumentException", .methodLink RX5 16 yX5_requirePlace, .static yX5_requirePlace, .code yX5_requirePlace cX5_requirePlace 2 none, .classLink RX5 136 "java/lang/IndexOutOfBoundsException", .initialized "java/lang/IndexOutOfBoundsException", .methodLink RX5 84 yX5_greatestLevel, .static yX5_greatestLevel, .code yX5_greatestLevel cX5_greatestLevel 3 (some .int), .methodLink RX5 150 yX5_isHalfWithin, .static yX5_isHalfWithin, .code yX5_isHalfWithin cX5_isHalfWithin 4 (some .boolean)] ++ zatN ++ zatN)
def wsX5_estimateOfRange_r1 : List Cond := [Cond.fieldLink RX5 11 "Countcote" "streams" "[LCountcote$Stream;", Cond.methodLink RX5 16 yX5_requirePlace, Cond.static yX5_requirePlace, Cond.initialized RX5, Cond.code yX5_requirePlace cX5_requirePlace 2 none, Cond.classLink RX5 136 "java/lang/IndexOutOfBoundsException", Cond.initialized "java/lang/IndexOutOfBoundsException", Cond.methodLink RX5 59 yX5_requireRange, Cond.static yX5_requireRange, Cond.code yX5_requireRange cX5_requireRange 2 none, Cond.classLink RX5 41 "java/lang/IllegalArgumentException", Cond.initialized "java/lang/IllegalArgumentException", Cond.methodLink RX5 84 yX5_greatestLevel, Cond.static yX5_greatestLevel, Cond.code yX5_greatestLevel cX5_greatestLevel 3 (some .int), Cond.methodLink RX5 150 yX5_isHalfWithin, Cond.static yX5_isHalfWithin, Cond.code yX5_isHalfWithin cX5_isHalfWithin 4 (some .boolean), Cond.methodLink RX5 81 yX4_estimateOf, Cond.instanceMethod yX4_estimateOf, Cond.selects RX4 yX4_estimateOf yX4_estimateOf, Cond.initialized RX4, Cond.code yX4_estimateOf cX4_estimateOf 3 (some .int), Cond.fieldLink RX4 20 "Countcote$Stream" "careful" "[LCountcote$CarefulSketch;"]
def wsX5_estimateOfRange_r2 : List Cond := [Cond.fieldLink RX4 12 "Countcote$Stream" "plain" "LCountcote$PlainCounts;", Cond.methodLink RX4 65 yX0_leastOf, Cond.instanceMethod yX0_leastOf, Cond.selects RX0 yX0_leastOf yX0_leastOf, Cond.initialized RX0, Cond.code yX0_leastOf cX0_leastOf 4 (some .int), Cond.fieldLink RX0 9 "Countcote$CarefulSketch" "cells" "[I", Cond.methodLink RX0 26 Lib.Math.min.name, Cond.static Lib.Math.min.name, Cond.initialized "java/lang/Math", Cond.code Lib.Math.min.name Lib.Math.min.code 2 (some .int), Cond.methodLink RX0 23 yX0_placeOf, Cond.static yX0_placeOf, Cond.code yX0_placeOf cX0_placeOf 2 (some .int), Cond.methodLink RX0 19 yX0_columnOf, Cond.static yX0_columnOf, Cond.code yX0_columnOf cX0_columnOf 2 (some .int), Cond.fieldLink RX0 13 "Countcote$CarefulSketch" "FACTORS" "[I", Cond.fieldLink RX0 16 "Countcote$CarefulSketch" "SHIFTS" "[I", Cond.methodLink RX4 69 yX2_ofHalf, Cond.instanceMethod yX2_ofHalf, Cond.selects RX2 yX2_ofHalf yX2_ofHalf, Cond.initialized RX2, Cond.code yX2_ofHalf cX2_ofHalf 3 (some .int)]
def wsX5_estimateOfRange_r3 : List Cond := [Cond.fieldLink RX2 9 "Countcote$PlainCounts" "sums" "[I"]
def wsX5_estimateOfRange : List Cond := .code yX5_estimateOfRange cX5_estimateOfRange 7 (some .int) :: ((wsX5_estimateOfRange_r1 ++ (wsX5_estimateOfRange_r2 ++ wsX5_estimateOfRange_r3)) ++ wsX50 ++ wsX40 ++ wsX00 ++ wsX20 ++ zatN ++ zatN)
def wsX5_frequent_r1 : List Cond := [Cond.constant RX5 87 (1000000), Cond.fieldLink RX5 11 "Countcote" "streams" "[LCountcote$Stream;", Cond.methodLink RX5 16 yX5_requirePlace, Cond.static yX5_requirePlace, Cond.initialized RX5, Cond.code yX5_requirePlace cX5_requirePlace 2 none, Cond.classLink RX5 136 "java/lang/IndexOutOfBoundsException", Cond.initialized "java/lang/IndexOutOfBoundsException", Cond.methodLink RX5 20 yX5_requireWithin, Cond.static yX5_requireWithin, Cond.code yX5_requireWithin cX5_requireWithin 3 none, Cond.classLink RX5 41 "java/lang/IllegalArgumentException", Cond.initialized "java/lang/IllegalArgumentException", Cond.methodLink RX5 88 yX4_reaches, Cond.instanceMethod yX4_reaches, Cond.selects RX4 yX4_reaches yX4_reaches, Cond.initialized RX4, Cond.code yX4_reaches cX4_reaches 4 (some .boolean), Cond.methodLink RX4 73 yX4_estimateOf, Cond.instanceMethod yX4_estimateOf, Cond.selects RX4 yX4_estimateOf yX4_estimateOf, Cond.code yX4_estimateOf cX4_estimateOf 3 (some .int), Cond.fieldLink RX4 20 "Countcote$Stream" "careful" "[LCountcote$CarefulSketch;", Cond.fieldLink RX4 12 "Countcote$Stream" "plain" "LCountcote$PlainCounts;"]
def wsX5_frequent_r2 : List Cond := [Cond.methodLink RX4 65 yX0_leastOf, Cond.instanceMethod yX0_leastOf, Cond.selects RX0 yX0_leastOf yX0_leastOf, Cond.initialized RX0, Cond.code yX0_leastOf cX0_leastOf 4 (some .int), Cond.fieldLink RX0 9 "Countcote$CarefulSketch" "cells" "[I", Cond.methodLink RX0 26 Lib.Math.min.name, Cond.static Lib.Math.min.name, Cond.initialized "java/lang/Math", Cond.code Lib.Math.min.name Lib.Math.min.code 2 (some .int), Cond.methodLink RX0 23 yX0_placeOf, Cond.static yX0_placeOf, Cond.code yX0_placeOf cX0_placeOf 2 (some .int), Cond.methodLink RX0 19 yX0_columnOf, Cond.static yX0_columnOf, Cond.code yX0_columnOf cX0_columnOf 2 (some .int), Cond.fieldLink RX0 13 "Countcote$CarefulSketch" "FACTORS" "[I", Cond.fieldLink RX0 16 "Countcote$CarefulSketch" "SHIFTS" "[I", Cond.methodLink RX4 69 yX2_ofHalf, Cond.instanceMethod yX2_ofHalf, Cond.selects RX2 yX2_ofHalf yX2_ofHalf, Cond.initialized RX2, Cond.code yX2_ofHalf cX2_ofHalf 3 (some .int), Cond.fieldLink RX2 9 "Countcote$PlainCounts" "sums" "[I"]
def wsX5_frequent : List Cond := .code yX5_frequent cX5_frequent 5 (some .int) :: ((wsX5_frequent_r1 ++ wsX5_frequent_r2) ++ wsX50 ++ wsX40 ++ wsX00 ++ wsX20 ++ zatN ++ zatN)
def wsX5_frequentAt_r1 : List Cond := [Cond.classLink RX5 92 "java/util/NoSuchElementException", Cond.initialized "java/util/NoSuchElementException", Cond.constant RX5 87 (1000000), Cond.fieldLink RX5 11 "Countcote" "streams" "[LCountcote$Stream;", Cond.methodLink RX5 16 yX5_requirePlace, Cond.static yX5_requirePlace, Cond.initialized RX5, Cond.code yX5_requirePlace cX5_requirePlace 2 none, Cond.classLink RX5 136 "java/lang/IndexOutOfBoundsException", Cond.initialized "java/lang/IndexOutOfBoundsException", Cond.methodLink RX5 20 yX5_requireWithin, Cond.static yX5_requireWithin, Cond.code yX5_requireWithin cX5_requireWithin 3 none, Cond.classLink RX5 41 "java/lang/IllegalArgumentException", Cond.initialized "java/lang/IllegalArgumentException", Cond.methodLink RX5 88 yX4_reaches, Cond.instanceMethod yX4_reaches, Cond.selects RX4 yX4_reaches yX4_reaches, Cond.initialized RX4, Cond.code yX4_reaches cX4_reaches 4 (some .boolean), Cond.methodLink RX4 73 yX4_estimateOf, Cond.instanceMethod yX4_estimateOf, Cond.selects RX4 yX4_estimateOf yX4_estimateOf, Cond.code yX4_estimateOf cX4_estimateOf 3 (some .int)]
def wsX5_frequentAt_r2 : List Cond := [Cond.fieldLink RX4 20 "Countcote$Stream" "careful" "[LCountcote$CarefulSketch;", Cond.fieldLink RX4 12 "Countcote$Stream" "plain" "LCountcote$PlainCounts;", Cond.methodLink RX4 65 yX0_leastOf, Cond.instanceMethod yX0_leastOf, Cond.selects RX0 yX0_leastOf yX0_leastOf, Cond.initialized RX0, Cond.code yX0_leastOf cX0_leastOf 4 (some .int), Cond.fieldLink RX0 9 "Countcote$CarefulSketch" "cells" "[I", Cond.methodLink RX0 26 Lib.Math.min.name, Cond.static Lib.Math.min.name, Cond.initialized "java/lang/Math", Cond.code Lib.Math.min.name Lib.Math.min.code 2 (some .int), Cond.methodLink RX0 23 yX0_placeOf, Cond.static yX0_placeOf, Cond.code yX0_placeOf cX0_placeOf 2 (some .int), Cond.methodLink RX0 19 yX0_columnOf, Cond.static yX0_columnOf, Cond.code yX0_columnOf cX0_columnOf 2 (some .int), Cond.fieldLink RX0 13 "Countcote$CarefulSketch" "FACTORS" "[I", Cond.fieldLink RX0 16 "Countcote$CarefulSketch" "SHIFTS" "[I", Cond.methodLink RX4 69 yX2_ofHalf, Cond.instanceMethod yX2_ofHalf, Cond.selects RX2 yX2_ofHalf yX2_ofHalf, Cond.initialized RX2]
def wsX5_frequentAt_r3 : List Cond := [Cond.code yX2_ofHalf cX2_ofHalf 3 (some .int), Cond.fieldLink RX2 9 "Countcote$PlainCounts" "sums" "[I"]
def wsX5_frequentAt : List Cond := .code yX5_frequentAt cX5_frequentAt 6 (some .int) :: ((wsX5_frequentAt_r1 ++ (wsX5_frequentAt_r2 ++ wsX5_frequentAt_r3)) ++ wsX50 ++ wsX40 ++ wsX00 ++ wsX20 ++ zatN ++ zatN ++ zatN)
def wsX5_itemOfRank_r1 : List Cond := [Cond.fieldLink RX5 11 "Countcote" "streams" "[LCountcote$Stream;", Cond.fieldLink RX5 24 "Countcote$Stream" "plain" "LCountcote$PlainCounts;", Cond.methodLink RX5 16 yX5_requirePlace, Cond.static yX5_requirePlace, Cond.initialized RX5, Cond.code yX5_requirePlace cX5_requirePlace 2 none, Cond.classLink RX5 136 "java/lang/IndexOutOfBoundsException", Cond.initialized "java/lang/IndexOutOfBoundsException", Cond.methodLink RX5 28 yX2_sum, Cond.instanceMethod yX2_sum, Cond.selects RX2 yX2_sum yX2_sum, Cond.initialized RX2, Cond.code yX2_sum cX2_sum 1 (some .int), Cond.fieldLink RX2 9 "Countcote$PlainCounts" "sums" "[I", Cond.methodLink RX5 20 yX5_requireWithin, Cond.static yX5_requireWithin, Cond.code yX5_requireWithin cX5_requireWithin 3 none, Cond.classLink RX5 41 "java/lang/IllegalArgumentException", Cond.initialized "java/lang/IllegalArgumentException", Cond.methodLink RX5 81 yX4_estimateOf, Cond.instanceMethod yX4_estimateOf, Cond.selects RX4 yX4_estimateOf yX4_estimateOf, Cond.initialized RX4, Cond.code yX4_estimateOf cX4_estimateOf 3 (some .int)]
def wsX5_itemOfRank_r2 : List Cond := [Cond.fieldLink RX4 20 "Countcote$Stream" "careful" "[LCountcote$CarefulSketch;", Cond.fieldLink RX4 12 "Countcote$Stream" "plain" "LCountcote$PlainCounts;", Cond.methodLink RX4 65 yX0_leastOf, Cond.instanceMethod yX0_leastOf, Cond.selects RX0 yX0_leastOf yX0_leastOf, Cond.initialized RX0, Cond.code yX0_leastOf cX0_leastOf 4 (some .int), Cond.fieldLink RX0 9 "Countcote$CarefulSketch" "cells" "[I", Cond.methodLink RX0 26 Lib.Math.min.name, Cond.static Lib.Math.min.name, Cond.initialized "java/lang/Math", Cond.code Lib.Math.min.name Lib.Math.min.code 2 (some .int), Cond.methodLink RX0 23 yX0_placeOf, Cond.static yX0_placeOf, Cond.code yX0_placeOf cX0_placeOf 2 (some .int), Cond.methodLink RX0 19 yX0_columnOf, Cond.static yX0_columnOf, Cond.code yX0_columnOf cX0_columnOf 2 (some .int), Cond.fieldLink RX0 13 "Countcote$CarefulSketch" "FACTORS" "[I", Cond.fieldLink RX0 16 "Countcote$CarefulSketch" "SHIFTS" "[I", Cond.methodLink RX4 69 yX2_ofHalf, Cond.instanceMethod yX2_ofHalf, Cond.selects RX2 yX2_ofHalf yX2_ofHalf, Cond.code yX2_ofHalf cX2_ofHalf 3 (some .int)]
def wsX5_itemOfRank : List Cond := .code yX5_itemOfRank cX5_itemOfRank 7 (some .int) :: ((wsX5_itemOfRank_r1 ++ wsX5_itemOfRank_r2) ++ wsX50 ++ wsX40 ++ wsX20 ++ wsX00 ++ zatN ++ zatN)
def wsX5_signedColumn : List Cond := .code yX5_signedColumn cX5_signedColumn 3 (some .int) :: ([.methodLink RX5 16 yX5_requirePlace, .static yX5_requirePlace, .initialized RX5, .code yX5_requirePlace cX5_requirePlace 2 none, .classLink RX5 136 "java/lang/IndexOutOfBoundsException", .initialized "java/lang/IndexOutOfBoundsException", .methodLink RX5 99 yX3_columnOf, .static yX3_columnOf, .initialized RX3, .code yX3_columnOf cX3_columnOf 2 (some .int), .fieldLink RX3 17 "Countcote$SignedSketch" "COLUMN_FACTORS" "[I", .fieldLink RX3 20 "Countcote$SignedSketch" "COLUMN_SHIFTS" "[I"] ++ zatN)
def wsX5_sign : List Cond := .code yX5_sign cX5_sign 3 (some .int) :: ([.methodLink RX5 16 yX5_requirePlace, .static yX5_requirePlace, .initialized RX5, .code yX5_requirePlace cX5_requirePlace 2 none, .classLink RX5 136 "java/lang/IndexOutOfBoundsException", .initialized "java/lang/IndexOutOfBoundsException", .methodLink RX5 100 yX3_signOf, .static yX3_signOf, .initialized RX3, .code yX3_signOf cX3_signOf 2 (some .int), .fieldLink RX3 23 "Countcote$SignedSketch" "SIGN_FACTORS" "[I", .fieldLink RX3 26 "Countcote$SignedSketch" "SIGN_SHIFTS" "[I"] ++ zatN)
def wsX5_signedCell : List Cond := .code yX5_signedCell cX5_signedCell 4 (some .int) :: ([.fieldLink RX5 11 "Countcote" "streams" "[LCountcote$Stream;", .fieldLink RX5 103 "Countcote$Stream" "signed" "LCountcote$SignedSketch;", .methodLink RX5 16 yX5_requirePlace, .static yX5_requirePlace, .initialized RX5, .code yX5_requirePlace cX5_requirePlace 2 none, .classLink RX5 136 "java/lang/IndexOutOfBoundsException", .initialized "java/lang/IndexOutOfBoundsException", .methodLink RX5 107 yX3_cellAt, .instanceMethod yX3_cellAt, .selects RX3 yX3_cellAt yX3_cellAt, .initialized RX3, .code yX3_cellAt cX3_cellAt 3 (some .int), .fieldLink RX3 9 "Countcote$SignedSketch" "cells" "[I"] ++ wsX50 ++ wsX40 ++ wsX30 ++ zatN)
def wsX5_signedProduct_r1 : List Cond := [Cond.fieldLink RX5 11 "Countcote" "streams" "[LCountcote$Stream;", Cond.fieldLink RX5 103 "Countcote$Stream" "signed" "LCountcote$SignedSketch;", Cond.methodLink RX5 16 yX5_requirePlace, Cond.static yX5_requirePlace, Cond.initialized RX5, Cond.code yX5_requirePlace cX5_requirePlace 2 none, Cond.classLink RX5 136 "java/lang/IndexOutOfBoundsException", Cond.initialized "java/lang/IndexOutOfBoundsException", Cond.methodLink RX5 112 yX3_middleProduct, Cond.instanceMethod yX3_middleProduct, Cond.selects RX3 yX3_middleProduct yX3_middleProduct, Cond.initialized RX3, Cond.code yX3_middleProduct cX3_middleProduct 3 (some .long), Cond.fieldLink RX3 13 "Countcote$SignedSketch" "numbers" "[J", Cond.methodLink RX3 49 yX3_rowProduct, Cond.instanceMethod yX3_rowProduct, Cond.selects RX3 yX3_rowProduct yX3_rowProduct, Cond.code yX3_rowProduct cX3_rowProduct 6 (some .long), Cond.methodLink RX3 53 yX3_cellAt, Cond.instanceMethod yX3_cellAt, Cond.selects RX3 yX3_cellAt yX3_cellAt, Cond.code yX3_cellAt cX3_cellAt 3 (some .int), Cond.fieldLink RX3 9 "Countcote$SignedSketch" "cells" "[I", Cond.methodLink RX3 45 yX3_middleNumber]
def wsX5_signedProduct_r2 : List Cond := [Cond.instanceMethod yX3_middleNumber, Cond.selects RX3 yX3_middleNumber yX3_middleNumber, Cond.code yX3_middleNumber cX3_middleNumber 5 (some .long)]
def wsX5_signedProduct : List Cond := .code yX5_signedProduct cX5_signedProduct 3 (some .long) :: ((wsX5_signedProduct_r1 ++ wsX5_signedProduct_r2) ++ wsX50 ++ wsX40 ++ wsX30 ++ zatN)
def wsX5_counters : List Cond := .code yX5_counters cX5_counters 2 (some .int) :: ([.fieldLink RX5 11 "Countcote" "streams" "[LCountcote$Stream;", .fieldLink RX5 116 "Countcote$Stream" "few" "LCountcote$FewCounters;", .methodLink RX5 16 yX5_requirePlace, .static yX5_requirePlace, .initialized RX5, .code yX5_requirePlace cX5_requirePlace 2 none, .classLink RX5 136 "java/lang/IndexOutOfBoundsException", .initialized "java/lang/IndexOutOfBoundsException"] ++ wsX50 ++ wsX40 ++ wsX10 ++ zatN)
def wsX5_counterItem : List Cond := .code yX5_counterItem cX5_counterItem 3 (some .int) :: ([.fieldLink RX5 11 "Countcote" "streams" "[LCountcote$Stream;", .fieldLink RX5 116 "Countcote$Stream" "few" "LCountcote$FewCounters;", .methodLink RX5 16 yX5_requirePlace, .static yX5_requirePlace, .initialized RX5, .code yX5_requirePlace cX5_requirePlace 2 none, .classLink RX5 136 "java/lang/IndexOutOfBoundsException", .initialized "java/lang/IndexOutOfBoundsException"] ++ wsX50 ++ wsX40 ++ wsX10 ++ zatN)
def wsX5_counterOf : List Cond := .code yX5_counterOf cX5_counterOf 3 (some .int) :: ([.fieldLink RX5 11 "Countcote" "streams" "[LCountcote$Stream;", .fieldLink RX5 116 "Countcote$Stream" "few" "LCountcote$FewCounters;", .methodLink RX5 16 yX5_requirePlace, .static yX5_requirePlace, .initialized RX5, .code yX5_requirePlace cX5_requirePlace 2 none, .classLink RX5 136 "java/lang/IndexOutOfBoundsException", .initialized "java/lang/IndexOutOfBoundsException", .methodLink RX5 130 yX1_weightOf, .instanceMethod yX1_weightOf, .selects RX1 yX1_weightOf yX1_weightOf, .initialized RX1, .code yX1_weightOf cX1_weightOf 3 (some .int), .fieldLink RX1 15 "Countcote$FewCounters" "weights" "[I", .methodLink RX1 18 yX1_placeOf, .instanceMethod yX1_placeOf, .selects RX1 yX1_placeOf yX1_placeOf, .code yX1_placeOf cX1_placeOf 3 (some .int), .fieldLink RX1 22 "Countcote$FewCounters" "used" "I", .fieldLink RX1 11 "Countcote$FewCounters" "items" "[I"] ++ wsX50 ++ wsX40 ++ wsX10 ++ zatN)
def wsX5_taken : List Cond := .code yX5_taken cX5_taken 2 (some .int) :: ([.fieldLink RX5 11 "Countcote" "streams" "[LCountcote$Stream;", .fieldLink RX5 116 "Countcote$Stream" "few" "LCountcote$FewCounters;", .methodLink RX5 16 yX5_requirePlace, .static yX5_requirePlace, .initialized RX5, .code yX5_requirePlace cX5_requirePlace 2 none, .classLink RX5 136 "java/lang/IndexOutOfBoundsException", .initialized "java/lang/IndexOutOfBoundsException"] ++ wsX50 ++ wsX40 ++ wsX10 ++ zatN)
def wsJ9_max_7cf53 : List Cond := .code yJ9_max_7cf53 cJ9_max_7cf53 2 (some .int) :: ([])
def wsJ9_min_7cf53 : List Cond := .code yJ9_min_7cf53 cJ9_min_7cf53 2 (some .int) :: ([])
def wsL_draw : List Cond := .code yL_draw cL_draw 2 (some .int) :: ([.constant RL 7 (2147483647), .constant RL 8 (104729), .constant RL 9 (65521)])
def wsL_step_r1 : List Cond := [Cond.constant RL 16 (1000000), Cond.methodLink RL 10 yX5_total, Cond.instanceMethod yX5_total, Cond.selects RX5 yX5_total yX5_total, Cond.initialized RX5, Cond.code yX5_total cX5_total 2 (some .int), Cond.fieldLink RX5 11 "Countcote" "streams" "[LCountcote$Stream;", Cond.fieldLink RX5 24 "Countcote$Stream" "plain" "LCountcote$PlainCounts;", Cond.methodLink RX5 16 yX5_requirePlace, Cond.static yX5_requirePlace, Cond.code yX5_requirePlace cX5_requirePlace 2 none, Cond.classLink RX5 136 "java/lang/IndexOutOfBoundsException", Cond.initialized "java/lang/IndexOutOfBoundsException", Cond.methodLink RX5 28 yX2_sum, Cond.instanceMethod yX2_sum, Cond.selects RX2 yX2_sum yX2_sum, Cond.initialized RX2, Cond.code yX2_sum cX2_sum 1 (some .int), Cond.fieldLink RX2 9 "Countcote$PlainCounts" "sums" "[I", Cond.methodLink RL 17 yX5_count, Cond.instanceMethod yX5_count, Cond.selects RX5 yX5_count yX5_count, Cond.code yX5_count cX5_count 3 (some .int), Cond.methodLink RX5 55 yX2_ofHalf]
def wsL_step_r2 : List Cond := [Cond.instanceMethod yX2_ofHalf, Cond.selects RX2 yX2_ofHalf yX2_ofHalf, Cond.code yX2_ofHalf cX2_ofHalf 3 (some .int), Cond.methodLink RL 21 yX5_estimate, Cond.instanceMethod yX5_estimate, Cond.selects RX5 yX5_estimate yX5_estimate, Cond.code yX5_estimate cX5_estimate 4 (some .int), Cond.methodLink RX5 81 yX4_estimateOf, Cond.instanceMethod yX4_estimateOf, Cond.selects RX4 yX4_estimateOf yX4_estimateOf, Cond.initialized RX4, Cond.code yX4_estimateOf cX4_estimateOf 3 (some .int), Cond.fieldLink RX4 20 "Countcote$Stream" "careful" "[LCountcote$CarefulSketch;", Cond.fieldLink RX4 12 "Countcote$Stream" "plain" "LCountcote$PlainCounts;", Cond.methodLink RX4 65 yX0_leastOf, Cond.instanceMethod yX0_leastOf, Cond.selects RX0 yX0_leastOf yX0_leastOf, Cond.initialized RX0, Cond.code yX0_leastOf cX0_leastOf 4 (some .int), Cond.fieldLink RX0 9 "Countcote$CarefulSketch" "cells" "[I", Cond.methodLink RX0 26 Lib.Math.min.name, Cond.static Lib.Math.min.name, Cond.initialized "java/lang/Math", Cond.code Lib.Math.min.name Lib.Math.min.code 2 (some .int)]
def wsL_step_r3 : List Cond := [Cond.methodLink RX0 23 yX0_placeOf, Cond.static yX0_placeOf, Cond.code yX0_placeOf cX0_placeOf 2 (some .int), Cond.methodLink RX0 19 yX0_columnOf, Cond.static yX0_columnOf, Cond.code yX0_columnOf cX0_columnOf 2 (some .int), Cond.fieldLink RX0 13 "Countcote$CarefulSketch" "FACTORS" "[I", Cond.fieldLink RX0 16 "Countcote$CarefulSketch" "SHIFTS" "[I", Cond.methodLink RX4 69 yX2_ofHalf, Cond.methodLink RL 25 yX5_signedColumn, Cond.instanceMethod yX5_signedColumn, Cond.selects RX5 yX5_signedColumn yX5_signedColumn, Cond.code yX5_signedColumn cX5_signedColumn 3 (some .int), Cond.methodLink RX5 99 yX3_columnOf, Cond.static yX3_columnOf, Cond.initialized RX3, Cond.code yX3_columnOf cX3_columnOf 2 (some .int), Cond.fieldLink RX3 17 "Countcote$SignedSketch" "COLUMN_FACTORS" "[I", Cond.fieldLink RX3 20 "Countcote$SignedSketch" "COLUMN_SHIFTS" "[I", Cond.methodLink RL 28 yX5_signedCell, Cond.instanceMethod yX5_signedCell, Cond.selects RX5 yX5_signedCell yX5_signedCell, Cond.code yX5_signedCell cX5_signedCell 4 (some .int), Cond.fieldLink RX5 103 "Countcote$Stream" "signed" "LCountcote$SignedSketch;"]
def wsL_step_r4 : List Cond := [Cond.methodLink RX5 107 yX3_cellAt, Cond.instanceMethod yX3_cellAt, Cond.selects RX3 yX3_cellAt yX3_cellAt, Cond.code yX3_cellAt cX3_cellAt 3 (some .int), Cond.fieldLink RX3 9 "Countcote$SignedSketch" "cells" "[I", Cond.methodLink RL 31 yX5_add, Cond.instanceMethod yX5_add, Cond.selects RX5 yX5_add yX5_add, Cond.code yX5_add cX5_add 5 (some .int), Cond.methodLink RX5 20 yX5_requireWithin, Cond.static yX5_requireWithin, Cond.code yX5_requireWithin cX5_requireWithin 3 none, Cond.classLink RX5 41 "java/lang/IllegalArgumentException", Cond.initialized "java/lang/IllegalArgumentException", Cond.methodLink RX5 34 yX5_requireRoom, Cond.static yX5_requireRoom, Cond.code yX5_requireRoom cX5_requireRoom 1 none, Cond.classLink RX5 145 "java/lang/IllegalStateException", Cond.initialized "java/lang/IllegalStateException", Cond.constant RX5 87 (1000000), Cond.methodLink RX5 38 yX4_put, Cond.instanceMethod yX4_put, Cond.selects RX4 yX4_put yX4_put, Cond.code yX4_put cX4_put 4 none]
def wsL_step_r5 : List Cond := [Cond.fieldLink RX4 27 "Countcote$Stream" "signed" "LCountcote$SignedSketch;", Cond.fieldLink RX4 34 "Countcote$Stream" "few" "LCountcote$FewCounters;", Cond.methodLink RX4 39 yX2_put, Cond.instanceMethod yX2_put, Cond.selects RX2 yX2_put yX2_put, Cond.code yX2_put cX2_put 4 none, Cond.methodLink RX4 43 yX0_put, Cond.instanceMethod yX0_put, Cond.selects RX0 yX0_put yX0_put, Cond.code yX0_put cX0_put 6 none, Cond.methodLink RX0 35 Lib.Math.max.name, Cond.static Lib.Math.max.name, Cond.code Lib.Math.max.name Lib.Math.max.code 2 (some .int), Cond.methodLink RX0 31 yX0_leastOf, Cond.methodLink RX4 44 yX3_put, Cond.instanceMethod yX3_put, Cond.selects RX3 yX3_put yX3_put, Cond.code yX3_put cX3_put 4 none, Cond.methodLink RX3 33 yX3_placeOf, Cond.static yX3_placeOf, Cond.code yX3_placeOf cX3_placeOf 2 (some .int), Cond.methodLink RX3 29 yX3_columnOf, Cond.methodLink RX3 36 yX3_signOf, Cond.static yX3_signOf]
def wsL_step_r6 : List Cond := [Cond.code yX3_signOf cX3_signOf 2 (some .int), Cond.fieldLink RX3 23 "Countcote$SignedSketch" "SIGN_FACTORS" "[I", Cond.fieldLink RX3 26 "Countcote$SignedSketch" "SIGN_SHIFTS" "[I", Cond.methodLink RX4 45 yX1_put, Cond.instanceMethod yX1_put, Cond.selects RX1 yX1_put yX1_put, Cond.initialized RX1, Cond.code yX1_put cX1_put 4 none, Cond.fieldLink RX1 22 "Countcote$FewCounters" "used" "I", Cond.methodLink RX1 34 Lib.Math.min.name, Cond.methodLink RX1 18 yX1_placeOf, Cond.instanceMethod yX1_placeOf, Cond.selects RX1 yX1_placeOf yX1_placeOf, Cond.code yX1_placeOf cX1_placeOf 3 (some .int), Cond.fieldLink RX1 11 "Countcote$FewCounters" "items" "[I", Cond.methodLink RX1 26 yX1_grow, Cond.instanceMethod yX1_grow, Cond.selects RX1 yX1_grow yX1_grow, Cond.code yX1_grow cX1_grow 4 none, Cond.fieldLink RX1 15 "Countcote$FewCounters" "weights" "[I", Cond.methodLink RX1 30 yX1_leastWeight, Cond.instanceMethod yX1_leastWeight, Cond.selects RX1 yX1_leastWeight yX1_leastWeight, Cond.code yX1_leastWeight cX1_leastWeight 3 (some .int)]
def wsL_step_r7 : List Cond := [Cond.methodLink RX1 40 yX1_takeAway, Cond.instanceMethod yX1_takeAway, Cond.selects RX1 yX1_takeAway yX1_takeAway, Cond.code yX1_takeAway cX1_takeAway 5 none, Cond.fieldLink RX1 44 "Countcote$FewCounters" "away" "I", Cond.methodLink RL 34 yX5_sign, Cond.instanceMethod yX5_sign, Cond.selects RX5 yX5_sign yX5_sign, Cond.code yX5_sign cX5_sign 3 (some .int), Cond.methodLink RX5 100 yX3_signOf, Cond.methodLink RL 37 yX5_cell, Cond.instanceMethod yX5_cell, Cond.selects RX5 yX5_cell yX5_cell, Cond.code yX5_cell cX5_cell 5 (some .int), Cond.fieldLink RX5 74 "Countcote$Stream" "careful" "[LCountcote$CarefulSketch;", Cond.methodLink RX5 78 yX0_cellAt, Cond.instanceMethod yX0_cellAt, Cond.selects RX0 yX0_cellAt yX0_cellAt, Cond.code yX0_cellAt cX0_cellAt 3 (some .int), Cond.methodLink RL 41 yX5_taken, Cond.instanceMethod yX5_taken, Cond.selects RX5 yX5_taken yX5_taken, Cond.code yX5_taken cX5_taken 2 (some .int), Cond.fieldLink RX5 116 "Countcote$Stream" "few" "LCountcote$FewCounters;"]
def wsL_step_r8 : List Cond := [Cond.methodLink RL 44 yX5_merge, Cond.instanceMethod yX5_merge, Cond.selects RX5 yX5_merge yX5_merge, Cond.code yX5_merge cX5_merge 5 (some .int), Cond.methodLink RX5 48 yX4_join, Cond.instanceMethod yX4_join, Cond.selects RX4 yX4_join yX4_join, Cond.code yX4_join cX4_join 3 none, Cond.methodLink RX4 46 yX2_join, Cond.instanceMethod yX2_join, Cond.selects RX2 yX2_join yX2_join, Cond.code yX2_join cX2_join 3 none, Cond.methodLink RX4 50 yX0_join, Cond.instanceMethod yX0_join, Cond.selects RX0 yX0_join yX0_join, Cond.code yX0_join cX0_join 3 none, Cond.methodLink RX4 53 yX3_join, Cond.instanceMethod yX3_join, Cond.selects RX3 yX3_join yX3_join, Cond.code yX3_join cX3_join 3 none, Cond.methodLink RX4 56 yX1_join, Cond.instanceMethod yX1_join, Cond.selects RX1 yX1_join yX1_join, Cond.code yX1_join cX1_join 3 none]
def wsL_step_r9 : List Cond := [Cond.methodLink RX1 47 yX1_weightReachedBy, Cond.instanceMethod yX1_weightReachedBy, Cond.selects RX1 yX1_weightReachedBy yX1_weightReachedBy, Cond.code yX1_weightReachedBy cX1_weightReachedBy 4 (some .int), Cond.methodLink RX1 50 yX1_countersReaching, Cond.instanceMethod yX1_countersReaching, Cond.selects RX1 yX1_countersReaching yX1_countersReaching, Cond.code yX1_countersReaching cX1_countersReaching 4 (some .int), Cond.methodLink RL 47 yX5_clear, Cond.instanceMethod yX5_clear, Cond.selects RX5 yX5_clear yX5_clear, Cond.code yX5_clear cX5_clear 3 (some .int), Cond.methodLink RX5 52 yX4_empty, Cond.instanceMethod yX4_empty, Cond.selects RX4 yX4_empty yX4_empty, Cond.code yX4_empty cX4_empty 2 none, Cond.methodLink RX4 59 yX2_empty, Cond.instanceMethod yX2_empty, Cond.selects RX2 yX2_empty yX2_empty, Cond.code yX2_empty cX2_empty 1 none, Cond.methodLink RX2 15 yJ7_fill_53178, Cond.static yJ7_fill_53178, Cond.initialized RJ7, Cond.code yJ7_fill_53178 cJ7_fill_53178 4 none]
def wsL_step_r10 : List Cond := [Cond.methodLink RX4 62 yX0_empty, Cond.instanceMethod yX0_empty, Cond.selects RX0 yX0_empty yX0_empty, Cond.code yX0_empty cX0_empty 1 none, Cond.methodLink RX0 38 yJ7_fill_53178, Cond.methodLink RX4 63 yX3_empty, Cond.instanceMethod yX3_empty, Cond.selects RX3 yX3_empty yX3_empty, Cond.code yX3_empty cX3_empty 1 none, Cond.methodLink RX3 39 yJ7_fill_53178, Cond.methodLink RX4 64 yX1_empty, Cond.instanceMethod yX1_empty, Cond.selects RX1 yX1_empty yX1_empty, Cond.code yX1_empty cX1_empty 1 none, Cond.methodLink RL 50 yX5_counters, Cond.instanceMethod yX5_counters, Cond.selects RX5 yX5_counters yX5_counters, Cond.code yX5_counters cX5_counters 2 (some .int), Cond.methodLink RL 53 yX5_share, Cond.instanceMethod yX5_share, Cond.selects RX5 yX5_share yX5_share, Cond.code yX5_share cX5_share 4 (some .double), Cond.methodLink RL 57 yX5_signedProduct, Cond.instanceMethod yX5_signedProduct]
def wsL_step_r11 : List Cond := [Cond.selects RX5 yX5_signedProduct yX5_signedProduct, Cond.code yX5_signedProduct cX5_signedProduct 3 (some .long), Cond.methodLink RX5 112 yX3_middleProduct, Cond.instanceMethod yX3_middleProduct, Cond.selects RX3 yX3_middleProduct yX3_middleProduct, Cond.code yX3_middleProduct cX3_middleProduct 3 (some .long), Cond.fieldLink RX3 13 "Countcote$SignedSketch" "numbers" "[J", Cond.methodLink RX3 49 yX3_rowProduct, Cond.instanceMethod yX3_rowProduct, Cond.selects RX3 yX3_rowProduct yX3_rowProduct, Cond.code yX3_rowProduct cX3_rowProduct 6 (some .long), Cond.methodLink RX3 53 yX3_cellAt, Cond.methodLink RX3 45 yX3_middleNumber, Cond.instanceMethod yX3_middleNumber, Cond.selects RX3 yX3_middleNumber yX3_middleNumber, Cond.code yX3_middleNumber cX3_middleNumber 5 (some .long)]
def wsL_step : List Cond := .code yL_step cL_step 12 (some .boolean) :: ((wsL_step_r1 ++ (wsL_step_r2 ++ (wsL_step_r3 ++ (wsL_step_r4 ++ (wsL_step_r5 ++ (wsL_step_r6 ++ (wsL_step_r7 ++ (wsL_step_r8 ++ (wsL_step_r9 ++ (wsL_step_r10 ++ wsL_step_r11)))))))))) ++ wsX50 ++ wsX40 ++ wsX20 ++ wsX00 ++ wsX30 ++ wsX10 ++ zatN ++ zatN ++ zatN)
def wsL_areHalves_r1 : List Cond := [Cond.methodLink RL 21 yX5_estimate, Cond.instanceMethod yX5_estimate, Cond.selects RX5 yX5_estimate yX5_estimate, Cond.initialized RX5, Cond.code yX5_estimate cX5_estimate 4 (some .int), Cond.fieldLink RX5 11 "Countcote" "streams" "[LCountcote$Stream;", Cond.methodLink RX5 16 yX5_requirePlace, Cond.static yX5_requirePlace, Cond.code yX5_requirePlace cX5_requirePlace 2 none, Cond.classLink RX5 136 "java/lang/IndexOutOfBoundsException", Cond.initialized "java/lang/IndexOutOfBoundsException", Cond.methodLink RX5 81 yX4_estimateOf, Cond.instanceMethod yX4_estimateOf, Cond.selects RX4 yX4_estimateOf yX4_estimateOf, Cond.initialized RX4, Cond.code yX4_estimateOf cX4_estimateOf 3 (some .int), Cond.fieldLink RX4 20 "Countcote$Stream" "careful" "[LCountcote$CarefulSketch;", Cond.fieldLink RX4 12 "Countcote$Stream" "plain" "LCountcote$PlainCounts;", Cond.methodLink RX4 65 yX0_leastOf, Cond.instanceMethod yX0_leastOf, Cond.selects RX0 yX0_leastOf yX0_leastOf, Cond.initialized RX0, Cond.code yX0_leastOf cX0_leastOf 4 (some .int), Cond.fieldLink RX0 9 "Countcote$CarefulSketch" "cells" "[I"]
def wsL_areHalves_r2 : List Cond := [Cond.methodLink RX0 26 Lib.Math.min.name, Cond.static Lib.Math.min.name, Cond.initialized "java/lang/Math", Cond.code Lib.Math.min.name Lib.Math.min.code 2 (some .int), Cond.methodLink RX0 23 yX0_placeOf, Cond.static yX0_placeOf, Cond.code yX0_placeOf cX0_placeOf 2 (some .int), Cond.methodLink RX0 19 yX0_columnOf, Cond.static yX0_columnOf, Cond.code yX0_columnOf cX0_columnOf 2 (some .int), Cond.fieldLink RX0 13 "Countcote$CarefulSketch" "FACTORS" "[I", Cond.fieldLink RX0 16 "Countcote$CarefulSketch" "SHIFTS" "[I", Cond.methodLink RX4 69 yX2_ofHalf, Cond.instanceMethod yX2_ofHalf, Cond.selects RX2 yX2_ofHalf yX2_ofHalf, Cond.initialized RX2, Cond.code yX2_ofHalf cX2_ofHalf 3 (some .int), Cond.fieldLink RX2 9 "Countcote$PlainCounts" "sums" "[I", Cond.methodLink RL 10 yX5_total, Cond.instanceMethod yX5_total, Cond.selects RX5 yX5_total yX5_total, Cond.code yX5_total cX5_total 2 (some .int), Cond.fieldLink RX5 24 "Countcote$Stream" "plain" "LCountcote$PlainCounts;", Cond.methodLink RX5 28 yX2_sum]
def wsL_areHalves_r3 : List Cond := [Cond.instanceMethod yX2_sum, Cond.selects RX2 yX2_sum yX2_sum, Cond.code yX2_sum cX2_sum 1 (some .int), Cond.methodLink RL 61 yX5_countOfRange, Cond.instanceMethod yX5_countOfRange, Cond.selects RX5 yX5_countOfRange yX5_countOfRange, Cond.code yX5_countOfRange cX5_countOfRange 4 (some .int), Cond.methodLink RX5 59 yX5_requireRange, Cond.static yX5_requireRange, Cond.code yX5_requireRange cX5_requireRange 2 none, Cond.classLink RX5 41 "java/lang/IllegalArgumentException", Cond.initialized "java/lang/IllegalArgumentException", Cond.methodLink RX5 62 yX2_ofItems, Cond.instanceMethod yX2_ofItems, Cond.selects RX2 yX2_ofItems yX2_ofItems, Cond.code yX2_ofItems cX2_ofItems 5 (some .int), Cond.methodLink RL 64 yX5_column, Cond.instanceMethod yX5_column, Cond.selects RX5 yX5_column yX5_column, Cond.code yX5_column cX5_column 3 (some .int), Cond.methodLink RX5 71 yX0_columnOf, Cond.methodLink RL 37 yX5_cell, Cond.instanceMethod yX5_cell, Cond.selects RX5 yX5_cell yX5_cell]
def wsL_areHalves_r4 : List Cond := [Cond.code yX5_cell cX5_cell 5 (some .int), Cond.fieldLink RX5 74 "Countcote$Stream" "careful" "[LCountcote$CarefulSketch;", Cond.methodLink RX5 78 yX0_cellAt, Cond.instanceMethod yX0_cellAt, Cond.selects RX0 yX0_cellAt yX0_cellAt, Cond.code yX0_cellAt cX0_cellAt 3 (some .int)]
def wsL_areHalves : List Cond := .code yL_areHalves cL_areHalves 10 (some .boolean) :: ((wsL_areHalves_r1 ++ (wsL_areHalves_r2 ++ (wsL_areHalves_r3 ++ wsL_areHalves_r4))) ++ wsX50 ++ wsX40 ++ wsX00 ++ wsX20 ++ zatN ++ zatN)
def wsL_areCounters_r1 : List Cond := [Cond.methodLink RL 50 yX5_counters, Cond.instanceMethod yX5_counters, Cond.selects RX5 yX5_counters yX5_counters, Cond.initialized RX5, Cond.code yX5_counters cX5_counters 2 (some .int), Cond.fieldLink RX5 11 "Countcote" "streams" "[LCountcote$Stream;", Cond.fieldLink RX5 116 "Countcote$Stream" "few" "LCountcote$FewCounters;", Cond.methodLink RX5 16 yX5_requirePlace, Cond.static yX5_requirePlace, Cond.code yX5_requirePlace cX5_requirePlace 2 none, Cond.classLink RX5 136 "java/lang/IndexOutOfBoundsException", Cond.initialized "java/lang/IndexOutOfBoundsException", Cond.methodLink RL 67 yX5_counterItem, Cond.instanceMethod yX5_counterItem, Cond.selects RX5 yX5_counterItem yX5_counterItem, Cond.code yX5_counterItem cX5_counterItem 3 (some .int), Cond.methodLink RL 70 yX5_counterOf, Cond.instanceMethod yX5_counterOf, Cond.selects RX5 yX5_counterOf yX5_counterOf, Cond.code yX5_counterOf cX5_counterOf 3 (some .int), Cond.methodLink RX5 130 yX1_weightOf, Cond.instanceMethod yX1_weightOf, Cond.selects RX1 yX1_weightOf yX1_weightOf, Cond.initialized RX1]
def wsL_areCounters_r2 : List Cond := [Cond.code yX1_weightOf cX1_weightOf 3 (some .int), Cond.fieldLink RX1 15 "Countcote$FewCounters" "weights" "[I", Cond.methodLink RX1 18 yX1_placeOf, Cond.instanceMethod yX1_placeOf, Cond.selects RX1 yX1_placeOf yX1_placeOf, Cond.code yX1_placeOf cX1_placeOf 3 (some .int), Cond.fieldLink RX1 22 "Countcote$FewCounters" "used" "I", Cond.fieldLink RX1 11 "Countcote$FewCounters" "items" "[I", Cond.methodLink RL 17 yX5_count, Cond.instanceMethod yX5_count, Cond.selects RX5 yX5_count yX5_count, Cond.code yX5_count cX5_count 3 (some .int), Cond.fieldLink RX5 24 "Countcote$Stream" "plain" "LCountcote$PlainCounts;", Cond.methodLink RX5 55 yX2_ofHalf, Cond.instanceMethod yX2_ofHalf, Cond.selects RX2 yX2_ofHalf yX2_ofHalf, Cond.initialized RX2, Cond.code yX2_ofHalf cX2_ofHalf 3 (some .int), Cond.fieldLink RX2 9 "Countcote$PlainCounts" "sums" "[I", Cond.methodLink RL 41 yX5_taken, Cond.instanceMethod yX5_taken, Cond.selects RX5 yX5_taken yX5_taken, Cond.code yX5_taken cX5_taken 2 (some .int), Cond.methodLink RL 10 yX5_total]
def wsL_areCounters_r3 : List Cond := [Cond.instanceMethod yX5_total, Cond.selects RX5 yX5_total yX5_total, Cond.code yX5_total cX5_total 2 (some .int), Cond.methodLink RX5 28 yX2_sum, Cond.instanceMethod yX2_sum, Cond.selects RX2 yX2_sum yX2_sum, Cond.code yX2_sum cX2_sum 1 (some .int)]
def wsL_areCounters : List Cond := .code yL_areCounters cL_areCounters 7 (some .boolean) :: ((wsL_areCounters_r1 ++ (wsL_areCounters_r2 ++ wsL_areCounters_r3)) ++ wsX50 ++ wsX40 ++ wsX10 ++ wsX20 ++ zatN)
def wsL_areRows_r1 : List Cond := [Cond.methodLink RL 28 yX5_signedCell, Cond.instanceMethod yX5_signedCell, Cond.selects RX5 yX5_signedCell yX5_signedCell, Cond.initialized RX5, Cond.code yX5_signedCell cX5_signedCell 4 (some .int), Cond.fieldLink RX5 11 "Countcote" "streams" "[LCountcote$Stream;", Cond.fieldLink RX5 103 "Countcote$Stream" "signed" "LCountcote$SignedSketch;", Cond.methodLink RX5 16 yX5_requirePlace, Cond.static yX5_requirePlace, Cond.code yX5_requirePlace cX5_requirePlace 2 none, Cond.classLink RX5 136 "java/lang/IndexOutOfBoundsException", Cond.initialized "java/lang/IndexOutOfBoundsException", Cond.methodLink RX5 107 yX3_cellAt, Cond.instanceMethod yX3_cellAt, Cond.selects RX3 yX3_cellAt yX3_cellAt, Cond.initialized RX3, Cond.code yX3_cellAt cX3_cellAt 3 (some .int), Cond.fieldLink RX3 9 "Countcote$SignedSketch" "cells" "[I", Cond.methodLink RL 34 yX5_sign, Cond.instanceMethod yX5_sign, Cond.selects RX5 yX5_sign yX5_sign, Cond.code yX5_sign cX5_sign 3 (some .int), Cond.methodLink RX5 100 yX3_signOf, Cond.static yX3_signOf]
def wsL_areRows_r2 : List Cond := [Cond.code yX3_signOf cX3_signOf 2 (some .int), Cond.fieldLink RX3 23 "Countcote$SignedSketch" "SIGN_FACTORS" "[I", Cond.fieldLink RX3 26 "Countcote$SignedSketch" "SIGN_SHIFTS" "[I", Cond.methodLink RL 17 yX5_count, Cond.instanceMethod yX5_count, Cond.selects RX5 yX5_count yX5_count, Cond.code yX5_count cX5_count 3 (some .int), Cond.fieldLink RX5 24 "Countcote$Stream" "plain" "LCountcote$PlainCounts;", Cond.methodLink RX5 55 yX2_ofHalf, Cond.instanceMethod yX2_ofHalf, Cond.selects RX2 yX2_ofHalf yX2_ofHalf, Cond.initialized RX2, Cond.code yX2_ofHalf cX2_ofHalf 3 (some .int), Cond.fieldLink RX2 9 "Countcote$PlainCounts" "sums" "[I"]
def wsL_areRows : List Cond := .code yL_areRows cL_areRows 7 (some .boolean) :: ((wsL_areRows_r1 ++ wsL_areRows_r2) ++ wsX50 ++ wsX40 ++ wsX30 ++ wsX20 ++ zatN)
def wsL_areAsked_r1 : List Cond := [Cond.methodLink RL 73 yX5_frequent, Cond.instanceMethod yX5_frequent, Cond.selects RX5 yX5_frequent yX5_frequent, Cond.initialized RX5, Cond.code yX5_frequent cX5_frequent 5 (some .int), Cond.constant RX5 87 (1000000), Cond.fieldLink RX5 11 "Countcote" "streams" "[LCountcote$Stream;", Cond.methodLink RX5 16 yX5_requirePlace, Cond.static yX5_requirePlace, Cond.code yX5_requirePlace cX5_requirePlace 2 none, Cond.classLink RX5 136 "java/lang/IndexOutOfBoundsException", Cond.initialized "java/lang/IndexOutOfBoundsException", Cond.methodLink RX5 20 yX5_requireWithin, Cond.static yX5_requireWithin, Cond.code yX5_requireWithin cX5_requireWithin 3 none, Cond.classLink RX5 41 "java/lang/IllegalArgumentException", Cond.initialized "java/lang/IllegalArgumentException", Cond.methodLink RX5 88 yX4_reaches, Cond.instanceMethod yX4_reaches, Cond.selects RX4 yX4_reaches yX4_reaches, Cond.initialized RX4, Cond.code yX4_reaches cX4_reaches 4 (some .boolean), Cond.methodLink RX4 73 yX4_estimateOf, Cond.instanceMethod yX4_estimateOf]
def wsL_areAsked_r2 : List Cond := [Cond.selects RX4 yX4_estimateOf yX4_estimateOf, Cond.code yX4_estimateOf cX4_estimateOf 3 (some .int), Cond.fieldLink RX4 20 "Countcote$Stream" "careful" "[LCountcote$CarefulSketch;", Cond.fieldLink RX4 12 "Countcote$Stream" "plain" "LCountcote$PlainCounts;", Cond.methodLink RX4 65 yX0_leastOf, Cond.instanceMethod yX0_leastOf, Cond.selects RX0 yX0_leastOf yX0_leastOf, Cond.initialized RX0, Cond.code yX0_leastOf cX0_leastOf 4 (some .int), Cond.fieldLink RX0 9 "Countcote$CarefulSketch" "cells" "[I", Cond.methodLink RX0 26 Lib.Math.min.name, Cond.static Lib.Math.min.name, Cond.initialized "java/lang/Math", Cond.code Lib.Math.min.name Lib.Math.min.code 2 (some .int), Cond.methodLink RX0 23 yX0_placeOf, Cond.static yX0_placeOf, Cond.code yX0_placeOf cX0_placeOf 2 (some .int), Cond.methodLink RX0 19 yX0_columnOf, Cond.static yX0_columnOf, Cond.code yX0_columnOf cX0_columnOf 2 (some .int), Cond.fieldLink RX0 13 "Countcote$CarefulSketch" "FACTORS" "[I", Cond.fieldLink RX0 16 "Countcote$CarefulSketch" "SHIFTS" "[I", Cond.methodLink RX4 69 yX2_ofHalf, Cond.instanceMethod yX2_ofHalf]
def wsL_areAsked_r3 : List Cond := [Cond.selects RX2 yX2_ofHalf yX2_ofHalf, Cond.initialized RX2, Cond.code yX2_ofHalf cX2_ofHalf 3 (some .int), Cond.fieldLink RX2 9 "Countcote$PlainCounts" "sums" "[I", Cond.methodLink RL 76 yX5_frequentAt, Cond.instanceMethod yX5_frequentAt, Cond.selects RX5 yX5_frequentAt yX5_frequentAt, Cond.code yX5_frequentAt cX5_frequentAt 6 (some .int), Cond.classLink RX5 92 "java/util/NoSuchElementException", Cond.initialized "java/util/NoSuchElementException", Cond.methodLink RL 17 yX5_count, Cond.instanceMethod yX5_count, Cond.selects RX5 yX5_count yX5_count, Cond.code yX5_count cX5_count 3 (some .int), Cond.fieldLink RX5 24 "Countcote$Stream" "plain" "LCountcote$PlainCounts;", Cond.methodLink RX5 55 yX2_ofHalf, Cond.methodLink RL 79 yX5_estimateOfRange, Cond.instanceMethod yX5_estimateOfRange, Cond.selects RX5 yX5_estimateOfRange yX5_estimateOfRange, Cond.code yX5_estimateOfRange cX5_estimateOfRange 7 (some .int), Cond.methodLink RX5 59 yX5_requireRange, Cond.static yX5_requireRange, Cond.code yX5_requireRange cX5_requireRange 2 none, Cond.methodLink RX5 84 yX5_greatestLevel]
def wsL_areAsked_r4 : List Cond := [Cond.static yX5_greatestLevel, Cond.code yX5_greatestLevel cX5_greatestLevel 3 (some .int), Cond.methodLink RX5 150 yX5_isHalfWithin, Cond.static yX5_isHalfWithin, Cond.code yX5_isHalfWithin cX5_isHalfWithin 4 (some .boolean), Cond.methodLink RX5 81 yX4_estimateOf, Cond.methodLink RL 61 yX5_countOfRange, Cond.instanceMethod yX5_countOfRange, Cond.selects RX5 yX5_countOfRange yX5_countOfRange, Cond.code yX5_countOfRange cX5_countOfRange 4 (some .int), Cond.methodLink RX5 62 yX2_ofItems, Cond.instanceMethod yX2_ofItems, Cond.selects RX2 yX2_ofItems yX2_ofItems, Cond.code yX2_ofItems cX2_ofItems 5 (some .int), Cond.methodLink RL 82 yX5_parts, Cond.instanceMethod yX5_parts, Cond.selects RX5 yX5_parts yX5_parts, Cond.code yX5_parts cX5_parts 5 (some .int), Cond.methodLink RL 10 yX5_total, Cond.instanceMethod yX5_total, Cond.selects RX5 yX5_total yX5_total, Cond.code yX5_total cX5_total 2 (some .int), Cond.methodLink RX5 28 yX2_sum, Cond.instanceMethod yX2_sum]
def wsL_areAsked_r5 : List Cond := [Cond.selects RX2 yX2_sum yX2_sum, Cond.code yX2_sum cX2_sum 1 (some .int), Cond.methodLink RL 85 yX5_itemOfRank, Cond.instanceMethod yX5_itemOfRank, Cond.selects RX5 yX5_itemOfRank yX5_itemOfRank, Cond.code yX5_itemOfRank cX5_itemOfRank 7 (some .int), Cond.methodLink RL 53 yX5_share, Cond.instanceMethod yX5_share, Cond.selects RX5 yX5_share yX5_share, Cond.code yX5_share cX5_share 4 (some .double), Cond.methodLink RL 21 yX5_estimate, Cond.instanceMethod yX5_estimate, Cond.selects RX5 yX5_estimate yX5_estimate, Cond.code yX5_estimate cX5_estimate 4 (some .int)]
def wsL_areAsked : List Cond := .code yL_areAsked cL_areAsked 10 (some .boolean) :: ((wsL_areAsked_r1 ++ (wsL_areAsked_r2 ++ (wsL_areAsked_r3 ++ (wsL_areAsked_r4 ++ wsL_areAsked_r5)))) ++ wsX50 ++ wsX40 ++ wsX00 ++ wsX20 ++ zatN ++ zatN ++ zatN)
def wsL_law0_r1 : List Cond := [Cond.classLink RL 11 RX5, Cond.instantiable RX5 1, Cond.initialized RX5, Cond.methodLink RL 88 yX5_init, Cond.instanceMethod yX5_init, Cond.code yX5_init cX5_init 2 none, Cond.methodLink RX5 1 objectInit, Cond.instanceMethod objectInit, Cond.code objectInit ⟨#[0xb1]⟩ 1 none, Cond.classLink RX5 9 RX4, Cond.fieldLink RX5 11 "Countcote" "streams" "[LCountcote$Stream;", Cond.instantiable RX4 4, Cond.initialized RX4, Cond.methodLink RX5 15 yX4_init, Cond.instanceMethod yX4_init, Cond.code yX4_init cX4_init 2 none, Cond.methodLink RX4 3 objectInit, Cond.classLink RX4 9 RX2, Cond.instantiable RX2 1, Cond.initialized RX2, Cond.fieldLink RX4 12 "Countcote$Stream" "plain" "LCountcote$PlainCounts;", Cond.classLink RX4 18 RX0, Cond.fieldLink RX4 20 "Countcote$Stream" "careful" "[LCountcote$CarefulSketch;", Cond.classLink RX4 24 RX3]
def wsL_law0_r2 : List Cond := [Cond.instantiable RX3 2, Cond.initialized RX3, Cond.fieldLink RX4 27 "Countcote$Stream" "signed" "LCountcote$SignedSketch;", Cond.classLink RX4 31 RX1, Cond.instantiable RX1 4, Cond.initialized RX1, Cond.fieldLink RX4 34 "Countcote$Stream" "few" "LCountcote$FewCounters;", Cond.instantiable RX0 1, Cond.initialized RX0, Cond.instanceMethod yX2_init, Cond.code yX2_init cX2_init 1 none, Cond.methodLink RX2 3 objectInit, Cond.arrayClass .int, Cond.fieldLink RX2 9 "Countcote$PlainCounts" "sums" "[I", Cond.instanceMethod yX3_init, Cond.code yX3_init cX3_init 1 none, Cond.methodLink RX3 1 objectInit, Cond.fieldLink RX3 9 "Countcote$SignedSketch" "cells" "[I", Cond.arrayClass .long, Cond.fieldLink RX3 13 "Countcote$SignedSketch" "numbers" "[J", Cond.instanceMethod yX1_init, Cond.code yX1_init cX1_init 1 none, Cond.methodLink RX1 3 objectInit, Cond.fieldLink RX1 11 "Countcote$FewCounters" "items" "[I"]
def wsL_law0_r3 : List Cond := [Cond.fieldLink RX1 15 "Countcote$FewCounters" "weights" "[I", Cond.instanceMethod yX0_init, Cond.code yX0_init cX0_init 1 none, Cond.methodLink RX0 1 objectInit, Cond.fieldLink RX0 9 "Countcote$CarefulSketch" "cells" "[I", Cond.methodLink RL 89 yL_areHalves, Cond.static yL_areHalves, Cond.initialized RL, Cond.code yL_areHalves cL_areHalves 10 (some .boolean), Cond.methodLink RL 21 yX5_estimate, Cond.instanceMethod yX5_estimate, Cond.selects RX5 yX5_estimate yX5_estimate, Cond.code yX5_estimate cX5_estimate 4 (some .int), Cond.methodLink RX5 16 yX5_requirePlace, Cond.static yX5_requirePlace, Cond.code yX5_requirePlace cX5_requirePlace 2 none, Cond.classLink RX5 136 "java/lang/IndexOutOfBoundsException", Cond.initialized "java/lang/IndexOutOfBoundsException", Cond.methodLink RX5 81 yX4_estimateOf, Cond.instanceMethod yX4_estimateOf, Cond.selects RX4 yX4_estimateOf yX4_estimateOf, Cond.code yX4_estimateOf cX4_estimateOf 3 (some .int), Cond.methodLink RX4 65 yX0_leastOf, Cond.instanceMethod yX0_leastOf]
def wsL_law0_r4 : List Cond := [Cond.selects RX0 yX0_leastOf yX0_leastOf, Cond.code yX0_leastOf cX0_leastOf 4 (some .int), Cond.methodLink RX0 26 Lib.Math.min.name, Cond.static Lib.Math.min.name, Cond.initialized "java/lang/Math", Cond.code Lib.Math.min.name Lib.Math.min.code 2 (some .int), Cond.methodLink RX0 23 yX0_placeOf, Cond.static yX0_placeOf, Cond.code yX0_placeOf cX0_placeOf 2 (some .int), Cond.methodLink RX0 19 yX0_columnOf, Cond.static yX0_columnOf, Cond.code yX0_columnOf cX0_columnOf 2 (some .int), Cond.fieldLink RX0 13 "Countcote$CarefulSketch" "FACTORS" "[I", Cond.fieldLink RX0 16 "Countcote$CarefulSketch" "SHIFTS" "[I", Cond.methodLink RX4 69 yX2_ofHalf, Cond.instanceMethod yX2_ofHalf, Cond.selects RX2 yX2_ofHalf yX2_ofHalf, Cond.code yX2_ofHalf cX2_ofHalf 3 (some .int), Cond.methodLink RL 10 yX5_total, Cond.instanceMethod yX5_total, Cond.selects RX5 yX5_total yX5_total, Cond.code yX5_total cX5_total 2 (some .int), Cond.fieldLink RX5 24 "Countcote$Stream" "plain" "LCountcote$PlainCounts;", Cond.methodLink RX5 28 yX2_sum]
def wsL_law0_r5 : List Cond := [Cond.instanceMethod yX2_sum, Cond.selects RX2 yX2_sum yX2_sum, Cond.code yX2_sum cX2_sum 1 (some .int), Cond.methodLink RL 61 yX5_countOfRange, Cond.instanceMethod yX5_countOfRange, Cond.selects RX5 yX5_countOfRange yX5_countOfRange, Cond.code yX5_countOfRange cX5_countOfRange 4 (some .int), Cond.methodLink RX5 59 yX5_requireRange, Cond.static yX5_requireRange, Cond.code yX5_requireRange cX5_requireRange 2 none, Cond.classLink RX5 41 "java/lang/IllegalArgumentException", Cond.initialized "java/lang/IllegalArgumentException", Cond.methodLink RX5 62 yX2_ofItems, Cond.instanceMethod yX2_ofItems, Cond.selects RX2 yX2_ofItems yX2_ofItems, Cond.code yX2_ofItems cX2_ofItems 5 (some .int), Cond.methodLink RL 64 yX5_column, Cond.instanceMethod yX5_column, Cond.selects RX5 yX5_column yX5_column, Cond.code yX5_column cX5_column 3 (some .int), Cond.methodLink RX5 71 yX0_columnOf, Cond.methodLink RL 37 yX5_cell, Cond.instanceMethod yX5_cell, Cond.selects RX5 yX5_cell yX5_cell]
def wsL_law0_r6 : List Cond := [Cond.code yX5_cell cX5_cell 5 (some .int), Cond.fieldLink RX5 74 "Countcote$Stream" "careful" "[LCountcote$CarefulSketch;", Cond.methodLink RX5 78 yX0_cellAt, Cond.instanceMethod yX0_cellAt, Cond.selects RX0 yX0_cellAt yX0_cellAt, Cond.code yX0_cellAt cX0_cellAt 3 (some .int), Cond.methodLink RL 95 yL_areCounters, Cond.static yL_areCounters, Cond.code yL_areCounters cL_areCounters 7 (some .boolean), Cond.methodLink RL 50 yX5_counters, Cond.instanceMethod yX5_counters, Cond.selects RX5 yX5_counters yX5_counters, Cond.code yX5_counters cX5_counters 2 (some .int), Cond.fieldLink RX5 116 "Countcote$Stream" "few" "LCountcote$FewCounters;", Cond.methodLink RL 67 yX5_counterItem, Cond.instanceMethod yX5_counterItem, Cond.selects RX5 yX5_counterItem yX5_counterItem, Cond.code yX5_counterItem cX5_counterItem 3 (some .int), Cond.methodLink RL 70 yX5_counterOf, Cond.instanceMethod yX5_counterOf, Cond.selects RX5 yX5_counterOf yX5_counterOf, Cond.code yX5_counterOf cX5_counterOf 3 (some .int), Cond.methodLink RX5 130 yX1_weightOf, Cond.instanceMethod yX1_weightOf]
def wsL_law0_r7 : List Cond := [Cond.selects RX1 yX1_weightOf yX1_weightOf, Cond.code yX1_weightOf cX1_weightOf 3 (some .int), Cond.methodLink RX1 18 yX1_placeOf, Cond.instanceMethod yX1_placeOf, Cond.selects RX1 yX1_placeOf yX1_placeOf, Cond.code yX1_placeOf cX1_placeOf 3 (some .int), Cond.fieldLink RX1 22 "Countcote$FewCounters" "used" "I", Cond.methodLink RL 17 yX5_count, Cond.instanceMethod yX5_count, Cond.selects RX5 yX5_count yX5_count, Cond.code yX5_count cX5_count 3 (some .int), Cond.methodLink RX5 55 yX2_ofHalf, Cond.methodLink RL 41 yX5_taken, Cond.instanceMethod yX5_taken, Cond.selects RX5 yX5_taken yX5_taken, Cond.code yX5_taken cX5_taken 2 (some .int), Cond.methodLink RL 73 yX5_frequent, Cond.instanceMethod yX5_frequent, Cond.selects RX5 yX5_frequent yX5_frequent, Cond.code yX5_frequent cX5_frequent 5 (some .int), Cond.constant RX5 87 (1000000), Cond.methodLink RX5 20 yX5_requireWithin, Cond.static yX5_requireWithin, Cond.code yX5_requireWithin cX5_requireWithin 3 none]
def wsL_law0_r8 : List Cond := [Cond.methodLink RX5 88 yX4_reaches, Cond.instanceMethod yX4_reaches, Cond.selects RX4 yX4_reaches yX4_reaches, Cond.code yX4_reaches cX4_reaches 4 (some .boolean), Cond.methodLink RX4 73 yX4_estimateOf, Cond.methodLink RL 98 yL_draw, Cond.static yL_draw, Cond.code yL_draw cL_draw 2 (some .int), Cond.constant RL 7 (2147483647), Cond.constant RL 8 (104729), Cond.constant RL 9 (65521), Cond.methodLink RL 102 yL_step, Cond.static yL_step, Cond.code yL_step cL_step 12 (some .boolean), Cond.constant RL 16 (1000000), Cond.methodLink RL 25 yX5_signedColumn, Cond.instanceMethod yX5_signedColumn, Cond.selects RX5 yX5_signedColumn yX5_signedColumn, Cond.code yX5_signedColumn cX5_signedColumn 3 (some .int), Cond.methodLink RX5 99 yX3_columnOf, Cond.static yX3_columnOf, Cond.code yX3_columnOf cX3_columnOf 2 (some .int), Cond.fieldLink RX3 17 "Countcote$SignedSketch" "COLUMN_FACTORS" "[I", Cond.fieldLink RX3 20 "Countcote$SignedSketch" "COLUMN_SHIFTS" "[I"]
def wsL_law0_r9 : List Cond := [Cond.methodLink RL 28 yX5_signedCell, Cond.instanceMethod yX5_signedCell, Cond.selects RX5 yX5_signedCell yX5_signedCell, Cond.code yX5_signedCell cX5_signedCell 4 (some .int), Cond.fieldLink RX5 103 "Countcote$Stream" "signed" "LCountcote$SignedSketch;", Cond.methodLink RX5 107 yX3_cellAt, Cond.instanceMethod yX3_cellAt, Cond.selects RX3 yX3_cellAt yX3_cellAt, Cond.code yX3_cellAt cX3_cellAt 3 (some .int), Cond.methodLink RL 31 yX5_add, Cond.instanceMethod yX5_add, Cond.selects RX5 yX5_add yX5_add, Cond.code yX5_add cX5_add 5 (some .int), Cond.methodLink RX5 34 yX5_requireRoom, Cond.static yX5_requireRoom, Cond.code yX5_requireRoom cX5_requireRoom 1 none, Cond.classLink RX5 145 "java/lang/IllegalStateException", Cond.initialized "java/lang/IllegalStateException", Cond.methodLink RX5 38 yX4_put, Cond.instanceMethod yX4_put, Cond.selects RX4 yX4_put yX4_put, Cond.code yX4_put cX4_put 4 none, Cond.methodLink RX4 39 yX2_put, Cond.instanceMethod yX2_put]
def wsL_law0_r10 : List Cond := [Cond.selects RX2 yX2_put yX2_put, Cond.code yX2_put cX2_put 4 none, Cond.methodLink RX4 43 yX0_put, Cond.instanceMethod yX0_put, Cond.selects RX0 yX0_put yX0_put, Cond.code yX0_put cX0_put 6 none, Cond.methodLink RX0 35 Lib.Math.max.name, Cond.static Lib.Math.max.name, Cond.code Lib.Math.max.name Lib.Math.max.code 2 (some .int), Cond.methodLink RX0 31 yX0_leastOf, Cond.methodLink RX4 44 yX3_put, Cond.instanceMethod yX3_put, Cond.selects RX3 yX3_put yX3_put, Cond.code yX3_put cX3_put 4 none, Cond.methodLink RX3 33 yX3_placeOf, Cond.static yX3_placeOf, Cond.code yX3_placeOf cX3_placeOf 2 (some .int), Cond.methodLink RX3 29 yX3_columnOf, Cond.methodLink RX3 36 yX3_signOf, Cond.static yX3_signOf, Cond.code yX3_signOf cX3_signOf 2 (some .int), Cond.fieldLink RX3 23 "Countcote$SignedSketch" "SIGN_FACTORS" "[I", Cond.fieldLink RX3 26 "Countcote$SignedSketch" "SIGN_SHIFTS" "[I", Cond.methodLink RX4 45 yX1_put]
def wsL_law0_r11 : List Cond := [Cond.instanceMethod yX1_put, Cond.selects RX1 yX1_put yX1_put, Cond.code yX1_put cX1_put 4 none, Cond.methodLink RX1 34 Lib.Math.min.name, Cond.methodLink RX1 26 yX1_grow, Cond.instanceMethod yX1_grow, Cond.selects RX1 yX1_grow yX1_grow, Cond.code yX1_grow cX1_grow 4 none, Cond.methodLink RX1 30 yX1_leastWeight, Cond.instanceMethod yX1_leastWeight, Cond.selects RX1 yX1_leastWeight yX1_leastWeight, Cond.code yX1_leastWeight cX1_leastWeight 3 (some .int), Cond.methodLink RX1 40 yX1_takeAway, Cond.instanceMethod yX1_takeAway, Cond.selects RX1 yX1_takeAway yX1_takeAway, Cond.code yX1_takeAway cX1_takeAway 5 none, Cond.fieldLink RX1 44 "Countcote$FewCounters" "away" "I", Cond.methodLink RL 34 yX5_sign, Cond.instanceMethod yX5_sign, Cond.selects RX5 yX5_sign yX5_sign, Cond.code yX5_sign cX5_sign 3 (some .int), Cond.methodLink RX5 100 yX3_signOf, Cond.methodLink RL 44 yX5_merge, Cond.instanceMethod yX5_merge]
def wsL_law0_r12 : List Cond := [Cond.selects RX5 yX5_merge yX5_merge, Cond.code yX5_merge cX5_merge 5 (some .int), Cond.methodLink RX5 48 yX4_join, Cond.instanceMethod yX4_join, Cond.selects RX4 yX4_join yX4_join, Cond.code yX4_join cX4_join 3 none, Cond.methodLink RX4 46 yX2_join, Cond.instanceMethod yX2_join, Cond.selects RX2 yX2_join yX2_join, Cond.code yX2_join cX2_join 3 none, Cond.methodLink RX4 50 yX0_join, Cond.instanceMethod yX0_join, Cond.selects RX0 yX0_join yX0_join, Cond.code yX0_join cX0_join 3 none, Cond.methodLink RX4 53 yX3_join, Cond.instanceMethod yX3_join, Cond.selects RX3 yX3_join yX3_join, Cond.code yX3_join cX3_join 3 none, Cond.methodLink RX4 56 yX1_join, Cond.instanceMethod yX1_join, Cond.selects RX1 yX1_join yX1_join, Cond.code yX1_join cX1_join 3 none, Cond.methodLink RX1 47 yX1_weightReachedBy, Cond.instanceMethod yX1_weightReachedBy]
def wsL_law0_r13 : List Cond := [Cond.selects RX1 yX1_weightReachedBy yX1_weightReachedBy, Cond.code yX1_weightReachedBy cX1_weightReachedBy 4 (some .int), Cond.methodLink RX1 50 yX1_countersReaching, Cond.instanceMethod yX1_countersReaching, Cond.selects RX1 yX1_countersReaching yX1_countersReaching, Cond.code yX1_countersReaching cX1_countersReaching 4 (some .int), Cond.methodLink RL 47 yX5_clear, Cond.instanceMethod yX5_clear, Cond.selects RX5 yX5_clear yX5_clear, Cond.code yX5_clear cX5_clear 3 (some .int), Cond.methodLink RX5 52 yX4_empty, Cond.instanceMethod yX4_empty, Cond.selects RX4 yX4_empty yX4_empty, Cond.code yX4_empty cX4_empty 2 none, Cond.methodLink RX4 59 yX2_empty, Cond.instanceMethod yX2_empty, Cond.selects RX2 yX2_empty yX2_empty, Cond.code yX2_empty cX2_empty 1 none, Cond.methodLink RX2 15 yJ7_fill_53178, Cond.static yJ7_fill_53178, Cond.initialized RJ7, Cond.code yJ7_fill_53178 cJ7_fill_53178 4 none, Cond.methodLink RX4 62 yX0_empty, Cond.instanceMethod yX0_empty]
def wsL_law0_r14 : List Cond := [Cond.selects RX0 yX0_empty yX0_empty, Cond.code yX0_empty cX0_empty 1 none, Cond.methodLink RX0 38 yJ7_fill_53178, Cond.methodLink RX4 63 yX3_empty, Cond.instanceMethod yX3_empty, Cond.selects RX3 yX3_empty yX3_empty, Cond.code yX3_empty cX3_empty 1 none, Cond.methodLink RX3 39 yJ7_fill_53178, Cond.methodLink RX4 64 yX1_empty, Cond.instanceMethod yX1_empty, Cond.selects RX1 yX1_empty yX1_empty, Cond.code yX1_empty cX1_empty 1 none, Cond.methodLink RL 53 yX5_share, Cond.instanceMethod yX5_share, Cond.selects RX5 yX5_share yX5_share, Cond.code yX5_share cX5_share 4 (some .double), Cond.methodLink RL 57 yX5_signedProduct, Cond.instanceMethod yX5_signedProduct, Cond.selects RX5 yX5_signedProduct yX5_signedProduct, Cond.code yX5_signedProduct cX5_signedProduct 3 (some .long), Cond.methodLink RX5 112 yX3_middleProduct, Cond.instanceMethod yX3_middleProduct, Cond.selects RX3 yX3_middleProduct yX3_middleProduct, Cond.code yX3_middleProduct cX3_middleProduct 3 (some .long)]
def wsL_law0_r15 : List Cond := [Cond.methodLink RX3 49 yX3_rowProduct, Cond.instanceMethod yX3_rowProduct, Cond.selects RX3 yX3_rowProduct yX3_rowProduct, Cond.code yX3_rowProduct cX3_rowProduct 6 (some .long), Cond.methodLink RX3 53 yX3_cellAt, Cond.methodLink RX3 45 yX3_middleNumber, Cond.instanceMethod yX3_middleNumber, Cond.selects RX3 yX3_middleNumber yX3_middleNumber, Cond.code yX3_middleNumber cX3_middleNumber 5 (some .long), Cond.methodLink RL 106 yL_areRows, Cond.static yL_areRows, Cond.code yL_areRows cL_areRows 7 (some .boolean), Cond.methodLink RL 109 yL_areAsked, Cond.static yL_areAsked, Cond.code yL_areAsked cL_areAsked 10 (some .boolean), Cond.methodLink RL 76 yX5_frequentAt, Cond.instanceMethod yX5_frequentAt, Cond.selects RX5 yX5_frequentAt yX5_frequentAt, Cond.code yX5_frequentAt cX5_frequentAt 6 (some .int), Cond.classLink RX5 92 "java/util/NoSuchElementException", Cond.initialized "java/util/NoSuchElementException", Cond.methodLink RL 79 yX5_estimateOfRange, Cond.instanceMethod yX5_estimateOfRange, Cond.selects RX5 yX5_estimateOfRange yX5_estimateOfRange]
def wsL_law0_r16 : List Cond := [Cond.code yX5_estimateOfRange cX5_estimateOfRange 7 (some .int), Cond.methodLink RX5 84 yX5_greatestLevel, Cond.static yX5_greatestLevel, Cond.code yX5_greatestLevel cX5_greatestLevel 3 (some .int), Cond.methodLink RX5 150 yX5_isHalfWithin, Cond.static yX5_isHalfWithin, Cond.code yX5_isHalfWithin cX5_isHalfWithin 4 (some .boolean), Cond.methodLink RL 82 yX5_parts, Cond.instanceMethod yX5_parts, Cond.selects RX5 yX5_parts yX5_parts, Cond.code yX5_parts cX5_parts 5 (some .int), Cond.methodLink RL 85 yX5_itemOfRank, Cond.instanceMethod yX5_itemOfRank, Cond.selects RX5 yX5_itemOfRank yX5_itemOfRank, Cond.code yX5_itemOfRank cX5_itemOfRank 7 (some .int), Cond.methodLink RL 113 yX5_product, Cond.instanceMethod yX5_product, Cond.selects RX5 yX5_product yX5_product, Cond.code yX5_product cX5_product 3 (some .long), Cond.methodLink RX5 65 yX2_times, Cond.instanceMethod yX2_times, Cond.selects RX2 yX2_times yX2_times, Cond.code yX2_times cX2_times 5 (some .long)]
def wsL_law0 : List Cond := (wsL_law0_r1 ++ (wsL_law0_r2 ++ (wsL_law0_r3 ++ (wsL_law0_r4 ++ (wsL_law0_r5 ++ (wsL_law0_r6 ++ (wsL_law0_r7 ++ (wsL_law0_r8 ++ (wsL_law0_r9 ++ (wsL_law0_r10 ++ (wsL_law0_r11 ++ (wsL_law0_r12 ++ (wsL_law0_r13 ++ (wsL_law0_r14 ++ (wsL_law0_r15 ++ wsL_law0_r16))))))))))))))) ++ wsX50 ++ wsX40 ++ wsX20 ++ wsX30 ++ wsX10 ++ wsX00 ++ ([] : List Cond)
def wsL_law : List Cond := wsL_law0 ++ zatN ++ zatN ++ zatN ++ zatN
end
section
theorem dX0_init_0 : decode cX0_init 0 = .ok (.aload_n 0, 1) := by decide +kernel
theorem dX0_init_1 : decode cX0_init 1 = .ok (.invokespecial 1, 3) := by decide +kernel
theorem dX0_init_4 : decode cX0_init 4 = .ok (.aload_n 0, 1) := by decide +kernel
theorem dX0_init_5 : decode cX0_init 5 = .ok (.bipush 24, 2) := by decide +kernel
theorem dX0_init_7 : decode cX0_init 7 = .ok (.newarray .int, 2) := by decide +kernel
theorem dX0_init_9 : decode cX0_init 9 = .ok (.putfield 9, 3) := by decide +kernel
theorem dX0_init_12 : decode cX0_init 12 = .ok (.return_, 1) := by decide +kernel
theorem dX0_columnOf_0 : decode cX0_columnOf 0 = .ok (.getstatic 13, 3) := by decide +kernel
theorem dX0_columnOf_3 : decode cX0_columnOf 3 = .ok (.iload_n 0, 1) := by decide +kernel
theorem dX0_columnOf_4 : decode cX0_columnOf 4 = .ok (.iaload, 1) := by decide +kernel
theorem dX0_columnOf_5 : decode cX0_columnOf 5 = .ok (.iload_n 1, 1) := by decide +kernel
theorem dX0_columnOf_6 : decode cX0_columnOf 6 = .ok (.imul, 1) := by decide +kernel
theorem dX0_columnOf_7 : decode cX0_columnOf 7 = .ok (.getstatic 16, 3) := by decide +kernel
theorem dX0_columnOf_10 : decode cX0_columnOf 10 = .ok (.iload_n 0, 1) := by decide +kernel
theorem dX0_columnOf_11 : decode cX0_columnOf 11 = .ok (.iaload, 1) := by decide +kernel
theorem dX0_columnOf_12 : decode cX0_columnOf 12 = .ok (.iadd, 1) := by decide +kernel
theorem dX0_columnOf_13 : decode cX0_columnOf 13 = .ok (.bipush 61, 2) := by decide +kernel
theorem dX0_columnOf_15 : decode cX0_columnOf 15 = .ok (.irem, 1) := by decide +kernel
theorem dX0_columnOf_16 : decode cX0_columnOf 16 = .ok (.bipush 8, 2) := by decide +kernel
theorem dX0_columnOf_18 : decode cX0_columnOf 18 = .ok (.irem, 1) := by decide +kernel
theorem dX0_columnOf_19 : decode cX0_columnOf 19 = .ok (.ireturn, 1) := by decide +kernel
set_option maxRecDepth 20000 in
theorem ggX0_placeOf_X0_columnOf : GoodIn wsX0_placeOf wsX0_columnOf := goodIn_r _ [4, 5, 6] (by decide +kernel) (by decide +kernel)
set_option maxRecDepth 20000 in
theorem gX0_placeOf_X0_columnOf : GoodIn wsX0_placeOf (va_wsS RX0 19 yX0_columnOf wsX0_columnOf) := goodIn_app (goodIn_of _ (by decide +kernel)) ggX0_placeOf_X0_columnOf
theorem dX0_placeOf_0 : decode cX0_placeOf 0 = .ok (.iload_n 0, 1) := by decide +kernel
theorem dX0_placeOf_1 : decode cX0_placeOf 1 = .ok (.bipush 8, 2) := by decide +kernel
theorem dX0_placeOf_3 : decode cX0_placeOf 3 = .ok (.imul, 1) := by decide +kernel
theorem dX0_placeOf_4 : decode cX0_placeOf 4 = .ok (.iload_n 0, 1) := by decide +kernel
theorem dX0_placeOf_5 : decode cX0_placeOf 5 = .ok (.iload_n 1, 1) := by decide +kernel
theorem dX0_placeOf_6 : decode cX0_placeOf 6 = .ok (.invokestatic 19, 3) := by decide +kernel
theorem dX0_placeOf_9 : decode cX0_placeOf 9 = .ok (.iadd, 1) := by decide +kernel
theorem dX0_placeOf_10 : decode cX0_placeOf 10 = .ok (.ireturn, 1) := by decide +kernel
theorem dX0_cellAt_0 : decode cX0_cellAt 0 = .ok (.aload_n 0, 1) := by decide +kernel
theorem dX0_cellAt_1 : decode cX0_cellAt 1 = .ok (.getfield 9, 3) := by decide +kernel
theorem dX0_cellAt_4 : decode cX0_cellAt 4 = .ok (.iload_n 1, 1) := by decide +kernel
theorem dX0_cellAt_5 : decode cX0_cellAt 5 = .ok (.bipush 8, 2) := by decide +kernel
theorem dX0_cellAt_7 : decode cX0_cellAt 7 = .ok (.imul, 1) := by decide +kernel
theorem dX0_cellAt_8 : decode cX0_cellAt 8 = .ok (.iload_n 2, 1) := by decide +kernel
theorem dX0_cellAt_9 : decode cX0_cellAt 9 = .ok (.iadd, 1) := by decide +kernel
theorem dX0_cellAt_10 : decode cX0_cellAt 10 = .ok (.iaload, 1) := by decide +kernel
theorem dX0_cellAt_11 : decode cX0_cellAt 11 = .ok (.ireturn, 1) := by decide +kernel
set_option maxRecDepth 20000 in
theorem ggX0_leastOf_X0_placeOf : GoodIn wsX0_leastOf wsX0_placeOf := goodIn_r _ [9, 10, 11, 8, 12, 13, 14] (by decide +kernel) (by decide +kernel)
set_option maxRecDepth 20000 in
theorem gX0_leastOf_X0_placeOf : GoodIn wsX0_leastOf (va_wsS RX0 23 yX0_placeOf wsX0_placeOf) := goodIn_app (goodIn_of _ (by decide +kernel)) ggX0_leastOf_X0_placeOf
theorem dX0_leastOf_0 : decode cX0_leastOf 0 = .ok (.aload_n 0, 1) := by decide +kernel
theorem dX0_leastOf_1 : decode cX0_leastOf 1 = .ok (.getfield 9, 3) := by decide +kernel
theorem dX0_leastOf_4 : decode cX0_leastOf 4 = .ok (.iconst 0, 1) := by decide +kernel
theorem dX0_leastOf_5 : decode cX0_leastOf 5 = .ok (.iload_n 1, 1) := by decide +kernel
theorem dX0_leastOf_6 : decode cX0_leastOf 6 = .ok (.invokestatic 23, 3) := by decide +kernel
theorem dX0_leastOf_9 : decode cX0_leastOf 9 = .ok (.iaload, 1) := by decide +kernel
theorem dX0_leastOf_10 : decode cX0_leastOf 10 = .ok (.istore_n 2, 1) := by decide +kernel
theorem dX0_leastOf_11 : decode cX0_leastOf 11 = .ok (.iconst 1, 1) := by decide +kernel
theorem dX0_leastOf_12 : decode cX0_leastOf 12 = .ok (.istore_n 3, 1) := by decide +kernel
theorem dX0_leastOf_13 : decode cX0_leastOf 13 = .ok (.iload_n 3, 1) := by decide +kernel
theorem dX0_leastOf_14 : decode cX0_leastOf 14 = .ok (.iconst 3, 1) := by decide +kernel
theorem dX0_leastOf_15 : decode cX0_leastOf 15 = .ok (.if_icmp .ge 24, 3) := by decide +kernel
theorem dX0_leastOf_18 : decode cX0_leastOf 18 = .ok (.iload_n 2, 1) := by decide +kernel
theorem dX0_leastOf_19 : decode cX0_leastOf 19 = .ok (.aload_n 0, 1) := by decide +kernel
theorem dX0_leastOf_20 : decode cX0_leastOf 20 = .ok (.getfield 9, 3) := by decide +kernel
theorem dX0_leastOf_23 : decode cX0_leastOf 23 = .ok (.iload_n 3, 1) := by decide +kernel
theorem dX0_leastOf_24 : decode cX0_leastOf 24 = .ok (.iload_n 1, 1) := by decide +kernel
theorem dX0_leastOf_25 : decode cX0_leastOf 25 = .ok (.invokestatic 23, 3) := by decide +kernel
theorem dX0_leastOf_28 : decode cX0_leastOf 28 = .ok (.iaload, 1) := by decide +kernel
theorem dX0_leastOf_29 : decode cX0_leastOf 29 = .ok (.invokestatic 26, 3) := by decide +kernel
theorem dX0_leastOf_32 : decode cX0_leastOf 32 = .ok (.istore_n 2, 1) := by decide +kernel
theorem dX0_leastOf_33 : decode cX0_leastOf 33 = .ok (.iinc 3 1, 3) := by decide +kernel
theorem dX0_leastOf_36 : decode cX0_leastOf 36 = .ok (.goto (-23), 3) := by decide +kernel
theorem dX0_leastOf_39 : decode cX0_leastOf 39 = .ok (.iload_n 2, 1) := by decide +kernel
theorem dX0_leastOf_40 : decode cX0_leastOf 40 = .ok (.ireturn, 1) := by decide +kernel
set_option maxRecDepth 20000 in
theorem ggX0_put_X0_leastOf : GoodIn wsX0_put wsX0_leastOf := goodIn_r _ [10, 1, 11, 12, 4, 13, 14, 15, 9, 16, 17, 18, 19, 20, 21, 22] (by decide +kernel) (by decide +kernel)
set_option maxRecDepth 20000 in
theorem gX0_put_X0_leastOf : GoodIn wsX0_put (wsV RX0 31 RX0 yX0_leastOf wsX0_leastOf) := goodIn_app (goodIn_of _ (by decide +kernel)) ggX0_put_X0_leastOf
set_option maxRecDepth 20000 in
theorem ggX0_put_X0_placeOf : GoodIn wsX0_put wsX0_placeOf := goodIn_r _ [16, 17, 18, 9, 19, 20, 21] (by decide +kernel) (by decide +kernel)
set_option maxRecDepth 20000 in
theorem gX0_put_X0_placeOf : GoodIn wsX0_put (va_wsS RX0 23 yX0_placeOf wsX0_placeOf) := goodIn_app (goodIn_of _ (by decide +kernel)) ggX0_put_X0_placeOf
theorem dX0_put_0 : decode cX0_put 0 = .ok (.aload_n 0, 1) := by decide +kernel
theorem dX0_put_1 : decode cX0_put 1 = .ok (.iload_n 1, 1) := by decide +kernel
theorem dX0_put_2 : decode cX0_put 2 = .ok (.invokevirtual 31, 3) := by decide +kernel
theorem dX0_put_5 : decode cX0_put 5 = .ok (.iload_n 2, 1) := by decide +kernel
theorem dX0_put_6 : decode cX0_put 6 = .ok (.iadd, 1) := by decide +kernel
theorem dX0_put_7 : decode cX0_put 7 = .ok (.istore_n 3, 1) := by decide +kernel
theorem dX0_put_8 : decode cX0_put 8 = .ok (.iconst 0, 1) := by decide +kernel
theorem dX0_put_9 : decode cX0_put 9 = .ok (.istore 4, 2) := by decide +kernel
theorem dX0_put_11 : decode cX0_put 11 = .ok (.iload 4, 2) := by decide +kernel
theorem dX0_put_13 : decode cX0_put 13 = .ok (.iconst 3, 1) := by decide +kernel
theorem dX0_put_14 : decode cX0_put 14 = .ok (.if_icmp .ge 35, 3) := by decide +kernel
theorem dX0_put_17 : decode cX0_put 17 = .ok (.iload 4, 2) := by decide +kernel
theorem dX0_put_19 : decode cX0_put 19 = .ok (.iload_n 1, 1) := by decide +kernel
theorem dX0_put_20 : decode cX0_put 20 = .ok (.invokestatic 23, 3) := by decide +kernel
theorem dX0_put_23 : decode cX0_put 23 = .ok (.istore 5, 2) := by decide +kernel
theorem dX0_put_25 : decode cX0_put 25 = .ok (.aload_n 0, 1) := by decide +kernel
theorem dX0_put_26 : decode cX0_put 26 = .ok (.getfield 9, 3) := by decide +kernel
theorem dX0_put_29 : decode cX0_put 29 = .ok (.iload 5, 2) := by decide +kernel
theorem dX0_put_31 : decode cX0_put 31 = .ok (.aload_n 0, 1) := by decide +kernel
theorem dX0_put_32 : decode cX0_put 32 = .ok (.getfield 9, 3) := by decide +kernel
theorem dX0_put_35 : decode cX0_put 35 = .ok (.iload 5, 2) := by decide +kernel
theorem dX0_put_37 : decode cX0_put 37 = .ok (.iaload, 1) := by decide +kernel
theorem dX0_put_38 : decode cX0_put 38 = .ok (.iload_n 3, 1) := by decide +kernel
theorem dX0_put_39 : decode cX0_put 39 = .ok (.invokestatic 35, 3) := by decide +kernel
theorem dX0_put_42 : decode cX0_put 42 = .ok (.iastore, 1) := by decide +kernel
theorem dX0_put_43 : decode cX0_put 43 = .ok (.iinc 4 1, 3) := by decide +kernel
theorem dX0_put_46 : decode cX0_put 46 = .ok (.goto (-35), 3) := by decide +kernel
theorem dX0_put_49 : decode cX0_put 49 = .ok (.return_, 1) := by decide +kernel
theorem dX0_join_0 : decode cX0_join 0 = .ok (.iconst 0, 1) := by decide +kernel
theorem dX0_join_1 : decode cX0_join 1 = .ok (.istore_n 2, 1) := by decide +kernel
theorem dX0_join_2 : decode cX0_join 2 = .ok (.iload_n 2, 1) := by decide +kernel
theorem dX0_join_3 : decode cX0_join 3 = .ok (.aload_n 0, 1) := by decide +kernel
theorem dX0_join_4 : decode cX0_join 4 = .ok (.getfield 9, 3) := by decide +kernel
theorem dX0_join_7 : decode cX0_join 7 = .ok (.arraylength, 1) := by decide +kernel
theorem dX0_join_8 : decode cX0_join 8 = .ok (.if_icmp .ge 24, 3) := by decide +kernel
theorem dX0_join_11 : decode cX0_join 11 = .ok (.aload_n 0, 1) := by decide +kernel
theorem dX0_join_12 : decode cX0_join 12 = .ok (.getfield 9, 3) := by decide +kernel
theorem dX0_join_15 : decode cX0_join 15 = .ok (.iload_n 2, 1) := by decide +kernel
theorem dX0_join_16 : decode cX0_join 16 = .ok (.dup2, 1) := by decide +kernel
theorem dX0_join_17 : decode cX0_join 17 = .ok (.iaload, 1) := by decide +kernel
theorem dX0_join_18 : decode cX0_join 18 = .ok (.aload_n 1, 1) := by decide +kernel
theorem dX0_join_19 : decode cX0_join 19 = .ok (.getfield 9, 3) := by decide +kernel
theorem dX0_join_22 : decode cX0_join 22 = .ok (.iload_n 2, 1) := by decide +kernel
theorem dX0_join_23 : decode cX0_join 23 = .ok (.iaload, 1) := by decide +kernel
theorem dX0_join_24 : decode cX0_join 24 = .ok (.iadd, 1) := by decide +kernel
theorem dX0_join_25 : decode cX0_join 25 = .ok (.iastore, 1) := by decide +kernel
theorem dX0_join_26 : decode cX0_join 26 = .ok (.iinc 2 1, 3) := by decide +kernel
theorem dX0_join_29 : decode cX0_join 29 = .ok (.goto (-27), 3) := by decide +kernel
theorem dX0_join_32 : decode cX0_join 32 = .ok (.return_, 1) := by decide +kernel
set_option maxRecDepth 20000 in
theorem ggX0_empty_J7_fill_53178 : GoodIn wsX0_empty wsJ7_fill_53178 := goodIn_r _ [5] (by decide +kernel) (by decide +kernel)
set_option maxRecDepth 20000 in
theorem gX0_empty_J7_fill_53178 : GoodIn wsX0_empty (va_wsS RX0 38 yJ7_fill_53178 wsJ7_fill_53178) := goodIn_app (goodIn_of _ (by decide +kernel)) ggX0_empty_J7_fill_53178
theorem dX0_empty_0 : decode cX0_empty 0 = .ok (.aload_n 0, 1) := by decide +kernel
theorem dX0_empty_1 : decode cX0_empty 1 = .ok (.getfield 9, 3) := by decide +kernel
theorem dX0_empty_4 : decode cX0_empty 4 = .ok (.iconst 0, 1) := by decide +kernel
theorem dX0_empty_5 : decode cX0_empty 5 = .ok (.invokestatic 38, 3) := by decide +kernel
theorem dX0_empty_8 : decode cX0_empty 8 = .ok (.return_, 1) := by decide +kernel
theorem dX1_init_0 : decode cX1_init 0 = .ok (.aload_n 0, 1) := by decide +kernel
theorem dX1_init_1 : decode cX1_init 1 = .ok (.invokespecial 3, 3) := by decide +kernel
theorem dX1_init_4 : decode cX1_init 4 = .ok (.aload_n 0, 1) := by decide +kernel
theorem dX1_init_5 : decode cX1_init 5 = .ok (.bipush 8, 2) := by decide +kernel
theorem dX1_init_7 : decode cX1_init 7 = .ok (.newarray .int, 2) := by decide +kernel
theorem dX1_init_9 : decode cX1_init 9 = .ok (.putfield 11, 3) := by decide +kernel
theorem dX1_init_12 : decode cX1_init 12 = .ok (.aload_n 0, 1) := by decide +kernel
theorem dX1_init_13 : decode cX1_init 13 = .ok (.bipush 8, 2) := by decide +kernel
theorem dX1_init_15 : decode cX1_init 15 = .ok (.newarray .int, 2) := by decide +kernel
theorem dX1_init_17 : decode cX1_init 17 = .ok (.putfield 15, 3) := by decide +kernel
theorem dX1_init_20 : decode cX1_init 20 = .ok (.return_, 1) := by decide +kernel
set_option maxRecDepth 20000 in
theorem ggX1_weightOf_X1_placeOf : GoodIn wsX1_weightOf wsX1_placeOf := goodIn_r _ [6, 7, 8, 9, 10, 11, 12] (by decide +kernel) (by decide +kernel)
set_option maxRecDepth 20000 in
theorem gX1_weightOf_X1_placeOf : GoodIn wsX1_weightOf (wsV RX1 18 RX1 yX1_placeOf wsX1_placeOf) := goodIn_app (goodIn_of _ (by decide +kernel)) ggX1_weightOf_X1_placeOf
theorem dX1_weightOf_0 : decode cX1_weightOf 0 = .ok (.aload_n 0, 1) := by decide +kernel
theorem dX1_weightOf_1 : decode cX1_weightOf 1 = .ok (.iload_n 1, 1) := by decide +kernel
theorem dX1_weightOf_2 : decode cX1_weightOf 2 = .ok (.invokevirtual 18, 3) := by decide +kernel
theorem dX1_weightOf_5 : decode cX1_weightOf 5 = .ok (.istore_n 2, 1) := by decide +kernel
theorem dX1_weightOf_6 : decode cX1_weightOf 6 = .ok (.iload_n 2, 1) := by decide +kernel
theorem dX1_weightOf_7 : decode cX1_weightOf 7 = .ok (.iconst (-1), 1) := by decide +kernel
theorem dX1_weightOf_8 : decode cX1_weightOf 8 = .ok (.if_icmp .ne 7, 3) := by decide +kernel
theorem dX1_weightOf_11 : decode cX1_weightOf 11 = .ok (.iconst 0, 1) := by decide +kernel
theorem dX1_weightOf_12 : decode cX1_weightOf 12 = .ok (.goto 9, 3) := by decide +kernel
theorem dX1_weightOf_15 : decode cX1_weightOf 15 = .ok (.aload_n 0, 1) := by decide +kernel
theorem dX1_weightOf_16 : decode cX1_weightOf 16 = .ok (.getfield 15, 3) := by decide +kernel
theorem dX1_weightOf_19 : decode cX1_weightOf 19 = .ok (.iload_n 2, 1) := by decide +kernel
theorem dX1_weightOf_20 : decode cX1_weightOf 20 = .ok (.iaload, 1) := by decide +kernel
theorem dX1_weightOf_21 : decode cX1_weightOf 21 = .ok (.ireturn, 1) := by decide +kernel
set_option maxRecDepth 20000 in
theorem ggX1_put_X1_placeOf : GoodIn wsX1_put wsX1_placeOf := goodIn_r _ [10, 1, 11, 26, 27, 28, 29] (by decide +kernel) (by decide +kernel)
set_option maxRecDepth 20000 in
theorem gX1_put_X1_placeOf : GoodIn wsX1_put (wsV RX1 18 RX1 yX1_placeOf wsX1_placeOf) := goodIn_app (goodIn_of _ (by decide +kernel)) ggX1_put_X1_placeOf
set_option maxRecDepth 20000 in
theorem ggX1_put_X1_grow : GoodIn wsX1_put wsX1_grow := goodIn_r _ [15, 16, 1, 11, 6, 7, 8, 9, 10, 26, 27, 28, 29] (by decide +kernel) (by decide +kernel)
set_option maxRecDepth 20000 in
theorem gX1_put_X1_grow : GoodIn wsX1_put (wsV RX1 26 RX1 yX1_grow wsX1_grow) := goodIn_app (goodIn_of _ (by decide +kernel)) ggX1_put_X1_grow
set_option maxRecDepth 20000 in
theorem ggX1_put_X1_leastWeight : GoodIn wsX1_put wsX1_leastWeight := goodIn_r _ [20, 16, 1, 2, 3, 4, 5, 26, 27, 28, 29] (by decide +kernel) (by decide +kernel)
set_option maxRecDepth 20000 in
theorem gX1_put_X1_leastWeight : GoodIn wsX1_put (wsV RX1 30 RX1 yX1_leastWeight wsX1_leastWeight) := goodIn_app (goodIn_of _ (by decide +kernel)) ggX1_put_X1_leastWeight
set_option maxRecDepth 20000 in
theorem ggX1_put_X1_takeAway : GoodIn wsX1_put wsX1_takeAway := goodIn_r _ [24, 1, 16, 11, 25, 26, 27, 28, 29] (by decide +kernel) (by decide +kernel)
set_option maxRecDepth 20000 in
theorem gX1_put_X1_takeAway : GoodIn wsX1_put (wsV RX1 40 RX1 yX1_takeAway wsX1_takeAway) := goodIn_app (goodIn_of _ (by decide +kernel)) ggX1_put_X1_takeAway
theorem dX1_put_0 : decode cX1_put 0 = .ok (.aload_n 0, 1) := by decide +kernel
theorem dX1_put_1 : decode cX1_put 1 = .ok (.iload_n 1, 1) := by decide +kernel
theorem dX1_put_2 : decode cX1_put 2 = .ok (.invokevirtual 18, 3) := by decide +kernel
theorem dX1_put_5 : decode cX1_put 5 = .ok (.iconst (-1), 1) := by decide +kernel
theorem dX1_put_6 : decode cX1_put 6 = .ok (.if_icmp .ne 11, 3) := by decide +kernel
theorem dX1_put_9 : decode cX1_put 9 = .ok (.aload_n 0, 1) := by decide +kernel
theorem dX1_put_10 : decode cX1_put 10 = .ok (.getfield 22, 3) := by decide +kernel
theorem dX1_put_13 : decode cX1_put 13 = .ok (.iconst 4, 1) := by decide +kernel
theorem dX1_put_14 : decode cX1_put 14 = .ok (.if_icmp .ge 10, 3) := by decide +kernel
theorem dX1_put_17 : decode cX1_put 17 = .ok (.aload_n 0, 1) := by decide +kernel
theorem dX1_put_18 : decode cX1_put 18 = .ok (.iload_n 1, 1) := by decide +kernel
theorem dX1_put_19 : decode cX1_put 19 = .ok (.iload_n 2, 1) := by decide +kernel
theorem dX1_put_20 : decode cX1_put 20 = .ok (.invokevirtual 26, 3) := by decide +kernel
theorem dX1_put_23 : decode cX1_put 23 = .ok (.return_, 1) := by decide +kernel
theorem dX1_put_24 : decode cX1_put 24 = .ok (.iload_n 2, 1) := by decide +kernel
theorem dX1_put_25 : decode cX1_put 25 = .ok (.aload_n 0, 1) := by decide +kernel
theorem dX1_put_26 : decode cX1_put 26 = .ok (.invokevirtual 30, 3) := by decide +kernel
theorem dX1_put_29 : decode cX1_put 29 = .ok (.invokestatic 34, 3) := by decide +kernel
theorem dX1_put_32 : decode cX1_put 32 = .ok (.istore_n 3, 1) := by decide +kernel
theorem dX1_put_33 : decode cX1_put 33 = .ok (.aload_n 0, 1) := by decide +kernel
theorem dX1_put_34 : decode cX1_put 34 = .ok (.iload_n 3, 1) := by decide +kernel
theorem dX1_put_35 : decode cX1_put 35 = .ok (.invokevirtual 40, 3) := by decide +kernel
theorem dX1_put_38 : decode cX1_put 38 = .ok (.iload_n 2, 1) := by decide +kernel
theorem dX1_put_39 : decode cX1_put 39 = .ok (.iload_n 3, 1) := by decide +kernel
theorem dX1_put_40 : decode cX1_put 40 = .ok (.if_icmp .le 11, 3) := by decide +kernel
theorem dX1_put_43 : decode cX1_put 43 = .ok (.aload_n 0, 1) := by decide +kernel
theorem dX1_put_44 : decode cX1_put 44 = .ok (.iload_n 1, 1) := by decide +kernel
theorem dX1_put_45 : decode cX1_put 45 = .ok (.iload_n 2, 1) := by decide +kernel
theorem dX1_put_46 : decode cX1_put 46 = .ok (.iload_n 3, 1) := by decide +kernel
theorem dX1_put_47 : decode cX1_put 47 = .ok (.isub, 1) := by decide +kernel
theorem dX1_put_48 : decode cX1_put 48 = .ok (.invokevirtual 26, 3) := by decide +kernel
theorem dX1_put_51 : decode cX1_put 51 = .ok (.return_, 1) := by decide +kernel
set_option maxRecDepth 20000 in
theorem ggX1_join_X1_grow : GoodIn wsX1_join wsX1_grow := goodIn_r _ [9, 3, 1, 2, 10, 11, 12, 8, 13, 26, 27, 28, 29] (by decide +kernel) (by decide +kernel)
set_option maxRecDepth 20000 in
theorem gX1_join_X1_grow : GoodIn wsX1_join (wsV RX1 26 RX1 yX1_grow wsX1_grow) := goodIn_app (goodIn_of _ (by decide +kernel)) ggX1_join_X1_grow
set_option maxRecDepth 20000 in
theorem ggX1_join_X1_weightReachedBy : GoodIn wsX1_join wsX1_weightReachedBy := goodIn_r _ [17, 1, 3, 18, 19, 20, 8, 21, 26, 27, 28, 29] (by decide +kernel) (by decide +kernel)
set_option maxRecDepth 20000 in
theorem gX1_join_X1_weightReachedBy : GoodIn wsX1_join (wsV RX1 47 RX1 yX1_weightReachedBy wsX1_weightReachedBy) := goodIn_app (goodIn_of _ (by decide +kernel)) ggX1_join_X1_weightReachedBy
set_option maxRecDepth 20000 in
theorem ggX1_join_X1_takeAway : GoodIn wsX1_join wsX1_takeAway := goodIn_r _ [25, 1, 3, 2, 4, 26, 27, 28, 29] (by decide +kernel) (by decide +kernel)
set_option maxRecDepth 20000 in
theorem gX1_join_X1_takeAway : GoodIn wsX1_join (wsV RX1 40 RX1 yX1_takeAway wsX1_takeAway) := goodIn_app (goodIn_of _ (by decide +kernel)) ggX1_join_X1_takeAway
theorem dX1_join_0 : decode cX1_join 0 = .ok (.iconst 0, 1) := by decide +kernel
theorem dX1_join_1 : decode cX1_join 1 = .ok (.istore_n 2, 1) := by decide +kernel
theorem dX1_join_2 : decode cX1_join 2 = .ok (.iload_n 2, 1) := by decide +kernel
theorem dX1_join_3 : decode cX1_join 3 = .ok (.aload_n 1, 1) := by decide +kernel
theorem dX1_join_4 : decode cX1_join 4 = .ok (.getfield 22, 3) := by decide +kernel
theorem dX1_join_7 : decode cX1_join 7 = .ok (.if_icmp .ge 25, 3) := by decide +kernel
theorem dX1_join_10 : decode cX1_join 10 = .ok (.aload_n 0, 1) := by decide +kernel
theorem dX1_join_11 : decode cX1_join 11 = .ok (.aload_n 1, 1) := by decide +kernel
theorem dX1_join_12 : decode cX1_join 12 = .ok (.getfield 11, 3) := by decide +kernel
theorem dX1_join_15 : decode cX1_join 15 = .ok (.iload_n 2, 1) := by decide +kernel
theorem dX1_join_16 : decode cX1_join 16 = .ok (.iaload, 1) := by decide +kernel
theorem dX1_join_17 : decode cX1_join 17 = .ok (.aload_n 1, 1) := by decide +kernel
theorem dX1_join_18 : decode cX1_join 18 = .ok (.getfield 15, 3) := by decide +kernel
theorem dX1_join_21 : decode cX1_join 21 = .ok (.iload_n 2, 1) := by decide +kernel
theorem dX1_join_22 : decode cX1_join 22 = .ok (.iaload, 1) := by decide +kernel
theorem dX1_join_23 : decode cX1_join 23 = .ok (.invokevirtual 26, 3) := by decide +kernel
theorem dX1_join_26 : decode cX1_join 26 = .ok (.iinc 2 1, 3) := by decide +kernel
theorem dX1_join_29 : decode cX1_join 29 = .ok (.goto (-27), 3) := by decide +kernel
theorem dX1_join_32 : decode cX1_join 32 = .ok (.aload_n 0, 1) := by decide +kernel
theorem dX1_join_33 : decode cX1_join 33 = .ok (.dup, 1) := by decide +kernel
theorem dX1_join_34 : decode cX1_join 34 = .ok (.getfield 44, 3) := by decide +kernel
theorem dX1_join_37 : decode cX1_join 37 = .ok (.aload_n 1, 1) := by decide +kernel
theorem dX1_join_38 : decode cX1_join 38 = .ok (.getfield 44, 3) := by decide +kernel
theorem dX1_join_41 : decode cX1_join 41 = .ok (.iadd, 1) := by decide +kernel
theorem dX1_join_42 : decode cX1_join 42 = .ok (.putfield 44, 3) := by decide +kernel
theorem dX1_join_45 : decode cX1_join 45 = .ok (.aload_n 0, 1) := by decide +kernel
theorem dX1_join_46 : decode cX1_join 46 = .ok (.getfield 22, 3) := by decide +kernel
theorem dX1_join_49 : decode cX1_join 49 = .ok (.iconst 4, 1) := by decide +kernel
theorem dX1_join_50 : decode cX1_join 50 = .ok (.if_icmp .le 12, 3) := by decide +kernel
theorem dX1_join_53 : decode cX1_join 53 = .ok (.aload_n 0, 1) := by decide +kernel
theorem dX1_join_54 : decode cX1_join 54 = .ok (.aload_n 0, 1) := by decide +kernel
theorem dX1_join_55 : decode cX1_join 55 = .ok (.iconst 5, 1) := by decide +kernel
theorem dX1_join_56 : decode cX1_join 56 = .ok (.invokevirtual 47, 3) := by decide +kernel
theorem dX1_join_59 : decode cX1_join 59 = .ok (.invokevirtual 40, 3) := by decide +kernel
theorem dX1_join_62 : decode cX1_join 62 = .ok (.return_, 1) := by decide +kernel
theorem dX1_empty_0 : decode cX1_empty 0 = .ok (.aload_n 0, 1) := by decide +kernel
theorem dX1_empty_1 : decode cX1_empty 1 = .ok (.iconst 0, 1) := by decide +kernel
theorem dX1_empty_2 : decode cX1_empty 2 = .ok (.putfield 22, 3) := by decide +kernel
theorem dX1_empty_5 : decode cX1_empty 5 = .ok (.aload_n 0, 1) := by decide +kernel
theorem dX1_empty_6 : decode cX1_empty 6 = .ok (.iconst 0, 1) := by decide +kernel
theorem dX1_empty_7 : decode cX1_empty 7 = .ok (.putfield 44, 3) := by decide +kernel
theorem dX1_empty_10 : decode cX1_empty 10 = .ok (.return_, 1) := by decide +kernel
theorem dX1_placeOf_0 : decode cX1_placeOf 0 = .ok (.iconst 0, 1) := by decide +kernel
theorem dX1_placeOf_1 : decode cX1_placeOf 1 = .ok (.istore_n 2, 1) := by decide +kernel
theorem dX1_placeOf_2 : decode cX1_placeOf 2 = .ok (.iload_n 2, 1) := by decide +kernel
theorem dX1_placeOf_3 : decode cX1_placeOf 3 = .ok (.aload_n 0, 1) := by decide +kernel
theorem dX1_placeOf_4 : decode cX1_placeOf 4 = .ok (.getfield 22, 3) := by decide +kernel
theorem dX1_placeOf_7 : decode cX1_placeOf 7 = .ok (.if_icmp .ge 21, 3) := by decide +kernel
theorem dX1_placeOf_10 : decode cX1_placeOf 10 = .ok (.aload_n 0, 1) := by decide +kernel
theorem dX1_placeOf_11 : decode cX1_placeOf 11 = .ok (.getfield 11, 3) := by decide +kernel
theorem dX1_placeOf_14 : decode cX1_placeOf 14 = .ok (.iload_n 2, 1) := by decide +kernel
theorem dX1_placeOf_15 : decode cX1_placeOf 15 = .ok (.iaload, 1) := by decide +kernel
theorem dX1_placeOf_16 : decode cX1_placeOf 16 = .ok (.iload_n 1, 1) := by decide +kernel
theorem dX1_placeOf_17 : decode cX1_placeOf 17 = .ok (.if_icmp .ne 5, 3) := by decide +kernel
theorem dX1_placeOf_20 : decode cX1_placeOf 20 = .ok (.iload_n 2, 1) := by decide +kernel
theorem dX1_placeOf_21 : decode cX1_placeOf 21 = .ok (.ireturn, 1) := by decide +kernel
theorem dX1_placeOf_22 : decode cX1_placeOf 22 = .ok (.iinc 2 1, 3) := by decide +kernel
theorem dX1_placeOf_25 : decode cX1_placeOf 25 = .ok (.goto (-23), 3) := by decide +kernel
theorem dX1_placeOf_28 : decode cX1_placeOf 28 = .ok (.iconst (-1), 1) := by decide +kernel
theorem dX1_placeOf_29 : decode cX1_placeOf 29 = .ok (.ireturn, 1) := by decide +kernel
set_option maxRecDepth 20000 in
theorem ggX1_grow_X1_placeOf : GoodIn wsX1_grow wsX1_placeOf := goodIn_r _ [8, 2, 3, 9, 10, 11, 12] (by decide +kernel) (by decide +kernel)
set_option maxRecDepth 20000 in
theorem gX1_grow_X1_placeOf : GoodIn wsX1_grow (wsV RX1 18 RX1 yX1_placeOf wsX1_placeOf) := goodIn_app (goodIn_of _ (by decide +kernel)) ggX1_grow_X1_placeOf
theorem dX1_grow_0 : decode cX1_grow 0 = .ok (.aload_n 0, 1) := by decide +kernel
theorem dX1_grow_1 : decode cX1_grow 1 = .ok (.iload_n 1, 1) := by decide +kernel
theorem dX1_grow_2 : decode cX1_grow 2 = .ok (.invokevirtual 18, 3) := by decide +kernel
theorem dX1_grow_5 : decode cX1_grow 5 = .ok (.istore_n 3, 1) := by decide +kernel
theorem dX1_grow_6 : decode cX1_grow 6 = .ok (.iload_n 3, 1) := by decide +kernel
theorem dX1_grow_7 : decode cX1_grow 7 = .ok (.iconst (-1), 1) := by decide +kernel
theorem dX1_grow_8 : decode cX1_grow 8 = .ok (.if_icmp .eq 16, 3) := by decide +kernel
theorem dX1_grow_11 : decode cX1_grow 11 = .ok (.aload_n 0, 1) := by decide +kernel
theorem dX1_grow_12 : decode cX1_grow 12 = .ok (.getfield 15, 3) := by decide +kernel
theorem dX1_grow_15 : decode cX1_grow 15 = .ok (.iload_n 3, 1) := by decide +kernel
theorem dX1_grow_16 : decode cX1_grow 16 = .ok (.dup2, 1) := by decide +kernel
theorem dX1_grow_17 : decode cX1_grow 17 = .ok (.iaload, 1) := by decide +kernel
theorem dX1_grow_18 : decode cX1_grow 18 = .ok (.iload_n 2, 1) := by decide +kernel
theorem dX1_grow_19 : decode cX1_grow 19 = .ok (.iadd, 1) := by decide +kernel
theorem dX1_grow_20 : decode cX1_grow 20 = .ok (.iastore, 1) := by decide +kernel
theorem dX1_grow_21 : decode cX1_grow 21 = .ok (.goto 45, 3) := by decide +kernel
theorem dX1_grow_24 : decode cX1_grow 24 = .ok (.aload_n 0, 1) := by decide +kernel
theorem dX1_grow_25 : decode cX1_grow 25 = .ok (.getfield 22, 3) := by decide +kernel
theorem dX1_grow_28 : decode cX1_grow 28 = .ok (.aload_n 0, 1) := by decide +kernel
theorem dX1_grow_29 : decode cX1_grow 29 = .ok (.getfield 11, 3) := by decide +kernel
theorem dX1_grow_32 : decode cX1_grow 32 = .ok (.arraylength, 1) := by decide +kernel
theorem dX1_grow_33 : decode cX1_grow 33 = .ok (.if_icmp .ge 33, 3) := by decide +kernel
theorem dX1_grow_36 : decode cX1_grow 36 = .ok (.aload_n 0, 1) := by decide +kernel
theorem dX1_grow_37 : decode cX1_grow 37 = .ok (.getfield 11, 3) := by decide +kernel
theorem dX1_grow_40 : decode cX1_grow 40 = .ok (.aload_n 0, 1) := by decide +kernel
theorem dX1_grow_41 : decode cX1_grow 41 = .ok (.getfield 22, 3) := by decide +kernel
theorem dX1_grow_44 : decode cX1_grow 44 = .ok (.iload_n 1, 1) := by decide +kernel
theorem dX1_grow_45 : decode cX1_grow 45 = .ok (.iastore, 1) := by decide +kernel
theorem dX1_grow_46 : decode cX1_grow 46 = .ok (.aload_n 0, 1) := by decide +kernel
theorem dX1_grow_47 : decode cX1_grow 47 = .ok (.getfield 15, 3) := by decide +kernel
theorem dX1_grow_50 : decode cX1_grow 50 = .ok (.aload_n 0, 1) := by decide +kernel
theorem dX1_grow_51 : decode cX1_grow 51 = .ok (.getfield 22, 3) := by decide +kernel
theorem dX1_grow_54 : decode cX1_grow 54 = .ok (.iload_n 2, 1) := by decide +kernel
theorem dX1_grow_55 : decode cX1_grow 55 = .ok (.iastore, 1) := by decide +kernel
theorem dX1_grow_56 : decode cX1_grow 56 = .ok (.aload_n 0, 1) := by decide +kernel
theorem dX1_grow_57 : decode cX1_grow 57 = .ok (.dup, 1) := by decide +kernel
theorem dX1_grow_58 : decode cX1_grow 58 = .ok (.getfield 22, 3) := by decide +kernel
theorem dX1_grow_61 : decode cX1_grow 61 = .ok (.iconst 1, 1) := by decide +kernel
theorem dX1_grow_62 : decode cX1_grow 62 = .ok (.iadd, 1) := by decide +kernel
theorem dX1_grow_63 : decode cX1_grow 63 = .ok (.putfield 22, 3) := by decide +kernel
theorem dX1_grow_66 : decode cX1_grow 66 = .ok (.return_, 1) := by decide +kernel
theorem dX1_takeAway_0 : decode cX1_takeAway 0 = .ok (.iconst 0, 1) := by decide +kernel
theorem dX1_takeAway_1 : decode cX1_takeAway 1 = .ok (.istore_n 2, 1) := by decide +kernel
theorem dX1_takeAway_2 : decode cX1_takeAway 2 = .ok (.iconst 0, 1) := by decide +kernel
theorem dX1_takeAway_3 : decode cX1_takeAway 3 = .ok (.istore_n 3, 1) := by decide +kernel
theorem dX1_takeAway_4 : decode cX1_takeAway 4 = .ok (.iload_n 3, 1) := by decide +kernel
theorem dX1_takeAway_5 : decode cX1_takeAway 5 = .ok (.aload_n 0, 1) := by decide +kernel
theorem dX1_takeAway_6 : decode cX1_takeAway 6 = .ok (.getfield 22, 3) := by decide +kernel
theorem dX1_takeAway_9 : decode cX1_takeAway 9 = .ok (.if_icmp .ge 47, 3) := by decide +kernel
theorem dX1_takeAway_12 : decode cX1_takeAway 12 = .ok (.aload_n 0, 1) := by decide +kernel
theorem dX1_takeAway_13 : decode cX1_takeAway 13 = .ok (.getfield 15, 3) := by decide +kernel
theorem dX1_takeAway_16 : decode cX1_takeAway 16 = .ok (.iload_n 3, 1) := by decide +kernel
theorem dX1_takeAway_17 : decode cX1_takeAway 17 = .ok (.iaload, 1) := by decide +kernel
theorem dX1_takeAway_18 : decode cX1_takeAway 18 = .ok (.iload_n 1, 1) := by decide +kernel
theorem dX1_takeAway_19 : decode cX1_takeAway 19 = .ok (.isub, 1) := by decide +kernel
theorem dX1_takeAway_20 : decode cX1_takeAway 20 = .ok (.istore 4, 2) := by decide +kernel
theorem dX1_takeAway_22 : decode cX1_takeAway 22 = .ok (.iload 4, 2) := by decide +kernel
theorem dX1_takeAway_24 : decode cX1_takeAway 24 = .ok (.ifCond .le 26, 3) := by decide +kernel
theorem dX1_takeAway_27 : decode cX1_takeAway 27 = .ok (.aload_n 0, 1) := by decide +kernel
theorem dX1_takeAway_28 : decode cX1_takeAway 28 = .ok (.getfield 11, 3) := by decide +kernel
theorem dX1_takeAway_31 : decode cX1_takeAway 31 = .ok (.iload_n 2, 1) := by decide +kernel
theorem dX1_takeAway_32 : decode cX1_takeAway 32 = .ok (.aload_n 0, 1) := by decide +kernel
theorem dX1_takeAway_33 : decode cX1_takeAway 33 = .ok (.getfield 11, 3) := by decide +kernel
theorem dX1_takeAway_36 : decode cX1_takeAway 36 = .ok (.iload_n 3, 1) := by decide +kernel
theorem dX1_takeAway_37 : decode cX1_takeAway 37 = .ok (.iaload, 1) := by decide +kernel
theorem dX1_takeAway_38 : decode cX1_takeAway 38 = .ok (.iastore, 1) := by decide +kernel
theorem dX1_takeAway_39 : decode cX1_takeAway 39 = .ok (.aload_n 0, 1) := by decide +kernel
theorem dX1_takeAway_40 : decode cX1_takeAway 40 = .ok (.getfield 15, 3) := by decide +kernel
theorem dX1_takeAway_43 : decode cX1_takeAway 43 = .ok (.iload_n 2, 1) := by decide +kernel
theorem dX1_takeAway_44 : decode cX1_takeAway 44 = .ok (.iload 4, 2) := by decide +kernel
theorem dX1_takeAway_46 : decode cX1_takeAway 46 = .ok (.iastore, 1) := by decide +kernel
theorem dX1_takeAway_47 : decode cX1_takeAway 47 = .ok (.iinc 2 1, 3) := by decide +kernel
theorem dX1_takeAway_50 : decode cX1_takeAway 50 = .ok (.iinc 3 1, 3) := by decide +kernel
theorem dX1_takeAway_53 : decode cX1_takeAway 53 = .ok (.goto (-49), 3) := by decide +kernel
theorem dX1_takeAway_56 : decode cX1_takeAway 56 = .ok (.aload_n 0, 1) := by decide +kernel
theorem dX1_takeAway_57 : decode cX1_takeAway 57 = .ok (.iload_n 2, 1) := by decide +kernel
theorem dX1_takeAway_58 : decode cX1_takeAway 58 = .ok (.putfield 22, 3) := by decide +kernel
theorem dX1_takeAway_61 : decode cX1_takeAway 61 = .ok (.aload_n 0, 1) := by decide +kernel
theorem dX1_takeAway_62 : decode cX1_takeAway 62 = .ok (.dup, 1) := by decide +kernel
theorem dX1_takeAway_63 : decode cX1_takeAway 63 = .ok (.getfield 44, 3) := by decide +kernel
theorem dX1_takeAway_66 : decode cX1_takeAway 66 = .ok (.iload_n 1, 1) := by decide +kernel
theorem dX1_takeAway_67 : decode cX1_takeAway 67 = .ok (.iadd, 1) := by decide +kernel
theorem dX1_takeAway_68 : decode cX1_takeAway 68 = .ok (.putfield 44, 3) := by decide +kernel
theorem dX1_takeAway_71 : decode cX1_takeAway 71 = .ok (.return_, 1) := by decide +kernel
theorem dX1_leastWeight_0 : decode cX1_leastWeight 0 = .ok (.aload_n 0, 1) := by decide +kernel
theorem dX1_leastWeight_1 : decode cX1_leastWeight 1 = .ok (.getfield 15, 3) := by decide +kernel
theorem dX1_leastWeight_4 : decode cX1_leastWeight 4 = .ok (.iconst 0, 1) := by decide +kernel
theorem dX1_leastWeight_5 : decode cX1_leastWeight 5 = .ok (.iaload, 1) := by decide +kernel
theorem dX1_leastWeight_6 : decode cX1_leastWeight 6 = .ok (.istore_n 1, 1) := by decide +kernel
theorem dX1_leastWeight_7 : decode cX1_leastWeight 7 = .ok (.iconst 1, 1) := by decide +kernel
theorem dX1_leastWeight_8 : decode cX1_leastWeight 8 = .ok (.istore_n 2, 1) := by decide +kernel
theorem dX1_leastWeight_9 : decode cX1_leastWeight 9 = .ok (.iload_n 2, 1) := by decide +kernel
theorem dX1_leastWeight_10 : decode cX1_leastWeight 10 = .ok (.aload_n 0, 1) := by decide +kernel
theorem dX1_leastWeight_11 : decode cX1_leastWeight 11 = .ok (.getfield 22, 3) := by decide +kernel
theorem dX1_leastWeight_14 : decode cX1_leastWeight 14 = .ok (.if_icmp .ge 20, 3) := by decide +kernel
theorem dX1_leastWeight_17 : decode cX1_leastWeight 17 = .ok (.iload_n 1, 1) := by decide +kernel
theorem dX1_leastWeight_18 : decode cX1_leastWeight 18 = .ok (.aload_n 0, 1) := by decide +kernel
theorem dX1_leastWeight_19 : decode cX1_leastWeight 19 = .ok (.getfield 15, 3) := by decide +kernel
theorem dX1_leastWeight_22 : decode cX1_leastWeight 22 = .ok (.iload_n 2, 1) := by decide +kernel
theorem dX1_leastWeight_23 : decode cX1_leastWeight 23 = .ok (.iaload, 1) := by decide +kernel
theorem dX1_leastWeight_24 : decode cX1_leastWeight 24 = .ok (.invokestatic 34, 3) := by decide +kernel
theorem dX1_leastWeight_27 : decode cX1_leastWeight 27 = .ok (.istore_n 1, 1) := by decide +kernel
theorem dX1_leastWeight_28 : decode cX1_leastWeight 28 = .ok (.iinc 2 1, 3) := by decide +kernel
theorem dX1_leastWeight_31 : decode cX1_leastWeight 31 = .ok (.goto (-22), 3) := by decide +kernel
theorem dX1_leastWeight_34 : decode cX1_leastWeight 34 = .ok (.iload_n 1, 1) := by decide +kernel
theorem dX1_leastWeight_35 : decode cX1_leastWeight 35 = .ok (.ireturn, 1) := by decide +kernel
set_option maxRecDepth 20000 in
theorem ggX1_weightReachedBy_X1_countersReaching : GoodIn wsX1_weightReachedBy wsX1_countersReaching := goodIn_r _ [7, 1, 2, 8, 9, 10, 11] (by decide +kernel) (by decide +kernel)
set_option maxRecDepth 20000 in
theorem gX1_weightReachedBy_X1_countersReaching : GoodIn wsX1_weightReachedBy (wsV RX1 50 RX1 yX1_countersReaching wsX1_countersReaching) := goodIn_app (goodIn_of _ (by decide +kernel)) ggX1_weightReachedBy_X1_countersReaching
theorem dX1_weightReachedBy_0 : decode cX1_weightReachedBy 0 = .ok (.iconst 0, 1) := by decide +kernel
theorem dX1_weightReachedBy_1 : decode cX1_weightReachedBy 1 = .ok (.istore_n 2, 1) := by decide +kernel
theorem dX1_weightReachedBy_2 : decode cX1_weightReachedBy 2 = .ok (.iconst 0, 1) := by decide +kernel
theorem dX1_weightReachedBy_3 : decode cX1_weightReachedBy 3 = .ok (.istore_n 3, 1) := by decide +kernel
theorem dX1_weightReachedBy_4 : decode cX1_weightReachedBy 4 = .ok (.iload_n 3, 1) := by decide +kernel
theorem dX1_weightReachedBy_5 : decode cX1_weightReachedBy 5 = .ok (.aload_n 0, 1) := by decide +kernel
theorem dX1_weightReachedBy_6 : decode cX1_weightReachedBy 6 = .ok (.getfield 22, 3) := by decide +kernel
theorem dX1_weightReachedBy_9 : decode cX1_weightReachedBy 9 = .ok (.if_icmp .ge 40, 3) := by decide +kernel
theorem dX1_weightReachedBy_12 : decode cX1_weightReachedBy 12 = .ok (.aload_n 0, 1) := by decide +kernel
theorem dX1_weightReachedBy_13 : decode cX1_weightReachedBy 13 = .ok (.getfield 15, 3) := by decide +kernel
theorem dX1_weightReachedBy_16 : decode cX1_weightReachedBy 16 = .ok (.iload_n 3, 1) := by decide +kernel
theorem dX1_weightReachedBy_17 : decode cX1_weightReachedBy 17 = .ok (.iaload, 1) := by decide +kernel
theorem dX1_weightReachedBy_18 : decode cX1_weightReachedBy 18 = .ok (.iload_n 2, 1) := by decide +kernel
theorem dX1_weightReachedBy_19 : decode cX1_weightReachedBy 19 = .ok (.if_icmp .le 24, 3) := by decide +kernel
theorem dX1_weightReachedBy_22 : decode cX1_weightReachedBy 22 = .ok (.aload_n 0, 1) := by decide +kernel
theorem dX1_weightReachedBy_23 : decode cX1_weightReachedBy 23 = .ok (.aload_n 0, 1) := by decide +kernel
theorem dX1_weightReachedBy_24 : decode cX1_weightReachedBy 24 = .ok (.getfield 15, 3) := by decide +kernel
theorem dX1_weightReachedBy_27 : decode cX1_weightReachedBy 27 = .ok (.iload_n 3, 1) := by decide +kernel
theorem dX1_weightReachedBy_28 : decode cX1_weightReachedBy 28 = .ok (.iaload, 1) := by decide +kernel
theorem dX1_weightReachedBy_29 : decode cX1_weightReachedBy 29 = .ok (.invokevirtual 50, 3) := by decide +kernel
theorem dX1_weightReachedBy_32 : decode cX1_weightReachedBy 32 = .ok (.iload_n 1, 1) := by decide +kernel
theorem dX1_weightReachedBy_33 : decode cX1_weightReachedBy 33 = .ok (.if_icmp .lt 10, 3) := by decide +kernel
theorem dX1_weightReachedBy_36 : decode cX1_weightReachedBy 36 = .ok (.aload_n 0, 1) := by decide +kernel
theorem dX1_weightReachedBy_37 : decode cX1_weightReachedBy 37 = .ok (.getfield 15, 3) := by decide +kernel
theorem dX1_weightReachedBy_40 : decode cX1_weightReachedBy 40 = .ok (.iload_n 3, 1) := by decide +kernel
theorem dX1_weightReachedBy_41 : decode cX1_weightReachedBy 41 = .ok (.iaload, 1) := by decide +kernel
theorem dX1_weightReachedBy_42 : decode cX1_weightReachedBy 42 = .ok (.istore_n 2, 1) := by decide +kernel
theorem dX1_weightReachedBy_43 : decode cX1_weightReachedBy 43 = .ok (.iinc 3 1, 3) := by decide +kernel
theorem dX1_weightReachedBy_46 : decode cX1_weightReachedBy 46 = .ok (.goto (-42), 3) := by decide +kernel
theorem dX1_weightReachedBy_49 : decode cX1_weightReachedBy 49 = .ok (.iload_n 2, 1) := by decide +kernel
theorem dX1_weightReachedBy_50 : decode cX1_weightReachedBy 50 = .ok (.ireturn, 1) := by decide +kernel
theorem dX1_countersReaching_0 : decode cX1_countersReaching 0 = .ok (.iconst 0, 1) := by decide +kernel
theorem dX1_countersReaching_1 : decode cX1_countersReaching 1 = .ok (.istore_n 2, 1) := by decide +kernel
theorem dX1_countersReaching_2 : decode cX1_countersReaching 2 = .ok (.iconst 0, 1) := by decide +kernel
theorem dX1_countersReaching_3 : decode cX1_countersReaching 3 = .ok (.istore_n 3, 1) := by decide +kernel
theorem dX1_countersReaching_4 : decode cX1_countersReaching 4 = .ok (.iload_n 3, 1) := by decide +kernel
theorem dX1_countersReaching_5 : decode cX1_countersReaching 5 = .ok (.aload_n 0, 1) := by decide +kernel
theorem dX1_countersReaching_6 : decode cX1_countersReaching 6 = .ok (.getfield 22, 3) := by decide +kernel
theorem dX1_countersReaching_9 : decode cX1_countersReaching 9 = .ok (.if_icmp .ge 22, 3) := by decide +kernel
theorem dX1_countersReaching_12 : decode cX1_countersReaching 12 = .ok (.aload_n 0, 1) := by decide +kernel
theorem dX1_countersReaching_13 : decode cX1_countersReaching 13 = .ok (.getfield 15, 3) := by decide +kernel
theorem dX1_countersReaching_16 : decode cX1_countersReaching 16 = .ok (.iload_n 3, 1) := by decide +kernel
theorem dX1_countersReaching_17 : decode cX1_countersReaching 17 = .ok (.iaload, 1) := by decide +kernel
theorem dX1_countersReaching_18 : decode cX1_countersReaching 18 = .ok (.iload_n 1, 1) := by decide +kernel
theorem dX1_countersReaching_19 : decode cX1_countersReaching 19 = .ok (.if_icmp .lt 6, 3) := by decide +kernel
theorem dX1_countersReaching_22 : decode cX1_countersReaching 22 = .ok (.iinc 2 1, 3) := by decide +kernel
theorem dX1_countersReaching_25 : decode cX1_countersReaching 25 = .ok (.iinc 3 1, 3) := by decide +kernel
theorem dX1_countersReaching_28 : decode cX1_countersReaching 28 = .ok (.goto (-24), 3) := by decide +kernel
theorem dX1_countersReaching_31 : decode cX1_countersReaching 31 = .ok (.iload_n 2, 1) := by decide +kernel
theorem dX1_countersReaching_32 : decode cX1_countersReaching 32 = .ok (.ireturn, 1) := by decide +kernel
theorem dX2_init_0 : decode cX2_init 0 = .ok (.aload_n 0, 1) := by decide +kernel
theorem dX2_init_1 : decode cX2_init 1 = .ok (.invokespecial 3, 3) := by decide +kernel
theorem dX2_init_4 : decode cX2_init 4 = .ok (.aload_n 0, 1) := by decide +kernel
theorem dX2_init_5 : decode cX2_init 5 = .ok (.sipush 128, 3) := by decide +kernel
theorem dX2_init_8 : decode cX2_init 8 = .ok (.newarray .int, 2) := by decide +kernel
theorem dX2_init_10 : decode cX2_init 10 = .ok (.putfield 9, 3) := by decide +kernel
theorem dX2_init_13 : decode cX2_init 13 = .ok (.return_, 1) := by decide +kernel
theorem dX2_put_0 : decode cX2_put 0 = .ok (.bipush 64, 2) := by decide +kernel
theorem dX2_put_2 : decode cX2_put 2 = .ok (.iload_n 1, 1) := by decide +kernel
theorem dX2_put_3 : decode cX2_put 3 = .ok (.iadd, 1) := by decide +kernel
theorem dX2_put_4 : decode cX2_put 4 = .ok (.istore_n 3, 1) := by decide +kernel
theorem dX2_put_5 : decode cX2_put 5 = .ok (.iload_n 3, 1) := by decide +kernel
theorem dX2_put_6 : decode cX2_put 6 = .ok (.ifCond .le 20, 3) := by decide +kernel
theorem dX2_put_9 : decode cX2_put 9 = .ok (.aload_n 0, 1) := by decide +kernel
theorem dX2_put_10 : decode cX2_put 10 = .ok (.getfield 9, 3) := by decide +kernel
theorem dX2_put_13 : decode cX2_put 13 = .ok (.iload_n 3, 1) := by decide +kernel
theorem dX2_put_14 : decode cX2_put 14 = .ok (.dup2, 1) := by decide +kernel
theorem dX2_put_15 : decode cX2_put 15 = .ok (.iaload, 1) := by decide +kernel
theorem dX2_put_16 : decode cX2_put 16 = .ok (.iload_n 2, 1) := by decide +kernel
theorem dX2_put_17 : decode cX2_put 17 = .ok (.iadd, 1) := by decide +kernel
theorem dX2_put_18 : decode cX2_put 18 = .ok (.iastore, 1) := by decide +kernel
theorem dX2_put_19 : decode cX2_put 19 = .ok (.iload_n 3, 1) := by decide +kernel
theorem dX2_put_20 : decode cX2_put 20 = .ok (.iconst 1, 1) := by decide +kernel
theorem dX2_put_21 : decode cX2_put 21 = .ok (.ishr, 1) := by decide +kernel
theorem dX2_put_22 : decode cX2_put 22 = .ok (.istore_n 3, 1) := by decide +kernel
theorem dX2_put_23 : decode cX2_put 23 = .ok (.goto (-18), 3) := by decide +kernel
theorem dX2_put_26 : decode cX2_put 26 = .ok (.return_, 1) := by decide +kernel
theorem dX2_join_0 : decode cX2_join 0 = .ok (.iconst 0, 1) := by decide +kernel
theorem dX2_join_1 : decode cX2_join 1 = .ok (.istore_n 2, 1) := by decide +kernel
theorem dX2_join_2 : decode cX2_join 2 = .ok (.iload_n 2, 1) := by decide +kernel
theorem dX2_join_3 : decode cX2_join 3 = .ok (.aload_n 0, 1) := by decide +kernel
theorem dX2_join_4 : decode cX2_join 4 = .ok (.getfield 9, 3) := by decide +kernel
theorem dX2_join_7 : decode cX2_join 7 = .ok (.arraylength, 1) := by decide +kernel
theorem dX2_join_8 : decode cX2_join 8 = .ok (.if_icmp .ge 24, 3) := by decide +kernel
theorem dX2_join_11 : decode cX2_join 11 = .ok (.aload_n 0, 1) := by decide +kernel
theorem dX2_join_12 : decode cX2_join 12 = .ok (.getfield 9, 3) := by decide +kernel
theorem dX2_join_15 : decode cX2_join 15 = .ok (.iload_n 2, 1) := by decide +kernel
theorem dX2_join_16 : decode cX2_join 16 = .ok (.dup2, 1) := by decide +kernel
theorem dX2_join_17 : decode cX2_join 17 = .ok (.iaload, 1) := by decide +kernel
theorem dX2_join_18 : decode cX2_join 18 = .ok (.aload_n 1, 1) := by decide +kernel
theorem dX2_join_19 : decode cX2_join 19 = .ok (.getfield 9, 3) := by decide +kernel
theorem dX2_join_22 : decode cX2_join 22 = .ok (.iload_n 2, 1) := by decide +kernel
theorem dX2_join_23 : decode cX2_join 23 = .ok (.iaload, 1) := by decide +kernel
theorem dX2_join_24 : decode cX2_join 24 = .ok (.iadd, 1) := by decide +kernel
theorem dX2_join_25 : decode cX2_join 25 = .ok (.iastore, 1) := by decide +kernel
theorem dX2_join_26 : decode cX2_join 26 = .ok (.iinc 2 1, 3) := by decide +kernel
theorem dX2_join_29 : decode cX2_join 29 = .ok (.goto (-27), 3) := by decide +kernel
theorem dX2_join_32 : decode cX2_join 32 = .ok (.return_, 1) := by decide +kernel
set_option maxRecDepth 20000 in
theorem ggX2_empty_J7_fill_53178 : GoodIn wsX2_empty wsJ7_fill_53178 := goodIn_r _ [5] (by decide +kernel) (by decide +kernel)
set_option maxRecDepth 20000 in
theorem gX2_empty_J7_fill_53178 : GoodIn wsX2_empty (va_wsS RX2 15 yJ7_fill_53178 wsJ7_fill_53178) := goodIn_app (goodIn_of _ (by decide +kernel)) ggX2_empty_J7_fill_53178
theorem dX2_empty_0 : decode cX2_empty 0 = .ok (.aload_n 0, 1) := by decide +kernel
theorem dX2_empty_1 : decode cX2_empty 1 = .ok (.getfield 9, 3) := by decide +kernel
theorem dX2_empty_4 : decode cX2_empty 4 = .ok (.iconst 0, 1) := by decide +kernel
theorem dX2_empty_5 : decode cX2_empty 5 = .ok (.invokestatic 15, 3) := by decide +kernel
theorem dX2_empty_8 : decode cX2_empty 8 = .ok (.return_, 1) := by decide +kernel
theorem dX2_sum_0 : decode cX2_sum 0 = .ok (.aload_n 0, 1) := by decide +kernel
theorem dX2_sum_1 : decode cX2_sum 1 = .ok (.getfield 9, 3) := by decide +kernel
theorem dX2_sum_4 : decode cX2_sum 4 = .ok (.iconst 1, 1) := by decide +kernel
theorem dX2_sum_5 : decode cX2_sum 5 = .ok (.iaload, 1) := by decide +kernel
theorem dX2_sum_6 : decode cX2_sum 6 = .ok (.ireturn, 1) := by decide +kernel
theorem dX2_ofHalf_0 : decode cX2_ofHalf 0 = .ok (.aload_n 0, 1) := by decide +kernel
theorem dX2_ofHalf_1 : decode cX2_ofHalf 1 = .ok (.getfield 9, 3) := by decide +kernel
theorem dX2_ofHalf_4 : decode cX2_ofHalf 4 = .ok (.bipush 64, 2) := by decide +kernel
theorem dX2_ofHalf_6 : decode cX2_ofHalf 6 = .ok (.iload_n 1, 1) := by decide +kernel
theorem dX2_ofHalf_7 : decode cX2_ofHalf 7 = .ok (.ishr, 1) := by decide +kernel
theorem dX2_ofHalf_8 : decode cX2_ofHalf 8 = .ok (.iload_n 2, 1) := by decide +kernel
theorem dX2_ofHalf_9 : decode cX2_ofHalf 9 = .ok (.iadd, 1) := by decide +kernel
theorem dX2_ofHalf_10 : decode cX2_ofHalf 10 = .ok (.iaload, 1) := by decide +kernel
theorem dX2_ofHalf_11 : decode cX2_ofHalf 11 = .ok (.ireturn, 1) := by decide +kernel
theorem dX2_ofItems_0 : decode cX2_ofItems 0 = .ok (.iconst 0, 1) := by decide +kernel
theorem dX2_ofItems_1 : decode cX2_ofItems 1 = .ok (.istore_n 3, 1) := by decide +kernel
theorem dX2_ofItems_2 : decode cX2_ofItems 2 = .ok (.iload_n 1, 1) := by decide +kernel
theorem dX2_ofItems_3 : decode cX2_ofItems 3 = .ok (.istore 4, 2) := by decide +kernel
theorem dX2_ofItems_5 : decode cX2_ofItems 5 = .ok (.iload 4, 2) := by decide +kernel
theorem dX2_ofItems_7 : decode cX2_ofItems 7 = .ok (.iload_n 2, 1) := by decide +kernel
theorem dX2_ofItems_8 : decode cX2_ofItems 8 = .ok (.if_icmp .gt 22, 3) := by decide +kernel
theorem dX2_ofItems_11 : decode cX2_ofItems 11 = .ok (.iload_n 3, 1) := by decide +kernel
theorem dX2_ofItems_12 : decode cX2_ofItems 12 = .ok (.aload_n 0, 1) := by decide +kernel
theorem dX2_ofItems_13 : decode cX2_ofItems 13 = .ok (.getfield 9, 3) := by decide +kernel
theorem dX2_ofItems_16 : decode cX2_ofItems 16 = .ok (.bipush 64, 2) := by decide +kernel
theorem dX2_ofItems_18 : decode cX2_ofItems 18 = .ok (.iload 4, 2) := by decide +kernel
theorem dX2_ofItems_20 : decode cX2_ofItems 20 = .ok (.iadd, 1) := by decide +kernel
theorem dX2_ofItems_21 : decode cX2_ofItems 21 = .ok (.iaload, 1) := by decide +kernel
theorem dX2_ofItems_22 : decode cX2_ofItems 22 = .ok (.iadd, 1) := by decide +kernel
theorem dX2_ofItems_23 : decode cX2_ofItems 23 = .ok (.istore_n 3, 1) := by decide +kernel
theorem dX2_ofItems_24 : decode cX2_ofItems 24 = .ok (.iinc 4 1, 3) := by decide +kernel
theorem dX2_ofItems_27 : decode cX2_ofItems 27 = .ok (.goto (-22), 3) := by decide +kernel
theorem dX2_ofItems_30 : decode cX2_ofItems 30 = .ok (.iload_n 3, 1) := by decide +kernel
theorem dX2_ofItems_31 : decode cX2_ofItems 31 = .ok (.ireturn, 1) := by decide +kernel
theorem dX2_times_0 : decode cX2_times 0 = .ok (.lconst 0, 1) := by decide +kernel
theorem dX2_times_1 : decode cX2_times 1 = .ok (.lstore_n 2, 1) := by decide +kernel
theorem dX2_times_2 : decode cX2_times 2 = .ok (.bipush 64, 2) := by decide +kernel
theorem dX2_times_4 : decode cX2_times 4 = .ok (.istore 4, 2) := by decide +kernel
theorem dX2_times_6 : decode cX2_times 6 = .ok (.iload 4, 2) := by decide +kernel
theorem dX2_times_8 : decode cX2_times 8 = .ok (.aload_n 0, 1) := by decide +kernel
theorem dX2_times_9 : decode cX2_times 9 = .ok (.getfield 9, 3) := by decide +kernel
theorem dX2_times_12 : decode cX2_times 12 = .ok (.arraylength, 1) := by decide +kernel
theorem dX2_times_13 : decode cX2_times 13 = .ok (.if_icmp .ge 29, 3) := by decide +kernel
theorem dX2_times_16 : decode cX2_times 16 = .ok (.lload_n 2, 1) := by decide +kernel
theorem dX2_times_17 : decode cX2_times 17 = .ok (.aload_n 0, 1) := by decide +kernel
theorem dX2_times_18 : decode cX2_times 18 = .ok (.getfield 9, 3) := by decide +kernel
theorem dX2_times_21 : decode cX2_times 21 = .ok (.iload 4, 2) := by decide +kernel
theorem dX2_times_23 : decode cX2_times 23 = .ok (.iaload, 1) := by decide +kernel
theorem dX2_times_24 : decode cX2_times 24 = .ok (.i2l, 1) := by decide +kernel
theorem dX2_times_25 : decode cX2_times 25 = .ok (.aload_n 1, 1) := by decide +kernel
theorem dX2_times_26 : decode cX2_times 26 = .ok (.getfield 9, 3) := by decide +kernel
theorem dX2_times_29 : decode cX2_times 29 = .ok (.iload 4, 2) := by decide +kernel
theorem dX2_times_31 : decode cX2_times 31 = .ok (.iaload, 1) := by decide +kernel
theorem dX2_times_32 : decode cX2_times 32 = .ok (.i2l, 1) := by decide +kernel
theorem dX2_times_33 : decode cX2_times 33 = .ok (.lmul, 1) := by decide +kernel
theorem dX2_times_34 : decode cX2_times 34 = .ok (.ladd, 1) := by decide +kernel
theorem dX2_times_35 : decode cX2_times 35 = .ok (.lstore_n 2, 1) := by decide +kernel
theorem dX2_times_36 : decode cX2_times 36 = .ok (.iinc 4 1, 3) := by decide +kernel
theorem dX2_times_39 : decode cX2_times 39 = .ok (.goto (-33), 3) := by decide +kernel
theorem dX2_times_42 : decode cX2_times 42 = .ok (.lload_n 2, 1) := by decide +kernel
theorem dX2_times_43 : decode cX2_times 43 = .ok (.lreturn, 1) := by decide +kernel
theorem dX3_init_0 : decode cX3_init 0 = .ok (.aload_n 0, 1) := by decide +kernel
theorem dX3_init_1 : decode cX3_init 1 = .ok (.invokespecial 1, 3) := by decide +kernel
theorem dX3_init_4 : decode cX3_init 4 = .ok (.aload_n 0, 1) := by decide +kernel
theorem dX3_init_5 : decode cX3_init 5 = .ok (.bipush 40, 2) := by decide +kernel
theorem dX3_init_7 : decode cX3_init 7 = .ok (.newarray .int, 2) := by decide +kernel
theorem dX3_init_9 : decode cX3_init 9 = .ok (.putfield 9, 3) := by decide +kernel
theorem dX3_init_12 : decode cX3_init 12 = .ok (.aload_n 0, 1) := by decide +kernel
theorem dX3_init_13 : decode cX3_init 13 = .ok (.iconst 5, 1) := by decide +kernel
theorem dX3_init_14 : decode cX3_init 14 = .ok (.newarray .long, 2) := by decide +kernel
theorem dX3_init_16 : decode cX3_init 16 = .ok (.putfield 13, 3) := by decide +kernel
theorem dX3_init_19 : decode cX3_init 19 = .ok (.return_, 1) := by decide +kernel
theorem dX3_columnOf_0 : decode cX3_columnOf 0 = .ok (.getstatic 17, 3) := by decide +kernel
theorem dX3_columnOf_3 : decode cX3_columnOf 3 = .ok (.iload_n 0, 1) := by decide +kernel
theorem dX3_columnOf_4 : decode cX3_columnOf 4 = .ok (.iaload, 1) := by decide +kernel
theorem dX3_columnOf_5 : decode cX3_columnOf 5 = .ok (.iload_n 1, 1) := by decide +kernel
theorem dX3_columnOf_6 : decode cX3_columnOf 6 = .ok (.imul, 1) := by decide +kernel
theorem dX3_columnOf_7 : decode cX3_columnOf 7 = .ok (.getstatic 20, 3) := by decide +kernel
theorem dX3_columnOf_10 : decode cX3_columnOf 10 = .ok (.iload_n 0, 1) := by decide +kernel
theorem dX3_columnOf_11 : decode cX3_columnOf 11 = .ok (.iaload, 1) := by decide +kernel
theorem dX3_columnOf_12 : decode cX3_columnOf 12 = .ok (.iadd, 1) := by decide +kernel
theorem dX3_columnOf_13 : decode cX3_columnOf 13 = .ok (.bipush 67, 2) := by decide +kernel
theorem dX3_columnOf_15 : decode cX3_columnOf 15 = .ok (.irem, 1) := by decide +kernel
theorem dX3_columnOf_16 : decode cX3_columnOf 16 = .ok (.bipush 8, 2) := by decide +kernel
theorem dX3_columnOf_18 : decode cX3_columnOf 18 = .ok (.irem, 1) := by decide +kernel
theorem dX3_columnOf_19 : decode cX3_columnOf 19 = .ok (.ireturn, 1) := by decide +kernel
theorem dX3_signOf_0 : decode cX3_signOf 0 = .ok (.getstatic 23, 3) := by decide +kernel
theorem dX3_signOf_3 : decode cX3_signOf 3 = .ok (.iload_n 0, 1) := by decide +kernel
theorem dX3_signOf_4 : decode cX3_signOf 4 = .ok (.iaload, 1) := by decide +kernel
theorem dX3_signOf_5 : decode cX3_signOf 5 = .ok (.iload_n 1, 1) := by decide +kernel
theorem dX3_signOf_6 : decode cX3_signOf 6 = .ok (.imul, 1) := by decide +kernel
theorem dX3_signOf_7 : decode cX3_signOf 7 = .ok (.getstatic 26, 3) := by decide +kernel
theorem dX3_signOf_10 : decode cX3_signOf 10 = .ok (.iload_n 0, 1) := by decide +kernel
theorem dX3_signOf_11 : decode cX3_signOf 11 = .ok (.iaload, 1) := by decide +kernel
theorem dX3_signOf_12 : decode cX3_signOf 12 = .ok (.iadd, 1) := by decide +kernel
theorem dX3_signOf_13 : decode cX3_signOf 13 = .ok (.bipush 71, 2) := by decide +kernel
theorem dX3_signOf_15 : decode cX3_signOf 15 = .ok (.irem, 1) := by decide +kernel
theorem dX3_signOf_16 : decode cX3_signOf 16 = .ok (.iconst 2, 1) := by decide +kernel
theorem dX3_signOf_17 : decode cX3_signOf 17 = .ok (.irem, 1) := by decide +kernel
theorem dX3_signOf_18 : decode cX3_signOf 18 = .ok (.ifCond .ne 7, 3) := by decide +kernel
theorem dX3_signOf_21 : decode cX3_signOf 21 = .ok (.iconst 1, 1) := by decide +kernel
theorem dX3_signOf_22 : decode cX3_signOf 22 = .ok (.goto 4, 3) := by decide +kernel
theorem dX3_signOf_25 : decode cX3_signOf 25 = .ok (.iconst (-1), 1) := by decide +kernel
theorem dX3_signOf_26 : decode cX3_signOf 26 = .ok (.ireturn, 1) := by decide +kernel
set_option maxRecDepth 20000 in
theorem ggX3_placeOf_X3_columnOf : GoodIn wsX3_placeOf wsX3_columnOf := goodIn_r _ [4, 5, 6] (by decide +kernel) (by decide +kernel)
set_option maxRecDepth 20000 in
theorem gX3_placeOf_X3_columnOf : GoodIn wsX3_placeOf (va_wsS RX3 29 yX3_columnOf wsX3_columnOf) := goodIn_app (goodIn_of _ (by decide +kernel)) ggX3_placeOf_X3_columnOf
theorem dX3_placeOf_0 : decode cX3_placeOf 0 = .ok (.iload_n 0, 1) := by decide +kernel
theorem dX3_placeOf_1 : decode cX3_placeOf 1 = .ok (.bipush 8, 2) := by decide +kernel
theorem dX3_placeOf_3 : decode cX3_placeOf 3 = .ok (.imul, 1) := by decide +kernel
theorem dX3_placeOf_4 : decode cX3_placeOf 4 = .ok (.iload_n 0, 1) := by decide +kernel
theorem dX3_placeOf_5 : decode cX3_placeOf 5 = .ok (.iload_n 1, 1) := by decide +kernel
theorem dX3_placeOf_6 : decode cX3_placeOf 6 = .ok (.invokestatic 29, 3) := by decide +kernel
theorem dX3_placeOf_9 : decode cX3_placeOf 9 = .ok (.iadd, 1) := by decide +kernel
theorem dX3_placeOf_10 : decode cX3_placeOf 10 = .ok (.ireturn, 1) := by decide +kernel
theorem dX3_cellAt_0 : decode cX3_cellAt 0 = .ok (.aload_n 0, 1) := by decide +kernel
theorem dX3_cellAt_1 : decode cX3_cellAt 1 = .ok (.getfield 9, 3) := by decide +kernel
theorem dX3_cellAt_4 : decode cX3_cellAt 4 = .ok (.iload_n 1, 1) := by decide +kernel
theorem dX3_cellAt_5 : decode cX3_cellAt 5 = .ok (.bipush 8, 2) := by decide +kernel
theorem dX3_cellAt_7 : decode cX3_cellAt 7 = .ok (.imul, 1) := by decide +kernel
theorem dX3_cellAt_8 : decode cX3_cellAt 8 = .ok (.iload_n 2, 1) := by decide +kernel
theorem dX3_cellAt_9 : decode cX3_cellAt 9 = .ok (.iadd, 1) := by decide +kernel
theorem dX3_cellAt_10 : decode cX3_cellAt 10 = .ok (.iaload, 1) := by decide +kernel
theorem dX3_cellAt_11 : decode cX3_cellAt 11 = .ok (.ireturn, 1) := by decide +kernel
set_option maxRecDepth 20000 in
theorem ggX3_put_X3_placeOf : GoodIn wsX3_put wsX3_placeOf := goodIn_r _ [5, 6, 7, 4, 8, 9, 10] (by decide +kernel) (by decide +kernel)
set_option maxRecDepth 20000 in
theorem gX3_put_X3_placeOf : GoodIn wsX3_put (va_wsS RX3 33 yX3_placeOf wsX3_placeOf) := goodIn_app (goodIn_of _ (by decide +kernel)) ggX3_put_X3_placeOf
set_option maxRecDepth 20000 in
theorem ggX3_put_X3_signOf : GoodIn wsX3_put wsX3_signOf := goodIn_r _ [13, 14, 15] (by decide +kernel) (by decide +kernel)
set_option maxRecDepth 20000 in
theorem gX3_put_X3_signOf : GoodIn wsX3_put (va_wsS RX3 36 yX3_signOf wsX3_signOf) := goodIn_app (goodIn_of _ (by decide +kernel)) ggX3_put_X3_signOf
theorem dX3_put_0 : decode cX3_put 0 = .ok (.iconst 0, 1) := by decide +kernel
theorem dX3_put_1 : decode cX3_put 1 = .ok (.istore_n 3, 1) := by decide +kernel
theorem dX3_put_2 : decode cX3_put 2 = .ok (.iload_n 3, 1) := by decide +kernel
theorem dX3_put_3 : decode cX3_put 3 = .ok (.iconst 5, 1) := by decide +kernel
theorem dX3_put_4 : decode cX3_put 4 = .ok (.if_icmp .ge 29, 3) := by decide +kernel
theorem dX3_put_7 : decode cX3_put 7 = .ok (.aload_n 0, 1) := by decide +kernel
theorem dX3_put_8 : decode cX3_put 8 = .ok (.getfield 9, 3) := by decide +kernel
theorem dX3_put_11 : decode cX3_put 11 = .ok (.iload_n 3, 1) := by decide +kernel
theorem dX3_put_12 : decode cX3_put 12 = .ok (.iload_n 1, 1) := by decide +kernel
theorem dX3_put_13 : decode cX3_put 13 = .ok (.invokestatic 33, 3) := by decide +kernel
theorem dX3_put_16 : decode cX3_put 16 = .ok (.dup2, 1) := by decide +kernel
theorem dX3_put_17 : decode cX3_put 17 = .ok (.iaload, 1) := by decide +kernel
theorem dX3_put_18 : decode cX3_put 18 = .ok (.iload_n 3, 1) := by decide +kernel
theorem dX3_put_19 : decode cX3_put 19 = .ok (.iload_n 1, 1) := by decide +kernel
theorem dX3_put_20 : decode cX3_put 20 = .ok (.invokestatic 36, 3) := by decide +kernel
theorem dX3_put_23 : decode cX3_put 23 = .ok (.iload_n 2, 1) := by decide +kernel
theorem dX3_put_24 : decode cX3_put 24 = .ok (.imul, 1) := by decide +kernel
theorem dX3_put_25 : decode cX3_put 25 = .ok (.iadd, 1) := by decide +kernel
theorem dX3_put_26 : decode cX3_put 26 = .ok (.iastore, 1) := by decide +kernel
theorem dX3_put_27 : decode cX3_put 27 = .ok (.iinc 3 1, 3) := by decide +kernel
theorem dX3_put_30 : decode cX3_put 30 = .ok (.goto (-28), 3) := by decide +kernel
theorem dX3_put_33 : decode cX3_put 33 = .ok (.return_, 1) := by decide +kernel
theorem dX3_join_0 : decode cX3_join 0 = .ok (.iconst 0, 1) := by decide +kernel
theorem dX3_join_1 : decode cX3_join 1 = .ok (.istore_n 2, 1) := by decide +kernel
theorem dX3_join_2 : decode cX3_join 2 = .ok (.iload_n 2, 1) := by decide +kernel
theorem dX3_join_3 : decode cX3_join 3 = .ok (.aload_n 0, 1) := by decide +kernel
theorem dX3_join_4 : decode cX3_join 4 = .ok (.getfield 9, 3) := by decide +kernel
theorem dX3_join_7 : decode cX3_join 7 = .ok (.arraylength, 1) := by decide +kernel
theorem dX3_join_8 : decode cX3_join 8 = .ok (.if_icmp .ge 24, 3) := by decide +kernel
theorem dX3_join_11 : decode cX3_join 11 = .ok (.aload_n 0, 1) := by decide +kernel
theorem dX3_join_12 : decode cX3_join 12 = .ok (.getfield 9, 3) := by decide +kernel
theorem dX3_join_15 : decode cX3_join 15 = .ok (.iload_n 2, 1) := by decide +kernel
theorem dX3_join_16 : decode cX3_join 16 = .ok (.dup2, 1) := by decide +kernel
theorem dX3_join_17 : decode cX3_join 17 = .ok (.iaload, 1) := by decide +kernel
theorem dX3_join_18 : decode cX3_join 18 = .ok (.aload_n 1, 1) := by decide +kernel
theorem dX3_join_19 : decode cX3_join 19 = .ok (.getfield 9, 3) := by decide +kernel
theorem dX3_join_22 : decode cX3_join 22 = .ok (.iload_n 2, 1) := by decide +kernel
theorem dX3_join_23 : decode cX3_join 23 = .ok (.iaload, 1) := by decide +kernel
theorem dX3_join_24 : decode cX3_join 24 = .ok (.iadd, 1) := by decide +kernel
theorem dX3_join_25 : decode cX3_join 25 = .ok (.iastore, 1) := by decide +kernel
theorem dX3_join_26 : decode cX3_join 26 = .ok (.iinc 2 1, 3) := by decide +kernel
theorem dX3_join_29 : decode cX3_join 29 = .ok (.goto (-27), 3) := by decide +kernel
theorem dX3_join_32 : decode cX3_join 32 = .ok (.return_, 1) := by decide +kernel
set_option maxRecDepth 20000 in
theorem ggX3_empty_J7_fill_53178 : GoodIn wsX3_empty wsJ7_fill_53178 := goodIn_r _ [5] (by decide +kernel) (by decide +kernel)
set_option maxRecDepth 20000 in
theorem gX3_empty_J7_fill_53178 : GoodIn wsX3_empty (va_wsS RX3 39 yJ7_fill_53178 wsJ7_fill_53178) := goodIn_app (goodIn_of _ (by decide +kernel)) ggX3_empty_J7_fill_53178
theorem dX3_empty_0 : decode cX3_empty 0 = .ok (.aload_n 0, 1) := by decide +kernel
theorem dX3_empty_1 : decode cX3_empty 1 = .ok (.getfield 9, 3) := by decide +kernel
theorem dX3_empty_4 : decode cX3_empty 4 = .ok (.iconst 0, 1) := by decide +kernel
theorem dX3_empty_5 : decode cX3_empty 5 = .ok (.invokestatic 39, 3) := by decide +kernel
theorem dX3_empty_8 : decode cX3_empty 8 = .ok (.return_, 1) := by decide +kernel
set_option maxRecDepth 20000 in
theorem ggX3_middleProduct_X3_rowProduct : GoodIn wsX3_middleProduct wsX3_rowProduct := goodIn_r _ [6, 7, 8, 9, 5, 10, 11, 16, 17] (by decide +kernel) (by decide +kernel)
set_option maxRecDepth 20000 in
theorem gX3_middleProduct_X3_rowProduct : GoodIn wsX3_middleProduct (wsV RX3 49 RX3 yX3_rowProduct wsX3_rowProduct) := goodIn_app (goodIn_of _ (by decide +kernel)) ggX3_middleProduct_X3_rowProduct
set_option maxRecDepth 20000 in
theorem ggX3_middleProduct_X3_middleNumber : GoodIn wsX3_middleProduct wsX3_middleNumber := goodIn_r _ [15, 1, 16, 17] (by decide +kernel) (by decide +kernel)
set_option maxRecDepth 20000 in
theorem gX3_middleProduct_X3_middleNumber : GoodIn wsX3_middleProduct (wsV RX3 45 RX3 yX3_middleNumber wsX3_middleNumber) := goodIn_app (goodIn_of _ (by decide +kernel)) ggX3_middleProduct_X3_middleNumber
theorem dX3_middleProduct_0 : decode cX3_middleProduct 0 = .ok (.iconst 0, 1) := by decide +kernel
theorem dX3_middleProduct_1 : decode cX3_middleProduct 1 = .ok (.istore_n 2, 1) := by decide +kernel
theorem dX3_middleProduct_2 : decode cX3_middleProduct 2 = .ok (.iload_n 2, 1) := by decide +kernel
theorem dX3_middleProduct_3 : decode cX3_middleProduct 3 = .ok (.iconst 5, 1) := by decide +kernel
theorem dX3_middleProduct_4 : decode cX3_middleProduct 4 = .ok (.if_icmp .ge 21, 3) := by decide +kernel
theorem dX3_middleProduct_7 : decode cX3_middleProduct 7 = .ok (.aload_n 0, 1) := by decide +kernel
theorem dX3_middleProduct_8 : decode cX3_middleProduct 8 = .ok (.getfield 13, 3) := by decide +kernel
theorem dX3_middleProduct_11 : decode cX3_middleProduct 11 = .ok (.iload_n 2, 1) := by decide +kernel
theorem dX3_middleProduct_12 : decode cX3_middleProduct 12 = .ok (.aload_n 0, 1) := by decide +kernel
theorem dX3_middleProduct_13 : decode cX3_middleProduct 13 = .ok (.iload_n 2, 1) := by decide +kernel
theorem dX3_middleProduct_14 : decode cX3_middleProduct 14 = .ok (.aload_n 1, 1) := by decide +kernel
theorem dX3_middleProduct_15 : decode cX3_middleProduct 15 = .ok (.invokevirtual 49, 3) := by decide +kernel
theorem dX3_middleProduct_18 : decode cX3_middleProduct 18 = .ok (.lastore, 1) := by decide +kernel
theorem dX3_middleProduct_19 : decode cX3_middleProduct 19 = .ok (.iinc 2 1, 3) := by decide +kernel
theorem dX3_middleProduct_22 : decode cX3_middleProduct 22 = .ok (.goto (-20), 3) := by decide +kernel
theorem dX3_middleProduct_25 : decode cX3_middleProduct 25 = .ok (.aload_n 0, 1) := by decide +kernel
theorem dX3_middleProduct_26 : decode cX3_middleProduct 26 = .ok (.invokevirtual 45, 3) := by decide +kernel
theorem dX3_middleProduct_29 : decode cX3_middleProduct 29 = .ok (.lreturn, 1) := by decide +kernel
set_option maxRecDepth 20000 in
theorem ggX3_rowProduct_X3_cellAt : GoodIn wsX3_rowProduct wsX3_cellAt := goodIn_r _ [5, 6, 7, 8] (by decide +kernel) (by decide +kernel)
set_option maxRecDepth 20000 in
theorem gX3_rowProduct_X3_cellAt : GoodIn wsX3_rowProduct (wsV RX3 53 RX3 yX3_cellAt wsX3_cellAt) := goodIn_app (goodIn_of _ (by decide +kernel)) ggX3_rowProduct_X3_cellAt
theorem dX3_rowProduct_0 : decode cX3_rowProduct 0 = .ok (.lconst 0, 1) := by decide +kernel
theorem dX3_rowProduct_1 : decode cX3_rowProduct 1 = .ok (.lstore_n 3, 1) := by decide +kernel
theorem dX3_rowProduct_2 : decode cX3_rowProduct 2 = .ok (.iconst 0, 1) := by decide +kernel
theorem dX3_rowProduct_3 : decode cX3_rowProduct 3 = .ok (.istore 5, 2) := by decide +kernel
theorem dX3_rowProduct_5 : decode cX3_rowProduct 5 = .ok (.iload 5, 2) := by decide +kernel
theorem dX3_rowProduct_7 : decode cX3_rowProduct 7 = .ok (.bipush 8, 2) := by decide +kernel
theorem dX3_rowProduct_9 : decode cX3_rowProduct 9 = .ok (.if_icmp .ge 29, 3) := by decide +kernel
theorem dX3_rowProduct_12 : decode cX3_rowProduct 12 = .ok (.lload_n 3, 1) := by decide +kernel
theorem dX3_rowProduct_13 : decode cX3_rowProduct 13 = .ok (.aload_n 0, 1) := by decide +kernel
theorem dX3_rowProduct_14 : decode cX3_rowProduct 14 = .ok (.iload_n 1, 1) := by decide +kernel
theorem dX3_rowProduct_15 : decode cX3_rowProduct 15 = .ok (.iload 5, 2) := by decide +kernel
theorem dX3_rowProduct_17 : decode cX3_rowProduct 17 = .ok (.invokevirtual 53, 3) := by decide +kernel
theorem dX3_rowProduct_20 : decode cX3_rowProduct 20 = .ok (.i2l, 1) := by decide +kernel
theorem dX3_rowProduct_21 : decode cX3_rowProduct 21 = .ok (.aload_n 2, 1) := by decide +kernel
theorem dX3_rowProduct_22 : decode cX3_rowProduct 22 = .ok (.iload_n 1, 1) := by decide +kernel
theorem dX3_rowProduct_23 : decode cX3_rowProduct 23 = .ok (.iload 5, 2) := by decide +kernel
theorem dX3_rowProduct_25 : decode cX3_rowProduct 25 = .ok (.invokevirtual 53, 3) := by decide +kernel
theorem dX3_rowProduct_28 : decode cX3_rowProduct 28 = .ok (.i2l, 1) := by decide +kernel
theorem dX3_rowProduct_29 : decode cX3_rowProduct 29 = .ok (.lmul, 1) := by decide +kernel
theorem dX3_rowProduct_30 : decode cX3_rowProduct 30 = .ok (.ladd, 1) := by decide +kernel
theorem dX3_rowProduct_31 : decode cX3_rowProduct 31 = .ok (.lstore_n 3, 1) := by decide +kernel
theorem dX3_rowProduct_32 : decode cX3_rowProduct 32 = .ok (.iinc 5 1, 3) := by decide +kernel
theorem dX3_rowProduct_35 : decode cX3_rowProduct 35 = .ok (.goto (-30), 3) := by decide +kernel
theorem dX3_rowProduct_38 : decode cX3_rowProduct 38 = .ok (.lload_n 3, 1) := by decide +kernel
theorem dX3_rowProduct_39 : decode cX3_rowProduct 39 = .ok (.lreturn, 1) := by decide +kernel
theorem dX3_middleNumber_0 : decode cX3_middleNumber 0 = .ok (.iconst 1, 1) := by decide +kernel
theorem dX3_middleNumber_1 : decode cX3_middleNumber 1 = .ok (.istore_n 1, 1) := by decide +kernel
theorem dX3_middleNumber_2 : decode cX3_middleNumber 2 = .ok (.iload_n 1, 1) := by decide +kernel
theorem dX3_middleNumber_3 : decode cX3_middleNumber 3 = .ok (.aload_n 0, 1) := by decide +kernel
theorem dX3_middleNumber_4 : decode cX3_middleNumber 4 = .ok (.getfield 13, 3) := by decide +kernel
theorem dX3_middleNumber_7 : decode cX3_middleNumber 7 = .ok (.arraylength, 1) := by decide +kernel
theorem dX3_middleNumber_8 : decode cX3_middleNumber 8 = .ok (.if_icmp .ge 69, 3) := by decide +kernel
theorem dX3_middleNumber_11 : decode cX3_middleNumber 11 = .ok (.iload_n 1, 1) := by decide +kernel
theorem dX3_middleNumber_12 : decode cX3_middleNumber 12 = .ok (.istore_n 2, 1) := by decide +kernel
theorem dX3_middleNumber_13 : decode cX3_middleNumber 13 = .ok (.iload_n 2, 1) := by decide +kernel
theorem dX3_middleNumber_14 : decode cX3_middleNumber 14 = .ok (.ifCond .le 57, 3) := by decide +kernel
theorem dX3_middleNumber_17 : decode cX3_middleNumber 17 = .ok (.aload_n 0, 1) := by decide +kernel
theorem dX3_middleNumber_18 : decode cX3_middleNumber 18 = .ok (.getfield 13, 3) := by decide +kernel
theorem dX3_middleNumber_21 : decode cX3_middleNumber 21 = .ok (.iload_n 2, 1) := by decide +kernel
theorem dX3_middleNumber_22 : decode cX3_middleNumber 22 = .ok (.iconst 1, 1) := by decide +kernel
theorem dX3_middleNumber_23 : decode cX3_middleNumber 23 = .ok (.isub, 1) := by decide +kernel
theorem dX3_middleNumber_24 : decode cX3_middleNumber 24 = .ok (.laload, 1) := by decide +kernel
theorem dX3_middleNumber_25 : decode cX3_middleNumber 25 = .ok (.aload_n 0, 1) := by decide +kernel
theorem dX3_middleNumber_26 : decode cX3_middleNumber 26 = .ok (.getfield 13, 3) := by decide +kernel
theorem dX3_middleNumber_29 : decode cX3_middleNumber 29 = .ok (.iload_n 2, 1) := by decide +kernel
theorem dX3_middleNumber_30 : decode cX3_middleNumber 30 = .ok (.laload, 1) := by decide +kernel
theorem dX3_middleNumber_31 : decode cX3_middleNumber 31 = .ok (.lcmp, 1) := by decide +kernel
theorem dX3_middleNumber_32 : decode cX3_middleNumber 32 = .ok (.ifCond .le 39, 3) := by decide +kernel
theorem dX3_middleNumber_35 : decode cX3_middleNumber 35 = .ok (.aload_n 0, 1) := by decide +kernel
theorem dX3_middleNumber_36 : decode cX3_middleNumber 36 = .ok (.getfield 13, 3) := by decide +kernel
theorem dX3_middleNumber_39 : decode cX3_middleNumber 39 = .ok (.iload_n 2, 1) := by decide +kernel
theorem dX3_middleNumber_40 : decode cX3_middleNumber 40 = .ok (.iconst 1, 1) := by decide +kernel
theorem dX3_middleNumber_41 : decode cX3_middleNumber 41 = .ok (.isub, 1) := by decide +kernel
theorem dX3_middleNumber_42 : decode cX3_middleNumber 42 = .ok (.laload, 1) := by decide +kernel
theorem dX3_middleNumber_43 : decode cX3_middleNumber 43 = .ok (.lstore_n 3, 1) := by decide +kernel
theorem dX3_middleNumber_44 : decode cX3_middleNumber 44 = .ok (.aload_n 0, 1) := by decide +kernel
theorem dX3_middleNumber_45 : decode cX3_middleNumber 45 = .ok (.getfield 13, 3) := by decide +kernel
theorem dX3_middleNumber_48 : decode cX3_middleNumber 48 = .ok (.iload_n 2, 1) := by decide +kernel
theorem dX3_middleNumber_49 : decode cX3_middleNumber 49 = .ok (.iconst 1, 1) := by decide +kernel
theorem dX3_middleNumber_50 : decode cX3_middleNumber 50 = .ok (.isub, 1) := by decide +kernel
theorem dX3_middleNumber_51 : decode cX3_middleNumber 51 = .ok (.aload_n 0, 1) := by decide +kernel
theorem dX3_middleNumber_52 : decode cX3_middleNumber 52 = .ok (.getfield 13, 3) := by decide +kernel
theorem dX3_middleNumber_55 : decode cX3_middleNumber 55 = .ok (.iload_n 2, 1) := by decide +kernel
theorem dX3_middleNumber_56 : decode cX3_middleNumber 56 = .ok (.laload, 1) := by decide +kernel
theorem dX3_middleNumber_57 : decode cX3_middleNumber 57 = .ok (.lastore, 1) := by decide +kernel
theorem dX3_middleNumber_58 : decode cX3_middleNumber 58 = .ok (.aload_n 0, 1) := by decide +kernel
theorem dX3_middleNumber_59 : decode cX3_middleNumber 59 = .ok (.getfield 13, 3) := by decide +kernel
theorem dX3_middleNumber_62 : decode cX3_middleNumber 62 = .ok (.iload_n 2, 1) := by decide +kernel
theorem dX3_middleNumber_63 : decode cX3_middleNumber 63 = .ok (.lload_n 3, 1) := by decide +kernel
theorem dX3_middleNumber_64 : decode cX3_middleNumber 64 = .ok (.lastore, 1) := by decide +kernel
theorem dX3_middleNumber_65 : decode cX3_middleNumber 65 = .ok (.iinc 2 (-1), 3) := by decide +kernel
theorem dX3_middleNumber_68 : decode cX3_middleNumber 68 = .ok (.goto (-55), 3) := by decide +kernel
theorem dX3_middleNumber_71 : decode cX3_middleNumber 71 = .ok (.iinc 1 1, 3) := by decide +kernel
theorem dX3_middleNumber_74 : decode cX3_middleNumber 74 = .ok (.goto (-72), 3) := by decide +kernel
theorem dX3_middleNumber_77 : decode cX3_middleNumber 77 = .ok (.aload_n 0, 1) := by decide +kernel
theorem dX3_middleNumber_78 : decode cX3_middleNumber 78 = .ok (.getfield 13, 3) := by decide +kernel
theorem dX3_middleNumber_81 : decode cX3_middleNumber 81 = .ok (.iconst 2, 1) := by decide +kernel
theorem dX3_middleNumber_82 : decode cX3_middleNumber 82 = .ok (.laload, 1) := by decide +kernel
theorem dX3_middleNumber_83 : decode cX3_middleNumber 83 = .ok (.lreturn, 1) := by decide +kernel
set_option maxRecDepth 20000 in
theorem ggX4_init_X2_init : GoodIn wsX4_init wsX2_init := goodIn_r _ [21, 22, 2, 3, 23, 24, 40] (by decide +kernel) (by decide +kernel)
set_option maxRecDepth 20000 in
theorem gX4_init_X2_init_n11 : GoodIn wsX4_init (wsX2_init) := ggX4_init_X2_init
set_option maxRecDepth 20000 in
theorem ggX4_init_X3_init : GoodIn wsX4_init wsX3_init := goodIn_r _ [26, 27, 2, 3, 23, 28, 29, 30, 45, 46] (by decide +kernel) (by decide +kernel)
set_option maxRecDepth 20000 in
theorem gX4_init_X3_init_n26 : GoodIn wsX4_init (wsX3_init) := ggX4_init_X3_init
set_option maxRecDepth 20000 in
theorem ggX4_init_X1_init : GoodIn wsX4_init wsX1_init := goodIn_r _ [32, 33, 2, 3, 23, 34, 35, 47, 48, 49, 50] (by decide +kernel) (by decide +kernel)
set_option maxRecDepth 20000 in
theorem gX4_init_X1_init_n33 : GoodIn wsX4_init (wsX1_init) := ggX4_init_X1_init
set_option maxRecDepth 20000 in
theorem ggX4_init_X0_init : GoodIn wsX4_init wsX0_init := goodIn_r _ [37, 38, 2, 3, 23, 39, 51] (by decide +kernel) (by decide +kernel)
set_option maxRecDepth 20000 in
theorem gX4_init_X0_init_n38 : GoodIn wsX4_init (wsX0_init) := ggX4_init_X0_init
theorem dX4_init_0 : decode cX4_init 0 = .ok (.aload_n 0, 1) := by decide +kernel
theorem dX4_init_1 : decode cX4_init 1 = .ok (.invokespecial 3, 3) := by decide +kernel
theorem dX4_init_4 : decode cX4_init 4 = .ok (.aload_n 0, 1) := by decide +kernel
theorem dX4_init_5 : decode cX4_init 5 = .ok (.new 9, 3) := by decide +kernel
theorem dX4_init_8 : decode cX4_init 8 = .ok (.dup, 1) := by decide +kernel
theorem dX4_init_9 : decode cX4_init 9 = .ok (.invokespecial 11, 3) := by decide +kernel
theorem dX4_init_12 : decode cX4_init 12 = .ok (.putfield 12, 3) := by decide +kernel
theorem dX4_init_15 : decode cX4_init 15 = .ok (.aload_n 0, 1) := by decide +kernel
theorem dX4_init_16 : decode cX4_init 16 = .ok (.iconst 3, 1) := by decide +kernel
theorem dX4_init_17 : decode cX4_init 17 = .ok (.anewarray 18, 3) := by decide +kernel
theorem dX4_init_20 : decode cX4_init 20 = .ok (.putfield 20, 3) := by decide +kernel
theorem dX4_init_23 : decode cX4_init 23 = .ok (.aload_n 0, 1) := by decide +kernel
theorem dX4_init_24 : decode cX4_init 24 = .ok (.new 24, 3) := by decide +kernel
theorem dX4_init_27 : decode cX4_init 27 = .ok (.dup, 1) := by decide +kernel
theorem dX4_init_28 : decode cX4_init 28 = .ok (.invokespecial 26, 3) := by decide +kernel
theorem dX4_init_31 : decode cX4_init 31 = .ok (.putfield 27, 3) := by decide +kernel
theorem dX4_init_34 : decode cX4_init 34 = .ok (.aload_n 0, 1) := by decide +kernel
theorem dX4_init_35 : decode cX4_init 35 = .ok (.new 31, 3) := by decide +kernel
theorem dX4_init_38 : decode cX4_init 38 = .ok (.dup, 1) := by decide +kernel
theorem dX4_init_39 : decode cX4_init 39 = .ok (.invokespecial 33, 3) := by decide +kernel
theorem dX4_init_42 : decode cX4_init 42 = .ok (.putfield 34, 3) := by decide +kernel
theorem dX4_init_45 : decode cX4_init 45 = .ok (.iconst 0, 1) := by decide +kernel
theorem dX4_init_46 : decode cX4_init 46 = .ok (.istore_n 1, 1) := by decide +kernel
theorem dX4_init_47 : decode cX4_init 47 = .ok (.iload_n 1, 1) := by decide +kernel
theorem dX4_init_48 : decode cX4_init 48 = .ok (.aload_n 0, 1) := by decide +kernel
theorem dX4_init_49 : decode cX4_init 49 = .ok (.getfield 20, 3) := by decide +kernel
theorem dX4_init_52 : decode cX4_init 52 = .ok (.arraylength, 1) := by decide +kernel
theorem dX4_init_53 : decode cX4_init 53 = .ok (.if_icmp .ge 22, 3) := by decide +kernel
theorem dX4_init_56 : decode cX4_init 56 = .ok (.aload_n 0, 1) := by decide +kernel
theorem dX4_init_57 : decode cX4_init 57 = .ok (.getfield 20, 3) := by decide +kernel
theorem dX4_init_60 : decode cX4_init 60 = .ok (.iload_n 1, 1) := by decide +kernel
theorem dX4_init_61 : decode cX4_init 61 = .ok (.new 18, 3) := by decide +kernel
theorem dX4_init_64 : decode cX4_init 64 = .ok (.dup, 1) := by decide +kernel
theorem dX4_init_65 : decode cX4_init 65 = .ok (.invokespecial 38, 3) := by decide +kernel
theorem dX4_init_68 : decode cX4_init 68 = .ok (.aastore, 1) := by decide +kernel
theorem dX4_init_69 : decode cX4_init 69 = .ok (.iinc 1 1, 3) := by decide +kernel
theorem dX4_init_72 : decode cX4_init 72 = .ok (.goto (-25), 3) := by decide +kernel
theorem dX4_init_75 : decode cX4_init 75 = .ok (.return_, 1) := by decide +kernel
set_option maxRecDepth 20000 in
theorem ggX4_put_X2_put : GoodIn wsX4_put wsX2_put := goodIn_r _ [9, 10, 85] (by decide +kernel) (by decide +kernel)
set_option maxRecDepth 20000 in
theorem gX4_put_X2_put : GoodIn wsX4_put (wsV RX4 39 RX2 yX2_put wsX2_put) := goodIn_app (goodIn_of _ (by decide +kernel)) ggX4_put_X2_put
set_option maxRecDepth 20000 in
theorem ggX4_put_X0_put : GoodIn wsX4_put wsX0_put := goodIn_r _ [15, 16, 17, 18, 19, 20, 21, 22, 23, 14, 24, 25, 26, 27, 28, 29, 30, 31, 32, 33, 34, 35, 86] (by decide +kernel) (by decide +kernel)
set_option maxRecDepth 20000 in
theorem gX4_put_X0_put : GoodIn wsX4_put (wsV RX4 43 RX0 yX0_put wsX0_put) := goodIn_app (goodIn_of _ (by decide +kernel)) ggX4_put_X0_put
set_option maxRecDepth 20000 in
theorem ggX4_put_X3_put : GoodIn wsX4_put wsX3_put := goodIn_r _ [40, 41, 42, 43, 39, 44, 45, 46, 47, 48, 49, 50, 51, 52, 53, 54, 87, 88] (by decide +kernel) (by decide +kernel)
set_option maxRecDepth 20000 in
theorem gX4_put_X3_put : GoodIn wsX4_put (wsV RX4 44 RX3 yX3_put wsX3_put) := goodIn_app (goodIn_of _ (by decide +kernel)) ggX4_put_X3_put
set_option maxRecDepth 20000 in
theorem ggX4_put_X1_put : GoodIn wsX4_put wsX1_put := goodIn_r _ [59, 60, 61, 26, 19, 27, 62, 63, 64, 58, 65, 66, 67, 68, 69, 70, 71, 72, 73, 74, 75, 76, 77, 78, 79, 80, 89, 90, 91, 92] (by decide +kernel) (by decide +kernel)
set_option maxRecDepth 20000 in
theorem gX4_put_X1_put : GoodIn wsX4_put (wsV RX4 45 RX1 yX1_put wsX1_put) := goodIn_app (goodIn_of _ (by decide +kernel)) ggX4_put_X1_put
theorem dX4_put_0 : decode cX4_put 0 = .ok (.aload_n 0, 1) := by decide +kernel
theorem dX4_put_1 : decode cX4_put 1 = .ok (.getfield 12, 3) := by decide +kernel
theorem dX4_put_4 : decode cX4_put 4 = .ok (.iload_n 1, 1) := by decide +kernel
theorem dX4_put_5 : decode cX4_put 5 = .ok (.iload_n 2, 1) := by decide +kernel
theorem dX4_put_6 : decode cX4_put 6 = .ok (.invokevirtual 39, 3) := by decide +kernel
theorem dX4_put_9 : decode cX4_put 9 = .ok (.iconst 0, 1) := by decide +kernel
theorem dX4_put_10 : decode cX4_put 10 = .ok (.istore_n 3, 1) := by decide +kernel
theorem dX4_put_11 : decode cX4_put 11 = .ok (.iload_n 3, 1) := by decide +kernel
theorem dX4_put_12 : decode cX4_put 12 = .ok (.aload_n 0, 1) := by decide +kernel
theorem dX4_put_13 : decode cX4_put 13 = .ok (.getfield 20, 3) := by decide +kernel
theorem dX4_put_16 : decode cX4_put 16 = .ok (.arraylength, 1) := by decide +kernel
theorem dX4_put_17 : decode cX4_put 17 = .ok (.if_icmp .ge 22, 3) := by decide +kernel
theorem dX4_put_20 : decode cX4_put 20 = .ok (.aload_n 0, 1) := by decide +kernel
theorem dX4_put_21 : decode cX4_put 21 = .ok (.getfield 20, 3) := by decide +kernel
theorem dX4_put_24 : decode cX4_put 24 = .ok (.iload_n 3, 1) := by decide +kernel
theorem dX4_put_25 : decode cX4_put 25 = .ok (.aaload, 1) := by decide +kernel
theorem dX4_put_26 : decode cX4_put 26 = .ok (.iload_n 1, 1) := by decide +kernel
theorem dX4_put_27 : decode cX4_put 27 = .ok (.iload_n 3, 1) := by decide +kernel
theorem dX4_put_28 : decode cX4_put 28 = .ok (.ishr, 1) := by decide +kernel
theorem dX4_put_29 : decode cX4_put 29 = .ok (.iload_n 2, 1) := by decide +kernel
theorem dX4_put_30 : decode cX4_put 30 = .ok (.invokevirtual 43, 3) := by decide +kernel
theorem dX4_put_33 : decode cX4_put 33 = .ok (.iinc 3 1, 3) := by decide +kernel
theorem dX4_put_36 : decode cX4_put 36 = .ok (.goto (-25), 3) := by decide +kernel
theorem dX4_put_39 : decode cX4_put 39 = .ok (.aload_n 0, 1) := by decide +kernel
theorem dX4_put_40 : decode cX4_put 40 = .ok (.getfield 27, 3) := by decide +kernel
theorem dX4_put_43 : decode cX4_put 43 = .ok (.iload_n 1, 1) := by decide +kernel
theorem dX4_put_44 : decode cX4_put 44 = .ok (.iload_n 2, 1) := by decide +kernel
theorem dX4_put_45 : decode cX4_put 45 = .ok (.invokevirtual 44, 3) := by decide +kernel
theorem dX4_put_48 : decode cX4_put 48 = .ok (.aload_n 0, 1) := by decide +kernel
theorem dX4_put_49 : decode cX4_put 49 = .ok (.getfield 34, 3) := by decide +kernel
theorem dX4_put_52 : decode cX4_put 52 = .ok (.iload_n 1, 1) := by decide +kernel
theorem dX4_put_53 : decode cX4_put 53 = .ok (.iload_n 2, 1) := by decide +kernel
theorem dX4_put_54 : decode cX4_put 54 = .ok (.invokevirtual 45, 3) := by decide +kernel
theorem dX4_put_57 : decode cX4_put 57 = .ok (.return_, 1) := by decide +kernel
set_option maxRecDepth 20000 in
theorem ggX4_join_X2_join : GoodIn wsX4_join wsX2_join := goodIn_r _ [9, 10, 56] (by decide +kernel) (by decide +kernel)
set_option maxRecDepth 20000 in
theorem gX4_join_X2_join : GoodIn wsX4_join (wsV RX4 46 RX2 yX2_join wsX2_join) := goodIn_app (goodIn_of _ (by decide +kernel)) ggX4_join_X2_join
set_option maxRecDepth 20000 in
theorem ggX4_join_X0_join : GoodIn wsX4_join wsX0_join := goodIn_r _ [15, 16, 57] (by decide +kernel) (by decide +kernel)
set_option maxRecDepth 20000 in
theorem gX4_join_X0_join : GoodIn wsX4_join (wsV RX4 50 RX0 yX0_join wsX0_join) := goodIn_app (goodIn_of _ (by decide +kernel)) ggX4_join_X0_join
set_option maxRecDepth 20000 in
theorem ggX4_join_X3_join : GoodIn wsX4_join wsX3_join := goodIn_r _ [21, 22, 58, 59] (by decide +kernel) (by decide +kernel)
set_option maxRecDepth 20000 in
theorem gX4_join_X3_join : GoodIn wsX4_join (wsV RX4 53 RX3 yX3_join wsX3_join) := goodIn_app (goodIn_of _ (by decide +kernel)) ggX4_join_X3_join
set_option maxRecDepth 20000 in
theorem ggX4_join_X1_join : GoodIn wsX4_join wsX1_join := goodIn_r _ [27, 28, 29, 30, 31, 32, 33, 34, 26, 35, 36, 37, 38, 39, 40, 41, 42, 43, 44, 45, 46, 47, 48, 49, 50, 51, 60, 61, 62, 63] (by decide +kernel) (by decide +kernel)
set_option maxRecDepth 20000 in
theorem gX4_join_X1_join : GoodIn wsX4_join (wsV RX4 56 RX1 yX1_join wsX1_join) := goodIn_app (goodIn_of _ (by decide +kernel)) ggX4_join_X1_join
theorem dX4_join_0 : decode cX4_join 0 = .ok (.aload_n 0, 1) := by decide +kernel
theorem dX4_join_1 : decode cX4_join 1 = .ok (.getfield 12, 3) := by decide +kernel
theorem dX4_join_4 : decode cX4_join 4 = .ok (.aload_n 1, 1) := by decide +kernel
theorem dX4_join_5 : decode cX4_join 5 = .ok (.getfield 12, 3) := by decide +kernel
theorem dX4_join_8 : decode cX4_join 8 = .ok (.invokevirtual 46, 3) := by decide +kernel
theorem dX4_join_11 : decode cX4_join 11 = .ok (.iconst 0, 1) := by decide +kernel
theorem dX4_join_12 : decode cX4_join 12 = .ok (.istore_n 2, 1) := by decide +kernel
theorem dX4_join_13 : decode cX4_join 13 = .ok (.iload_n 2, 1) := by decide +kernel
theorem dX4_join_14 : decode cX4_join 14 = .ok (.aload_n 0, 1) := by decide +kernel
theorem dX4_join_15 : decode cX4_join 15 = .ok (.getfield 20, 3) := by decide +kernel
theorem dX4_join_18 : decode cX4_join 18 = .ok (.arraylength, 1) := by decide +kernel
theorem dX4_join_19 : decode cX4_join 19 = .ok (.if_icmp .ge 24, 3) := by decide +kernel
theorem dX4_join_22 : decode cX4_join 22 = .ok (.aload_n 0, 1) := by decide +kernel
theorem dX4_join_23 : decode cX4_join 23 = .ok (.getfield 20, 3) := by decide +kernel
theorem dX4_join_26 : decode cX4_join 26 = .ok (.iload_n 2, 1) := by decide +kernel
theorem dX4_join_27 : decode cX4_join 27 = .ok (.aaload, 1) := by decide +kernel
theorem dX4_join_28 : decode cX4_join 28 = .ok (.aload_n 1, 1) := by decide +kernel
theorem dX4_join_29 : decode cX4_join 29 = .ok (.getfield 20, 3) := by decide +kernel
theorem dX4_join_32 : decode cX4_join 32 = .ok (.iload_n 2, 1) := by decide +kernel
theorem dX4_join_33 : decode cX4_join 33 = .ok (.aaload, 1) := by decide +kernel
theorem dX4_join_34 : decode cX4_join 34 = .ok (.invokevirtual 50, 3) := by decide +kernel
theorem dX4_join_37 : decode cX4_join 37 = .ok (.iinc 2 1, 3) := by decide +kernel
theorem dX4_join_40 : decode cX4_join 40 = .ok (.goto (-27), 3) := by decide +kernel
theorem dX4_join_43 : decode cX4_join 43 = .ok (.aload_n 0, 1) := by decide +kernel
theorem dX4_join_44 : decode cX4_join 44 = .ok (.getfield 27, 3) := by decide +kernel
theorem dX4_join_47 : decode cX4_join 47 = .ok (.aload_n 1, 1) := by decide +kernel
theorem dX4_join_48 : decode cX4_join 48 = .ok (.getfield 27, 3) := by decide +kernel
theorem dX4_join_51 : decode cX4_join 51 = .ok (.invokevirtual 53, 3) := by decide +kernel
theorem dX4_join_54 : decode cX4_join 54 = .ok (.aload_n 0, 1) := by decide +kernel
theorem dX4_join_55 : decode cX4_join 55 = .ok (.getfield 34, 3) := by decide +kernel
theorem dX4_join_58 : decode cX4_join 58 = .ok (.aload_n 1, 1) := by decide +kernel
theorem dX4_join_59 : decode cX4_join 59 = .ok (.getfield 34, 3) := by decide +kernel
theorem dX4_join_62 : decode cX4_join 62 = .ok (.invokevirtual 56, 3) := by decide +kernel
theorem dX4_join_65 : decode cX4_join 65 = .ok (.return_, 1) := by decide +kernel
set_option maxRecDepth 20000 in
theorem ggX4_empty_X2_empty : GoodIn wsX4_empty wsX2_empty := goodIn_r _ [9, 10, 11, 12, 13, 14, 40] (by decide +kernel) (by decide +kernel)
set_option maxRecDepth 20000 in
theorem gX4_empty_X2_empty : GoodIn wsX4_empty (wsV RX4 59 RX2 yX2_empty wsX2_empty) := goodIn_app (goodIn_of _ (by decide +kernel)) ggX4_empty_X2_empty
set_option maxRecDepth 20000 in
theorem ggX4_empty_X0_empty : GoodIn wsX4_empty wsX0_empty := goodIn_r _ [19, 20, 21, 12, 13, 14, 41] (by decide +kernel) (by decide +kernel)
set_option maxRecDepth 20000 in
theorem gX4_empty_X0_empty : GoodIn wsX4_empty (wsV RX4 62 RX0 yX0_empty wsX0_empty) := goodIn_app (goodIn_of _ (by decide +kernel)) ggX4_empty_X0_empty
set_option maxRecDepth 20000 in
theorem ggX4_empty_X3_empty : GoodIn wsX4_empty wsX3_empty := goodIn_r _ [26, 27, 28, 12, 13, 14, 42, 43] (by decide +kernel) (by decide +kernel)
set_option maxRecDepth 20000 in
theorem gX4_empty_X3_empty : GoodIn wsX4_empty (wsV RX4 63 RX3 yX3_empty wsX3_empty) := goodIn_app (goodIn_of _ (by decide +kernel)) ggX4_empty_X3_empty
set_option maxRecDepth 20000 in
theorem ggX4_empty_X1_empty : GoodIn wsX4_empty wsX1_empty := goodIn_r _ [33, 34, 35, 44, 45, 46, 47] (by decide +kernel) (by decide +kernel)
set_option maxRecDepth 20000 in
theorem gX4_empty_X1_empty : GoodIn wsX4_empty (wsV RX4 64 RX1 yX1_empty wsX1_empty) := goodIn_app (goodIn_of _ (by decide +kernel)) ggX4_empty_X1_empty
theorem dX4_empty_0 : decode cX4_empty 0 = .ok (.aload_n 0, 1) := by decide +kernel
theorem dX4_empty_1 : decode cX4_empty 1 = .ok (.getfield 12, 3) := by decide +kernel
theorem dX4_empty_4 : decode cX4_empty 4 = .ok (.invokevirtual 59, 3) := by decide +kernel
theorem dX4_empty_7 : decode cX4_empty 7 = .ok (.iconst 0, 1) := by decide +kernel
theorem dX4_empty_8 : decode cX4_empty 8 = .ok (.istore_n 1, 1) := by decide +kernel
theorem dX4_empty_9 : decode cX4_empty 9 = .ok (.iload_n 1, 1) := by decide +kernel
theorem dX4_empty_10 : decode cX4_empty 10 = .ok (.aload_n 0, 1) := by decide +kernel
theorem dX4_empty_11 : decode cX4_empty 11 = .ok (.getfield 20, 3) := by decide +kernel
theorem dX4_empty_14 : decode cX4_empty 14 = .ok (.arraylength, 1) := by decide +kernel
theorem dX4_empty_15 : decode cX4_empty 15 = .ok (.if_icmp .ge 18, 3) := by decide +kernel
theorem dX4_empty_18 : decode cX4_empty 18 = .ok (.aload_n 0, 1) := by decide +kernel
theorem dX4_empty_19 : decode cX4_empty 19 = .ok (.getfield 20, 3) := by decide +kernel
theorem dX4_empty_22 : decode cX4_empty 22 = .ok (.iload_n 1, 1) := by decide +kernel
theorem dX4_empty_23 : decode cX4_empty 23 = .ok (.aaload, 1) := by decide +kernel
theorem dX4_empty_24 : decode cX4_empty 24 = .ok (.invokevirtual 62, 3) := by decide +kernel
theorem dX4_empty_27 : decode cX4_empty 27 = .ok (.iinc 1 1, 3) := by decide +kernel
theorem dX4_empty_30 : decode cX4_empty 30 = .ok (.goto (-21), 3) := by decide +kernel
theorem dX4_empty_33 : decode cX4_empty 33 = .ok (.aload_n 0, 1) := by decide +kernel
theorem dX4_empty_34 : decode cX4_empty 34 = .ok (.getfield 27, 3) := by decide +kernel
theorem dX4_empty_37 : decode cX4_empty 37 = .ok (.invokevirtual 63, 3) := by decide +kernel
theorem dX4_empty_40 : decode cX4_empty 40 = .ok (.aload_n 0, 1) := by decide +kernel
theorem dX4_empty_41 : decode cX4_empty 41 = .ok (.getfield 34, 3) := by decide +kernel
theorem dX4_empty_44 : decode cX4_empty 44 = .ok (.invokevirtual 64, 3) := by decide +kernel
theorem dX4_empty_47 : decode cX4_empty 47 = .ok (.return_, 1) := by decide +kernel
set_option maxRecDepth 20000 in
theorem ggX4_estimateOf_X0_leastOf : GoodIn wsX4_estimateOf wsX0_leastOf := goodIn_r _ [7, 8, 9, 10, 11, 12, 13, 14, 6, 15, 16, 17, 18, 19, 20, 31] (by decide +kernel) (by decide +kernel)
set_option maxRecDepth 20000 in
theorem gX4_estimateOf_X0_leastOf : GoodIn wsX4_estimateOf (wsV RX4 65 RX0 yX0_leastOf wsX0_leastOf) := goodIn_app (goodIn_of _ (by decide +kernel)) ggX4_estimateOf_X0_leastOf
set_option maxRecDepth 20000 in
theorem ggX4_estimateOf_X2_ofHalf : GoodIn wsX4_estimateOf wsX2_ofHalf := goodIn_r _ [25, 26, 32] (by decide +kernel) (by decide +kernel)
set_option maxRecDepth 20000 in
theorem gX4_estimateOf_X2_ofHalf : GoodIn wsX4_estimateOf (wsV RX4 69 RX2 yX2_ofHalf wsX2_ofHalf) := goodIn_app (goodIn_of _ (by decide +kernel)) ggX4_estimateOf_X2_ofHalf
theorem dX4_estimateOf_0 : decode cX4_estimateOf 0 = .ok (.iload_n 1, 1) := by decide +kernel
theorem dX4_estimateOf_1 : decode cX4_estimateOf 1 = .ok (.aload_n 0, 1) := by decide +kernel
theorem dX4_estimateOf_2 : decode cX4_estimateOf 2 = .ok (.getfield 20, 3) := by decide +kernel
theorem dX4_estimateOf_5 : decode cX4_estimateOf 5 = .ok (.arraylength, 1) := by decide +kernel
theorem dX4_estimateOf_6 : decode cX4_estimateOf 6 = .ok (.if_icmp .ge 14, 3) := by decide +kernel
theorem dX4_estimateOf_9 : decode cX4_estimateOf 9 = .ok (.aload_n 0, 1) := by decide +kernel
theorem dX4_estimateOf_10 : decode cX4_estimateOf 10 = .ok (.getfield 20, 3) := by decide +kernel
theorem dX4_estimateOf_13 : decode cX4_estimateOf 13 = .ok (.iload_n 1, 1) := by decide +kernel
theorem dX4_estimateOf_14 : decode cX4_estimateOf 14 = .ok (.aaload, 1) := by decide +kernel
theorem dX4_estimateOf_15 : decode cX4_estimateOf 15 = .ok (.iload_n 2, 1) := by decide +kernel
theorem dX4_estimateOf_16 : decode cX4_estimateOf 16 = .ok (.invokevirtual 65, 3) := by decide +kernel
theorem dX4_estimateOf_19 : decode cX4_estimateOf 19 = .ok (.ireturn, 1) := by decide +kernel
theorem dX4_estimateOf_20 : decode cX4_estimateOf 20 = .ok (.aload_n 0, 1) := by decide +kernel
theorem dX4_estimateOf_21 : decode cX4_estimateOf 21 = .ok (.getfield 12, 3) := by decide +kernel
theorem dX4_estimateOf_24 : decode cX4_estimateOf 24 = .ok (.iload_n 1, 1) := by decide +kernel
theorem dX4_estimateOf_25 : decode cX4_estimateOf 25 = .ok (.iload_n 2, 1) := by decide +kernel
theorem dX4_estimateOf_26 : decode cX4_estimateOf 26 = .ok (.invokevirtual 69, 3) := by decide +kernel
theorem dX4_estimateOf_29 : decode cX4_estimateOf 29 = .ok (.ireturn, 1) := by decide +kernel
set_option maxRecDepth 20000 in
theorem ggX4_reaches_X4_estimateOf : GoodIn wsX4_reaches wsX4_estimateOf := goodIn_r _ [5, 6, 7, 8, 9, 10, 11, 12, 13, 14, 15, 16, 17, 18, 19, 20, 21, 22, 23, 24, 25, 26, 27, 28, 29, 30, 31, 32, 33, 34, 35, 36, 37] (by decide +kernel) (by decide +kernel)
set_option maxRecDepth 20000 in
theorem gX4_reaches_X4_estimateOf : GoodIn wsX4_reaches (wsV RX4 73 RX4 yX4_estimateOf wsX4_estimateOf) := goodIn_app (goodIn_of _ (by decide +kernel)) ggX4_reaches_X4_estimateOf
theorem dX4_reaches_0 : decode cX4_reaches 0 = .ok (.bipush 6, 2) := by decide +kernel
theorem dX4_reaches_2 : decode cX4_reaches 2 = .ok (.istore_n 3, 1) := by decide +kernel
theorem dX4_reaches_3 : decode cX4_reaches 3 = .ok (.iload_n 3, 1) := by decide +kernel
theorem dX4_reaches_4 : decode cX4_reaches 4 = .ok (.ifCond .lt 23, 3) := by decide +kernel
theorem dX4_reaches_7 : decode cX4_reaches 7 = .ok (.aload_n 0, 1) := by decide +kernel
theorem dX4_reaches_8 : decode cX4_reaches 8 = .ok (.iload_n 3, 1) := by decide +kernel
theorem dX4_reaches_9 : decode cX4_reaches 9 = .ok (.iload_n 1, 1) := by decide +kernel
theorem dX4_reaches_10 : decode cX4_reaches 10 = .ok (.iload_n 3, 1) := by decide +kernel
theorem dX4_reaches_11 : decode cX4_reaches 11 = .ok (.ishr, 1) := by decide +kernel
theorem dX4_reaches_12 : decode cX4_reaches 12 = .ok (.invokevirtual 73, 3) := by decide +kernel
theorem dX4_reaches_15 : decode cX4_reaches 15 = .ok (.iload_n 2, 1) := by decide +kernel
theorem dX4_reaches_16 : decode cX4_reaches 16 = .ok (.if_icmp .ge 5, 3) := by decide +kernel
theorem dX4_reaches_19 : decode cX4_reaches 19 = .ok (.iconst 0, 1) := by decide +kernel
theorem dX4_reaches_20 : decode cX4_reaches 20 = .ok (.ireturn, 1) := by decide +kernel
theorem dX4_reaches_21 : decode cX4_reaches 21 = .ok (.iinc 3 (-1), 3) := by decide +kernel
theorem dX4_reaches_24 : decode cX4_reaches 24 = .ok (.goto (-21), 3) := by decide +kernel
theorem dX4_reaches_27 : decode cX4_reaches 27 = .ok (.iconst 1, 1) := by decide +kernel
theorem dX4_reaches_28 : decode cX4_reaches 28 = .ok (.ireturn, 1) := by decide +kernel
set_option maxRecDepth 20000 in
theorem ggX5_init_X4_init : GoodIn wsX5_init wsX4_init := goodIn_r _ [10, 11, 2, 3, 12, 13, 14, 15, 16, 17, 18, 19, 20, 21, 22, 23, 24, 25, 26, 27, 28, 29, 30, 31, 32, 33, 34, 35, 36, 37, 38, 39, 40, 41, 42, 43, 44, 45, 46, 47, 53, 49, 50, 51, 52, 54, 55, 56, 57, 58, 59, 60] (by decide +kernel) (by decide +kernel)
set_option maxRecDepth 20000 in
theorem gX5_init_X4_init : GoodIn wsX5_init (wsX4_init) := ggX5_init_X4_init
theorem dX5_init_0 : decode cX5_init 0 = .ok (.aload_n 0, 1) := by decide +kernel
theorem dX5_init_1 : decode cX5_init 1 = .ok (.invokespecial 1, 3) := by decide +kernel
theorem dX5_init_4 : decode cX5_init 4 = .ok (.aload_n 0, 1) := by decide +kernel
theorem dX5_init_5 : decode cX5_init 5 = .ok (.iconst 4, 1) := by decide +kernel
theorem dX5_init_6 : decode cX5_init 6 = .ok (.anewarray 9, 3) := by decide +kernel
theorem dX5_init_9 : decode cX5_init 9 = .ok (.putfield 11, 3) := by decide +kernel
theorem dX5_init_12 : decode cX5_init 12 = .ok (.iconst 0, 1) := by decide +kernel
theorem dX5_init_13 : decode cX5_init 13 = .ok (.istore_n 1, 1) := by decide +kernel
theorem dX5_init_14 : decode cX5_init 14 = .ok (.iload_n 1, 1) := by decide +kernel
theorem dX5_init_15 : decode cX5_init 15 = .ok (.aload_n 0, 1) := by decide +kernel
theorem dX5_init_16 : decode cX5_init 16 = .ok (.getfield 11, 3) := by decide +kernel
theorem dX5_init_19 : decode cX5_init 19 = .ok (.arraylength, 1) := by decide +kernel
theorem dX5_init_20 : decode cX5_init 20 = .ok (.if_icmp .ge 22, 3) := by decide +kernel
theorem dX5_init_23 : decode cX5_init 23 = .ok (.aload_n 0, 1) := by decide +kernel
theorem dX5_init_24 : decode cX5_init 24 = .ok (.getfield 11, 3) := by decide +kernel
theorem dX5_init_27 : decode cX5_init 27 = .ok (.iload_n 1, 1) := by decide +kernel
theorem dX5_init_28 : decode cX5_init 28 = .ok (.new 9, 3) := by decide +kernel
theorem dX5_init_31 : decode cX5_init 31 = .ok (.dup, 1) := by decide +kernel
theorem dX5_init_32 : decode cX5_init 32 = .ok (.invokespecial 15, 3) := by decide +kernel
theorem dX5_init_35 : decode cX5_init 35 = .ok (.aastore, 1) := by decide +kernel
theorem dX5_init_36 : decode cX5_init 36 = .ok (.iinc 1 1, 3) := by decide +kernel
theorem dX5_init_39 : decode cX5_init 39 = .ok (.goto (-25), 3) := by decide +kernel
theorem dX5_init_42 : decode cX5_init 42 = .ok (.return_, 1) := by decide +kernel
set_option maxRecDepth 20000 in
theorem ggX5_add_X5_requirePlace : GoodIn wsX5_add wsX5_requirePlace := goodIn_ca (goodIn_r _ [6, 7, 8] (by decide +kernel) (by decide +kernel)) (goodIn_sub (fun _ h => List.mem_cons_of_mem _ (List.mem_append_left _ (List.mem_append_left _ (List.mem_append_right _ h)))) (by decide +kernel))
set_option maxRecDepth 20000 in
theorem gX5_add_X5_requirePlace : GoodIn wsX5_add (va_wsS RX5 16 yX5_requirePlace wsX5_requirePlace) := goodIn_app (goodIn_of _ (by decide +kernel)) ggX5_add_X5_requirePlace
set_option maxRecDepth 20000 in
theorem ggX5_add_X5_requireWithin : GoodIn wsX5_add wsX5_requireWithin := goodIn_ca (goodIn_r _ [11, 12, 13] (by decide +kernel) (by decide +kernel)) (goodIn_sub (fun _ h => List.mem_cons_of_mem _ (List.mem_append_left _ (List.mem_append_right _ h))) (by decide +kernel))
set_option maxRecDepth 20000 in
theorem gX5_add_X5_requireWithin : GoodIn wsX5_add (va_wsS RX5 20 yX5_requireWithin wsX5_requireWithin) := goodIn_app (goodIn_of _ (by decide +kernel)) ggX5_add_X5_requireWithin
set_option maxRecDepth 20000 in
theorem ggX5_add_X2_sum : GoodIn wsX5_add wsX2_sum := goodIn_r _ [18, 19, 114] (by decide +kernel) (by decide +kernel)
set_option maxRecDepth 20000 in
theorem gX5_add_X2_sum : GoodIn wsX5_add (wsV RX5 28 RX2 yX2_sum wsX2_sum) := goodIn_app (goodIn_of _ (by decide +kernel)) ggX5_add_X2_sum
set_option maxRecDepth 20000 in
theorem ggX5_add_X5_requireRoom : GoodIn wsX5_add wsX5_requireRoom := goodIn_ca (goodIn_r _ [22, 23, 24, 25] (by decide +kernel) (by decide +kernel)) (goodIn_sub (fun _ h => List.mem_cons_of_mem _ (List.mem_append_right _ h)) (by decide +kernel))
set_option maxRecDepth 20000 in
theorem gX5_add_X5_requireRoom : GoodIn wsX5_add (va_wsS RX5 34 yX5_requireRoom wsX5_requireRoom) := goodIn_app (goodIn_of _ (by decide +kernel)) ggX5_add_X5_requireRoom
set_option maxRecDepth 20000 in
theorem ggX5_add_X4_put : GoodIn wsX5_add wsX4_put := goodIn_r _ [30, 31, 32, 33, 34, 35, 36, 37, 17, 38, 19, 39, 40, 41, 42, 43, 44, 45, 46, 47, 48, 49, 50, 51, 52, 53, 54, 55, 56, 57, 58, 59, 60, 61, 62, 63, 64, 65, 66, 67, 68, 69, 70, 71, 72, 73, 74, 75, 76, 77, 78, 79, 80, 81, 82, 83, 84, 85, 86, 87, 88, 89, 90, 91, 92, 93, 94, 95, 96, 97, 98, 99, 100, 101, 102, 103, 104, 105, 106, 107, 108, 110, 111, 112, 113, 114, 115, 116, 117, 118, 119, 120, 121] (by decide +kernel) (by decide +kernel)
set_option maxRecDepth 20000 in
theorem gX5_add_X4_put : GoodIn wsX5_add (wsV RX5 38 RX4 yX4_put wsX4_put) := goodIn_app (goodIn_of _ (by decide +kernel)) ggX5_add_X4_put
theorem dX5_add_0 : decode cX5_add 0 = .ok (.iload_n 1, 1) := by decide +kernel
theorem dX5_add_1 : decode cX5_add 1 = .ok (.iconst 4, 1) := by decide +kernel
theorem dX5_add_2 : decode cX5_add 2 = .ok (.invokestatic 16, 3) := by decide +kernel
theorem dX5_add_5 : decode cX5_add 5 = .ok (.iload_n 2, 1) := by decide +kernel
theorem dX5_add_6 : decode cX5_add 6 = .ok (.bipush 64, 2) := by decide +kernel
theorem dX5_add_8 : decode cX5_add 8 = .ok (.invokestatic 16, 3) := by decide +kernel
theorem dX5_add_11 : decode cX5_add 11 = .ok (.iload_n 3, 1) := by decide +kernel
theorem dX5_add_12 : decode cX5_add 12 = .ok (.iconst 1, 1) := by decide +kernel
theorem dX5_add_13 : decode cX5_add 13 = .ok (.sipush 1000, 3) := by decide +kernel
theorem dX5_add_16 : decode cX5_add 16 = .ok (.invokestatic 20, 3) := by decide +kernel
theorem dX5_add_19 : decode cX5_add 19 = .ok (.aload_n 0, 1) := by decide +kernel
theorem dX5_add_20 : decode cX5_add 20 = .ok (.getfield 11, 3) := by decide +kernel
theorem dX5_add_23 : decode cX5_add 23 = .ok (.iload_n 1, 1) := by decide +kernel
theorem dX5_add_24 : decode cX5_add 24 = .ok (.aaload, 1) := by decide +kernel
theorem dX5_add_25 : decode cX5_add 25 = .ok (.astore 4, 2) := by decide +kernel
theorem dX5_add_27 : decode cX5_add 27 = .ok (.aload 4, 2) := by decide +kernel
theorem dX5_add_29 : decode cX5_add 29 = .ok (.getfield 24, 3) := by decide +kernel
theorem dX5_add_32 : decode cX5_add 32 = .ok (.invokevirtual 28, 3) := by decide +kernel
theorem dX5_add_35 : decode cX5_add 35 = .ok (.iload_n 3, 1) := by decide +kernel
theorem dX5_add_36 : decode cX5_add 36 = .ok (.iadd, 1) := by decide +kernel
theorem dX5_add_37 : decode cX5_add 37 = .ok (.invokestatic 34, 3) := by decide +kernel
theorem dX5_add_40 : decode cX5_add 40 = .ok (.aload 4, 2) := by decide +kernel
theorem dX5_add_42 : decode cX5_add 42 = .ok (.iload_n 2, 1) := by decide +kernel
theorem dX5_add_43 : decode cX5_add 43 = .ok (.iload_n 3, 1) := by decide +kernel
theorem dX5_add_44 : decode cX5_add 44 = .ok (.invokevirtual 38, 3) := by decide +kernel
theorem dX5_add_47 : decode cX5_add 47 = .ok (.aload 4, 2) := by decide +kernel
theorem dX5_add_49 : decode cX5_add 49 = .ok (.getfield 24, 3) := by decide +kernel
theorem dX5_add_52 : decode cX5_add 52 = .ok (.invokevirtual 28, 3) := by decide +kernel
theorem dX5_add_55 : decode cX5_add 55 = .ok (.ireturn, 1) := by decide +kernel
set_option maxRecDepth 20000 in
theorem ggX5_merge_X5_requirePlace : GoodIn wsX5_merge wsX5_requirePlace := goodIn_ca (goodIn_r _ [8, 9, 10] (by decide +kernel) (by decide +kernel)) (goodIn_sub (fun _ h => List.mem_cons_of_mem _ (List.mem_append_left _ (List.mem_append_right _ h))) (by decide +kernel))
set_option maxRecDepth 20000 in
theorem gX5_merge_X5_requirePlace : GoodIn wsX5_merge (va_wsS RX5 16 yX5_requirePlace wsX5_requirePlace) := goodIn_app (goodIn_of _ (by decide +kernel)) ggX5_merge_X5_requirePlace
set_option maxRecDepth 20000 in
theorem ggX5_merge_X2_sum : GoodIn wsX5_merge wsX2_sum := goodIn_r _ [15, 16, 82] (by decide +kernel) (by decide +kernel)
set_option maxRecDepth 20000 in
theorem gX5_merge_X2_sum : GoodIn wsX5_merge (wsV RX5 28 RX2 yX2_sum wsX2_sum) := goodIn_app (goodIn_of _ (by decide +kernel)) ggX5_merge_X2_sum
set_option maxRecDepth 20000 in
theorem ggX5_merge_X5_requireRoom : GoodIn wsX5_merge wsX5_requireRoom := goodIn_ca (goodIn_r _ [19, 20, 21, 22] (by decide +kernel) (by decide +kernel)) (goodIn_sub (fun _ h => List.mem_cons_of_mem _ (List.mem_append_right _ h)) (by decide +kernel))
set_option maxRecDepth 20000 in
theorem gX5_merge_X5_requireRoom : GoodIn wsX5_merge (va_wsS RX5 34 yX5_requireRoom wsX5_requireRoom) := goodIn_app (goodIn_of _ (by decide +kernel)) ggX5_merge_X5_requireRoom
set_option maxRecDepth 20000 in
theorem ggX5_merge_X4_join : GoodIn wsX5_merge wsX4_join := goodIn_r _ [27, 28, 29, 30, 31, 32, 33, 34, 14, 35, 16, 36, 37, 38, 39, 40, 41, 42, 43, 44, 45, 46, 47, 48, 49, 50, 51, 52, 53, 54, 55, 56, 57, 58, 59, 60, 61, 62, 63, 64, 65, 66, 67, 68, 69, 70, 71, 72, 73, 74, 75, 76, 78, 79, 80, 81, 82, 83, 84, 85, 86, 87, 88, 89] (by decide +kernel) (by decide +kernel)
set_option maxRecDepth 20000 in
theorem gX5_merge_X4_join : GoodIn wsX5_merge (wsV RX5 48 RX4 yX4_join wsX4_join) := goodIn_app (goodIn_of _ (by decide +kernel)) ggX5_merge_X4_join
theorem dX5_merge_0 : decode cX5_merge 0 = .ok (.iload_n 1, 1) := by decide +kernel
theorem dX5_merge_1 : decode cX5_merge 1 = .ok (.iconst 4, 1) := by decide +kernel
theorem dX5_merge_2 : decode cX5_merge 2 = .ok (.invokestatic 16, 3) := by decide +kernel
theorem dX5_merge_5 : decode cX5_merge 5 = .ok (.iload_n 2, 1) := by decide +kernel
theorem dX5_merge_6 : decode cX5_merge 6 = .ok (.iconst 4, 1) := by decide +kernel
theorem dX5_merge_7 : decode cX5_merge 7 = .ok (.invokestatic 16, 3) := by decide +kernel
theorem dX5_merge_10 : decode cX5_merge 10 = .ok (.iload_n 1, 1) := by decide +kernel
theorem dX5_merge_11 : decode cX5_merge 11 = .ok (.iload_n 2, 1) := by decide +kernel
theorem dX5_merge_12 : decode cX5_merge 12 = .ok (.if_icmp .ne 13, 3) := by decide +kernel
theorem dX5_merge_15 : decode cX5_merge 15 = .ok (.new 41, 3) := by decide +kernel
theorem dX5_merge_18 : decode cX5_merge 18 = .ok (.dup, 1) := by decide +kernel
theorem dX5_merge_19 : decode cX5_merge 19 = .ok (.ldc 43, 2) := by decide +kernel
theorem dX5_merge_21 : decode cX5_merge 21 = .ok (.invokespecial 45, 3) := by decide +kernel
theorem dX5_merge_24 : decode cX5_merge 24 = .ok (.athrow, 1) := by decide +kernel
theorem dX5_merge_25 : decode cX5_merge 25 = .ok (.aload_n 0, 1) := by decide +kernel
theorem dX5_merge_26 : decode cX5_merge 26 = .ok (.getfield 11, 3) := by decide +kernel
theorem dX5_merge_29 : decode cX5_merge 29 = .ok (.iload_n 1, 1) := by decide +kernel
theorem dX5_merge_30 : decode cX5_merge 30 = .ok (.aaload, 1) := by decide +kernel
theorem dX5_merge_31 : decode cX5_merge 31 = .ok (.astore_n 3, 1) := by decide +kernel
theorem dX5_merge_32 : decode cX5_merge 32 = .ok (.aload_n 0, 1) := by decide +kernel
theorem dX5_merge_33 : decode cX5_merge 33 = .ok (.getfield 11, 3) := by decide +kernel
theorem dX5_merge_36 : decode cX5_merge 36 = .ok (.iload_n 2, 1) := by decide +kernel
theorem dX5_merge_37 : decode cX5_merge 37 = .ok (.aaload, 1) := by decide +kernel
theorem dX5_merge_38 : decode cX5_merge 38 = .ok (.astore 4, 2) := by decide +kernel
theorem dX5_merge_40 : decode cX5_merge 40 = .ok (.aload_n 3, 1) := by decide +kernel
theorem dX5_merge_41 : decode cX5_merge 41 = .ok (.getfield 24, 3) := by decide +kernel
theorem dX5_merge_44 : decode cX5_merge 44 = .ok (.invokevirtual 28, 3) := by decide +kernel
theorem dX5_merge_47 : decode cX5_merge 47 = .ok (.aload 4, 2) := by decide +kernel
theorem dX5_merge_49 : decode cX5_merge 49 = .ok (.getfield 24, 3) := by decide +kernel
theorem dX5_merge_52 : decode cX5_merge 52 = .ok (.invokevirtual 28, 3) := by decide +kernel
theorem dX5_merge_55 : decode cX5_merge 55 = .ok (.iadd, 1) := by decide +kernel
theorem dX5_merge_56 : decode cX5_merge 56 = .ok (.invokestatic 34, 3) := by decide +kernel
theorem dX5_merge_59 : decode cX5_merge 59 = .ok (.aload_n 3, 1) := by decide +kernel
theorem dX5_merge_60 : decode cX5_merge 60 = .ok (.aload 4, 2) := by decide +kernel
theorem dX5_merge_62 : decode cX5_merge 62 = .ok (.invokevirtual 48, 3) := by decide +kernel
theorem dX5_merge_65 : decode cX5_merge 65 = .ok (.aload_n 3, 1) := by decide +kernel
theorem dX5_merge_66 : decode cX5_merge 66 = .ok (.getfield 24, 3) := by decide +kernel
theorem dX5_merge_69 : decode cX5_merge 69 = .ok (.invokevirtual 28, 3) := by decide +kernel
theorem dX5_merge_72 : decode cX5_merge 72 = .ok (.ireturn, 1) := by decide +kernel
set_option maxRecDepth 20000 in
theorem ggX5_clear_X5_requirePlace : GoodIn wsX5_clear wsX5_requirePlace := goodIn_ca (goodIn_r _ [6, 7, 8] (by decide +kernel) (by decide +kernel)) (goodIn_sub (fun _ h => List.mem_cons_of_mem _ (List.mem_append_right _ h)) (by decide +kernel))
set_option maxRecDepth 20000 in
theorem gX5_clear_X5_requirePlace : GoodIn wsX5_clear (va_wsS RX5 16 yX5_requirePlace wsX5_requirePlace) := goodIn_app (goodIn_of _ (by decide +kernel)) ggX5_clear_X5_requirePlace
set_option maxRecDepth 20000 in
theorem ggX5_clear_X2_sum : GoodIn wsX5_clear wsX2_sum := goodIn_r _ [13, 14, 58] (by decide +kernel) (by decide +kernel)
set_option maxRecDepth 20000 in
theorem gX5_clear_X2_sum : GoodIn wsX5_clear (wsV RX5 28 RX2 yX2_sum wsX2_sum) := goodIn_app (goodIn_of _ (by decide +kernel)) ggX5_clear_X2_sum
set_option maxRecDepth 20000 in
theorem ggX5_clear_X4_empty : GoodIn wsX5_clear wsX4_empty := goodIn_r _ [19, 20, 21, 22, 23, 24, 25, 26, 12, 27, 14, 28, 29, 30, 31, 32, 33, 34, 35, 36, 37, 38, 39, 40, 41, 42, 43, 44, 45, 46, 47, 48, 49, 50, 51, 52, 54, 55, 56, 57, 58, 59, 60, 61, 62, 63, 64, 65] (by decide +kernel) (by decide +kernel)
set_option maxRecDepth 20000 in
theorem gX5_clear_X4_empty : GoodIn wsX5_clear (wsV RX5 52 RX4 yX4_empty wsX4_empty) := goodIn_app (goodIn_of _ (by decide +kernel)) ggX5_clear_X4_empty
theorem dX5_clear_0 : decode cX5_clear 0 = .ok (.iload_n 1, 1) := by decide +kernel
theorem dX5_clear_1 : decode cX5_clear 1 = .ok (.iconst 4, 1) := by decide +kernel
theorem dX5_clear_2 : decode cX5_clear 2 = .ok (.invokestatic 16, 3) := by decide +kernel
theorem dX5_clear_5 : decode cX5_clear 5 = .ok (.aload_n 0, 1) := by decide +kernel
theorem dX5_clear_6 : decode cX5_clear 6 = .ok (.getfield 11, 3) := by decide +kernel
theorem dX5_clear_9 : decode cX5_clear 9 = .ok (.iload_n 1, 1) := by decide +kernel
theorem dX5_clear_10 : decode cX5_clear 10 = .ok (.aaload, 1) := by decide +kernel
theorem dX5_clear_11 : decode cX5_clear 11 = .ok (.getfield 24, 3) := by decide +kernel
theorem dX5_clear_14 : decode cX5_clear 14 = .ok (.invokevirtual 28, 3) := by decide +kernel
theorem dX5_clear_17 : decode cX5_clear 17 = .ok (.istore_n 2, 1) := by decide +kernel
theorem dX5_clear_18 : decode cX5_clear 18 = .ok (.aload_n 0, 1) := by decide +kernel
theorem dX5_clear_19 : decode cX5_clear 19 = .ok (.getfield 11, 3) := by decide +kernel
theorem dX5_clear_22 : decode cX5_clear 22 = .ok (.iload_n 1, 1) := by decide +kernel
theorem dX5_clear_23 : decode cX5_clear 23 = .ok (.aaload, 1) := by decide +kernel
theorem dX5_clear_24 : decode cX5_clear 24 = .ok (.invokevirtual 52, 3) := by decide +kernel
theorem dX5_clear_27 : decode cX5_clear 27 = .ok (.iload_n 2, 1) := by decide +kernel
theorem dX5_clear_28 : decode cX5_clear 28 = .ok (.ireturn, 1) := by decide +kernel
set_option maxRecDepth 20000 in
theorem ggX5_total_X5_requirePlace : GoodIn wsX5_total wsX5_requirePlace := goodIn_ca (goodIn_r _ [6, 7, 8] (by decide +kernel) (by decide +kernel)) (goodIn_sub (fun _ h => List.mem_cons_of_mem _ (List.mem_append_right _ h)) (by decide +kernel))
set_option maxRecDepth 20000 in
theorem gX5_total_X5_requirePlace : GoodIn wsX5_total (va_wsS RX5 16 yX5_requirePlace wsX5_requirePlace) := goodIn_app (goodIn_of _ (by decide +kernel)) ggX5_total_X5_requirePlace
set_option maxRecDepth 20000 in
theorem ggX5_total_X2_sum : GoodIn wsX5_total wsX2_sum := goodIn_r _ [13, 14, 20] (by decide +kernel) (by decide +kernel)
set_option maxRecDepth 20000 in
theorem gX5_total_X2_sum : GoodIn wsX5_total (wsV RX5 28 RX2 yX2_sum wsX2_sum) := goodIn_app (goodIn_of _ (by decide +kernel)) ggX5_total_X2_sum
theorem dX5_total_0 : decode cX5_total 0 = .ok (.iload_n 1, 1) := by decide +kernel
theorem dX5_total_1 : decode cX5_total 1 = .ok (.iconst 4, 1) := by decide +kernel
theorem dX5_total_2 : decode cX5_total 2 = .ok (.invokestatic 16, 3) := by decide +kernel
theorem dX5_total_5 : decode cX5_total 5 = .ok (.aload_n 0, 1) := by decide +kernel
theorem dX5_total_6 : decode cX5_total 6 = .ok (.getfield 11, 3) := by decide +kernel
theorem dX5_total_9 : decode cX5_total 9 = .ok (.iload_n 1, 1) := by decide +kernel
theorem dX5_total_10 : decode cX5_total 10 = .ok (.aaload, 1) := by decide +kernel
theorem dX5_total_11 : decode cX5_total 11 = .ok (.getfield 24, 3) := by decide +kernel
theorem dX5_total_14 : decode cX5_total 14 = .ok (.invokevirtual 28, 3) := by decide +kernel
theorem dX5_total_17 : decode cX5_total 17 = .ok (.ireturn, 1) := by decide +kernel
set_option maxRecDepth 20000 in
theorem ggX5_count_X5_requirePlace : GoodIn wsX5_count wsX5_requirePlace := goodIn_ca (goodIn_r _ [6, 7, 8] (by decide +kernel) (by decide +kernel)) (goodIn_sub (fun _ h => List.mem_cons_of_mem _ (List.mem_append_right _ h)) (by decide +kernel))
set_option maxRecDepth 20000 in
theorem gX5_count_X5_requirePlace : GoodIn wsX5_count (va_wsS RX5 16 yX5_requirePlace wsX5_requirePlace) := goodIn_app (goodIn_of _ (by decide +kernel)) ggX5_count_X5_requirePlace
set_option maxRecDepth 20000 in
theorem ggX5_count_X2_ofHalf : GoodIn wsX5_count wsX2_ofHalf := goodIn_r _ [13, 14, 20] (by decide +kernel) (by decide +kernel)
set_option maxRecDepth 20000 in
theorem gX5_count_X2_ofHalf : GoodIn wsX5_count (wsV RX5 55 RX2 yX2_ofHalf wsX2_ofHalf) := goodIn_app (goodIn_of _ (by decide +kernel)) ggX5_count_X2_ofHalf
theorem dX5_count_0 : decode cX5_count 0 = .ok (.iload_n 1, 1) := by decide +kernel
theorem dX5_count_1 : decode cX5_count 1 = .ok (.iconst 4, 1) := by decide +kernel
theorem dX5_count_2 : decode cX5_count 2 = .ok (.invokestatic 16, 3) := by decide +kernel
theorem dX5_count_5 : decode cX5_count 5 = .ok (.iload_n 2, 1) := by decide +kernel
theorem dX5_count_6 : decode cX5_count 6 = .ok (.bipush 64, 2) := by decide +kernel
theorem dX5_count_8 : decode cX5_count 8 = .ok (.invokestatic 16, 3) := by decide +kernel
theorem dX5_count_11 : decode cX5_count 11 = .ok (.aload_n 0, 1) := by decide +kernel
theorem dX5_count_12 : decode cX5_count 12 = .ok (.getfield 11, 3) := by decide +kernel
theorem dX5_count_15 : decode cX5_count 15 = .ok (.iload_n 1, 1) := by decide +kernel
theorem dX5_count_16 : decode cX5_count 16 = .ok (.aaload, 1) := by decide +kernel
theorem dX5_count_17 : decode cX5_count 17 = .ok (.getfield 24, 3) := by decide +kernel
theorem dX5_count_20 : decode cX5_count 20 = .ok (.iconst 0, 1) := by decide +kernel
theorem dX5_count_21 : decode cX5_count 21 = .ok (.iload_n 2, 1) := by decide +kernel
theorem dX5_count_22 : decode cX5_count 22 = .ok (.invokevirtual 55, 3) := by decide +kernel
theorem dX5_count_25 : decode cX5_count 25 = .ok (.ireturn, 1) := by decide +kernel
set_option maxRecDepth 20000 in
theorem ggX5_countOfRange_X5_requirePlace : GoodIn wsX5_countOfRange wsX5_requirePlace := goodIn_ca (goodIn_r _ [6, 7, 8] (by decide +kernel) (by decide +kernel)) (goodIn_sub (fun _ h => List.mem_cons_of_mem _ (List.mem_append_left _ (List.mem_append_right _ h))) (by decide +kernel))
set_option maxRecDepth 20000 in
theorem gX5_countOfRange_X5_requirePlace : GoodIn wsX5_countOfRange (va_wsS RX5 16 yX5_requirePlace wsX5_requirePlace) := goodIn_app (goodIn_of _ (by decide +kernel)) ggX5_countOfRange_X5_requirePlace
set_option maxRecDepth 20000 in
theorem ggX5_countOfRange_X5_requireRange : GoodIn wsX5_countOfRange wsX5_requireRange := goodIn_ca (goodIn_ca (goodIn_r _ [11, 12, 13, 3, 4, 5, 6, 7, 8] (by decide +kernel) (by decide +kernel)) (goodIn_sub (fun _ h => List.mem_cons_of_mem _ (List.mem_append_right _ h)) (by decide +kernel))) (goodIn_sub (fun _ h => List.mem_cons_of_mem _ (List.mem_append_left _ (List.mem_append_right _ h))) (by decide +kernel))
set_option maxRecDepth 20000 in
theorem gX5_countOfRange_X5_requireRange : GoodIn wsX5_countOfRange (va_wsS RX5 59 yX5_requireRange wsX5_requireRange) := goodIn_app (goodIn_of _ (by decide +kernel)) ggX5_countOfRange_X5_requireRange
set_option maxRecDepth 20000 in
theorem ggX5_countOfRange_X2_ofItems : GoodIn wsX5_countOfRange wsX2_ofItems := goodIn_r _ [18, 19, 25] (by decide +kernel) (by decide +kernel)
set_option maxRecDepth 20000 in
theorem gX5_countOfRange_X2_ofItems : GoodIn wsX5_countOfRange (wsV RX5 62 RX2 yX2_ofItems wsX2_ofItems) := goodIn_app (goodIn_of _ (by decide +kernel)) ggX5_countOfRange_X2_ofItems
theorem dX5_countOfRange_0 : decode cX5_countOfRange 0 = .ok (.iload_n 1, 1) := by decide +kernel
theorem dX5_countOfRange_1 : decode cX5_countOfRange 1 = .ok (.iconst 4, 1) := by decide +kernel
theorem dX5_countOfRange_2 : decode cX5_countOfRange 2 = .ok (.invokestatic 16, 3) := by decide +kernel
theorem dX5_countOfRange_5 : decode cX5_countOfRange 5 = .ok (.iload_n 2, 1) := by decide +kernel
theorem dX5_countOfRange_6 : decode cX5_countOfRange 6 = .ok (.iload_n 3, 1) := by decide +kernel
theorem dX5_countOfRange_7 : decode cX5_countOfRange 7 = .ok (.invokestatic 59, 3) := by decide +kernel
theorem dX5_countOfRange_10 : decode cX5_countOfRange 10 = .ok (.aload_n 0, 1) := by decide +kernel
theorem dX5_countOfRange_11 : decode cX5_countOfRange 11 = .ok (.getfield 11, 3) := by decide +kernel
theorem dX5_countOfRange_14 : decode cX5_countOfRange 14 = .ok (.iload_n 1, 1) := by decide +kernel
theorem dX5_countOfRange_15 : decode cX5_countOfRange 15 = .ok (.aaload, 1) := by decide +kernel
theorem dX5_countOfRange_16 : decode cX5_countOfRange 16 = .ok (.getfield 24, 3) := by decide +kernel
theorem dX5_countOfRange_19 : decode cX5_countOfRange 19 = .ok (.iload_n 2, 1) := by decide +kernel
theorem dX5_countOfRange_20 : decode cX5_countOfRange 20 = .ok (.iload_n 3, 1) := by decide +kernel
theorem dX5_countOfRange_21 : decode cX5_countOfRange 21 = .ok (.invokevirtual 62, 3) := by decide +kernel
theorem dX5_countOfRange_24 : decode cX5_countOfRange 24 = .ok (.ireturn, 1) := by decide +kernel
set_option maxRecDepth 20000 in
theorem ggX5_product_X5_requirePlace : GoodIn wsX5_product wsX5_requirePlace := goodIn_ca (goodIn_r _ [6, 7, 8] (by decide +kernel) (by decide +kernel)) (goodIn_sub (fun _ h => List.mem_cons_of_mem _ (List.mem_append_right _ h)) (by decide +kernel))
set_option maxRecDepth 20000 in
theorem gX5_product_X5_requirePlace : GoodIn wsX5_product (va_wsS RX5 16 yX5_requirePlace wsX5_requirePlace) := goodIn_app (goodIn_of _ (by decide +kernel)) ggX5_product_X5_requirePlace
set_option maxRecDepth 20000 in
theorem ggX5_product_X2_times : GoodIn wsX5_product wsX2_times := goodIn_r _ [13, 14, 20] (by decide +kernel) (by decide +kernel)
set_option maxRecDepth 20000 in
theorem gX5_product_X2_times : GoodIn wsX5_product (wsV RX5 65 RX2 yX2_times wsX2_times) := goodIn_app (goodIn_of _ (by decide +kernel)) ggX5_product_X2_times
theorem dX5_product_0 : decode cX5_product 0 = .ok (.iload_n 1, 1) := by decide +kernel
theorem dX5_product_1 : decode cX5_product 1 = .ok (.iconst 4, 1) := by decide +kernel
theorem dX5_product_2 : decode cX5_product 2 = .ok (.invokestatic 16, 3) := by decide +kernel
theorem dX5_product_5 : decode cX5_product 5 = .ok (.iload_n 2, 1) := by decide +kernel
theorem dX5_product_6 : decode cX5_product 6 = .ok (.iconst 4, 1) := by decide +kernel
theorem dX5_product_7 : decode cX5_product 7 = .ok (.invokestatic 16, 3) := by decide +kernel
theorem dX5_product_10 : decode cX5_product 10 = .ok (.aload_n 0, 1) := by decide +kernel
theorem dX5_product_11 : decode cX5_product 11 = .ok (.getfield 11, 3) := by decide +kernel
theorem dX5_product_14 : decode cX5_product 14 = .ok (.iload_n 1, 1) := by decide +kernel
theorem dX5_product_15 : decode cX5_product 15 = .ok (.aaload, 1) := by decide +kernel
theorem dX5_product_16 : decode cX5_product 16 = .ok (.getfield 24, 3) := by decide +kernel
theorem dX5_product_19 : decode cX5_product 19 = .ok (.aload_n 0, 1) := by decide +kernel
theorem dX5_product_20 : decode cX5_product 20 = .ok (.getfield 11, 3) := by decide +kernel
theorem dX5_product_23 : decode cX5_product 23 = .ok (.iload_n 2, 1) := by decide +kernel
theorem dX5_product_24 : decode cX5_product 24 = .ok (.aaload, 1) := by decide +kernel
theorem dX5_product_25 : decode cX5_product 25 = .ok (.getfield 24, 3) := by decide +kernel
theorem dX5_product_28 : decode cX5_product 28 = .ok (.invokevirtual 65, 3) := by decide +kernel
theorem dX5_product_31 : decode cX5_product 31 = .ok (.lreturn, 1) := by decide +kernel
set_option maxRecDepth 20000 in
theorem ggX5_column_X5_requirePlace : GoodIn wsX5_column wsX5_requirePlace := goodIn_ca (goodIn_r _ [4, 5, 6] (by decide +kernel) (by decide +kernel)) (goodIn_sub (fun _ h => List.mem_cons_of_mem _ (List.mem_append_right _ h)) (by decide +kernel))
set_option maxRecDepth 20000 in
theorem gX5_column_X5_requirePlace : GoodIn wsX5_column (va_wsS RX5 16 yX5_requirePlace wsX5_requirePlace) := goodIn_app (goodIn_of _ (by decide +kernel)) ggX5_column_X5_requirePlace
set_option maxRecDepth 20000 in
theorem ggX5_column_X0_columnOf : GoodIn wsX5_column wsX0_columnOf := goodIn_r _ [10, 11, 12] (by decide +kernel) (by decide +kernel)
set_option maxRecDepth 20000 in
theorem gX5_column_X0_columnOf : GoodIn wsX5_column (va_wsS RX5 71 yX0_columnOf wsX0_columnOf) := goodIn_app (goodIn_of _ (by decide +kernel)) ggX5_column_X0_columnOf
theorem dX5_column_0 : decode cX5_column 0 = .ok (.iload_n 1, 1) := by decide +kernel
theorem dX5_column_1 : decode cX5_column 1 = .ok (.iconst 3, 1) := by decide +kernel
theorem dX5_column_2 : decode cX5_column 2 = .ok (.invokestatic 16, 3) := by decide +kernel
theorem dX5_column_5 : decode cX5_column 5 = .ok (.iload_n 2, 1) := by decide +kernel
theorem dX5_column_6 : decode cX5_column 6 = .ok (.bipush 64, 2) := by decide +kernel
theorem dX5_column_8 : decode cX5_column 8 = .ok (.invokestatic 16, 3) := by decide +kernel
theorem dX5_column_11 : decode cX5_column 11 = .ok (.iload_n 1, 1) := by decide +kernel
theorem dX5_column_12 : decode cX5_column 12 = .ok (.iload_n 2, 1) := by decide +kernel
theorem dX5_column_13 : decode cX5_column 13 = .ok (.invokestatic 71, 3) := by decide +kernel
theorem dX5_column_16 : decode cX5_column 16 = .ok (.ireturn, 1) := by decide +kernel
set_option maxRecDepth 20000 in
theorem ggX5_cell_X5_requirePlace : GoodIn wsX5_cell wsX5_requirePlace := goodIn_ca (goodIn_r _ [6, 7, 8] (by decide +kernel) (by decide +kernel)) (goodIn_sub (fun _ h => List.mem_cons_of_mem _ (List.mem_append_right _ h)) (by decide +kernel))
set_option maxRecDepth 20000 in
theorem gX5_cell_X5_requirePlace : GoodIn wsX5_cell (va_wsS RX5 16 yX5_requirePlace wsX5_requirePlace) := goodIn_app (goodIn_of _ (by decide +kernel)) ggX5_cell_X5_requirePlace
set_option maxRecDepth 20000 in
theorem ggX5_cell_X0_cellAt : GoodIn wsX5_cell wsX0_cellAt := goodIn_r _ [13, 14, 20] (by decide +kernel) (by decide +kernel)
set_option maxRecDepth 20000 in
theorem gX5_cell_X0_cellAt : GoodIn wsX5_cell (wsV RX5 78 RX0 yX0_cellAt wsX0_cellAt) := goodIn_app (goodIn_of _ (by decide +kernel)) ggX5_cell_X0_cellAt
theorem dX5_cell_0 : decode cX5_cell 0 = .ok (.iload_n 1, 1) := by decide +kernel
theorem dX5_cell_1 : decode cX5_cell 1 = .ok (.iconst 4, 1) := by decide +kernel
theorem dX5_cell_2 : decode cX5_cell 2 = .ok (.invokestatic 16, 3) := by decide +kernel
theorem dX5_cell_5 : decode cX5_cell 5 = .ok (.iload_n 2, 1) := by decide +kernel
theorem dX5_cell_6 : decode cX5_cell 6 = .ok (.iconst 3, 1) := by decide +kernel
theorem dX5_cell_7 : decode cX5_cell 7 = .ok (.invokestatic 16, 3) := by decide +kernel
theorem dX5_cell_10 : decode cX5_cell 10 = .ok (.iload_n 3, 1) := by decide +kernel
theorem dX5_cell_11 : decode cX5_cell 11 = .ok (.iconst 3, 1) := by decide +kernel
theorem dX5_cell_12 : decode cX5_cell 12 = .ok (.invokestatic 16, 3) := by decide +kernel
theorem dX5_cell_15 : decode cX5_cell 15 = .ok (.iload 4, 2) := by decide +kernel
theorem dX5_cell_17 : decode cX5_cell 17 = .ok (.bipush 8, 2) := by decide +kernel
theorem dX5_cell_19 : decode cX5_cell 19 = .ok (.invokestatic 16, 3) := by decide +kernel
theorem dX5_cell_22 : decode cX5_cell 22 = .ok (.aload_n 0, 1) := by decide +kernel
theorem dX5_cell_23 : decode cX5_cell 23 = .ok (.getfield 11, 3) := by decide +kernel
theorem dX5_cell_26 : decode cX5_cell 26 = .ok (.iload_n 1, 1) := by decide +kernel
theorem dX5_cell_27 : decode cX5_cell 27 = .ok (.aaload, 1) := by decide +kernel
theorem dX5_cell_28 : decode cX5_cell 28 = .ok (.getfield 74, 3) := by decide +kernel
theorem dX5_cell_31 : decode cX5_cell 31 = .ok (.iload_n 2, 1) := by decide +kernel
theorem dX5_cell_32 : decode cX5_cell 32 = .ok (.aaload, 1) := by decide +kernel
theorem dX5_cell_33 : decode cX5_cell 33 = .ok (.iload_n 3, 1) := by decide +kernel
theorem dX5_cell_34 : decode cX5_cell 34 = .ok (.iload 4, 2) := by decide +kernel
theorem dX5_cell_36 : decode cX5_cell 36 = .ok (.invokevirtual 78, 3) := by decide +kernel
theorem dX5_cell_39 : decode cX5_cell 39 = .ok (.ireturn, 1) := by decide +kernel
set_option maxRecDepth 20000 in
theorem ggX5_estimate_X5_requirePlace : GoodIn wsX5_estimate wsX5_requirePlace := goodIn_ca (goodIn_r _ [5, 6, 7] (by decide +kernel) (by decide +kernel)) (goodIn_sub (fun _ h => List.mem_cons_of_mem _ (List.mem_append_right _ h)) (by decide +kernel))
set_option maxRecDepth 20000 in
theorem gX5_estimate_X5_requirePlace : GoodIn wsX5_estimate (va_wsS RX5 16 yX5_requirePlace wsX5_requirePlace) := goodIn_app (goodIn_of _ (by decide +kernel)) ggX5_estimate_X5_requirePlace
set_option maxRecDepth 20000 in
theorem ggX5_estimate_X4_estimateOf : GoodIn wsX5_estimate wsX4_estimateOf := goodIn_r _ [12, 13, 14, 15, 16, 17, 18, 19, 20, 21, 22, 23, 24, 25, 26, 27, 28, 29, 30, 31, 32, 33, 34, 35, 36, 37, 38, 40, 41, 42, 43, 44, 45] (by decide +kernel) (by decide +kernel)
set_option maxRecDepth 20000 in
theorem gX5_estimate_X4_estimateOf : GoodIn wsX5_estimate (wsV RX5 81 RX4 yX4_estimateOf wsX4_estimateOf) := goodIn_app (goodIn_of _ (by decide +kernel)) ggX5_estimate_X4_estimateOf
theorem dX5_estimate_0 : decode cX5_estimate 0 = .ok (.iload_n 1, 1) := by decide +kernel
theorem dX5_estimate_1 : decode cX5_estimate 1 = .ok (.iconst 4, 1) := by decide +kernel
theorem dX5_estimate_2 : decode cX5_estimate 2 = .ok (.invokestatic 16, 3) := by decide +kernel
theorem dX5_estimate_5 : decode cX5_estimate 5 = .ok (.iload_n 2, 1) := by decide +kernel
theorem dX5_estimate_6 : decode cX5_estimate 6 = .ok (.bipush 7, 2) := by decide +kernel
theorem dX5_estimate_8 : decode cX5_estimate 8 = .ok (.invokestatic 16, 3) := by decide +kernel
theorem dX5_estimate_11 : decode cX5_estimate 11 = .ok (.iload_n 3, 1) := by decide +kernel
theorem dX5_estimate_12 : decode cX5_estimate 12 = .ok (.bipush 64, 2) := by decide +kernel
theorem dX5_estimate_14 : decode cX5_estimate 14 = .ok (.iload_n 2, 1) := by decide +kernel
theorem dX5_estimate_15 : decode cX5_estimate 15 = .ok (.ishr, 1) := by decide +kernel
theorem dX5_estimate_16 : decode cX5_estimate 16 = .ok (.invokestatic 16, 3) := by decide +kernel
theorem dX5_estimate_19 : decode cX5_estimate 19 = .ok (.aload_n 0, 1) := by decide +kernel
theorem dX5_estimate_20 : decode cX5_estimate 20 = .ok (.getfield 11, 3) := by decide +kernel
theorem dX5_estimate_23 : decode cX5_estimate 23 = .ok (.iload_n 1, 1) := by decide +kernel
theorem dX5_estimate_24 : decode cX5_estimate 24 = .ok (.aaload, 1) := by decide +kernel
theorem dX5_estimate_25 : decode cX5_estimate 25 = .ok (.iload_n 2, 1) := by decide +kernel
theorem dX5_estimate_26 : decode cX5_estimate 26 = .ok (.iload_n 3, 1) := by decide +kernel
theorem dX5_estimate_27 : decode cX5_estimate 27 = .ok (.invokevirtual 81, 3) := by decide +kernel
theorem dX5_estimate_30 : decode cX5_estimate 30 = .ok (.ireturn, 1) := by decide +kernel
set_option maxRecDepth 20000 in
theorem ggX5_share_X5_requirePlace : GoodIn wsX5_share wsX5_requirePlace := goodIn_ca (goodIn_r _ [6, 7, 8] (by decide +kernel) (by decide +kernel)) (goodIn_sub (fun _ h => List.mem_cons_of_mem _ (List.mem_append_right _ h)) (by decide +kernel))
set_option maxRecDepth 20000 in
theorem gX5_share_X5_requirePlace : GoodIn wsX5_share (va_wsS RX5 16 yX5_requirePlace wsX5_requirePlace) := goodIn_app (goodIn_of _ (by decide +kernel)) ggX5_share_X5_requirePlace
set_option maxRecDepth 20000 in
theorem ggX5_share_X2_sum : GoodIn wsX5_share wsX2_sum := goodIn_r _ [13, 14, 49] (by decide +kernel) (by decide +kernel)
set_option maxRecDepth 20000 in
theorem gX5_share_X2_sum : GoodIn wsX5_share (wsV RX5 28 RX2 yX2_sum wsX2_sum) := goodIn_app (goodIn_of _ (by decide +kernel)) ggX5_share_X2_sum
set_option maxRecDepth 20000 in
theorem ggX5_share_X4_estimateOf : GoodIn wsX5_share wsX4_estimateOf := goodIn_r _ [19, 20, 21, 22, 23, 24, 25, 26, 27, 28, 29, 30, 31, 32, 33, 34, 35, 36, 37, 38, 39, 40, 41, 42, 12, 43, 14, 45, 46, 47, 48, 50, 49] (by decide +kernel) (by decide +kernel)
set_option maxRecDepth 20000 in
theorem gX5_share_X4_estimateOf : GoodIn wsX5_share (wsV RX5 81 RX4 yX4_estimateOf wsX4_estimateOf) := goodIn_app (goodIn_of _ (by decide +kernel)) ggX5_share_X4_estimateOf
theorem dX5_share_0 : decode cX5_share 0 = .ok (.iload_n 1, 1) := by decide +kernel
theorem dX5_share_1 : decode cX5_share 1 = .ok (.iconst 4, 1) := by decide +kernel
theorem dX5_share_2 : decode cX5_share 2 = .ok (.invokestatic 16, 3) := by decide +kernel
theorem dX5_share_5 : decode cX5_share 5 = .ok (.iload_n 2, 1) := by decide +kernel
theorem dX5_share_6 : decode cX5_share 6 = .ok (.bipush 64, 2) := by decide +kernel
theorem dX5_share_8 : decode cX5_share 8 = .ok (.invokestatic 16, 3) := by decide +kernel
theorem dX5_share_11 : decode cX5_share 11 = .ok (.aload_n 0, 1) := by decide +kernel
theorem dX5_share_12 : decode cX5_share 12 = .ok (.getfield 11, 3) := by decide +kernel
theorem dX5_share_15 : decode cX5_share 15 = .ok (.iload_n 1, 1) := by decide +kernel
theorem dX5_share_16 : decode cX5_share 16 = .ok (.aaload, 1) := by decide +kernel
theorem dX5_share_17 : decode cX5_share 17 = .ok (.getfield 24, 3) := by decide +kernel
theorem dX5_share_20 : decode cX5_share 20 = .ok (.invokevirtual 28, 3) := by decide +kernel
theorem dX5_share_23 : decode cX5_share 23 = .ok (.istore_n 3, 1) := by decide +kernel
theorem dX5_share_24 : decode cX5_share 24 = .ok (.iload_n 3, 1) := by decide +kernel
theorem dX5_share_25 : decode cX5_share 25 = .ok (.ifCond .ne 5, 3) := by decide +kernel
theorem dX5_share_28 : decode cX5_share 28 = .ok (.dconst 0, 1) := by decide +kernel
theorem dX5_share_29 : decode cX5_share 29 = .ok (.dreturn, 1) := by decide +kernel
theorem dX5_share_30 : decode cX5_share 30 = .ok (.aload_n 0, 1) := by decide +kernel
theorem dX5_share_31 : decode cX5_share 31 = .ok (.getfield 11, 3) := by decide +kernel
theorem dX5_share_34 : decode cX5_share 34 = .ok (.iload_n 1, 1) := by decide +kernel
theorem dX5_share_35 : decode cX5_share 35 = .ok (.aaload, 1) := by decide +kernel
theorem dX5_share_36 : decode cX5_share 36 = .ok (.iconst 0, 1) := by decide +kernel
theorem dX5_share_37 : decode cX5_share 37 = .ok (.iload_n 2, 1) := by decide +kernel
theorem dX5_share_38 : decode cX5_share 38 = .ok (.invokevirtual 81, 3) := by decide +kernel
theorem dX5_share_41 : decode cX5_share 41 = .ok (.i2d, 1) := by decide +kernel
theorem dX5_share_42 : decode cX5_share 42 = .ok (.iload_n 3, 1) := by decide +kernel
theorem dX5_share_43 : decode cX5_share 43 = .ok (.i2d, 1) := by decide +kernel
theorem dX5_share_44 : decode cX5_share 44 = .ok (.ddiv, 1) := by decide +kernel
theorem dX5_share_45 : decode cX5_share 45 = .ok (.dreturn, 1) := by decide +kernel
set_option maxRecDepth 20000 in
theorem ggX5_parts_X5_requireRange : GoodIn wsX5_parts wsX5_requireRange := goodIn_ca (goodIn_ca (goodIn_r _ [4, 5, 6, 7, 8, 3, 9, 10, 11] (by decide +kernel) (by decide +kernel)) (goodIn_sub (fun _ h => List.mem_cons_of_mem _ (List.mem_append_left _ (List.mem_append_right _ h))) (by decide +kernel))) (goodIn_sub (fun _ h => List.mem_cons_of_mem _ (List.mem_append_right _ h)) (by decide +kernel))
set_option maxRecDepth 20000 in
theorem gX5_parts_X5_requireRange : GoodIn wsX5_parts (va_wsS RX5 59 yX5_requireRange wsX5_requireRange) := goodIn_app (goodIn_of _ (by decide +kernel)) ggX5_parts_X5_requireRange
set_option maxRecDepth 20000 in
theorem ggX5_parts_X5_greatestLevel : GoodIn wsX5_parts wsX5_greatestLevel := goodIn_r _ [14, 15, 16, 3, 17] (by decide +kernel) (by decide +kernel)
set_option maxRecDepth 20000 in
theorem gX5_parts_X5_greatestLevel : GoodIn wsX5_parts (va_wsS RX5 84 yX5_greatestLevel wsX5_greatestLevel) := goodIn_app (goodIn_of _ (by decide +kernel)) ggX5_parts_X5_greatestLevel
theorem dX5_parts_0 : decode cX5_parts 0 = .ok (.iload_n 1, 1) := by decide +kernel
theorem dX5_parts_1 : decode cX5_parts 1 = .ok (.iload_n 2, 1) := by decide +kernel
theorem dX5_parts_2 : decode cX5_parts 2 = .ok (.invokestatic 59, 3) := by decide +kernel
theorem dX5_parts_5 : decode cX5_parts 5 = .ok (.iconst 0, 1) := by decide +kernel
theorem dX5_parts_6 : decode cX5_parts 6 = .ok (.istore_n 3, 1) := by decide +kernel
theorem dX5_parts_7 : decode cX5_parts 7 = .ok (.iload_n 1, 1) := by decide +kernel
theorem dX5_parts_8 : decode cX5_parts 8 = .ok (.istore 4, 2) := by decide +kernel
theorem dX5_parts_10 : decode cX5_parts 10 = .ok (.iload 4, 2) := by decide +kernel
theorem dX5_parts_12 : decode cX5_parts 12 = .ok (.iload_n 2, 1) := by decide +kernel
theorem dX5_parts_13 : decode cX5_parts 13 = .ok (.if_icmp .gt 22, 3) := by decide +kernel
theorem dX5_parts_16 : decode cX5_parts 16 = .ok (.iload 4, 2) := by decide +kernel
theorem dX5_parts_18 : decode cX5_parts 18 = .ok (.iconst 1, 1) := by decide +kernel
theorem dX5_parts_19 : decode cX5_parts 19 = .ok (.iload 4, 2) := by decide +kernel
theorem dX5_parts_21 : decode cX5_parts 21 = .ok (.iload_n 2, 1) := by decide +kernel
theorem dX5_parts_22 : decode cX5_parts 22 = .ok (.invokestatic 84, 3) := by decide +kernel
theorem dX5_parts_25 : decode cX5_parts 25 = .ok (.ishl, 1) := by decide +kernel
theorem dX5_parts_26 : decode cX5_parts 26 = .ok (.iadd, 1) := by decide +kernel
theorem dX5_parts_27 : decode cX5_parts 27 = .ok (.istore 4, 2) := by decide +kernel
theorem dX5_parts_29 : decode cX5_parts 29 = .ok (.iinc 3 1, 3) := by decide +kernel
theorem dX5_parts_32 : decode cX5_parts 32 = .ok (.goto (-22), 3) := by decide +kernel
theorem dX5_parts_35 : decode cX5_parts 35 = .ok (.iload_n 3, 1) := by decide +kernel
theorem dX5_parts_36 : decode cX5_parts 36 = .ok (.ireturn, 1) := by decide +kernel
set_option maxRecDepth 20000 in
theorem ggX5_estimateOfRange_X5_requirePlace : GoodIn wsX5_estimateOfRange wsX5_requirePlace := goodIn_ca (goodIn_r _ [5, 6, 7] (by decide +kernel) (by decide +kernel)) (goodIn_sub (fun _ h => List.mem_cons_of_mem _ (List.mem_append_left _ (List.mem_append_right _ h))) (by decide +kernel))
set_option maxRecDepth 20000 in
theorem gX5_estimateOfRange_X5_requirePlace : GoodIn wsX5_estimateOfRange (va_wsS RX5 16 yX5_requirePlace wsX5_requirePlace) := goodIn_app (goodIn_of _ (by decide +kernel)) ggX5_estimateOfRange_X5_requirePlace
set_option maxRecDepth 20000 in
theorem ggX5_estimateOfRange_X5_requireRange : GoodIn wsX5_estimateOfRange wsX5_requireRange := goodIn_ca (goodIn_ca (goodIn_r _ [10, 11, 12, 2, 3, 4, 5, 6, 7] (by decide +kernel) (by decide +kernel)) (goodIn_sub (fun _ h => List.mem_cons_of_mem _ (List.mem_append_right _ h)) (by decide +kernel))) (goodIn_sub (fun _ h => List.mem_cons_of_mem _ (List.mem_append_left _ (List.mem_append_right _ h))) (by decide +kernel))
set_option maxRecDepth 20000 in
theorem gX5_estimateOfRange_X5_requireRange : GoodIn wsX5_estimateOfRange (va_wsS RX5 59 yX5_requireRange wsX5_requireRange) := goodIn_app (goodIn_of _ (by decide +kernel)) ggX5_estimateOfRange_X5_requireRange
set_option maxRecDepth 20000 in
theorem ggX5_estimateOfRange_X5_greatestLevel : GoodIn wsX5_estimateOfRange wsX5_greatestLevel := goodIn_r _ [15, 16, 17, 4, 18] (by decide +kernel) (by decide +kernel)
set_option maxRecDepth 20000 in
theorem gX5_estimateOfRange_X5_greatestLevel : GoodIn wsX5_estimateOfRange (va_wsS RX5 84 yX5_greatestLevel wsX5_greatestLevel) := goodIn_app (goodIn_of _ (by decide +kernel)) ggX5_estimateOfRange_X5_greatestLevel
set_option maxRecDepth 20000 in
theorem ggX5_estimateOfRange_X4_estimateOf : GoodIn wsX5_estimateOfRange wsX4_estimateOf := goodIn_r _ [23, 24, 25, 26, 27, 28, 29, 30, 31, 32, 33, 34, 35, 36, 37, 38, 39, 40, 41, 42, 43, 44, 45, 46, 47, 48, 49, 51, 52, 53, 54, 55, 56] (by decide +kernel) (by decide +kernel)
set_option maxRecDepth 20000 in
theorem gX5_estimateOfRange_X4_estimateOf : GoodIn wsX5_estimateOfRange (wsV RX5 81 RX4 yX4_estimateOf wsX4_estimateOf) := goodIn_app (goodIn_of _ (by decide +kernel)) ggX5_estimateOfRange_X4_estimateOf
theorem dX5_estimateOfRange_0 : decode cX5_estimateOfRange 0 = .ok (.iload_n 1, 1) := by decide +kernel
theorem dX5_estimateOfRange_1 : decode cX5_estimateOfRange 1 = .ok (.iconst 4, 1) := by decide +kernel
theorem dX5_estimateOfRange_2 : decode cX5_estimateOfRange 2 = .ok (.invokestatic 16, 3) := by decide +kernel
theorem dX5_estimateOfRange_5 : decode cX5_estimateOfRange 5 = .ok (.iload_n 2, 1) := by decide +kernel
theorem dX5_estimateOfRange_6 : decode cX5_estimateOfRange 6 = .ok (.iload_n 3, 1) := by decide +kernel
theorem dX5_estimateOfRange_7 : decode cX5_estimateOfRange 7 = .ok (.invokestatic 59, 3) := by decide +kernel
theorem dX5_estimateOfRange_10 : decode cX5_estimateOfRange 10 = .ok (.iconst 0, 1) := by decide +kernel
theorem dX5_estimateOfRange_11 : decode cX5_estimateOfRange 11 = .ok (.istore 4, 2) := by decide +kernel
theorem dX5_estimateOfRange_13 : decode cX5_estimateOfRange 13 = .ok (.iload_n 2, 1) := by decide +kernel
theorem dX5_estimateOfRange_14 : decode cX5_estimateOfRange 14 = .ok (.istore 5, 2) := by decide +kernel
theorem dX5_estimateOfRange_16 : decode cX5_estimateOfRange 16 = .ok (.iload 5, 2) := by decide +kernel
theorem dX5_estimateOfRange_18 : decode cX5_estimateOfRange 18 = .ok (.iload_n 3, 1) := by decide +kernel
theorem dX5_estimateOfRange_19 : decode cX5_estimateOfRange 19 = .ok (.if_icmp .gt 44, 3) := by decide +kernel
theorem dX5_estimateOfRange_22 : decode cX5_estimateOfRange 22 = .ok (.iload 5, 2) := by decide +kernel
theorem dX5_estimateOfRange_24 : decode cX5_estimateOfRange 24 = .ok (.iload_n 3, 1) := by decide +kernel
theorem dX5_estimateOfRange_25 : decode cX5_estimateOfRange 25 = .ok (.invokestatic 84, 3) := by decide +kernel
theorem dX5_estimateOfRange_28 : decode cX5_estimateOfRange 28 = .ok (.istore 6, 2) := by decide +kernel
theorem dX5_estimateOfRange_30 : decode cX5_estimateOfRange 30 = .ok (.iload 4, 2) := by decide +kernel
theorem dX5_estimateOfRange_32 : decode cX5_estimateOfRange 32 = .ok (.aload_n 0, 1) := by decide +kernel
theorem dX5_estimateOfRange_33 : decode cX5_estimateOfRange 33 = .ok (.getfield 11, 3) := by decide +kernel
theorem dX5_estimateOfRange_36 : decode cX5_estimateOfRange 36 = .ok (.iload_n 1, 1) := by decide +kernel
theorem dX5_estimateOfRange_37 : decode cX5_estimateOfRange 37 = .ok (.aaload, 1) := by decide +kernel
theorem dX5_estimateOfRange_38 : decode cX5_estimateOfRange 38 = .ok (.iload 6, 2) := by decide +kernel
theorem dX5_estimateOfRange_40 : decode cX5_estimateOfRange 40 = .ok (.iload 5, 2) := by decide +kernel
theorem dX5_estimateOfRange_42 : decode cX5_estimateOfRange 42 = .ok (.iload 6, 2) := by decide +kernel
theorem dX5_estimateOfRange_44 : decode cX5_estimateOfRange 44 = .ok (.ishr, 1) := by decide +kernel
theorem dX5_estimateOfRange_45 : decode cX5_estimateOfRange 45 = .ok (.invokevirtual 81, 3) := by decide +kernel
theorem dX5_estimateOfRange_48 : decode cX5_estimateOfRange 48 = .ok (.iadd, 1) := by decide +kernel
theorem dX5_estimateOfRange_49 : decode cX5_estimateOfRange 49 = .ok (.istore 4, 2) := by decide +kernel
theorem dX5_estimateOfRange_51 : decode cX5_estimateOfRange 51 = .ok (.iload 5, 2) := by decide +kernel
theorem dX5_estimateOfRange_53 : decode cX5_estimateOfRange 53 = .ok (.iconst 1, 1) := by decide +kernel
theorem dX5_estimateOfRange_54 : decode cX5_estimateOfRange 54 = .ok (.iload 6, 2) := by decide +kernel
theorem dX5_estimateOfRange_56 : decode cX5_estimateOfRange 56 = .ok (.ishl, 1) := by decide +kernel
theorem dX5_estimateOfRange_57 : decode cX5_estimateOfRange 57 = .ok (.iadd, 1) := by decide +kernel
theorem dX5_estimateOfRange_58 : decode cX5_estimateOfRange 58 = .ok (.istore 5, 2) := by decide +kernel
theorem dX5_estimateOfRange_60 : decode cX5_estimateOfRange 60 = .ok (.goto (-44), 3) := by decide +kernel
theorem dX5_estimateOfRange_63 : decode cX5_estimateOfRange 63 = .ok (.iload 4, 2) := by decide +kernel
theorem dX5_estimateOfRange_65 : decode cX5_estimateOfRange 65 = .ok (.ireturn, 1) := by decide +kernel
set_option maxRecDepth 20000 in
theorem ggX5_frequent_X5_requirePlace : GoodIn wsX5_frequent wsX5_requirePlace := goodIn_ca (goodIn_r _ [6, 7, 8] (by decide +kernel) (by decide +kernel)) (goodIn_sub (fun _ h => List.mem_cons_of_mem _ (List.mem_append_left _ (List.mem_append_right _ h))) (by decide +kernel))
set_option maxRecDepth 20000 in
theorem gX5_frequent_X5_requirePlace : GoodIn wsX5_frequent (va_wsS RX5 16 yX5_requirePlace wsX5_requirePlace) := goodIn_app (goodIn_of _ (by decide +kernel)) ggX5_frequent_X5_requirePlace
set_option maxRecDepth 20000 in
theorem ggX5_frequent_X5_requireWithin : GoodIn wsX5_frequent wsX5_requireWithin := goodIn_ca (goodIn_r _ [11, 12, 13] (by decide +kernel) (by decide +kernel)) (goodIn_sub (fun _ h => List.mem_cons_of_mem _ (List.mem_append_right _ h)) (by decide +kernel))
set_option maxRecDepth 20000 in
theorem gX5_frequent_X5_requireWithin : GoodIn wsX5_frequent (va_wsS RX5 20 yX5_requireWithin wsX5_requireWithin) := goodIn_app (goodIn_of _ (by decide +kernel)) ggX5_frequent_X5_requireWithin
set_option maxRecDepth 20000 in
theorem ggX5_frequent_X4_reaches : GoodIn wsX5_frequent wsX4_reaches := goodIn_r _ [18, 19, 20, 21, 17, 22, 23, 24, 25, 26, 27, 28, 29, 30, 31, 32, 33, 34, 35, 36, 37, 38, 39, 40, 41, 42, 43, 44, 45, 46, 47, 48, 50, 51, 52, 53, 54, 55] (by decide +kernel) (by decide +kernel)
set_option maxRecDepth 20000 in
theorem gX5_frequent_X4_reaches : GoodIn wsX5_frequent (wsV RX5 88 RX4 yX4_reaches wsX4_reaches) := goodIn_app (goodIn_of _ (by decide +kernel)) ggX5_frequent_X4_reaches
theorem dX5_frequent_0 : decode cX5_frequent 0 = .ok (.iload_n 1, 1) := by decide +kernel
theorem dX5_frequent_1 : decode cX5_frequent 1 = .ok (.iconst 4, 1) := by decide +kernel
theorem dX5_frequent_2 : decode cX5_frequent 2 = .ok (.invokestatic 16, 3) := by decide +kernel
theorem dX5_frequent_5 : decode cX5_frequent 5 = .ok (.iload_n 2, 1) := by decide +kernel
theorem dX5_frequent_6 : decode cX5_frequent 6 = .ok (.iconst 1, 1) := by decide +kernel
theorem dX5_frequent_7 : decode cX5_frequent 7 = .ok (.ldc 87, 2) := by decide +kernel
theorem dX5_frequent_9 : decode cX5_frequent 9 = .ok (.invokestatic 20, 3) := by decide +kernel
theorem dX5_frequent_12 : decode cX5_frequent 12 = .ok (.iconst 0, 1) := by decide +kernel
theorem dX5_frequent_13 : decode cX5_frequent 13 = .ok (.istore_n 3, 1) := by decide +kernel
theorem dX5_frequent_14 : decode cX5_frequent 14 = .ok (.iconst 0, 1) := by decide +kernel
theorem dX5_frequent_15 : decode cX5_frequent 15 = .ok (.istore 4, 2) := by decide +kernel
theorem dX5_frequent_17 : decode cX5_frequent 17 = .ok (.iload 4, 2) := by decide +kernel
theorem dX5_frequent_19 : decode cX5_frequent 19 = .ok (.bipush 64, 2) := by decide +kernel
theorem dX5_frequent_21 : decode cX5_frequent 21 = .ok (.if_icmp .ge 27, 3) := by decide +kernel
theorem dX5_frequent_24 : decode cX5_frequent 24 = .ok (.aload_n 0, 1) := by decide +kernel
theorem dX5_frequent_25 : decode cX5_frequent 25 = .ok (.getfield 11, 3) := by decide +kernel
theorem dX5_frequent_28 : decode cX5_frequent 28 = .ok (.iload_n 1, 1) := by decide +kernel
theorem dX5_frequent_29 : decode cX5_frequent 29 = .ok (.aaload, 1) := by decide +kernel
theorem dX5_frequent_30 : decode cX5_frequent 30 = .ok (.iload 4, 2) := by decide +kernel
theorem dX5_frequent_32 : decode cX5_frequent 32 = .ok (.iload_n 2, 1) := by decide +kernel
theorem dX5_frequent_33 : decode cX5_frequent 33 = .ok (.invokevirtual 88, 3) := by decide +kernel
theorem dX5_frequent_36 : decode cX5_frequent 36 = .ok (.ifCond .eq 6, 3) := by decide +kernel
theorem dX5_frequent_39 : decode cX5_frequent 39 = .ok (.iinc 3 1, 3) := by decide +kernel
theorem dX5_frequent_42 : decode cX5_frequent 42 = .ok (.iinc 4 1, 3) := by decide +kernel
theorem dX5_frequent_45 : decode cX5_frequent 45 = .ok (.goto (-28), 3) := by decide +kernel
theorem dX5_frequent_48 : decode cX5_frequent 48 = .ok (.iload_n 3, 1) := by decide +kernel
theorem dX5_frequent_49 : decode cX5_frequent 49 = .ok (.ireturn, 1) := by decide +kernel
set_option maxRecDepth 20000 in
theorem ggX5_frequentAt_X5_requirePlace : GoodIn wsX5_frequentAt wsX5_requirePlace := goodIn_ca (goodIn_r _ [8, 9, 10] (by decide +kernel) (by decide +kernel)) (goodIn_sub (fun _ h => List.mem_cons_of_mem _ (List.mem_append_left _ (List.mem_append_right _ h))) (by decide +kernel))
set_option maxRecDepth 20000 in
theorem gX5_frequentAt_X5_requirePlace : GoodIn wsX5_frequentAt (va_wsS RX5 16 yX5_requirePlace wsX5_requirePlace) := goodIn_app (goodIn_of _ (by decide +kernel)) ggX5_frequentAt_X5_requirePlace
set_option maxRecDepth 20000 in
theorem ggX5_frequentAt_X5_requireWithin : GoodIn wsX5_frequentAt wsX5_requireWithin := goodIn_ca (goodIn_r _ [13, 14, 15] (by decide +kernel) (by decide +kernel)) (goodIn_sub (fun _ h => List.mem_cons_of_mem _ (List.mem_append_right _ h)) (by decide +kernel))
set_option maxRecDepth 20000 in
theorem gX5_frequentAt_X5_requireWithin : GoodIn wsX5_frequentAt (va_wsS RX5 20 yX5_requireWithin wsX5_requireWithin) := goodIn_app (goodIn_of _ (by decide +kernel)) ggX5_frequentAt_X5_requireWithin
set_option maxRecDepth 20000 in
theorem ggX5_frequentAt_X4_reaches : GoodIn wsX5_frequentAt wsX4_reaches := goodIn_r _ [20, 21, 22, 23, 19, 24, 25, 26, 27, 28, 29, 30, 31, 32, 33, 34, 35, 36, 37, 38, 39, 40, 41, 42, 43, 44, 45, 46, 47, 48, 49, 50, 52, 53, 54, 55, 56, 57] (by decide +kernel) (by decide +kernel)
set_option maxRecDepth 20000 in
theorem gX5_frequentAt_X4_reaches : GoodIn wsX5_frequentAt (wsV RX5 88 RX4 yX4_reaches wsX4_reaches) := goodIn_app (goodIn_of _ (by decide +kernel)) ggX5_frequentAt_X4_reaches
theorem dX5_frequentAt_0 : decode cX5_frequentAt 0 = .ok (.iload_n 1, 1) := by decide +kernel
theorem dX5_frequentAt_1 : decode cX5_frequentAt 1 = .ok (.iconst 4, 1) := by decide +kernel
theorem dX5_frequentAt_2 : decode cX5_frequentAt 2 = .ok (.invokestatic 16, 3) := by decide +kernel
theorem dX5_frequentAt_5 : decode cX5_frequentAt 5 = .ok (.iload_n 2, 1) := by decide +kernel
theorem dX5_frequentAt_6 : decode cX5_frequentAt 6 = .ok (.iconst 1, 1) := by decide +kernel
theorem dX5_frequentAt_7 : decode cX5_frequentAt 7 = .ok (.ldc 87, 2) := by decide +kernel
theorem dX5_frequentAt_9 : decode cX5_frequentAt 9 = .ok (.invokestatic 20, 3) := by decide +kernel
theorem dX5_frequentAt_12 : decode cX5_frequentAt 12 = .ok (.iconst 0, 1) := by decide +kernel
theorem dX5_frequentAt_13 : decode cX5_frequentAt 13 = .ok (.istore 4, 2) := by decide +kernel
theorem dX5_frequentAt_15 : decode cX5_frequentAt 15 = .ok (.iconst 0, 1) := by decide +kernel
theorem dX5_frequentAt_16 : decode cX5_frequentAt 16 = .ok (.istore 5, 2) := by decide +kernel
theorem dX5_frequentAt_18 : decode cX5_frequentAt 18 = .ok (.iload 5, 2) := by decide +kernel
theorem dX5_frequentAt_20 : decode cX5_frequentAt 20 = .ok (.bipush 64, 2) := by decide +kernel
theorem dX5_frequentAt_22 : decode cX5_frequentAt 22 = .ok (.if_icmp .ge 36, 3) := by decide +kernel
theorem dX5_frequentAt_25 : decode cX5_frequentAt 25 = .ok (.aload_n 0, 1) := by decide +kernel
theorem dX5_frequentAt_26 : decode cX5_frequentAt 26 = .ok (.getfield 11, 3) := by decide +kernel
theorem dX5_frequentAt_29 : decode cX5_frequentAt 29 = .ok (.iload_n 1, 1) := by decide +kernel
theorem dX5_frequentAt_30 : decode cX5_frequentAt 30 = .ok (.aaload, 1) := by decide +kernel
theorem dX5_frequentAt_31 : decode cX5_frequentAt 31 = .ok (.iload 5, 2) := by decide +kernel
theorem dX5_frequentAt_33 : decode cX5_frequentAt 33 = .ok (.iload_n 2, 1) := by decide +kernel
theorem dX5_frequentAt_34 : decode cX5_frequentAt 34 = .ok (.invokevirtual 88, 3) := by decide +kernel
theorem dX5_frequentAt_37 : decode cX5_frequentAt 37 = .ok (.ifCond .eq 15, 3) := by decide +kernel
theorem dX5_frequentAt_40 : decode cX5_frequentAt 40 = .ok (.iload 4, 2) := by decide +kernel
theorem dX5_frequentAt_42 : decode cX5_frequentAt 42 = .ok (.iload_n 3, 1) := by decide +kernel
theorem dX5_frequentAt_43 : decode cX5_frequentAt 43 = .ok (.if_icmp .ne 6, 3) := by decide +kernel
theorem dX5_frequentAt_46 : decode cX5_frequentAt 46 = .ok (.iload 5, 2) := by decide +kernel
theorem dX5_frequentAt_48 : decode cX5_frequentAt 48 = .ok (.ireturn, 1) := by decide +kernel
theorem dX5_frequentAt_49 : decode cX5_frequentAt 49 = .ok (.iinc 4 1, 3) := by decide +kernel
theorem dX5_frequentAt_52 : decode cX5_frequentAt 52 = .ok (.iinc 5 1, 3) := by decide +kernel
theorem dX5_frequentAt_55 : decode cX5_frequentAt 55 = .ok (.goto (-37), 3) := by decide +kernel
theorem dX5_frequentAt_58 : decode cX5_frequentAt 58 = .ok (.new 92, 3) := by decide +kernel
theorem dX5_frequentAt_61 : decode cX5_frequentAt 61 = .ok (.dup, 1) := by decide +kernel
theorem dX5_frequentAt_62 : decode cX5_frequentAt 62 = .ok (.ldc 94, 2) := by decide +kernel
theorem dX5_frequentAt_64 : decode cX5_frequentAt 64 = .ok (.invokespecial 96, 3) := by decide +kernel
theorem dX5_frequentAt_67 : decode cX5_frequentAt 67 = .ok (.athrow, 1) := by decide +kernel
set_option maxRecDepth 20000 in
theorem ggX5_itemOfRank_X5_requirePlace : GoodIn wsX5_itemOfRank wsX5_requirePlace := goodIn_ca (goodIn_r _ [6, 7, 8] (by decide +kernel) (by decide +kernel)) (goodIn_sub (fun _ h => List.mem_cons_of_mem _ (List.mem_append_left _ (List.mem_append_right _ h))) (by decide +kernel))
set_option maxRecDepth 20000 in
theorem gX5_itemOfRank_X5_requirePlace : GoodIn wsX5_itemOfRank (va_wsS RX5 16 yX5_requirePlace wsX5_requirePlace) := goodIn_app (goodIn_of _ (by decide +kernel)) ggX5_itemOfRank_X5_requirePlace
set_option maxRecDepth 20000 in
theorem ggX5_itemOfRank_X2_sum : GoodIn wsX5_itemOfRank wsX2_sum := goodIn_r _ [13, 14, 54] (by decide +kernel) (by decide +kernel)
set_option maxRecDepth 20000 in
theorem gX5_itemOfRank_X2_sum : GoodIn wsX5_itemOfRank (wsV RX5 28 RX2 yX2_sum wsX2_sum) := goodIn_app (goodIn_of _ (by decide +kernel)) ggX5_itemOfRank_X2_sum
set_option maxRecDepth 20000 in
theorem ggX5_itemOfRank_X5_requireWithin : GoodIn wsX5_itemOfRank wsX5_requireWithin := goodIn_ca (goodIn_r _ [17, 18, 19] (by decide +kernel) (by decide +kernel)) (goodIn_sub (fun _ h => List.mem_cons_of_mem _ (List.mem_append_right _ h)) (by decide +kernel))
set_option maxRecDepth 20000 in
theorem gX5_itemOfRank_X5_requireWithin : GoodIn wsX5_itemOfRank (va_wsS RX5 20 yX5_requireWithin wsX5_requireWithin) := goodIn_app (goodIn_of _ (by decide +kernel)) ggX5_itemOfRank_X5_requireWithin
set_option maxRecDepth 20000 in
theorem ggX5_itemOfRank_X4_estimateOf : GoodIn wsX5_itemOfRank wsX4_estimateOf := goodIn_r _ [24, 25, 26, 27, 28, 29, 30, 31, 32, 33, 34, 35, 36, 37, 38, 39, 40, 41, 42, 43, 44, 45, 46, 47, 12, 48, 14, 50, 51, 52, 53, 55, 54] (by decide +kernel) (by decide +kernel)
set_option maxRecDepth 20000 in
theorem gX5_itemOfRank_X4_estimateOf : GoodIn wsX5_itemOfRank (wsV RX5 81 RX4 yX4_estimateOf wsX4_estimateOf) := goodIn_app (goodIn_of _ (by decide +kernel)) ggX5_itemOfRank_X4_estimateOf
theorem dX5_itemOfRank_0 : decode cX5_itemOfRank 0 = .ok (.iload_n 1, 1) := by decide +kernel
theorem dX5_itemOfRank_1 : decode cX5_itemOfRank 1 = .ok (.iconst 4, 1) := by decide +kernel
theorem dX5_itemOfRank_2 : decode cX5_itemOfRank 2 = .ok (.invokestatic 16, 3) := by decide +kernel
theorem dX5_itemOfRank_5 : decode cX5_itemOfRank 5 = .ok (.iload_n 2, 1) := by decide +kernel
theorem dX5_itemOfRank_6 : decode cX5_itemOfRank 6 = .ok (.iconst 1, 1) := by decide +kernel
theorem dX5_itemOfRank_7 : decode cX5_itemOfRank 7 = .ok (.aload_n 0, 1) := by decide +kernel
theorem dX5_itemOfRank_8 : decode cX5_itemOfRank 8 = .ok (.getfield 11, 3) := by decide +kernel
theorem dX5_itemOfRank_11 : decode cX5_itemOfRank 11 = .ok (.iload_n 1, 1) := by decide +kernel
theorem dX5_itemOfRank_12 : decode cX5_itemOfRank 12 = .ok (.aaload, 1) := by decide +kernel
theorem dX5_itemOfRank_13 : decode cX5_itemOfRank 13 = .ok (.getfield 24, 3) := by decide +kernel
theorem dX5_itemOfRank_16 : decode cX5_itemOfRank 16 = .ok (.invokevirtual 28, 3) := by decide +kernel
theorem dX5_itemOfRank_19 : decode cX5_itemOfRank 19 = .ok (.invokestatic 20, 3) := by decide +kernel
theorem dX5_itemOfRank_22 : decode cX5_itemOfRank 22 = .ok (.iload_n 2, 1) := by decide +kernel
theorem dX5_itemOfRank_23 : decode cX5_itemOfRank 23 = .ok (.istore_n 3, 1) := by decide +kernel
theorem dX5_itemOfRank_24 : decode cX5_itemOfRank 24 = .ok (.iconst 0, 1) := by decide +kernel
theorem dX5_itemOfRank_25 : decode cX5_itemOfRank 25 = .ok (.istore 4, 2) := by decide +kernel
theorem dX5_itemOfRank_27 : decode cX5_itemOfRank 27 = .ok (.iconst 5, 1) := by decide +kernel
theorem dX5_itemOfRank_28 : decode cX5_itemOfRank 28 = .ok (.istore 5, 2) := by decide +kernel
theorem dX5_itemOfRank_30 : decode cX5_itemOfRank 30 = .ok (.iload 5, 2) := by decide +kernel
theorem dX5_itemOfRank_32 : decode cX5_itemOfRank 32 = .ok (.ifCond .lt 44, 3) := by decide +kernel
theorem dX5_itemOfRank_35 : decode cX5_itemOfRank 35 = .ok (.iconst 2, 1) := by decide +kernel
theorem dX5_itemOfRank_36 : decode cX5_itemOfRank 36 = .ok (.iload 4, 2) := by decide +kernel
theorem dX5_itemOfRank_38 : decode cX5_itemOfRank 38 = .ok (.imul, 1) := by decide +kernel
theorem dX5_itemOfRank_39 : decode cX5_itemOfRank 39 = .ok (.istore 4, 2) := by decide +kernel
theorem dX5_itemOfRank_41 : decode cX5_itemOfRank 41 = .ok (.aload_n 0, 1) := by decide +kernel
theorem dX5_itemOfRank_42 : decode cX5_itemOfRank 42 = .ok (.getfield 11, 3) := by decide +kernel
theorem dX5_itemOfRank_45 : decode cX5_itemOfRank 45 = .ok (.iload_n 1, 1) := by decide +kernel
theorem dX5_itemOfRank_46 : decode cX5_itemOfRank 46 = .ok (.aaload, 1) := by decide +kernel
theorem dX5_itemOfRank_47 : decode cX5_itemOfRank 47 = .ok (.iload 5, 2) := by decide +kernel
theorem dX5_itemOfRank_49 : decode cX5_itemOfRank 49 = .ok (.iload 4, 2) := by decide +kernel
theorem dX5_itemOfRank_51 : decode cX5_itemOfRank 51 = .ok (.invokevirtual 81, 3) := by decide +kernel
theorem dX5_itemOfRank_54 : decode cX5_itemOfRank 54 = .ok (.istore 6, 2) := by decide +kernel
theorem dX5_itemOfRank_56 : decode cX5_itemOfRank 56 = .ok (.iload_n 3, 1) := by decide +kernel
theorem dX5_itemOfRank_57 : decode cX5_itemOfRank 57 = .ok (.iload 6, 2) := by decide +kernel
theorem dX5_itemOfRank_59 : decode cX5_itemOfRank 59 = .ok (.if_icmp .le 11, 3) := by decide +kernel
theorem dX5_itemOfRank_62 : decode cX5_itemOfRank 62 = .ok (.iload_n 3, 1) := by decide +kernel
theorem dX5_itemOfRank_63 : decode cX5_itemOfRank 63 = .ok (.iload 6, 2) := by decide +kernel
theorem dX5_itemOfRank_65 : decode cX5_itemOfRank 65 = .ok (.isub, 1) := by decide +kernel
theorem dX5_itemOfRank_66 : decode cX5_itemOfRank 66 = .ok (.istore_n 3, 1) := by decide +kernel
theorem dX5_itemOfRank_67 : decode cX5_itemOfRank 67 = .ok (.iinc 4 1, 3) := by decide +kernel
theorem dX5_itemOfRank_70 : decode cX5_itemOfRank 70 = .ok (.iinc 5 (-1), 3) := by decide +kernel
theorem dX5_itemOfRank_73 : decode cX5_itemOfRank 73 = .ok (.goto (-43), 3) := by decide +kernel
theorem dX5_itemOfRank_76 : decode cX5_itemOfRank 76 = .ok (.iload 4, 2) := by decide +kernel
theorem dX5_itemOfRank_78 : decode cX5_itemOfRank 78 = .ok (.ireturn, 1) := by decide +kernel
set_option maxRecDepth 20000 in
theorem ggX5_signedColumn_X5_requirePlace : GoodIn wsX5_signedColumn wsX5_requirePlace := goodIn_ca (goodIn_r _ [4, 5, 6] (by decide +kernel) (by decide +kernel)) (goodIn_sub (fun _ h => List.mem_cons_of_mem _ (List.mem_append_right _ h)) (by decide +kernel))
set_option maxRecDepth 20000 in
theorem gX5_signedColumn_X5_requirePlace : GoodIn wsX5_signedColumn (va_wsS RX5 16 yX5_requirePlace wsX5_requirePlace) := goodIn_app (goodIn_of _ (by decide +kernel)) ggX5_signedColumn_X5_requirePlace
set_option maxRecDepth 20000 in
theorem ggX5_signedColumn_X3_columnOf : GoodIn wsX5_signedColumn wsX3_columnOf := goodIn_r _ [10, 11, 12] (by decide +kernel) (by decide +kernel)
set_option maxRecDepth 20000 in
theorem gX5_signedColumn_X3_columnOf : GoodIn wsX5_signedColumn (va_wsS RX5 99 yX3_columnOf wsX3_columnOf) := goodIn_app (goodIn_of _ (by decide +kernel)) ggX5_signedColumn_X3_columnOf
theorem dX5_signedColumn_0 : decode cX5_signedColumn 0 = .ok (.iload_n 1, 1) := by decide +kernel
theorem dX5_signedColumn_1 : decode cX5_signedColumn 1 = .ok (.iconst 5, 1) := by decide +kernel
theorem dX5_signedColumn_2 : decode cX5_signedColumn 2 = .ok (.invokestatic 16, 3) := by decide +kernel
theorem dX5_signedColumn_5 : decode cX5_signedColumn 5 = .ok (.iload_n 2, 1) := by decide +kernel
theorem dX5_signedColumn_6 : decode cX5_signedColumn 6 = .ok (.bipush 64, 2) := by decide +kernel
theorem dX5_signedColumn_8 : decode cX5_signedColumn 8 = .ok (.invokestatic 16, 3) := by decide +kernel
theorem dX5_signedColumn_11 : decode cX5_signedColumn 11 = .ok (.iload_n 1, 1) := by decide +kernel
theorem dX5_signedColumn_12 : decode cX5_signedColumn 12 = .ok (.iload_n 2, 1) := by decide +kernel
theorem dX5_signedColumn_13 : decode cX5_signedColumn 13 = .ok (.invokestatic 99, 3) := by decide +kernel
theorem dX5_signedColumn_16 : decode cX5_signedColumn 16 = .ok (.ireturn, 1) := by decide +kernel
set_option maxRecDepth 20000 in
theorem ggX5_sign_X5_requirePlace : GoodIn wsX5_sign wsX5_requirePlace := goodIn_ca (goodIn_r _ [4, 5, 6] (by decide +kernel) (by decide +kernel)) (goodIn_sub (fun _ h => List.mem_cons_of_mem _ (List.mem_append_right _ h)) (by decide +kernel))
set_option maxRecDepth 20000 in
theorem gX5_sign_X5_requirePlace : GoodIn wsX5_sign (va_wsS RX5 16 yX5_requirePlace wsX5_requirePlace) := goodIn_app (goodIn_of _ (by decide +kernel)) ggX5_sign_X5_requirePlace
set_option maxRecDepth 20000 in
theorem ggX5_sign_X3_signOf : GoodIn wsX5_sign wsX3_signOf := goodIn_r _ [10, 11, 12] (by decide +kernel) (by decide +kernel)
set_option maxRecDepth 20000 in
theorem gX5_sign_X3_signOf : GoodIn wsX5_sign (va_wsS RX5 100 yX3_signOf wsX3_signOf) := goodIn_app (goodIn_of _ (by decide +kernel)) ggX5_sign_X3_signOf
theorem dX5_sign_0 : decode cX5_sign 0 = .ok (.iload_n 1, 1) := by decide +kernel
theorem dX5_sign_1 : decode cX5_sign 1 = .ok (.iconst 5, 1) := by decide +kernel
theorem dX5_sign_2 : decode cX5_sign 2 = .ok (.invokestatic 16, 3) := by decide +kernel
theorem dX5_sign_5 : decode cX5_sign 5 = .ok (.iload_n 2, 1) := by decide +kernel
theorem dX5_sign_6 : decode cX5_sign 6 = .ok (.bipush 64, 2) := by decide +kernel
theorem dX5_sign_8 : decode cX5_sign 8 = .ok (.invokestatic 16, 3) := by decide +kernel
theorem dX5_sign_11 : decode cX5_sign 11 = .ok (.iload_n 1, 1) := by decide +kernel
theorem dX5_sign_12 : decode cX5_sign 12 = .ok (.iload_n 2, 1) := by decide +kernel
theorem dX5_sign_13 : decode cX5_sign 13 = .ok (.invokestatic 100, 3) := by decide +kernel
theorem dX5_sign_16 : decode cX5_sign 16 = .ok (.ireturn, 1) := by decide +kernel
set_option maxRecDepth 20000 in
theorem ggX5_signedCell_X5_requirePlace : GoodIn wsX5_signedCell wsX5_requirePlace := goodIn_ca (goodIn_r _ [6, 7, 8] (by decide +kernel) (by decide +kernel)) (goodIn_sub (fun _ h => List.mem_cons_of_mem _ (List.mem_append_right _ h)) (by decide +kernel))
set_option maxRecDepth 20000 in
theorem gX5_signedCell_X5_requirePlace : GoodIn wsX5_signedCell (va_wsS RX5 16 yX5_requirePlace wsX5_requirePlace) := goodIn_app (goodIn_of _ (by decide +kernel)) ggX5_signedCell_X5_requirePlace
set_option maxRecDepth 20000 in
theorem ggX5_signedCell_X3_cellAt : GoodIn wsX5_signedCell wsX3_cellAt := goodIn_r _ [13, 14, 20, 21] (by decide +kernel) (by decide +kernel)
set_option maxRecDepth 20000 in
theorem gX5_signedCell_X3_cellAt : GoodIn wsX5_signedCell (wsV RX5 107 RX3 yX3_cellAt wsX3_cellAt) := goodIn_app (goodIn_of _ (by decide +kernel)) ggX5_signedCell_X3_cellAt
theorem dX5_signedCell_0 : decode cX5_signedCell 0 = .ok (.iload_n 1, 1) := by decide +kernel
theorem dX5_signedCell_1 : decode cX5_signedCell 1 = .ok (.iconst 4, 1) := by decide +kernel
theorem dX5_signedCell_2 : decode cX5_signedCell 2 = .ok (.invokestatic 16, 3) := by decide +kernel
theorem dX5_signedCell_5 : decode cX5_signedCell 5 = .ok (.iload_n 2, 1) := by decide +kernel
theorem dX5_signedCell_6 : decode cX5_signedCell 6 = .ok (.iconst 5, 1) := by decide +kernel
theorem dX5_signedCell_7 : decode cX5_signedCell 7 = .ok (.invokestatic 16, 3) := by decide +kernel
theorem dX5_signedCell_10 : decode cX5_signedCell 10 = .ok (.iload_n 3, 1) := by decide +kernel
theorem dX5_signedCell_11 : decode cX5_signedCell 11 = .ok (.bipush 8, 2) := by decide +kernel
theorem dX5_signedCell_13 : decode cX5_signedCell 13 = .ok (.invokestatic 16, 3) := by decide +kernel
theorem dX5_signedCell_16 : decode cX5_signedCell 16 = .ok (.aload_n 0, 1) := by decide +kernel
theorem dX5_signedCell_17 : decode cX5_signedCell 17 = .ok (.getfield 11, 3) := by decide +kernel
theorem dX5_signedCell_20 : decode cX5_signedCell 20 = .ok (.iload_n 1, 1) := by decide +kernel
theorem dX5_signedCell_21 : decode cX5_signedCell 21 = .ok (.aaload, 1) := by decide +kernel
theorem dX5_signedCell_22 : decode cX5_signedCell 22 = .ok (.getfield 103, 3) := by decide +kernel
theorem dX5_signedCell_25 : decode cX5_signedCell 25 = .ok (.iload_n 2, 1) := by decide +kernel
theorem dX5_signedCell_26 : decode cX5_signedCell 26 = .ok (.iload_n 3, 1) := by decide +kernel
theorem dX5_signedCell_27 : decode cX5_signedCell 27 = .ok (.invokevirtual 107, 3) := by decide +kernel
theorem dX5_signedCell_30 : decode cX5_signedCell 30 = .ok (.ireturn, 1) := by decide +kernel
set_option maxRecDepth 20000 in
theorem ggX5_signedProduct_X5_requirePlace : GoodIn wsX5_signedProduct wsX5_requirePlace := goodIn_ca (goodIn_r _ [6, 7, 8] (by decide +kernel) (by decide +kernel)) (goodIn_sub (fun _ h => List.mem_cons_of_mem _ (List.mem_append_right _ h)) (by decide +kernel))
set_option maxRecDepth 20000 in
theorem gX5_signedProduct_X5_requirePlace : GoodIn wsX5_signedProduct (va_wsS RX5 16 yX5_requirePlace wsX5_requirePlace) := goodIn_app (goodIn_of _ (by decide +kernel)) ggX5_signedProduct_X5_requirePlace
set_option maxRecDepth 20000 in
theorem ggX5_signedProduct_X3_middleProduct : GoodIn wsX5_signedProduct wsX3_middleProduct := goodIn_r _ [13, 14, 15, 16, 17, 12, 18, 19, 20, 21, 22, 23, 24, 25, 26, 27, 33, 34] (by decide +kernel) (by decide +kernel)
set_option maxRecDepth 20000 in
theorem gX5_signedProduct_X3_middleProduct : GoodIn wsX5_signedProduct (wsV RX5 112 RX3 yX3_middleProduct wsX3_middleProduct) := goodIn_app (goodIn_of _ (by decide +kernel)) ggX5_signedProduct_X3_middleProduct
theorem dX5_signedProduct_0 : decode cX5_signedProduct 0 = .ok (.iload_n 1, 1) := by decide +kernel
theorem dX5_signedProduct_1 : decode cX5_signedProduct 1 = .ok (.iconst 4, 1) := by decide +kernel
theorem dX5_signedProduct_2 : decode cX5_signedProduct 2 = .ok (.invokestatic 16, 3) := by decide +kernel
theorem dX5_signedProduct_5 : decode cX5_signedProduct 5 = .ok (.iload_n 2, 1) := by decide +kernel
theorem dX5_signedProduct_6 : decode cX5_signedProduct 6 = .ok (.iconst 4, 1) := by decide +kernel
theorem dX5_signedProduct_7 : decode cX5_signedProduct 7 = .ok (.invokestatic 16, 3) := by decide +kernel
theorem dX5_signedProduct_10 : decode cX5_signedProduct 10 = .ok (.aload_n 0, 1) := by decide +kernel
theorem dX5_signedProduct_11 : decode cX5_signedProduct 11 = .ok (.getfield 11, 3) := by decide +kernel
theorem dX5_signedProduct_14 : decode cX5_signedProduct 14 = .ok (.iload_n 1, 1) := by decide +kernel
theorem dX5_signedProduct_15 : decode cX5_signedProduct 15 = .ok (.aaload, 1) := by decide +kernel
theorem dX5_signedProduct_16 : decode cX5_signedProduct 16 = .ok (.getfield 103, 3) := by decide +kernel
theorem dX5_signedProduct_19 : decode cX5_signedProduct 19 = .ok (.aload_n 0, 1) := by decide +kernel
theorem dX5_signedProduct_20 : decode cX5_signedProduct 20 = .ok (.getfield 11, 3) := by decide +kernel
theorem dX5_signedProduct_23 : decode cX5_signedProduct 23 = .ok (.iload_n 2, 1) := by decide +kernel
theorem dX5_signedProduct_24 : decode cX5_signedProduct 24 = .ok (.aaload, 1) := by decide +kernel
theorem dX5_signedProduct_25 : decode cX5_signedProduct 25 = .ok (.getfield 103, 3) := by decide +kernel
theorem dX5_signedProduct_28 : decode cX5_signedProduct 28 = .ok (.invokevirtual 112, 3) := by decide +kernel
theorem dX5_signedProduct_31 : decode cX5_signedProduct 31 = .ok (.lreturn, 1) := by decide +kernel
set_option maxRecDepth 20000 in
theorem ggX5_counters_X5_requirePlace : GoodIn wsX5_counters wsX5_requirePlace := goodIn_ca (goodIn_r _ [6, 7, 8] (by decide +kernel) (by decide +kernel)) (goodIn_sub (fun _ h => List.mem_cons_of_mem _ (List.mem_append_right _ h)) (by decide +kernel))
set_option maxRecDepth 20000 in
theorem gX5_counters_X5_requirePlace : GoodIn wsX5_counters (va_wsS RX5 16 yX5_requirePlace wsX5_requirePlace) := goodIn_app (goodIn_of _ (by decide +kernel)) ggX5_counters_X5_requirePlace
theorem dX5_counters_0 : decode cX5_counters 0 = .ok (.iload_n 1, 1) := by decide +kernel
theorem dX5_counters_1 : decode cX5_counters 1 = .ok (.iconst 4, 1) := by decide +kernel
theorem dX5_counters_2 : decode cX5_counters 2 = .ok (.invokestatic 16, 3) := by decide +kernel
theorem dX5_counters_5 : decode cX5_counters 5 = .ok (.aload_n 0, 1) := by decide +kernel
theorem dX5_counters_6 : decode cX5_counters 6 = .ok (.getfield 11, 3) := by decide +kernel
theorem dX5_counters_9 : decode cX5_counters 9 = .ok (.iload_n 1, 1) := by decide +kernel
theorem dX5_counters_10 : decode cX5_counters 10 = .ok (.aaload, 1) := by decide +kernel
theorem dX5_counters_11 : decode cX5_counters 11 = .ok (.getfield 116, 3) := by decide +kernel
theorem dX5_counters_14 : decode cX5_counters 14 = .ok (.getfield 120, 3) := by decide +kernel
theorem dX5_counters_17 : decode cX5_counters 17 = .ok (.ireturn, 1) := by decide +kernel
set_option maxRecDepth 20000 in
theorem ggX5_counterItem_X5_requirePlace : GoodIn wsX5_counterItem wsX5_requirePlace := goodIn_ca (goodIn_r _ [6, 7, 8] (by decide +kernel) (by decide +kernel)) (goodIn_sub (fun _ h => List.mem_cons_of_mem _ (List.mem_append_right _ h)) (by decide +kernel))
set_option maxRecDepth 20000 in
theorem gX5_counterItem_X5_requirePlace : GoodIn wsX5_counterItem (va_wsS RX5 16 yX5_requirePlace wsX5_requirePlace) := goodIn_app (goodIn_of _ (by decide +kernel)) ggX5_counterItem_X5_requirePlace
theorem dX5_counterItem_0 : decode cX5_counterItem 0 = .ok (.iload_n 1, 1) := by decide +kernel
theorem dX5_counterItem_1 : decode cX5_counterItem 1 = .ok (.iconst 4, 1) := by decide +kernel
theorem dX5_counterItem_2 : decode cX5_counterItem 2 = .ok (.invokestatic 16, 3) := by decide +kernel
theorem dX5_counterItem_5 : decode cX5_counterItem 5 = .ok (.iload_n 2, 1) := by decide +kernel
theorem dX5_counterItem_6 : decode cX5_counterItem 6 = .ok (.aload_n 0, 1) := by decide +kernel
theorem dX5_counterItem_7 : decode cX5_counterItem 7 = .ok (.getfield 11, 3) := by decide +kernel
theorem dX5_counterItem_10 : decode cX5_counterItem 10 = .ok (.iload_n 1, 1) := by decide +kernel
theorem dX5_counterItem_11 : decode cX5_counterItem 11 = .ok (.aaload, 1) := by decide +kernel
theorem dX5_counterItem_12 : decode cX5_counterItem 12 = .ok (.getfield 116, 3) := by decide +kernel
theorem dX5_counterItem_15 : decode cX5_counterItem 15 = .ok (.getfield 120, 3) := by decide +kernel
theorem dX5_counterItem_18 : decode cX5_counterItem 18 = .ok (.invokestatic 16, 3) := by decide +kernel
theorem dX5_counterItem_21 : decode cX5_counterItem 21 = .ok (.aload_n 0, 1) := by decide +kernel
theorem dX5_counterItem_22 : decode cX5_counterItem 22 = .ok (.getfield 11, 3) := by decide +kernel
theorem dX5_counterItem_25 : decode cX5_counterItem 25 = .ok (.iload_n 1, 1) := by decide +kernel
theorem dX5_counterItem_26 : decode cX5_counterItem 26 = .ok (.aaload, 1) := by decide +kernel
theorem dX5_counterItem_27 : decode cX5_counterItem 27 = .ok (.getfield 116, 3) := by decide +kernel
theorem dX5_counterItem_30 : decode cX5_counterItem 30 = .ok (.getfield 126, 3) := by decide +kernel
theorem dX5_counterItem_33 : decode cX5_counterItem 33 = .ok (.iload_n 2, 1) := by decide +kernel
theorem dX5_counterItem_34 : decode cX5_counterItem 34 = .ok (.iaload, 1) := by decide +kernel
theorem dX5_counterItem_35 : decode cX5_counterItem 35 = .ok (.ireturn, 1) := by decide +kernel
set_option maxRecDepth 20000 in
theorem ggX5_counterOf_X5_requirePlace : GoodIn wsX5_counterOf wsX5_requirePlace := goodIn_ca (goodIn_r _ [6, 7, 8] (by decide +kernel) (by decide +kernel)) (goodIn_sub (fun _ h => List.mem_cons_of_mem _ (List.mem_append_right _ h)) (by decide +kernel))
set_option maxRecDepth 20000 in
theorem gX5_counterOf_X5_requirePlace : GoodIn wsX5_counterOf (va_wsS RX5 16 yX5_requirePlace wsX5_requirePlace) := goodIn_app (goodIn_of _ (by decide +kernel)) ggX5_counterOf_X5_requirePlace
set_option maxRecDepth 20000 in
theorem ggX5_counterOf_X1_weightOf : GoodIn wsX5_counterOf wsX1_weightOf := goodIn_r _ [13, 14, 15, 16, 17, 12, 18, 19, 20, 26, 27, 28, 29] (by decide +kernel) (by decide +kernel)
set_option maxRecDepth 20000 in
theorem gX5_counterOf_X1_weightOf : GoodIn wsX5_counterOf (wsV RX5 130 RX1 yX1_weightOf wsX1_weightOf) := goodIn_app (goodIn_of _ (by decide +kernel)) ggX5_counterOf_X1_weightOf
theorem dX5_counterOf_0 : decode cX5_counterOf 0 = .ok (.iload_n 1, 1) := by decide +kernel
theorem dX5_counterOf_1 : decode cX5_counterOf 1 = .ok (.iconst 4, 1) := by decide +kernel
theorem dX5_counterOf_2 : decode cX5_counterOf 2 = .ok (.invokestatic 16, 3) := by decide +kernel
theorem dX5_counterOf_5 : decode cX5_counterOf 5 = .ok (.iload_n 2, 1) := by decide +kernel
theorem dX5_counterOf_6 : decode cX5_counterOf 6 = .ok (.bipush 64, 2) := by decide +kernel
theorem dX5_counterOf_8 : decode cX5_counterOf 8 = .ok (.invokestatic 16, 3) := by decide +kernel
theorem dX5_counterOf_11 : decode cX5_counterOf 11 = .ok (.aload_n 0, 1) := by decide +kernel
theorem dX5_counterOf_12 : decode cX5_counterOf 12 = .ok (.getfield 11, 3) := by decide +kernel
theorem dX5_counterOf_15 : decode cX5_counterOf 15 = .ok (.iload_n 1, 1) := by decide +kernel
theorem dX5_counterOf_16 : decode cX5_counterOf 16 = .ok (.aaload, 1) := by decide +kernel
theorem dX5_counterOf_17 : decode cX5_counterOf 17 = .ok (.getfield 116, 3) := by decide +kernel
theorem dX5_counterOf_20 : decode cX5_counterOf 20 = .ok (.iload_n 2, 1) := by decide +kernel
theorem dX5_counterOf_21 : decode cX5_counterOf 21 = .ok (.invokevirtual 130, 3) := by decide +kernel
theorem dX5_counterOf_24 : decode cX5_counterOf 24 = .ok (.ireturn, 1) := by decide +kernel
set_option maxRecDepth 20000 in
theorem ggX5_taken_X5_requirePlace : GoodIn wsX5_taken wsX5_requirePlace := goodIn_ca (goodIn_r _ [6, 7, 8] (by decide +kernel) (by decide +kernel)) (goodIn_sub (fun _ h => List.mem_cons_of_mem _ (List.mem_append_right _ h)) (by decide +kernel))
set_option maxRecDepth 20000 in
theorem gX5_taken_X5_requirePlace : GoodIn wsX5_taken (va_wsS RX5 16 yX5_requirePlace wsX5_requirePlace) := goodIn_app (goodIn_of _ (by decide +kernel)) ggX5_taken_X5_requirePlace
theorem dX5_taken_0 : decode cX5_taken 0 = .ok (.iload_n 1, 1) := by decide +kernel
theorem dX5_taken_1 : decode cX5_taken 1 = .ok (.iconst 4, 1) := by decide +kernel
theorem dX5_taken_2 : decode cX5_taken 2 = .ok (.invokestatic 16, 3) := by decide +kernel
theorem dX5_taken_5 : decode cX5_taken 5 = .ok (.aload_n 0, 1) := by decide +kernel
theorem dX5_taken_6 : decode cX5_taken 6 = .ok (.getfield 11, 3) := by decide +kernel
theorem dX5_taken_9 : decode cX5_taken 9 = .ok (.iload_n 1, 1) := by decide +kernel
theorem dX5_taken_10 : decode cX5_taken 10 = .ok (.aaload, 1) := by decide +kernel
theorem dX5_taken_11 : decode cX5_taken 11 = .ok (.getfield 116, 3) := by decide +kernel
theorem dX5_taken_14 : decode cX5_taken 14 = .ok (.getfield 133, 3) := by decide +kernel
theorem dX5_taken_17 : decode cX5_taken 17 = .ok (.ireturn, 1) := by decide +kernel
theorem dX5_requirePlace_0 : decode cX5_requirePlace 0 = .ok (.iload_n 0, 1) := by decide +kernel
theorem dX5_requirePlace_1 : decode cX5_requirePlace 1 = .ok (.ifCond .lt 8, 3) := by decide +kernel
theorem dX5_requirePlace_4 : decode cX5_requirePlace 4 = .ok (.iload_n 0, 1) := by decide +kernel
theorem dX5_requirePlace_5 : decode cX5_requirePlace 5 = .ok (.iload_n 1, 1) := by decide +kernel
theorem dX5_requirePlace_6 : decode cX5_requirePlace 6 = .ok (.if_icmp .lt 13, 3) := by decide +kernel
theorem dX5_requirePlace_9 : decode cX5_requirePlace 9 = .ok (.new 136, 3) := by decide +kernel
theorem dX5_requirePlace_12 : decode cX5_requirePlace 12 = .ok (.dup, 1) := by decide +kernel
theorem dX5_requirePlace_13 : decode cX5_requirePlace 13 = .ok (.ldc 138, 2) := by decide +kernel
theorem dX5_requirePlace_15 : decode cX5_requirePlace 15 = .ok (.invokespecial 140, 3) := by decide +kernel
theorem dX5_requirePlace_18 : decode cX5_requirePlace 18 = .ok (.athrow, 1) := by decide +kernel
theorem dX5_requirePlace_19 : decode cX5_requirePlace 19 = .ok (.return_, 1) := by decide +kernel
set_option maxRecDepth 20000 in
theorem ggX5_requireRange_X5_requirePlace : GoodIn wsX5_requireRange wsX5_requirePlace := goodIn_ca (goodIn_r _ [6, 7, 8] (by decide +kernel) (by decide +kernel)) (goodIn_sub (fun _ h => List.mem_cons_of_mem _ (List.mem_append_right _ h)) (by decide +kernel))
set_option maxRecDepth 20000 in
theorem gX5_requireRange_X5_requirePlace : GoodIn wsX5_requireRange (va_wsS RX5 16 yX5_requirePlace wsX5_requirePlace) := goodIn_app (goodIn_of _ (by decide +kernel)) ggX5_requireRange_X5_requirePlace
theorem dX5_requireRange_0 : decode cX5_requireRange 0 = .ok (.iload_n 0, 1) := by decide +kernel
theorem dX5_requireRange_1 : decode cX5_requireRange 1 = .ok (.bipush 64, 2) := by decide +kernel
theorem dX5_requireRange_3 : decode cX5_requireRange 3 = .ok (.invokestatic 16, 3) := by decide +kernel
theorem dX5_requireRange_6 : decode cX5_requireRange 6 = .ok (.iload_n 1, 1) := by decide +kernel
theorem dX5_requireRange_7 : decode cX5_requireRange 7 = .ok (.bipush 64, 2) := by decide +kernel
theorem dX5_requireRange_9 : decode cX5_requireRange 9 = .ok (.invokestatic 16, 3) := by decide +kernel
theorem dX5_requireRange_12 : decode cX5_requireRange 12 = .ok (.iload_n 1, 1) := by decide +kernel
theorem dX5_requireRange_13 : decode cX5_requireRange 13 = .ok (.iload_n 0, 1) := by decide +kernel
theorem dX5_requireRange_14 : decode cX5_requireRange 14 = .ok (.if_icmp .ge 13, 3) := by decide +kernel
theorem dX5_requireRange_17 : decode cX5_requireRange 17 = .ok (.new 41, 3) := by decide +kernel
theorem dX5_requireRange_20 : decode cX5_requireRange 20 = .ok (.dup, 1) := by decide +kernel
theorem dX5_requireRange_21 : decode cX5_requireRange 21 = .ok (.ldc 141, 2) := by decide +kernel
theorem dX5_requireRange_23 : decode cX5_requireRange 23 = .ok (.invokespecial 45, 3) := by decide +kernel
theorem dX5_requireRange_26 : decode cX5_requireRange 26 = .ok (.athrow, 1) := by decide +kernel
theorem dX5_requireRange_27 : decode cX5_requireRange 27 = .ok (.return_, 1) := by decide +kernel
theorem dX5_requireWithin_0 : decode cX5_requireWithin 0 = .ok (.iload_n 0, 1) := by decide +kernel
theorem dX5_requireWithin_1 : decode cX5_requireWithin 1 = .ok (.iload_n 1, 1) := by decide +kernel
theorem dX5_requireWithin_2 : decode cX5_requireWithin 2 = .ok (.if_icmp .lt 8, 3) := by decide +kernel
theorem dX5_requireWithin_5 : decode cX5_requireWithin 5 = .ok (.iload_n 0, 1) := by decide +kernel
theorem dX5_requireWithin_6 : decode cX5_requireWithin 6 = .ok (.iload_n 2, 1) := by decide +kernel
theorem dX5_requireWithin_7 : decode cX5_requireWithin 7 = .ok (.if_icmp .le 13, 3) := by decide +kernel
theorem dX5_requireWithin_10 : decode cX5_requireWithin 10 = .ok (.new 41, 3) := by decide +kernel
theorem dX5_requireWithin_13 : decode cX5_requireWithin 13 = .ok (.dup, 1) := by decide +kernel
theorem dX5_requireWithin_14 : decode cX5_requireWithin 14 = .ok (.ldc 143, 2) := by decide +kernel
theorem dX5_requireWithin_16 : decode cX5_requireWithin 16 = .ok (.invokespecial 45, 3) := by decide +kernel
theorem dX5_requireWithin_19 : decode cX5_requireWithin 19 = .ok (.athrow, 1) := by decide +kernel
theorem dX5_requireWithin_20 : decode cX5_requireWithin 20 = .ok (.return_, 1) := by decide +kernel
theorem dX5_requireRoom_0 : decode cX5_requireRoom 0 = .ok (.iload_n 0, 1) := by decide +kernel
theorem dX5_requireRoom_1 : decode cX5_requireRoom 1 = .ok (.ldc 87, 2) := by decide +kernel
theorem dX5_requireRoom_3 : decode cX5_requireRoom 3 = .ok (.if_icmp .le 13, 3) := by decide +kernel
theorem dX5_requireRoom_6 : decode cX5_requireRoom 6 = .ok (.new 145, 3) := by decide +kernel
theorem dX5_requireRoom_9 : decode cX5_requireRoom 9 = .ok (.dup, 1) := by decide +kernel
theorem dX5_requireRoom_10 : decode cX5_requireRoom 10 = .ok (.ldc 147, 2) := by decide +kernel
theorem dX5_requireRoom_12 : decode cX5_requireRoom 12 = .ok (.invokespecial 149, 3) := by decide +kernel
theorem dX5_requireRoom_15 : decode cX5_requireRoom 15 = .ok (.athrow, 1) := by decide +kernel
theorem dX5_requireRoom_16 : decode cX5_requireRoom 16 = .ok (.return_, 1) := by decide +kernel
set_option maxRecDepth 20000 in
theorem ggX5_greatestLevel_X5_isHalfWithin : GoodIn wsX5_greatestLevel wsX5_isHalfWithin := goodIn_r _ [4] (by decide +kernel) (by decide +kernel)
set_option maxRecDepth 20000 in
theorem gX5_greatestLevel_X5_isHalfWithin : GoodIn wsX5_greatestLevel (va_wsS RX5 150 yX5_isHalfWithin wsX5_isHalfWithin) := goodIn_app (goodIn_of _ (by decide +kernel)) ggX5_greatestLevel_X5_isHalfWithin
theorem dX5_greatestLevel_0 : decode cX5_greatestLevel 0 = .ok (.iconst 0, 1) := by decide +kernel
theorem dX5_greatestLevel_1 : decode cX5_greatestLevel 1 = .ok (.istore_n 2, 1) := by decide +kernel
theorem dX5_greatestLevel_2 : decode cX5_greatestLevel 2 = .ok (.iload_n 2, 1) := by decide +kernel
theorem dX5_greatestLevel_3 : decode cX5_greatestLevel 3 = .ok (.bipush 6, 2) := by decide +kernel
theorem dX5_greatestLevel_5 : decode cX5_greatestLevel 5 = .ok (.if_icmp .ge 20, 3) := by decide +kernel
theorem dX5_greatestLevel_8 : decode cX5_greatestLevel 8 = .ok (.iload_n 2, 1) := by decide +kernel
theorem dX5_greatestLevel_9 : decode cX5_greatestLevel 9 = .ok (.iconst 1, 1) := by decide +kernel
theorem dX5_greatestLevel_10 : decode cX5_greatestLevel 10 = .ok (.iadd, 1) := by decide +kernel
theorem dX5_greatestLevel_11 : decode cX5_greatestLevel 11 = .ok (.iload_n 0, 1) := by decide +kernel
theorem dX5_greatestLevel_12 : decode cX5_greatestLevel 12 = .ok (.iload_n 1, 1) := by decide +kernel
theorem dX5_greatestLevel_13 : decode cX5_greatestLevel 13 = .ok (.invokestatic 150, 3) := by decide +kernel
theorem dX5_greatestLevel_16 : decode cX5_greatestLevel 16 = .ok (.ifCond .eq 9, 3) := by decide +kernel
theorem dX5_greatestLevel_19 : decode cX5_greatestLevel 19 = .ok (.iinc 2 1, 3) := by decide +kernel
theorem dX5_greatestLevel_22 : decode cX5_greatestLevel 22 = .ok (.goto (-20), 3) := by decide +kernel
theorem dX5_greatestLevel_25 : decode cX5_greatestLevel 25 = .ok (.iload_n 2, 1) := by decide +kernel
theorem dX5_greatestLevel_26 : decode cX5_greatestLevel 26 = .ok (.ireturn, 1) := by decide +kernel
theorem dX5_isHalfWithin_0 : decode cX5_isHalfWithin 0 = .ok (.iconst 1, 1) := by decide +kernel
theorem dX5_isHalfWithin_1 : decode cX5_isHalfWithin 1 = .ok (.iload_n 0, 1) := by decide +kernel
theorem dX5_isHalfWithin_2 : decode cX5_isHalfWithin 2 = .ok (.ishl, 1) := by decide +kernel
theorem dX5_isHalfWithin_3 : decode cX5_isHalfWithin 3 = .ok (.istore_n 3, 1) := by decide +kernel
theorem dX5_isHalfWithin_4 : decode cX5_isHalfWithin 4 = .ok (.iload_n 1, 1) := by decide +kernel
theorem dX5_isHalfWithin_5 : decode cX5_isHalfWithin 5 = .ok (.iload_n 3, 1) := by decide +kernel
theorem dX5_isHalfWithin_6 : decode cX5_isHalfWithin 6 = .ok (.iconst 1, 1) := by decide +kernel
theorem dX5_isHalfWithin_7 : decode cX5_isHalfWithin 7 = .ok (.isub, 1) := by decide +kernel
theorem dX5_isHalfWithin_8 : decode cX5_isHalfWithin 8 = .ok (.iand, 1) := by decide +kernel
theorem dX5_isHalfWithin_9 : decode cX5_isHalfWithin 9 = .ok (.ifCond .ne 16, 3) := by decide +kernel
theorem dX5_isHalfWithin_12 : decode cX5_isHalfWithin 12 = .ok (.iload_n 1, 1) := by decide +kernel
theorem dX5_isHalfWithin_13 : decode cX5_isHalfWithin 13 = .ok (.iload_n 3, 1) := by decide +kernel
theorem dX5_isHalfWithin_14 : decode cX5_isHalfWithin 14 = .ok (.iadd, 1) := by decide +kernel
theorem dX5_isHalfWithin_15 : decode cX5_isHalfWithin 15 = .ok (.iconst 1, 1) := by decide +kernel
theorem dX5_isHalfWithin_16 : decode cX5_isHalfWithin 16 = .ok (.isub, 1) := by decide +kernel
theorem dX5_isHalfWithin_17 : decode cX5_isHalfWithin 17 = .ok (.iload_n 2, 1) := by decide +kernel
theorem dX5_isHalfWithin_18 : decode cX5_isHalfWithin 18 = .ok (.if_icmp .gt 7, 3) := by decide +kernel
theorem dX5_isHalfWithin_21 : decode cX5_isHalfWithin 21 = .ok (.iconst 1, 1) := by decide +kernel
theorem dX5_isHalfWithin_22 : decode cX5_isHalfWithin 22 = .ok (.goto 4, 3) := by decide +kernel
theorem dX5_isHalfWithin_25 : decode cX5_isHalfWithin 25 = .ok (.iconst 0, 1) := by decide +kernel
theorem dX5_isHalfWithin_26 : decode cX5_isHalfWithin 26 = .ok (.ireturn, 1) := by decide +kernel
end
section
theorem dJ9_max_7cf53_0 : decode cJ9_max_7cf53 0 = .ok (.iload_n 0, 1) := by decide +kernel
theorem dJ9_max_7cf53_1 : decode cJ9_max_7cf53 1 = .ok (.iload_n 1, 1) := by decide +kernel
theorem dJ9_max_7cf53_2 : decode cJ9_max_7cf53 2 = .ok (.if_icmp .lt 7, 3) := by decide +kernel
theorem dJ9_max_7cf53_5 : decode cJ9_max_7cf53 5 = .ok (.iload_n 0, 1) := by decide +kernel
theorem dJ9_max_7cf53_6 : decode cJ9_max_7cf53 6 = .ok (.goto 4, 3) := by decide +kernel
theorem dJ9_max_7cf53_9 : decode cJ9_max_7cf53 9 = .ok (.iload_n 1, 1) := by decide +kernel
theorem dJ9_max_7cf53_10 : decode cJ9_max_7cf53 10 = .ok (.ireturn, 1) := by decide +kernel
theorem dJ9_min_7cf53_0 : decode cJ9_min_7cf53 0 = .ok (.iload_n 0, 1) := by decide +kernel
theorem dJ9_min_7cf53_1 : decode cJ9_min_7cf53 1 = .ok (.iload_n 1, 1) := by decide +kernel
theorem dJ9_min_7cf53_2 : decode cJ9_min_7cf53 2 = .ok (.if_icmp .gt 7, 3) := by decide +kernel
theorem dJ9_min_7cf53_5 : decode cJ9_min_7cf53 5 = .ok (.iload_n 0, 1) := by decide +kernel
theorem dJ9_min_7cf53_6 : decode cJ9_min_7cf53 6 = .ok (.goto 4, 3) := by decide +kernel
theorem dJ9_min_7cf53_9 : decode cJ9_min_7cf53 9 = .ok (.iload_n 1, 1) := by decide +kernel
theorem dJ9_min_7cf53_10 : decode cJ9_min_7cf53 10 = .ok (.ireturn, 1) := by decide +kernel
theorem dJ7_fill_53178_0 : decode cJ7_fill_53178 0 = .ok (.iconst 0, 1) := by decide +kernel
theorem dJ7_fill_53178_1 : decode cJ7_fill_53178 1 = .ok (.istore_n 2, 1) := by decide +kernel
theorem dJ7_fill_53178_2 : decode cJ7_fill_53178 2 = .ok (.aload_n 0, 1) := by decide +kernel
theorem dJ7_fill_53178_3 : decode cJ7_fill_53178 3 = .ok (.arraylength, 1) := by decide +kernel
theorem dJ7_fill_53178_4 : decode cJ7_fill_53178 4 = .ok (.istore_n 3, 1) := by decide +kernel
theorem dJ7_fill_53178_5 : decode cJ7_fill_53178 5 = .ok (.iload_n 2, 1) := by decide +kernel
theorem dJ7_fill_53178_6 : decode cJ7_fill_53178 6 = .ok (.iload_n 3, 1) := by decide +kernel
theorem dJ7_fill_53178_7 : decode cJ7_fill_53178 7 = .ok (.if_icmp .ge 13, 3) := by decide +kernel
theorem dJ7_fill_53178_10 : decode cJ7_fill_53178 10 = .ok (.aload_n 0, 1) := by decide +kernel
theorem dJ7_fill_53178_11 : decode cJ7_fill_53178 11 = .ok (.iload_n 2, 1) := by decide +kernel
theorem dJ7_fill_53178_12 : decode cJ7_fill_53178 12 = .ok (.iload_n 1, 1) := by decide +kernel
theorem dJ7_fill_53178_13 : decode cJ7_fill_53178 13 = .ok (.iastore, 1) := by decide +kernel
theorem dJ7_fill_53178_14 : decode cJ7_fill_53178 14 = .ok (.iinc 2 1, 3) := by decide +kernel
theorem dJ7_fill_53178_17 : decode cJ7_fill_53178 17 = .ok (.goto (-12), 3) := by decide +kernel
theorem dJ7_fill_53178_20 : decode cJ7_fill_53178 20 = .ok (.return_, 1) := by decide +kernel
end
section
/-! ===== ONE WORLD FOR THE WHOLE SYSTEM: 66 cells at addresses that are variables; every method's contract speaks of all of them ===== -/
abbrev vwCl : List vw_C := [(RX0, TX0, 1), (RX1, TX1, 4), (RX2, TX2, 1), (RX3, TX3, 2), (RX4, TX4, 4), (RX5, TX5, 1)]
abbrev zT : Type := (Nat → Nat → Int32) × (Nat → Nat → Int64) × (Nat → UInt64)
abbrev zG : Type := va_G × (Nat → ClassId) × (Nat → Nat) × Nat × Nat × Nat × (Nat → Int32)
def zad (g : zG) : Nat → Nat := g.2.2.1
def zA (g : zG) : Nat → Prop := fun q => g.2.2.2.1 ≤ q
def zp (j i : Nat) : Nat := 2 + 16 * j + i
def zi (g : zG) (n : Nat) (f : Nat → Int32) : va_E := .inl (g.2.1 0, n, .inl f)
def zl (g : zG) (n : Nat) (f : Nat → Int64) : va_E := .inl (g.2.1 1, n, .inr (.inl f))
def zd (g : zG) (n : Nat) (f : Nat → UInt64) : va_E := .inl (g.2.1 4, n, .inr (.inr (.inr (.inl f))))
def zq (g : zG) (k n : Nat) (f : Nat → Option Nat) : va_E := .inl (g.2.1 k, n, .inr (.inr (.inr (.inr f))))
def zs (g : zG) (j i : Nat) (f : Nat → Int32) (h : Nat → Int64) : va_E :=
  if i = 0 then .inr (4, [.ref (zad g (zp j 1)), .ref (zad g (zp j 3)), .ref (zad g (zp j 10)), .ref (zad g (zp j 13))])
  else if i = 1 then .inr (2, [.ref (zad g (zp j 2))])
  else if i = 2 then zi g 128 f
  else if i = 3 then zq g 3 3 (fun k => some (zad g (zp j (4 + k))))
  else if i < 7 then .inr (0, [.ref (zad g (zp j (i + 3)))])
  else if i < 10 then zi g 24 f
  else if i = 10 then .inr (3, [.ref (zad g (zp j 11)), .ref (zad g (zp j 12))])
  else if i = 11 then zi g 40 f
  else if i = 12 then zl g 5 h
  else if i = 13 then .inr (1, [.ref (zad g (zp j 14)), .ref (zad g (zp j 15)), .int (f 0), .int (f 1)])
  else zi g 8 f
def zc (g : zG) (k : Nat) (f : Nat → Int32) (h : Nat → Int64) (d : Nat → UInt64) : va_E :=
  if 2 ≤ k then zs g ((k - 2) / 16) ((k - 2) % 16) f h
  else if k = 0 then .inr (5, [.ref (zad g 1)])
  else zq g 2 4 (fun j => some (zad g (zp j 0)))
def zw (g : zG) (x : zT) : va_W := (List.range 66).map (fun k => (zad g k, zc g k (x.1 k) (x.2.1 k) x.2.2))
def xi (x : zT) (k : Nat) (f : Nat → Int32) : zT := (fun q => if q = k then f else x.1 q, x.2)
def xl (x : zT) (k : Nat) (h : Nat → Int64) : zT := (x.1, fun q => if q = k then h else x.2.1 q, x.2.2)
def xd (x : zT) (d : Nat → UInt64) : zT := (x.1, x.2.1, d)
theorem zp_eq (j i : Nat) : zp j i = 2 + 16 * j + i := rfl
theorem zp_lt {j i : Nat} (hj : j < 4) (hi : i < 16) : zp j i < 66 := by unfold zp; omega
theorem zp_ne {j i k i' : Nat} (hi : i < 16) (hi' : i' < 16) (h : j ≠ k ∨ i ≠ i') : zp j i ≠ zp k i' := by unfold zp; omega
theorem zp_ge (j i : Nat) : 2 ≤ zp j i := by unfold zp; omega
theorem zc_p {g : zG} {j i : Nat} {f : Nat → Int32} {h : Nat → Int64} {d : Nat → UInt64} (hi : i < 16) : zc g (zp j i) f h d = zs g j i f h := by
  have e1 : (zp j i - 2) / 16 = j := by unfold zp; omega
  have e2 : (zp j i - 2) % 16 = i := by unfold zp; omega
  unfold zc
  rw [if_pos (zp_ge j i), e1, e2]
theorem xi_s (x : zT) (k : Nat) (f : Nat → Int32) : (xi x k f).1 k = f := if_pos rfl
theorem xi_n {x : zT} {k q : Nat} (f : Nat → Int32) (h : q ≠ k) : (xi x k f).1 q = x.1 q := if_neg h
theorem xl_s (x : zT) (k : Nat) (f : Nat → Int64) : (xl x k f).2.1 k = f := if_pos rfl
theorem xl_n {x : zT} {k q : Nat} (f : Nat → Int64) (h : q ≠ k) : (xl x k f).2.1 q = x.2.1 q := if_neg h
theorem xi_xi (x : zT) (k : Nat) (f f' : Nat → Int32) : xi (xi x k f) k f' = xi x k f' := by
  unfold xi
  refine Prod.ext (funext fun q => ?_) rfl
  by_cases h : q = k
  · simp only [h, if_true]
  · simp only [h, if_false]
theorem xi_comm (x : zT) {k k' : Nat} (h : k ≠ k') (f f' : Nat → Int32) : xi (xi x k f) k' f' = xi (xi x k' f') k f := by
  unfold xi
  refine Prod.ext (funext fun q => ?_) rfl
  by_cases h1 : q = k
  · subst h1; simp [h]
  · simp [h1]
theorem xl_xl (x : zT) (k : Nat) (f f' : Nat → Int64) : xl (xl x k f) k f' = xl x k f' := by
  unfold xl
  refine Prod.ext rfl (Prod.ext (funext fun q => ?_) rfl)
  by_cases h : q = k
  · simp only [h, if_true]
  · simp only [h, if_false]
theorem xi_id (x : zT) (k : Nat) : xi x k (x.1 k) = x := by
  unfold xi
  refine Prod.ext (funext fun q => ?_) rfl
  by_cases h : q = k
  · subst h; simp
  · simp [h]
theorem xl_id (x : zT) (k : Nat) : xl x k (x.2.1 k) = x := by
  unfold xl
  refine Prod.ext rfl (Prod.ext (funext fun q => ?_) rfl)
  by_cases h : q = k
  · subst h; simp
  · simp [h]
theorem xl_comm (x : zT) {k k' : Nat} (h : k ≠ k') (f f' : Nat → Int64) : xl (xl x k f) k' f' = xl (xl x k' f') k f := by
  unfold xl
  refine Prod.ext rfl (Prod.ext (funext fun q => ?_) rfl)
  by_cases h1 : q = k
  · subst h1; simp [h]
  · simp [h1]
theorem xil_comm (x : zT) {k k' : Nat} (h : Nat → Int64) (f : Nat → Int32) : xi (xl x k h) k' f = xl (xi x k' f) k h := rfl
theorem xli_comm (x : zT) {k k' : Nat} (h : Nat → Int64) (f : Nat → Int32) : xl (xi x k' f) k h = xi (xl x k h) k' f := rfl
theorem xc_i (x : zT) (k q : Nat) (h : Nat → Int64) : (xl x k h).1 q = x.1 q := rfl
theorem xc_l (x : zT) (k q : Nat) (f : Nat → Int32) : (xi x k f).2.1 q = x.2.1 q := rfl
theorem xi_idf {x : zT} {k : Nat} {f : Nat → Int32} (h : x.1 k = f) : x = xi x k f := by rw [← h, xi_id]
theorem xl_idf {x : zT} {k : Nat} {f : Nat → Int64} (h : x.2.1 k = f) : x = xl x k f := by rw [← h, xl_id]
theorem zw_get {g : zG} {x : zT} {k : Nat} (h : k < 66) : (zw g x)[k]? = some (zad g k, zc g k (x.1 k) (x.2.1 k) x.2.2) := by
  unfold zw
  rw [List.getElem?_map, List.getElem?_range h]
  rfl
theorem zw_out {g : zG} {x : zT} {k : Nat} (h : ¬ k < 66) : (zw g x)[k]? = none := by
  unfold zw
  rw [List.getElem?_map, List.getElem?_eq_none (by rw [List.length_range]; omega)]
  rfl
theorem zw_set {g : zG} {x y : zT} {k : Nat} {e : va_E} (hk : k < 66) (he : zc g k (y.1 k) (y.2.1 k) y.2.2 = e) (ho : ∀ i, i ≠ k → zc g i (y.1 i) (y.2.1 i) y.2.2 = zc g i (x.1 i) (x.2.1 i) x.2.2) : (zw g x).set k (zad g k, e) = zw g y := by
  apply List.ext_getElem?
  intro i
  by_cases hi : i = k
  · subst hi
    rw [List.getElem?_set_self (by have h := zw_get (g := g) (x := x) hk; exact (List.getElem?_eq_some_iff.mp h).1), zw_get hk, he]
  · rw [List.getElem?_set_ne (Ne.symm hi)]
    by_cases h : i < 66
    · rw [zw_get h, zw_get h, ho i hi]
    · rw [zw_out h, zw_out h]
theorem zw_seti {g : zG} {x : zT} {k : Nat} {f : Nat → Int32} {e : va_E} (hk : k < 66) (he : zc g k f (x.2.1 k) x.2.2 = e) : (zw g x).set k (zad g k, e) = zw g (xi x k f) :=
  zw_set hk (by rw [xi_s]; exact he) (fun i hi => by rw [xi_n f hi]; rfl)
theorem zw_setl {g : zG} {x : zT} {k : Nat} {f : Nat → Int64} {e : va_E} (hk : k < 66) (he : zc g k (x.1 k) f x.2.2 = e) : (zw g x).set k (zad g k, e) = zw g (xl x k f) :=
  zw_set hk (by rw [xl_s]; exact he) (fun i hi => by rw [xl_n f hi]; rfl)
/-- the addresses are apart, and new -/
def zOk (g : zG) : Prop := (∀ i j, i < 66 → j < 66 → zad g i = zad g j → i = j) ∧ ∀ i, i < 66 → g.2.2.2.1 ≤ zad g i
theorem zw_D {g : zG} (h : zOk g) (x : zT) : va_D (zA g) (zw g x) := by
  have key : ∀ (k : Nat) (q : Nat × va_E), (zw g x)[k]? = some q → k < 66 ∧ q.1 = zad g k := by
    intro k q hq
    by_cases hk : k < 66
    · rw [zw_get hk] at hq
      cases hq
      exact ⟨hk, rfl⟩
    · rw [zw_out hk] at hq
      cases hq
  refine ⟨fun i j p q hi hj hpq => ?_, fun k q hq => ?_⟩
  · obtain ⟨h1, h2⟩ := key i p hi
    obtain ⟨h3, h4⟩ := key j q hj
    exact h.1 i j h1 h3 (by rw [← h2, ← h4]; exact hpq)
  · obtain ⟨h1, h2⟩ := key k q hq
    show g.2.2.2.1 ≤ q.1
    rw [h2]
    exact h.2 k h1
abbrev zty (g : zG) : List (ClassId × FieldType) := [(g.2.1 0, .int), (g.2.1 1, .long), (g.2.1 2, .object "Countcote$Stream"), (g.2.1 3, .object "Countcote$CarefulSketch")]
/-! what stands beside the world: the class's constant arrays, the law's script -/
def zsa : List (String × String × List Int32) := [("Countcote$CarefulSketch", "FACTORS", [7, 11, 23]), ("Countcote$CarefulSketch", "SHIFTS", [3, 19, 5]), ("Countcote$SignedSketch", "COLUMN_FACTORS", [5, 9, 14, 27, 33]), ("Countcote$SignedSketch", "COLUMN_SHIFTS", [1, 8, 2, 40, 17]), ("Countcote$SignedSketch", "SIGN_FACTORS", [3, 10, 21, 29, 44]), ("Countcote$SignedSketch", "SIGN_SHIFTS", [7, 0, 13, 5, 30])]
def znf : List (Nat × String × String) := [(120, "used", "I"), (126, "items", "[I"), (133, "away", "I")]
def zSt (g : zG) (U : State) : Prop :=
  (∀ q ∈ zsa, ∃ t, va_Z q.1 q.2.1 "[I" (.ref t) (zA g) U U.heap ∧ va_T .int t q.2.2.length (fun j => .int (q.2.2.getD j 0)) (zA g) U U.heap) ∧
  (∀ q ∈ znf, va_Nw (.fieldLinkNest "Countcote" q.1 "Countcote$FewCounters" q.2.1 q.2.2 "Countcote") U) ∧
  va_X g.2.2.2.2.1 g.2.2.2.2.2.1 g.2.2.2.2.2.2 U U.heap ∧ g.2.2.2.2.1 < U.heap.size ∧ ¬ zA g g.2.2.2.2.1
theorem zSt.go {g : zG} {s U : State} {locs : List Loc} (h : zSt g s) (hW : s.WarmedH U.vm) (hS : va_S (zA g) s.heap U.heap locs) : zSt g U := by
  obtain ⟨h1, h2, h3, h4, h5⟩ := h
  have hq : ∀ a : Nat, a < s.heap.size → ¬ zA g a → U.heap[a]? = s.heap[a]? := hS.2.1
  have hvm := hW.alike
  refine ⟨fun q hq9 => ?_, fun q hq9 => va_Nw.warmF hW (h2 q hq9), (va_X.moved hvm h3).kept (hq _ h4 h5), Nat.lt_of_lt_of_le h4 hS.1, h5⟩
  obtain ⟨t, a1, a2⟩ := h1 q hq9
  exact ⟨t, (va_Z.moved hvm a1).kept hq, (va_T.moved hvm a2).kept hq⟩
/-! ===== contracts ===== -/
def zPre (g : zG) (x : zT) (U : State) : Prop := g.2.2.2.1 ≤ U.heap.size ∧ va_P g.1 vwCl (zw g x) U.heap ∧ va_K g.1 vwCl (zty g) U ∧ zSt g U
def zB (g : zG) (u : zT) (t : State) : Prop := va_P g.1 vwCl (zw g u) t.heap
theorem zPre.blind {g : zG} {x : zT} {U : State} {fr : JFrame} {mk : MethodId} {a : Array Value} (h : zPre g x U) : zPre g x (U.calling fr mk a) := by
  obtain ⟨h1, h2, h3, h4⟩ := h
  exact ⟨h1, h2, va_K.moved (u := U) (U := U.calling fr mk a) (Vm.Alike.refl U.vm) h3, h4⟩
/-- what is fixed in a method's body -/
def zC (p : Program) (s : State) (m : MethodId) (args : Array Value) (meth : Method) (c : Code) (g : zG) (cc : ByteArray) (nL : Nat) (own : String) (Ts : List Cond) : Prop :=
  CallFix p m c cc nL s args Ts own ∧ va_K g.1 vwCl (zty g) s ∧ zOk g ∧ g.2.2.2.1 ≤ s.heap.size ∧ zSt g s ∧ meth.locks = false
/-- from the state at pc with locals lv, stack st, world x the run comes to Q -/
def Z (p : Program) (l : Launch) (e : Env) (R : Room) (s : State) (m : MethodId) (args : Array Value) (below : List Frame) (meth : Method) (c : Code) (g : zG) (nL cells slots : Nat) (Q : State → Prop) (x : zT) (pc : Nat) (lv : List (Nat × Value)) (st : List Value) : Prop :=
  ∀ (H : Heap) (locs : List Loc) (ls : Array Slot), va_P g.1 vwCl (zw g x) H → va_S (zA g) s.heap H locs → lv_has ls nL lv → W p l e R s m args below meth c H locs cells slots Q (F0 m pc ls st)
end
section
/-! ===== the kit's rows, said of Z (written by wip/whole/rows.py) ===== -/
theorem zn_eqp {a b : Nat} (ha : a < 2 ^ 31) (hb : b < 2 ^ 31) (h : nI a = nI b) : a = b := (nI_eq ha hb).mp h
theorem zn_eqn {a b : Nat} (ha : a < 2 ^ 31) (hb : b < 2 ^ 31) (h : ¬ (nI a = nI b)) : a ≠ b := fun e => h ((nI_eq ha hb).mpr e)
theorem zn_nep {a b : Nat} (ha : a < 2 ^ 31) (hb : b < 2 ^ 31) (h : ¬ (nI a = nI b)) : a ≠ b := zn_eqn ha hb h
theorem zn_nen {a b : Nat} (ha : a < 2 ^ 31) (hb : b < 2 ^ 31) (h : nI a = nI b) : a = b := zn_eqp ha hb h
theorem zn_ltp {a b : Nat} (ha : a < 2 ^ 31) (hb : b < 2 ^ 31) (h : nI a < nI b) : a < b := (nI_ltI ha hb).mp h
theorem zn_ltn {a b : Nat} (ha : a < 2 ^ 31) (hb : b < 2 ^ 31) (h : ¬ (nI a < nI b)) : b ≤ a := Nat.not_lt.mp fun e => h ((nI_ltI ha hb).mpr e)
theorem zn_gep {a b : Nat} (ha : a < 2 ^ 31) (hb : b < 2 ^ 31) (h : nI b ≤ nI a) : b ≤ a := (nI_leI hb ha).mp h
theorem zn_gen {a b : Nat} (ha : a < 2 ^ 31) (hb : b < 2 ^ 31) (h : ¬ (nI b ≤ nI a)) : a < b := Nat.not_le.mp fun e => h ((nI_leI hb ha).mpr e)
theorem zn_gtp {a b : Nat} (ha : a < 2 ^ 31) (hb : b < 2 ^ 31) (h : nI b < nI a) : b < a := (nI_ltI hb ha).mp h
theorem zn_gtn {a b : Nat} (ha : a < 2 ^ 31) (hb : b < 2 ^ 31) (h : ¬ (nI b < nI a)) : a ≤ b := Nat.not_lt.mp fun e => h ((nI_ltI hb ha).mpr e)
theorem zn_lep {a b : Nat} (ha : a < 2 ^ 31) (hb : b < 2 ^ 31) (h : nI a ≤ nI b) : a ≤ b := (nI_leI ha hb).mp h
theorem zn_len {a b : Nat} (ha : a < 2 ^ 31) (hb : b < 2 ^ 31) (h : ¬ (nI a ≤ nI b)) : b < a := Nat.not_le.mp fun e => h ((nI_leI ha hb).mpr e)
theorem zn_inc (a k : Nat) : nI a + Int32.ofInt (k : Int) = nI (a + k) := by
  rw [show Int32.ofInt (k : Int) = nI k from Int32.ofInt_eq_ofNat]
  exact nI_add a k
theorem zn_dec (a k : Nat) (h : k ≤ a) : nI a + Int32.ofInt (-(k : Int)) = nI (a - k) := by
  rw [Int32.ofInt_neg, show Int32.ofInt (k : Int) = nI k from Int32.ofInt_eq_ofNat, ← Int32.sub_eq_add_neg]
  exact pk_sub h
theorem zn_sub (a b : Nat) {d : Nat} (h : b ≤ a) (e : a - b = d) : nI a - nI b = nI d := by rw [← e]; exact pk_sub h
theorem zn_ne0 (b : Nat) (h0 : 0 < b) (h : b < 2 ^ 31) : ¬ nI b = 0 := nI_ne0 h0 h
theorem zn_sh (k : Nat) (h : k < 32) : (((nI k) &&& 31).toBitVec.smod 32).toNat = k := by
  have h9 : ∀ k : Fin 32, (((nI k.val) &&& 31).toBitVec.smod 32).toNat = k.val := by decide +kernel
  exact h9 ⟨k, h⟩
theorem zn_shl (a k : Nat) (h : k < 32 ∧ a * 2 ^ k < 2 ^ 32) : nI a <<< (nI k &&& 31) = nI (a * 2 ^ k) := pk_shlN _ k (zn_sh k h.1) h.2
theorem zn_shr (a k : Nat) (ha : a < 2 ^ 31) (h : k < 32) : nI a >>> (nI k &&& 31) = nI (a / 2 ^ k) := pk_shrN ha _ k (zn_sh k h)
theorem zn_and (a b : Nat) : nI a &&& nI b = nI (a &&& b) := by
  apply Int32.toBitVec_inj.1
  show BitVec.ofNat 32 a &&& BitVec.ofNat 32 b = BitVec.ofNat 32 (a &&& b)
  apply BitVec.eq_of_getLsbD_eq
  intro i hi
  simp [Nat.testBit_and, hi]
theorem zn_m1 (a : Nat) (h : a < 2 ^ 31) : ¬ nI a = (-1) := fun e => by
  have h1 := nI_toInt h
  rw [e] at h1
  have h2 : ((-1 : Int32)).toInt = -1 := by decide
  omega
theorem zi_0 : (0 : Int32) = nI 0 := rfl
section ZROWS
variable {p : Program} {l : Launch} {e : Env} {R : Room} {s : State} {m : MethodId} {args : Array Value} {below : List Frame} {meth : Method} {c : Code} {g : zG} {nL cells slots : Nat} {Q : State → Prop} {x : zT} {lv : List (Nat × Value)} {st : List Value} {cc : ByteArray} {own : String} {Ts : List Cond}
theorem z_iconst (pc : Nat) (C : zC p s m args meth c g cc nL own Ts) {n : Int} {v : Int32} (hdg : decode cc pc = .ok (.iconst n, 1)) (hv : Int32.ofInt n = v)
    (kk : Z p l e R s m args below meth c g nL cells slots Q x (pc + 1) lv (.int v :: st)) : Z p l e R s m args below meth c g nL cells slots Q x (pc) lv (st) :=
  fun H locs ls hP hS hl => lv_iconst C.1.1 C.1.2.1 hdg hv (kk H locs ls hP hS hl)

theorem z_bipush (pc : Nat) (C : zC p s m args meth c g cc nL own Ts) {n : Int} {v : Int32} (hdg : decode cc pc = .ok (.bipush n, 2)) (hv : (Int8.ofInt n).toInt32 = v)
    (kk : Z p l e R s m args below meth c g nL cells slots Q x (pc + 2) lv (.int v :: st)) : Z p l e R s m args below meth c g nL cells slots Q x (pc) lv (st) :=
  fun H locs ls hP hS hl => lv_bipush C.1.1 C.1.2.1 hdg hv (kk H locs ls hP hS hl)

theorem z_sipush (pc : Nat) (C : zC p s m args meth c g cc nL own Ts) {n : Int} {v : Int32} (hdg : decode cc pc = .ok (.sipush n, 3)) (hv : (Int16.ofInt n).toInt32 = v)
    (kk : Z p l e R s m args below meth c g nL cells slots Q x (pc + 3) lv (.int v :: st)) : Z p l e R s m args below meth c g nL cells slots Q x (pc) lv (st) :=
  fun H locs ls hP hS hl => lv_sipush C.1.1 C.1.2.1 hdg hv (kk H locs ls hP hS hl)

theorem z_lconst (pc : Nat) (C : zC p s m args meth c g cc nL own Ts) {n : Fin 2} {v : Int64} (hdg : decode cc pc = .ok (.lconst n, 1)) (hv : Int64.ofNat (n : Nat) = v)
    (kk : Z p l e R s m args below meth c g nL cells slots Q x (pc + 1) lv (.long v :: st)) : Z p l e R s m args below meth c g nL cells slots Q x (pc) lv (st) :=
  fun H locs ls hP hS hl => lv_lconst C.1.1 C.1.2.1 hdg hv (kk H locs ls hP hS hl)

theorem z_dconst0 (pc : Nat) (C : zC p s m args meth c g cc nL own Ts)  (hdg : decode cc pc = .ok (.dconst 0, 1)) 
    (kk : Z p l e R s m args below meth c g nL cells slots Q x (pc + 1) lv (.double FP.dconst0 :: st)) : Z p l e R s m args below meth c g nL cells slots Q x (pc) lv (st) :=
  fun H locs ls hP hS hl => lv_dconst0 C.1.1 C.1.2.1 hdg  (kk H locs ls hP hS hl)

theorem z_ldc (pc : Nat) (C : zC p s m args meth c g cc nL own Ts) {index : Nat} {v : Int32} (hc : (Cond.constant own index v).before args s = true) (hdg : decode cc pc = .ok (.ldc index, 2))
    (kk : Z p l e R s m args below meth c g nL cells slots Q x (pc + 2) lv (.int v :: st)) : Z p l e R s m args below meth c g nL cells slots Q x (pc) lv (st) :=
  fun H locs ls hP hS hl => lv_ldc C.1.1 C.1.2.1 C.1.2.2.2.1 hc hdg (kk H locs ls hP hS hl)

theorem z_iload_n (pc : Nat) (C : zC p s m args meth c g cc nL own Ts) {k : Fin 4} {i : Nat} {v : Int32} (hdg : decode cc pc = .ok (.iload_n k, 1)) (hi : (k : Nat) = i) (q : Nat) (hq : lv[q]? = some (i, .int v))
    (kk : Z p l e R s m args below meth c g nL cells slots Q x (pc + 1) lv (.int v :: st)) : Z p l e R s m args below meth c g nL cells slots Q x (pc) lv (st) :=
  fun H locs ls hP hS hl => lv_iload_n C.1.1 C.1.2.1 hdg hi (lv_at hl q hq) (kk H locs ls hP hS hl)

theorem z_iload (pc : Nat) (C : zC p s m args meth c g cc nL own Ts) {i : Nat} {v : Int32} (hdg : decode cc pc = .ok (.iload i, 2)) (q : Nat) (hq : lv[q]? = some (i, .int v))
    (kk : Z p l e R s m args below meth c g nL cells slots Q x (pc + 2) lv (.int v :: st)) : Z p l e R s m args below meth c g nL cells slots Q x (pc) lv (st) :=
  fun H locs ls hP hS hl => lv_iload C.1.1 C.1.2.1 hdg (lv_at hl q hq) (kk H locs ls hP hS hl)

theorem z_istore_n (pc : Nat) (C : zC p s m args meth c g cc nL own Ts) {k : Fin 4} {i : Nat} {v : Int32} {lv' : List (Nat × Value)} (hdg : decode cc pc = .ok (.istore_n k, 1)) (hi : (k : Nat) = i) (hn : i < nL) (hl' : (i, Value.int v) :: lv.filter (fun q => !(q.1 == i) && !(q.1 + 1 == i && q.2.category == 2)) = lv')
    (kk : Z p l e R s m args below meth c g nL cells slots Q x (pc + 1) lv' (st)) : Z p l e R s m args below meth c g nL cells slots Q x (pc) lv (.int v :: st) :=
  fun H locs ls hP hS hl => lv_istore_n C.1.1 C.1.2.1 hdg hi hl hn hl' (fun ls' hl9 => kk H locs ls' hP hS hl9)

theorem z_istore (pc : Nat) (C : zC p s m args meth c g cc nL own Ts) {i : Nat} {v : Int32} {lv' : List (Nat × Value)} (hdg : decode cc pc = .ok (.istore i, 2)) (hn : i < nL) (hl' : (i, Value.int v) :: lv.filter (fun q => !(q.1 == i) && !(q.1 + 1 == i && q.2.category == 2)) = lv')
    (kk : Z p l e R s m args below meth c g nL cells slots Q x (pc + 2) lv' (st)) : Z p l e R s m args below meth c g nL cells slots Q x (pc) lv (.int v :: st) :=
  fun H locs ls hP hS hl => lv_istore C.1.1 C.1.2.1 hdg hl hn hl' (fun ls' hl9 => kk H locs ls' hP hS hl9)

theorem z_aload_n (pc : Nat) (C : zC p s m args meth c g cc nL own Ts) {k : Fin 4} {i : Nat} {v : Nat} (hdg : decode cc pc = .ok (.aload_n k, 1)) (hi : (k : Nat) = i) (q : Nat) (hq : lv[q]? = some (i, .ref v))
    (kk : Z p l e R s m args below meth c g nL cells slots Q x (pc + 1) lv (.ref v :: st)) : Z p l e R s m args below meth c g nL cells slots Q x (pc) lv (st) :=
  fun H locs ls hP hS hl => lv_aload_n C.1.1 C.1.2.1 hdg hi (lv_at hl q hq) (kk H locs ls hP hS hl)

theorem z_aload (pc : Nat) (C : zC p s m args meth c g cc nL own Ts) {i : Nat} {v : Nat} (hdg : decode cc pc = .ok (.aload i, 2)) (q : Nat) (hq : lv[q]? = some (i, .ref v))
    (kk : Z p l e R s m args below meth c g nL cells slots Q x (pc + 2) lv (.ref v :: st)) : Z p l e R s m args below meth c g nL cells slots Q x (pc) lv (st) :=
  fun H locs ls hP hS hl => lv_aload C.1.1 C.1.2.1 hdg (lv_at hl q hq) (kk H locs ls hP hS hl)

theorem z_astore_n (pc : Nat) (C : zC p s m args meth c g cc nL own Ts) {k : Fin 4} {i : Nat} {v : Nat} {lv' : List (Nat × Value)} (hdg : decode cc pc = .ok (.astore_n k, 1)) (hi : (k : Nat) = i) (hn : i < nL) (hl' : (i, Value.ref v) :: lv.filter (fun q => !(q.1 == i) && !(q.1 + 1 == i && q.2.category == 2)) = lv')
    (kk : Z p l e R s m args below meth c g nL cells slots Q x (pc + 1) lv' (st)) : Z p l e R s m args below meth c g nL cells slots Q x (pc) lv (.ref v :: st) :=
  fun H locs ls hP hS hl => lv_astore_n C.1.1 C.1.2.1 hdg hi hl hn hl' (fun ls' hl9 => kk H locs ls' hP hS hl9)

theorem z_astore (pc : Nat) (C : zC p s m args meth c g cc nL own Ts) {i : Nat} {v : Nat} {lv' : List (Nat × Value)} (hdg : decode cc pc = .ok (.astore i, 2)) (hn : i < nL) (hl' : (i, Value.ref v) :: lv.filter (fun q => !(q.1 == i) && !(q.1 + 1 == i && q.2.category == 2)) = lv')
    (kk : Z p l e R s m args below meth c g nL cells slots Q x (pc + 2) lv' (st)) : Z p l e R s m args below meth c g nL cells slots Q x (pc) lv (.ref v :: st) :=
  fun H locs ls hP hS hl => lv_astore C.1.1 C.1.2.1 hdg hl hn hl' (fun ls' hl9 => kk H locs ls' hP hS hl9)

theorem z_lload_n (pc : Nat) (C : zC p s m args meth c g cc nL own Ts) {k : Fin 4} {i : Nat} {v : Int64} (hdg : decode cc pc = .ok (.lload_n k, 1)) (hi : (k : Nat) = i) (q : Nat) (hq : lv[q]? = some (i, .long v))
    (kk : Z p l e R s m args below meth c g nL cells slots Q x (pc + 1) lv (.long v :: st)) : Z p l e R s m args below meth c g nL cells slots Q x (pc) lv (st) :=
  fun H locs ls hP hS hl => lv_lload_n C.1.1 C.1.2.1 hdg hi (lv_at hl q hq) (kk H locs ls hP hS hl)

theorem z_lload (pc : Nat) (C : zC p s m args meth c g cc nL own Ts) {i : Nat} {v : Int64} (hdg : decode cc pc = .ok (.lload i, 2)) (q : Nat) (hq : lv[q]? = some (i, .long v))
    (kk : Z p l e R s m args below meth c g nL cells slots Q x (pc + 2) lv (.long v :: st)) : Z p l e R s m args below meth c g nL cells slots Q x (pc) lv (st) :=
  fun H locs ls hP hS hl => lv_lload C.1.1 C.1.2.1 hdg (lv_at hl q hq) (kk H locs ls hP hS hl)

theorem z_lstore_n (pc : Nat) (C : zC p s m args meth c g cc nL own Ts) {k : Fin 4} {i : Nat} {v : Int64} {lv' : List (Nat × Value)} (hdg : decode cc pc = .ok (.lstore_n k, 1)) (hi : (k : Nat) = i) (hn : i + 1 < nL) (hl' : (i, Value.long v) :: lv.filter (fun q => !(q.1 == i) && (!(q.1 == i + 1) && !(q.1 + 1 == i && q.2.category == 2))) = lv')
    (kk : Z p l e R s m args below meth c g nL cells slots Q x (pc + 1) lv' (st)) : Z p l e R s m args below meth c g nL cells slots Q x (pc) lv (.long v :: st) :=
  fun H locs ls hP hS hl => lv_lstore_n C.1.1 C.1.2.1 hdg hi hl hn hl' (fun ls' hl9 => kk H locs ls' hP hS hl9)

theorem z_lstore (pc : Nat) (C : zC p s m args meth c g cc nL own Ts) {i : Nat} {v : Int64} {lv' : List (Nat × Value)} (hdg : decode cc pc = .ok (.lstore i, 2)) (hn : i + 1 < nL) (hl' : (i, Value.long v) :: lv.filter (fun q => !(q.1 == i) && (!(q.1 == i + 1) && !(q.1 + 1 == i && q.2.category == 2))) = lv')
    (kk : Z p l e R s m args below meth c g nL cells slots Q x (pc + 2) lv' (st)) : Z p l e R s m args below meth c g nL cells slots Q x (pc) lv (.long v :: st) :=
  fun H locs ls hP hS hl => lv_lstore C.1.1 C.1.2.1 hdg hl hn hl' (fun ls' hl9 => kk H locs ls' hP hS hl9)

theorem z_dload_n (pc : Nat) (C : zC p s m args meth c g cc nL own Ts) {k : Fin 4} {i : Nat} {v : UInt64} (hdg : decode cc pc = .ok (.dload_n k, 1)) (hi : (k : Nat) = i) (q : Nat) (hq : lv[q]? = some (i, .double v))
    (kk : Z p l e R s m args below meth c g nL cells slots Q x (pc + 1) lv (.double v :: st)) : Z p l e R s m args below meth c g nL cells slots Q x (pc) lv (st) :=
  fun H locs ls hP hS hl => lv_dload_n C.1.1 C.1.2.1 hdg hi (lv_at hl q hq) (kk H locs ls hP hS hl)

theorem z_dload (pc : Nat) (C : zC p s m args meth c g cc nL own Ts) {i : Nat} {v : UInt64} (hdg : decode cc pc = .ok (.dload i, 2)) (q : Nat) (hq : lv[q]? = some (i, .double v))
    (kk : Z p l e R s m args below meth c g nL cells slots Q x (pc + 2) lv (.double v :: st)) : Z p l e R s m args below meth c g nL cells slots Q x (pc) lv (st) :=
  fun H locs ls hP hS hl => lv_dload C.1.1 C.1.2.1 hdg (lv_at hl q hq) (kk H locs ls hP hS hl)

theorem z_dstore_n (pc : Nat) (C : zC p s m args meth c g cc nL own Ts) {k : Fin 4} {i : Nat} {v : UInt64} {lv' : List (Nat × Value)} (hdg : decode cc pc = .ok (.dstore_n k, 1)) (hi : (k : Nat) = i) (hn : i + 1 < nL) (hl' : (i, Value.double v) :: lv.filter (fun q => !(q.1 == i) && (!(q.1 == i + 1) && !(q.1 + 1 == i && q.2.category == 2))) = lv')
    (kk : Z p l e R s m args below meth c g nL cells slots Q x (pc + 1) lv' (st)) : Z p l e R s m args below meth c g nL cells slots Q x (pc) lv (.double v :: st) :=
  fun H locs ls hP hS hl => lv_dstore_n C.1.1 C.1.2.1 hdg hi hl hn hl' (fun ls' hl9 => kk H locs ls' hP hS hl9)

theorem z_dstore (pc : Nat) (C : zC p s m args meth c g cc nL own Ts) {i : Nat} {v : UInt64} {lv' : List (Nat × Value)} (hdg : decode cc pc = .ok (.dstore i, 2)) (hn : i + 1 < nL) (hl' : (i, Value.double v) :: lv.filter (fun q => !(q.1 == i) && (!(q.1 == i + 1) && !(q.1 + 1 == i && q.2.category == 2))) = lv')
    (kk : Z p l e R s m args below meth c g nL cells slots Q x (pc + 2) lv' (st)) : Z p l e R s m args below meth c g nL cells slots Q x (pc) lv (.double v :: st) :=
  fun H locs ls hP hS hl => lv_dstore C.1.1 C.1.2.1 hdg hl hn hl' (fun ls' hl9 => kk H locs ls' hP hS hl9)

theorem z_iinc (pc : Nat) (C : zC p s m args meth c g cc nL own Ts) {i q : Nat} {n : Int} {v v' : Int32} {lv' : List (Nat × Value)} (hdg : decode cc pc = .ok (.iinc i n, 3)) (hq : lv[q]? = some (i, .int v)) (hv : v + Int32.ofInt n = v') (hn : i < nL) (hl' : (i, Value.int v') :: lv.filter (fun q => !(q.1 == i) && !(q.1 + 1 == i && q.2.category == 2)) = lv')
    (kk : Z p l e R s m args below meth c g nL cells slots Q x (pc + 3) lv' (st)) : Z p l e R s m args below meth c g nL cells slots Q x (pc) lv (st) :=
  fun H locs ls hP hS hl => lv_iinc C.1.1 C.1.2.1 hdg hl hq hv hn hl' (fun ls' hl9 => kk H locs ls' hP hS hl9)

theorem z_iadd (pc : Nat) (C : zC p s m args meth c g cc nL own Ts) {a b v : Int32} (hdg : decode cc pc = .ok (.iadd, 1)) (hv : a + b = v)
    (kk : Z p l e R s m args below meth c g nL cells slots Q x (pc + 1) lv (.int v :: st)) : Z p l e R s m args below meth c g nL cells slots Q x (pc) lv (.int b :: .int a :: st) :=
  fun H locs ls hP hS hl => lv_iadd C.1.1 C.1.2.1 hdg (by rw [hv]; exact kk H locs ls hP hS hl)

theorem z_isub (pc : Nat) (C : zC p s m args meth c g cc nL own Ts) {a b v : Int32} (hdg : decode cc pc = .ok (.isub, 1)) (hv : a - b = v)
    (kk : Z p l e R s m args below meth c g nL cells slots Q x (pc + 1) lv (.int v :: st)) : Z p l e R s m args below meth c g nL cells slots Q x (pc) lv (.int b :: .int a :: st) :=
  fun H locs ls hP hS hl => lv_isub C.1.1 C.1.2.1 hdg (by rw [hv]; exact kk H locs ls hP hS hl)

theorem z_imul (pc : Nat) (C : zC p s m args meth c g cc nL own Ts) {a b v : Int32} (hdg : decode cc pc = .ok (.imul, 1)) (hv : a * b = v)
    (kk : Z p l e R s m args below meth c g nL cells slots Q x (pc + 1) lv (.int v :: st)) : Z p l e R s m args below meth c g nL cells slots Q x (pc) lv (.int b :: .int a :: st) :=
  fun H locs ls hP hS hl => lv_imul C.1.1 C.1.2.1 hdg (by rw [hv]; exact kk H locs ls hP hS hl)

theorem z_iand (pc : Nat) (C : zC p s m args meth c g cc nL own Ts) {a b v : Int32} (hdg : decode cc pc = .ok (.iand, 1)) (hv : a &&& b = v)
    (kk : Z p l e R s m args below meth c g nL cells slots Q x (pc + 1) lv (.int v :: st)) : Z p l e R s m args below meth c g nL cells slots Q x (pc) lv (.int b :: .int a :: st) :=
  fun H locs ls hP hS hl => lv_iand C.1.1 C.1.2.1 hdg (by rw [hv]; exact kk H locs ls hP hS hl)

theorem z_ladd (pc : Nat) (C : zC p s m args meth c g cc nL own Ts) {a b v : Int64} (hdg : decode cc pc = .ok (.ladd, 1)) (hv : a + b = v)
    (kk : Z p l e R s m args below meth c g nL cells slots Q x (pc + 1) lv (.long v :: st)) : Z p l e R s m args below meth c g nL cells slots Q x (pc) lv (.long b :: .long a :: st) :=
  fun H locs ls hP hS hl => lv_ladd C.1.1 C.1.2.1 hdg (by rw [hv]; exact kk H locs ls hP hS hl)

theorem z_lmul (pc : Nat) (C : zC p s m args meth c g cc nL own Ts) {a b v : Int64} (hdg : decode cc pc = .ok (.lmul, 1)) (hv : a * b = v)
    (kk : Z p l e R s m args below meth c g nL cells slots Q x (pc + 1) lv (.long v :: st)) : Z p l e R s m args below meth c g nL cells slots Q x (pc) lv (.long b :: .long a :: st) :=
  fun H locs ls hP hS hl => lv_lmul C.1.1 C.1.2.1 hdg (by rw [hv]; exact kk H locs ls hP hS hl)

theorem z_lsub (pc : Nat) (C : zC p s m args meth c g cc nL own Ts) {a b v : Int64} (hdg : decode cc pc = .ok (.lsub, 1)) (hv : a - b = v)
    (kk : Z p l e R s m args below meth c g nL cells slots Q x (pc + 1) lv (.long v :: st)) : Z p l e R s m args below meth c g nL cells slots Q x (pc) lv (.long b :: .long a :: st) :=
  fun H locs ls hP hS hl => lv_lsub C.1.1 C.1.2.1 hdg (by rw [hv]; exact kk H locs ls hP hS hl)

theorem z_idiv (pc : Nat) (C : zC p s m args meth c g cc nL own Ts) {a b v : Int32} (hdg : decode cc pc = .ok (.idiv, 1)) (hne : ¬ b = 0) (hv : a / b = v)
    (kk : Z p l e R s m args below meth c g nL cells slots Q x (pc + 1) lv (.int v :: st)) : Z p l e R s m args below meth c g nL cells slots Q x (pc) lv (.int b :: .int a :: st) :=
  fun H locs ls hP hS hl => lv_idiv C.1.1 C.1.2.1 hdg hne (by rw [hv]; exact kk H locs ls hP hS hl)

theorem z_dcmp (pc : Nat) (C : zC p s m args meth c g cc nL own Ts) {a b : UInt64} {op : CmpOp} {v : Int32} (hdg : decode cc pc = .ok (.dcmp op, 1)) (hv : Op.cmpValue (FP.dcmp a b) op = v)
    (kk : Z p l e R s m args below meth c g nL cells slots Q x (pc + 1) lv (.int v :: st)) : Z p l e R s m args below meth c g nL cells slots Q x (pc) lv (.double b :: .double a :: st) :=
  fun H locs ls hP hS hl => lv_dcmp C.1.1 C.1.2.1 hdg (by rw [hv]; exact kk H locs ls hP hS hl)

theorem z_irem (pc : Nat) (C : zC p s m args meth c g cc nL own Ts) {a b v : Int32} (hdg : decode cc pc = .ok (.irem, 1)) (hne : ¬ b = 0) (hv : a - a / b * b = v)
    (kk : Z p l e R s m args below meth c g nL cells slots Q x (pc + 1) lv (.int v :: st)) : Z p l e R s m args below meth c g nL cells slots Q x (pc) lv (.int b :: .int a :: st) :=
  fun H locs ls hP hS hl => lv_irem C.1.1 C.1.2.1 hdg hne (by rw [hv]; exact kk H locs ls hP hS hl)

theorem z_ishl (pc : Nat) (C : zC p s m args meth c g cc nL own Ts) {a b v : Int32} (hdg : decode cc pc = .ok (.ishl, 1)) (hv : a <<< (b &&& 31) = v)
    (kk : Z p l e R s m args below meth c g nL cells slots Q x (pc + 1) lv (.int v :: st)) : Z p l e R s m args below meth c g nL cells slots Q x (pc) lv (.int b :: .int a :: st) :=
  fun H locs ls hP hS hl => lv_ishl C.1.1 C.1.2.1 hdg (by rw [hv]; exact kk H locs ls hP hS hl)

theorem z_ishr (pc : Nat) (C : zC p s m args meth c g cc nL own Ts) {a b v : Int32} (hdg : decode cc pc = .ok (.ishr, 1)) (hv : a >>> (b &&& 31) = v)
    (kk : Z p l e R s m args below meth c g nL cells slots Q x (pc + 1) lv (.int v :: st)) : Z p l e R s m args below meth c g nL cells slots Q x (pc) lv (.int b :: .int a :: st) :=
  fun H locs ls hP hS hl => lv_ishr C.1.1 C.1.2.1 hdg (by rw [hv]; exact kk H locs ls hP hS hl)

theorem z_i2l (pc : Nat) (C : zC p s m args meth c g cc nL own Ts) {a : Int32} {v : Int64} (hdg : decode cc pc = .ok (.i2l, 1)) (hv : a.toInt64 = v)
    (kk : Z p l e R s m args below meth c g nL cells slots Q x (pc + 1) lv (.long v :: st)) : Z p l e R s m args below meth c g nL cells slots Q x (pc) lv (.int a :: st) :=
  fun H locs ls hP hS hl => lv_i2l C.1.1 C.1.2.1 hdg hv (kk H locs ls hP hS hl)

theorem z_l2i (pc : Nat) (C : zC p s m args meth c g cc nL own Ts) {a : Int64} {v : Int32} (hdg : decode cc pc = .ok (.l2i, 1)) (hv : a.toInt32 = v)
    (kk : Z p l e R s m args below meth c g nL cells slots Q x (pc + 1) lv (.int v :: st)) : Z p l e R s m args below meth c g nL cells slots Q x (pc) lv (.long a :: st) :=
  fun H locs ls hP hS hl => lv_l2i C.1.1 C.1.2.1 hdg hv (kk H locs ls hP hS hl)

theorem z_i2d (pc : Nat) (C : zC p s m args meth c g cc nL own Ts) {a : Int32} (hdg : decode cc pc = .ok (.i2d, 1))
    (kk : Z p l e R s m args below meth c g nL cells slots Q x (pc + 1) lv (.double (FP.i2d a) :: st)) : Z p l e R s m args below meth c g nL cells slots Q x (pc) lv (.int a :: st) :=
  fun H locs ls hP hS hl => lv_i2d C.1.1 C.1.2.1 hdg (kk H locs ls hP hS hl)

theorem z_lcmp (pc : Nat) (C : zC p s m args meth c g cc nL own Ts) {a b : Int64} {v : Int32} (hdg : decode cc pc = .ok (.lcmp, 1)) (hv : lg_cmp a b = v)
    (kk : Z p l e R s m args below meth c g nL cells slots Q x (pc + 1) lv (.int v :: st)) : Z p l e R s m args below meth c g nL cells slots Q x (pc) lv (.long b :: .long a :: st) :=
  fun H locs ls hP hS hl => W.lcmp C.1.1 C.1.2.1 hdg (by rw [hv]; exact kk H locs ls hP hS hl)

theorem z_ddiv (pc : Nat) (C : zC p s m args meth c g cc nL own Ts) {a b : UInt64} (hdg : decode cc pc = .ok (.ddiv, 1)) (hne : vf_n64 (FP.ddiv a b))
    (kk : Z p l e R s m args below meth c g nL cells slots Q x (pc + 1) lv (.double (FP.ddiv a b) :: st)) : Z p l e R s m args below meth c g nL cells slots Q x (pc) lv (.double b :: .double a :: st) :=
  fun H locs ls hP hS hl => lv_ddiv C.1.1 C.1.2.1 hdg hne (kk H locs ls hP hS hl)

theorem z_dup (pc : Nat) (C : zC p s m args meth c g cc nL own Ts) {v : Value} (hdg : decode cc pc = .ok (.dup, 1)) (hv : v.category = 1)
    (kk : Z p l e R s m args below meth c g nL cells slots Q x (pc + 1) lv (v :: v :: st)) : Z p l e R s m args below meth c g nL cells slots Q x (pc) lv (v :: st) :=
  fun H locs ls hP hS hl => lv_dup C.1.1 C.1.2.1 hdg hv (kk H locs ls hP hS hl)

theorem z_dup_x1 (pc : Nat) (C : zC p s m args meth c g cc nL own Ts) {v w : Value} (hdg : decode cc pc = .ok (.dup_x1, 1)) (hv : v.category = 1) (hw : w.category = 1)
    (kk : Z p l e R s m args below meth c g nL cells slots Q x (pc + 1) lv (v :: w :: v :: st)) : Z p l e R s m args below meth c g nL cells slots Q x (pc) lv (v :: w :: st) :=
  fun H locs ls hP hS hl => lv_dup_x1 C.1.1 C.1.2.1 hdg hv hw (kk H locs ls hP hS hl)

theorem z_dup2 (pc : Nat) (C : zC p s m args meth c g cc nL own Ts) {v w : Value} (hdg : decode cc pc = .ok (.dup2, 1)) (hv : v.category = 1) (hw : w.category = 1)
    (kk : Z p l e R s m args below meth c g nL cells slots Q x (pc + 1) lv (v :: w :: v :: w :: st)) : Z p l e R s m args below meth c g nL cells slots Q x (pc) lv (v :: w :: st) :=
  fun H locs ls hP hS hl => lv_dup2_11 C.1.1 C.1.2.1 hdg hv hw (kk H locs ls hP hS hl)

theorem z_icmp_eq (pc : Nat) (C : zC p s m args meth c g cc nL own Ts) {a b : Int32} {off : Int} (tgt : Nat) (hdg : decode cc pc = .ok (.if_icmp .eq off, 3)) (ht : (pc : Int) + off = (tgt : Int))
    (kt : (a = b) → Z p l e R s m args below meth c g nL cells slots Q x (tgt) lv (st)) (kf : ¬ (a = b) → Z p l e R s m args below meth c g nL cells slots Q x (pc + 3) lv (st)) : Z p l e R s m args below meth c g nL cells slots Q x (pc) lv (.int b :: .int a :: st) :=
  fun H locs ls hP hS hl => lv_icmp_eq C.1.1 C.1.2.1 hdg ht (fun h => kt h H locs ls hP hS hl) (fun h => kf h H locs ls hP hS hl)

theorem z_if_eq (pc : Nat) (C : zC p s m args meth c g cc nL own Ts) {a : Int32} {off : Int} (tgt : Nat) (hdg : decode cc pc = .ok (.ifCond .eq off, 3)) (ht : (pc : Int) + off = (tgt : Int))
    (kt : (a = 0) → Z p l e R s m args below meth c g nL cells slots Q x (tgt) lv (st)) (kf : ¬ (a = 0) → Z p l e R s m args below meth c g nL cells slots Q x (pc + 3) lv (st)) : Z p l e R s m args below meth c g nL cells slots Q x (pc) lv (.int a :: st) :=
  fun H locs ls hP hS hl => lv_if_eq C.1.1 C.1.2.1 hdg ht (fun h => kt h H locs ls hP hS hl) (fun h => kf h H locs ls hP hS hl)

theorem z_icmp_ne (pc : Nat) (C : zC p s m args meth c g cc nL own Ts) {a b : Int32} {off : Int} (tgt : Nat) (hdg : decode cc pc = .ok (.if_icmp .ne off, 3)) (ht : (pc : Int) + off = (tgt : Int))
    (kt : (¬ a = b) → Z p l e R s m args below meth c g nL cells slots Q x (tgt) lv (st)) (kf : (a = b) → Z p l e R s m args below meth c g nL cells slots Q x (pc + 3) lv (st)) : Z p l e R s m args below meth c g nL cells slots Q x (pc) lv (.int b :: .int a :: st) :=
  fun H locs ls hP hS hl => lv_icmp_ne C.1.1 C.1.2.1 hdg ht (fun h => kt h H locs ls hP hS hl) (fun h => kf h H locs ls hP hS hl)

theorem z_if_ne (pc : Nat) (C : zC p s m args meth c g cc nL own Ts) {a : Int32} {off : Int} (tgt : Nat) (hdg : decode cc pc = .ok (.ifCond .ne off, 3)) (ht : (pc : Int) + off = (tgt : Int))
    (kt : (¬ a = 0) → Z p l e R s m args below meth c g nL cells slots Q x (tgt) lv (st)) (kf : (a = 0) → Z p l e R s m args below meth c g nL cells slots Q x (pc + 3) lv (st)) : Z p l e R s m args below meth c g nL cells slots Q x (pc) lv (.int a :: st) :=
  fun H locs ls hP hS hl => lv_if_ne C.1.1 C.1.2.1 hdg ht (fun h => kt h H locs ls hP hS hl) (fun h => kf h H locs ls hP hS hl)

theorem z_icmp_lt (pc : Nat) (C : zC p s m args meth c g cc nL own Ts) {a b : Int32} {off : Int} (tgt : Nat) (hdg : decode cc pc = .ok (.if_icmp .lt off, 3)) (ht : (pc : Int) + off = (tgt : Int))
    (kt : (a < b) → Z p l e R s m args below meth c g nL cells slots Q x (tgt) lv (st)) (kf : ¬ (a < b) → Z p l e R s m args below meth c g nL cells slots Q x (pc + 3) lv (st)) : Z p l e R s m args below meth c g nL cells slots Q x (pc) lv (.int b :: .int a :: st) :=
  fun H locs ls hP hS hl => lv_icmp_lt C.1.1 C.1.2.1 hdg ht (fun h => kt h H locs ls hP hS hl) (fun h => kf h H locs ls hP hS hl)

theorem z_if_lt (pc : Nat) (C : zC p s m args meth c g cc nL own Ts) {a : Int32} {off : Int} (tgt : Nat) (hdg : decode cc pc = .ok (.ifCond .lt off, 3)) (ht : (pc : Int) + off = (tgt : Int))
    (kt : (a < 0) → Z p l e R s m args below meth c g nL cells slots Q x (tgt) lv (st)) (kf : ¬ (a < 0) → Z p l e R s m args below meth c g nL cells slots Q x (pc + 3) lv (st)) : Z p l e R s m args below meth c g nL cells slots Q x (pc) lv (.int a :: st) :=
  fun H locs ls hP hS hl => lv_if_lt C.1.1 C.1.2.1 hdg ht (fun h => kt h H locs ls hP hS hl) (fun h => kf h H locs ls hP hS hl)

theorem z_icmp_ge (pc : Nat) (C : zC p s m args meth c g cc nL own Ts) {a b : Int32} {off : Int} (tgt : Nat) (hdg : decode cc pc = .ok (.if_icmp .ge off, 3)) (ht : (pc : Int) + off = (tgt : Int))
    (kt : (b ≤ a) → Z p l e R s m args below meth c g nL cells slots Q x (tgt) lv (st)) (kf : ¬ (b ≤ a) → Z p l e R s m args below meth c g nL cells slots Q x (pc + 3) lv (st)) : Z p l e R s m args below meth c g nL cells slots Q x (pc) lv (.int b :: .int a :: st) :=
  fun H locs ls hP hS hl => lv_icmp_ge C.1.1 C.1.2.1 hdg ht (fun h => kt h H locs ls hP hS hl) (fun h => kf h H locs ls hP hS hl)

theorem z_if_ge (pc : Nat) (C : zC p s m args meth c g cc nL own Ts) {a : Int32} {off : Int} (tgt : Nat) (hdg : decode cc pc = .ok (.ifCond .ge off, 3)) (ht : (pc : Int) + off = (tgt : Int))
    (kt : (0 ≤ a) → Z p l e R s m args below meth c g nL cells slots Q x (tgt) lv (st)) (kf : ¬ (0 ≤ a) → Z p l e R s m args below meth c g nL cells slots Q x (pc + 3) lv (st)) : Z p l e R s m args below meth c g nL cells slots Q x (pc) lv (.int a :: st) :=
  fun H locs ls hP hS hl => lv_if_ge C.1.1 C.1.2.1 hdg ht (fun h => kt h H locs ls hP hS hl) (fun h => kf h H locs ls hP hS hl)

theorem z_icmp_gt (pc : Nat) (C : zC p s m args meth c g cc nL own Ts) {a b : Int32} {off : Int} (tgt : Nat) (hdg : decode cc pc = .ok (.if_icmp .gt off, 3)) (ht : (pc : Int) + off = (tgt : Int))
    (kt : (b < a) → Z p l e R s m args below meth c g nL cells slots Q x (tgt) lv (st)) (kf : ¬ (b < a) → Z p l e R s m args below meth c g nL cells slots Q x (pc + 3) lv (st)) : Z p l e R s m args below meth c g nL cells slots Q x (pc) lv (.int b :: .int a :: st) :=
  fun H locs ls hP hS hl => lv_icmp_gt C.1.1 C.1.2.1 hdg ht (fun h => kt h H locs ls hP hS hl) (fun h => kf h H locs ls hP hS hl)

theorem z_if_gt (pc : Nat) (C : zC p s m args meth c g cc nL own Ts) {a : Int32} {off : Int} (tgt : Nat) (hdg : decode cc pc = .ok (.ifCond .gt off, 3)) (ht : (pc : Int) + off = (tgt : Int))
    (kt : (0 < a) → Z p l e R s m args below meth c g nL cells slots Q x (tgt) lv (st)) (kf : ¬ (0 < a) → Z p l e R s m args below meth c g nL cells slots Q x (pc + 3) lv (st)) : Z p l e R s m args below meth c g nL cells slots Q x (pc) lv (.int a :: st) :=
  fun H locs ls hP hS hl => lv_if_gt C.1.1 C.1.2.1 hdg ht (fun h => kt h H locs ls hP hS hl) (fun h => kf h H locs ls hP hS hl)

theorem z_icmp_le (pc : Nat) (C : zC p s m args meth c g cc nL own Ts) {a b : Int32} {off : Int} (tgt : Nat) (hdg : decode cc pc = .ok (.if_icmp .le off, 3)) (ht : (pc : Int) + off = (tgt : Int))
    (kt : (a ≤ b) → Z p l e R s m args below meth c g nL cells slots Q x (tgt) lv (st)) (kf : ¬ (a ≤ b) → Z p l e R s m args below meth c g nL cells slots Q x (pc + 3) lv (st)) : Z p l e R s m args below meth c g nL cells slots Q x (pc) lv (.int b :: .int a :: st) :=
  fun H locs ls hP hS hl => lv_icmp_le C.1.1 C.1.2.1 hdg ht (fun h => kt h H locs ls hP hS hl) (fun h => kf h H locs ls hP hS hl)

theorem z_if_le (pc : Nat) (C : zC p s m args meth c g cc nL own Ts) {a : Int32} {off : Int} (tgt : Nat) (hdg : decode cc pc = .ok (.ifCond .le off, 3)) (ht : (pc : Int) + off = (tgt : Int))
    (kt : (a ≤ 0) → Z p l e R s m args below meth c g nL cells slots Q x (tgt) lv (st)) (kf : ¬ (a ≤ 0) → Z p l e R s m args below meth c g nL cells slots Q x (pc + 3) lv (st)) : Z p l e R s m args below meth c g nL cells slots Q x (pc) lv (.int a :: st) :=
  fun H locs ls hP hS hl => lv_if_le C.1.1 C.1.2.1 hdg ht (fun h => kt h H locs ls hP hS hl) (fun h => kf h H locs ls hP hS hl)

theorem z_goto (pc : Nat) (C : zC p s m args meth c g cc nL own Ts) {off : Int} (tgt : Nat) (hdg : decode cc pc = .ok (.goto off, 3)) (ht : (pc : Int) + off = (tgt : Int)) (kk : Z p l e R s m args below meth c g nL cells slots Q x (tgt) lv (st)) : Z p l e R s m args below meth c g nL cells slots Q x (pc) lv (st) :=
  fun H locs ls hP hS hl => lv_goto C.1.1 C.1.2.1 hdg ht (kk H locs ls hP hS hl)
theorem z_lv {pc : Nat} {lv' : List (Nat × Value)} (ks : List Nat) (h : lv_pick lv ks = lv') (kk : Z p l e R s m args below meth c g nL cells slots Q x (pc) lv' (st)) : Z p l e R s m args below meth c g nL cells slots Q x (pc) lv (st) :=
  fun H locs ls hP hS hl => kk H locs ls hP hS (lv_sub hl ks h)
theorem z_x {pc : Nat} {y : zT} (h : x = y) (kk : Z p l e R s m args below meth c g nL cells slots Q y (pc) lv (st)) : Z p l e R s m args below meth c g nL cells slots Q x (pc) lv (st) := h ▸ kk
theorem z_int {pc : Nat} {a b : Int32} (h : a = b) (kk : Z p l e R s m args below meth c g nL cells slots Q x (pc) lv (.int b :: st)) : Z p l e R s m args below meth c g nL cells slots Q x (pc) lv (.int a :: st) := h ▸ kk
theorem z_long {pc : Nat} {a b : Int64} (h : a = b) (kk : Z p l e R s m args below meth c g nL cells slots Q x (pc) lv (.long b :: st)) : Z p l e R s m args below meth c g nL cells slots Q x (pc) lv (.long a :: st) := h ▸ kk
theorem z_widen {pc k n : Nat} (h1 : cells ≤ k) (h2 : slots ≤ n) (kk : Z p l e R s m args below meth c g nL k n Q x pc lv st) : Z p l e R s m args below meth c g nL cells slots Q x (pc) lv (st) :=
  fun H locs ls hP hS hl => W.widen h1 h2 (kk H locs ls hP hS hl)
theorem z_icmp_geL (pc : Nat) (C : zC p s m args meth c g cc nL own Ts) {a b : Int32} {off : Int} (tgt : Nat) (hdg : decode cc pc = .ok (.if_icmp .ge off, 3)) (ht : (pc : Int) + off = (tgt : Int))
    (kt : ¬ a < b → Z p l e R s m args below meth c g nL cells slots Q x (tgt) lv (st)) (kf : a < b → Z p l e R s m args below meth c g nL cells slots Q x (pc + 3) lv (st)) : Z p l e R s m args below meth c g nL cells slots Q x (pc) lv (.int b :: .int a :: st) :=
  z_icmp_ge pc C tgt hdg ht (fun h => kt (Int32.not_lt.mpr h)) (fun h => kf (Int32.not_le.mp h))
theorem z_if_eqN (pc : Nat) (C : zC p s m args meth c g cc nL own Ts) {a : Nat} {off : Int} (tgt : Nat) (hdg : decode cc pc = .ok (.ifCond .eq off, 3)) (ht : (pc : Int) + off = (tgt : Int)) (ha : a < 2 ^ 31)
    (kt : a = 0 → Z p l e R s m args below meth c g nL cells slots Q x (tgt) lv (st)) (kf : a ≠ 0 → Z p l e R s m args below meth c g nL cells slots Q x (pc + 3) lv (st)) : Z p l e R s m args below meth c g nL cells slots Q x (pc) lv (.int (nI a) :: st) :=
  z_if_eq pc C tgt hdg ht (fun h => kt (zn_eqp ha (by decide) h)) (fun h => kf (zn_eqn ha (by decide) h))
theorem z_if_neN (pc : Nat) (C : zC p s m args meth c g cc nL own Ts) {a : Nat} {off : Int} (tgt : Nat) (hdg : decode cc pc = .ok (.ifCond .ne off, 3)) (ht : (pc : Int) + off = (tgt : Int)) (ha : a < 2 ^ 31)
    (kt : a ≠ 0 → Z p l e R s m args below meth c g nL cells slots Q x (tgt) lv (st)) (kf : a = 0 → Z p l e R s m args below meth c g nL cells slots Q x (pc + 3) lv (st)) : Z p l e R s m args below meth c g nL cells slots Q x (pc) lv (.int (nI a) :: st) :=
  z_if_ne pc C tgt hdg ht (fun h => kt (zn_nep ha (by decide) h)) (fun h => kf (zn_nen ha (by decide) h))
theorem z_if_ltN (pc : Nat) (C : zC p s m args meth c g cc nL own Ts) {a : Nat} {off : Int} (tgt : Nat) (hdg : decode cc pc = .ok (.ifCond .lt off, 3)) (ht : (pc : Int) + off = (tgt : Int)) (ha : a < 2 ^ 31)
    (kt : a < 0 → Z p l e R s m args below meth c g nL cells slots Q x (tgt) lv (st)) (kf : 0 ≤ a → Z p l e R s m args below meth c g nL cells slots Q x (pc + 3) lv (st)) : Z p l e R s m args below meth c g nL cells slots Q x (pc) lv (.int (nI a) :: st) :=
  z_if_lt pc C tgt hdg ht (fun h => kt (zn_ltp ha (by decide) h)) (fun h => kf (zn_ltn ha (by decide) h))
theorem z_if_geN (pc : Nat) (C : zC p s m args meth c g cc nL own Ts) {a : Nat} {off : Int} (tgt : Nat) (hdg : decode cc pc = .ok (.ifCond .ge off, 3)) (ht : (pc : Int) + off = (tgt : Int)) (ha : a < 2 ^ 31)
    (kt : 0 ≤ a → Z p l e R s m args below meth c g nL cells slots Q x (tgt) lv (st)) (kf : a < 0 → Z p l e R s m args below meth c g nL cells slots Q x (pc + 3) lv (st)) : Z p l e R s m args below meth c g nL cells slots Q x (pc) lv (.int (nI a) :: st) :=
  z_if_ge pc C tgt hdg ht (fun h => kt (zn_gep ha (by decide) h)) (fun h => kf (zn_gen ha (by decide) h))
theorem z_if_gtN (pc : Nat) (C : zC p s m args meth c g cc nL own Ts) {a : Nat} {off : Int} (tgt : Nat) (hdg : decode cc pc = .ok (.ifCond .gt off, 3)) (ht : (pc : Int) + off = (tgt : Int)) (ha : a < 2 ^ 31)
    (kt : 0 < a → Z p l e R s m args below meth c g nL cells slots Q x (tgt) lv (st)) (kf : a ≤ 0 → Z p l e R s m args below meth c g nL cells slots Q x (pc + 3) lv (st)) : Z p l e R s m args below meth c g nL cells slots Q x (pc) lv (.int (nI a) :: st) :=
  z_if_gt pc C tgt hdg ht (fun h => kt (zn_gtp ha (by decide) h)) (fun h => kf (zn_gtn ha (by decide) h))
theorem z_if_leN (pc : Nat) (C : zC p s m args meth c g cc nL own Ts) {a : Nat} {off : Int} (tgt : Nat) (hdg : decode cc pc = .ok (.ifCond .le off, 3)) (ht : (pc : Int) + off = (tgt : Int)) (ha : a < 2 ^ 31)
    (kt : a ≤ 0 → Z p l e R s m args below meth c g nL cells slots Q x (tgt) lv (st)) (kf : 0 < a → Z p l e R s m args below meth c g nL cells slots Q x (pc + 3) lv (st)) : Z p l e R s m args below meth c g nL cells slots Q x (pc) lv (.int (nI a) :: st) :=
  z_if_le pc C tgt hdg ht (fun h => kt (zn_lep ha (by decide) h)) (fun h => kf (zn_len ha (by decide) h))
theorem z_icmp_eqN (pc : Nat) (C : zC p s m args meth c g cc nL own Ts) {a b : Nat} {off : Int} (tgt : Nat) (hdg : decode cc pc = .ok (.if_icmp .eq off, 3)) (ht : (pc : Int) + off = (tgt : Int)) (ha : a < 2 ^ 31) (hb : b < 2 ^ 31)
    (kt : a = b → Z p l e R s m args below meth c g nL cells slots Q x (tgt) lv (st)) (kf : a ≠ b → Z p l e R s m args below meth c g nL cells slots Q x (pc + 3) lv (st)) : Z p l e R s m args below meth c g nL cells slots Q x (pc) lv (.int (nI b) :: .int (nI a) :: st) :=
  z_icmp_eq pc C tgt hdg ht (fun h => kt (zn_eqp ha hb h)) (fun h => kf (zn_eqn ha hb h))
theorem z_icmp_neN (pc : Nat) (C : zC p s m args meth c g cc nL own Ts) {a b : Nat} {off : Int} (tgt : Nat) (hdg : decode cc pc = .ok (.if_icmp .ne off, 3)) (ht : (pc : Int) + off = (tgt : Int)) (ha : a < 2 ^ 31) (hb : b < 2 ^ 31)
    (kt : a ≠ b → Z p l e R s m args below meth c g nL cells slots Q x (tgt) lv (st)) (kf : a = b → Z p l e R s m args below meth c g nL cells slots Q x (pc + 3) lv (st)) : Z p l e R s m args below meth c g nL cells slots Q x (pc) lv (.int (nI b) :: .int (nI a) :: st) :=
  z_icmp_ne pc C tgt hdg ht (fun h => kt (zn_nep ha hb h)) (fun h => kf (zn_nen ha hb h))
theorem z_icmp_ltN (pc : Nat) (C : zC p s m args meth c g cc nL own Ts) {a b : Nat} {off : Int} (tgt : Nat) (hdg : decode cc pc = .ok (.if_icmp .lt off, 3)) (ht : (pc : Int) + off = (tgt : Int)) (ha : a < 2 ^ 31) (hb : b < 2 ^ 31)
    (kt : a < b → Z p l e R s m args below meth c g nL cells slots Q x (tgt) lv (st)) (kf : b ≤ a → Z p l e R s m args below meth c g nL cells slots Q x (pc + 3) lv (st)) : Z p l e R s m args below meth c g nL cells slots Q x (pc) lv (.int (nI b) :: .int (nI a) :: st) :=
  z_icmp_lt pc C tgt hdg ht (fun h => kt (zn_ltp ha hb h)) (fun h => kf (zn_ltn ha hb h))
theorem z_icmp_geN (pc : Nat) (C : zC p s m args meth c g cc nL own Ts) {a b : Nat} {off : Int} (tgt : Nat) (hdg : decode cc pc = .ok (.if_icmp .ge off, 3)) (ht : (pc : Int) + off = (tgt : Int)) (ha : a < 2 ^ 31) (hb : b < 2 ^ 31)
    (kt : b ≤ a → Z p l e R s m args below meth c g nL cells slots Q x (tgt) lv (st)) (kf : a < b → Z p l e R s m args below meth c g nL cells slots Q x (pc + 3) lv (st)) : Z p l e R s m args below meth c g nL cells slots Q x (pc) lv (.int (nI b) :: .int (nI a) :: st) :=
  z_icmp_ge pc C tgt hdg ht (fun h => kt (zn_gep ha hb h)) (fun h => kf (zn_gen ha hb h))
theorem z_icmp_gtN (pc : Nat) (C : zC p s m args meth c g cc nL own Ts) {a b : Nat} {off : Int} (tgt : Nat) (hdg : decode cc pc = .ok (.if_icmp .gt off, 3)) (ht : (pc : Int) + off = (tgt : Int)) (ha : a < 2 ^ 31) (hb : b < 2 ^ 31)
    (kt : b < a → Z p l e R s m args below meth c g nL cells slots Q x (tgt) lv (st)) (kf : a ≤ b → Z p l e R s m args below meth c g nL cells slots Q x (pc + 3) lv (st)) : Z p l e R s m args below meth c g nL cells slots Q x (pc) lv (.int (nI b) :: .int (nI a) :: st) :=
  z_icmp_gt pc C tgt hdg ht (fun h => kt (zn_gtp ha hb h)) (fun h => kf (zn_gtn ha hb h))
theorem z_icmp_leN (pc : Nat) (C : zC p s m args meth c g cc nL own Ts) {a b : Nat} {off : Int} (tgt : Nat) (hdg : decode cc pc = .ok (.if_icmp .le off, 3)) (ht : (pc : Int) + off = (tgt : Int)) (ha : a < 2 ^ 31) (hb : b < 2 ^ 31)
    (kt : a ≤ b → Z p l e R s m args below meth c g nL cells slots Q x (tgt) lv (st)) (kf : b < a → Z p l e R s m args below meth c g nL cells slots Q x (pc + 3) lv (st)) : Z p l e R s m args below meth c g nL cells slots Q x (pc) lv (.int (nI b) :: .int (nI a) :: st) :=
  z_icmp_le pc C tgt hdg ht (fun h => kt (zn_lep ha hb h)) (fun h => kf (zn_len ha hb h))
end ZROWS
end
section
/-! ===== the world's rows ===== -/
def kI (k n : Nat) : Prop := (k < 66 ∧ n < 1000) ∧ ∀ (g : zG) (f : Nat → Int32) (h : Nat → Int64) (d : Nat → UInt64), zc g k f h d = zi g n f
def kL (k n : Nat) : Prop := (k < 66 ∧ n < 1000) ∧ ∀ (g : zG) (f : Nat → Int32) (h : Nat → Int64) (d : Nat → UInt64), zc g k f h d = zl g n h
def kQ (k n t : Nat) (r : Nat → Nat) : Prop := (k < 66 ∧ n < 1000) ∧ ∀ (g : zG) (f : Nat → Int32) (h : Nat → Int64) (d : Nat → UInt64), zc g k f h d = zq g t n (fun j => some (zad g (r j)))
def kO (k ci : Nat) : Prop := k < 66 ∧ ∀ (g : zG) (f : Nat → Int32) (h : Nat → Int64) (d : Nat → UInt64), ∃ fs : List Value, zc g k f h d = .inr (ci, fs)
def kR (k ci q k' : Nat) : Prop := k < 66 ∧ ∀ (g : zG) (f : Nat → Int32) (h : Nat → Int64) (d : Nat → UInt64), ∃ fs : List Value, zc g k f h d = .inr (ci, fs) ∧ fs[q]? = some (.ref (zad g k'))
def kF (k ci q i : Nat) : Prop := k < 66 ∧ ∀ (g : zG) (f : Nat → Int32) (h : Nat → Int64) (d : Nat → UInt64), ∃ fs : List Value, zc g k f h d = .inr (ci, fs) ∧ fs[q]? = some (.int (f i)) ∧ q < fs.length ∧ ∀ v : Int32, zc g k (upd f i v) h d = .inr (ci, fs.set q (.int v))
theorem kI_p {j i n : Nat} (hj : j < 4) (hi : i < 16) (hn : n < 1000) (h : ∀ (g : zG) (f : Nat → Int32) (h : Nat → Int64), zs g j i f h = zi g n f) : kI (zp j i) n := ⟨⟨zp_lt hj hi, hn⟩, fun g f k d => (zc_p hi).trans (h g f k)⟩
theorem kI_sums {j : Nat} (hj : j < 4) : kI (zp j 2) 128 := kI_p hj (by omega) (by omega) (fun _ _ _ => rfl)
theorem kI_scell {j : Nat} (hj : j < 4) : kI (zp j 11) 40 := kI_p hj (by omega) (by omega) (fun _ _ _ => rfl)
theorem kI_items {j : Nat} (hj : j < 4) : kI (zp j 14) 8 := kI_p hj (by omega) (by omega) (fun _ _ _ => rfl)
theorem kI_wts {j : Nat} (hj : j < 4) : kI (zp j 15) 8 := kI_p hj (by omega) (by omega) (fun _ _ _ => rfl)
theorem kI_ccell {j k : Nat} (hj : j < 4) (hk : k < 3) : kI (zp j (7 + k)) 24 := kI_p hj (by omega) (by omega) (fun g f h => by
  unfold zs
  rw [if_neg (by omega), if_neg (by omega), if_neg (by omega), if_neg (by omega), if_neg (by omega), if_pos (by omega)])
theorem kL_num {j : Nat} (hj : j < 4) : kL (zp j 12) 5 := ⟨⟨zp_lt hj (by omega), by omega⟩, fun g f k d => (zc_p (by omega)).trans rfl⟩
theorem kQ_careful {j : Nat} (hj : j < 4) : kQ (zp j 3) 3 3 (fun k => zp j (4 + k)) := ⟨⟨zp_lt hj (by omega), by omega⟩, fun g f k d => (zc_p (by omega)).trans rfl⟩
theorem kQ_streams : kQ 1 4 2 (fun j => zp j 0) := ⟨⟨by omega, by omega⟩, fun _ _ _ _ => rfl⟩
theorem kR_p {j i ci q k' : Nat} (hj : j < 4) (hi : i < 16) (h : ∀ (g : zG) (f : Nat → Int32) (h : Nat → Int64), ∃ fs : List Value, zs g j i f h = .inr (ci, fs) ∧ fs[q]? = some (.ref (zad g k'))) : kR (zp j i) ci q k' := ⟨zp_lt hj hi, fun g f k d => by
  obtain ⟨fs, h1, h2⟩ := h g f k
  exact ⟨fs, (zc_p hi).trans h1, h2⟩⟩
theorem kO_p {j i ci : Nat} (hj : j < 4) (hi : i < 16) (h : ∀ (g : zG) (f : Nat → Int32) (h : Nat → Int64), ∃ fs : List Value, zs g j i f h = .inr (ci, fs)) : kO (zp j i) ci := ⟨zp_lt hj hi, fun g f k d => by
  obtain ⟨fs, h1⟩ := h g f k
  exact ⟨fs, (zc_p hi).trans h1⟩⟩
theorem kR_plain {j : Nat} (hj : j < 4) : kR (zp j 0) 4 0 (zp j 1) := kR_p hj (by omega) (fun _ _ _ => ⟨_, rfl, rfl⟩)
theorem kR_careful {j : Nat} (hj : j < 4) : kR (zp j 0) 4 1 (zp j 3) := kR_p hj (by omega) (fun _ _ _ => ⟨_, rfl, rfl⟩)
theorem kR_signed {j : Nat} (hj : j < 4) : kR (zp j 0) 4 2 (zp j 10) := kR_p hj (by omega) (fun _ _ _ => ⟨_, rfl, rfl⟩)
theorem kR_few {j : Nat} (hj : j < 4) : kR (zp j 0) 4 3 (zp j 13) := kR_p hj (by omega) (fun _ _ _ => ⟨_, rfl, rfl⟩)
theorem kR_sums {j : Nat} (hj : j < 4) : kR (zp j 1) 2 0 (zp j 2) := kR_p hj (by omega) (fun _ _ _ => ⟨_, rfl, rfl⟩)
theorem zs_cs {g : zG} {j k : Nat} {f : Nat → Int32} {h : Nat → Int64} (hk : k < 3) : zs g j (4 + k) f h = .inr (0, [.ref (zad g (zp j (7 + k)))]) := by
  unfold zs
  rw [if_neg (by omega), if_neg (by omega), if_neg (by omega), if_neg (by omega), if_pos (by omega), show 4 + k + 3 = 7 + k by omega]
theorem kR_ccells {j k : Nat} (hj : j < 4) (hk : k < 3) : kR (zp j (4 + k)) 0 0 (zp j (7 + k)) := kR_p hj (by omega) (fun _ _ _ => ⟨_, zs_cs hk, rfl⟩)
theorem kR_scells {j : Nat} (hj : j < 4) : kR (zp j 10) 3 0 (zp j 11) := kR_p hj (by omega) (fun _ _ _ => ⟨_, rfl, rfl⟩)
theorem kR_snum {j : Nat} (hj : j < 4) : kR (zp j 10) 3 1 (zp j 12) := kR_p hj (by omega) (fun _ _ _ => ⟨_, rfl, rfl⟩)
theorem kR_items {j : Nat} (hj : j < 4) : kR (zp j 13) 1 0 (zp j 14) := kR_p hj (by omega) (fun _ _ _ => ⟨_, rfl, rfl⟩)
theorem kR_wts {j : Nat} (hj : j < 4) : kR (zp j 13) 1 1 (zp j 15) := kR_p hj (by omega) (fun _ _ _ => ⟨_, rfl, rfl⟩)
theorem kR_streams : kR 0 5 0 1 := ⟨by omega, fun _ _ _ _ => ⟨_, rfl, rfl⟩⟩
theorem kO_stream {j : Nat} (hj : j < 4) : kO (zp j 0) 4 := kO_p hj (by omega) (fun _ _ _ => ⟨_, rfl⟩)
theorem kO_plain {j : Nat} (hj : j < 4) : kO (zp j 1) 2 := kO_p hj (by omega) (fun _ _ _ => ⟨_, rfl⟩)
theorem kO_cs {j k : Nat} (hj : j < 4) (hk : k < 3) : kO (zp j (4 + k)) 0 := kO_p hj (by omega) (fun _ _ _ => ⟨_, zs_cs hk⟩)
theorem kO_signed {j : Nat} (hj : j < 4) : kO (zp j 10) 3 := kO_p hj (by omega) (fun _ _ _ => ⟨_, rfl⟩)
theorem kO_few {j : Nat} (hj : j < 4) : kO (zp j 13) 1 := kO_p hj (by omega) (fun _ _ _ => ⟨_, rfl⟩)
theorem kO_main : kO 0 5 := ⟨by omega, fun _ _ _ _ => ⟨_, rfl⟩⟩
theorem kF_used {j : Nat} (hj : j < 4) : kF (zp j 13) 1 2 0 := ⟨zp_lt hj (by omega), fun g f k d => ⟨_, (zc_p (by omega)).trans rfl, rfl, Nat.le_of_ble_eq_true rfl, fun v => (zc_p (by omega)).trans rfl⟩⟩
theorem kF_away {j : Nat} (hj : j < 4) : kF (zp j 13) 1 3 1 := ⟨zp_lt hj (by omega), fun g f k d => ⟨_, (zc_p (by omega)).trans rfl, rfl, Nat.le_of_ble_eq_true rfl, fun v => (zc_p (by omega)).trans rfl⟩⟩
section ZHEAP
variable {p : Program} {l : Launch} {e : Env} {R : Room} {s : State} {m : MethodId} {args : Array Value} {below : List Frame} {meth : Method} {c : Code} {g : zG} {nL cells slots : Nat} {Q : State → Prop} {x : zT} {lv : List (Nat × Value)} {st : List Value} {cc : ByteArray} {own : String} {Ts : List Cond}
theorem z_iald (pc : Nat) (C : zC p s m args meth c g cc nL own Ts) {k n i : Nat} {v : Int32} (hk : kI k n) (hi : i < n) (hv : x.1 k i = v) (hdg : decode cc pc = .ok (.iaload, 1))
    (kk : Z p l e R s m args below meth c g nL cells slots Q x (pc + 1) lv (.int v :: st)) : Z p l e R s m args below meth c g nL cells slots Q x (pc) lv (.int (nI i) :: .ref (zad g k) :: st) := fun H locs ls hP hS hl => by
  have ha : (zw g x)[k]? = some (zad g k, .inl (g.2.1 0, n, .inl (x.1 k))) := by rw [zw_get hk.1.1, hk.2]; rfl
  refine va_iald C.1.1 C.1.2.1 C.2.1 hP k 0 ha rfl (vp_in_nI hi (by have := hk.1.2; omega)) hdg ?_
  rw [nI_clamp (by have := hk.1.2; omega), hv]
  exact kk H locs ls hP hS hl
theorem z_iast (pc : Nat) (C : zC p s m args meth c g cc nL own Ts) {k n i : Nat} {v : Int32} {f : Nat → Int32} (hk : kI k n) (hi : i < n) (hf : upd (x.1 k) i v = f) (hdg : decode cc pc = .ok (.iastore, 1))
    (kk : Z p l e R s m args below meth c g nL cells slots Q (xi x k f) (pc + 1) lv (st)) : Z p l e R s m args below meth c g nL cells slots Q x (pc) lv (.int v :: .int (nI i) :: .ref (zad g k) :: st) := fun H locs ls hP hS hl => by
  have ha : (zw g x)[k]? = some (zad g k, .inl (g.2.1 0, n, .inl (x.1 k))) := by rw [zw_get hk.1.1, hk.2]; rfl
  refine va_iast C.1.1 C.1.2.1 C.2.1 hP (zw_D C.2.2.1 x) hS k 0 ha rfl (vp_in_nI hi (by have := hk.1.2; omega)) hdg (fun H1 locs1 hP1 hD1 hS1 => ?_)
  rw [nI_clamp (by have := hk.1.2; omega), hf, zw_seti hk.1.1 (by rw [hk.2]; rfl)] at hP1
  exact kk H1 locs1 ls hP1 hS1 hl
theorem z_ialen (pc : Nat) (C : zC p s m args meth c g cc nL own Ts) {k n : Nat} (hk : kI k n) (hdg : decode cc pc = .ok (.arraylength, 1))
    (kk : Z p l e R s m args below meth c g nL cells slots Q x (pc + 1) lv (.int (nI n) :: st)) : Z p l e R s m args below meth c g nL cells slots Q x (pc) lv (.ref (zad g k) :: st) := fun H locs ls hP hS hl => by
  have ha : (zw g x)[k]? = some (zad g k, .inl (g.2.1 0, n, .inl (x.1 k))) := by rw [zw_get hk.1.1, hk.2]; rfl
  exact va_alen C.1.1 C.1.2.1 C.2.1 hP k 0 ha rfl rfl hdg (kk H locs ls hP hS hl)
theorem z_lald (pc : Nat) (C : zC p s m args meth c g cc nL own Ts) {k n i : Nat} {v : Int64} (hk : kL k n) (hi : i < n) (hv : x.2.1 k i = v) (hdg : decode cc pc = .ok (.laload, 1))
    (kk : Z p l e R s m args below meth c g nL cells slots Q x (pc + 1) lv (.long v :: st)) : Z p l e R s m args below meth c g nL cells slots Q x (pc) lv (.int (nI i) :: .ref (zad g k) :: st) := fun H locs ls hP hS hl => by
  have ha : (zw g x)[k]? = some (zad g k, .inl (g.2.1 1, n, .inr (.inl (x.2.1 k)))) := by rw [zw_get hk.1.1, hk.2]; rfl
  refine va_lald C.1.1 C.1.2.1 C.2.1 hP k 1 ha rfl (vp_in_nI hi (by have := hk.1.2; omega)) hdg ?_
  rw [nI_clamp (by have := hk.1.2; omega), hv]
  exact kk H locs ls hP hS hl
theorem z_last (pc : Nat) (C : zC p s m args meth c g cc nL own Ts) {k n i : Nat} {v : Int64} {f : Nat → Int64} (hk : kL k n) (hi : i < n) (hf : vp_updL (x.2.1 k) i v = f) (hdg : decode cc pc = .ok (.lastore, 1))
    (kk : Z p l e R s m args below meth c g nL cells slots Q (xl x k f) (pc + 1) lv (st)) : Z p l e R s m args below meth c g nL cells slots Q x (pc) lv (.long v :: .int (nI i) :: .ref (zad g k) :: st) := fun H locs ls hP hS hl => by
  have ha : (zw g x)[k]? = some (zad g k, .inl (g.2.1 1, n, .inr (.inl (x.2.1 k)))) := by rw [zw_get hk.1.1, hk.2]; rfl
  refine va_last C.1.1 C.1.2.1 C.2.1 hP (zw_D C.2.2.1 x) hS k 1 ha rfl (vp_in_nI hi (by have := hk.1.2; omega)) hdg (fun H1 locs1 hP1 hD1 hS1 => ?_)
  rw [nI_clamp (by have := hk.1.2; omega), hf, zw_setl hk.1.1 (by rw [hk.2]; rfl)] at hP1
  exact kk H1 locs1 ls hP1 hS1 hl
theorem z_lalen (pc : Nat) (C : zC p s m args meth c g cc nL own Ts) {k n : Nat} (hk : kL k n) (hdg : decode cc pc = .ok (.arraylength, 1))
    (kk : Z p l e R s m args below meth c g nL cells slots Q x (pc + 1) lv (.int (nI n) :: st)) : Z p l e R s m args below meth c g nL cells slots Q x (pc) lv (.ref (zad g k) :: st) := fun H locs ls hP hS hl => by
  have ha : (zw g x)[k]? = some (zad g k, .inl (g.2.1 1, n, .inr (.inl (x.2.1 k)))) := by rw [zw_get hk.1.1, hk.2]; rfl
  exact va_alen C.1.1 C.1.2.1 C.2.1 hP k 1 ha rfl rfl hdg (kk H locs ls hP hS hl)
theorem z_aald (pc : Nat) (C : zC p s m args meth c g cc nL own Ts) {k n t i : Nat} {r : Nat → Nat} {D9 : String} (hk : kQ k n t r) (ht : (zty g)[t]? = some (g.2.1 t, .object D9)) (hi : i < n) (hdg : decode cc pc = .ok (.aaload, 1))
    (kk : Z p l e R s m args below meth c g nL cells slots Q x (pc + 1) lv (.ref (zad g (r i)) :: st)) : Z p l e R s m args below meth c g nL cells slots Q x (pc) lv (.int (nI i) :: .ref (zad g k) :: st) := fun H locs ls hP hS hl => by
  have ha : (zw g x)[k]? = some (zad g k, .inl (g.2.1 t, n, .inr (.inr (.inr (.inr (fun j => some (zad g (r j)))))))) := by rw [zw_get hk.1.1, hk.2]; rfl
  refine va_aldq C.1.1 C.1.2.1 C.2.1 hP k t ha ht (vp_in_nI hi (by have := hk.1.2; omega)) hdg ?_
  rw [nI_clamp (by have := hk.1.2; omega)]
  exact kk H locs ls hP hS hl
theorem z_qalen (pc : Nat) (C : zC p s m args meth c g cc nL own Ts) {k n t : Nat} {r : Nat → Nat} {D9 : String} (hk : kQ k n t r) (ht : (zty g)[t]? = some (g.2.1 t, .object D9)) (hdg : decode cc pc = .ok (.arraylength, 1))
    (kk : Z p l e R s m args below meth c g nL cells slots Q x (pc + 1) lv (.int (nI n) :: st)) : Z p l e R s m args below meth c g nL cells slots Q x (pc) lv (.ref (zad g k) :: st) := fun H locs ls hP hS hl => by
  have ha : (zw g x)[k]? = some (zad g k, .inl (g.2.1 t, n, .inr (.inr (.inr (.inr (fun j => some (zad g (r j)))))))) := by rw [zw_get hk.1.1, hk.2]; rfl
  exact va_alen C.1.1 C.1.2.1 C.2.1 hP k t ha ht rfl hdg (kk H locs ls hP hS hl)
theorem z_getr (pc : Nat) (C : zC p s m args meth c g cc nL own Ts) {ref C9 : String} {T : u_T} {N ci index q k k' : Nat} (hk : kR k ci q k') (hc : vwCl[ci]? = some (C9, T, N)) (hin : ∀ w ∈ u_ws C9 T N, w ∈ Ts) (hq : q < N) (hr : (T q).1 = ref) (hlink : (Cond.fieldLink own index ref (T q).2.1 (T q).2.2.1).before args s = true) (hdg : decode cc pc = .ok (.getfield index, 3))
    (kk : Z p l e R s m args below meth c g nL cells slots Q x (pc + 3) lv (.ref (zad g k') :: st)) : Z p l e R s m args below meth c g nL cells slots Q x (pc) lv (.ref (zad g k) :: st) := fun H locs ls hP hS hl => by
  obtain ⟨fs, h1, h2⟩ := hk.2 g (x.1 k) (x.2.1 k) x.2.2
  exact va_get C.1.1 C.1.2.1 C.1.2.2.2.2 hin C.1.2.2.2.1 C.2.1 hP k (by rw [zw_get hk.1, h1]) hc q hq hlink (fun _ h9 => by rw [← hr]; exact h9) h2 hdg (kk H locs ls hP hS hl)
theorem z_geti (pc : Nat) (C : zC p s m args meth c g cc nL own Ts) {ref C9 : String} {T : u_T} {N ci index q k i : Nat} {v : Int32} (hk : kF k ci q i) (hc : vwCl[ci]? = some (C9, T, N)) (hin : ∀ w ∈ u_ws C9 T N, w ∈ Ts) (hq : q < N) (hr : (T q).1 = ref) (hlink : (Cond.fieldLink own index ref (T q).2.1 (T q).2.2.1).before args s = true) (hv : x.1 k i = v) (hdg : decode cc pc = .ok (.getfield index, 3))
    (kk : Z p l e R s m args below meth c g nL cells slots Q x (pc + 3) lv (.int v :: st)) : Z p l e R s m args below meth c g nL cells slots Q x (pc) lv (.ref (zad g k) :: st) := fun H locs ls hP hS hl => by
  obtain ⟨fs, h1, h2, -, -⟩ := hk.2 g (x.1 k) (x.2.1 k) x.2.2
  exact va_get C.1.1 C.1.2.1 C.1.2.2.2.2 hin C.1.2.2.2.1 C.2.1 hP k (by rw [zw_get hk.1, h1]) hc q hq hlink (fun _ h9 => by rw [← hr]; exact h9) h2 hdg (by rw [hv]; exact kk H locs ls hP hS hl)
theorem z_getrN (pc : Nat) (C : zC p s m args meth c g cc nL own Ts) {ref C9 host : String} {T : u_T} {N ci index q k k' : Nat} (hk : kR k ci q k') (hc : vwCl[ci]? = some (C9, T, N)) (hin : ∀ w ∈ u_ws C9 T N, w ∈ Ts) (hq : q < N) (hr : (T q).1 = ref) (hlink : (Cond.fieldLinkNest own index ref (T q).2.1 (T q).2.2.1 host).before args s = true) (hdg : decode cc pc = .ok (.getfield index, 3))
    (kk : Z p l e R s m args below meth c g nL cells slots Q x (pc + 3) lv (.ref (zad g k') :: st)) : Z p l e R s m args below meth c g nL cells slots Q x (pc) lv (.ref (zad g k) :: st) := fun H locs ls hP hS hl => by
  obtain ⟨fs, h1, h2⟩ := hk.2 g (x.1 k) (x.2.1 k) x.2.2
  exact va_getN C.1.1 C.1.2.1 C.1.2.2.2.2 hin C.1.2.2.2.1 C.2.1 hP k (by rw [zw_get hk.1, h1]) hc q hq hlink (fun _ h9 => by rw [← hr]; exact h9) h2 hdg (kk H locs ls hP hS hl)
theorem z_getiN (pc : Nat) (C : zC p s m args meth c g cc nL own Ts) {ref C9 host : String} {T : u_T} {N ci index q k i : Nat} {v : Int32} (hk : kF k ci q i) (hc : vwCl[ci]? = some (C9, T, N)) (hin : ∀ w ∈ u_ws C9 T N, w ∈ Ts) (hq : q < N) (hr : (T q).1 = ref) (hlink : (Cond.fieldLinkNest own index ref (T q).2.1 (T q).2.2.1 host).before args s = true) (hv : x.1 k i = v) (hdg : decode cc pc = .ok (.getfield index, 3))
    (kk : Z p l e R s m args below meth c g nL cells slots Q x (pc + 3) lv (.int v :: st)) : Z p l e R s m args below meth c g nL cells slots Q x (pc) lv (.ref (zad g k) :: st) := fun H locs ls hP hS hl => by
  obtain ⟨fs, h1, h2, -, -⟩ := hk.2 g (x.1 k) (x.2.1 k) x.2.2
  exact va_getN C.1.1 C.1.2.1 C.1.2.2.2.2 hin C.1.2.2.2.1 C.2.1 hP k (by rw [zw_get hk.1, h1]) hc q hq hlink (fun _ h9 => by rw [← hr]; exact h9) h2 hdg (by rw [hv]; exact kk H locs ls hP hS hl)
theorem z_puti (pc : Nat) (C : zC p s m args meth c g cc nL own Ts) {ref C9 : String} {T : u_T} {N ci index q k i : Nat} {v : Int32} {f : Nat → Int32} (hk : kF k ci q i) (hc : vwCl[ci]? = some (C9, T, N)) (hin : ∀ w ∈ u_ws C9 T N, w ∈ Ts) (ty0 : Nat → FieldType) (hty : ∀ k, k < N → parseFieldDescriptor (T k).2.2.1 = some (ty0 k)) (hnm : ∀ a, a < N → ∀ b, b < N → a ≠ b → (T a).2.1 ≠ (T b).2.1) (hq : q < N) (hr : (T q).1 = ref) (hlink : (Cond.fieldLink own index ref (T q).2.1 (T q).2.2.1).before args s = true) (hfin : (T q).2.2.2 = false) (hd : parseFieldDescriptor (T q).2.2.1 = some .int) (hf : upd (x.1 k) i v = f) (hdg : decode cc pc = .ok (.putfield index, 3))
    (kk : Z p l e R s m args below meth c g nL cells slots Q (xi x k f) (pc + 3) lv (st)) : Z p l e R s m args below meth c g nL cells slots Q x (pc) lv (.int v :: .ref (zad g k) :: st) := fun H locs ls hP hS hl => by
  obtain ⟨fs, h1, h2, h3, h4⟩ := hk.2 g (x.1 k) (x.2.1 k) x.2.2
  refine va_put C.1.1 C.1.2.1 C.1.2.2.2.2 hin ty0 hty hnm C.1.2.2.2.1 C.2.1 hP (zw_D C.2.2.1 x) hS k (by rw [zw_get hk.1, h1]) hc q hq hlink (fun _ h9 => by rw [← hr]; exact h9) hfin hd rfl rfl h3 hdg (fun H1 locs1 hP1 hD1 hS1 => ?_)
  subst hf
  rw [zw_seti hk.1 (h4 v)] at hP1
  exact kk H1 locs1 ls hP1 hS1 hl
theorem z_gets (pc : Nat) (C : zC p s m args meth c g cc nL own Ts) {index n : Nat} {C9 d9 : String} {vals : List Int32} (hq : zsa[n]? = some (C9, d9, vals)) (hlink : (Cond.fieldLink own index C9 d9 "[I").before args s = true) (hdg : decode cc pc = .ok (.getstatic index, 3))
    (kk : ∀ t : Nat, va_T .int t vals.length (fun j => .int (vals.getD j 0)) (zA g) s s.heap → Z p l e R s m args below meth c g nL cells slots Q x (pc + 3) lv (.ref t :: st)) : Z p l e R s m args below meth c g nL cells slots Q x (pc) lv (st) := fun H locs ls hP hS hl => by
  obtain ⟨t, h1, h2⟩ := C.2.2.2.2.1.1 _ (List.mem_of_getElem? hq)
  exact va_gets C.1.1 C.1.2.1 h1 hS C.1.2.2.2.1 hlink (fun _ h9 => h9) hdg (kk t h2 H locs ls hP hS hl)
theorem z_tld (pc : Nat) (C : zC p s m args meth c g cc nL own Ts) {t i : Nat} {vals : List Int32} {v : Int32} (hT : va_T .int t vals.length (fun j => .int (vals.getD j 0)) (zA g) s s.heap) (hi : i < vals.length) (hb : vals.length < 1000) (hv : vals.getD i 0 = v) (hdg : decode cc pc = .ok (.iaload, 1))
    (kk : Z p l e R s m args below meth c g nL cells slots Q x (pc + 1) lv (.int v :: st)) : Z p l e R s m args below meth c g nL cells slots Q x (pc) lv (.int (nI i) :: .ref t :: st) := fun H locs ls hP hS hl => by
  refine va_ti C.1.1 C.1.2.1 hT hS (vp_in_nI hi (by omega)) ?_ hdg (kk H locs ls hP hS hl)
  show Value.int (vals.getD (nI i).toNatClampNeg 0) = .int v
  rw [nI_clamp (by omega), hv]
theorem z_iret (pc : Nat) (C : zC p s m args meth c g cc nL own Ts) {v : Int32} {post : Int32 → zT → Prop} (hr : meth.sig.returnType = some .int) (hp : post v x) (hdg : decode cc pc = .ok (.ireturn, 1)) : Z p l e R s m args below meth c g nL cells slots (MQ below (va_Qi post (zB g) (zA g)) args s cells slots (zA g)) x (pc) lv ([.int v]) := fun H locs ls hP hS hl =>
  W.iret C.1.1 C.1.2.1 hr (fun t ht hW => ⟨⟨v, x, rfl, hp, by show va_P _ _ _ t.heap; rw [ht]; exact hP⟩, hS.F ht⟩) hS.2.2 hdg C.2.2.2.2.2
theorem z_iretX (pc : Nat) (C : zC p s m args meth c g cc nL own Ts) {v : Int32} {post : Int32 → zT → Prop} {XC : String → State → State → Prop} (hr : meth.sig.returnType = some .int) (hp : post v x) (hdg : decode cc pc = .ok (.ireturn, 1)) : Z p l e R s m args below meth c g nL cells slots (vx_MQ below (va_Qi post (zB g) (zA g)) XC args s cells slots (zA g)) x (pc) lv ([.int v]) := fun H locs ls hP hS hl =>
  vx_ret (W.iret C.1.1 C.1.2.1 hr (fun t ht hW => ⟨⟨v, x, rfl, hp, by show va_P _ _ _ t.heap; rw [ht]; exact hP⟩, hS.F ht⟩) hS.2.2 hdg C.2.2.2.2.2)
theorem z_lret (pc : Nat) (C : zC p s m args meth c g cc nL own Ts) {v : Int64} {post : Int64 → zT → Prop} (hr : meth.sig.returnType = some .long) (hp : post v x) (hdg : decode cc pc = .ok (.lreturn, 1)) : Z p l e R s m args below meth c g nL cells slots (MQ below (va_Ql post (zB g) (zA g)) args s cells slots (zA g)) x (pc) lv ([.long v]) := fun H locs ls hP hS hl =>
  W.lret C.1.1 C.1.2.1 hr (fun t ht hW => ⟨⟨v, x, rfl, hp, by show va_P _ _ _ t.heap; rw [ht]; exact hP⟩, hS.F ht⟩) hS.2.2 hdg C.2.2.2.2.2
theorem z_lretX (pc : Nat) (C : zC p s m args meth c g cc nL own Ts) {v : Int64} {post : Int64 → zT → Prop} {XC : String → State → State → Prop} (hr : meth.sig.returnType = some .long) (hp : post v x) (hdg : decode cc pc = .ok (.lreturn, 1)) : Z p l e R s m args below meth c g nL cells slots (vx_MQ below (va_Ql post (zB g) (zA g)) XC args s cells slots (zA g)) x (pc) lv ([.long v]) := fun H locs ls hP hS hl =>
  vx_ret (W.lret C.1.1 C.1.2.1 hr (fun t ht hW => ⟨⟨v, x, rfl, hp, by show va_P _ _ _ t.heap; rw [ht]; exact hP⟩, hS.F ht⟩) hS.2.2 hdg C.2.2.2.2.2)
theorem z_dret (pc : Nat) (C : zC p s m args meth c g cc nL own Ts) {v : UInt64} {post : UInt64 → zT → Prop} (hr : meth.sig.returnType = some .double) (hp : post v x) (hdg : decode cc pc = .ok (.dreturn, 1)) : Z p l e R s m args below meth c g nL cells slots (MQ below (va_Qd post (zB g) (zA g)) args s cells slots (zA g)) x (pc) lv ([.double v]) := fun H locs ls hP hS hl =>
  W.dret C.1.1 C.1.2.1 hr (fun t ht hW => ⟨⟨v, x, rfl, hp, by show va_P _ _ _ t.heap; rw [ht]; exact hP⟩, hS.F ht⟩) hS.2.2 hdg C.2.2.2.2.2
theorem z_dretX (pc : Nat) (C : zC p s m args meth c g cc nL own Ts) {v : UInt64} {post : UInt64 → zT → Prop} {XC : String → State → State → Prop} (hr : meth.sig.returnType = some .double) (hp : post v x) (hdg : decode cc pc = .ok (.dreturn, 1)) : Z p l e R s m args below meth c g nL cells slots (vx_MQ below (va_Qd post (zB g) (zA g)) XC args s cells slots (zA g)) x (pc) lv ([.double v]) := fun H locs ls hP hS hl =>
  vx_ret (W.dret C.1.1 C.1.2.1 hr (fun t ht hW => ⟨⟨v, x, rfl, hp, by show va_P _ _ _ t.heap; rw [ht]; exact hP⟩, hS.F ht⟩) hS.2.2 hdg C.2.2.2.2.2)
theorem z_zret (pc : Nat) (C : zC p s m args meth c g cc nL own Ts) {v : Int32} {post : Int32 → zT → Prop} (hr : meth.sig.returnType = some .boolean) (hn : narrow .boolean (.int v) = .int v) (hp : post v x) (hdg : decode cc pc = .ok (.ireturn, 1)) : Z p l e R s m args below meth c g nL cells slots (MQ below (va_Qi post (zB g) (zA g)) args s cells slots (zA g)) x (pc) lv ([.int v]) := fun H locs ls hP hS hl =>
  W.zret C.1.1 C.1.2.1 hr hn (fun t ht hW => ⟨⟨v, x, rfl, hp, by show va_P _ _ _ t.heap; rw [ht]; exact hP⟩, hS.F ht⟩) hS.2.2 hdg C.2.2.2.2.2
theorem z_vret (pc : Nat) (C : zC p s m args meth c g cc nL own Ts) {post : zT → Prop} (hr : meth.sig.returnType = none) (hp : post x) (hdg : decode cc pc = .ok (.return_, 1)) : Z p l e R s m args below meth c g nL cells slots (MQ below (va_Qv post (zB g) (zA g)) args s cells slots (zA g)) x (pc) lv ([]) := fun H locs ls hP hS hl =>
  W.vret C.1.1 C.1.2.1 hr (fun t ht hW => ⟨⟨x, rfl, hp, by show va_P _ _ _ t.heap; rw [ht]; exact hP⟩, hS.F ht⟩) hS.2.2 hdg C.2.2.2.2.2
theorem z_zretX (pc : Nat) (C : zC p s m args meth c g cc nL own Ts) {v : Int32} {post : Int32 → zT → Prop} {XC : String → State → State → Prop} (hr : meth.sig.returnType = some .boolean) (hn : narrow .boolean (.int v) = .int v) (hp : post v x) (hdg : decode cc pc = .ok (.ireturn, 1)) : Z p l e R s m args below meth c g nL cells slots (vx_MQ below (va_Qi post (zB g) (zA g)) XC args s cells slots (zA g)) x (pc) lv ([.int v]) := fun H locs ls hP hS hl =>
  vx_ret (W.zret C.1.1 C.1.2.1 hr hn (fun t ht hW => ⟨⟨v, x, rfl, hp, by show va_P _ _ _ t.heap; rw [ht]; exact hP⟩, hS.F ht⟩) hS.2.2 hdg C.2.2.2.2.2)
theorem z_vretX (pc : Nat) (C : zC p s m args meth c g cc nL own Ts) {post : zT → Prop} {XC : String → State → State → Prop} (hr : meth.sig.returnType = none) (hp : post x) (hdg : decode cc pc = .ok (.return_, 1)) : Z p l e R s m args below meth c g nL cells slots (vx_MQ below (va_Qv post (zB g) (zA g)) XC args s cells slots (zA g)) x (pc) lv ([]) := fun H locs ls hP hS hl =>
  vx_ret (W.vret C.1.1 C.1.2.1 hr (fun t ht hW => ⟨⟨x, rfl, hp, by show va_P _ _ _ t.heap; rw [ht]; exact hP⟩, hS.F ht⟩) hS.2.2 hdg C.2.2.2.2.2)
theorem zpre_at (C : zC p s m args meth c g cc nL own Ts) {H : Heap} {locs : List Loc} {U : State} (hP : va_P g.1 vwCl (zw g x) H) (hS : va_S (zA g) s.heap H locs) (hU : U.heap = H) (hW : s.WarmedH U.vm) : zPre g x U := by
  refine ⟨?_, by rw [hU]; exact hP, va_K.moved hW.alike C.2.1, C.2.2.2.2.1.go hW (by rw [hU]; exact hS)⟩
  rw [hU]
  exact Nat.le_trans C.2.2.2.1 hS.1
theorem zpc_blind {av : List Value} : FrameBlind (va_Pc av (zPre g x)) := fun a U fr mk q => ⟨q.1, q.2.blind⟩
theorem z_callSi (pc : Nat) (C : zC p s m args meth c g cc nL own Ts) {y : MethodName} {bytes : ByteArray} {maxL mc ms index : Nat} {ret : Option FieldType} {ws : List Cond} {rm : Room} {stk As : List Value} {post : Int32 → zT → Prop} (n : Nat) (hM : Met l y ws rm (va_Pc As (zPre g x)) (va_Qi post (zB g) (zA g)) mc ms (zA g)) (cw : CallB R s args own index y bytes maxL ret ws rm mc ms n ∧ (Cond.static y).before args s = true) (hn : As.length = n) (hstk : stk = As.reverse ++ st) (hroom : (st.map fun v => v.category).sum ≤ 8) (hf : cells + mc ≤ R.cells ∧ slots + ms ≤ R.slots) (hdg : decode cc pc = .ok (.invokestatic index, 3))
    (kk : ∀ (r : Int32) (u : zT), post r u → Z p l e R s m args below meth c g nL (cells + mc) (slots + ms) Q u (pc + 3) lv (.int r :: st)) : Z p l e R s m args below meth c g nL cells slots Q x (pc) lv (stk) := fun H locs ls hP hS hl => by
  subst hstk
  exact va_calli (va_runS (As := As) (rest := st) C.1 hM cw ⟨zpc_blind, fun U hU hW => ⟨rfl, zpre_at C hP hS hU hW⟩⟩ rfl hn hl.1 rfl (lv_room hroom) hdg hf) hS (fun q _ h => h) (fun q h => h) (fun r u t H1 locs1 ht hvm hw hB hz1 hk1 hS1 => kk r u hw H1 locs1 ls (by rw [← ht]; exact hB) hS1 hl)
theorem z_callVi (pc : Nat) (C : zC p s m args meth c g cc nL own Ts) {y : MethodName} {bytes : ByteArray} {maxL mc ms index : Nat} {ret : Option FieldType} {ws : List Cond} {rm : Room} {stk As : List Value} {post : Int32 → zT → Prop} (n : Nat) {k ci : Nat} {q9 : vw_C} (hk : kO k ci) (hc : vwCl[ci]? = some q9) (hM : Met l y ws rm (va_Pc (.ref (zad g k) :: As) (zPre g x)) (va_Qi post (zB g) (zA g)) mc ms (zA g)) (cw : CallW R s args own q9.1 index y bytes maxL ret ws rm mc ms n) (hn : As.length = n) (hstk : stk = As.reverse ++ .ref (zad g k) :: st) (hroom : (st.map fun v => v.category).sum ≤ 8) (hf : cells + mc ≤ R.cells ∧ slots + ms ≤ R.slots) (hdg : decode cc pc = .ok (.invokevirtual index, 3))
    (kk : ∀ (r : Int32) (u : zT), post r u → Z p l e R s m args below meth c g nL (cells + mc) (slots + ms) Q u (pc + 3) lv (.int r :: st)) : Z p l e R s m args below meth c g nL cells slots Q x (pc) lv (stk) := fun H locs ls hP hS hl => by
  subst hstk
  obtain ⟨fs, h1⟩ := hk.2 g (x.1 k) (x.2.1 k) x.2.2
  exact va_calli (va_runV (As := As) (rest := st) C.1 hM cw ⟨zpc_blind, va_recv C.2.1 hP (q0 := k) hc (by rw [zw_get hk.1, h1]), fun U hU hW => ⟨rfl, zpre_at C hP hS hU hW⟩⟩ rfl hn hl.1 rfl (lv_room hroom) hdg hf) hS (fun q _ h => h) (fun q h => h) (fun r u t H1 locs1 ht hvm hw hB hz1 hk1 hS1 => kk r u hw H1 locs1 ls (by rw [← ht]; exact hB) hS1 hl)
theorem z_callSl (pc : Nat) (C : zC p s m args meth c g cc nL own Ts) {y : MethodName} {bytes : ByteArray} {maxL mc ms index : Nat} {ret : Option FieldType} {ws : List Cond} {rm : Room} {stk As : List Value} {post : Int64 → zT → Prop} (n : Nat) (hM : Met l y ws rm (va_Pc As (zPre g x)) (va_Ql post (zB g) (zA g)) mc ms (zA g)) (cw : CallB R s args own index y bytes maxL ret ws rm mc ms n ∧ (Cond.static y).before args s = true) (hn : As.length = n) (hstk : stk = As.reverse ++ st) (hroom : (st.map fun v => v.category).sum ≤ 8) (hf : cells + mc ≤ R.cells ∧ slots + ms ≤ R.slots) (hdg : decode cc pc = .ok (.invokestatic index, 3))
    (kk : ∀ (r : Int64) (u : zT), post r u → Z p l e R s m args below meth c g nL (cells + mc) (slots + ms) Q u (pc + 3) lv (.long r :: st)) : Z p l e R s m args below meth c g nL cells slots Q x (pc) lv (stk) := fun H locs ls hP hS hl => by
  subst hstk
  exact va_calll (va_runS (As := As) (rest := st) C.1 hM cw ⟨zpc_blind, fun U hU hW => ⟨rfl, zpre_at C hP hS hU hW⟩⟩ rfl hn hl.1 rfl (lv_room hroom) hdg hf) hS (fun q _ h => h) (fun q h => h) (fun r u t H1 locs1 ht hvm hw hB hz1 hk1 hS1 => kk r u hw H1 locs1 ls (by rw [← ht]; exact hB) hS1 hl)
theorem z_callVl (pc : Nat) (C : zC p s m args meth c g cc nL own Ts) {y : MethodName} {bytes : ByteArray} {maxL mc ms index : Nat} {ret : Option FieldType} {ws : List Cond} {rm : Room} {stk As : List Value} {post : Int64 → zT → Prop} (n : Nat) {k ci : Nat} {q9 : vw_C} (hk : kO k ci) (hc : vwCl[ci]? = some q9) (hM : Met l y ws rm (va_Pc (.ref (zad g k) :: As) (zPre g x)) (va_Ql post (zB g) (zA g)) mc ms (zA g)) (cw : CallW R s args own q9.1 index y bytes maxL ret ws rm mc ms n) (hn : As.length = n) (hstk : stk = As.reverse ++ .ref (zad g k) :: st) (hroom : (st.map fun v => v.category).sum ≤ 8) (hf : cells + mc ≤ R.cells ∧ slots + ms ≤ R.slots) (hdg : decode cc pc = .ok (.invokevirtual index, 3))
    (kk : ∀ (r : Int64) (u : zT), post r u → Z p l e R s m args below meth c g nL (cells + mc) (slots + ms) Q u (pc + 3) lv (.long r :: st)) : Z p l e R s m args below meth c g nL cells slots Q x (pc) lv (stk) := fun H locs ls hP hS hl => by
  subst hstk
  obtain ⟨fs, h1⟩ := hk.2 g (x.1 k) (x.2.1 k) x.2.2
  exact va_calll (va_runV (As := As) (rest := st) C.1 hM cw ⟨zpc_blind, va_recv C.2.1 hP (q0 := k) hc (by rw [zw_get hk.1, h1]), fun U hU hW => ⟨rfl, zpre_at C hP hS hU hW⟩⟩ rfl hn hl.1 rfl (lv_room hroom) hdg hf) hS (fun q _ h => h) (fun q h => h) (fun r u t H1 locs1 ht hvm hw hB hz1 hk1 hS1 => kk r u hw H1 locs1 ls (by rw [← ht]; exact hB) hS1 hl)
theorem z_callSd (pc : Nat) (C : zC p s m args meth c g cc nL own Ts) {y : MethodName} {bytes : ByteArray} {maxL mc ms index : Nat} {ret : Option FieldType} {ws : List Cond} {rm : Room} {stk As : List Value} {post : UInt64 → zT → Prop} (n : Nat) (hM : Met l y ws rm (va_Pc As (zPre g x)) (va_Qd post (zB g) (zA g)) mc ms (zA g)) (cw : CallB R s args own index y bytes maxL ret ws rm mc ms n ∧ (Cond.static y).before args s = true) (hn : As.length = n) (hstk : stk = As.reverse ++ st) (hroom : (st.map fun v => v.category).sum ≤ 8) (hf : cells + mc ≤ R.cells ∧ slots + ms ≤ R.slots) (hdg : decode cc pc = .ok (.invokestatic index, 3))
    (kk : ∀ (r : UInt64) (u : zT), post r u → Z p l e R s m args below meth c g nL (cells + mc) (slots + ms) Q u (pc + 3) lv (.double r :: st)) : Z p l e R s m args below meth c g nL cells slots Q x (pc) lv (stk) := fun H locs ls hP hS hl => by
  subst hstk
  exact va_calld (va_runS (As := As) (rest := st) C.1 hM cw ⟨zpc_blind, fun U hU hW => ⟨rfl, zpre_at C hP hS hU hW⟩⟩ rfl hn hl.1 rfl (lv_room hroom) hdg hf) hS (fun q _ h => h) (fun q h => h) (fun r u t H1 locs1 ht hvm hw hB hz1 hk1 hS1 => kk r u hw H1 locs1 ls (by rw [← ht]; exact hB) hS1 hl)
theorem z_callVd (pc : Nat) (C : zC p s m args meth c g cc nL own Ts) {y : MethodName} {bytes : ByteArray} {maxL mc ms index : Nat} {ret : Option FieldType} {ws : List Cond} {rm : Room} {stk As : List Value} {post : UInt64 → zT → Prop} (n : Nat) {k ci : Nat} {q9 : vw_C} (hk : kO k ci) (hc : vwCl[ci]? = some q9) (hM : Met l y ws rm (va_Pc (.ref (zad g k) :: As) (zPre g x)) (va_Qd post (zB g) (zA g)) mc ms (zA g)) (cw : CallW R s args own q9.1 index y bytes maxL ret ws rm mc ms n) (hn : As.length = n) (hstk : stk = As.reverse ++ .ref (zad g k) :: st) (hroom : (st.map fun v => v.category).sum ≤ 8) (hf : cells + mc ≤ R.cells ∧ slots + ms ≤ R.slots) (hdg : decode cc pc = .ok (.invokevirtual index, 3))
    (kk : ∀ (r : UInt64) (u : zT), post r u → Z p l e R s m args below meth c g nL (cells + mc) (slots + ms) Q u (pc + 3) lv (.double r :: st)) : Z p l e R s m args below meth c g nL cells slots Q x (pc) lv (stk) := fun H locs ls hP hS hl => by
  subst hstk
  obtain ⟨fs, h1⟩ := hk.2 g (x.1 k) (x.2.1 k) x.2.2
  exact va_calld (va_runV (As := As) (rest := st) C.1 hM cw ⟨zpc_blind, va_recv C.2.1 hP (q0 := k) hc (by rw [zw_get hk.1, h1]), fun U hU hW => ⟨rfl, zpre_at C hP hS hU hW⟩⟩ rfl hn hl.1 rfl (lv_room hroom) hdg hf) hS (fun q _ h => h) (fun q h => h) (fun r u t H1 locs1 ht hvm hw hB hz1 hk1 hS1 => kk r u hw H1 locs1 ls (by rw [← ht]; exact hB) hS1 hl)
theorem z_callSv (pc : Nat) (C : zC p s m args meth c g cc nL own Ts) {y : MethodName} {bytes : ByteArray} {maxL mc ms index : Nat} {ret : Option FieldType} {ws : List Cond} {rm : Room} {stk As : List Value} {post : zT → Prop} (n : Nat) (hM : Met l y ws rm (va_Pc As (zPre g x)) (va_Qv post (zB g) (zA g)) mc ms (zA g)) (cw : CallB R s args own index y bytes maxL ret ws rm mc ms n ∧ (Cond.static y).before args s = true) (hn : As.length = n) (hstk : stk = As.reverse ++ st) (hroom : (st.map fun v => v.category).sum ≤ 8) (hf : cells + mc ≤ R.cells ∧ slots + ms ≤ R.slots) (hdg : decode cc pc = .ok (.invokestatic index, 3))
    (kk : ∀ (u : zT), post u → Z p l e R s m args below meth c g nL (cells + mc) (slots + ms) Q u (pc + 3) lv (st)) : Z p l e R s m args below meth c g nL cells slots Q x (pc) lv (stk) := fun H locs ls hP hS hl => by
  subst hstk
  exact va_callv (va_runS (As := As) (rest := st) C.1 hM cw ⟨zpc_blind, fun U hU hW => ⟨rfl, zpre_at C hP hS hU hW⟩⟩ rfl hn hl.1 rfl (lv_room hroom) hdg hf) hS (fun q _ h => h) (fun q h => h) (fun u t H1 locs1 ht hvm hw hB hz1 hk1 hS1 => kk u hw H1 locs1 ls (by rw [← ht]; exact hB) hS1 hl)
theorem z_callVv (pc : Nat) (C : zC p s m args meth c g cc nL own Ts) {y : MethodName} {bytes : ByteArray} {maxL mc ms index : Nat} {ret : Option FieldType} {ws : List Cond} {rm : Room} {stk As : List Value} {post : zT → Prop} (n : Nat) {k ci : Nat} {q9 : vw_C} (hk : kO k ci) (hc : vwCl[ci]? = some q9) (hM : Met l y ws rm (va_Pc (.ref (zad g k) :: As) (zPre g x)) (va_Qv post (zB g) (zA g)) mc ms (zA g)) (cw : CallW R s args own q9.1 index y bytes maxL ret ws rm mc ms n) (hn : As.length = n) (hstk : stk = As.reverse ++ .ref (zad g k) :: st) (hroom : (st.map fun v => v.category).sum ≤ 8) (hf : cells + mc ≤ R.cells ∧ slots + ms ≤ R.slots) (hdg : decode cc pc = .ok (.invokevirtual index, 3))
    (kk : ∀ (u : zT), post u → Z p l e R s m args below meth c g nL (cells + mc) (slots + ms) Q u (pc + 3) lv (st)) : Z p l e R s m args below meth c g nL cells slots Q x (pc) lv (stk) := fun H locs ls hP hS hl => by
  subst hstk
  obtain ⟨fs, h1⟩ := hk.2 g (x.1 k) (x.2.1 k) x.2.2
  exact va_callv (va_runV (As := As) (rest := st) C.1 hM cw ⟨zpc_blind, va_recv C.2.1 hP (q0 := k) hc (by rw [zw_get hk.1, h1]), fun U hU hW => ⟨rfl, zpre_at C hP hS hU hW⟩⟩ rfl hn hl.1 rfl (lv_room hroom) hdg hf) hS (fun q _ h => h) (fun q h => h) (fun u t H1 locs1 ht hvm hw hB hz1 hk1 hS1 => kk u hw H1 locs1 ls (by rw [← ht]; exact hB) hS1 hl)
theorem z_mmin (pc : Nat) (C : zC p s m args meth c g cc nL own Ts) {index : Nat} {a b v : Int32} (hlink : (Cond.methodLink own index Lib.Math.min.name).before args s = true) (hstat : (Cond.static Lib.Math.min.name).before args s = true) (hini : (Cond.initialized "java/lang/Math").before args s = true) (hcode : (Cond.code Lib.Math.min.name Lib.Math.min.code 2 (some .int)).before args s = true)
    (hframes : 1 ≤ R.frames) (hlocals : (st.map fun v => v.category).sum + 13 ≤ R.locals) (hc : cells ≤ R.cells ∧ slots ≤ R.slots) (hv : (if b < a then b else a) = v) (hdg : decode cc pc = .ok (.invokestatic index, 3))
    (kk : Z p l e R s m args below meth c g nL cells slots Q x (pc + 3) lv (.int v :: st)) : Z p l e R s m args below meth c g nL cells slots Q x (pc) lv (.int b :: .int a :: st) := fun H locs ls hP hS hl =>
  va_mmin C.1.1 C.1.2.1 (C.1.2.2.1.trans hl.1.symm) C.1.2.2.2.1 hlink hstat hini hcode hframes hlocals hc.1 hc.2 hdg (by rw [hv]; exact kk H locs ls hP hS hl)
theorem z_mmax (pc : Nat) (C : zC p s m args meth c g cc nL own Ts) {index : Nat} {a b v : Int32} (hlink : (Cond.methodLink own index Lib.Math.max.name).before args s = true) (hstat : (Cond.static Lib.Math.max.name).before args s = true) (hini : (Cond.initialized "java/lang/Math").before args s = true) (hcode : (Cond.code Lib.Math.max.name Lib.Math.max.code 2 (some .int)).before args s = true)
    (hframes : 1 ≤ R.frames) (hlocals : (st.map fun v => v.category).sum + 13 ≤ R.locals) (hc : cells ≤ R.cells ∧ slots ≤ R.slots) (hv : (if a < b then b else a) = v) (hdg : decode cc pc = .ok (.invokestatic index, 3))
    (kk : Z p l e R s m args below meth c g nL cells slots Q x (pc + 3) lv (.int v :: st)) : Z p l e R s m args below meth c g nL cells slots Q x (pc) lv (.int b :: .int a :: st) := fun H locs ls hP hS hl =>
  va_mmax C.1.1 C.1.2.1 (C.1.2.2.1.trans hl.1.symm) C.1.2.2.2.1 hlink hstat hini hcode hframes hlocals hc.1 hc.2 hdg (by rw [hv]; exact kk H locs ls hP hS hl)
end ZHEAP
/-- a contract out of its body -/
theorem z_met {l : Launch} {g : zG} {x : zT} {y : MethodName} {ws ws' : List Cond} {rm : Room} {av : List Value} {Qc : Array Value → State → Outcome → State → Prop} {mc ms : Nat} {cc : ByteArray} {nL : Nat} {ret : Option FieldType} (hg : zOk g) (hy : plainName y.cls = true) (hw : ws = Cond.code y cc nL ret :: ws') (hav : (lg_sl av).length ≤ nL)
    (body : ∀ (p : Program) (e : Env) (s : State) (m : MethodId) (args : Array Value) (below : List Frame) (meth : Method) (c : Code), zC p s m args meth c g cc nL y.cls ws → meth.sig.returnType = ret → Z p l e (headSpec ws rm).room s m args below meth c g nL 0 0 (MQ below Qc args s mc ms (zA g)) x 0 (lv_args 0 av) []) : Met l y ws rm (va_Pc av (zPre g x)) Qc mc ms (zA g) := by
  refine Met.ofW (cc := cc) (maxL := nL) (ret := ret) hy hw ?_
  intro p e s m args below meth c s₁ B hml hv
  obtain ⟨rfl, h1, h2, h3, h4⟩ := hv
  have hl := lv_entry av (n := nL) hav
  rw [lg_entry_eq]
  exact body p e s m _ below meth c ⟨⟨B.exec, B.bytes, hml, findClass_of_methodNamed B.named, atoms_spec (ws := ws) B.pre⟩, h3, hg, h1, h4, B.notSynchronized⟩ B.returns s.heap [] _ h2 va_S.rf hl
end
section
/-! ===== sums, the tree of halves ===== -/
def zsum (f : Nat → Int32) (a : Nat) : Nat → Int32
  | 0 => 0
  | n + 1 => zsum f a n + f (a + n)
def zsumL (f : Nat → Int64) (a : Nat) : Nat → Int64
  | 0 => 0
  | n + 1 => zsumL f a n + f (a + n)
theorem zsum_s (f : Nat → Int32) {a i : Nat} (h : a ≤ i) : zsum f a (i + 1 - a) = zsum f a (i - a) + f i := by
  rw [show i + 1 - a = (i - a) + 1 by omega]
  show zsum f a (i - a) + f (a + (i - a)) = _
  rw [show a + (i - a) = i by omega]
theorem zsumL_s (f : Nat → Int64) {a i : Nat} (h : a ≤ i) : zsumL f a (i + 1 - a) = zsumL f a (i - a) + f i := by
  rw [show i + 1 - a = (i - a) + 1 by omega]
  show zsumL f a (i - a) + f (a + (i - a)) = _
  rw [show a + (i - a) = i by omega]
theorem zsum_congr {f g : Nat → Int32} {a : Nat} : ∀ {n : Nat}, (∀ k, a ≤ k → k < a + n → f k = g k) → zsum f a n = zsum g a n
  | 0, _ => rfl
  | n + 1, h => by
    show zsum f a n + f (a + n) = zsum g a n + g (a + n)
    rw [zsum_congr (n := n) (fun k h1 h2 => h k h1 (by omega)), h (a + n) (by omega) (by omega)]
theorem zsumL_congr {f g : Nat → Int64} {a : Nat} : ∀ {n : Nat}, (∀ k, a ≤ k → k < a + n → f k = g k) → zsumL f a n = zsumL g a n
  | 0, _ => rfl
  | n + 1, h => by
    show zsumL f a n + f (a + n) = zsumL g a n + g (a + n)
    rw [zsumL_congr (n := n) (fun k h1 h2 => h k h1 (by omega)), h (a + n) (by omega) (by omega)]
theorem zsum_app (f : Nat → Int32) (a m : Nat) : ∀ n : Nat, zsum f a (m + n) = zsum f a m + zsum f (a + m) n
  | 0 => by
    show zsum f a m = zsum f a m + 0
    rw [Int32.add_zero]
  | n + 1 => by
    show zsum f a (m + n) + f (a + (m + n)) = zsum f a m + (zsum f (a + m) n + f (a + m + n))
    rw [zsum_app f a m n, Int32.add_assoc, Nat.add_assoc]
/-- the counts of the halves: c on the leaves, every other one the sum of its two parts -/
def zTree (f c : Nat → Int32) : Prop := (∀ k, k < 64 → f (64 + k) = c k) ∧ ∀ q, 1 ≤ q → q < 64 → f q = f (2 * q) + f (2 * q + 1)
theorem zTree_half {f c : Nat → Int32} (h : zTree f c) : ∀ lev half : Nat, lev ≤ 6 → half < 64 / 2 ^ lev → f (64 / 2 ^ lev + half) = zsum c (half * 2 ^ lev) (2 ^ lev)
  | 0, half, _, hh => by
    have h1 : half < 64 := by simpa using hh
    rw [show 64 / 2 ^ 0 = 64 by decide, h.1 half h1]
    show _ = zsum c (half * 1) 0 + c (half * 1 + 0)
    rw [show zsum c (half * 1) 0 = 0 from rfl, Int32.zero_add, Nat.mul_one, Nat.add_zero]
  | lev + 1, half, hl, hh => by
    have e9 : lev = 0 ∨ lev = 1 ∨ lev = 2 ∨ lev = 3 ∨ lev = 4 ∨ lev = 5 := by omega
    have e1 : 64 / 2 ^ lev = 2 * (64 / 2 ^ (lev + 1)) := by rcases e9 with e | e | e | e | e | e <;> subst e <;> decide
    have e2 : 1 ≤ 64 / 2 ^ (lev + 1) := by rcases e9 with e | e | e | e | e | e <;> subst e <;> decide
    have e3 : 64 / 2 ^ (lev + 1) ≤ 32 := by rcases e9 with e | e | e | e | e | e <;> subst e <;> decide
    have h1 := zTree_half h lev (2 * half) (by omega) (by omega)
    have h2 := zTree_half h lev (2 * half + 1) (by omega) (by omega)
    rw [h.2 _ (by omega) (by omega), show 2 * (64 / 2 ^ (lev + 1) + half) = 64 / 2 ^ lev + 2 * half by omega, show 64 / 2 ^ lev + 2 * half + 1 = 64 / 2 ^ lev + (2 * half + 1) by omega, h1, h2]
    have e4 : 2 ^ (lev + 1) = 2 ^ lev + 2 ^ lev := by rw [Nat.pow_succ]; omega
    rw [e4, zsum_app]
    congr 2
    · rw [Nat.mul_add, Nat.mul_comm 2 half, Nat.mul_assoc, Nat.two_mul, Nat.mul_add]
    · rw [Nat.mul_add, Nat.add_mul, Nat.one_mul, Nat.mul_comm 2 half, Nat.mul_assoc, Nat.two_mul, Nat.mul_add]
/-- on the way up: every node but q, and those above it, is right already -/
def zTreeU (f c : Nat → Int32) (w : Int32) (q : Nat) : Prop := (∀ k, k < 64 → f (64 + k) + (if 64 + k = q then w else 0) = c k) ∧ ∀ p, 1 ≤ p → p < 64 → f p + (if p = q then w else 0) = f (2 * p) + f (2 * p + 1)
theorem zTreeU_0 {f c : Nat → Int32} {w : Int32} {i : Nat} (h : zTree f c) : zTreeU f (upd c i (c i + w)) w (64 + i) := by
  refine ⟨fun k hk => ?_, fun p h1 h2 => ?_⟩
  · by_cases e : k = i
    · subst e
      rw [if_pos rfl, h.1 k hk, pk_us]
    · rw [if_neg (by omega), pk_un e, h.1 k hk, Int32.add_zero]
  · rw [if_neg (by omega), Int32.add_zero, h.2 p h1 h2]
theorem zTreeU_s {f c : Nat → Int32} {w : Int32} {q : Nat} (hq : 1 ≤ q) (hq2 : q < 128) (h : zTreeU f c w q) : zTreeU (upd f q (f q + w)) c w (q / 2) := by
  refine ⟨fun k hk => ?_, fun p h1 h2 => ?_⟩
  · by_cases e : 64 + k = q
    · subst e
      have h3 := h.1 k hk
      rw [if_pos rfl] at h3
      rw [pk_us, if_neg (by omega), Int32.add_zero, h3]
    · have h3 := h.1 k hk
      rw [if_neg e, Int32.add_zero] at h3
      rw [pk_un e, if_neg (by omega), Int32.add_zero, h3]
  · have h3 := h.2 p h1 h2
    by_cases e : p = q
    · subst e
      rw [if_pos rfl] at h3
      rw [pk_us, if_neg (by omega), Int32.add_zero, pk_un (by omega), pk_un (by omega), h3]
    · rw [if_neg e, Int32.add_zero] at h3
      rw [pk_un e]
      by_cases e2 : p = q / 2
      · rw [if_pos e2, h3]
        by_cases e3 : 2 * p = q
        · rw [e3, pk_us, pk_un (by omega), Int32.add_assoc, Int32.add_comm (f (q + 1)) w, Int32.add_assoc]
        · have e4 : 2 * p + 1 = q := by omega
          rw [e4, pk_us, pk_un (by omega), Int32.add_assoc]
      · rw [if_neg e2, Int32.add_zero, pk_un (by omega), pk_un (by omega), h3]
theorem zTreeU_e {f c : Nat → Int32} {w : Int32} (h : zTreeU f c w 0) : zTree f c := by
  refine ⟨fun k hk => ?_, fun p h1 h2 => ?_⟩
  · have h3 := h.1 k hk
    rw [if_neg (by omega), Int32.add_zero] at h3
    exact h3
  · have h3 := h.2 p h1 h2
    rw [if_neg (by omega), Int32.add_zero] at h3
    exact h3
theorem zTree_add {f f' c c' : Nat → Int32} (h : zTree f c) (h' : zTree f' c') {F : Nat → Int32} (hF : ∀ q, q < 128 → F q = f q + f' q) : zTree F (fun k => c k + c' k) := by
  refine ⟨fun k hk => ?_, fun p h1 h2 => ?_⟩
  · show F (64 + k) = c k + c' k
    rw [hF _ (by omega), h.1 k hk, h'.1 k hk]
  · rw [hF p (by omega), hF _ (by omega), hF _ (by omega), h.2 p h1 h2, h'.2 p h1 h2]
    ac_rfl
theorem zTree_0 {F : Nat → Int32} (hF : ∀ q, q < 128 → F q = 0) : zTree F (fun _ => 0) := by
  refine ⟨fun k hk => hF _ (by omega), fun p h1 h2 => ?_⟩
  rw [hF p (by omega), hF _ (by omega), hF _ (by omega)]
  rfl
end
section
theorem zfill_s {f : Nat → Int32} {v : Int32} {i : Nat} (h : ∀ q, q < i → f q = v) : ∀ q, q < i + 1 → upd f i v q = v := fun q hq => by
  by_cases e : q = i
  · subst e; exact pk_us
  · rw [pk_un e]; exact h q (by omega)
set_option maxHeartbeats 4000000 in
set_option maxRecDepth 100000 in
/-- Arrays.fill of an array of the world -/
theorem c_fill (l : Launch) {g : zG} (hg : zOk g) (x : zT) (k n : Nat) (v : Int32) (hk : kI k n) : Met l yJ7_fill_53178 wsJ7_fill_53178 ({ frames := 0, cells := 0, slots := 0, locals := 0 }) (va_Pc [.ref (zad g k), .int v] (zPre g x)) (va_Qv (fun u : zT => ∃ f : Nat → Int32, u = xi x k f ∧ ∀ q, q < n → f q = v) (zB g) (zA g)) 0 0 (zA g) := by
  refine z_met (cc := cJ7_fill_53178) (nL := 4) (ret := none) hg (by decide) rfl (Nat.le_of_ble_eq_true rfl) ?_
  intro p_ e_ s_ m_ args_ below_ meth_ c_ C hr
  show Z p_ l e_ _ s_ m_ args_ below_ meth_ c_ g 4 0 0 _ x 0 [(0, .ref (zad g k)), (1, .int v)] []
  have hn9 := hk.1.2
  refine z_iconst (v := nI 0) 0 C dJ7_fill_53178_0 rfl ?_
  refine z_istore_n (lv' := [(2, .int (nI 0)), (0, .ref (zad g k)), (1, .int v)]) 1 C dJ7_fill_53178_1 rfl (by decide) rfl ?_
  refine z_aload_n 2 C dJ7_fill_53178_2 rfl 1 rfl ?_
  refine z_ialen 3 C hk dJ7_fill_53178_3 ?_
  refine z_istore_n (lv' := [(3, .int (nI n)), (2, .int (nI 0)), (0, .ref (zad g k)), (1, .int v)]) 4 C dJ7_fill_53178_4 rfl (by decide) rfl ?_
  refine z_x (y := (xi x k (x.1 k))) (xi_idf rfl) ?_
  have J5 : ∀ (n5 : Nat) (i : Nat) (f : Nat → Int32), (i ≤ n) → (n < i + n5) → (∀ q, q < i → f q = v) → Z p_ l e_ (headSpec wsJ7_fill_53178 ({ frames := 0, cells := 0, slots := 0, locals := 0 })).room s_ m_ args_ below_ meth_ c_ g 4 0 0 (MQ below_ (va_Qv (fun u : zT => ∃ f : Nat → Int32, u = xi x k f ∧ ∀ q, q < n → f q = v) (zB g) (zA g)) args_ s_ 0 0 (zA g)) (xi x k f) 5 [(0, .ref (zad g k)), (1, .int v), (2, .int (nI i)), (3, .int (nI n))] [] := by
    intro n5
    induction n5 with
    | zero => intro i f hi hn hf; exact absurd hn (by omega)
    | succ n5 ih5 =>
      intro i f hi hn hf
      refine z_iload_n 5 C dJ7_fill_53178_5 rfl 2 rfl ?_
      refine z_iload_n 6 C dJ7_fill_53178_6 rfl 3 rfl ?_
      refine z_icmp_geN 7 C 20 dJ7_fill_53178_7 (by decide) (by omega) (by omega) (fun h7 => ?_) (fun h7 => ?_)
      · exact z_vret 20 C hr ⟨f, rfl, fun q hq => hf q (by omega)⟩ dJ7_fill_53178_20
      · refine z_aload_n 10 C dJ7_fill_53178_10 rfl 0 rfl ?_
        refine z_iload_n 11 C dJ7_fill_53178_11 rfl 2 rfl ?_
        refine z_iload_n 12 C dJ7_fill_53178_12 rfl 1 rfl ?_
        obtain ⟨f1, ef1⟩ : ∃ f9 : Nat → Int32, f9 = upd f i v := ⟨_, rfl⟩
        refine z_iast (f := f1) 13 C hk (by omega) (by rw [xi_s]; exact ef1.symm) dJ7_fill_53178_13 ?_
        refine z_x (y := (xi x k f1)) (by rw [xi_xi]) ?_
        refine z_iinc (v' := nI (i + 1)) (lv' := [(2, .int (nI (i + 1))), (0, .ref (zad g k)), (1, .int v), (3, .int (nI n))]) 14 C dJ7_fill_53178_14 (q := 2) rfl (zn_inc i 1) (by decide) rfl ?_
        refine z_goto 17 C 5 dJ7_fill_53178_17 (by decide) ?_
        refine z_lv (lv' := [(0, .ref (zad g k)), (1, .int v), (2, .int (nI (i + 1))), (3, .int (nI n))]) [1, 2, 0, 3] rfl ?_
        exact ih5 (i + 1) f1 (by omega) (by omega) (fun q h => by rw [ef1]; exact zfill_s hf q h)
  refine z_lv (lv' := [(0, .ref (zad g k)), (1, .int v), (2, .int (nI 0)), (3, .int (nI n))]) [2, 3, 1, 0] rfl ?_
  exact J5 (n + 1) 0 (x.1 k) (Nat.zero_le _) (by omega) (fun q h => absurd h (Nat.not_lt_zero q))
set_option maxHeartbeats 4000000 in
set_option maxRecDepth 100000 in
/-- X2_sum -/
theorem c_X2_sum (l : Launch) {g : zG} (hg : zOk g) (x : zT) (j : Nat) (hj : j < 4) : Met l yX2_sum wsX2_sum ({ frames := 0, cells := 0, slots := 0, locals := 0 }) (va_Pc [.ref (zad g (zp j 1))] (zPre g x)) (va_Qi (fun (r : Int32) (u : zT) => u = x ∧ r = x.1 (zp j 2) 1) (zB g) (zA g)) 0 0 (zA g) := by
  refine z_met (cc := cX2_sum) (nL := 1) (ret := (some .int)) hg (by decide) rfl (Nat.le_of_ble_eq_true rfl) ?_
  intro p_ e_ s_ m_ args_ below_ meth_ c_ C hr
  show Z p_ l e_ _ s_ m_ args_ below_ meth_ c_ g 1 0 0 _ x 0 [(0, .ref (zad g (zp j 1)))] []
  have hw_f9 := C.1.2.2.2.2 (.fieldLink RX2 9 "Countcote$PlainCounts" "sums" "[I") (by decide +kernel)
  have hinX2 : ∀ w ∈ wsX20, w ∈ wsX2_sum := by decide +kernel
  refine z_aload_n 0 C dX2_sum_0 rfl 0 rfl ?_
  refine z_getr 1 C (ref := "Countcote$PlainCounts") (T := TX2) (N := 1) (ci := 2) (q := 0) (kR_sums hj) rfl hinX2 (by decide) rfl hw_f9 dX2_sum_1 ?_
  refine z_iconst (v := nI 1) 4 C dX2_sum_4 rfl ?_
  refine z_iald (v := (x.1 (zp j 2)) 1) 5 C (kI_sums hj) (by omega) rfl dX2_sum_5 ?_
  exact z_iret 6 C hr ⟨rfl, rfl⟩ dX2_sum_6
set_option maxHeartbeats 4000000 in
set_option maxRecDepth 100000 in
/-- X2_ofHalf -/
theorem c_X2_ofHalf (l : Launch) {g : zG} (hg : zOk g) (x : zT) (j : Nat) (hj : j < 4) (lev half : Nat) (hv : lev ≤ 6) (hh : half < 64 / 2 ^ lev) : Met l yX2_ofHalf wsX2_ofHalf ({ frames := 0, cells := 0, slots := 0, locals := 0 }) (va_Pc [.ref (zad g (zp j 1)), .int (nI lev), .int (nI half)] (zPre g x)) (va_Qi (fun (r : Int32) (u : zT) => u = x ∧ r = x.1 (zp j 2) (64 / 2 ^ lev + half)) (zB g) (zA g)) 0 0 (zA g) := by
  refine z_met (cc := cX2_ofHalf) (nL := 3) (ret := (some .int)) hg (by decide) rfl (Nat.le_of_ble_eq_true rfl) ?_
  intro p_ e_ s_ m_ args_ below_ meth_ c_ C hr
  show Z p_ l e_ _ s_ m_ args_ below_ meth_ c_ g 3 0 0 _ x 0 [(0, .ref (zad g (zp j 1))), (1, .int (nI lev)), (2, .int (nI half))] []
  have hw_f9 := C.1.2.2.2.2 (.fieldLink RX2 9 "Countcote$PlainCounts" "sums" "[I") (by decide +kernel)
  have hinX2 : ∀ w ∈ wsX20, w ∈ wsX2_ofHalf := by decide +kernel
  have h64 : 64 / 2 ^ lev ≤ 64 := Nat.div_le_self _ _
  refine z_aload_n 0 C dX2_ofHalf_0 rfl 0 rfl ?_
  refine z_getr 1 C (ref := "Countcote$PlainCounts") (T := TX2) (N := 1) (ci := 2) (q := 0) (kR_sums hj) rfl hinX2 (by decide) rfl hw_f9 dX2_ofHalf_1 ?_
  refine z_bipush (v := nI 64) 4 C dX2_ofHalf_4 rfl ?_
  refine z_iload_n 6 C dX2_ofHalf_6 rfl 1 rfl ?_
  refine z_ishr (v := nI (64 / 2 ^ lev)) 7 C dX2_ofHalf_7 (zn_shr 64 lev (by omega) (by omega)) ?_
  refine z_iload_n 8 C dX2_ofHalf_8 rfl 2 rfl ?_
  refine z_iadd (v := nI ((64 / 2 ^ lev) + half)) 9 C dX2_ofHalf_9 (nI_add (64 / 2 ^ lev) half) ?_
  refine z_iald (v := (x.1 (zp j 2)) ((64 / 2 ^ lev) + half)) 10 C (kI_sums hj) (by omega) rfl dX2_ofHalf_10 ?_
  exact z_iret 11 C hr ⟨rfl, rfl⟩ dX2_ofHalf_11
set_option maxHeartbeats 4000000 in
set_option maxRecDepth 100000 in
/-- X2_put -/
theorem c_X2_put (l : Launch) {g : zG} (hg : zOk g) (x : zT) (j : Nat) (hj : j < 4) (i : Nat) (hi : i < 64) (w : Int32) (c : Nat → Int32) (hT : zTree (x.1 (zp j 2)) c) : Met l yX2_put wsX2_put ({ frames := 0, cells := 0, slots := 0, locals := 0 }) (va_Pc [.ref (zad g (zp j 1)), .int (nI i), .int w] (zPre g x)) (va_Qv (fun (u : zT) => ∃ f : Nat → Int32, u = xi x (zp j 2) f ∧ zTree f (upd c i (c i + w))) (zB g) (zA g)) 0 0 (zA g) := by
  refine z_met (cc := cX2_put) (nL := 4) (ret := none) hg (by decide) rfl (Nat.le_of_ble_eq_true rfl) ?_
  intro p_ e_ s_ m_ args_ below_ meth_ c_ C hr
  show Z p_ l e_ _ s_ m_ args_ below_ meth_ c_ g 4 0 0 _ x 0 [(0, .ref (zad g (zp j 1))), (1, .int (nI i)), (2, .int w)] []
  have hw_f9 := C.1.2.2.2.2 (.fieldLink RX2 9 "Countcote$PlainCounts" "sums" "[I") (by decide +kernel)
  have hinX2 : ∀ w ∈ wsX20, w ∈ wsX2_put := by decide +kernel
  refine z_bipush (v := nI 64) 0 C dX2_put_0 rfl ?_
  refine z_iload_n 2 C dX2_put_2 rfl 1 rfl ?_
  refine z_iadd (v := nI (64 + i)) 3 C dX2_put_3 (nI_add 64 i) ?_
  refine z_istore_n (lv' := [(3, .int (nI (64 + i))), (0, .ref (zad g (zp j 1))), (1, .int (nI i)), (2, .int w)]) 4 C dX2_put_4 rfl (by decide) rfl ?_
  refine z_x (y := (xi x (zp j 2) (x.1 (zp j 2)))) (xi_idf rfl) ?_
  have J5 : ∀ (n5 : Nat) (q : Nat) (f : Nat → Int32), (q < 128) → (q < n5) → (zTreeU f (upd c i (c i + w)) w q) → Z p_ l e_ (headSpec wsX2_put ({ frames := 0, cells := 0, slots := 0, locals := 0 })).room s_ m_ args_ below_ meth_ c_ g 4 0 0 (MQ below_ (va_Qv (fun (u : zT) => ∃ f : Nat → Int32, u = xi x (zp j 2) f ∧ zTree f (upd c i (c i + w))) (zB g) (zA g)) args_ s_ 0 0 (zA g)) (xi x (zp j 2) f) 5 [(0, .ref (zad g (zp j 1))), (1, .int (nI i)), (2, .int w), (3, .int (nI q))] [] := by
    intro n5
    induction n5 with
    | zero => intro q f hq hn hU; exact absurd hn (by omega)
    | succ n5 ih5 =>
      intro q f hq hn hU
      refine z_iload_n 5 C dX2_put_5 rfl 3 rfl ?_
      refine z_if_leN 6 C 26 dX2_put_6 (by decide) (by omega) (fun h6 => ?_) (fun h6 => ?_)
      · exact z_vret 26 C hr ⟨f, rfl, zTreeU_e (by rw [Nat.le_zero.mp h6] at hU; exact hU)⟩ dX2_put_26
      · refine z_aload_n 9 C dX2_put_9 rfl 0 rfl ?_
        refine z_getr 10 C (ref := "Countcote$PlainCounts") (T := TX2) (N := 1) (ci := 2) (q := 0) (kR_sums hj) rfl hinX2 (by decide) rfl hw_f9 dX2_put_10 ?_
        refine z_iload_n 13 C dX2_put_13 rfl 3 rfl ?_
        refine z_dup2 14 C dX2_put_14 rfl rfl ?_
        refine z_iald (v := f q) 15 C (kI_sums hj) (by omega) (by rw [xi_s]) dX2_put_15 ?_
        refine z_iload_n 16 C dX2_put_16 rfl 2 rfl ?_
        refine z_iadd (v := (f q) + w) 17 C dX2_put_17 rfl ?_
        obtain ⟨f1, ef1⟩ : ∃ f9 : Nat → Int32, f9 = upd f q ((f q) + w) := ⟨_, rfl⟩
        refine z_iast (f := f1) 18 C (kI_sums hj) (by omega) (by rw [xi_s]; exact ef1.symm) dX2_put_18 ?_
        refine z_x (y := (xi x (zp j 2) f1)) (by rw [xi_xi]) ?_
        refine z_iload_n 19 C dX2_put_19 rfl 3 rfl ?_
        refine z_iconst (v := nI 1) 20 C dX2_put_20 rfl ?_
        refine z_ishr (v := nI (q / 2 ^ 1)) 21 C dX2_put_21 (zn_shr q 1 (by omega) (by omega)) ?_
        refine z_istore_n (lv' := [(3, .int (nI (q / 2 ^ 1))), (0, .ref (zad g (zp j 1))), (1, .int (nI i)), (2, .int w)]) 22 C dX2_put_22 rfl (by decide) rfl ?_
        refine z_goto 23 C 5 dX2_put_23 (by decide) ?_
        refine z_lv (lv' := [(0, .ref (zad g (zp j 1))), (1, .int (nI i)), (2, .int w), (3, .int (nI (q / 2 ^ 1)))]) [1, 2, 3, 0] rfl ?_
        exact ih5 (q / 2) f1 (by omega) (by omega) (by rw [ef1]; exact zTreeU_s (by omega) (by omega) hU)
  refine z_lv (lv' := [(0, .ref (zad g (zp j 1))), (1, .int (nI i)), (2, .int w), (3, .int (nI (64 + i)))]) [1, 2, 3, 0] rfl ?_
  exact J5 (64 + i + 1) (64 + i) (x.1 (zp j 2)) (by omega) (by omega) (zTreeU_0 hT)
theorem zjoin_s {f a b : Nat → Int32} {i n : Nat} (hi : i < n) (h : ∀ q, q < n → f q = if q < i then a q + b q else a q) : ∀ q, q < n → upd f i (f i + b i) q = if q < i + 1 then a q + b q else a q := fun q hq => by
  by_cases e : q = i
  · subst e; rw [pk_us, h q hq, if_neg (Nat.lt_irrefl q), if_pos (by omega)]
  · rw [pk_un e, h q hq]
    by_cases e2 : q < i
    · rw [if_pos e2, if_pos (by omega)]
    · rw [if_neg e2, if_neg (by omega)]
set_option maxHeartbeats 4000000 in
set_option maxRecDepth 100000 in
/-- X2_join -/
theorem c_X2_join (l : Launch) {g : zG} (hg : zOk g) (x : zT) (j o : Nat) (hj : j < 4) (ho : o < 4) (hjo : j ≠ o) : Met l yX2_join wsX2_join ({ frames := 0, cells := 0, slots := 0, locals := 0 }) (va_Pc [.ref (zad g (zp j 1)), .ref (zad g (zp o 1))] (zPre g x)) (va_Qv (fun (u : zT) => ∃ f : Nat → Int32, u = xi x (zp j 2) f ∧ ∀ q, q < 128 → f q = x.1 (zp j 2) q + x.1 (zp o 2) q) (zB g) (zA g)) 0 0 (zA g) := by
  refine z_met (cc := cX2_join) (nL := 3) (ret := none) hg (by decide) rfl (Nat.le_of_ble_eq_true rfl) ?_
  intro p_ e_ s_ m_ args_ below_ meth_ c_ C hr
  show Z p_ l e_ _ s_ m_ args_ below_ meth_ c_ g 3 0 0 _ x 0 [(0, .ref (zad g (zp j 1))), (1, .ref (zad g (zp o 1)))] []
  have hw_f9 := C.1.2.2.2.2 (.fieldLink RX2 9 "Countcote$PlainCounts" "sums" "[I") (by decide +kernel)
  have hinX2 : ∀ w ∈ wsX20, w ∈ wsX2_join := by decide +kernel
  refine z_iconst (v := nI 0) 0 C dX2_join_0 rfl ?_
  refine z_istore_n (lv' := [(2, .int (nI 0)), (0, .ref (zad g (zp j 1))), (1, .ref (zad g (zp o 1)))]) 1 C dX2_join_1 rfl (by decide) rfl ?_
  refine z_x (y := (xi x (zp j 2) (x.1 (zp j 2)))) (xi_idf rfl) ?_
  have J2 : ∀ (n2 : Nat) (i : Nat) (f : Nat → Int32), (i ≤ 128) → (128 < i + n2) → (∀ q, q < 128 → f q = if q < i then x.1 (zp j 2) q + x.1 (zp o 2) q else x.1 (zp j 2) q) → Z p_ l e_ (headSpec wsX2_join ({ frames := 0, cells := 0, slots := 0, locals := 0 })).room s_ m_ args_ below_ meth_ c_ g 3 0 0 (MQ below_ (va_Qv (fun (u : zT) => ∃ f : Nat → Int32, u = xi x (zp j 2) f ∧ ∀ q, q < 128 → f q = x.1 (zp j 2) q + x.1 (zp o 2) q) (zB g) (zA g)) args_ s_ 0 0 (zA g)) (xi x (zp j 2) f) 2 [(0, .ref (zad g (zp j 1))), (1, .ref (zad g (zp o 1))), (2, .int (nI i))] [] := by
    intro n2
    induction n2 with
    | zero => intro i f hi hn hf; exact absurd hn (by omega)
    | succ n2 ih2 =>
      intro i f hi hn hf
      refine z_iload_n 2 C dX2_join_2 rfl 2 rfl ?_
      refine z_aload_n 3 C dX2_join_3 rfl 0 rfl ?_
      refine z_getr 4 C (ref := "Countcote$PlainCounts") (T := TX2) (N := 1) (ci := 2) (q := 0) (kR_sums hj) rfl hinX2 (by decide) rfl hw_f9 dX2_join_4 ?_
      refine z_ialen 7 C (kI_sums hj) dX2_join_7 ?_
      refine z_icmp_geN 8 C 32 dX2_join_8 (by decide) (by omega) (by omega) (fun h8 => ?_) (fun h8 => ?_)
      · exact z_vret 32 C hr ⟨f, rfl, fun q hq => by rw [hf q hq, if_pos (by omega)]⟩ dX2_join_32
      · refine z_aload_n 11 C dX2_join_11 rfl 0 rfl ?_
        refine z_getr 12 C (ref := "Countcote$PlainCounts") (T := TX2) (N := 1) (ci := 2) (q := 0) (kR_sums hj) rfl hinX2 (by decide) rfl hw_f9 dX2_join_12 ?_
        refine z_iload_n 15 C dX2_join_15 rfl 2 rfl ?_
        refine z_dup2 16 C dX2_join_16 rfl rfl ?_
        refine z_iald (v := f i) 17 C (kI_sums hj) (by omega) (by rw [xi_s]) dX2_join_17 ?_
        refine z_aload_n 18 C dX2_join_18 rfl 1 rfl ?_
        refine z_getr 19 C (ref := "Countcote$PlainCounts") (T := TX2) (N := 1) (ci := 2) (q := 0) (kR_sums ho) rfl hinX2 (by decide) rfl hw_f9 dX2_join_19 ?_
        refine z_iload_n 22 C dX2_join_22 rfl 2 rfl ?_
        refine z_iald (v := (x.1 (zp o 2)) i) 23 C (kI_sums ho) (by omega) (by rw [xi_n _ (by unfold zp; omega)]) dX2_join_23 ?_
        refine z_iadd (v := (f i) + ((x.1 (zp o 2)) i)) 24 C dX2_join_24 rfl ?_
        obtain ⟨f1, ef1⟩ : ∃ f9 : Nat → Int32, f9 = upd f i ((f i) + ((x.1 (zp o 2)) i)) := ⟨_, rfl⟩
        refine z_iast (f := f1) 25 C (kI_sums hj) (by omega) (by rw [xi_s]; exact ef1.symm) dX2_join_25 ?_
        refine z_x (y := (xi x (zp j 2) f1)) (by rw [xi_xi]) ?_
        refine z_iinc (v' := nI (i + 1)) (lv' := [(2, .int (nI (i + 1))), (0, .ref (zad g (zp j 1))), (1, .ref (zad g (zp o 1)))]) 26 C dX2_join_26 (q := 2) rfl (zn_inc i 1) (by decide) rfl ?_
        refine z_goto 29 C 2 dX2_join_29 (by decide) ?_
        refine z_lv (lv' := [(0, .ref (zad g (zp j 1))), (1, .ref (zad g (zp o 1))), (2, .int (nI (i + 1)))]) [1, 2, 0] rfl ?_
        exact ih2 (i + 1) f1 (by omega) (by omega) (by rw [ef1]; exact zjoin_s h8 hf)
  refine z_lv (lv' := [(0, .ref (zad g (zp j 1))), (1, .ref (zad g (zp o 1))), (2, .int (nI 0))]) [1, 2, 0] rfl ?_
  exact J2 129 0 (x.1 (zp j 2)) (Nat.zero_le _) (by omega) (fun q _ => by rw [if_neg (Nat.not_lt_zero q)])
set_option maxHeartbeats 4000000 in
set_option maxRecDepth 100000 in
/-- X2_empty -/
theorem c_X2_empty (l : Launch) {g : zG} (hg : zOk g) (x : zT) (j : Nat) (hj : j < 4) : Met l yX2_empty wsX2_empty ({ frames := 1, cells := 0, slots := 0, locals := 23 }) (va_Pc [.ref (zad g (zp j 1))] (zPre g x)) (va_Qv (fun (u : zT) => ∃ f : Nat → Int32, u = xi x (zp j 2) f ∧ ∀ q, q < 128 → f q = 0) (zB g) (zA g)) 0 0 (zA g) := by
  refine z_met (cc := cX2_empty) (nL := 1) (ret := none) hg (by decide) rfl (Nat.le_of_ble_eq_true rfl) ?_
  intro p_ e_ s_ m_ args_ below_ meth_ c_ C hr
  show Z p_ l e_ _ s_ m_ args_ below_ meth_ c_ g 1 0 0 _ x 0 [(0, .ref (zad g (zp j 1)))] []
  have hw_f9 := C.1.2.2.2.2 (.fieldLink RX2 9 "Countcote$PlainCounts" "sums" "[I") (by decide +kernel)
  have hinX2 : ∀ w ∈ wsX20, w ∈ wsX2_empty := by decide +kernel
  refine z_aload_n 0 C dX2_empty_0 rfl 0 rfl ?_
  refine z_getr 1 C (ref := "Countcote$PlainCounts") (T := TX2) (N := 1) (ci := 2) (q := 0) (kR_sums hj) rfl hinX2 (by decide) rfl hw_f9 dX2_empty_1 ?_
  refine z_iconst (v := nI 0) 4 C dX2_empty_4 rfl ?_
  refine z_callSv 5 C (As := [.ref (zad g (zp j 2)), .int (nI 0)]) 2 (c_fill l hg x (zp j 2) 128 (nI 0) (kI_sums hj)) (va_cwS 2 C.1.2.2.2.2 gX2_empty_J7_fill_53178 rfl rfl rfl (by decide +kernel) ⟨Nat.le_of_ble_eq_true rfl, Nat.le_of_ble_eq_true rfl⟩) rfl rfl (Nat.le_of_ble_eq_true rfl) ⟨Nat.le_of_ble_eq_true rfl, Nat.le_of_ble_eq_true rfl⟩ dX2_empty_5 (fun u hu => ?_)
  obtain ⟨f1, rfl, hf2⟩ := hu
  exact z_vret 8 C hr ⟨f1, rfl, hf2⟩ dX2_empty_8
set_option maxHeartbeats 4000000 in
set_option maxRecDepth 100000 in
/-- X2_ofItems -/
theorem c_X2_ofItems (l : Launch) {g : zG} (hg : zOk g) (x : zT) (j : Nat) (hj : j < 4) (a b : Nat) (hab : a ≤ b) (hb : b < 64) : Met l yX2_ofItems wsX2_ofItems ({ frames := 0, cells := 0, slots := 0, locals := 0 }) (va_Pc [.ref (zad g (zp j 1)), .int (nI a), .int (nI b)] (zPre g x)) (va_Qi (fun (r : Int32) (u : zT) => u = x ∧ r = zsum (fun k => x.1 (zp j 2) (64 + k)) a (b + 1 - a)) (zB g) (zA g)) 0 0 (zA g) := by
  refine z_met (cc := cX2_ofItems) (nL := 5) (ret := (some .int)) hg (by decide) rfl (Nat.le_of_ble_eq_true rfl) ?_
  intro p_ e_ s_ m_ args_ below_ meth_ c_ C hr
  show Z p_ l e_ _ s_ m_ args_ below_ meth_ c_ g 5 0 0 _ x 0 [(0, .ref (zad g (zp j 1))), (1, .int (nI a)), (2, .int (nI b))] []
  have hw_f9 := C.1.2.2.2.2 (.fieldLink RX2 9 "Countcote$PlainCounts" "sums" "[I") (by decide +kernel)
  have hinX2 : ∀ w ∈ wsX20, w ∈ wsX2_ofItems := by decide +kernel
  refine z_iconst (v := nI 0) 0 C dX2_ofItems_0 rfl ?_
  refine z_istore_n (lv' := [(3, .int (nI 0)), (0, .ref (zad g (zp j 1))), (1, .int (nI a)), (2, .int (nI b))]) 1 C dX2_ofItems_1 rfl (by decide) rfl ?_
  refine z_iload_n 2 C dX2_ofItems_2 rfl 2 rfl ?_
  refine z_istore (lv' := [(4, .int (nI a)), (3, .int (nI 0)), (0, .ref (zad g (zp j 1))), (1, .int (nI a)), (2, .int (nI b))]) 3 C dX2_ofItems_3 (by decide) rfl ?_
  have J5 : ∀ (n5 : Nat) (i : Nat) (t : Int32), (a ≤ i ∧ i ≤ b + 1) → (b + 1 < i + n5) → (t = zsum (fun k => x.1 (zp j 2) (64 + k)) a (i - a)) → Z p_ l e_ (headSpec wsX2_ofItems ({ frames := 0, cells := 0, slots := 0, locals := 0 })).room s_ m_ args_ below_ meth_ c_ g 5 0 0 (MQ below_ (va_Qi (fun (r : Int32) (u : zT) => u = x ∧ r = zsum (fun k => x.1 (zp j 2) (64 + k)) a (b + 1 - a)) (zB g) (zA g)) args_ s_ 0 0 (zA g)) x 5 [(0, .ref (zad g (zp j 1))), (1, .int (nI a)), (2, .int (nI b)), (3, .int t), (4, .int (nI i))] [] := by
    intro n5
    induction n5 with
    | zero => intro i t hi hn ht; exact absurd hn (by omega)
    | succ n5 ih5 =>
      intro i t hi hn ht
      refine z_iload 5 C dX2_ofItems_5 4 rfl ?_
      refine z_iload_n 7 C dX2_ofItems_7 rfl 2 rfl ?_
      refine z_icmp_gtN 8 C 30 dX2_ofItems_8 (by decide) (by omega) (by omega) (fun h8 => ?_) (fun h8 => ?_)
      · refine z_iload_n 30 C dX2_ofItems_30 rfl 3 rfl ?_
        exact z_iret 31 C hr ⟨rfl, by rw [ht, show i - a = b + 1 - a by omega]⟩ dX2_ofItems_31
      · refine z_iload_n 11 C dX2_ofItems_11 rfl 3 rfl ?_
        refine z_aload_n 12 C dX2_ofItems_12 rfl 0 rfl ?_
        refine z_getr 13 C (ref := "Countcote$PlainCounts") (T := TX2) (N := 1) (ci := 2) (q := 0) (kR_sums hj) rfl hinX2 (by decide) rfl hw_f9 dX2_ofItems_13 ?_
        refine z_bipush (v := nI 64) 16 C dX2_ofItems_16 rfl ?_
        refine z_iload 18 C dX2_ofItems_18 4 rfl ?_
        refine z_iadd (v := nI (64 + i)) 20 C dX2_ofItems_20 (nI_add 64 i) ?_
        refine z_iald (v := (x.1 (zp j 2)) (64 + i)) 21 C (kI_sums hj) (by omega) rfl dX2_ofItems_21 ?_
        refine z_iadd (v := t + ((x.1 (zp j 2)) (64 + i))) 22 C dX2_ofItems_22 rfl ?_
        refine z_istore_n (lv' := [(3, .int (t + ((x.1 (zp j 2)) (64 + i)))), (0, .ref (zad g (zp j 1))), (1, .int (nI a)), (2, .int (nI b)), (4, .int (nI i))]) 23 C dX2_ofItems_23 rfl (by decide) rfl ?_
        refine z_iinc (v' := nI (i + 1)) (lv' := [(4, .int (nI (i + 1))), (3, .int (t + ((x.1 (zp j 2)) (64 + i)))), (0, .ref (zad g (zp j 1))), (1, .int (nI a)), (2, .int (nI b))]) 24 C dX2_ofItems_24 (q := 4) rfl (zn_inc i 1) (by decide) rfl ?_
        refine z_goto 27 C 5 dX2_ofItems_27 (by decide) ?_
        refine z_lv (lv' := [(0, .ref (zad g (zp j 1))), (1, .int (nI a)), (2, .int (nI b)), (3, .int (t + ((x.1 (zp j 2)) (64 + i)))), (4, .int (nI (i + 1)))]) [2, 3, 4, 1, 0] rfl ?_
        exact ih5 (i + 1) (t + ((x.1 (zp j 2)) (64 + i))) (by omega) (by omega) (by rw [ht]; exact (zsum_s _ hi.1).symm)
  refine z_lv (lv' := [(0, .ref (zad g (zp j 1))), (1, .int (nI a)), (2, .int (nI b)), (3, .int (nI 0)), (4, .int (nI a))]) [2, 3, 4, 1, 0] rfl ?_
  exact J5 (b + 2) a 0 ⟨Nat.le_refl _, by omega⟩ (by omega) (by rw [Nat.sub_self]; rfl)
set_option maxHeartbeats 4000000 in
set_option maxRecDepth 100000 in
/-- X2_times -/
theorem c_X2_times (l : Launch) {g : zG} (hg : zOk g) (x : zT) (j o : Nat) (hj : j < 4) (ho : o < 4) : Met l yX2_times wsX2_times ({ frames := 0, cells := 0, slots := 0, locals := 0 }) (va_Pc [.ref (zad g (zp j 1)), .ref (zad g (zp o 1))] (zPre g x)) (va_Ql (fun (r : Int64) (u : zT) => u = x ∧ r = zsumL (fun k => (x.1 (zp j 2) k).toInt64 * (x.1 (zp o 2) k).toInt64) 64 64) (zB g) (zA g)) 0 0 (zA g) := by
  refine z_met (cc := cX2_times) (nL := 5) (ret := (some .long)) hg (by decide) rfl (Nat.le_of_ble_eq_true rfl) ?_
  intro p_ e_ s_ m_ args_ below_ meth_ c_ C hr
  show Z p_ l e_ _ s_ m_ args_ below_ meth_ c_ g 5 0 0 _ x 0 [(0, .ref (zad g (zp j 1))), (1, .ref (zad g (zp o 1)))] []
  have hw_f9 := C.1.2.2.2.2 (.fieldLink RX2 9 "Countcote$PlainCounts" "sums" "[I") (by decide +kernel)
  have hinX2 : ∀ w ∈ wsX20, w ∈ wsX2_times := by decide +kernel
  refine z_lconst (v := 0) 0 C dX2_times_0 rfl ?_
  refine z_lstore_n (lv' := [(2, .long 0), (0, .ref (zad g (zp j 1))), (1, .ref (zad g (zp o 1)))]) 1 C dX2_times_1 rfl (by decide) rfl ?_
  refine z_bipush (v := nI 64) 2 C dX2_times_2 rfl ?_
  refine z_istore (lv' := [(4, .int (nI 64)), (2, .long 0), (0, .ref (zad g (zp j 1))), (1, .ref (zad g (zp o 1)))]) 4 C dX2_times_4 (by decide) rfl ?_
  have J6 : ∀ (n6 : Nat) (i : Nat) (t : Int64), (64 ≤ i ∧ i ≤ 128) → (128 < i + n6) → (t = zsumL (fun k => (x.1 (zp j 2) k).toInt64 * (x.1 (zp o 2) k).toInt64) 64 (i - 64)) → Z p_ l e_ (headSpec wsX2_times ({ frames := 0, cells := 0, slots := 0, locals := 0 })).room s_ m_ args_ below_ meth_ c_ g 5 0 0 (MQ below_ (va_Ql (fun (r : Int64) (u : zT) => u = x ∧ r = zsumL (fun k => (x.1 (zp j 2) k).toInt64 * (x.1 (zp o 2) k).toInt64) 64 64) (zB g) (zA g)) args_ s_ 0 0 (zA g)) x 6 [(0, .ref (zad g (zp j 1))), (1, .ref (zad g (zp o 1))), (2, .long t), (4, .int (nI i))] [] := by
    intro n6
    induction n6 with
    | zero => intro i t hi hn ht; exact absurd hn (by omega)
    | succ n6 ih6 =>
      intro i t hi hn ht
      refine z_iload 6 C dX2_times_6 3 rfl ?_
      refine z_aload_n 8 C dX2_times_8 rfl 0 rfl ?_
      refine z_getr 9 C (ref := "Countcote$PlainCounts") (T := TX2) (N := 1) (ci := 2) (q := 0) (kR_sums hj) rfl hinX2 (by decide) rfl hw_f9 dX2_times_9 ?_
      refine z_ialen 12 C (kI_sums hj) dX2_times_12 ?_
      refine z_icmp_geN 13 C 42 dX2_times_13 (by decide) (by omega) (by omega) (fun h13 => ?_) (fun h13 => ?_)
      · refine z_lload_n 42 C dX2_times_42 rfl 2 rfl ?_
        exact z_lret 43 C hr ⟨rfl, by rw [ht, show i - 64 = 64 by omega]⟩ dX2_times_43
      · refine z_lload_n 16 C dX2_times_16 rfl 2 rfl ?_
        refine z_aload_n 17 C dX2_times_17 rfl 0 rfl ?_
        refine z_getr 18 C (ref := "Countcote$PlainCounts") (T := TX2) (N := 1) (ci := 2) (q := 0) (kR_sums hj) rfl hinX2 (by decide) rfl hw_f9 dX2_times_18 ?_
        refine z_iload 21 C dX2_times_21 3 rfl ?_
        refine z_iald (v := (x.1 (zp j 2)) i) 23 C (kI_sums hj) (by omega) rfl dX2_times_23 ?_
        refine z_i2l (v := ((x.1 (zp j 2)) i).toInt64) 24 C dX2_times_24 rfl ?_
        refine z_aload_n 25 C dX2_times_25 rfl 1 rfl ?_
        refine z_getr 26 C (ref := "Countcote$PlainCounts") (T := TX2) (N := 1) (ci := 2) (q := 0) (kR_sums ho) rfl hinX2 (by decide) rfl hw_f9 dX2_times_26 ?_
        refine z_iload 29 C dX2_times_29 3 rfl ?_
        refine z_iald (v := (x.1 (zp o 2)) i) 31 C (kI_sums ho) (by omega) rfl dX2_times_31 ?_
        refine z_i2l (v := ((x.1 (zp o 2)) i).toInt64) 32 C dX2_times_32 rfl ?_
        refine z_lmul (v := (((x.1 (zp j 2)) i).toInt64) * (((x.1 (zp o 2)) i).toInt64)) 33 C dX2_times_33 rfl ?_
        refine z_ladd (v := t + ((((x.1 (zp j 2)) i).toInt64) * (((x.1 (zp o 2)) i).toInt64))) 34 C dX2_times_34 rfl ?_
        refine z_lstore_n (lv' := [(2, .long (t + ((((x.1 (zp j 2)) i).toInt64) * (((x.1 (zp o 2)) i).toInt64)))), (0, .ref (zad g (zp j 1))), (1, .ref (zad g (zp o 1))), (4, .int (nI i))]) 35 C dX2_times_35 rfl (by decide) rfl ?_
        refine z_iinc (v' := nI (i + 1)) (lv' := [(4, .int (nI (i + 1))), (2, .long (t + ((((x.1 (zp j 2)) i).toInt64) * (((x.1 (zp o 2)) i).toInt64)))), (0, .ref (zad g (zp j 1))), (1, .ref (zad g (zp o 1)))]) 36 C dX2_times_36 (q := 3) rfl (zn_inc i 1) (by decide) rfl ?_
        refine z_goto 39 C 6 dX2_times_39 (by decide) ?_
        refine z_lv (lv' := [(0, .ref (zad g (zp j 1))), (1, .ref (zad g (zp o 1))), (2, .long (t + ((((x.1 (zp j 2)) i).toInt64) * (((x.1 (zp o 2)) i).toInt64)))), (4, .int (nI (i + 1)))]) [2, 3, 1, 0] rfl ?_
        exact ih6 (i + 1) (t + ((((x.1 (zp j 2)) i).toInt64) * (((x.1 (zp o 2)) i).toInt64))) (by omega) (by omega) (by rw [ht]; exact (zsumL_s _ hi.1).symm)
  refine z_lv (lv' := [(0, .ref (zad g (zp j 1))), (1, .ref (zad g (zp o 1))), (2, .long 0), (4, .int (nI 64))]) [2, 3, 1, 0] rfl ?_
  exact J6 129 64 0 ⟨by omega, by omega⟩ (by omega) rfl
end
section
/-! ===== careful sketches ===== -/
def zca (r : Nat) : Nat := if r = 0 then 7 else if r = 1 then 11 else 23
def zcb (r : Nat) : Nat := if r = 0 then 3 else if r = 1 then 19 else 5
theorem zca_t {r : Nat} (h : r < 3) : ([7, 11, 23] : List Int32).getD r 0 = nI (zca r) := by
  have h9 : r = 0 ∨ r = 1 ∨ r = 2 := by omega
  rcases h9 with e | e | e <;> subst e <;> rfl
theorem zcb_t {r : Nat} (h : r < 3) : ([3, 19, 5] : List Int32).getD r 0 = nI (zcb r) := by
  have h9 : r = 0 ∨ r = 1 ∨ r = 2 := by omega
  rcases h9 with e | e | e <;> subst e <;> rfl
def zccol (r h : Nat) : Nat := (zca r * h + zcb r) % 61 % 8
theorem zccol_lt (r h : Nat) : zccol r h < 8 := Nat.mod_lt _ (by decide)
theorem zcab_b {r h : Nat} (hh : h < 64) : zca r * h + zcb r < 2000 := by
  unfold zca zcb
  split
  · omega
  · split <;> omega
def zcp (r h : Nat) : Nat := r * 8 + zccol r h
theorem zcp_lt {r : Nat} (h : Nat) (hr : r < 3) : zcp r h < 24 := by
  have := zccol_lt r h
  unfold zcp
  omega
theorem zcp_ne {r r' h : Nat} (hr : r ≠ r') : zcp r h ≠ zcp r' h := by
  have h1 := zccol_lt r h
  have h2 := zccol_lt r' h
  unfold zcp
  omega
def zmin (a b : Int32) : Int32 := if b < a then b else a
def zmax (a b : Int32) : Int32 := if a < b then b else a
def zleast (f : Nat → Int32) (h : Nat) : Int32 := zmin (zmin (f (zcp 0 h)) (f (zcp 1 h))) (f (zcp 2 h))
def zcput (f : Nat → Int32) (h : Nat) (w : Int32) : Nat → Int32 := fun q => if q = zcp 0 h ∨ q = zcp 1 h ∨ q = zcp 2 h then zmax (f q) (zleast f h + w) else f q
theorem zcput_of {f : Nat → Int32} {h : Nat} {R : Int32} {w : Int32} (hR : R = zleast f h + w) {f1 f2 f3 : Nat → Int32} {v1 v2 v3 : Int32} (e1 : f1 = upd f (zcp 0 h) v1) (e2 : f2 = upd f1 (zcp 1 h) v2) (e3 : f3 = upd f2 (zcp 2 h) v3) (g1 : (if f (zcp 0 h) < R then R else f (zcp 0 h)) = v1) (g2 : (if f1 (zcp 1 h) < R then R else f1 (zcp 1 h)) = v2) (g3 : (if f2 (zcp 2 h) < R then R else f2 (zcp 2 h)) = v3) : f3 = zcput f h w := by
  have n01 : zcp 0 h ≠ zcp 1 h := zcp_ne (by decide)
  have n02 : zcp 0 h ≠ zcp 2 h := zcp_ne (by decide)
  have n12 : zcp 1 h ≠ zcp 2 h := zcp_ne (by decide)
  subst hR
  funext q
  unfold zcput
  rw [e3]
  by_cases c2 : q = zcp 2 h
  · subst c2
    rw [pk_us, if_pos (Or.inr (Or.inr rfl)), ← g3, e2, pk_un (Ne.symm n12), e1, pk_un (Ne.symm n02)]
    rfl
  · rw [pk_un c2, e2]
    by_cases c1 : q = zcp 1 h
    · subst c1
      rw [pk_us, if_pos (Or.inr (Or.inl rfl)), ← g2, e1, pk_un (Ne.symm n01)]
      rfl
    · rw [pk_un c1, e1]
      by_cases c0 : q = zcp 0 h
      · subst c0
        rw [pk_us, if_pos (Or.inl rfl), ← g1]
        rfl
      · rw [pk_un c0, if_neg (fun z => z.elim c0 (fun z => z.elim c1 c2))]
set_option maxHeartbeats 4000000 in
set_option maxRecDepth 100000 in
/-- X0_columnOf -/
theorem c_X0_columnOf (l : Launch) {g : zG} (hg : zOk g) (x : zT) (row half : Nat) (hrow : row < 3) (hhalf : half < 64) : Met l yX0_columnOf wsX0_columnOf ({ frames := 0, cells := 0, slots := 0, locals := 0 }) (va_Pc [.int (nI row), .int (nI half)] (zPre g x)) (va_Qi (fun (r : Int32) (u : zT) => u = x ∧ r = nI (zccol row half)) (zB g) (zA g)) 0 0 (zA g) := by
  refine z_met (cc := cX0_columnOf) (nL := 2) (ret := (some .int)) hg (by decide) rfl (Nat.le_of_ble_eq_true rfl) ?_
  intro p_ e_ s_ m_ args_ below_ meth_ c_ C hr
  show Z p_ l e_ _ s_ m_ args_ below_ meth_ c_ g 2 0 0 _ x 0 [(0, .int (nI row)), (1, .int (nI half))] []
  have hw_f13 := C.1.2.2.2.2 (.fieldLink RX0 13 "Countcote$CarefulSketch" "FACTORS" "[I") (by decide +kernel)
  have hw_f16 := C.1.2.2.2.2 (.fieldLink RX0 16 "Countcote$CarefulSketch" "SHIFTS" "[I") (by decide +kernel)
  have hb9 := zcab_b (r := row) hhalf
  refine z_gets 0 C (n := 0) rfl hw_f13 dX0_columnOf_0 (fun t1 hT2 => ?_)
  refine z_iload_n 3 C dX0_columnOf_3 rfl 0 rfl ?_
  refine z_tld (v := nI (zca row)) 4 C hT2 (show row < 3 from hrow) (by decide) (zca_t hrow) dX0_columnOf_4 ?_
  refine z_iload_n 5 C dX0_columnOf_5 rfl 1 rfl ?_
  refine z_imul (v := nI ((zca row) * half)) 6 C dX0_columnOf_6 (pk_mul (zca row) half) ?_
  refine z_gets 7 C (n := 1) rfl hw_f16 dX0_columnOf_7 (fun t3 hT4 => ?_)
  refine z_iload_n 10 C dX0_columnOf_10 rfl 0 rfl ?_
  refine z_tld (v := nI (zcb row)) 11 C hT4 (show row < 3 from hrow) (by decide) (zcb_t hrow) dX0_columnOf_11 ?_
  refine z_iadd (v := nI (((zca row) * half) + (zcb row))) 12 C dX0_columnOf_12 (nI_add ((zca row) * half) (zcb row)) ?_
  refine z_bipush (v := nI 61) 13 C dX0_columnOf_13 rfl ?_
  refine z_irem (v := nI ((((zca row) * half) + (zcb row)) % 61)) 15 C dX0_columnOf_15 (by decide) (pk_rem (by omega) (by omega) (by omega)) ?_
  refine z_bipush (v := nI 8) 16 C dX0_columnOf_16 rfl ?_
  refine z_irem (v := nI (((((zca row) * half) + (zcb row)) % 61) % 8)) 18 C dX0_columnOf_18 (by decide) (pk_rem (by omega) (by omega) (by omega)) ?_
  exact z_iret 19 C hr ⟨rfl, rfl⟩ dX0_columnOf_19
set_option maxHeartbeats 4000000 in
set_option maxRecDepth 100000 in
/-- X0_placeOf -/
theorem c_X0_placeOf (l : Launch) {g : zG} (hg : zOk g) (x : zT) (row half : Nat) (hrow : row < 3) (hhalf : half < 64) : Met l yX0_placeOf wsX0_placeOf ({ frames := 1, cells := 0, slots := 0, locals := 21 }) (va_Pc [.int (nI row), .int (nI half)] (zPre g x)) (va_Qi (fun (r : Int32) (u : zT) => u = x ∧ r = nI (zcp row half)) (zB g) (zA g)) 0 0 (zA g) := by
  refine z_met (cc := cX0_placeOf) (nL := 2) (ret := (some .int)) hg (by decide) rfl (Nat.le_of_ble_eq_true rfl) ?_
  intro p_ e_ s_ m_ args_ below_ meth_ c_ C hr
  show Z p_ l e_ _ s_ m_ args_ below_ meth_ c_ g 2 0 0 _ x 0 [(0, .int (nI row)), (1, .int (nI half))] []
  refine z_iload_n 0 C dX0_placeOf_0 rfl 0 rfl ?_
  refine z_bipush (v := nI 8) 1 C dX0_placeOf_1 rfl ?_
  refine z_imul (v := nI (row * 8)) 3 C dX0_placeOf_3 (pk_mul row 8) ?_
  refine z_iload_n 4 C dX0_placeOf_4 rfl 0 rfl ?_
  refine z_iload_n 5 C dX0_placeOf_5 rfl 1 rfl ?_
  refine z_callSi 6 C (As := [.int (nI row), .int (nI half)]) 2 (c_X0_columnOf l hg x row half (by first | decide | omega) (by omega)) (va_cwS 2 C.1.2.2.2.2 gX0_placeOf_X0_columnOf rfl rfl rfl (by decide +kernel) ⟨Nat.le_of_ble_eq_true rfl, Nat.le_of_ble_eq_true rfl⟩) rfl rfl (Nat.le_of_ble_eq_true rfl) ⟨Nat.le_of_ble_eq_true rfl, Nat.le_of_ble_eq_true rfl⟩ dX0_placeOf_6 (fun r u hu => ?_)
  obtain ⟨hu1, hu2⟩ := hu
  subst u
  subst r
  have := zccol_lt row half
  refine z_iadd (v := nI ((row * 8) + (zccol row half))) 9 C dX0_placeOf_9 (nI_add (row * 8) (zccol row half)) ?_
  exact z_iret 10 C hr ⟨rfl, rfl⟩ dX0_placeOf_10
set_option maxHeartbeats 4000000 in
set_option maxRecDepth 100000 in
/-- X0_cellAt -/
theorem c_X0_cellAt (l : Launch) {g : zG} (hg : zOk g) (x : zT) (j k : Nat) (hj : j < 4) (hk : k < 3) (row col : Nat) (hrow : row < 3) (hcol : col < 8) : Met l yX0_cellAt wsX0_cellAt ({ frames := 0, cells := 0, slots := 0, locals := 0 }) (va_Pc [.ref (zad g (zp j (4 + k))), .int (nI row), .int (nI col)] (zPre g x)) (va_Qi (fun (r : Int32) (u : zT) => u = x ∧ r = x.1 (zp j (7 + k)) (row * 8 + col)) (zB g) (zA g)) 0 0 (zA g) := by
  refine z_met (cc := cX0_cellAt) (nL := 3) (ret := (some .int)) hg (by decide) rfl (Nat.le_of_ble_eq_true rfl) ?_
  intro p_ e_ s_ m_ args_ below_ meth_ c_ C hr
  show Z p_ l e_ _ s_ m_ args_ below_ meth_ c_ g 3 0 0 _ x 0 [(0, .ref (zad g (zp j (4 + k)))), (1, .int (nI row)), (2, .int (nI col))] []
  have hw_f9 := C.1.2.2.2.2 (.fieldLink RX0 9 "Countcote$CarefulSketch" "cells" "[I") (by decide +kernel)
  have hinX0 : ∀ w ∈ wsX00, w ∈ wsX0_cellAt := by decide +kernel
  refine z_aload_n 0 C dX0_cellAt_0 rfl 0 rfl ?_
  refine z_getr 1 C (ref := "Countcote$CarefulSketch") (T := TX0) (N := 1) (ci := 0) (q := 0) (kR_ccells hj hk) rfl hinX0 (by decide) rfl hw_f9 dX0_cellAt_1 ?_
  refine z_iload_n 4 C dX0_cellAt_4 rfl 1 rfl ?_
  refine z_bipush (v := nI 8) 5 C dX0_cellAt_5 rfl ?_
  refine z_imul (v := nI (row * 8)) 7 C dX0_cellAt_7 (pk_mul row 8) ?_
  refine z_iload_n 8 C dX0_cellAt_8 rfl 2 rfl ?_
  refine z_iadd (v := nI ((row * 8) + col)) 9 C dX0_cellAt_9 (nI_add (row * 8) col) ?_
  refine z_iald (v := (x.1 (zp j (7 + k))) ((row * 8) + col)) 10 C (kI_ccell hj hk) (by omega) rfl dX0_cellAt_10 ?_
  exact z_iret 11 C hr ⟨rfl, rfl⟩ dX0_cellAt_11
set_option maxHeartbeats 4000000 in
set_option maxRecDepth 100000 in
/-- X0_leastOf -/
theorem c_X0_leastOf (l : Launch) {g : zG} (hg : zOk g) (x : zT) (j k : Nat) (hj : j < 4) (hk : k < 3) (half : Nat) (hhalf : half < 64) : Met l yX0_leastOf wsX0_leastOf ({ frames := 2, cells := 0, slots := 0, locals := 42 }) (va_Pc [.ref (zad g (zp j (4 + k))), .int (nI half)] (zPre g x)) (va_Qi (fun (r : Int32) (u : zT) => u = x ∧ r = zleast (x.1 (zp j (7 + k))) half) (zB g) (zA g)) 0 0 (zA g) := by
  refine z_met (cc := cX0_leastOf) (nL := 4) (ret := (some .int)) hg (by decide) rfl (Nat.le_of_ble_eq_true rfl) ?_
  intro p_ e_ s_ m_ args_ below_ meth_ c_ C hr
  show Z p_ l e_ _ s_ m_ args_ below_ meth_ c_ g 4 0 0 _ x 0 [(0, .ref (zad g (zp j (4 + k)))), (1, .int (nI half))] []
  have hw_f9 := C.1.2.2.2.2 (.fieldLink RX0 9 "Countcote$CarefulSketch" "cells" "[I") (by decide +kernel)
  have hinX0 : ∀ w ∈ wsX00, w ∈ wsX0_leastOf := by decide +kernel
  have hw_m26 := C.1.2.2.2.2 (.methodLink RX0 26 Lib.Math.min.name) (by decide +kernel)
  have hw_smin := C.1.2.2.2.2 (.static Lib.Math.min.name) (by decide +kernel)
  have hw_iM := C.1.2.2.2.2 (.initialized "java/lang/Math") (by decide +kernel)
  have hw_cmin := C.1.2.2.2.2 (.code Lib.Math.min.name Lib.Math.min.code 2 (some .int)) (by decide +kernel)
  refine z_aload_n 0 C dX0_leastOf_0 rfl 0 rfl ?_
  refine z_getr 1 C (ref := "Countcote$CarefulSketch") (T := TX0) (N := 1) (ci := 0) (q := 0) (kR_ccells hj hk) rfl hinX0 (by decide) rfl hw_f9 dX0_leastOf_1 ?_
  refine z_iconst (v := nI 0) 4 C dX0_leastOf_4 rfl ?_
  refine z_iload_n 5 C dX0_leastOf_5 rfl 1 rfl ?_
  refine z_callSi 6 C (As := [.int (nI 0), .int (nI half)]) 2 (c_X0_placeOf l hg x 0 half (by first | decide | omega) (by omega)) (va_cwS 2 C.1.2.2.2.2 gX0_leastOf_X0_placeOf rfl rfl rfl (by decide +kernel) ⟨Nat.le_of_ble_eq_true rfl, Nat.le_of_ble_eq_true rfl⟩) rfl rfl (Nat.le_of_ble_eq_true rfl) ⟨Nat.le_of_ble_eq_true rfl, Nat.le_of_ble_eq_true rfl⟩ dX0_leastOf_6 (fun r u hu => ?_)
  obtain ⟨hu1, hu2⟩ := hu
  subst u
  subst r
  have := zcp_lt (r := 0) half (by first | decide | omega)
  refine z_iald (v := (x.1 (zp j (7 + k))) (zcp 0 half)) 9 C (kI_ccell hj hk) (by omega) rfl dX0_leastOf_9 ?_
  refine z_istore_n (lv' := [(2, .int ((x.1 (zp j (7 + k))) (zcp 0 half))), (0, .ref (zad g (zp j (4 + k)))), (1, .int (nI half))]) 10 C dX0_leastOf_10 rfl (by decide) rfl ?_
  refine z_iconst (v := nI 1) 11 C dX0_leastOf_11 rfl ?_
  refine z_istore_n (lv' := [(3, .int (nI 1)), (2, .int ((x.1 (zp j (7 + k))) (zcp 0 half))), (0, .ref (zad g (zp j (4 + k)))), (1, .int (nI half))]) 12 C dX0_leastOf_12 rfl (by decide) rfl ?_
  refine z_iload_n 13 C dX0_leastOf_13 rfl 0 rfl ?_
  refine z_iconst (v := nI 3) 14 C dX0_leastOf_14 rfl ?_
  refine z_icmp_geN 15 C 39 dX0_leastOf_15 (by decide) (by omega) (by omega) (fun h15 => absurd h15 (by omega)) (fun h15 => ?_)
  refine z_iload_n 18 C dX0_leastOf_18 rfl 1 rfl ?_
  refine z_aload_n 19 C dX0_leastOf_19 rfl 2 rfl ?_
  refine z_getr 20 C (ref := "Countcote$CarefulSketch") (T := TX0) (N := 1) (ci := 0) (q := 0) (kR_ccells hj hk) rfl hinX0 (by decide) rfl hw_f9 dX0_leastOf_20 ?_
  refine z_iload_n 23 C dX0_leastOf_23 rfl 0 rfl ?_
  refine z_iload_n 24 C dX0_leastOf_24 rfl 3 rfl ?_
  refine z_callSi 25 C (As := [.int (nI 1), .int (nI half)]) 2 (c_X0_placeOf l hg x 1 half (by first | decide | omega) (by omega)) (va_cwS 2 C.1.2.2.2.2 gX0_leastOf_X0_placeOf rfl rfl rfl (by decide +kernel) ⟨Nat.le_of_ble_eq_true rfl, Nat.le_of_ble_eq_true rfl⟩) rfl rfl (Nat.le_of_ble_eq_true rfl) ⟨Nat.le_of_ble_eq_true rfl, Nat.le_of_ble_eq_true rfl⟩ dX0_leastOf_25 (fun r u hu => ?_)
  obtain ⟨hu1, hu2⟩ := hu
  subst u
  subst r
  have := zcp_lt (r := 1) half (by first | decide | omega)
  refine z_iald (v := (x.1 (zp j (7 + k))) (zcp 1 half)) 28 C (kI_ccell hj hk) (by omega) rfl dX0_leastOf_28 ?_
  obtain ⟨v1, ev1⟩ : ∃ y : Int32, (if (x.1 (zp j (7 + k))) (zcp 1 half) < (x.1 (zp j (7 + k))) (zcp 0 half) then (x.1 (zp j (7 + k))) (zcp 1 half) else (x.1 (zp j (7 + k))) (zcp 0 half)) = y := ⟨_, rfl⟩
  refine z_mmin (v := v1) 29 C hw_m26 hw_smin hw_iM hw_cmin (Nat.le_of_ble_eq_true rfl) (Nat.le_of_ble_eq_true rfl) ⟨Nat.le_of_ble_eq_true rfl, Nat.le_of_ble_eq_true rfl⟩ ev1 dX0_leastOf_29 ?_
  refine z_istore_n (lv' := [(2, .int v1), (3, .int (nI 1)), (0, .ref (zad g (zp j (4 + k)))), (1, .int (nI half))]) 32 C dX0_leastOf_32 rfl (by decide) rfl ?_
  refine z_iinc (v' := nI 2) (lv' := [(3, .int (nI 2)), (2, .int v1), (0, .ref (zad g (zp j (4 + k)))), (1, .int (nI half))]) 33 C dX0_leastOf_33 (q := 1) rfl rfl (by decide) rfl ?_
  refine z_goto 36 C 13 dX0_leastOf_36 (by decide) ?_
  refine z_iload_n 13 C dX0_leastOf_13 rfl 0 rfl ?_
  refine z_iconst (v := nI 3) 14 C dX0_leastOf_14 rfl ?_
  refine z_icmp_geN 15 C 39 dX0_leastOf_15 (by decide) (by omega) (by omega) (fun h15 => absurd h15 (by omega)) (fun h15 => ?_)
  refine z_iload_n 18 C dX0_leastOf_18 rfl 1 rfl ?_
  refine z_aload_n 19 C dX0_leastOf_19 rfl 2 rfl ?_
  refine z_getr 20 C (ref := "Countcote$CarefulSketch") (T := TX0) (N := 1) (ci := 0) (q := 0) (kR_ccells hj hk) rfl hinX0 (by decide) rfl hw_f9 dX0_leastOf_20 ?_
  refine z_iload_n 23 C dX0_leastOf_23 rfl 0 rfl ?_
  refine z_iload_n 24 C dX0_leastOf_24 rfl 3 rfl ?_
  refine z_callSi 25 C (As := [.int (nI 2), .int (nI half)]) 2 (c_X0_placeOf l hg x 2 half (by first | decide | omega) (by omega)) (va_cwS 2 C.1.2.2.2.2 gX0_leastOf_X0_placeOf rfl rfl rfl (by decide +kernel) ⟨Nat.le_of_ble_eq_true rfl, Nat.le_of_ble_eq_true rfl⟩) rfl rfl (Nat.le_of_ble_eq_true rfl) ⟨Nat.le_of_ble_eq_true rfl, Nat.le_of_ble_eq_true rfl⟩ dX0_leastOf_25 (fun r u hu => ?_)
  obtain ⟨hu1, hu2⟩ := hu
  subst u
  subst r
  have := zcp_lt (r := 2) half (by first | decide | omega)
  refine z_iald (v := (x.1 (zp j (7 + k))) (zcp 2 half)) 28 C (kI_ccell hj hk) (by omega) rfl dX0_leastOf_28 ?_
  obtain ⟨v2, ev2⟩ : ∃ y : Int32, (if (x.1 (zp j (7 + k))) (zcp 2 half) < v1 then (x.1 (zp j (7 + k))) (zcp 2 half) else v1) = y := ⟨_, rfl⟩
  refine z_mmin (v := v2) 29 C hw_m26 hw_smin hw_iM hw_cmin (Nat.le_of_ble_eq_true rfl) (Nat.le_of_ble_eq_true rfl) ⟨Nat.le_of_ble_eq_true rfl, Nat.le_of_ble_eq_true rfl⟩ ev2 dX0_leastOf_29 ?_
  refine z_istore_n (lv' := [(2, .int v2), (3, .int (nI 2)), (0, .ref (zad g (zp j (4 + k)))), (1, .int (nI half))]) 32 C dX0_leastOf_32 rfl (by decide) rfl ?_
  refine z_iinc (v' := nI 3) (lv' := [(3, .int (nI 3)), (2, .int v2), (0, .ref (zad g (zp j (4 + k)))), (1, .int (nI half))]) 33 C dX0_leastOf_33 (q := 1) rfl rfl (by decide) rfl ?_
  refine z_goto 36 C 13 dX0_leastOf_36 (by decide) ?_
  refine z_iload_n 13 C dX0_leastOf_13 rfl 0 rfl ?_
  refine z_iconst (v := nI 3) 14 C dX0_leastOf_14 rfl ?_
  refine z_icmp_geN 15 C 39 dX0_leastOf_15 (by decide) (by omega) (by omega) (fun h15 => ?_) (fun h15 => absurd h15 (by omega))
  refine z_iload_n 39 C dX0_leastOf_39 rfl 1 rfl ?_
  exact z_iret 40 C hr ⟨rfl, by rw [← ev2, ← ev1]; rfl⟩ dX0_leastOf_40
set_option maxHeartbeats 4000000 in
set_option maxRecDepth 100000 in
/-- X0_put -/
theorem c_X0_put (l : Launch) {g : zG} (hg : zOk g) (x : zT) (j k : Nat) (hj : j < 4) (hk : k < 3) (half : Nat) (hhalf : half < 64) (w : Int32) : Met l yX0_put wsX0_put ({ frames := 3, cells := 0, slots := 0, locals := 65 }) (va_Pc [.ref (zad g (zp j (4 + k))), .int (nI half), .int w] (zPre g x)) (va_Qv (fun (u : zT) => u = xi x (zp j (7 + k)) (zcput (x.1 (zp j (7 + k))) half w)) (zB g) (zA g)) 0 0 (zA g) := by
  refine z_met (cc := cX0_put) (nL := 6) (ret := none) hg (by decide) rfl (Nat.le_of_ble_eq_true rfl) ?_
  intro p_ e_ s_ m_ args_ below_ meth_ c_ C hr
  show Z p_ l e_ _ s_ m_ args_ below_ meth_ c_ g 6 0 0 _ x 0 [(0, .ref (zad g (zp j (4 + k)))), (1, .int (nI half)), (2, .int w)] []
  have hw_f9 := C.1.2.2.2.2 (.fieldLink RX0 9 "Countcote$CarefulSketch" "cells" "[I") (by decide +kernel)
  have hinX0 : ∀ w ∈ wsX00, w ∈ wsX0_put := by decide +kernel
  have hw_m35 := C.1.2.2.2.2 (.methodLink RX0 35 Lib.Math.max.name) (by decide +kernel)
  have hw_smax := C.1.2.2.2.2 (.static Lib.Math.max.name) (by decide +kernel)
  have hw_iM := C.1.2.2.2.2 (.initialized "java/lang/Math") (by decide +kernel)
  have hw_cmax := C.1.2.2.2.2 (.code Lib.Math.max.name Lib.Math.max.code 2 (some .int)) (by decide +kernel)
  refine z_aload_n 0 C dX0_put_0 rfl 0 rfl ?_
  refine z_iload_n 1 C dX0_put_1 rfl 1 rfl ?_
  refine z_callVi 2 C (As := [.int (nI half)]) 1 (kO_cs hj hk) rfl (c_X0_leastOf l hg x j k hj hk half (by omega)) (cwV 1 C.1.2.2.2.2 gX0_put_X0_leastOf rfl rfl rfl (by decide +kernel) ⟨Nat.le_of_ble_eq_true rfl, Nat.le_of_ble_eq_true rfl⟩) rfl rfl (Nat.le_of_ble_eq_true rfl) ⟨Nat.le_of_ble_eq_true rfl, Nat.le_of_ble_eq_true rfl⟩ dX0_put_2 (fun r u hu => ?_)
  obtain ⟨r1, er1⟩ : ∃ y : Int32, y = zleast (x.1 (zp j (7 + k))) half := ⟨_, rfl⟩
  obtain ⟨hu1, hu2⟩ : u = x ∧ r = r1 := ⟨hu.1, by rw [hu.2, er1]⟩
  subst u
  subst r
  refine z_iload_n 5 C dX0_put_5 rfl 2 rfl ?_
  refine z_iadd (v := r1 + w) 6 C dX0_put_6 rfl ?_
  refine z_istore_n (lv' := [(3, .int (r1 + w)), (0, .ref (zad g (zp j (4 + k)))), (1, .int (nI half)), (2, .int w)]) 7 C dX0_put_7 rfl (by decide) rfl ?_
  refine z_iconst (v := nI 0) 8 C dX0_put_8 rfl ?_
  refine z_istore (lv' := [(4, .int (nI 0)), (3, .int (r1 + w)), (0, .ref (zad g (zp j (4 + k)))), (1, .int (nI half)), (2, .int w)]) 9 C dX0_put_9 (by decide) rfl ?_
  refine z_iload 11 C dX0_put_11 0 rfl ?_
  refine z_iconst (v := nI 3) 13 C dX0_put_13 rfl ?_
  refine z_icmp_geN 14 C 49 dX0_put_14 (by decide) (by omega) (by omega) (fun h14 => absurd h14 (by omega)) (fun h14 => ?_)
  refine z_iload 17 C dX0_put_17 0 rfl ?_
  refine z_iload_n 19 C dX0_put_19 rfl 3 rfl ?_
  refine z_callSi 20 C (As := [.int (nI 0), .int (nI half)]) 2 (c_X0_placeOf l hg x 0 half (by first | decide | omega) (by omega)) (va_cwS 2 C.1.2.2.2.2 gX0_put_X0_placeOf rfl rfl rfl (by decide +kernel) ⟨Nat.le_of_ble_eq_true rfl, Nat.le_of_ble_eq_true rfl⟩) rfl rfl (Nat.le_of_ble_eq_true rfl) ⟨Nat.le_of_ble_eq_true rfl, Nat.le_of_ble_eq_true rfl⟩ dX0_put_20 (fun r u hu => ?_)
  obtain ⟨hu1, hu2⟩ := hu
  subst u
  subst r
  have := zcp_lt (r := 0) half (by first | decide | omega)
  refine z_istore (lv' := [(5, .int (nI (zcp 0 half))), (4, .int (nI 0)), (3, .int (r1 + w)), (0, .ref (zad g (zp j (4 + k)))), (1, .int (nI half)), (2, .int w)]) 23 C dX0_put_23 (by decide) rfl ?_
  refine z_aload_n 25 C dX0_put_25 rfl 3 rfl ?_
  refine z_getr 26 C (ref := "Countcote$CarefulSketch") (T := TX0) (N := 1) (ci := 0) (q := 0) (kR_ccells hj hk) rfl hinX0 (by decide) rfl hw_f9 dX0_put_26 ?_
  refine z_iload 29 C dX0_put_29 0 rfl ?_
  refine z_aload_n 31 C dX0_put_31 rfl 3 rfl ?_
  refine z_getr 32 C (ref := "Countcote$CarefulSketch") (T := TX0) (N := 1) (ci := 0) (q := 0) (kR_ccells hj hk) rfl hinX0 (by decide) rfl hw_f9 dX0_put_32 ?_
  refine z_iload 35 C dX0_put_35 0 rfl ?_
  refine z_iald (v := (x.1 (zp j (7 + k))) (zcp 0 half)) 37 C (kI_ccell hj hk) (by omega) rfl dX0_put_37 ?_
  refine z_iload_n 38 C dX0_put_38 rfl 2 rfl ?_
  obtain ⟨v2, ev2⟩ : ∃ y : Int32, (if (x.1 (zp j (7 + k))) (zcp 0 half) < r1 + w then r1 + w else (x.1 (zp j (7 + k))) (zcp 0 half)) = y := ⟨_, rfl⟩
  refine z_mmax (v := v2) 39 C hw_m35 hw_smax hw_iM hw_cmax (Nat.le_of_ble_eq_true rfl) (Nat.le_of_ble_eq_true rfl) ⟨Nat.le_of_ble_eq_true rfl, Nat.le_of_ble_eq_true rfl⟩ ev2 dX0_put_39 ?_
  obtain ⟨f3, ef3⟩ : ∃ f9 : Nat → Int32, f9 = upd (x.1 (zp j (7 + k))) (zcp 0 half) v2 := ⟨_, rfl⟩
  refine z_iast (f := f3) 42 C (kI_ccell hj hk) (by omega) (by exact ef3.symm) dX0_put_42 ?_
  refine z_iinc (v' := nI 1) (lv' := [(4, .int (nI 1)), (5, .int (nI (zcp 0 half))), (3, .int (r1 + w)), (0, .ref (zad g (zp j (4 + k)))), (1, .int (nI half)), (2, .int w)]) 43 C dX0_put_43 (q := 1) rfl rfl (by decide) rfl ?_
  refine z_goto 46 C 11 dX0_put_46 (by decide) ?_
  refine z_iload 11 C dX0_put_11 0 rfl ?_
  refine z_iconst (v := nI 3) 13 C dX0_put_13 rfl ?_
  refine z_icmp_geN 14 C 49 dX0_put_14 (by decide) (by omega) (by omega) (fun h14 => absurd h14 (by omega)) (fun h14 => ?_)
  refine z_iload 17 C dX0_put_17 0 rfl ?_
  refine z_iload_n 19 C dX0_put_19 rfl 4 rfl ?_
  refine z_callSi 20 C (As := [.int (nI 1), .int (nI half)]) 2 (c_X0_placeOf l hg (xi x (zp j (7 + k)) f3) 1 half (by first | decide | omega) (by omega)) (va_cwS 2 C.1.2.2.2.2 gX0_put_X0_placeOf rfl rfl rfl (by decide +kernel) ⟨Nat.le_of_ble_eq_true rfl, Nat.le_of_ble_eq_true rfl⟩) rfl rfl (Nat.le_of_ble_eq_true rfl) ⟨Nat.le_of_ble_eq_true rfl, Nat.le_of_ble_eq_true rfl⟩ dX0_put_20 (fun r u hu => ?_)
  obtain ⟨hu1, hu2⟩ := hu
  subst u
  subst r
  have := zcp_lt (r := 1) half (by first | decide | omega)
  refine z_istore (lv' := [(5, .int (nI (zcp 1 half))), (4, .int (nI 1)), (3, .int (r1 + w)), (0, .ref (zad g (zp j (4 + k)))), (1, .int (nI half)), (2, .int w)]) 23 C dX0_put_23 (by decide) rfl ?_
  refine z_aload_n 25 C dX0_put_25 rfl 3 rfl ?_
  refine z_getr 26 C (ref := "Countcote$CarefulSketch") (T := TX0) (N := 1) (ci := 0) (q := 0) (kR_ccells hj hk) rfl hinX0 (by decide) rfl hw_f9 dX0_put_26 ?_
  refine z_iload 29 C dX0_put_29 0 rfl ?_
  refine z_aload_n 31 C dX0_put_31 rfl 3 rfl ?_
  refine z_getr 32 C (ref := "Countcote$CarefulSketch") (T := TX0) (N := 1) (ci := 0) (q := 0) (kR_ccells hj hk) rfl hinX0 (by decide) rfl hw_f9 dX0_put_32 ?_
  refine z_iload 35 C dX0_put_35 0 rfl ?_
  refine z_iald (v := f3 (zcp 1 half)) 37 C (kI_ccell hj hk) (by omega) (by rw [xi_s]) dX0_put_37 ?_
  refine z_iload_n 38 C dX0_put_38 rfl 2 rfl ?_
  obtain ⟨v4, ev4⟩ : ∃ y : Int32, (if f3 (zcp 1 half) < r1 + w then r1 + w else f3 (zcp 1 half)) = y := ⟨_, rfl⟩
  refine z_mmax (v := v4) 39 C hw_m35 hw_smax hw_iM hw_cmax (Nat.le_of_ble_eq_true rfl) (Nat.le_of_ble_eq_true rfl) ⟨Nat.le_of_ble_eq_true rfl, Nat.le_of_ble_eq_true rfl⟩ ev4 dX0_put_39 ?_
  obtain ⟨f5, ef5⟩ : ∃ f9 : Nat → Int32, f9 = upd f3 (zcp 1 half) v4 := ⟨_, rfl⟩
  refine z_iast (f := f5) 42 C (kI_ccell hj hk) (by omega) (by rw [xi_s]; exact ef5.symm) dX0_put_42 ?_
  refine z_x (y := (xi x (zp j (7 + k)) f5)) (by rw [xi_xi]) ?_
  refine z_iinc (v' := nI 2) (lv' := [(4, .int (nI 2)), (5, .int (nI (zcp 1 half))), (3, .int (r1 + w)), (0, .ref (zad g (zp j (4 + k)))), (1, .int (nI half)), (2, .int w)]) 43 C dX0_put_43 (q := 1) rfl rfl (by decide) rfl ?_
  refine z_goto 46 C 11 dX0_put_46 (by decide) ?_
  refine z_iload 11 C dX0_put_11 0 rfl ?_
  refine z_iconst (v := nI 3) 13 C dX0_put_13 rfl ?_
  refine z_icmp_geN 14 C 49 dX0_put_14 (by decide) (by omega) (by omega) (fun h14 => absurd h14 (by omega)) (fun h14 => ?_)
  refine z_iload 17 C dX0_put_17 0 rfl ?_
  refine z_iload_n 19 C dX0_put_19 rfl 4 rfl ?_
  refine z_callSi 20 C (As := [.int (nI 2), .int (nI half)]) 2 (c_X0_placeOf l hg (xi x (zp j (7 + k)) f5) 2 half (by first | decide | omega) (by omega)) (va_cwS 2 C.1.2.2.2.2 gX0_put_X0_placeOf rfl rfl rfl (by decide +kernel) ⟨Nat.le_of_ble_eq_true rfl, Nat.le_of_ble_eq_true rfl⟩) rfl rfl (Nat.le_of_ble_eq_true rfl) ⟨Nat.le_of_ble_eq_true rfl, Nat.le_of_ble_eq_true rfl⟩ dX0_put_20 (fun r u hu => ?_)
  obtain ⟨hu1, hu2⟩ := hu
  subst u
  subst r
  have := zcp_lt (r := 2) half (by first | decide | omega)
  refine z_istore (lv' := [(5, .int (nI (zcp 2 half))), (4, .int (nI 2)), (3, .int (r1 + w)), (0, .ref (zad g (zp j (4 + k)))), (1, .int (nI half)), (2, .int w)]) 23 C dX0_put_23 (by decide) rfl ?_
  refine z_aload_n 25 C dX0_put_25 rfl 3 rfl ?_
  refine z_getr 26 C (ref := "Countcote$CarefulSketch") (T := TX0) (N := 1) (ci := 0) (q := 0) (kR_ccells hj hk) rfl hinX0 (by decide) rfl hw_f9 dX0_put_26 ?_
  refine z_iload 29 C dX0_put_29 0 rfl ?_
  refine z_aload_n 31 C dX0_put_31 rfl 3 rfl ?_
  refine z_getr 32 C (ref := "Countcote$CarefulSketch") (T := TX0) (N := 1) (ci := 0) (q := 0) (kR_ccells hj hk) rfl hinX0 (by decide) rfl hw_f9 dX0_put_32 ?_
  refine z_iload 35 C dX0_put_35 0 rfl ?_
  refine z_iald (v := f5 (zcp 2 half)) 37 C (kI_ccell hj hk) (by omega) (by rw [xi_s]) dX0_put_37 ?_
  refine z_iload_n 38 C dX0_put_38 rfl 2 rfl ?_
  obtain ⟨v6, ev6⟩ : ∃ y : Int32, (if f5 (zcp 2 half) < r1 + w then r1 + w else f5 (zcp 2 half)) = y := ⟨_, rfl⟩
  refine z_mmax (v := v6) 39 C hw_m35 hw_smax hw_iM hw_cmax (Nat.le_of_ble_eq_true rfl) (Nat.le_of_ble_eq_true rfl) ⟨Nat.le_of_ble_eq_true rfl, Nat.le_of_ble_eq_true rfl⟩ ev6 dX0_put_39 ?_
  obtain ⟨f7, ef7⟩ : ∃ f9 : Nat → Int32, f9 = upd f5 (zcp 2 half) v6 := ⟨_, rfl⟩
  refine z_iast (f := f7) 42 C (kI_ccell hj hk) (by omega) (by rw [xi_s]; exact ef7.symm) dX0_put_42 ?_
  refine z_x (y := (xi x (zp j (7 + k)) f7)) (by rw [xi_xi]) ?_
  refine z_iinc (v' := nI 3) (lv' := [(4, .int (nI 3)), (5, .int (nI (zcp 2 half))), (3, .int (r1 + w)), (0, .ref (zad g (zp j (4 + k)))), (1, .int (nI half)), (2, .int w)]) 43 C dX0_put_43 (q := 1) rfl rfl (by decide) rfl ?_
  refine z_goto 46 C 11 dX0_put_46 (by decide) ?_
  refine z_iload 11 C dX0_put_11 0 rfl ?_
  refine z_iconst (v := nI 3) 13 C dX0_put_13 rfl ?_
  refine z_icmp_geN 14 C 49 dX0_put_14 (by decide) (by omega) (by omega) (fun h14 => ?_) (fun h14 => absurd h14 (by omega))
  exact z_vret 49 C hr (by rw [← zcput_of (by rw [er1]) ef3 ef5 ef7 ev2 ev4 ev6]) dX0_put_49
set_option maxHeartbeats 4000000 in
set_option maxRecDepth 100000 in
/-- X0_join -/
theorem c_X0_join (l : Launch) {g : zG} (hg : zOk g) (x : zT) (j o k : Nat) (hj : j < 4) (ho : o < 4) (hjo : j ≠ o) (hk : k < 3) : Met l yX0_join wsX0_join ({ frames := 0, cells := 0, slots := 0, locals := 0 }) (va_Pc [.ref (zad g (zp j (4 + k))), .ref (zad g (zp o (4 + k)))] (zPre g x)) (va_Qv (fun (u : zT) => ∃ f : Nat → Int32, u = xi x (zp j (7 + k)) f ∧ ∀ q, q < 24 → f q = x.1 (zp j (7 + k)) q + x.1 (zp o (7 + k)) q) (zB g) (zA g)) 0 0 (zA g) := by
  refine z_met (cc := cX0_join) (nL := 3) (ret := none) hg (by decide) rfl (Nat.le_of_ble_eq_true rfl) ?_
  intro p_ e_ s_ m_ args_ below_ meth_ c_ C hr
  show Z p_ l e_ _ s_ m_ args_ below_ meth_ c_ g 3 0 0 _ x 0 [(0, .ref (zad g (zp j (4 + k)))), (1, .ref (zad g (zp o (4 + k))))] []
  have hw_f9 := C.1.2.2.2.2 (.fieldLink RX0 9 "Countcote$CarefulSketch" "cells" "[I") (by decide +kernel)
  have hinX0 : ∀ w ∈ wsX00, w ∈ wsX0_join := by decide +kernel
  refine z_iconst (v := nI 0) 0 C dX0_join_0 rfl ?_
  refine z_istore_n (lv' := [(2, .int (nI 0)), (0, .ref (zad g (zp j (4 + k)))), (1, .ref (zad g (zp o (4 + k))))]) 1 C dX0_join_1 rfl (by decide) rfl ?_
  refine z_x (y := (xi x (zp j (7 + k)) (x.1 (zp j (7 + k))))) (xi_idf rfl) ?_
  have J2 : ∀ (n2 : Nat) (i : Nat) (f : Nat → Int32), (i ≤ 24) → (24 < i + n2) → (∀ q, q < 24 → f q = if q < i then x.1 (zp j (7 + k)) q + x.1 (zp o (7 + k)) q else x.1 (zp j (7 + k)) q) → Z p_ l e_ (headSpec wsX0_join ({ frames := 0, cells := 0, slots := 0, locals := 0 })).room s_ m_ args_ below_ meth_ c_ g 3 0 0 (MQ below_ (va_Qv (fun (u : zT) => ∃ f : Nat → Int32, u = xi x (zp j (7 + k)) f ∧ ∀ q, q < 24 → f q = x.1 (zp j (7 + k)) q + x.1 (zp o (7 + k)) q) (zB g) (zA g)) args_ s_ 0 0 (zA g)) (xi x (zp j (7 + k)) f) 2 [(0, .ref (zad g (zp j (4 + k)))), (1, .ref (zad g (zp o (4 + k)))), (2, .int (nI i))] [] := by
    intro n2
    induction n2 with
    | zero => intro i f hi hn hf; exact absurd hn (by omega)
    | succ n2 ih2 =>
      intro i f hi hn hf
      refine z_iload_n 2 C dX0_join_2 rfl 2 rfl ?_
      refine z_aload_n 3 C dX0_join_3 rfl 0 rfl ?_
      refine z_getr 4 C (ref := "Countcote$CarefulSketch") (T := TX0) (N := 1) (ci := 0) (q := 0) (kR_ccells hj hk) rfl hinX0 (by decide) rfl hw_f9 dX0_join_4 ?_
      refine z_ialen 7 C (kI_ccell hj hk) dX0_join_7 ?_
      refine z_icmp_geN 8 C 32 dX0_join_8 (by decide) (by omega) (by omega) (fun h8 => ?_) (fun h8 => ?_)
      · exact z_vret 32 C hr ⟨f, rfl, fun q hq => by rw [hf q hq, if_pos (by omega)]⟩ dX0_join_32
      · refine z_aload_n 11 C dX0_join_11 rfl 0 rfl ?_
        refine z_getr 12 C (ref := "Countcote$CarefulSketch") (T := TX0) (N := 1) (ci := 0) (q := 0) (kR_ccells hj hk) rfl hinX0 (by decide) rfl hw_f9 dX0_join_12 ?_
        refine z_iload_n 15 C dX0_join_15 rfl 2 rfl ?_
        refine z_dup2 16 C dX0_join_16 rfl rfl ?_
        refine z_iald (v := f i) 17 C (kI_ccell hj hk) (by omega) (by rw [xi_s]) dX0_join_17 ?_
        refine z_aload_n 18 C dX0_join_18 rfl 1 rfl ?_
        refine z_getr 19 C (ref := "Countcote$CarefulSketch") (T := TX0) (N := 1) (ci := 0) (q := 0) (kR_ccells ho hk) rfl hinX0 (by decide) rfl hw_f9 dX0_join_19 ?_
        refine z_iload_n 22 C dX0_join_22 rfl 2 rfl ?_
        refine z_iald (v := (x.1 (zp o (7 + k))) i) 23 C (kI_ccell ho hk) (by omega) (by rw [xi_n _ (by unfold zp; omega)]) dX0_join_23 ?_
        refine z_iadd (v := (f i) + ((x.1 (zp o (7 + k))) i)) 24 C dX0_join_24 rfl ?_
        obtain ⟨f1, ef1⟩ : ∃ f9 : Nat → Int32, f9 = upd f i ((f i) + ((x.1 (zp o (7 + k))) i)) := ⟨_, rfl⟩
        refine z_iast (f := f1) 25 C (kI_ccell hj hk) (by omega) (by rw [xi_s]; exact ef1.symm) dX0_join_25 ?_
        refine z_x (y := (xi x (zp j (7 + k)) f1)) (by rw [xi_xi]) ?_
        refine z_iinc (v' := nI (i + 1)) (lv' := [(2, .int (nI (i + 1))), (0, .ref (zad g (zp j (4 + k)))), (1, .ref (zad g (zp o (4 + k))))]) 26 C dX0_join_26 (q := 2) rfl (zn_inc i 1) (by decide) rfl ?_
        refine z_goto 29 C 2 dX0_join_29 (by decide) ?_
        refine z_lv (lv' := [(0, .ref (zad g (zp j (4 + k)))), (1, .ref (zad g (zp o (4 + k)))), (2, .int (nI (i + 1)))]) [1, 2, 0] rfl ?_
        exact ih2 (i + 1) f1 (by omega) (by omega) (by rw [ef1]; exact zjoin_s h8 hf)
  refine z_lv (lv' := [(0, .ref (zad g (zp j (4 + k)))), (1, .ref (zad g (zp o (4 + k)))), (2, .int (nI 0))]) [1, 2, 0] rfl ?_
  exact J2 25 0 (x.1 (zp j (7 + k))) (Nat.zero_le _) (by omega) (fun q _ => by rw [if_neg (Nat.not_lt_zero q)])
set_option maxHeartbeats 4000000 in
set_option maxRecDepth 100000 in
/-- X0_empty -/
theorem c_X0_empty (l : Launch) {g : zG} (hg : zOk g) (x : zT) (j k : Nat) (hj : j < 4) (hk : k < 3) : Met l yX0_empty wsX0_empty ({ frames := 1, cells := 0, slots := 0, locals := 23 }) (va_Pc [.ref (zad g (zp j (4 + k)))] (zPre g x)) (va_Qv (fun (u : zT) => ∃ f : Nat → Int32, u = xi x (zp j (7 + k)) f ∧ ∀ q, q < 24 → f q = 0) (zB g) (zA g)) 0 0 (zA g) := by
  refine z_met (cc := cX0_empty) (nL := 1) (ret := none) hg (by decide) rfl (Nat.le_of_ble_eq_true rfl) ?_
  intro p_ e_ s_ m_ args_ below_ meth_ c_ C hr
  show Z p_ l e_ _ s_ m_ args_ below_ meth_ c_ g 1 0 0 _ x 0 [(0, .ref (zad g (zp j (4 + k))))] []
  have hw_f9 := C.1.2.2.2.2 (.fieldLink RX0 9 "Countcote$CarefulSketch" "cells" "[I") (by decide +kernel)
  have hinX0 : ∀ w ∈ wsX00, w ∈ wsX0_empty := by decide +kernel
  refine z_aload_n 0 C dX0_empty_0 rfl 0 rfl ?_
  refine z_getr 1 C (ref := "Countcote$CarefulSketch") (T := TX0) (N := 1) (ci := 0) (q := 0) (kR_ccells hj hk) rfl hinX0 (by decide) rfl hw_f9 dX0_empty_1 ?_
  refine z_iconst (v := nI 0) 4 C dX0_empty_4 rfl ?_
  refine z_callSv 5 C (As := [.ref (zad g (zp j (7 + k))), .int (nI 0)]) 2 (c_fill l hg x (zp j (7 + k)) 24 (nI 0) (kI_ccell hj hk)) (va_cwS 2 C.1.2.2.2.2 gX0_empty_J7_fill_53178 rfl rfl rfl (by decide +kernel) ⟨Nat.le_of_ble_eq_true rfl, Nat.le_of_ble_eq_true rfl⟩) rfl rfl (Nat.le_of_ble_eq_true rfl) ⟨Nat.le_of_ble_eq_true rfl, Nat.le_of_ble_eq_true rfl⟩ dX0_empty_5 (fun u hu => ?_)
  obtain ⟨f1, rfl, hf2⟩ := hu
  exact z_vret 8 C hr ⟨f1, rfl, hf2⟩ dX0_empty_8
end
