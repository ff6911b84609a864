/-! ===== the kit's rows, said of Z (written by wip/whole/rows.py) ===== -/
theorem zn_eqp {a b : Nat} (ha : a < 2 ^ 31) (hb : b < 2 ^ 31) (h : nI a = nI b) : a = b := (nI_eq ha hb).mp h
theorem zn_eqn {a b : Nat} (ha : a < 2 ^ 31) (hb : b < 2 ^ 31) (h : ¬ (nI a = nI b)) : a ≠ b := fun e => h ((nI_eq ha hb).mpr e)
theorem zn_nep {a b : Nat} (ha : a < 2 ^ 31) (hb : b < 2 ^ 31) (h : ¬ (nI a = nI b)) : a ≠ b := zn_eqn ha hb h
theorem zn_nen {a b : Nat} (ha : a < 2 ^ 31) (hb : b < 2 ^ 31) (h : nI a = nI b) : a = b := zn_eqp ha hb h
theorem zn_ltp {a b : Nat} (ha : a < 2 ^ 31) (hb : b < 2 ^ 31) (h : nI a < nI b) : a < b := (nI_ltI ha hb).mp h
theorem zn_ltn {a b : Nat} (ha : a < 2 ^ 31) (hb : b < 2 ^ 31) (h : ¬ (nI a < nI b)) : b ≤ a := Nat.not_lt.mp fun e => h ((nI_ltI ha hb).mpr e)
theorem zn_gep {a b : Nat} (ha : a < 2 ^ 31) (hb : b < 2 ^ 31) (h : nI b ≤ nI a) : b ≤ a := (nI_leI hb ha).mp h
theorem zn_gen {a b : Nat} (ha : a < 2 ^ 31) (hb : b < 2 ^ 31) (h : ¬ (nI b ≤ nI a)) : a < b := Nat.not_le.mp fun e => h ((nI_leI hb ha).mpr e)
theorem zn_gtp {a b : Nat} (ha : a < 2 ^ 31) (hb : b < 2 ^ 31) (h : nI b < nI a) : b < a := (nI_ltI hb ha).mp h
theorem zn_gtn {a b : Nat} (ha : a < 2 ^ 31) (hb : b < 2 ^ 31) (h : ¬ (nI b < nI a)) : a ≤ b := Nat.not_lt.mp fun e => h ((nI_ltI hb ha).mpr e)
theorem zn_lep {a b : Nat} (ha : a < 2 ^ 31) (hb : b < 2 ^ 31) (h : nI a ≤ nI b) : a ≤ b := (nI_leI ha hb).mp h
theorem zn_len {a b : Nat} (ha : a < 2 ^ 31) (hb : b < 2 ^ 31) (h : ¬ (nI a ≤ nI b)) : b < a := Nat.not_le.mp fun e => h ((nI_leI ha hb).mpr e)
theorem zn_inc (a k : Nat) : nI a + Int32.ofInt (k : Int) = nI (a + k) := by
  rw [show Int32.ofInt (k : Int) = nI k from Int32.ofInt_eq_ofNat]
  exact nI_add a k
theorem zn_dec (a k : Nat) (h : k ≤ a) : nI a + Int32.ofInt (-(k : Int)) = nI (a - k) := by
  rw [Int32.ofInt_neg, show Int32.ofInt (k : Int) = nI k from Int32.ofInt_eq_ofNat, ← Int32.sub_eq_add_neg]
  exact pk_sub h
theorem zn_sub (a b : Nat) {d : Nat} (h : b ≤ a) (e : a - b = d) : nI a - nI b = nI d := by rw [← e]; exact pk_sub h
theorem zn_ne0 (b : Nat) (h0 : 0 < b) (h : b < 2 ^ 31) : ¬ nI b = 0 := nI_ne0 h0 h
theorem zn_sh (k : Nat) (h : k < 32) : (((nI k) &&& 31).toBitVec.smod 32).toNat = k := by
  have h9 : ∀ k : Fin 32, (((nI k.val) &&& 31).toBitVec.smod 32).toNat = k.val := by decide +kernel
  exact h9 ⟨k, h⟩
theorem zn_shl (a k : Nat) (h : k < 32 ∧ a * 2 ^ k < 2 ^ 32) : nI a <<< (nI k &&& 31) = nI (a * 2 ^ k) := pk_shlN _ k (zn_sh k h.1) h.2
theorem zn_shr (a k : Nat) (ha : a < 2 ^ 31) (h : k < 32) : nI a >>> (nI k &&& 31) = nI (a / 2 ^ k) := pk_shrN ha _ k (zn_sh k h)
theorem zn_and (a b : Nat) : nI a &&& nI b = nI (a &&& b) := by
  apply Int32.toBitVec_inj.1
  show BitVec.ofNat 32 a &&& BitVec.ofNat 32 b = BitVec.ofNat 32 (a &&& b)
  apply BitVec.eq_of_getLsbD_eq
  intro i hi
  simp [Nat.testBit_and, hi]
theorem zn_m1 (a : Nat) (h : a < 2 ^ 31) : ¬ nI a = (-1) := fun e => by
  have h1 := nI_toInt h
  rw [e] at h1
  have h2 : ((-1 : Int32)).toInt = -1 := by decide
  omega
theorem zi_0 : (0 : Int32) = nI 0 := rfl
section ZROWS
variable {p : Program} {l : Launch} {e : Env} {R : Room} {s : State} {m : MethodId} {args : Array Value} {below : List Frame} {meth : Method} {c : Code} {g : zG} {nL cells slots : Nat} {Q : State → Prop} {x : zT} {lv : List (Nat × Value)} {st : List Value} {cc : ByteArray} {own : String} {Ts : List Cond}
theorem z_iconst (pc : Nat) (C : zC p s m args meth c g cc nL own Ts) {n : Int} {v : Int32} (hdg : decode cc pc = .ok (.iconst n, 1)) (hv : Int32.ofInt n = v)
    (kk : Z p l e R s m args below meth c g nL cells slots Q x (pc + 1) lv (.int v :: st)) : Z p l e R s m args below meth c g nL cells slots Q x (pc) lv (st) :=
  fun H locs ls hP hS hl => lv_iconst C.1.1 C.1.2.1 hdg hv (kk H locs ls hP hS hl)

theorem z_bipush (pc : Nat) (C : zC p s m args meth c g cc nL own Ts) {n : Int} {v : Int32} (hdg : decode cc pc = .ok (.bipush n, 2)) (hv : (Int8.ofInt n).toInt32 = v)
    (kk : Z p l e R s m args below meth c g nL cells slots Q x (pc + 2) lv (.int v :: st)) : Z p l e R s m args below meth c g nL cells slots Q x (pc) lv (st) :=
  fun H locs ls hP hS hl => lv_bipush C.1.1 C.1.2.1 hdg hv (kk H locs ls hP hS hl)

theorem z_sipush (pc : Nat) (C : zC p s m args meth c g cc nL own Ts) {n : Int} {v : Int32} (hdg : decode cc pc = .ok (.sipush n, 3)) (hv : (Int16.ofInt n).toInt32 = v)
    (kk : Z p l e R s m args below meth c g nL cells slots Q x (pc + 3) lv (.int v :: st)) : Z p l e R s m args below meth c g nL cells slots Q x (pc) lv (st) :=
  fun H locs ls hP hS hl => lv_sipush C.1.1 C.1.2.1 hdg hv (kk H locs ls hP hS hl)

theorem z_lconst (pc : Nat) (C : zC p s m args meth c g cc nL own Ts) {n : Fin 2} {v : Int64} (hdg : decode cc pc = .ok (.lconst n, 1)) (hv : Int64.ofNat (n : Nat) = v)
    (kk : Z p l e R s m args below meth c g nL cells slots Q x (pc + 1) lv (.long v :: st)) : Z p l e R s m args below meth c g nL cells slots Q x (pc) lv (st) :=
  fun H locs ls hP hS hl => lv_lconst C.1.1 C.1.2.1 hdg hv (kk H locs ls hP hS hl)

theorem z_dconst0 (pc : Nat) (C : zC p s m args meth c g cc nL own Ts)  (hdg : decode cc pc = .ok (.dconst 0, 1)) 
    (kk : Z p l e R s m args below meth c g nL cells slots Q x (pc + 1) lv (.double FP.dconst0 :: st)) : Z p l e R s m args below meth c g nL cells slots Q x (pc) lv (st) :=
  fun H locs ls hP hS hl => lv_dconst0 C.1.1 C.1.2.1 hdg  (kk H locs ls hP hS hl)

theorem z_ldc (pc : Nat) (C : zC p s m args meth c g cc nL own Ts) {index : Nat} {v : Int32} (hc : (Cond.constant own index v).before args s = true) (hdg : decode cc pc = .ok (.ldc index, 2))
    (kk : Z p l e R s m args below meth c g nL cells slots Q x (pc + 2) lv (.int v :: st)) : Z p l e R s m args below meth c g nL cells slots Q x (pc) lv (st) :=
  fun H locs ls hP hS hl => lv_ldc C.1.1 C.1.2.1 C.1.2.2.2.1 hc hdg (kk H locs ls hP hS hl)

theorem z_iload_n (pc : Nat) (C : zC p s m args meth c g cc nL own Ts) {k : Fin 4} {i : Nat} {v : Int32} (hdg : decode cc pc = .ok (.iload_n k, 1)) (hi : (k : Nat) = i) (q : Nat) (hq : lv[q]? = some (i, .int v))
    (kk : Z p l e R s m args below meth c g nL cells slots Q x (pc + 1) lv (.int v :: st)) : Z p l e R s m args below meth c g nL cells slots Q x (pc) lv (st) :=
  fun H locs ls hP hS hl => lv_iload_n C.1.1 C.1.2.1 hdg hi (lv_at hl q hq) (kk H locs ls hP hS hl)

theorem z_iload (pc : Nat) (C : zC p s m args meth c g cc nL own Ts) {i : Nat} {v : Int32} (hdg : decode cc pc = .ok (.iload i, 2)) (q : Nat) (hq : lv[q]? = some (i, .int v))
    (kk : Z p l e R s m args below meth c g nL cells slots Q x (pc + 2) lv (.int v :: st)) : Z p l e R s m args below meth c g nL cells slots Q x (pc) lv (st) :=
  fun H locs ls hP hS hl => lv_iload C.1.1 C.1.2.1 hdg (lv_at hl q hq) (kk H locs ls hP hS hl)

theorem z_istore_n (pc : Nat) (C : zC p s m args meth c g cc nL own Ts) {k : Fin 4} {i : Nat} {v : Int32} {lv' : List (Nat × Value)} (hdg : decode cc pc = .ok (.istore_n k, 1)) (hi : (k : Nat) = i) (hn : i < nL) (hl' : (i, Value.int v) :: lv.filter (fun q => !(q.1 == i) && !(q.1 + 1 == i && q.2.category == 2)) = lv')
    (kk : Z p l e R s m args below meth c g nL cells slots Q x (pc + 1) lv' (st)) : Z p l e R s m args below meth c g nL cells slots Q x (pc) lv (.int v :: st) :=
  fun H locs ls hP hS hl => lv_istore_n C.1.1 C.1.2.1 hdg hi hl hn hl' (fun ls' hl9 => kk H locs ls' hP hS hl9)

theorem z_istore (pc : Nat) (C : zC p s m args meth c g cc nL own Ts) {i : Nat} {v : Int32} {lv' : List (Nat × Value)} (hdg : decode cc pc = .ok (.istore i, 2)) (hn : i < nL) (hl' : (i, Value.int v) :: lv.filter (fun q => !(q.1 == i) && !(q.1 + 1 == i && q.2.category == 2)) = lv')
    (kk : Z p l e R s m args below meth c g nL cells slots Q x (pc + 2) lv' (st)) : Z p l e R s m args below meth c g nL cells slots Q x (pc) lv (.int v :: st) :=
  fun H locs ls hP hS hl => lv_istore C.1.1 C.1.2.1 hdg hl hn hl' (fun ls' hl9 => kk H locs ls' hP hS hl9)

theorem z_aload_n (pc : Nat) (C : zC p s m args meth c g cc nL own Ts) {k : Fin 4} {i : Nat} {v : Nat} (hdg : decode cc pc = .ok (.aload_n k, 1)) (hi : (k : Nat) = i) (q : Nat) (hq : lv[q]? = some (i, .ref v))
    (kk : Z p l e R s m args below meth c g nL cells slots Q x (pc + 1) lv (.ref v :: st)) : Z p l e R s m args below meth c g nL cells slots Q x (pc) lv (st) :=
  fun H locs ls hP hS hl => lv_aload_n C.1.1 C.1.2.1 hdg hi (lv_at hl q hq) (kk H locs ls hP hS hl)

theorem z_aload (pc : Nat) (C : zC p s m args meth c g cc nL own Ts) {i : Nat} {v : Nat} (hdg : decode cc pc = .ok (.aload i, 2)) (q : Nat) (hq : lv[q]? = some (i, .ref v))
    (kk : Z p l e R s m args below meth c g nL cells slots Q x (pc + 2) lv (.ref v :: st)) : Z p l e R s m args below meth c g nL cells slots Q x (pc) lv (st) :=
  fun H locs ls hP hS hl => lv_aload C.1.1 C.1.2.1 hdg (lv_at hl q hq) (kk H locs ls hP hS hl)

theorem z_astore_n (pc : Nat) (C : zC p s m args meth c g cc nL own Ts) {k : Fin 4} {i : Nat} {v : Nat} {lv' : List (Nat × Value)} (hdg : decode cc pc = .ok (.astore_n k, 1)) (hi : (k : Nat) = i) (hn : i < nL) (hl' : (i, Value.ref v) :: lv.filter (fun q => !(q.1 == i) && !(q.1 + 1 == i && q.2.category == 2)) = lv')
    (kk : Z p l e R s m args below meth c g nL cells slots Q x (pc + 1) lv' (st)) : Z p l e R s m args below meth c g nL cells slots Q x (pc) lv (.ref v :: st) :=
  fun H locs ls hP hS hl => lv_astore_n C.1.1 C.1.2.1 hdg hi hl hn hl' (fun ls' hl9 => kk H locs ls' hP hS hl9)

theorem z_astore (pc : Nat) (C : zC p s m args meth c g cc nL own Ts) {i : Nat} {v : Nat} {lv' : List (Nat × Value)} (hdg : decode cc pc = .ok (.astore i, 2)) (hn : i < nL) (hl' : (i, Value.ref v) :: lv.filter (fun q => !(q.1 == i) && !(q.1 + 1 == i && q.2.category == 2)) = lv')
    (kk : Z p l e R s m args below meth c g nL cells slots Q x (pc + 2) lv' (st)) : Z p l e R s m args below meth c g nL cells slots Q x (pc) lv (.ref v :: st) :=
  fun H locs ls hP hS hl => lv_astore C.1.1 C.1.2.1 hdg hl hn hl' (fun ls' hl9 => kk H locs ls' hP hS hl9)

theorem z_lload_n (pc : Nat) (C : zC p s m args meth c g cc nL own Ts) {k : Fin 4} {i : Nat} {v : Int64} (hdg : decode cc pc = .ok (.lload_n k, 1)) (hi : (k : Nat) = i) (q : Nat) (hq : lv[q]? = some (i, .long v))
    (kk : Z p l e R s m args below meth c g nL cells slots Q x (pc + 1) lv (.long v :: st)) : Z p l e R s m args below meth c g nL cells slots Q x (pc) lv (st) :=
  fun H locs ls hP hS hl => lv_lload_n C.1.1 C.1.2.1 hdg hi (lv_at hl q hq) (kk H locs ls hP hS hl)

theorem z_lload (pc : Nat) (C : zC p s m args meth c g cc nL own Ts) {i : Nat} {v : Int64} (hdg : decode cc pc = .ok (.lload i, 2)) (q : Nat) (hq : lv[q]? = some (i, .long v))
    (kk : Z p l e R s m args below meth c g nL cells slots Q x (pc + 2) lv (.long v :: st)) : Z p l e R s m args below meth c g nL cells slots Q x (pc) lv (st) :=
  fun H locs ls hP hS hl => lv_lload C.1.1 C.1.2.1 hdg (lv_at hl q hq) (kk H locs ls hP hS hl)

theorem z_lstore_n (pc : Nat) (C : zC p s m args meth c g cc nL own Ts) {k : Fin 4} {i : Nat} {v : Int64} {lv' : List (Nat × Value)} (hdg : decode cc pc = .ok (.lstore_n k, 1)) (hi : (k : Nat) = i) (hn : i + 1 < nL) (hl' : (i, Value.long v) :: lv.filter (fun q => !(q.1 == i) && (!(q.1 == i + 1) && !(q.1 + 1 == i && q.2.category == 2))) = lv')
    (kk : Z p l e R s m args below meth c g nL cells slots Q x (pc + 1) lv' (st)) : Z p l e R s m args below meth c g nL cells slots Q x (pc) lv (.long v :: st) :=
  fun H locs ls hP hS hl => lv_lstore_n C.1.1 C.1.2.1 hdg hi hl hn hl' (fun ls' hl9 => kk H locs ls' hP hS hl9)

theorem z_lstore (pc : Nat) (C : zC p s m args meth c g cc nL own Ts) {i : Nat} {v : Int64} {lv' : List (Nat × Value)} (hdg : decode cc pc = .ok (.lstore i, 2)) (hn : i + 1 < nL) (hl' : (i, Value.long v) :: lv.filter (fun q => !(q.1 == i) && (!(q.1 == i + 1) && !(q.1 + 1 == i && q.2.category == 2))) = lv')
    (kk : Z p l e R s m args below meth c g nL cells slots Q x (pc + 2) lv' (st)) : Z p l e R s m args below meth c g nL cells slots Q x (pc) lv (.long v :: st) :=
  fun H locs ls hP hS hl => lv_lstore C.1.1 C.1.2.1 hdg hl hn hl' (fun ls' hl9 => kk H locs ls' hP hS hl9)

theorem z_dload_n (pc : Nat) (C : zC p s m args meth c g cc nL own Ts) {k : Fin 4} {i : Nat} {v : UInt64} (hdg : decode cc pc = .ok (.dload_n k, 1)) (hi : (k : Nat) = i) (q : Nat) (hq : lv[q]? = some (i, .double v))
    (kk : Z p l e R s m args below meth c g nL cells slots Q x (pc + 1) lv (.double v :: st)) : Z p l e R s m args below meth c g nL cells slots Q x (pc) lv (st) :=
  fun H locs ls hP hS hl => lv_dload_n C.1.1 C.1.2.1 hdg hi (lv_at hl q hq) (kk H locs ls hP hS hl)

theorem z_dload (pc : Nat) (C : zC p s m args meth c g cc nL own Ts) {i : Nat} {v : UInt64} (hdg : decode cc pc = .ok (.dload i, 2)) (q : Nat) (hq : lv[q]? = some (i, .double v))
    (kk : Z p l e R s m args below meth c g nL cells slots Q x (pc + 2) lv (.double v :: st)) : Z p l e R s m args below meth c g nL cells slots Q x (pc) lv (st) :=
  fun H locs ls hP hS hl => lv_dload C.1.1 C.1.2.1 hdg (lv_at hl q hq) (kk H locs ls hP hS hl)

theorem z_dstore_n (pc : Nat) (C : zC p s m args meth c g cc nL own Ts) {k : Fin 4} {i : Nat} {v : UInt64} {lv' : List (Nat × Value)} (hdg : decode cc pc = .ok (.dstore_n k, 1)) (hi : (k : Nat) = i) (hn : i + 1 < nL) (hl' : (i, Value.double v) :: lv.filter (fun q => !(q.1 == i) && (!(q.1 == i + 1) && !(q.1 + 1 == i && q.2.category == 2))) = lv')
    (kk : Z p l e R s m args below meth c g nL cells slots Q x (pc + 1) lv' (st)) : Z p l e R s m args below meth c g nL cells slots Q x (pc) lv (.double v :: st) :=
  fun H locs ls hP hS hl => lv_dstore_n C.1.1 C.1.2.1 hdg hi hl hn hl' (fun ls' hl9 => kk H locs ls' hP hS hl9)

theorem z_dstore (pc : Nat) (C : zC p s m args meth c g cc nL own Ts) {i : Nat} {v : UInt64} {lv' : List (Nat × Value)} (hdg : decode cc pc = .ok (.dstore i, 2)) (hn : i + 1 < nL) (hl' : (i, Value.double v) :: lv.filter (fun q => !(q.1 == i) && (!(q.1 == i + 1) && !(q.1 + 1 == i && q.2.category == 2))) = lv')
    (kk : Z p l e R s m args below meth c g nL cells slots Q x (pc + 2) lv' (st)) : Z p l e R s m args below meth c g nL cells slots Q x (pc) lv (.double v :: st) :=
  fun H locs ls hP hS hl => lv_dstore C.1.1 C.1.2.1 hdg hl hn hl' (fun ls' hl9 => kk H locs ls' hP hS hl9)

theorem z_iinc (pc : Nat) (C : zC p s m args meth c g cc nL own Ts) {i q : Nat} {n : Int} {v v' : Int32} {lv' : List (Nat × Value)} (hdg : decode cc pc = .ok (.iinc i n, 3)) (hq : lv[q]? = some (i, .int v)) (hv : v + Int32.ofInt n = v') (hn : i < nL) (hl' : (i, Value.int v') :: lv.filter (fun q => !(q.1 == i) && !(q.1 + 1 == i && q.2.category == 2)) = lv')
    (kk : Z p l e R s m args below meth c g nL cells slots Q x (pc + 3) lv' (st)) : Z p l e R s m args below meth c g nL cells slots Q x (pc) lv (st) :=
  fun H locs ls hP hS hl => lv_iinc C.1.1 C.1.2.1 hdg hl hq hv hn hl' (fun ls' hl9 => kk H locs ls' hP hS hl9)

theorem z_iadd (pc : Nat) (C : zC p s m args meth c g cc nL own Ts) {a b v : Int32} (hdg : decode cc pc = .ok (.iadd, 1)) (hv : a + b = v)
    (kk : Z p l e R s m args below meth c g nL cells slots Q x (pc + 1) lv (.int v :: st)) : Z p l e R s m args below meth c g nL cells slots Q x (pc) lv (.int b :: .int a :: st) :=
  fun H locs ls hP hS hl => lv_iadd C.1.1 C.1.2.1 hdg (by rw [hv]; exact kk H locs ls hP hS hl)

theorem z_isub (pc : Nat) (C : zC p s m args meth c g cc nL own Ts) {a b v : Int32} (hdg : decode cc pc = .ok (.isub, 1)) (hv : a - b = v)
    (kk : Z p l e R s m args below meth c g nL cells slots Q x (pc + 1) lv (.int v :: st)) : Z p l e R s m args below meth c g nL cells slots Q x (pc) lv (.int b :: .int a :: st) :=
  fun H locs ls hP hS hl => lv_isub C.1.1 C.1.2.1 hdg (by rw [hv]; exact kk H locs ls hP hS hl)

theorem z_imul (pc : Nat) (C : zC p s m args meth c g cc nL own Ts) {a b v : Int32} (hdg : decode cc pc = .ok (.imul, 1)) (hv : a * b = v)
    (kk : Z p l e R s m args below meth c g nL cells slots Q x (pc + 1) lv (.int v :: st)) : Z p l e R s m args below meth c g nL cells slots Q x (pc) lv (.int b :: .int a :: st) :=
  fun H locs ls hP hS hl => lv_imul C.1.1 C.1.2.1 hdg (by rw [hv]; exact kk H locs ls hP hS hl)

theorem z_iand (pc : Nat) (C : zC p s m args meth c g cc nL own Ts) {a b v : Int32} (hdg : decode cc pc = .ok (.iand, 1)) (hv : a &&& b = v)
    (kk : Z p l e R s m args below meth c g nL cells slots Q x (pc + 1) lv (.int v :: st)) : Z p l e R s m args below meth c g nL cells slots Q x (pc) lv (.int b :: .int a :: st) :=
  fun H locs ls hP hS hl => lv_iand C.1.1 C.1.2.1 hdg (by rw [hv]; exact kk H locs ls hP hS hl)

theorem z_ladd (pc : Nat) (C : zC p s m args meth c g cc nL own Ts) {a b v : Int64} (hdg : decode cc pc = .ok (.ladd, 1)) (hv : a + b = v)
    (kk : Z p l e R s m args below meth c g nL cells slots Q x (pc + 1) lv (.long v :: st)) : Z p l e R s m args below meth c g nL cells slots Q x (pc) lv (.long b :: .long a :: st) :=
  fun H locs ls hP hS hl => lv_ladd C.1.1 C.1.2.1 hdg (by rw [hv]; exact kk H locs ls hP hS hl)

theorem z_lmul (pc : Nat) (C : zC p s m args meth c g cc nL own Ts) {a b v : Int64} (hdg : decode cc pc = .ok (.lmul, 1)) (hv : a * b = v)
    (kk : Z p l e R s m args below meth c g nL cells slots Q x (pc + 1) lv (.long v :: st)) : Z p l e R s m args below meth c g nL cells slots Q x (pc) lv (.long b :: .long a :: st) :=
  fun H locs ls hP hS hl => lv_lmul C.1.1 C.1.2.1 hdg (by rw [hv]; exact kk H locs ls hP hS hl)

theorem z_lsub (pc : Nat) (C : zC p s m args meth c g cc nL own Ts) {a b v : Int64} (hdg : decode cc pc = .ok (.lsub, 1)) (hv : a - b = v)
    (kk : Z p l e R s m args below meth c g nL cells slots Q x (pc + 1) lv (.long v :: st)) : Z p l e R s m args below meth c g nL cells slots Q x (pc) lv (.long b :: .long a :: st) :=
  fun H locs ls hP hS hl => lv_lsub C.1.1 C.1.2.1 hdg (by rw [hv]; exact kk H locs ls hP hS hl)

theorem z_idiv (pc : Nat) (C : zC p s m args meth c g cc nL own Ts) {a b v : Int32} (hdg : decode cc pc = .ok (.idiv, 1)) (hne : ¬ b = 0) (hv : a / b = v)
    (kk : Z p l e R s m args below meth c g nL cells slots Q x (pc + 1) lv (.int v :: st)) : Z p l e R s m args below meth c g nL cells slots Q x (pc) lv (.int b :: .int a :: st) :=
  fun H locs ls hP hS hl => lv_idiv C.1.1 C.1.2.1 hdg hne (by rw [hv]; exact kk H locs ls hP hS hl)

theorem z_dcmp (pc : Nat) (C : zC p s m args meth c g cc nL own Ts) {a b : UInt64} {op : CmpOp} {v : Int32} (hdg : decode cc pc = .ok (.dcmp op, 1)) (hv : Op.cmpValue (FP.dcmp a b) op = v)
    (kk : Z p l e R s m args below meth c g nL cells slots Q x (pc + 1) lv (.int v :: st)) : Z p l e R s m args below meth c g nL cells slots Q x (pc) lv (.double b :: .double a :: st) :=
  fun H locs ls hP hS hl => lv_dcmp C.1.1 C.1.2.1 hdg (by rw [hv]; exact kk H locs ls hP hS hl)

theorem z_irem (pc : Nat) (C : zC p s m args meth c g cc nL own Ts) {a b v : Int32} (hdg : decode cc pc = .ok (.irem, 1)) (hne : ¬ b = 0) (hv : a - a / b * b = v)
    (kk : Z p l e R s m args below meth c g nL cells slots Q x (pc + 1) lv (.int v :: st)) : Z p l e R s m args below meth c g nL cells slots Q x (pc) lv (.int b :: .int a :: st) :=
  fun H locs ls hP hS hl => lv_irem C.1.1 C.1.2.1 hdg hne (by rw [hv]; exact kk H locs ls hP hS hl)

theorem z_ishl (pc : Nat) (C : zC p s m args meth c g cc nL own Ts) {a b v : Int32} (hdg : decode cc pc = .ok (.ishl, 1)) (hv : a <<< (b &&& 31) = v)
    (kk : Z p l e R s m args below meth c g nL cells slots Q x (pc + 1) lv (.int v :: st)) : Z p l e R s m args below meth c g nL cells slots Q x (pc) lv (.int b :: .int a :: st) :=
  fun H locs ls hP hS hl => lv_ishl C.1.1 C.1.2.1 hdg (by rw [hv]; exact kk H locs ls hP hS hl)

theorem z_ishr (pc : Nat) (C : zC p s m args meth c g cc nL own Ts) {a b v : Int32} (hdg : decode cc pc = .ok (.ishr, 1)) (hv : a >>> (b &&& 31) = v)
    (kk : Z p l e R s m args below meth c g nL cells slots Q x (pc + 1) lv (.int v :: st)) : Z p l e R s m args below meth c g nL cells slots Q x (pc) lv (.int b :: .int a :: st) :=
  fun H locs ls hP hS hl => lv_ishr C.1.1 C.1.2.1 hdg (by rw [hv]; exact kk H locs ls hP hS hl)

theorem z_i2l (pc : Nat) (C : zC p s m args meth c g cc nL own Ts) {a : Int32} {v : Int64} (hdg : decode cc pc = .ok (.i2l, 1)) (hv : a.toInt64 = v)
    (kk : Z p l e R s m args below meth c g nL cells slots Q x (pc + 1) lv (.long v :: st)) : Z p l e R s m args below meth c g nL cells slots Q x (pc) lv (.int a :: st) :=
  fun H locs ls hP hS hl => lv_i2l C.1.1 C.1.2.1 hdg hv (kk H locs ls hP hS hl)

theorem z_l2i (pc : Nat) (C : zC p s m args meth c g cc nL own Ts) {a : Int64} {v : Int32} (hdg : decode cc pc = .ok (.l2i, 1)) (hv : a.toInt32 = v)
    (kk : Z p l e R s m args below meth c g nL cells slots Q x (pc + 1) lv (.int v :: st)) : Z p l e R s m args below meth c g nL cells slots Q x (pc) lv (.long a :: st) :=
  fun H locs ls hP hS hl => lv_l2i C.1.1 C.1.2.1 hdg hv (kk H locs ls hP hS hl)

theorem z_i2d (pc : Nat) (C : zC p s m args meth c g cc nL own Ts) {a : Int32} (hdg : decode cc pc = .ok (.i2d, 1))
    (kk : Z p l e R s m args below meth c g nL cells slots Q x (pc + 1) lv (.double (FP.i2d a) :: st)) : Z p l e R s m args below meth c g nL cells slots Q x (pc) lv (.int a :: st) :=
  fun H locs ls hP hS hl => lv_i2d C.1.1 C.1.2.1 hdg (kk H locs ls hP hS hl)

theorem z_lcmp (pc : Nat) (C : zC p s m args meth c g cc nL own Ts) {a b : Int64} {v : Int32} (hdg : decode cc pc = .ok (.lcmp, 1)) (hv : lg_cmp a b = v)
    (kk : Z p l e R s m args below meth c g nL cells slots Q x (pc + 1) lv (.int v :: st)) : Z p l e R s m args below meth c g nL cells slots Q x (pc) lv (.long b :: .long a :: st) :=
  fun H locs ls hP hS hl => W.lcmp C.1.1 C.1.2.1 hdg (by rw [hv]; exact kk H locs ls hP hS hl)

theorem z_ddiv (pc : Nat) (C : zC p s m args meth c g cc nL own Ts) {a b : UInt64} (hdg : decode cc pc = .ok (.ddiv, 1)) (hne : vf_n64 (FP.ddiv a b))
    (kk : Z p l e R s m args below meth c g nL cells slots Q x (pc + 1) lv (.double (FP.ddiv a b) :: st)) : Z p l e R s m args below meth c g nL cells slots Q x (pc) lv (.double b :: .double a :: st) :=
  fun H locs ls hP hS hl => lv_ddiv C.1.1 C.1.2.1 hdg hne (kk H locs ls hP hS hl)

theorem z_dup (pc : Nat) (C : zC p s m args meth c g cc nL own Ts) {v : Value} (hdg : decode cc pc = .ok (.dup, 1)) (hv : v.category = 1)
    (kk : Z p l e R s m args below meth c g nL cells slots Q x (pc + 1) lv (v :: v :: st)) : Z p l e R s m args below meth c g nL cells slots Q x (pc) lv (v :: st) :=
  fun H locs ls hP hS hl => lv_dup C.1.1 C.1.2.1 hdg hv (kk H locs ls hP hS hl)

theorem z_dup_x1 (pc : Nat) (C : zC p s m args meth c g cc nL own Ts) {v w : Value} (hdg : decode cc pc = .ok (.dup_x1, 1)) (hv : v.category = 1) (hw : w.category = 1)
    (kk : Z p l e R s m args below meth c g nL cells slots Q x (pc + 1) lv (v :: w :: v :: st)) : Z p l e R s m args below meth c g nL cells slots Q x (pc) lv (v :: w :: st) :=
  fun H locs ls hP hS hl => lv_dup_x1 C.1.1 C.1.2.1 hdg hv hw (kk H locs ls hP hS hl)

theorem z_dup2 (pc : Nat) (C : zC p s m args meth c g cc nL own Ts) {v w : Value} (hdg : decode cc pc = .ok (.dup2, 1)) (hv : v.category = 1) (hw : w.category = 1)
    (kk : Z p l e R s m args below meth c g nL cells slots Q x (pc + 1) lv (v :: w :: v :: w :: st)) : Z p l e R s m args below meth c g nL cells slots Q x (pc) lv (v :: w :: st) :=
  fun H locs ls hP hS hl => lv_dup2_11 C.1.1 C.1.2.1 hdg hv hw (kk H locs ls hP hS hl)

theorem z_icmp_eq (pc : Nat) (C : zC p s m args meth c g cc nL own Ts) {a b : Int32} {off : Int} (tgt : Nat) (hdg : decode cc pc = .ok (.if_icmp .eq off, 3)) (ht : (pc : Int) + off = (tgt : Int))
    (kt : (a = b) → Z p l e R s m args below meth c g nL cells slots Q x (tgt) lv (st)) (kf : ¬ (a = b) → Z p l e R s m args below meth c g nL cells slots Q x (pc + 3) lv (st)) : Z p l e R s m args below meth c g nL cells slots Q x (pc) lv (.int b :: .int a :: st) :=
  fun H locs ls hP hS hl => lv_icmp_eq C.1.1 C.1.2.1 hdg ht (fun h => kt h H locs ls hP hS hl) (fun h => kf h H locs ls hP hS hl)

theorem z_if_eq (pc : Nat) (C : zC p s m args meth c g cc nL own Ts) {a : Int32} {off : Int} (tgt : Nat) (hdg : decode cc pc = .ok (.ifCond .eq off, 3)) (ht : (pc : Int) + off = (tgt : Int))
    (kt : (a = 0) → Z p l e R s m args below meth c g nL cells slots Q x (tgt) lv (st)) (kf : ¬ (a = 0) → Z p l e R s m args below meth c g nL cells slots Q x (pc + 3) lv (st)) : Z p l e R s m args below meth c g nL cells slots Q x (pc) lv (.int a :: st) :=
  fun H locs ls hP hS hl => lv_if_eq C.1.1 C.1.2.1 hdg ht (fun h => kt h H locs ls hP hS hl) (fun h => kf h H locs ls hP hS hl)

theorem z_icmp_ne (pc : Nat) (C : zC p s m args meth c g cc nL own Ts) {a b : Int32} {off : Int} (tgt : Nat) (hdg : decode cc pc = .ok (.if_icmp .ne off, 3)) (ht : (pc : Int) + off = (tgt : Int))
    (kt : (¬ a = b) → Z p l e R s m args below meth c g nL cells slots Q x (tgt) lv (st)) (kf : (a = b) → Z p l e R s m args below meth c g nL cells slots Q x (pc + 3) lv (st)) : Z p l e R s m args below meth c g nL cells slots Q x (pc) lv (.int b :: .int a :: st) :=
  fun H locs ls hP hS hl => lv_icmp_ne C.1.1 C.1.2.1 hdg ht (fun h => kt h H locs ls hP hS hl) (fun h => kf h H locs ls hP hS hl)

theorem z_if_ne (pc : Nat) (C : zC p s m args meth c g cc nL own Ts) {a : Int32} {off : Int} (tgt : Nat) (hdg : decode cc pc = .ok (.ifCond .ne off, 3)) (ht : (pc : Int) + off = (tgt : Int))
    (kt : (¬ a = 0) → Z p l e R s m args below meth c g nL cells slots Q x (tgt) lv (st)) (kf : (a = 0) → Z p l e R s m args below meth c g nL cells slots Q x (pc + 3) lv (st)) : Z p l e R s m args below meth c g nL cells slots Q x (pc) lv (.int a :: st) :=
  fun H locs ls hP hS hl => lv_if_ne C.1.1 C.1.2.1 hdg ht (fun h => kt h H locs ls hP hS hl) (fun h => kf h H locs ls hP hS hl)

theorem z_icmp_lt (pc : Nat) (C : zC p s m args meth c g cc nL own Ts) {a b : Int32} {off : Int} (tgt : Nat) (hdg : decode cc pc = .ok (.if_icmp .lt off, 3)) (ht : (pc : Int) + off = (tgt : Int))
    (kt : (a < b) → Z p l e R s m args below meth c g nL cells slots Q x (tgt) lv (st)) (kf : ¬ (a < b) → Z p l e R s m args below meth c g nL cells slots Q x (pc + 3) lv (st)) : Z p l e R s m args below meth c g nL cells slots Q x (pc) lv (.int b :: .int a :: st) :=
  fun H locs ls hP hS hl => lv_icmp_lt C.1.1 C.1.2.1 hdg ht (fun h => kt h H locs ls hP hS hl) (fun h => kf h H locs ls hP hS hl)

theorem z_if_lt (pc : Nat) (C : zC p s m args meth c g cc nL own Ts) {a : Int32} {off : Int} (tgt : Nat) (hdg : decode cc pc = .ok (.ifCond .lt off, 3)) (ht : (pc : Int) + off = (tgt : Int))
    (kt : (a < 0) → Z p l e R s m args below meth c g nL cells slots Q x (tgt) lv (st)) (kf : ¬ (a < 0) → Z p l e R s m args below meth c g nL cells slots Q x (pc + 3) lv (st)) : Z p l e R s m args below meth c g nL cells slots Q x (pc) lv (.int a :: st) :=
  fun H locs ls hP hS hl => lv_if_lt C.1.1 C.1.2.1 hdg ht (fun h => kt h H locs ls hP hS hl) (fun h => kf h H locs ls hP hS hl)

theorem z_icmp_ge (pc : Nat) (C : zC p s m args meth c g cc nL own Ts) {a b : Int32} {off : Int} (tgt : Nat) (hdg : decode cc pc = .ok (.if_icmp .ge off, 3)) (ht : (pc : Int) + off = (tgt : Int))
    (kt : (b ≤ a) → Z p l e R s m args below meth c g nL cells slots Q x (tgt) lv (st)) (kf : ¬ (b ≤ a) → Z p l e R s m args below meth c g nL cells slots Q x (pc + 3) lv (st)) : Z p l e R s m args below meth c g nL cells slots Q x (pc) lv (.int b :: .int a :: st) :=
  fun H locs ls hP hS hl => lv_icmp_ge C.1.1 C.1.2.1 hdg ht (fun h => kt h H locs ls hP hS hl) (fun h => kf h H locs ls hP hS hl)

theorem z_if_ge (pc : Nat) (C : zC p s m args meth c g cc nL own Ts) {a : Int32} {off : Int} (tgt : Nat) (hdg : decode cc pc = .ok (.ifCond .ge off, 3)) (ht : (pc : Int) + off = (tgt : Int))
    (kt : (0 ≤ a) → Z p l e R s m args below meth c g nL cells slots Q x (tgt) lv (st)) (kf : ¬ (0 ≤ a) → Z p l e R s m args below meth c g nL cells slots Q x (pc + 3) lv (st)) : Z p l e R s m args below meth c g nL cells slots Q x (pc) lv (.int a :: st) :=
  fun H locs ls hP hS hl => lv_if_ge C.1.1 C.1.2.1 hdg ht (fun h => kt h H locs ls hP hS hl) (fun h => kf h H locs ls hP hS hl)

theorem z_icmp_gt (pc : Nat) (C : zC p s m args meth c g cc nL own Ts) {a b : Int32} {off : Int} (tgt : Nat) (hdg : decode cc pc = .ok (.if_icmp .gt off, 3)) (ht : (pc : Int) + off = (tgt : Int))
    (kt : (b < a) → Z p l e R s m args below meth c g nL cells slots Q x (tgt) lv (st)) (kf : ¬ (b < a) → Z p l e R s m args below meth c g nL cells slots Q x (pc + 3) lv (st)) : Z p l e R s m args below meth c g nL cells slots Q x (pc) lv (.int b :: .int a :: st) :=
  fun H locs ls hP hS hl => lv_icmp_gt C.1.1 C.1.2.1 hdg ht (fun h => kt h H locs ls hP hS hl) (fun h => kf h H locs ls hP hS hl)

theorem z_if_gt (pc : Nat) (C : zC p s m args meth c g cc nL own Ts) {a : Int32} {off : Int} (tgt : Nat) (hdg : decode cc pc = .ok (.ifCond .gt off, 3)) (ht : (pc : Int) + off = (tgt : Int))
    (kt : (0 < a) → Z p l e R s m args below meth c g nL cells slots Q x (tgt) lv (st)) (kf : ¬ (0 < a) → Z p l e R s m args below meth c g nL cells slots Q x (pc + 3) lv (st)) : Z p l e R s m args below meth c g nL cells slots Q x (pc) lv (.int a :: st) :=
  fun H locs ls hP hS hl => lv_if_gt C.1.1 C.1.2.1 hdg ht (fun h => kt h H locs ls hP hS hl) (fun h => kf h H locs ls hP hS hl)

theorem z_icmp_le (pc : Nat) (C : zC p s m args meth c g cc nL own Ts) {a b : Int32} {off : Int} (tgt : Nat) (hdg : decode cc pc = .ok (.if_icmp .le off, 3)) (ht : (pc : Int) + off = (tgt : Int))
    (kt : (a ≤ b) → Z p l e R s m args below meth c g nL cells slots Q x (tgt) lv (st)) (kf : ¬ (a ≤ b) → Z p l e R s m args below meth c g nL cells slots Q x (pc + 3) lv (st)) : Z p l e R s m args below meth c g nL cells slots Q x (pc) lv (.int b :: .int a :: st) :=
  fun H locs ls hP hS hl => lv_icmp_le C.1.1 C.1.2.1 hdg ht (fun h => kt h H locs ls hP hS hl) (fun h => kf h H locs ls hP hS hl)

theorem z_if_le (pc : Nat) (C : zC p s m args meth c g cc nL own Ts) {a : Int32} {off : Int} (tgt : Nat) (hdg : decode cc pc = .ok (.ifCond .le off, 3)) (ht : (pc : Int) + off = (tgt : Int))
    (kt : (a ≤ 0) → Z p l e R s m args below meth c g nL cells slots Q x (tgt) lv (st)) (kf : ¬ (a ≤ 0) → Z p l e R s m args below meth c g nL cells slots Q x (pc + 3) lv (st)) : Z p l e R s m args below meth c g nL cells slots Q x (pc) lv (.int a :: st) :=
  fun H locs ls hP hS hl => lv_if_le C.1.1 C.1.2.1 hdg ht (fun h => kt h H locs ls hP hS hl) (fun h => kf h H locs ls hP hS hl)

theorem z_goto (pc : Nat) (C : zC p s m args meth c g cc nL own Ts) {off : Int} (tgt : Nat) (hdg : decode cc pc = .ok (.goto off, 3)) (ht : (pc : Int) + off = (tgt : Int)) (kk : Z p l e R s m args below meth c g nL cells slots Q x (tgt) lv (st)) : Z p l e R s m args below meth c g nL cells slots Q x (pc) lv (st) :=
  fun H locs ls hP hS hl => lv_goto C.1.1 C.1.2.1 hdg ht (kk H locs ls hP hS hl)
theorem z_lv {pc : Nat} {lv' : List (Nat × Value)} (ks : List Nat) (h : lv_pick lv ks = lv') (kk : Z p l e R s m args below meth c g nL cells slots Q x (pc) lv' (st)) : Z p l e R s m args below meth c g nL cells slots Q x (pc) lv (st) :=
  fun H locs ls hP hS hl => kk H locs ls hP hS (lv_sub hl ks h)
theorem z_x {pc : Nat} {y : zT} (h : x = y) (kk : Z p l e R s m args below meth c g nL cells slots Q y (pc) lv (st)) : Z p l e R s m args below meth c g nL cells slots Q x (pc) lv (st) := h ▸ kk
theorem z_int {pc : Nat} {a b : Int32} (h : a = b) (kk : Z p l e R s m args below meth c g nL cells slots Q x (pc) lv (.int b :: st)) : Z p l e R s m args below meth c g nL cells slots Q x (pc) lv (.int a :: st) := h ▸ kk
theorem z_long {pc : Nat} {a b : Int64} (h : a = b) (kk : Z p l e R s m args below meth c g nL cells slots Q x (pc) lv (.long b :: st)) : Z p l e R s m args below meth c g nL cells slots Q x (pc) lv (.long a :: st) := h ▸ kk
theorem z_widen {pc k n : Nat} (h1 : cells ≤ k) (h2 : slots ≤ n) (kk : Z p l e R s m args below meth c g nL k n Q x pc lv st) : Z p l e R s m args below meth c g nL cells slots Q x (pc) lv (st) :=
  fun H locs ls hP hS hl => W.widen h1 h2 (kk H locs ls hP hS hl)
theorem z_icmp_geL (pc : Nat) (C : zC p s m args meth c g cc nL own Ts) {a b : Int32} {off : Int} (tgt : Nat) (hdg : decode cc pc = .ok (.if_icmp .ge off, 3)) (ht : (pc : Int) + off = (tgt : Int))
    (kt : ¬ a < b → Z p l e R s m args below meth c g nL cells slots Q x (tgt) lv (st)) (kf : a < b → Z p l e R s m args below meth c g nL cells slots Q x (pc + 3) lv (st)) : Z p l e R s m args below meth c g nL cells slots Q x (pc) lv (.int b :: .int a :: st) :=
  z_icmp_ge pc C tgt hdg ht (fun h => kt (Int32.not_lt.mpr h)) (fun h => kf (Int32.not_le.mp h))
theorem z_if_eqN (pc : Nat) (C : zC p s m args meth c g cc nL own Ts) {a : Nat} {off : Int} (tgt : Nat) (hdg : decode cc pc = .ok (.ifCond .eq off, 3)) (ht : (pc : Int) + off = (tgt : Int)) (ha : a < 2 ^ 31)
    (kt : a = 0 → Z p l e R s m args below meth c g nL cells slots Q x (tgt) lv (st)) (kf : a ≠ 0 → Z p l e R s m args below meth c g nL cells slots Q x (pc + 3) lv (st)) : Z p l e R s m args below meth c g nL cells slots Q x (pc) lv (.int (nI a) :: st) :=
  z_if_eq pc C tgt hdg ht (fun h => kt (zn_eqp ha (by decide) h)) (fun h => kf (zn_eqn ha (by decide) h))
theorem z_if_neN (pc : Nat) (C : zC p s m args meth c g cc nL own Ts) {a : Nat} {off : Int} (tgt : Nat) (hdg : decode cc pc = .ok (.ifCond .ne off, 3)) (ht : (pc : Int) + off = (tgt : Int)) (ha : a < 2 ^ 31)
    (kt : a ≠ 0 → Z p l e R s m args below meth c g nL cells slots Q x (tgt) lv (st)) (kf : a = 0 → Z p l e R s m args below meth c g nL cells slots Q x (pc + 3) lv (st)) : Z p l e R s m args below meth c g nL cells slots Q x (pc) lv (.int (nI a) :: st) :=
  z_if_ne pc C tgt hdg ht (fun h => kt (zn_nep ha (by decide) h)) (fun h => kf (zn_nen ha (by decide) h))
theorem z_if_ltN (pc : Nat) (C : zC p s m args meth c g cc nL own Ts) {a : Nat} {off : Int} (tgt : Nat) (hdg : decode cc pc = .ok (.ifCond .lt off, 3)) (ht : (pc : Int) + off = (tgt : Int)) (ha : a < 2 ^ 31)
    (kt : a < 0 → Z p l e R s m args below meth c g nL cells slots Q x (tgt) lv (st)) (kf : 0 ≤ a → Z p l e R s m args below meth c g nL cells slots Q x (pc + 3) lv (st)) : Z p l e R s m args below meth c g nL cells slots Q x (pc) lv (.int (nI a) :: st) :=
  z_if_lt pc C tgt hdg ht (fun h => kt (zn_ltp ha (by decide) h)) (fun h => kf (zn_ltn ha (by decide) h))
theorem z_if_geN (pc : Nat) (C : zC p s m args meth c g cc nL own Ts) {a : Nat} {off : Int} (tgt : Nat) (hdg : decode cc pc = .ok (.ifCond .ge off, 3)) (ht : (pc : Int) + off = (tgt : Int)) (ha : a < 2 ^ 31)
    (kt : 0 ≤ a → Z p l e R s m args below meth c g nL cells slots Q x (tgt) lv (st)) (kf : a < 0 → Z p l e R s m args below meth c g nL cells slots Q x (pc + 3) lv (st)) : Z p l e R s m args below meth c g nL cells slots Q x (pc) lv (.int (nI a) :: st) :=
  z_if_ge pc C tgt hdg ht (fun h => kt (zn_gep ha (by decide) h)) (fun h => kf (zn_gen ha (by decide) h))
theorem z_if_gtN (pc : Nat) (C : zC p s m args meth c g cc nL own Ts) {a : Nat} {off : Int} (tgt : Nat) (hdg : decode cc pc = .ok (.ifCond .gt off, 3)) (ht : (pc : Int) + off = (tgt : Int)) (ha : a < 2 ^ 31)
    (kt : 0 < a → Z p l e R s m args below meth c g nL cells slots Q x (tgt) lv (st)) (kf : a ≤ 0 → Z p l e R s m args below meth c g nL cells slots Q x (pc + 3) lv (st)) : Z p l e R s m args below meth c g nL cells slots Q x (pc) lv (.int (nI a) :: st) :=
  z_if_gt pc C tgt hdg ht (fun h => kt (zn_gtp ha (by decide) h)) (fun h => kf (zn_gtn ha (by decide) h))
theorem z_if_leN (pc : Nat) (C : zC p s m args meth c g cc nL own Ts) {a : Nat} {off : Int} (tgt : Nat) (hdg : decode cc pc = .ok (.ifCond .le off, 3)) (ht : (pc : Int) + off = (tgt : Int)) (ha : a < 2 ^ 31)
    (kt : a ≤ 0 → Z p l e R s m args below meth c g nL cells slots Q x (tgt) lv (st)) (kf : 0 < a → Z p l e R s m args below meth c g nL cells slots Q x (pc + 3) lv (st)) : Z p l e R s m args below meth c g nL cells slots Q x (pc) lv (.int (nI a) :: st) :=
  z_if_le pc C tgt hdg ht (fun h => kt (zn_lep ha (by decide) h)) (fun h => kf (zn_len ha (by decide) h))
theorem z_icmp_eqN (pc : Nat) (C : zC p s m args meth c g cc nL own Ts) {a b : Nat} {off : Int} (tgt : Nat) (hdg : decode cc pc = .ok (.if_icmp .eq off, 3)) (ht : (pc : Int) + off = (tgt : Int)) (ha : a < 2 ^ 31) (hb : b < 2 ^ 31)
    (kt : a = b → Z p l e R s m args below meth c g nL cells slots Q x (tgt) lv (st)) (kf : a ≠ b → Z p l e R s m args below meth c g nL cells slots Q x (pc + 3) lv (st)) : Z p l e R s m args below meth c g nL cells slots Q x (pc) lv (.int (nI b) :: .int (nI a) :: st) :=
  z_icmp_eq pc C tgt hdg ht (fun h => kt (zn_eqp ha hb h)) (fun h => kf (zn_eqn ha hb h))
theorem z_icmp_neN (pc : Nat) (C : zC p s m args meth c g cc nL own Ts) {a b : Nat} {off : Int} (tgt : Nat) (hdg : decode cc pc = .ok (.if_icmp .ne off, 3)) (ht : (pc : Int) + off = (tgt : Int)) (ha : a < 2 ^ 31) (hb : b < 2 ^ 31)
    (kt : a ≠ b → Z p l e R s m args below meth c g nL cells slots Q x (tgt) lv (st)) (kf : a = b → Z p l e R s m args below meth c g nL cells slots Q x (pc + 3) lv (st)) : Z p l e R s m args below meth c g nL cells slots Q x (pc) lv (.int (nI b) :: .int (nI a) :: st) :=
  z_icmp_ne pc C tgt hdg ht (fun h => kt (zn_nep ha hb h)) (fun h => kf (zn_nen ha hb h))
theorem z_icmp_ltN (pc : Nat) (C : zC p s m args meth c g cc nL own Ts) {a b : Nat} {off : Int} (tgt : Nat) (hdg : decode cc pc = .ok (.if_icmp .lt off, 3)) (ht : (pc : Int) + off = (tgt : Int)) (ha : a < 2 ^ 31) (hb : b < 2 ^ 31)
    (kt : a < b → Z p l e R s m args below meth c g nL cells slots Q x (tgt) lv (st)) (kf : b ≤ a → Z p l e R s m args below meth c g nL cells slots Q x (pc + 3) lv (st)) : Z p l e R s m args below meth c g nL cells slots Q x (pc) lv (.int (nI b) :: .int (nI a) :: st) :=
  z_icmp_lt pc C tgt hdg ht (fun h => kt (zn_ltp ha hb h)) (fun h => kf (zn_ltn ha hb h))
theorem z_icmp_geN (pc : Nat) (C : zC p s m args meth c g cc nL own Ts) {a b : Nat} {off : Int} (tgt : Nat) (hdg : decode cc pc = .ok (.if_icmp .ge off, 3)) (ht : (pc : Int) + off = (tgt : Int)) (ha : a < 2 ^ 31) (hb : b < 2 ^ 31)
    (kt : b ≤ a → Z p l e R s m args below meth c g nL cells slots Q x (tgt) lv (st)) (kf : a < b → Z p l e R s m args below meth c g nL cells slots Q x (pc + 3) lv (st)) : Z p l e R s m args below meth c g nL cells slots Q x (pc) lv (.int (nI b) :: .int (nI a) :: st) :=
  z_icmp_ge pc C tgt hdg ht (fun h => kt (zn_gep ha hb h)) (fun h => kf (zn_gen ha hb h))
theorem z_icmp_gtN (pc : Nat) (C : zC p s m args meth c g cc nL own Ts) {a b : Nat} {off : Int} (tgt : Nat) (hdg : decode cc pc = .ok (.if_icmp .gt off, 3)) (ht : (pc : Int) + off = (tgt : Int)) (ha : a < 2 ^ 31) (hb : b < 2 ^ 31)
    (kt : b < a → Z p l e R s m args below meth c g nL cells slots Q x (tgt) lv (st)) (kf : a ≤ b → Z p l e R s m args below meth c g nL cells slots Q x (pc + 3) lv (st)) : Z p l e R s m args below meth c g nL cells slots Q x (pc) lv (.int (nI b) :: .int (nI a) :: st) :=
  z_icmp_gt pc C tgt hdg ht (fun h => kt (zn_gtp ha hb h)) (fun h => kf (zn_gtn ha hb h))
theorem z_icmp_leN (pc : Nat) (C : zC p s m args meth c g cc nL own Ts) {a b : Nat} {off : Int} (tgt : Nat) (hdg : decode cc pc = .ok (.if_icmp .le off, 3)) (ht : (pc : Int) + off = (tgt : Int)) (ha : a < 2 ^ 31) (hb : b < 2 ^ 31)
    (kt : a ≤ b → Z p l e R s m args below meth c g nL cells slots Q x (tgt) lv (st)) (kf : b < a → Z p l e R s m args below meth c g nL cells slots Q x (pc + 3) lv (st)) : Z p l e R s m args below meth c g nL cells slots Q x (pc) lv (.int (nI b) :: .int (nI a) :: st) :=
  z_icmp_le pc C tgt hdg ht (fun h => kt (zn_lep ha hb h)) (fun h => kf (zn_len ha hb h))
end ZROWS
