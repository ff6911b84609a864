/-! ===== the world's rows ===== -/
def kI (k n : Nat) : Prop := (k < 66 ∧ n < 1000) ∧ ∀ (g : zG) (f : Nat → Int32) (h : Nat → Int64) (d : Nat → UInt64), zc g k f h d = zi g n f
def kL (k n : Nat) : Prop := (k < 66 ∧ n < 1000) ∧ ∀ (g : zG) (f : Nat → Int32) (h : Nat → Int64) (d : Nat → UInt64), zc g k f h d = zl g n h
def kQ (k n t : Nat) (r : Nat → Nat) : Prop := (k < 66 ∧ n < 1000) ∧ ∀ (g : zG) (f : Nat → Int32) (h : Nat → Int64) (d : Nat → UInt64), zc g k f h d = zq g t n (fun j => some (zad g (r j)))
def kO (k ci : Nat) : Prop := k < 66 ∧ ∀ (g : zG) (f : Nat → Int32) (h : Nat → Int64) (d : Nat → UInt64), ∃ fs : List Value, zc g k f h d = .inr (ci, fs)
def kR (k ci q k' : Nat) : Prop := k < 66 ∧ ∀ (g : zG) (f : Nat → Int32) (h : Nat → Int64) (d : Nat → UInt64), ∃ fs : List Value, zc g k f h d = .inr (ci, fs) ∧ fs[q]? = some (.ref (zad g k'))
def kF (k ci q i : Nat) : Prop := k < 66 ∧ ∀ (g : zG) (f : Nat → Int32) (h : Nat → Int64) (d : Nat → UInt64), ∃ fs : List Value, zc g k f h d = .inr (ci, fs) ∧ fs[q]? = some (.int (f i)) ∧ q < fs.length ∧ ∀ v : Int32, zc g k (upd f i v) h d = .inr (ci, fs.set q (.int v))
theorem kI_p {j i n : Nat} (hj : j < 4) (hi : i < 16) (hn : n < 1000) (h : ∀ (g : zG) (f : Nat → Int32) (h : Nat → Int64), zs g j i f h = zi g n f) : kI (zp j i) n := ⟨⟨zp_lt hj hi, hn⟩, fun g f k d => (zc_p hi).trans (h g f k)⟩
theorem kI_sums {j : Nat} (hj : j < 4) : kI (zp j 2) 128 := kI_p hj (by omega) (by omega) (fun _ _ _ => rfl)
theorem kI_scell {j : Nat} (hj : j < 4) : kI (zp j 11) 40 := kI_p hj (by omega) (by omega) (fun _ _ _ => rfl)
theorem kI_items {j : Nat} (hj : j < 4) : kI (zp j 14) 8 := kI_p hj (by omega) (by omega) (fun _ _ _ => rfl)
theorem kI_wts {j : Nat} (hj : j < 4) : kI (zp j 15) 8 := kI_p hj (by omega) (by omega) (fun _ _ _ => rfl)
theorem kI_ccell {j k : Nat} (hj : j < 4) (hk : k < 3) : kI (zp j (7 + k)) 24 := kI_p hj (by omega) (by omega) (fun g f h => by
  unfold zs
  rw [if_neg (by omega), if_neg (by omega), if_neg (by omega), if_neg (by omega), if_neg (by omega), if_pos (by omega)])
theorem kL_num {j : Nat} (hj : j < 4) : kL (zp j 12) 5 := ⟨⟨zp_lt hj (by omega), by omega⟩, fun g f k d => (zc_p (by omega)).trans rfl⟩
theorem kQ_careful {j : Nat} (hj : j < 4) : kQ (zp j 3) 3 3 (fun k => zp j (4 + k)) := ⟨⟨zp_lt hj (by omega), by omega⟩, fun g f k d => (zc_p (by omega)).trans rfl⟩
theorem kQ_streams : kQ 1 4 2 (fun j => zp j 0) := ⟨⟨by omega, by omega⟩, fun _ _ _ _ => rfl⟩
theorem kR_p {j i ci q k' : Nat} (hj : j < 4) (hi : i < 16) (h : ∀ (g : zG) (f : Nat → Int32) (h : Nat → Int64), ∃ fs : List Value, zs g j i f h = .inr (ci, fs) ∧ fs[q]? = some (.ref (zad g k'))) : kR (zp j i) ci q k' := ⟨zp_lt hj hi, fun g f k d => by
  obtain ⟨fs, h1, h2⟩ := h g f k
  exact ⟨fs, (zc_p hi).trans h1, h2⟩⟩
theorem kO_p {j i ci : Nat} (hj : j < 4) (hi : i < 16) (h : ∀ (g : zG) (f : Nat → Int32) (h : Nat → Int64), ∃ fs : List Value, zs g j i f h = .inr (ci, fs)) : kO (zp j i) ci := ⟨zp_lt hj hi, fun g f k d => by
  obtain ⟨fs, h1⟩ := h g f k
  exact ⟨fs, (zc_p hi).trans h1⟩⟩
theorem kR_plain {j : Nat} (hj : j < 4) : kR (zp j 0) 4 0 (zp j 1) := kR_p hj (by omega) (fun _ _ _ => ⟨_, rfl, rfl⟩)
theorem kR_careful {j : Nat} (hj : j < 4) : kR (zp j 0) 4 1 (zp j 3) := kR_p hj (by omega) (fun _ _ _ => ⟨_, rfl, rfl⟩)
theorem kR_signed {j : Nat} (hj : j < 4) : kR (zp j 0) 4 2 (zp j 10) := kR_p hj (by omega) (fun _ _ _ => ⟨_, rfl, rfl⟩)
theorem kR_few {j : Nat} (hj : j < 4) : kR (zp j 0) 4 3 (zp j 13) := kR_p hj (by omega) (fun _ _ _ => ⟨_, rfl, rfl⟩)
theorem kR_sums {j : Nat} (hj : j < 4) : kR (zp j 1) 2 0 (zp j 2) := kR_p hj (by omega) (fun _ _ _ => ⟨_, rfl, rfl⟩)
theorem zs_cs {g : zG} {j k : Nat} {f : Nat → Int32} {h : Nat → Int64} (hk : k < 3) : zs g j (4 + k) f h = .inr (0, [.ref (zad g (zp j (7 + k)))]) := by
  unfold zs
  rw [if_neg (by omega), if_neg (by omega), if_neg (by omega), if_neg (by omega), if_pos (by omega), show 4 + k + 3 = 7 + k by omega]
theorem kR_ccells {j k : Nat} (hj : j < 4) (hk : k < 3) : kR (zp j (4 + k)) 0 0 (zp j (7 + k)) := kR_p hj (by omega) (fun _ _ _ => ⟨_, zs_cs hk, rfl⟩)
theorem kR_scells {j : Nat} (hj : j < 4) : kR (zp j 10) 3 0 (zp j 11) := kR_p hj (by omega) (fun _ _ _ => ⟨_, rfl, rfl⟩)
theorem kR_snum {j : Nat} (hj : j < 4) : kR (zp j 10) 3 1 (zp j 12) := kR_p hj (by omega) (fun _ _ _ => ⟨_, rfl, rfl⟩)
theorem kR_items {j : Nat} (hj : j < 4) : kR (zp j 13) 1 0 (zp j 14) := kR_p hj (by omega) (fun _ _ _ => ⟨_, rfl, rfl⟩)
theorem kR_wts {j : Nat} (hj : j < 4) : kR (zp j 13) 1 1 (zp j 15) := kR_p hj (by omega) (fun _ _ _ => ⟨_, rfl, rfl⟩)
theorem kR_streams : kR 0 5 0 1 := ⟨by omega, fun _ _ _ _ => ⟨_, rfl, rfl⟩⟩
theorem kO_stream {j : Nat} (hj : j < 4) : kO (zp j 0) 4 := kO_p hj (by omega) (fun _ _ _ => ⟨_, rfl⟩)
theorem kO_plain {j : Nat} (hj : j < 4) : kO (zp j 1) 2 := kO_p hj (by omega) (fun _ _ _ => ⟨_, rfl⟩)
theorem kO_cs {j k : Nat} (hj : j < 4) (hk : k < 3) : kO (zp j (4 + k)) 0 := kO_p hj (by omega) (fun _ _ _ => ⟨_, zs_cs hk⟩)
theorem kO_signed {j : Nat} (hj : j < 4) : kO (zp j 10) 3 := kO_p hj (by omega) (fun _ _ _ => ⟨_, rfl⟩)
theorem kO_few {j : Nat} (hj : j < 4) : kO (zp j 13) 1 := kO_p hj (by omega) (fun _ _ _ => ⟨_, rfl⟩)
theorem kO_main : kO 0 5 := ⟨by omega, fun _ _ _ _ => ⟨_, rfl⟩⟩
theorem kF_used {j : Nat} (hj : j < 4) : kF (zp j 13) 1 2 0 := ⟨zp_lt hj (by omega), fun g f k d => ⟨_, (zc_p (by omega)).trans rfl, rfl, Nat.le_of_ble_eq_true rfl, fun v => (zc_p (by omega)).trans rfl⟩⟩
theorem kF_away {j : Nat} (hj : j < 4) : kF (zp j 13) 1 3 1 := ⟨zp_lt hj (by omega), fun g f k d => ⟨_, (zc_p (by omega)).trans rfl, rfl, Nat.le_of_ble_eq_true rfl, fun v => (zc_p (by omega)).trans rfl⟩⟩
section ZHEAP
variable {p : Program} {l : Launch} {e : Env} {R : Room} {s : State} {m : MethodId} {args : Array Value} {below : List Frame} {meth : Method} {c : Code} {g : zG} {nL cells slots : Nat} {Q : State → Prop} {x : zT} {lv : List (Nat × Value)} {st : List Value} {cc : ByteArray} {own : String} {Ts : List Cond}
theorem z_iald (pc : Nat) (C : zC p s m args meth c g cc nL own Ts) {k n i : Nat} {v : Int32} (hk : kI k n) (hi : i < n) (hv : x.1 k i = v) (hdg : decode cc pc = .ok (.iaload, 1))
    (kk : Z p l e R s m args below meth c g nL cells slots Q x (pc + 1) lv (.int v :: st)) : Z p l e R s m args below meth c g nL cells slots Q x (pc) lv (.int (nI i) :: .ref (zad g k) :: st) := fun H locs ls hP hS hl => by
  have ha : (zw g x)[k]? = some (zad g k, .inl (g.2.1 0, n, .inl (x.1 k))) := by rw [zw_get hk.1.1, hk.2]; rfl
  refine va_iald C.1.1 C.1.2.1 C.2.1 hP k 0 ha rfl (vp_in_nI hi (by have := hk.1.2; omega)) hdg ?_
  rw [nI_clamp (by have := hk.1.2; omega), hv]
  exact kk H locs ls hP hS hl
theorem z_iast (pc : Nat) (C : zC p s m args meth c g cc nL own Ts) {k n i : Nat} {v : Int32} {f : Nat → Int32} (hk : kI k n) (hi : i < n) (hf : upd (x.1 k) i v = f) (hdg : decode cc pc = .ok (.iastore, 1))
    (kk : Z p l e R s m args below meth c g nL cells slots Q (xi x k f) (pc + 1) lv (st)) : Z p l e R s m args below meth c g nL cells slots Q x (pc) lv (.int v :: .int (nI i) :: .ref (zad g k) :: st) := fun H locs ls hP hS hl => by
  have ha : (zw g x)[k]? = some (zad g k, .inl (g.2.1 0, n, .inl (x.1 k))) := by rw [zw_get hk.1.1, hk.2]; rfl
  refine va_iast C.1.1 C.1.2.1 C.2.1 hP (zw_D C.2.2.1 x) hS k 0 ha rfl (vp_in_nI hi (by have := hk.1.2; omega)) hdg (fun H1 locs1 hP1 hD1 hS1 => ?_)
  rw [nI_clamp (by have := hk.1.2; omega), hf, zw_seti hk.1.1 (by rw [hk.2]; rfl)] at hP1
  exact kk H1 locs1 ls hP1 hS1 hl
theorem z_ialen (pc : Nat) (C : zC p s m args meth c g cc nL own Ts) {k n : Nat} (hk : kI k n) (hdg : decode cc pc = .ok (.arraylength, 1))
    (kk : Z p l e R s m args below meth c g nL cells slots Q x (pc + 1) lv (.int (nI n) :: st)) : Z p l e R s m args below meth c g nL cells slots Q x (pc) lv (.ref (zad g k) :: st) := fun H locs ls hP hS hl => by
  have ha : (zw g x)[k]? = some (zad g k, .inl (g.2.1 0, n, .inl (x.1 k))) := by rw [zw_get hk.1.1, hk.2]; rfl
  exact va_alen C.1.1 C.1.2.1 C.2.1 hP k 0 ha rfl rfl hdg (kk H locs ls hP hS hl)
theorem z_lald (pc : Nat) (C : zC p s m args meth c g cc nL own Ts) {k n i : Nat} {v : Int64} (hk : kL k n) (hi : i < n) (hv : x.2.1 k i = v) (hdg : decode cc pc = .ok (.laload, 1))
    (kk : Z p l e R s m args below meth c g nL cells slots Q x (pc + 1) lv (.long v :: st)) : Z p l e R s m args below meth c g nL cells slots Q x (pc) lv (.int (nI i) :: .ref (zad g k) :: st) := fun H locs ls hP hS hl => by
  have ha : (zw g x)[k]? = some (zad g k, .inl (g.2.1 1, n, .inr (.inl (x.2.1 k)))) := by rw [zw_get hk.1.1, hk.2]; rfl
  refine va_lald C.1.1 C.1.2.1 C.2.1 hP k 1 ha rfl (vp_in_nI hi (by have := hk.1.2; omega)) hdg ?_
  rw [nI_clamp (by have := hk.1.2; omega), hv]
  exact kk H locs ls hP hS hl
theorem z_last (pc : Nat) (C : zC p s m args meth c g cc nL own Ts) {k n i : Nat} {v : Int64} {f : Nat → Int64} (hk : kL k n) (hi : i < n) (hf : vp_updL (x.2.1 k) i v = f) (hdg : decode cc pc = .ok (.lastore, 1))
    (kk : Z p l e R s m args below meth c g nL cells slots Q (xl x k f) (pc + 1) lv (st)) : Z p l e R s m args below meth c g nL cells slots Q x (pc) lv (.long v :: .int (nI i) :: .ref (zad g k) :: st) := fun H locs ls hP hS hl => by
  have ha : (zw g x)[k]? = some (zad g k, .inl (g.2.1 1, n, .inr (.inl (x.2.1 k)))) := by rw [zw_get hk.1.1, hk.2]; rfl
  refine va_last C.1.1 C.1.2.1 C.2.1 hP (zw_D C.2.2.1 x) hS k 1 ha rfl (vp_in_nI hi (by have := hk.1.2; omega)) hdg (fun H1 locs1 hP1 hD1 hS1 => ?_)
  rw [nI_clamp (by have := hk.1.2; omega), hf, zw_setl hk.1.1 (by rw [hk.2]; rfl)] at hP1
  exact kk H1 locs1 ls hP1 hS1 hl
theorem z_lalen (pc : Nat) (C : zC p s m args meth c g cc nL own Ts) {k n : Nat} (hk : kL k n) (hdg : decode cc pc = .ok (.arraylength, 1))
    (kk : Z p l e R s m args below meth c g nL cells slots Q x (pc + 1) lv (.int (nI n) :: st)) : Z p l e R s m args below meth c g nL cells slots Q x (pc) lv (.ref (zad g k) :: st) := fun H locs ls hP hS hl => by
  have ha : (zw g x)[k]? = some (zad g k, .inl (g.2.1 1, n, .inr (.inl (x.2.1 k)))) := by rw [zw_get hk.1.1, hk.2]; rfl
  exact va_alen C.1.1 C.1.2.1 C.2.1 hP k 1 ha rfl rfl hdg (kk H locs ls hP hS hl)
theorem z_aald (pc : Nat) (C : zC p s m args meth c g cc nL own Ts) {k n t i : Nat} {r : Nat → Nat} {D9 : String} (hk : kQ k n t r) (ht : (zty g)[t]? = some (g.2.1 t, .object D9)) (hi : i < n) (hdg : decode cc pc = .ok (.aaload, 1))
    (kk : Z p l e R s m args below meth c g nL cells slots Q x (pc + 1) lv (.ref (zad g (r i)) :: st)) : Z p l e R s m args below meth c g nL cells slots Q x (pc) lv (.int (nI i) :: .ref (zad g k) :: st) := fun H locs ls hP hS hl => by
  have ha : (zw g x)[k]? = some (zad g k, .inl (g.2.1 t, n, .inr (.inr (.inr (.inr (fun j => some (zad g (r j)))))))) := by rw [zw_get hk.1.1, hk.2]; rfl
  refine va_aldq C.1.1 C.1.2.1 C.2.1 hP k t ha ht (vp_in_nI hi (by have := hk.1.2; omega)) hdg ?_
  rw [nI_clamp (by have := hk.1.2; omega)]
  exact kk H locs ls hP hS hl
theorem z_qalen (pc : Nat) (C : zC p s m args meth c g cc nL own Ts) {k n t : Nat} {r : Nat → Nat} {D9 : String} (hk : kQ k n t r) (ht : (zty g)[t]? = some (g.2.1 t, .object D9)) (hdg : decode cc pc = .ok (.arraylength, 1))
    (kk : Z p l e R s m args below meth c g nL cells slots Q x (pc + 1) lv (.int (nI n) :: st)) : Z p l e R s m args below meth c g nL cells slots Q x (pc) lv (.ref (zad g k) :: st) := fun H locs ls hP hS hl => by
  have ha : (zw g x)[k]? = some (zad g k, .inl (g.2.1 t, n, .inr (.inr (.inr (.inr (fun j => some (zad g (r j)))))))) := by rw [zw_get hk.1.1, hk.2]; rfl
  exact va_alen C.1.1 C.1.2.1 C.2.1 hP k t ha ht rfl hdg (kk H locs ls hP hS hl)
theorem z_getr (pc : Nat) (C : zC p s m args meth c g cc nL own Ts) {ref C9 : String} {T : u_T} {N ci index q k k' : Nat} (hk : kR k ci q k') (hc : vwCl[ci]? = some (C9, T, N)) (hin : ∀ w ∈ u_ws C9 T N, w ∈ Ts) (hq : q < N) (hr : (T q).1 = ref) (hlink : (Cond.fieldLink own index ref (T q).2.1 (T q).2.2.1).before args s = true) (hdg : decode cc pc = .ok (.getfield index, 3))
    (kk : Z p l e R s m args below meth c g nL cells slots Q x (pc + 3) lv (.ref (zad g k') :: st)) : Z p l e R s m args below meth c g nL cells slots Q x (pc) lv (.ref (zad g k) :: st) := fun H locs ls hP hS hl => by
  obtain ⟨fs, h1, h2⟩ := hk.2 g (x.1 k) (x.2.1 k) x.2.2
  exact va_get C.1.1 C.1.2.1 C.1.2.2.2.2 hin C.1.2.2.2.1 C.2.1 hP k (by rw [zw_get hk.1, h1]) hc q hq hlink (fun _ h9 => by rw [← hr]; exact h9) h2 hdg (kk H locs ls hP hS hl)
theorem z_geti (pc : Nat) (C : zC p s m args meth c g cc nL own Ts) {ref C9 : String} {T : u_T} {N ci index q k i : Nat} {v : Int32} (hk : kF k ci q i) (hc : vwCl[ci]? = some (C9, T, N)) (hin : ∀ w ∈ u_ws C9 T N, w ∈ Ts) (hq : q < N) (hr : (T q).1 = ref) (hlink : (Cond.fieldLink own index ref (T q).2.1 (T q).2.2.1).before args s = true) (hv : x.1 k i = v) (hdg : decode cc pc = .ok (.getfield index, 3))
    (kk : Z p l e R s m args below meth c g nL cells slots Q x (pc + 3) lv (.int v :: st)) : Z p l e R s m args below meth c g nL cells slots Q x (pc) lv (.ref (zad g k) :: st) := fun H locs ls hP hS hl => by
  obtain ⟨fs, h1, h2, -, -⟩ := hk.2 g (x.1 k) (x.2.1 k) x.2.2
  exact va_get C.1.1 C.1.2.1 C.1.2.2.2.2 hin C.1.2.2.2.1 C.2.1 hP k (by rw [zw_get hk.1, h1]) hc q hq hlink (fun _ h9 => by rw [← hr]; exact h9) h2 hdg (by rw [hv]; exact kk H locs ls hP hS hl)
theorem z_getrN (pc : Nat) (C : zC p s m args meth c g cc nL own Ts) {ref C9 host : String} {T : u_T} {N ci index q k k' : Nat} (hk : kR k ci q k') (hc : vwCl[ci]? = some (C9, T, N)) (hin : ∀ w ∈ u_ws C9 T N, w ∈ Ts) (hq : q < N) (hr : (T q).1 = ref) (hlink : (Cond.fieldLinkNest own index ref (T q).2.1 (T q).2.2.1 host).before args s = true) (hdg : decode cc pc = .ok (.getfield index, 3))
    (kk : Z p l e R s m args below meth c g nL cells slots Q x (pc + 3) lv (.ref (zad g k') :: st)) : Z p l e R s m args below meth c g nL cells slots Q x (pc) lv (.ref (zad g k) :: st) := fun H locs ls hP hS hl => by
  obtain ⟨fs, h1, h2⟩ := hk.2 g (x.1 k) (x.2.1 k) x.2.2
  exact va_getN C.1.1 C.1.2.1 C.1.2.2.2.2 hin C.1.2.2.2.1 C.2.1 hP k (by rw [zw_get hk.1, h1]) hc q hq hlink (fun _ h9 => by rw [← hr]; exact h9) h2 hdg (kk H locs ls hP hS hl)
theorem z_getiN (pc : Nat) (C : zC p s m args meth c g cc nL own Ts) {ref C9 host : String} {T : u_T} {N ci index q k i : Nat} {v : Int32} (hk : kF k ci q i) (hc : vwCl[ci]? = some (C9, T, N)) (hin : ∀ w ∈ u_ws C9 T N, w ∈ Ts) (hq : q < N) (hr : (T q).1 = ref) (hlink : (Cond.fieldLinkNest own index ref (T q).2.1 (T q).2.2.1 host).before args s = true) (hv : x.1 k i = v) (hdg : decode cc pc = .ok (.getfield index, 3))
    (kk : Z p l e R s m args below meth c g nL cells slots Q x (pc + 3) lv (.int v :: st)) : Z p l e R s m args below meth c g nL cells slots Q x (pc) lv (.ref (zad g k) :: st) := fun H locs ls hP hS hl => by
  obtain ⟨fs, h1, h2, -, -⟩ := hk.2 g (x.1 k) (x.2.1 k) x.2.2
  exact va_getN C.1.1 C.1.2.1 C.1.2.2.2.2 hin C.1.2.2.2.1 C.2.1 hP k (by rw [zw_get hk.1, h1]) hc q hq hlink (fun _ h9 => by rw [← hr]; exact h9) h2 hdg (by rw [hv]; exact kk H locs ls hP hS hl)
theorem z_puti (pc : Nat) (C : zC p s m args meth c g cc nL own Ts) {ref C9 : String} {T : u_T} {N ci index q k i : Nat} {v : Int32} {f : Nat → Int32} (hk : kF k ci q i) (hc : vwCl[ci]? = some (C9, T, N)) (hin : ∀ w ∈ u_ws C9 T N, w ∈ Ts) (ty0 : Nat → FieldType) (hty : ∀ k, k < N → parseFieldDescriptor (T k).2.2.1 = some (ty0 k)) (hnm : ∀ a, a < N → ∀ b, b < N → a ≠ b → (T a).2.1 ≠ (T b).2.1) (hq : q < N) (hr : (T q).1 = ref) (hlink : (Cond.fieldLink own index ref (T q).2.1 (T q).2.2.1).before args s = true) (hfin : (T q).2.2.2 = false) (hd : parseFieldDescriptor (T q).2.2.1 = some .int) (hf : upd (x.1 k) i v = f) (hdg : decode cc pc = .ok (.putfield index, 3))
    (kk : Z p l e R s m args below meth c g nL cells slots Q (xi x k f) (pc + 3) lv (st)) : Z p l e R s m args below meth c g nL cells slots Q x (pc) lv (.int v :: .ref (zad g k) :: st) := fun H locs ls hP hS hl => by
  obtain ⟨fs, h1, h2, h3, h4⟩ := hk.2 g (x.1 k) (x.2.1 k) x.2.2
  refine va_put C.1.1 C.1.2.1 C.1.2.2.2.2 hin ty0 hty hnm C.1.2.2.2.1 C.2.1 hP (zw_D C.2.2.1 x) hS k (by rw [zw_get hk.1, h1]) hc q hq hlink (fun _ h9 => by rw [← hr]; exact h9) hfin hd rfl rfl h3 hdg (fun H1 locs1 hP1 hD1 hS1 => ?_)
  subst hf
  rw [zw_seti hk.1 (h4 v)] at hP1
  exact kk H1 locs1 ls hP1 hS1 hl
theorem z_gets (pc : Nat) (C : zC p s m args meth c g cc nL own Ts) {index n : Nat} {C9 d9 : String} {vals : List Int32} (hq : zsa[n]? = some (C9, d9, vals)) (hlink : (Cond.fieldLink own index C9 d9 "[I").before args s = true) (hdg : decode cc pc = .ok (.getstatic index, 3))
    (kk : ∀ t : Nat, va_T .int t vals.length (fun j => .int (vals.getD j 0)) (zA g) s s.heap → Z p l e R s m args below meth c g nL cells slots Q x (pc + 3) lv (.ref t :: st)) : Z p l e R s m args below meth c g nL cells slots Q x (pc) lv (st) := fun H locs ls hP hS hl => by
  obtain ⟨t, h1, h2⟩ := C.2.2.2.2.1.1 _ (List.mem_of_getElem? hq)
  exact va_gets C.1.1 C.1.2.1 h1 hS C.1.2.2.2.1 hlink (fun _ h9 => h9) hdg (kk t h2 H locs ls hP hS hl)
theorem z_tld (pc : Nat) (C : zC p s m args meth c g cc nL own Ts) {t i : Nat} {vals : List Int32} {v : Int32} (hT : va_T .int t vals.length (fun j => .int (vals.getD j 0)) (zA g) s s.heap) (hi : i < vals.length) (hb : vals.length < 1000) (hv : vals.getD i 0 = v) (hdg : decode cc pc = .ok (.iaload, 1))
    (kk : Z p l e R s m args below meth c g nL cells slots Q x (pc + 1) lv (.int v :: st)) : Z p l e R s m args below meth c g nL cells slots Q x (pc) lv (.int (nI i) :: .ref t :: st) := fun H locs ls hP hS hl => by
  refine va_ti C.1.1 C.1.2.1 hT hS (vp_in_nI hi (by omega)) ?_ hdg (kk H locs ls hP hS hl)
  show Value.int (vals.getD (nI i).toNatClampNeg 0) = .int v
  rw [nI_clamp (by omega), hv]
theorem z_iret (pc : Nat) (C : zC p s m args meth c g cc nL own Ts) {v : Int32} {post : Int32 → zT → Prop} (hr : meth.sig.returnType = some .int) (hp : post v x) (hdg : decode cc pc = .ok (.ireturn, 1)) : Z p l e R s m args below meth c g nL cells slots (MQ below (va_Qi post (zB g) (zA g)) args s cells slots (zA g)) x (pc) lv ([.int v]) := fun H locs ls hP hS hl =>
  W.iret C.1.1 C.1.2.1 hr (fun t ht hW => ⟨⟨v, x, rfl, hp, by show va_P _ _ _ t.heap; rw [ht]; exact hP⟩, hS.F ht⟩) hS.2.2 hdg C.2.2.2.2.2
theorem z_iretX (pc : Nat) (C : zC p s m args meth c g cc nL own Ts) {v : Int32} {post : Int32 → zT → Prop} {XC : String → State → State → Prop} (hr : meth.sig.returnType = some .int) (hp : post v x) (hdg : decode cc pc = .ok (.ireturn, 1)) : Z p l e R s m args below meth c g nL cells slots (vx_MQ below (va_Qi post (zB g) (zA g)) XC args s cells slots (zA g)) x (pc) lv ([.int v]) := fun H locs ls hP hS hl =>
  vx_ret (W.iret C.1.1 C.1.2.1 hr (fun t ht hW => ⟨⟨v, x, rfl, hp, by show va_P _ _ _ t.heap; rw [ht]; exact hP⟩, hS.F ht⟩) hS.2.2 hdg C.2.2.2.2.2)
theorem z_lret (pc : Nat) (C : zC p s m args meth c g cc nL own Ts) {v : Int64} {post : Int64 → zT → Prop} (hr : meth.sig.returnType = some .long) (hp : post v x) (hdg : decode cc pc = .ok (.lreturn, 1)) : Z p l e R s m args below meth c g nL cells slots (MQ below (va_Ql post (zB g) (zA g)) args s cells slots (zA g)) x (pc) lv ([.long v]) := fun H locs ls hP hS hl =>
  W.lret C.1.1 C.1.2.1 hr (fun t ht hW => ⟨⟨v, x, rfl, hp, by show va_P _ _ _ t.heap; rw [ht]; exact hP⟩, hS.F ht⟩) hS.2.2 hdg C.2.2.2.2.2
theorem z_lretX (pc : Nat) (C : zC p s m args meth c g cc nL own Ts) {v : Int64} {post : Int64 → zT → Prop} {XC : String → State → State → Prop} (hr : meth.sig.returnType = some .long) (hp : post v x) (hdg : decode cc pc = .ok (.lreturn, 1)) : Z p l e R s m args below meth c g nL cells slots (vx_MQ below (va_Ql post (zB g) (zA g)) XC args s cells slots (zA g)) x (pc) lv ([.long v]) := fun H locs ls hP hS hl =>
  vx_ret (W.lret C.1.1 C.1.2.1 hr (fun t ht hW => ⟨⟨v, x, rfl, hp, by show va_P _ _ _ t.heap; rw [ht]; exact hP⟩, hS.F ht⟩) hS.2.2 hdg C.2.2.2.2.2)
theorem z_dret (pc : Nat) (C : zC p s m args meth c g cc nL own Ts) {v : UInt64} {post : UInt64 → zT → Prop} (hr : meth.sig.returnType = some .double) (hp : post v x) (hdg : decode cc pc = .ok (.dreturn, 1)) : Z p l e R s m args below meth c g nL cells slots (MQ below (va_Qd post (zB g) (zA g)) args s cells slots (zA g)) x (pc) lv ([.double v]) := fun H locs ls hP hS hl =>
  W.dret C.1.1 C.1.2.1 hr (fun t ht hW => ⟨⟨v, x, rfl, hp, by show va_P _ _ _ t.heap; rw [ht]; exact hP⟩, hS.F ht⟩) hS.2.2 hdg C.2.2.2.2.2
theorem z_dretX (pc : Nat) (C : zC p s m args meth c g cc nL own Ts) {v : UInt64} {post : UInt64 → zT → Prop} {XC : String → State → State → Prop} (hr : meth.sig.returnType = some .double) (hp : post v x) (hdg : decode cc pc = .ok (.dreturn, 1)) : Z p l e R s m args below meth c g nL cells slots (vx_MQ below (va_Qd post (zB g) (zA g)) XC args s cells slots (zA g)) x (pc) lv ([.double v]) := fun H locs ls hP hS hl =>
  vx_ret (W.dret C.1.1 C.1.2.1 hr (fun t ht hW => ⟨⟨v, x, rfl, hp, by show va_P _ _ _ t.heap; rw [ht]; exact hP⟩, hS.F ht⟩) hS.2.2 hdg C.2.2.2.2.2)
theorem z_zret (pc : Nat) (C : zC p s m args meth c g cc nL own Ts) {v : Int32} {post : Int32 → zT → Prop} (hr : meth.sig.returnType = some .boolean) (hn : narrow .boolean (.int v) = .int v) (hp : post v x) (hdg : decode cc pc = .ok (.ireturn, 1)) : Z p l e R s m args below meth c g nL cells slots (MQ below (va_Qi post (zB g) (zA g)) args s cells slots (zA g)) x (pc) lv ([.int v]) := fun H locs ls hP hS hl =>
  W.zret C.1.1 C.1.2.1 hr hn (fun t ht hW => ⟨⟨v, x, rfl, hp, by show va_P _ _ _ t.heap; rw [ht]; exact hP⟩, hS.F ht⟩) hS.2.2 hdg C.2.2.2.2.2
theorem z_vret (pc : Nat) (C : zC p s m args meth c g cc nL own Ts) {post : zT → Prop} (hr : meth.sig.returnType = none) (hp : post x) (hdg : decode cc pc = .ok (.return_, 1)) : Z p l e R s m args below meth c g nL cells slots (MQ below (va_Qv post (zB g) (zA g)) args s cells slots (zA g)) x (pc) lv ([]) := fun H locs ls hP hS hl =>
  W.vret C.1.1 C.1.2.1 hr (fun t ht hW => ⟨⟨x, rfl, hp, by show va_P _ _ _ t.heap; rw [ht]; exact hP⟩, hS.F ht⟩) hS.2.2 hdg C.2.2.2.2.2
theorem z_zretX (pc : Nat) (C : zC p s m args meth c g cc nL own Ts) {v : Int32} {post : Int32 → zT → Prop} {XC : String → State → State → Prop} (hr : meth.sig.returnType = some .boolean) (hn : narrow .boolean (.int v) = .int v) (hp : post v x) (hdg : decode cc pc = .ok (.ireturn, 1)) : Z p l e R s m args below meth c g nL cells slots (vx_MQ below (va_Qi post (zB g) (zA g)) XC args s cells slots (zA g)) x (pc) lv ([.int v]) := fun H locs ls hP hS hl =>
  vx_ret (W.zret C.1.1 C.1.2.1 hr hn (fun t ht hW => ⟨⟨v, x, rfl, hp, by show va_P _ _ _ t.heap; rw [ht]; exact hP⟩, hS.F ht⟩) hS.2.2 hdg C.2.2.2.2.2)
theorem z_vretX (pc : Nat) (C : zC p s m args meth c g cc nL own Ts) {post : zT → Prop} {XC : String → State → State → Prop} (hr : meth.sig.returnType = none) (hp : post x) (hdg : decode cc pc = .ok (.return_, 1)) : Z p l e R s m args below meth c g nL cells slots (vx_MQ below (va_Qv post (zB g) (zA g)) XC args s cells slots (zA g)) x (pc) lv ([]) := fun H locs ls hP hS hl =>
  vx_ret (W.vret C.1.1 C.1.2.1 hr (fun t ht hW => ⟨⟨x, rfl, hp, by show va_P _ _ _ t.heap; rw [ht]; exact hP⟩, hS.F ht⟩) hS.2.2 hdg C.2.2.2.2.2)
theorem zpre_at (C : zC p s m args meth c g cc nL own Ts) {H : Heap} {locs : List Loc} {U : State} (hP : va_P g.1 vwCl (zw g x) H) (hS : va_S (zA g) s.heap H locs) (hU : U.heap = H) (hW : s.WarmedH U.vm) : zPre g x U := by
  refine ⟨?_, by rw [hU]; exact hP, va_K.moved hW.alike C.2.1, C.2.2.2.2.1.go hW (by rw [hU]; exact hS)⟩
  rw [hU]
  exact Nat.le_trans C.2.2.2.1 hS.1
theorem zpc_blind {av : List Value} : FrameBlind (va_Pc av (zPre g x)) := fun a U fr mk q => ⟨q.1, q.2.blind⟩
theorem z_callSi (pc : Nat) (C : zC p s m args meth c g cc nL own Ts) {y : MethodName} {bytes : ByteArray} {maxL mc ms index : Nat} {ret : Option FieldType} {ws : List Cond} {rm : Room} {stk As : List Value} {post : Int32 → zT → Prop} (n : Nat) (hM : Met l y ws rm (va_Pc As (zPre g x)) (va_Qi post (zB g) (zA g)) mc ms (zA g)) (cw : CallB R s args own index y bytes maxL ret ws rm mc ms n ∧ (Cond.static y).before args s = true) (hn : As.length = n) (hstk : stk = As.reverse ++ st) (hroom : (st.map fun v => v.category).sum ≤ 8) (hf : cells + mc ≤ R.cells ∧ slots + ms ≤ R.slots) (hdg : decode cc pc = .ok (.invokestatic index, 3))
    (kk : ∀ (r : Int32) (u : zT), post r u → Z p l e R s m args below meth c g nL (cells + mc) (slots + ms) Q u (pc + 3) lv (.int r :: st)) : Z p l e R s m args below meth c g nL cells slots Q x (pc) lv (stk) := fun H locs ls hP hS hl => by
  subst hstk
  exact va_calli (va_runS (As := As) (rest := st) C.1 hM cw ⟨zpc_blind, fun U hU hW => ⟨rfl, zpre_at C hP hS hU hW⟩⟩ rfl hn hl.1 rfl (lv_room hroom) hdg hf) hS (fun q _ h => h) (fun q h => h) (fun r u t H1 locs1 ht hvm hw hB hz1 hk1 hS1 => kk r u hw H1 locs1 ls (by rw [← ht]; exact hB) hS1 hl)
theorem z_callVi (pc : Nat) (C : zC p s m args meth c g cc nL own Ts) {y : MethodName} {bytes : ByteArray} {maxL mc ms index : Nat} {ret : Option FieldType} {ws : List Cond} {rm : Room} {stk As : List Value} {post : Int32 → zT → Prop} (n : Nat) {k ci : Nat} {q9 : vw_C} (hk : kO k ci) (hc : vwCl[ci]? = some q9) (hM : Met l y ws rm (va_Pc (.ref (zad g k) :: As) (zPre g x)) (va_Qi post (zB g) (zA g)) mc ms (zA g)) (cw : CallW R s args own q9.1 index y bytes maxL ret ws rm mc ms n) (hn : As.length = n) (hstk : stk = As.reverse ++ .ref (zad g k) :: st) (hroom : (st.map fun v => v.category).sum ≤ 8) (hf : cells + mc ≤ R.cells ∧ slots + ms ≤ R.slots) (hdg : decode cc pc = .ok (.invokevirtual index, 3))
    (kk : ∀ (r : Int32) (u : zT), post r u → Z p l e R s m args below meth c g nL (cells + mc) (slots + ms) Q u (pc + 3) lv (.int r :: st)) : Z p l e R s m args below meth c g nL cells slots Q x (pc) lv (stk) := fun H locs ls hP hS hl => by
  subst hstk
  obtain ⟨fs, h1⟩ := hk.2 g (x.1 k) (x.2.1 k) x.2.2
  exact va_calli (va_runV (As := As) (rest := st) C.1 hM cw ⟨zpc_blind, va_recv C.2.1 hP (q0 := k) hc (by rw [zw_get hk.1, h1]), fun U hU hW => ⟨rfl, zpre_at C hP hS hU hW⟩⟩ rfl hn hl.1 rfl (lv_room hroom) hdg hf) hS (fun q _ h => h) (fun q h => h) (fun r u t H1 locs1 ht hvm hw hB hz1 hk1 hS1 => kk r u hw H1 locs1 ls (by rw [← ht]; exact hB) hS1 hl)
theorem z_callSl (pc : Nat) (C : zC p s m args meth c g cc nL own Ts) {y : MethodName} {bytes : ByteArray} {maxL mc ms index : Nat} {ret : Option FieldType} {ws : List Cond} {rm : Room} {stk As : List Value} {post : Int64 → zT → Prop} (n : Nat) (hM : Met l y ws rm (va_Pc As (zPre g x)) (va_Ql post (zB g) (zA g)) mc ms (zA g)) (cw : CallB R s args own index y bytes maxL ret ws rm mc ms n ∧ (Cond.static y).before args s = true) (hn : As.length = n) (hstk : stk = As.reverse ++ st) (hroom : (st.map fun v => v.category).sum ≤ 8) (hf : cells + mc ≤ R.cells ∧ slots + ms ≤ R.slots) (hdg : decode cc pc = .ok (.invokestatic index, 3))
    (kk : ∀ (r : Int64) (u : zT), post r u → Z p l e R s m args below meth c g nL (cells + mc) (slots + ms) Q u (pc + 3) lv (.long r :: st)) : Z p l e R s m args below meth c g nL cells slots Q x (pc) lv (stk) := fun H locs ls hP hS hl => by
  subst hstk
  exact va_calll (va_runS (As := As) (rest := st) C.1 hM cw ⟨zpc_blind, fun U hU hW => ⟨rfl, zpre_at C hP hS hU hW⟩⟩ rfl hn hl.1 rfl (lv_room hroom) hdg hf) hS (fun q _ h => h) (fun q h => h) (fun r u t H1 locs1 ht hvm hw hB hz1 hk1 hS1 => kk r u hw H1 locs1 ls (by rw [← ht]; exact hB) hS1 hl)
theorem z_callVl (pc : Nat) (C : zC p s m args meth c g cc nL own Ts) {y : MethodName} {bytes : ByteArray} {maxL mc ms index : Nat} {ret : Option FieldType} {ws : List Cond} {rm : Room} {stk As : List Value} {post : Int64 → zT → Prop} (n : Nat) {k ci : Nat} {q9 : vw_C} (hk : kO k ci) (hc : vwCl[ci]? = some q9) (hM : Met l y ws rm (va_Pc (.ref (zad g k) :: As) (zPre g x)) (va_Ql post (zB g) (zA g)) mc ms (zA g)) (cw : CallW R s args own q9.1 index y bytes maxL ret ws rm mc ms n) (hn : As.length = n) (hstk : stk = As.reverse ++ .ref (zad g k) :: st) (hroom : (st.map fun v => v.category).sum ≤ 8) (hf : cells + mc ≤ R.cells ∧ slots + ms ≤ R.slots) (hdg : decode cc pc = .ok (.invokevirtual index, 3))
    (kk : ∀ (r : Int64) (u : zT), post r u → Z p l e R s m args below meth c g nL (cells + mc) (slots + ms) Q u (pc + 3) lv (.long r :: st)) : Z p l e R s m args below meth c g nL cells slots Q x (pc) lv (stk) := fun H locs ls hP hS hl => by
  subst hstk
  obtain ⟨fs, h1⟩ := hk.2 g (x.1 k) (x.2.1 k) x.2.2
  exact va_calll (va_runV (As := As) (rest := st) C.1 hM cw ⟨zpc_blind, va_recv C.2.1 hP (q0 := k) hc (by rw [zw_get hk.1, h1]), fun U hU hW => ⟨rfl, zpre_at C hP hS hU hW⟩⟩ rfl hn hl.1 rfl (lv_room hroom) hdg hf) hS (fun q _ h => h) (fun q h => h) (fun r u t H1 locs1 ht hvm hw hB hz1 hk1 hS1 => kk r u hw H1 locs1 ls (by rw [← ht]; exact hB) hS1 hl)
theorem z_callSd (pc : Nat) (C : zC p s m args meth c g cc nL own Ts) {y : MethodName} {bytes : ByteArray} {maxL mc ms index : Nat} {ret : Option FieldType} {ws : List Cond} {rm : Room} {stk As : List Value} {post : UInt64 → zT → Prop} (n : Nat) (hM : Met l y ws rm (va_Pc As (zPre g x)) (va_Qd post (zB g) (zA g)) mc ms (zA g)) (cw : CallB R s args own index y bytes maxL ret ws rm mc ms n ∧ (Cond.static y).before args s = true) (hn : As.length = n) (hstk : stk = As.reverse ++ st) (hroom : (st.map fun v => v.category).sum ≤ 8) (hf : cells + mc ≤ R.cells ∧ slots + ms ≤ R.slots) (hdg : decode cc pc = .ok (.invokestatic index, 3))
    (kk : ∀ (r : UInt64) (u : zT), post r u → Z p l e R s m args below meth c g nL (cells + mc) (slots + ms) Q u (pc + 3) lv (.double r :: st)) : Z p l e R s m args below meth c g nL cells slots Q x (pc) lv (stk) := fun H locs ls hP hS hl => by
  subst hstk
  exact va_calld (va_runS (As := As) (rest := st) C.1 hM cw ⟨zpc_blind, fun U hU hW => ⟨rfl, zpre_at C hP hS hU hW⟩⟩ rfl hn hl.1 rfl (lv_room hroom) hdg hf) hS (fun q _ h => h) (fun q h => h) (fun r u t H1 locs1 ht hvm hw hB hz1 hk1 hS1 => kk r u hw H1 locs1 ls (by rw [← ht]; exact hB) hS1 hl)
theorem z_callVd (pc : Nat) (C : zC p s m args meth c g cc nL own Ts) {y : MethodName} {bytes : ByteArray} {maxL mc ms index : Nat} {ret : Option FieldType} {ws : List Cond} {rm : Room} {stk As : List Value} {post : UInt64 → zT → Prop} (n : Nat) {k ci : Nat} {q9 : vw_C} (hk : kO k ci) (hc : vwCl[ci]? = some q9) (hM : Met l y ws rm (va_Pc (.ref (zad g k) :: As) (zPre g x)) (va_Qd post (zB g) (zA g)) mc ms (zA g)) (cw : CallW R s args own q9.1 index y bytes maxL ret ws rm mc ms n) (hn : As.length = n) (hstk : stk = As.reverse ++ .ref (zad g k) :: st) (hroom : (st.map fun v => v.category).sum ≤ 8) (hf : cells + mc ≤ R.cells ∧ slots + ms ≤ R.slots) (hdg : decode cc pc = .ok (.invokevirtual index, 3))
    (kk : ∀ (r : UInt64) (u : zT), post r u → Z p l e R s m args below meth c g nL (cells + mc) (slots + ms) Q u (pc + 3) lv (.double r :: st)) : Z p l e R s m args below meth c g nL cells slots Q x (pc) lv (stk) := fun H locs ls hP hS hl => by
  subst hstk
  obtain ⟨fs, h1⟩ := hk.2 g (x.1 k) (x.2.1 k) x.2.2
  exact va_calld (va_runV (As := As) (rest := st) C.1 hM cw ⟨zpc_blind, va_recv C.2.1 hP (q0 := k) hc (by rw [zw_get hk.1, h1]), fun U hU hW => ⟨rfl, zpre_at C hP hS hU hW⟩⟩ rfl hn hl.1 rfl (lv_room hroom) hdg hf) hS (fun q _ h => h) (fun q h => h) (fun r u t H1 locs1 ht hvm hw hB hz1 hk1 hS1 => kk r u hw H1 locs1 ls (by rw [← ht]; exact hB) hS1 hl)
theorem z_callSv (pc : Nat) (C : zC p s m args meth c g cc nL own Ts) {y : MethodName} {bytes : ByteArray} {maxL mc ms index : Nat} {ret : Option FieldType} {ws : List Cond} {rm : Room} {stk As : List Value} {post : zT → Prop} (n : Nat) (hM : Met l y ws rm (va_Pc As (zPre g x)) (va_Qv post (zB g) (zA g)) mc ms (zA g)) (cw : CallB R s args own index y bytes maxL ret ws rm mc ms n ∧ (Cond.static y).before args s = true) (hn : As.length = n) (hstk : stk = As.reverse ++ st) (hroom : (st.map fun v => v.category).sum ≤ 8) (hf : cells + mc ≤ R.cells ∧ slots + ms ≤ R.slots) (hdg : decode cc pc = .ok (.invokestatic index, 3))
    (kk : ∀ (u : zT), post u → Z p l e R s m args below meth c g nL (cells + mc) (slots + ms) Q u (pc + 3) lv (st)) : Z p l e R s m args below meth c g nL cells slots Q x (pc) lv (stk) := fun H locs ls hP hS hl => by
  subst hstk
  exact va_callv (va_runS (As := As) (rest := st) C.1 hM cw ⟨zpc_blind, fun U hU hW => ⟨rfl, zpre_at C hP hS hU hW⟩⟩ rfl hn hl.1 rfl (lv_room hroom) hdg hf) hS (fun q _ h => h) (fun q h => h) (fun u t H1 locs1 ht hvm hw hB hz1 hk1 hS1 => kk u hw H1 locs1 ls (by rw [← ht]; exact hB) hS1 hl)
theorem z_callVv (pc : Nat) (C : zC p s m args meth c g cc nL own Ts) {y : MethodName} {bytes : ByteArray} {maxL mc ms index : Nat} {ret : Option FieldType} {ws : List Cond} {rm : Room} {stk As : List Value} {post : zT → Prop} (n : Nat) {k ci : Nat} {q9 : vw_C} (hk : kO k ci) (hc : vwCl[ci]? = some q9) (hM : Met l y ws rm (va_Pc (.ref (zad g k) :: As) (zPre g x)) (va_Qv post (zB g) (zA g)) mc ms (zA g)) (cw : CallW R s args own q9.1 index y bytes maxL ret ws rm mc ms n) (hn : As.length = n) (hstk : stk = As.reverse ++ .ref (zad g k) :: st) (hroom : (st.map fun v => v.category).sum ≤ 8) (hf : cells + mc ≤ R.cells ∧ slots + ms ≤ R.slots) (hdg : decode cc pc = .ok (.invokevirtual index, 3))
    (kk : ∀ (u : zT), post u → Z p l e R s m args below meth c g nL (cells + mc) (slots + ms) Q u (pc + 3) lv (st)) : Z p l e R s m args below meth c g nL cells slots Q x (pc) lv (stk) := fun H locs ls hP hS hl => by
  subst hstk
  obtain ⟨fs, h1⟩ := hk.2 g (x.1 k) (x.2.1 k) x.2.2
  exact va_callv (va_runV (As := As) (rest := st) C.1 hM cw ⟨zpc_blind, va_recv C.2.1 hP (q0 := k) hc (by rw [zw_get hk.1, h1]), fun U hU hW => ⟨rfl, zpre_at C hP hS hU hW⟩⟩ rfl hn hl.1 rfl (lv_room hroom) hdg hf) hS (fun q _ h => h) (fun q h => h) (fun u t H1 locs1 ht hvm hw hB hz1 hk1 hS1 => kk u hw H1 locs1 ls (by rw [← ht]; exact hB) hS1 hl)
theorem z_mmin (pc : Nat) (C : zC p s m args meth c g cc nL own Ts) {index : Nat} {a b v : Int32} (hlink : (Cond.methodLink own index Lib.Math.min.name).before args s = true) (hstat : (Cond.static Lib.Math.min.name).before args s = true) (hini : (Cond.initialized "java/lang/Math").before args s = true) (hcode : (Cond.code Lib.Math.min.name Lib.Math.min.code 2 (some .int)).before args s = true)
    (hframes : 1 ≤ R.frames) (hlocals : (st.map fun v => v.category).sum + 13 ≤ R.locals) (hc : cells ≤ R.cells ∧ slots ≤ R.slots) (hv : (if b < a then b else a) = v) (hdg : decode cc pc = .ok (.invokestatic index, 3))
    (kk : Z p l e R s m args below meth c g nL cells slots Q x (pc + 3) lv (.int v :: st)) : Z p l e R s m args below meth c g nL cells slots Q x (pc) lv (.int b :: .int a :: st) := fun H locs ls hP hS hl =>
  va_mmin C.1.1 C.1.2.1 (C.1.2.2.1.trans hl.1.symm) C.1.2.2.2.1 hlink hstat hini hcode hframes hlocals hc.1 hc.2 hdg (by rw [hv]; exact kk H locs ls hP hS hl)
theorem z_mmax (pc : Nat) (C : zC p s m args meth c g cc nL own Ts) {index : Nat} {a b v : Int32} (hlink : (Cond.methodLink own index Lib.Math.max.name).before args s = true) (hstat : (Cond.static Lib.Math.max.name).before args s = true) (hini : (Cond.initialized "java/lang/Math").before args s = true) (hcode : (Cond.code Lib.Math.max.name Lib.Math.max.code 2 (some .int)).before args s = true)
    (hframes : 1 ≤ R.frames) (hlocals : (st.map fun v => v.category).sum + 13 ≤ R.locals) (hc : cells ≤ R.cells ∧ slots ≤ R.slots) (hv : (if a < b then b else a) = v) (hdg : decode cc pc = .ok (.invokestatic index, 3))
    (kk : Z p l e R s m args below meth c g nL cells slots Q x (pc + 3) lv (.int v :: st)) : Z p l e R s m args below meth c g nL cells slots Q x (pc) lv (.int b :: .int a :: st) := fun H locs ls hP hS hl =>
  va_mmax C.1.1 C.1.2.1 (C.1.2.2.1.trans hl.1.symm) C.1.2.2.2.1 hlink hstat hini hcode hframes hlocals hc.1 hc.2 hdg (by rw [hv]; exact kk H locs ls hP hS hl)
end ZHEAP
/-- a contract out of its body -/
theorem z_met {l : Launch} {g : zG} {x : zT} {y : MethodName} {ws ws' : List Cond} {rm : Room} {av : List Value} {Qc : Array Value → State → Outcome → State → Prop} {mc ms : Nat} {cc : ByteArray} {nL : Nat} {ret : Option FieldType} (hg : zOk g) (hy : plainName y.cls = true) (hw : ws = Cond.code y cc nL ret :: ws') (hav : (lg_sl av).length ≤ nL)
    (body : ∀ (p : Program) (e : Env) (s : State) (m : MethodId) (args : Array Value) (below : List Frame) (meth : Method) (c : Code), zC p s m args meth c g cc nL y.cls ws → meth.sig.returnType = ret → Z p l e (headSpec ws rm).room s m args below meth c g nL 0 0 (MQ below Qc args s mc ms (zA g)) x 0 (lv_args 0 av) []) : Met l y ws rm (va_Pc av (zPre g x)) Qc mc ms (zA g) := by
  refine Met.ofW (cc := cc) (maxL := nL) (ret := ret) hy hw ?_
  intro p e s m args below meth c s₁ B hml hv
  obtain ⟨rfl, h1, h2, h3, h4⟩ := hv
  have hl := lv_entry av (n := nL) hav
  rw [lg_entry_eq]
  exact body p e s m _ below meth c ⟨⟨B.exec, B.bytes, hml, findClass_of_methodNamed B.named, atoms_spec (ws := ws) B.pre⟩, h3, hg, h1, h4, B.notSynchronized⟩ B.returns s.heap [] _ h2 va_S.rf hl
