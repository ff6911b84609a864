/-! ===== the law ===== -/
section ZLAW
variable {p : Program} {l : Launch} {e : Env} {R : Room} {s : State} {m : MethodId} {args : Array Value} {below : List Frame} {meth : Method} {c : Code} {g : zG} {nL cells slots : Nat} {Q : State → Prop} {x : zT} {lv : List (Nat × Value)} {st : List Value} {cc : ByteArray} {own : String} {Ts : List Cond}
theorem z_sld (pc : Nat) (C : zC p s m args meth c g cc nL own Ts) {b L i : Nat} {xs : Nat → Int32} {v : Int32} (hX : va_X b L xs s s.heap) (hbl : b < s.heap.size) (hbA : ¬ zA g b) (hi : i < L) (hL : L ≤ 2560) (hv : xs i = v) (hdg : decode cc pc = .ok (.iaload, 1))
    (kk : Z p l e R s m args below meth c g nL cells slots Q x (pc + 1) lv (.int v :: st)) : Z p l e R s m args below meth c g nL cells slots Q x (pc) lv (.int (nI i) :: .ref b :: st) := fun H locs ls hP hS hl => by
  refine va_sld C.1.1 C.1.2.1 hX hbl hbA hS (vp_in_nI hi (by omega)) hdg ?_
  rw [nI_clamp (by omega), hv]
  exact kk H locs ls hP hS hl
theorem z_slen (pc : Nat) (C : zC p s m args meth c g cc nL own Ts) {b L : Nat} {xs : Nat → Int32} (hX : va_X b L xs s s.heap) (hbl : b < s.heap.size) (hbA : ¬ zA g b) (hdg : decode cc pc = .ok (.arraylength, 1))
    (kk : Z p l e R s m args below meth c g nL cells slots Q x (pc + 1) lv (.int (nI L) :: st)) : Z p l e R s m args below meth c g nL cells slots Q x (pc) lv (.ref b :: st) := fun H locs ls hP hS hl => va_slen C.1.1 C.1.2.1 hX hbl hbA hS hdg (kk H locs ls hP hS hl)
theorem z_tableIn (pc : Nat) (C : zC p s m args meth c g cc nL own Ts) {dflt lo hi : Int} {offs : Array Int} {len : Nat} {a : Int32} {off : Int} (tgt : Nat) (hdg : decode cc pc = .ok (.tableswitch dflt lo hi offs, len)) (h1 : ¬ a.toInt < lo) (h2 : ¬ hi < a.toInt) (ho : offs[(a.toInt - lo).toNat]? = some off) (ht : (pc : Int) + off = (tgt : Int))
    (kk : Z p l e R s m args below meth c g nL cells slots Q x (tgt) lv (st)) : Z p l e R s m args below meth c g nL cells slots Q x (pc) lv (.int a :: st) := fun H locs ls hP hS hl => lv_tableIn C.1.1 C.1.2.1 hdg h1 h2 ho ht (kk H locs ls hP hS hl)
theorem z_tableOut (pc : Nat) (C : zC p s m args meth c g cc nL own Ts) {dflt lo hi : Int} {offs : Array Int} {len : Nat} {a : Int32} (tgt : Nat) (hdg : decode cc pc = .ok (.tableswitch dflt lo hi offs, len)) (h : a.toInt < lo ∨ hi < a.toInt) (ht : (pc : Int) + dflt = (tgt : Int))
    (kk : Z p l e R s m args below meth c g nL cells slots Q x (tgt) lv (st)) : Z p l e R s m args below meth c g nL cells slots Q x (pc) lv (.int a :: st) := fun H locs ls hP hS hl => lv_tableOut C.1.1 C.1.2.1 hdg h ht (kk H locs ls hP hS hl)
theorem z_dcmp (pc : Nat) (C : zC p s m args meth c g cc nL own Ts) {a b : UInt64} {op : CmpOp} {v : Int32} (hdg : decode cc pc = .ok (.dcmp op, 1)) (hv : Op.cmpValue (FP.dcmp a b) op = v) (kk : Z p l e R s m args below meth c g nL cells slots Q x (pc + 1) lv (.int v :: st)) : Z p l e R s m args below meth c g nL cells slots Q x (pc) lv (.double b :: .double a :: st) := fun H locs ls hP hS hl => lv_dcmp C.1.1 C.1.2.1 hdg (by rw [hv]; exact kk H locs ls hP hS hl)
theorem z_callSWi (pc : Nat) (C : zC p s m args meth c g cc nL own Ts) {y : MethodName} {bytes : ByteArray} {maxL mc ms index : Nat} {ret : Option FieldType} {hh : List (Nat × Nat × Nat × Nat)} {ws : List Cond} {rm : Room} {stk As : List Value} {post : Int32 → zT → Prop} (n : Nat) (hM : Met l y ws rm (va_Pc As (zPre g x)) (va_Qi post (zB g) (zA g)) mc ms (zA g)) (cw : vx_CSW R s args own index y bytes maxL ret hh ws rm mc ms n) (hn : As.length = n) (hstk : stk = As.reverse ++ st) (hroom : (st.map fun v => v.category).sum ≤ 8) (hf : cells + mc ≤ R.cells ∧ slots + ms ≤ R.slots) (hdg : decode cc pc = .ok (.invokestatic index, 3))
    (kk : ∀ (r : Int32) (u : zT), post r u → Z p l e R s m args below meth c g nL (cells + mc) (slots + ms) Q u (pc + 3) lv (.int r :: st)) : Z p l e R s m args below meth c g nL cells slots Q x (pc) lv (stk) := fun H locs ls hP hS hl => by
  subst hstk
  exact va_calli (vx_runSW (As := As) (rest := st) C.1 hM cw ⟨zpc_blind, fun U hU hW => ⟨rfl, zpre_at C hP hS hU hW⟩⟩ rfl hn hl.1 rfl (lv_room hroom) hdg hf) hS (fun q _ h => h) (fun q h => h) (fun r u t H1 locs1 ht hvm hw hB hz1 hk1 hS1 => kk r u hw H1 locs1 ls (by rw [← ht]; exact hB) hS1 hl)
end ZLAW
theorem z_and31 (v : Int32) : ∃ k : Nat, k < 32 ∧ v &&& nI 31 = nI k := by
  refine ⟨(v &&& nI 31).toBitVec.toNat, ?_, ?_⟩
  · have h1 : (v &&& nI 31).toBitVec.toNat = v.toBitVec.toNat &&& 31 := by
      show (v.toBitVec &&& (nI 31).toBitVec).toNat = _
      rw [BitVec.toNat_and]
      rfl
    rw [h1]
    exact Nat.lt_of_le_of_lt Nat.and_le_right (by decide)
  · apply Int32.toBitVec_inj.1
    show (v &&& nI 31).toBitVec = BitVec.ofNat 32 _
    rw [BitVec.ofNat_toNat, BitVec.setWidth_eq]
theorem lgc_self (a : Int64) : lg_cmp a a = 0 := by
  unfold lg_cmp
  rw [if_neg Int64.lt_irrefl, if_pos rfl]
theorem zMA_eq {x y : zT} {S : zS} (h : ∀ k, k < 11 → y.1 k = x.1 k ∧ y.2.1 k = x.2.1 k) (hA : zMA x S) : zMA y S := fun j hj => by
  obtain ⟨m1, m2, m3, m4, m5, m6, m7⟩ := hA j hj
  exact ⟨by rw [(h 3 (by omega)).1]; exact m1, by rw [(h 4 (by omega)).1]; exact m2, by rw [(h 5 (by omega)).1]; exact m3, by rw [(h 6 (by omega)).1]; exact m4, by rw [(h 9 (by omega)).1]; exact m5, m6, by rw [(h 7 (by omega)).1, (h 8 (by omega)).1]; exact m7⟩
theorem zAll_eq {y u : zT} {S : zS} (h : zOutM y u) (hA : zAll y S) : zAll u S := fun j hj => by
  have k : ∀ i, u.1 (zp j i) = y.1 (zp j i) := fun i => (h.1 (zp j i) (by unfold zp; omega)).1
  obtain ⟨h1, h2, h3, h4, h5, h6⟩ := hA j hj
  exact ⟨by rw [k 2]; exact h1, by rw [k (7 + 0)]; exact h2, by rw [k (7 + 1)]; exact h3, by rw [k (7 + 2)]; exact h4, by rw [k 11]; exact h5, by rw [k 13, k 14, k 15]; exact h6⟩
theorem zGood_if {C : Nat} {S' S : zS} (h : C = 0 → zGood S') (h2 : zGood S) : zGood (if C = 0 then S' else S) := by
  by_cases c : C = 0
  · rw [if_pos c]; exact h c
  · rw [if_neg c]; exact h2
theorem zsub5 {L i : Nat} (hL : L ≤ 2560) (hi : i ≤ 3000) : nI L - nI 5 < nI i ↔ L < i + 5 := by
  rw [Int32.lt_iff_toInt_lt, Int32.toInt_sub, nI_toInt (show L < 2 ^ 31 by omega), nI_toInt (show 5 < 2 ^ 31 by decide), nI_toInt (show i < 2 ^ 31 by omega), Int.bmod_eq_of_le (by omega) (by omega)]
  omega
set_option maxHeartbeats 4000000 in
set_option maxRecDepth 100000 in
/-- add -/
theorem law_add {p : Program} {e : Env} {s : State} {m : MethodId} {below : List Frame} {meth : Method} {c : Code} (l : Launch) (hls : l.stackTraces = false) {b L : Nat} {xs : Nat → Int32} (hL : L ≤ 2560) {g : zG} (C : zC p s m #[Value.ref b] meth c g cL_law 9 RL wsL_law) (hX : va_X b L xs s s.heap) (hbl : b < s.heap.size) (hbA : ¬ zA g b) {t cells slots : Nat} {Q : State → Prop} {x : zT} {S : zS} (ht : 5 * t + 5 ≤ L) (hcs : cells + 4 ≤ 601024 ∧ slots + 24 ≤ 7293034) (hA : zAll x S) (hM : zMA x S) (hG : zGood S) (hcont : ∀ (y : zT) (S' : zS), zAll y S' → zMA y S' → zGood S' → Z p l e room_1 s m #[Value.ref b] below meth c g 9 (cells + 4) (slots + 24) Q y 1927 [(5, .int (nI (5 * t))), (0, .ref b), (1, .ref (zad g 0)), (2, .ref (zad g 2)), (3, .ref (zad g 11)), (4, .ref (zad g 12))] []) : Z p l e room_1 s m #[Value.ref b] below meth c g 9 cells slots Q x 160 [(5, .int (nI (5 * t))), (0, .ref b), (1, .ref (zad g 0)), (2, .ref (zad g 2)), (3, .ref (zad g 11)), (4, .ref (zad g 12))] [] := by
  obtain ⟨p0, hp0⟩ : ∃ v : Int32, xs ((5 * t) + 1) = v := ⟨_, rfl⟩
  obtain ⟨p1, hp1⟩ : ∃ v : Int32, xs ((5 * t) + 2) = v := ⟨_, rfl⟩
  obtain ⟨p2, hp2⟩ : ∃ v : Int32, xs ((5 * t) + 3) = v := ⟨_, rfl⟩
  refine z_aload_n 160 C dL_law_160 rfl 2 rfl ?_
  refine z_aload_n 161 C dL_law_161 rfl 1 rfl ?_
  refine z_iload 162 C dL_law_162 0 rfl ?_
  refine z_iconst (v := nI 1) 164 C dL_law_164 rfl ?_
  refine z_iadd (v := nI ((5 * t) + 1)) 165 C dL_law_165 (nI_add (5 * t) 1) ?_
  refine z_sld 166 C hX hbl hbA (show (5 * t) + 1 < L by omega) hL hp0 dL_law_166 ?_
  refine z_aload_n 167 C dL_law_167 rfl 1 rfl ?_
  refine z_iload 168 C dL_law_168 0 rfl ?_
  refine z_iconst (v := nI 2) 170 C dL_law_170 rfl ?_
  refine z_iadd (v := nI ((5 * t) + 2)) 171 C dL_law_171 (nI_add (5 * t) 2) ?_
  refine z_sld 172 C hX hbl hbA (show (5 * t) + 2 < L by omega) hL hp1 dL_law_172 ?_
  refine z_aload_n 173 C dL_law_173 rfl 1 rfl ?_
  refine z_iload 174 C dL_law_174 0 rfl ?_
  refine z_iconst (v := nI 3) 176 C dL_law_176 rfl ?_
  refine z_iadd (v := nI ((5 * t) + 3)) 177 C dL_law_177 (nI_add (5 * t) 3) ?_
  refine z_sld 178 C hX hbl hbA (show (5 * t) + 3 < L by omega) hL hp2 dL_law_178 ?_
  refine z_aload_n 179 C dL_law_179 rfl 4 rfl ?_
  refine z_callSWi 180 C (As := [.ref (zad g 0), .int p0, .int p1, .int p2, .ref (zad g 11)]) 5 (c_L_add l C.2.2.1 x hls S hA p0 p1 p2) (vx_cwSW 5 C.1.2.2.2.2 gL_law_L_add rfl rfl rfl (by decide +kernel) ⟨Nat.le_of_ble_eq_true rfl, Nat.le_of_ble_eq_true rfl⟩) rfl rfl (Nat.le_of_ble_eq_true rfl) ⟨by show cells + 4 ≤ 601024; omega, by show slots + 24 ≤ 7293034; omega⟩ dL_law_180 (fun r y hu => ?_)
  obtain ⟨hr0, hv0, hXA, hXF⟩ : r = nI (zk3 (zinb p0 4 && zinb p1 64) (zwib p2 (nI 1) (nI 1000)) (decide (ztot (S.1 p0.toNatClampNeg) + p2 ≤ nI 1000000))) ∧ _ ∧ zAll y (if zk3 (zinb p0 4 && zinb p1 64) (zwib p2 (nI 1) (nI 1000)) (decide (ztot (S.1 p0.toNatClampNeg) + p2 ≤ nI 1000000)) = 0 then zSj S p0.toNatClampNeg (upd (S.1 p0.toNatClampNeg) p1.toNatClampNeg (S.1 p0.toNatClampNeg p1.toNatClampNeg + p2)) (zdput (S.2.1 p0.toNatClampNeg) p1.toNatClampNeg p2) (zadd (S.2.2.1 p0.toNatClampNeg) (nI p1.toNatClampNeg) p2) (S.2.2.2 p0.toNatClampNeg + zaddw (S.2.2.1 p0.toNatClampNeg) (nI p1.toNatClampNeg) p2) else S) ∧ _ := ⟨hu.1, hu.2.1, hu.2.2.1, hu.2.2.2⟩
  obtain ⟨kk, hkk⟩ : ∃ q : Nat, (zk3 (zinb p0 4 && zinb p1 64) (zwib p2 (nI 1) (nI 1000)) (decide (ztot (S.1 p0.toNatClampNeg) + p2 ≤ nI 1000000))) = q := ⟨_, rfl⟩
  have hkb : kk ≤ 3 := by rw [← hkk]; exact zk3_le _ _ _ 
  rw [hkk] at hr0 hv0
  subst hr0
  refine z_widen (k := cells + 4) (n := slots + 24) (by omega) (by omega) ?_
  have hM1 := zMA_eq hXF hM
  refine z_istore (lv' := [(6, .int (nI kk)), (5, .int (nI (5 * t))), (0, .ref b), (1, .ref (zad g 0)), (2, .ref (zad g 2)), (3, .ref (zad g 11)), (4, .ref (zad g 12))]) 183 C dL_law_183 (by decide) rfl ?_
  refine z_aload_n 185 C dL_law_185 rfl 4 rfl ?_
  refine z_aload_n 186 C dL_law_186 rfl 2 rfl ?_
  refine z_iload 187 C dL_law_187 1 rfl ?_
  refine z_iconst (v := nI 1) 189 C dL_law_189 rfl ?_
  refine z_iadd (v := nI ((5 * t) + 1)) 190 C dL_law_190 (nI_add (5 * t) 1) ?_
  refine z_sld 191 C hX hbl hbA (show (5 * t) + 1 < L by omega) hL hp0 dL_law_191 ?_
  refine z_aload_n 192 C dL_law_192 rfl 2 rfl ?_
  refine z_iload 193 C dL_law_193 1 rfl ?_
  refine z_iconst (v := nI 2) 195 C dL_law_195 rfl ?_
  refine z_iadd (v := nI ((5 * t) + 2)) 196 C dL_law_196 (nI_add (5 * t) 2) ?_
  refine z_sld 197 C hX hbl hbA (show (5 * t) + 2 < L by omega) hL hp1 dL_law_197 ?_
  refine z_aload_n 198 C dL_law_198 rfl 2 rfl ?_
  refine z_iload 199 C dL_law_199 1 rfl ?_
  refine z_iconst (v := nI 3) 201 C dL_law_201 rfl ?_
  refine z_iadd (v := nI ((5 * t) + 3)) 202 C dL_law_202 (nI_add (5 * t) 3) ?_
  refine z_sld 203 C hX hbl hbA (show (5 * t) + 3 < L by omega) hL hp2 dL_law_203 ?_
  refine z_callVi 204 C (As := [.int p0, .int p1, .int p2]) 3 kO_model rfl (c_X6_add l C.2.2.1 y S hM1 p0 p1 p2 (zGood_hG hG)) (cwV 3 C.1.2.2.2.2 gL_law_X6_add rfl rfl rfl (by decide +kernel) ⟨Nat.le_of_ble_eq_true rfl, Nat.le_of_ble_eq_true rfl⟩) rfl rfl (Nat.le_of_ble_eq_true rfl) ⟨by show cells + 4 + 0 ≤ 601024; omega, by show slots + 24 + 0 ≤ 7293034; omega⟩ dL_law_204 (fun r2 z hz => ?_)
  obtain ⟨⟨hth, hMz, hOz⟩, hvz⟩ := hz
  rw [hkk] at hth hvz
  have hAz := zAll_eq hOz hXA
  refine z_widen (k := cells + 4) (n := slots + 24) (Nat.le_refl _) (Nat.le_refl _) ?_
  refine z_istore (lv' := [(7, .int r2), (6, .int (nI kk)), (5, .int (nI (5 * t))), (0, .ref b), (1, .ref (zad g 0)), (2, .ref (zad g 2)), (3, .ref (zad g 11)), (4, .ref (zad g 12))]) 207 C dL_law_207 (by decide) rfl ?_
  refine z_aload_n 209 C dL_law_209 rfl 5 rfl ?_
  refine z_callVi 210 C (As := []) 0 kO_model rfl (c_X6_thrown l C.2.2.1 z) (cwV 0 C.1.2.2.2.2 gL_law_X6_thrown rfl rfl rfl (by decide +kernel) ⟨Nat.le_of_ble_eq_true rfl, Nat.le_of_ble_eq_true rfl⟩) rfl rfl (Nat.le_of_ble_eq_true rfl) ⟨by show cells + 4 + 0 ≤ 601024; omega, by show slots + 24 + 0 ≤ 7293034; omega⟩ dL_law_210 (fun r3 w hw => ?_)
  obtain ⟨hw1, hw2⟩ := hw
  subst w
  rw [hth] at hw2
  subst r3
  refine z_widen (k := cells + 4) (n := slots + 24) (Nat.le_refl _) (Nat.le_refl _) ?_
  refine z_iload 213 C dL_law_213 1 rfl ?_
  refine z_icmp_eqN 215 C 220 dL_law_215 (by decide) (by omega) (by omega) (fun h215 => ?_) (fun h215 => absurd rfl h215)
  refine z_iload 220 C dL_law_220 1 rfl ?_
  refine z_if_neN 222 C 237 dL_law_222 (by decide) (by omega) (fun h222 => ?_) (fun h222 => ?_)
  · refine z_goto 237 C 1927 dL_law_237 (by decide) ?_
    refine z_lv (lv' := [(5, .int (nI (5 * t))), (0, .ref b), (1, .ref (zad g 0)), (2, .ref (zad g 2)), (3, .ref (zad g 11)), (4, .ref (zad g 12))]) [2, 3, 4, 5, 6, 7] rfl ?_
    exact hcont z (if zk3 (zinb p0 4 && zinb p1 64) (zwib p2 (nI 1) (nI 1000)) (decide (ztot (S.1 p0.toNatClampNeg) + p2 ≤ nI 1000000)) = 0 then zSj S p0.toNatClampNeg (upd (S.1 p0.toNatClampNeg) p1.toNatClampNeg (S.1 p0.toNatClampNeg p1.toNatClampNeg + p2)) (zdput (S.2.1 p0.toNatClampNeg) p1.toNatClampNeg p2) (zadd (S.2.2.1 p0.toNatClampNeg) (nI p1.toNatClampNeg) p2) (S.2.2.2 p0.toNatClampNeg + zaddw (S.2.2.1 p0.toNatClampNeg) (nI p1.toNatClampNeg) p2) else S) hAz hMz (zGood_if (fun h9 => zGood_add hG h9) hG)
  · refine z_aload_n 225 C dL_law_225 rfl 6 rfl ?_
    refine z_iconst (v := nI 0) 226 C dL_law_226 rfl ?_
    refine z_lald (v := (z.2.1 11) 0) 227 C kL_11 (by omega) rfl dL_law_227 ?_
    refine z_iload 228 C dL_law_228 0 rfl ?_
    refine z_i2l (v := r2.toInt64) 230 C dL_law_230 rfl ?_
    refine z_lcmp (v := lg_cmp ((z.2.1 11) 0) r2.toInt64) 231 C dL_law_231 rfl ?_
    refine z_if_eq 232 C 237 dL_law_232 (by decide) (fun h232 => ?_) (fun h232 => absurd (show lg_cmp (z.2.1 11 0) (r2.toInt64) = 0 by rw [(hOz.1 11 (by omega)).2, hv0 h222, hvz h222]; exact lgc_self _) h232)
    refine z_goto 237 C 1927 dL_law_237 (by decide) ?_
    refine z_lv (lv' := [(5, .int (nI (5 * t))), (0, .ref b), (1, .ref (zad g 0)), (2, .ref (zad g 2)), (3, .ref (zad g 11)), (4, .ref (zad g 12))]) [2, 3, 4, 5, 6, 7] rfl ?_
    exact hcont z (if zk3 (zinb p0 4 && zinb p1 64) (zwib p2 (nI 1) (nI 1000)) (decide (ztot (S.1 p0.toNatClampNeg) + p2 ≤ nI 1000000)) = 0 then zSj S p0.toNatClampNeg (upd (S.1 p0.toNatClampNeg) p1.toNatClampNeg (S.1 p0.toNatClampNeg p1.toNatClampNeg + p2)) (zdput (S.2.1 p0.toNatClampNeg) p1.toNatClampNeg p2) (zadd (S.2.2.1 p0.toNatClampNeg) (nI p1.toNatClampNeg) p2) (S.2.2.2 p0.toNatClampNeg + zaddw (S.2.2.1 p0.toNatClampNeg) (nI p1.toNatClampNeg) p2) else S) hAz hMz (zGood_if (fun h9 => zGood_add hG h9) hG)
set_option maxHeartbeats 4000000 in
set_option maxRecDepth 100000 in
/-- merge -/
theorem law_merge {p : Program} {e : Env} {s : State} {m : MethodId} {below : List Frame} {meth : Method} {c : Code} (l : Launch) (hls : l.stackTraces = false) {b L : Nat} {xs : Nat → Int32} (hL : L ≤ 2560) {g : zG} (C : zC p s m #[Value.ref b] meth c g cL_law 9 RL wsL_law) (hX : va_X b L xs s s.heap) (hbl : b < s.heap.size) (hbA : ¬ zA g b) {t cells slots : Nat} {Q : State → Prop} {x : zT} {S : zS} (ht : 5 * t + 5 ≤ L) (hcs : cells + 4 ≤ 601024 ∧ slots + 24 ≤ 7293034) (hA : zAll x S) (hM : zMA x S) (hG : zGood S) (hcont : ∀ (y : zT) (S' : zS), zAll y S' → zMA y S' → zGood S' → Z p l e room_1 s m #[Value.ref b] below meth c g 9 (cells + 4) (slots + 24) Q y 1927 [(5, .int (nI (5 * t))), (0, .ref b), (1, .ref (zad g 0)), (2, .ref (zad g 2)), (3, .ref (zad g 11)), (4, .ref (zad g 12))] []) : Z p l e room_1 s m #[Value.ref b] below meth c g 9 cells slots Q x 240 [(5, .int (nI (5 * t))), (0, .ref b), (1, .ref (zad g 0)), (2, .ref (zad g 2)), (3, .ref (zad g 11)), (4, .ref (zad g 12))] [] := by
  obtain ⟨p0, hp0⟩ : ∃ v : Int32, xs ((5 * t) + 1) = v := ⟨_, rfl⟩
  obtain ⟨p1, hp1⟩ : ∃ v : Int32, xs ((5 * t) + 2) = v := ⟨_, rfl⟩
  refine z_aload_n 240 C dL_law_240 rfl 2 rfl ?_
  refine z_aload_n 241 C dL_law_241 rfl 1 rfl ?_
  refine z_iload 242 C dL_law_242 0 rfl ?_
  refine z_iconst (v := nI 1) 244 C dL_law_244 rfl ?_
  refine z_iadd (v := nI ((5 * t) + 1)) 245 C dL_law_245 (nI_add (5 * t) 1) ?_
  refine z_sld 246 C hX hbl hbA (show (5 * t) + 1 < L by omega) hL hp0 dL_law_246 ?_
  refine z_aload_n 247 C dL_law_247 rfl 1 rfl ?_
  refine z_iload 248 C dL_law_248 0 rfl ?_
  refine z_iconst (v := nI 2) 250 C dL_law_250 rfl ?_
  refine z_iadd (v := nI ((5 * t) + 2)) 251 C dL_law_251 (nI_add (5 * t) 2) ?_
  refine z_sld 252 C hX hbl hbA (show (5 * t) + 2 < L by omega) hL hp1 dL_law_252 ?_
  refine z_aload_n 253 C dL_law_253 rfl 4 rfl ?_
  refine z_callSWi 254 C (As := [.ref (zad g 0), .int p0, .int p1, .ref (zad g 11)]) 4 (c_L_merge l C.2.2.1 x hls S hA p0 p1) (vx_cwSW 4 C.1.2.2.2.2 gL_law_L_merge rfl rfl rfl (by decide +kernel) ⟨Nat.le_of_ble_eq_true rfl, Nat.le_of_ble_eq_true rfl⟩) rfl rfl (Nat.le_of_ble_eq_true rfl) ⟨by show cells + 4 ≤ 601024; omega, by show slots + 24 ≤ 7293034; omega⟩ dL_law_254 (fun r y hu => ?_)
  obtain ⟨hr0, hv0, hXA, hXF⟩ : r = nI (zk3 (zinb p0 4 && zinb p1 4) (decide (p0 ≠ p1)) (decide (ztot (S.1 p0.toNatClampNeg) + ztot (S.1 p1.toNatClampNeg) ≤ nI 1000000))) ∧ _ ∧ zAll y (if zk3 (zinb p0 4 && zinb p1 4) (decide (p0 ≠ p1)) (decide (ztot (S.1 p0.toNatClampNeg) + ztot (S.1 p1.toNatClampNeg) ≤ nI 1000000)) = 0 then zSj S p0.toNatClampNeg (fun k => S.1 p0.toNatClampNeg k + S.1 p1.toNatClampNeg k) (fun k => S.2.1 p0.toNatClampNeg k + S.2.1 p1.toNatClampNeg k) (zmrg (S.2.2.1 p0.toNatClampNeg) (S.2.2.1 p1.toNatClampNeg)) (S.2.2.2 p0.toNatClampNeg + S.2.2.2 p1.toNatClampNeg + zmrgw (S.2.2.1 p0.toNatClampNeg) (S.2.2.1 p1.toNatClampNeg)) else S) ∧ _ := ⟨hu.1, hu.2.1, hu.2.2.1, hu.2.2.2⟩
  obtain ⟨kk, hkk⟩ : ∃ q : Nat, (zk3 (zinb p0 4 && zinb p1 4) (decide (p0 ≠ p1)) (decide (ztot (S.1 p0.toNatClampNeg) + ztot (S.1 p1.toNatClampNeg) ≤ nI 1000000))) = q := ⟨_, rfl⟩
  have hkb : kk ≤ 3 := by rw [← hkk]; exact zk3_le _ _ _ 
  rw [hkk] at hr0 hv0
  subst hr0
  refine z_widen (k := cells + 4) (n := slots + 24) (by omega) (by omega) ?_
  have hM1 := zMA_eq hXF hM
  refine z_istore (lv' := [(6, .int (nI kk)), (5, .int (nI (5 * t))), (0, .ref b), (1, .ref (zad g 0)), (2, .ref (zad g 2)), (3, .ref (zad g 11)), (4, .ref (zad g 12))]) 257 C dL_law_257 (by decide) rfl ?_
  refine z_aload_n 259 C dL_law_259 rfl 4 rfl ?_
  refine z_aload_n 260 C dL_law_260 rfl 2 rfl ?_
  refine z_iload 261 C dL_law_261 1 rfl ?_
  refine z_iconst (v := nI 1) 263 C dL_law_263 rfl ?_
  refine z_iadd (v := nI ((5 * t) + 1)) 264 C dL_law_264 (nI_add (5 * t) 1) ?_
  refine z_sld 265 C hX hbl hbA (show (5 * t) + 1 < L by omega) hL hp0 dL_law_265 ?_
  refine z_aload_n 266 C dL_law_266 rfl 2 rfl ?_
  refine z_iload 267 C dL_law_267 1 rfl ?_
  refine z_iconst (v := nI 2) 269 C dL_law_269 rfl ?_
  refine z_iadd (v := nI ((5 * t) + 2)) 270 C dL_law_270 (nI_add (5 * t) 2) ?_
  refine z_sld 271 C hX hbl hbA (show (5 * t) + 2 < L by omega) hL hp1 dL_law_271 ?_
  refine z_callVi 272 C (As := [.int p0, .int p1]) 2 kO_model rfl (c_X6_merge l C.2.2.1 y S hM1 p0 p1 (zGood_hG hG) (zGood_pj hG)) (cwV 2 C.1.2.2.2.2 gL_law_X6_merge rfl rfl rfl (by decide +kernel) ⟨Nat.le_of_ble_eq_true rfl, Nat.le_of_ble_eq_true rfl⟩) rfl rfl (Nat.le_of_ble_eq_true rfl) ⟨by show cells + 4 + 0 ≤ 601024; omega, by show slots + 24 + 0 ≤ 7293034; omega⟩ dL_law_272 (fun r2 z hz => ?_)
  obtain ⟨⟨hth, hMz, hOz⟩, hvz⟩ := hz
  rw [hkk] at hth hvz
  have hAz := zAll_eq hOz hXA
  refine z_widen (k := cells + 4) (n := slots + 24) (Nat.le_refl _) (Nat.le_refl _) ?_
  refine z_istore (lv' := [(7, .int r2), (6, .int (nI kk)), (5, .int (nI (5 * t))), (0, .ref b), (1, .ref (zad g 0)), (2, .ref (zad g 2)), (3, .ref (zad g 11)), (4, .ref (zad g 12))]) 275 C dL_law_275 (by decide) rfl ?_
  refine z_aload_n 277 C dL_law_277 rfl 5 rfl ?_
  refine z_callVi 278 C (As := []) 0 kO_model rfl (c_X6_thrown l C.2.2.1 z) (cwV 0 C.1.2.2.2.2 gL_law_X6_thrown rfl rfl rfl (by decide +kernel) ⟨Nat.le_of_ble_eq_true rfl, Nat.le_of_ble_eq_true rfl⟩) rfl rfl (Nat.le_of_ble_eq_true rfl) ⟨by show cells + 4 + 0 ≤ 601024; omega, by show slots + 24 + 0 ≤ 7293034; omega⟩ dL_law_278 (fun r3 w hw => ?_)
  obtain ⟨hw1, hw2⟩ := hw
  subst w
  rw [hth] at hw2
  subst r3
  refine z_widen (k := cells + 4) (n := slots + 24) (Nat.le_refl _) (Nat.le_refl _) ?_
  refine z_iload 281 C dL_law_281 1 rfl ?_
  refine z_icmp_eqN 283 C 288 dL_law_283 (by decide) (by omega) (by omega) (fun h283 => ?_) (fun h283 => absurd rfl h283)
  refine z_iload 288 C dL_law_288 1 rfl ?_
  refine z_if_neN 290 C 305 dL_law_290 (by decide) (by omega) (fun h290 => ?_) (fun h290 => ?_)
  · refine z_goto 305 C 1927 dL_law_305 (by decide) ?_
    refine z_lv (lv' := [(5, .int (nI (5 * t))), (0, .ref b), (1, .ref (zad g 0)), (2, .ref (zad g 2)), (3, .ref (zad g 11)), (4, .ref (zad g 12))]) [2, 3, 4, 5, 6, 7] rfl ?_
    exact hcont z (if zk3 (zinb p0 4 && zinb p1 4) (decide (p0 ≠ p1)) (decide (ztot (S.1 p0.toNatClampNeg) + ztot (S.1 p1.toNatClampNeg) ≤ nI 1000000)) = 0 then zSj S p0.toNatClampNeg (fun k => S.1 p0.toNatClampNeg k + S.1 p1.toNatClampNeg k) (fun k => S.2.1 p0.toNatClampNeg k + S.2.1 p1.toNatClampNeg k) (zmrg (S.2.2.1 p0.toNatClampNeg) (S.2.2.1 p1.toNatClampNeg)) (S.2.2.2 p0.toNatClampNeg + S.2.2.2 p1.toNatClampNeg + zmrgw (S.2.2.1 p0.toNatClampNeg) (S.2.2.1 p1.toNatClampNeg)) else S) hAz hMz (zGood_if (fun h9 => zGood_merge hG h9) hG)
  · refine z_aload_n 293 C dL_law_293 rfl 6 rfl ?_
    refine z_iconst (v := nI 0) 294 C dL_law_294 rfl ?_
    refine z_lald (v := (z.2.1 11) 0) 295 C kL_11 (by omega) rfl dL_law_295 ?_
    refine z_iload 296 C dL_law_296 0 rfl ?_
    refine z_i2l (v := r2.toInt64) 298 C dL_law_298 rfl ?_
    refine z_lcmp (v := lg_cmp ((z.2.1 11) 0) r2.toInt64) 299 C dL_law_299 rfl ?_
    refine z_if_eq 300 C 305 dL_law_300 (by decide) (fun h300 => ?_) (fun h300 => absurd (show lg_cmp (z.2.1 11 0) (r2.toInt64) = 0 by rw [(hOz.1 11 (by omega)).2, hv0 h290, hvz h290]; exact lgc_self _) h300)
    refine z_goto 305 C 1927 dL_law_305 (by decide) ?_
    refine z_lv (lv' := [(5, .int (nI (5 * t))), (0, .ref b), (1, .ref (zad g 0)), (2, .ref (zad g 2)), (3, .ref (zad g 11)), (4, .ref (zad g 12))]) [2, 3, 4, 5, 6, 7] rfl ?_
    exact hcont z (if zk3 (zinb p0 4 && zinb p1 4) (decide (p0 ≠ p1)) (decide (ztot (S.1 p0.toNatClampNeg) + ztot (S.1 p1.toNatClampNeg) ≤ nI 1000000)) = 0 then zSj S p0.toNatClampNeg (fun k => S.1 p0.toNatClampNeg k + S.1 p1.toNatClampNeg k) (fun k => S.2.1 p0.toNatClampNeg k + S.2.1 p1.toNatClampNeg k) (zmrg (S.2.2.1 p0.toNatClampNeg) (S.2.2.1 p1.toNatClampNeg)) (S.2.2.2 p0.toNatClampNeg + S.2.2.2 p1.toNatClampNeg + zmrgw (S.2.2.1 p0.toNatClampNeg) (S.2.2.1 p1.toNatClampNeg)) else S) hAz hMz (zGood_if (fun h9 => zGood_merge hG h9) hG)
set_option maxHeartbeats 4000000 in
set_option maxRecDepth 100000 in
/-- clear -/
theorem law_clear {p : Program} {e : Env} {s : State} {m : MethodId} {below : List Frame} {meth : Method} {c : Code} (l : Launch) (hls : l.stackTraces = false) {b L : Nat} {xs : Nat → Int32} (hL : L ≤ 2560) {g : zG} (C : zC p s m #[Value.ref b] meth c g cL_law 9 RL wsL_law) (hX : va_X b L xs s s.heap) (hbl : b < s.heap.size) (hbA : ¬ zA g b) {t cells slots : Nat} {Q : State → Prop} {x : zT} {S : zS} (ht : 5 * t + 5 ≤ L) (hcs : cells + 4 ≤ 601024 ∧ slots + 24 ≤ 7293034) (hA : zAll x S) (hM : zMA x S) (hG : zGood S) (hcont : ∀ (y : zT) (S' : zS), zAll y S' → zMA y S' → zGood S' → Z p l e room_1 s m #[Value.ref b] below meth c g 9 (cells + 4) (slots + 24) Q y 1927 [(5, .int (nI (5 * t))), (0, .ref b), (1, .ref (zad g 0)), (2, .ref (zad g 2)), (3, .ref (zad g 11)), (4, .ref (zad g 12))] []) : Z p l e room_1 s m #[Value.ref b] below meth c g 9 cells slots Q x 308 [(5, .int (nI (5 * t))), (0, .ref b), (1, .ref (zad g 0)), (2, .ref (zad g 2)), (3, .ref (zad g 11)), (4, .ref (zad g 12))] [] := by
  obtain ⟨p0, hp0⟩ : ∃ v : Int32, xs ((5 * t) + 1) = v := ⟨_, rfl⟩
  refine z_aload_n 308 C dL_law_308 rfl 2 rfl ?_
  refine z_aload_n 309 C dL_law_309 rfl 1 rfl ?_
  refine z_iload 310 C dL_law_310 0 rfl ?_
  refine z_iconst (v := nI 1) 312 C dL_law_312 rfl ?_
  refine z_iadd (v := nI ((5 * t) + 1)) 313 C dL_law_313 (nI_add (5 * t) 1) ?_
  refine z_sld 314 C hX hbl hbA (show (5 * t) + 1 < L by omega) hL hp0 dL_law_314 ?_
  refine z_aload_n 315 C dL_law_315 rfl 4 rfl ?_
  refine z_callSWi 316 C (As := [.ref (zad g 0), .int p0, .ref (zad g 11)]) 3 (c_L_clear l C.2.2.1 x hls S hA p0) (vx_cwSW 3 C.1.2.2.2.2 gL_law_L_clear rfl rfl rfl (by decide +kernel) ⟨Nat.le_of_ble_eq_true rfl, Nat.le_of_ble_eq_true rfl⟩) rfl rfl (Nat.le_of_ble_eq_true rfl) ⟨by show cells + 1 ≤ 601024; omega, by show slots + 6 ≤ 7293034; omega⟩ dL_law_316 (fun r y hu => ?_)
  obtain ⟨hr0, hv0, hXA, hXF⟩ : r = nI (zk1 (zinb p0 4)) ∧ _ ∧ zAll y (if zk1 (zinb p0 4) = 0 then zSj S p0.toNatClampNeg (fun _ => 0) (fun _ => 0) [] 0 else S) ∧ _ := ⟨hu.1, hu.2.1, hu.2.2.1, hu.2.2.2⟩
  obtain ⟨kk, hkk⟩ : ∃ q : Nat, (zk1 (zinb p0 4)) = q := ⟨_, rfl⟩
  have hkb : kk ≤ 3 := by rw [← hkk]; exact zk1_le _ 
  rw [hkk] at hr0 hv0
  subst hr0
  refine z_widen (k := cells + 4) (n := slots + 24) (by omega) (by omega) ?_
  have hM1 := zMA_eq hXF hM
  refine z_istore (lv' := [(6, .int (nI kk)), (5, .int (nI (5 * t))), (0, .ref b), (1, .ref (zad g 0)), (2, .ref (zad g 2)), (3, .ref (zad g 11)), (4, .ref (zad g 12))]) 319 C dL_law_319 (by decide) rfl ?_
  refine z_aload_n 321 C dL_law_321 rfl 4 rfl ?_
  refine z_aload_n 322 C dL_law_322 rfl 2 rfl ?_
  refine z_iload 323 C dL_law_323 1 rfl ?_
  refine z_iconst (v := nI 1) 325 C dL_law_325 rfl ?_
  refine z_iadd (v := nI ((5 * t) + 1)) 326 C dL_law_326 (nI_add (5 * t) 1) ?_
  refine z_sld 327 C hX hbl hbA (show (5 * t) + 1 < L by omega) hL hp0 dL_law_327 ?_
  refine z_callVi 328 C (As := [.int p0]) 1 kO_model rfl (c_X6_clear l C.2.2.1 y S hM1 p0) (cwV 1 C.1.2.2.2.2 gL_law_X6_clear rfl rfl rfl (by decide +kernel) ⟨Nat.le_of_ble_eq_true rfl, Nat.le_of_ble_eq_true rfl⟩) rfl rfl (Nat.le_of_ble_eq_true rfl) ⟨by show cells + 4 + 0 ≤ 601024; omega, by show slots + 24 + 0 ≤ 7293034; omega⟩ dL_law_328 (fun r2 z hz => ?_)
  obtain ⟨⟨hth, hMz, hOz⟩, hvz⟩ := hz
  rw [hkk] at hth hvz
  have hAz := zAll_eq hOz hXA
  refine z_widen (k := cells + 4) (n := slots + 24) (Nat.le_refl _) (Nat.le_refl _) ?_
  refine z_istore (lv' := [(7, .int r2), (6, .int (nI kk)), (5, .int (nI (5 * t))), (0, .ref b), (1, .ref (zad g 0)), (2, .ref (zad g 2)), (3, .ref (zad g 11)), (4, .ref (zad g 12))]) 331 C dL_law_331 (by decide) rfl ?_
  refine z_aload_n 333 C dL_law_333 rfl 5 rfl ?_
  refine z_callVi 334 C (As := []) 0 kO_model rfl (c_X6_thrown l C.2.2.1 z) (cwV 0 C.1.2.2.2.2 gL_law_X6_thrown rfl rfl rfl (by decide +kernel) ⟨Nat.le_of_ble_eq_true rfl, Nat.le_of_ble_eq_true rfl⟩) rfl rfl (Nat.le_of_ble_eq_true rfl) ⟨by show cells + 4 + 0 ≤ 601024; omega, by show slots + 24 + 0 ≤ 7293034; omega⟩ dL_law_334 (fun r3 w hw => ?_)
  obtain ⟨hw1, hw2⟩ := hw
  subst w
  rw [hth] at hw2
  subst r3
  refine z_widen (k := cells + 4) (n := slots + 24) (Nat.le_refl _) (Nat.le_refl _) ?_
  refine z_iload 337 C dL_law_337 1 rfl ?_
  refine z_icmp_eqN 339 C 344 dL_law_339 (by decide) (by omega) (by omega) (fun h339 => ?_) (fun h339 => absurd rfl h339)
  refine z_iload 344 C dL_law_344 1 rfl ?_
  refine z_if_neN 346 C 361 dL_law_346 (by decide) (by omega) (fun h346 => ?_) (fun h346 => ?_)
  · refine z_goto 361 C 1927 dL_law_361 (by decide) ?_
    refine z_lv (lv' := [(5, .int (nI (5 * t))), (0, .ref b), (1, .ref (zad g 0)), (2, .ref (zad g 2)), (3, .ref (zad g 11)), (4, .ref (zad g 12))]) [2, 3, 4, 5, 6, 7] rfl ?_
    exact hcont z (if zk1 (zinb p0 4) = 0 then zSj S p0.toNatClampNeg (fun _ => 0) (fun _ => 0) [] 0 else S) hAz hMz (zGood_if (fun h9 => zGood_clear hG) hG)
  · refine z_aload_n 349 C dL_law_349 rfl 6 rfl ?_
    refine z_iconst (v := nI 0) 350 C dL_law_350 rfl ?_
    refine z_lald (v := (z.2.1 11) 0) 351 C kL_11 (by omega) rfl dL_law_351 ?_
    refine z_iload 352 C dL_law_352 0 rfl ?_
    refine z_i2l (v := r2.toInt64) 354 C dL_law_354 rfl ?_
    refine z_lcmp (v := lg_cmp ((z.2.1 11) 0) r2.toInt64) 355 C dL_law_355 rfl ?_
    refine z_if_eq 356 C 361 dL_law_356 (by decide) (fun h356 => ?_) (fun h356 => absurd (show lg_cmp (z.2.1 11 0) (r2.toInt64) = 0 by rw [(hOz.1 11 (by omega)).2, hv0 h346, hvz h346]; exact lgc_self _) h356)
    refine z_goto 361 C 1927 dL_law_361 (by decide) ?_
    refine z_lv (lv' := [(5, .int (nI (5 * t))), (0, .ref b), (1, .ref (zad g 0)), (2, .ref (zad g 2)), (3, .ref (zad g 11)), (4, .ref (zad g 12))]) [2, 3, 4, 5, 6, 7] rfl ?_
    exact hcont z (if zk1 (zinb p0 4) = 0 then zSj S p0.toNatClampNeg (fun _ => 0) (fun _ => 0) [] 0 else S) hAz hMz (zGood_if (fun h9 => zGood_clear hG) hG)
set_option maxHeartbeats 4000000 in
set_option maxRecDepth 100000 in
/-- total -/
theorem law_total {p : Program} {e : Env} {s : State} {m : MethodId} {below : List Frame} {meth : Method} {c : Code} (l : Launch) (hls : l.stackTraces = false) {b L : Nat} {xs : Nat → Int32} (hL : L ≤ 2560) {g : zG} (C : zC p s m #[Value.ref b] meth c g cL_law 9 RL wsL_law) (hX : va_X b L xs s s.heap) (hbl : b < s.heap.size) (hbA : ¬ zA g b) {t cells slots : Nat} {Q : State → Prop} {x : zT} {S : zS} (ht : 5 * t + 5 ≤ L) (hcs : cells + 4 ≤ 601024 ∧ slots + 24 ≤ 7293034) (hA : zAll x S) (hM : zMA x S) (hG : zGood S) (hcont : ∀ (y : zT) (S' : zS), zAll y S' → zMA y S' → zGood S' → Z p l e room_1 s m #[Value.ref b] below meth c g 9 (cells + 4) (slots + 24) Q y 1927 [(5, .int (nI (5 * t))), (0, .ref b), (1, .ref (zad g 0)), (2, .ref (zad g 2)), (3, .ref (zad g 11)), (4, .ref (zad g 12))] []) : Z p l e room_1 s m #[Value.ref b] below meth c g 9 cells slots Q x 364 [(5, .int (nI (5 * t))), (0, .ref b), (1, .ref (zad g 0)), (2, .ref (zad g 2)), (3, .ref (zad g 11)), (4, .ref (zad g 12))] [] := by
  obtain ⟨p0, hp0⟩ : ∃ v : Int32, xs ((5 * t) + 1) = v := ⟨_, rfl⟩
  refine z_aload_n 364 C dL_law_364 rfl 2 rfl ?_
  refine z_aload_n 365 C dL_law_365 rfl 1 rfl ?_
  refine z_iload 366 C dL_law_366 0 rfl ?_
  refine z_iconst (v := nI 1) 368 C dL_law_368 rfl ?_
  refine z_iadd (v := nI ((5 * t) + 1)) 369 C dL_law_369 (nI_add (5 * t) 1) ?_
  refine z_sld 370 C hX hbl hbA (show (5 * t) + 1 < L by omega) hL hp0 dL_law_370 ?_
  refine z_aload_n 371 C dL_law_371 rfl 4 rfl ?_
  refine z_callSWi 372 C (As := [.ref (zad g 0), .int p0, .ref (zad g 11)]) 3 (c_L_total l C.2.2.1 x hls S hA p0) (vx_cwSW 3 C.1.2.2.2.2 gL_law_L_total rfl rfl rfl (by decide +kernel) ⟨Nat.le_of_ble_eq_true rfl, Nat.le_of_ble_eq_true rfl⟩) rfl rfl (Nat.le_of_ble_eq_true rfl) ⟨by show cells + 1 ≤ 601024; omega, by show slots + 6 ≤ 7293034; omega⟩ dL_law_372 (fun r y hu => ?_)
  obtain ⟨hr0, hv0, hXA, hXF⟩ : r = nI (zk1 (zinb p0 4)) ∧ _ ∧ zAll y S ∧ _ := ⟨hu.1, hu.2.1, hu.2.2.1, hu.2.2.2⟩
  obtain ⟨kk, hkk⟩ : ∃ q : Nat, (zk1 (zinb p0 4)) = q := ⟨_, rfl⟩
  have hkb : kk ≤ 3 := by rw [← hkk]; exact zk1_le _ 
  rw [hkk] at hr0 hv0
  subst hr0
  refine z_widen (k := cells + 4) (n := slots + 24) (by omega) (by omega) ?_
  have hM1 := zMA_eq hXF hM
  refine z_istore (lv' := [(6, .int (nI kk)), (5, .int (nI (5 * t))), (0, .ref b), (1, .ref (zad g 0)), (2, .ref (zad g 2)), (3, .ref (zad g 11)), (4, .ref (zad g 12))]) 375 C dL_law_375 (by decide) rfl ?_
  refine z_aload_n 377 C dL_law_377 rfl 4 rfl ?_
  refine z_aload_n 378 C dL_law_378 rfl 2 rfl ?_
  refine z_iload 379 C dL_law_379 1 rfl ?_
  refine z_iconst (v := nI 1) 381 C dL_law_381 rfl ?_
  refine z_iadd (v := nI ((5 * t) + 1)) 382 C dL_law_382 (nI_add (5 * t) 1) ?_
  refine z_sld 383 C hX hbl hbA (show (5 * t) + 1 < L by omega) hL hp0 dL_law_383 ?_
  refine z_callVi 384 C (As := [.int p0]) 1 kO_model rfl (c_X6_total l C.2.2.1 y S hM1 p0) (cwV 1 C.1.2.2.2.2 gL_law_X6_total rfl rfl rfl (by decide +kernel) ⟨Nat.le_of_ble_eq_true rfl, Nat.le_of_ble_eq_true rfl⟩) rfl rfl (Nat.le_of_ble_eq_true rfl) ⟨by show cells + 4 + 0 ≤ 601024; omega, by show slots + 24 + 0 ≤ 7293034; omega⟩ dL_law_384 (fun r2 z hz => ?_)
  obtain ⟨⟨hth, hMz, hOz⟩, hvz⟩ := hz
  rw [hkk] at hth hvz
  have hAz := zAll_eq hOz hXA
  refine z_widen (k := cells + 4) (n := slots + 24) (Nat.le_refl _) (Nat.le_refl _) ?_
  refine z_istore (lv' := [(7, .int r2), (6, .int (nI kk)), (5, .int (nI (5 * t))), (0, .ref b), (1, .ref (zad g 0)), (2, .ref (zad g 2)), (3, .ref (zad g 11)), (4, .ref (zad g 12))]) 387 C dL_law_387 (by decide) rfl ?_
  refine z_aload_n 389 C dL_law_389 rfl 5 rfl ?_
  refine z_callVi 390 C (As := []) 0 kO_model rfl (c_X6_thrown l C.2.2.1 z) (cwV 0 C.1.2.2.2.2 gL_law_X6_thrown rfl rfl rfl (by decide +kernel) ⟨Nat.le_of_ble_eq_true rfl, Nat.le_of_ble_eq_true rfl⟩) rfl rfl (Nat.le_of_ble_eq_true rfl) ⟨by show cells + 4 + 0 ≤ 601024; omega, by show slots + 24 + 0 ≤ 7293034; omega⟩ dL_law_390 (fun r3 w hw => ?_)
  obtain ⟨hw1, hw2⟩ := hw
  subst w
  rw [hth] at hw2
  subst r3
  refine z_widen (k := cells + 4) (n := slots + 24) (Nat.le_refl _) (Nat.le_refl _) ?_
  refine z_iload 393 C dL_law_393 1 rfl ?_
  refine z_icmp_eqN 395 C 400 dL_law_395 (by decide) (by omega) (by omega) (fun h395 => ?_) (fun h395 => absurd rfl h395)
  refine z_iload 400 C dL_law_400 1 rfl ?_
  refine z_if_neN 402 C 417 dL_law_402 (by decide) (by omega) (fun h402 => ?_) (fun h402 => ?_)
  · refine z_goto 417 C 1927 dL_law_417 (by decide) ?_
    refine z_lv (lv' := [(5, .int (nI (5 * t))), (0, .ref b), (1, .ref (zad g 0)), (2, .ref (zad g 2)), (3, .ref (zad g 11)), (4, .ref (zad g 12))]) [2, 3, 4, 5, 6, 7] rfl ?_
    exact hcont z S hAz hMz hG
  · refine z_aload_n 405 C dL_law_405 rfl 6 rfl ?_
    refine z_iconst (v := nI 0) 406 C dL_law_406 rfl ?_
    refine z_lald (v := (z.2.1 11) 0) 407 C kL_11 (by omega) rfl dL_law_407 ?_
    refine z_iload 408 C dL_law_408 0 rfl ?_
    refine z_i2l (v := r2.toInt64) 410 C dL_law_410 rfl ?_
    refine z_lcmp (v := lg_cmp ((z.2.1 11) 0) r2.toInt64) 411 C dL_law_411 rfl ?_
    refine z_if_eq 412 C 417 dL_law_412 (by decide) (fun h412 => ?_) (fun h412 => absurd (show lg_cmp (z.2.1 11 0) (r2.toInt64) = 0 by rw [(hOz.1 11 (by omega)).2, hv0 h402, hvz h402]; exact lgc_self _) h412)
    refine z_goto 417 C 1927 dL_law_417 (by decide) ?_
    refine z_lv (lv' := [(5, .int (nI (5 * t))), (0, .ref b), (1, .ref (zad g 0)), (2, .ref (zad g 2)), (3, .ref (zad g 11)), (4, .ref (zad g 12))]) [2, 3, 4, 5, 6, 7] rfl ?_
    exact hcont z S hAz hMz hG
set_option maxHeartbeats 4000000 in
set_option maxRecDepth 100000 in
/-- count -/
theorem law_count {p : Program} {e : Env} {s : State} {m : MethodId} {below : List Frame} {meth : Method} {c : Code} (l : Launch) (hls : l.stackTraces = false) {b L : Nat} {xs : Nat → Int32} (hL : L ≤ 2560) {g : zG} (C : zC p s m #[Value.ref b] meth c g cL_law 9 RL wsL_law) (hX : va_X b L xs s s.heap) (hbl : b < s.heap.size) (hbA : ¬ zA g b) {t cells slots : Nat} {Q : State → Prop} {x : zT} {S : zS} (ht : 5 * t + 5 ≤ L) (hcs : cells + 4 ≤ 601024 ∧ slots + 24 ≤ 7293034) (hA : zAll x S) (hM : zMA x S) (hG : zGood S) (hcont : ∀ (y : zT) (S' : zS), zAll y S' → zMA y S' → zGood S' → Z p l e room_1 s m #[Value.ref b] below meth c g 9 (cells + 4) (slots + 24) Q y 1927 [(5, .int (nI (5 * t))), (0, .ref b), (1, .ref (zad g 0)), (2, .ref (zad g 2)), (3, .ref (zad g 11)), (4, .ref (zad g 12))] []) : Z p l e room_1 s m #[Value.ref b] below meth c g 9 cells slots Q x 420 [(5, .int (nI (5 * t))), (0, .ref b), (1, .ref (zad g 0)), (2, .ref (zad g 2)), (3, .ref (zad g 11)), (4, .ref (zad g 12))] [] := by
  obtain ⟨p0, hp0⟩ : ∃ v : Int32, xs ((5 * t) + 1) = v := ⟨_, rfl⟩
  obtain ⟨p1, hp1⟩ : ∃ v : Int32, xs ((5 * t) + 2) = v := ⟨_, rfl⟩
  refine z_aload_n 420 C dL_law_420 rfl 2 rfl ?_
  refine z_aload_n 421 C dL_law_421 rfl 1 rfl ?_
  refine z_iload 422 C dL_law_422 0 rfl ?_
  refine z_iconst (v := nI 1) 424 C dL_law_424 rfl ?_
  refine z_iadd (v := nI ((5 * t) + 1)) 425 C dL_law_425 (nI_add (5 * t) 1) ?_
  refine z_sld 426 C hX hbl hbA (show (5 * t) + 1 < L by omega) hL hp0 dL_law_426 ?_
  refine z_aload_n 427 C dL_law_427 rfl 1 rfl ?_
  refine z_iload 428 C dL_law_428 0 rfl ?_
  refine z_iconst (v := nI 2) 430 C dL_law_430 rfl ?_
  refine z_iadd (v := nI ((5 * t) + 2)) 431 C dL_law_431 (nI_add (5 * t) 2) ?_
  refine z_sld 432 C hX hbl hbA (show (5 * t) + 2 < L by omega) hL hp1 dL_law_432 ?_
  refine z_aload_n 433 C dL_law_433 rfl 4 rfl ?_
  refine z_callSWi 434 C (As := [.ref (zad g 0), .int p0, .int p1, .ref (zad g 11)]) 4 (c_L_count l C.2.2.1 x hls S hA p0 p1) (vx_cwSW 4 C.1.2.2.2.2 gL_law_L_count rfl rfl rfl (by decide +kernel) ⟨Nat.le_of_ble_eq_true rfl, Nat.le_of_ble_eq_true rfl⟩) rfl rfl (Nat.le_of_ble_eq_true rfl) ⟨by show cells + 2 ≤ 601024; omega, by show slots + 12 ≤ 7293034; omega⟩ dL_law_434 (fun r y hu => ?_)
  obtain ⟨hr0, hv0, hXA, hXF⟩ : r = nI (zk1 (zinb p0 4 && zinb p1 64)) ∧ _ ∧ zAll y S ∧ _ := ⟨hu.1, hu.2.1, hu.2.2.1, hu.2.2.2⟩
  obtain ⟨kk, hkk⟩ : ∃ q : Nat, (zk1 (zinb p0 4 && zinb p1 64)) = q := ⟨_, rfl⟩
  have hkb : kk ≤ 3 := by rw [← hkk]; exact zk1_le _ 
  rw [hkk] at hr0 hv0
  subst hr0
  refine z_widen (k := cells + 4) (n := slots + 24) (by omega) (by omega) ?_
  have hM1 := zMA_eq hXF hM
  refine z_istore (lv' := [(6, .int (nI kk)), (5, .int (nI (5 * t))), (0, .ref b), (1, .ref (zad g 0)), (2, .ref (zad g 2)), (3, .ref (zad g 11)), (4, .ref (zad g 12))]) 437 C dL_law_437 (by decide) rfl ?_
  refine z_aload_n 439 C dL_law_439 rfl 4 rfl ?_
  refine z_aload_n 440 C dL_law_440 rfl 2 rfl ?_
  refine z_iload 441 C dL_law_441 1 rfl ?_
  refine z_iconst (v := nI 1) 443 C dL_law_443 rfl ?_
  refine z_iadd (v := nI ((5 * t) + 1)) 444 C dL_law_444 (nI_add (5 * t) 1) ?_
  refine z_sld 445 C hX hbl hbA (show (5 * t) + 1 < L by omega) hL hp0 dL_law_445 ?_
  refine z_aload_n 446 C dL_law_446 rfl 2 rfl ?_
  refine z_iload 447 C dL_law_447 1 rfl ?_
  refine z_iconst (v := nI 2) 449 C dL_law_449 rfl ?_
  refine z_iadd (v := nI ((5 * t) + 2)) 450 C dL_law_450 (nI_add (5 * t) 2) ?_
  refine z_sld 451 C hX hbl hbA (show (5 * t) + 2 < L by omega) hL hp1 dL_law_451 ?_
  refine z_callVi 452 C (As := [.int p0, .int p1]) 2 kO_model rfl (c_X6_count l C.2.2.1 y S hM1 p0 p1) (cwV 2 C.1.2.2.2.2 gL_law_X6_count rfl rfl rfl (by decide +kernel) ⟨Nat.le_of_ble_eq_true rfl, Nat.le_of_ble_eq_true rfl⟩) rfl rfl (Nat.le_of_ble_eq_true rfl) ⟨by show cells + 4 + 0 ≤ 601024; omega, by show slots + 24 + 0 ≤ 7293034; omega⟩ dL_law_452 (fun r2 z hz => ?_)
  obtain ⟨⟨hth, hMz, hOz⟩, hvz⟩ := hz
  rw [hkk] at hth hvz
  have hAz := zAll_eq hOz hXA
  refine z_widen (k := cells + 4) (n := slots + 24) (Nat.le_refl _) (Nat.le_refl _) ?_
  refine z_istore (lv' := [(7, .int r2), (6, .int (nI kk)), (5, .int (nI (5 * t))), (0, .ref b), (1, .ref (zad g 0)), (2, .ref (zad g 2)), (3, .ref (zad g 11)), (4, .ref (zad g 12))]) 455 C dL_law_455 (by decide) rfl ?_
  refine z_aload_n 457 C dL_law_457 rfl 5 rfl ?_
  refine z_callVi 458 C (As := []) 0 kO_model rfl (c_X6_thrown l C.2.2.1 z) (cwV 0 C.1.2.2.2.2 gL_law_X6_thrown rfl rfl rfl (by decide +kernel) ⟨Nat.le_of_ble_eq_true rfl, Nat.le_of_ble_eq_true rfl⟩) rfl rfl (Nat.le_of_ble_eq_true rfl) ⟨by show cells + 4 + 0 ≤ 601024; omega, by show slots + 24 + 0 ≤ 7293034; omega⟩ dL_law_458 (fun r3 w hw => ?_)
  obtain ⟨hw1, hw2⟩ := hw
  subst w
  rw [hth] at hw2
  subst r3
  refine z_widen (k := cells + 4) (n := slots + 24) (Nat.le_refl _) (Nat.le_refl _) ?_
  refine z_iload 461 C dL_law_461 1 rfl ?_
  refine z_icmp_eqN 463 C 468 dL_law_463 (by decide) (by omega) (by omega) (fun h463 => ?_) (fun h463 => absurd rfl h463)
  refine z_iload 468 C dL_law_468 1 rfl ?_
  refine z_if_neN 470 C 485 dL_law_470 (by decide) (by omega) (fun h470 => ?_) (fun h470 => ?_)
  · refine z_goto 485 C 1927 dL_law_485 (by decide) ?_
    refine z_lv (lv' := [(5, .int (nI (5 * t))), (0, .ref b), (1, .ref (zad g 0)), (2, .ref (zad g 2)), (3, .ref (zad g 11)), (4, .ref (zad g 12))]) [2, 3, 4, 5, 6, 7] rfl ?_
    exact hcont z S hAz hMz hG
  · refine z_aload_n 473 C dL_law_473 rfl 6 rfl ?_
    refine z_iconst (v := nI 0) 474 C dL_law_474 rfl ?_
    refine z_lald (v := (z.2.1 11) 0) 475 C kL_11 (by omega) rfl dL_law_475 ?_
    refine z_iload 476 C dL_law_476 0 rfl ?_
    refine z_i2l (v := r2.toInt64) 478 C dL_law_478 rfl ?_
    refine z_lcmp (v := lg_cmp ((z.2.1 11) 0) r2.toInt64) 479 C dL_law_479 rfl ?_
    refine z_if_eq 480 C 485 dL_law_480 (by decide) (fun h480 => ?_) (fun h480 => absurd (show lg_cmp (z.2.1 11 0) (r2.toInt64) = 0 by rw [(hOz.1 11 (by omega)).2, hv0 h470, hvz h470]; exact lgc_self _) h480)
    refine z_goto 485 C 1927 dL_law_485 (by decide) ?_
    refine z_lv (lv' := [(5, .int (nI (5 * t))), (0, .ref b), (1, .ref (zad g 0)), (2, .ref (zad g 2)), (3, .ref (zad g 11)), (4, .ref (zad g 12))]) [2, 3, 4, 5, 6, 7] rfl ?_
    exact hcont z S hAz hMz hG
set_option maxHeartbeats 4000000 in
set_option maxRecDepth 100000 in
/-- countOfRange -/
theorem law_countOfRange {p : Program} {e : Env} {s : State} {m : MethodId} {below : List Frame} {meth : Method} {c : Code} (l : Launch) (hls : l.stackTraces = false) {b L : Nat} {xs : Nat → Int32} (hL : L ≤ 2560) {g : zG} (C : zC p s m #[Value.ref b] meth c g cL_law 9 RL wsL_law) (hX : va_X b L xs s s.heap) (hbl : b < s.heap.size) (hbA : ¬ zA g b) {t cells slots : Nat} {Q : State → Prop} {x : zT} {S : zS} (ht : 5 * t + 5 ≤ L) (hcs : cells + 4 ≤ 601024 ∧ slots + 24 ≤ 7293034) (hA : zAll x S) (hM : zMA x S) (hG : zGood S) (hcont : ∀ (y : zT) (S' : zS), zAll y S' → zMA y S' → zGood S' → Z p l e room_1 s m #[Value.ref b] below meth c g 9 (cells + 4) (slots + 24) Q y 1927 [(5, .int (nI (5 * t))), (0, .ref b), (1, .ref (zad g 0)), (2, .ref (zad g 2)), (3, .ref (zad g 11)), (4, .ref (zad g 12))] []) : Z p l e room_1 s m #[Value.ref b] below meth c g 9 cells slots Q x 488 [(5, .int (nI (5 * t))), (0, .ref b), (1, .ref (zad g 0)), (2, .ref (zad g 2)), (3, .ref (zad g 11)), (4, .ref (zad g 12))] [] := by
  obtain ⟨p0, hp0⟩ : ∃ v : Int32, xs ((5 * t) + 1) = v := ⟨_, rfl⟩
  obtain ⟨p1, hp1⟩ : ∃ v : Int32, xs ((5 * t) + 2) = v := ⟨_, rfl⟩
  obtain ⟨p2, hp2⟩ : ∃ v : Int32, xs ((5 * t) + 3) = v := ⟨_, rfl⟩
  refine z_aload_n 488 C dL_law_488 rfl 2 rfl ?_
  refine z_aload_n 489 C dL_law_489 rfl 1 rfl ?_
  refine z_iload 490 C dL_law_490 0 rfl ?_
  refine z_iconst (v := nI 1) 492 C dL_law_492 rfl ?_
  refine z_iadd (v := nI ((5 * t) + 1)) 493 C dL_law_493 (nI_add (5 * t) 1) ?_
  refine z_sld 494 C hX hbl hbA (show (5 * t) + 1 < L by omega) hL hp0 dL_law_494 ?_
  refine z_aload_n 495 C dL_law_495 rfl 1 rfl ?_
  refine z_iload 496 C dL_law_496 0 rfl ?_
  refine z_iconst (v := nI 2) 498 C dL_law_498 rfl ?_
  refine z_iadd (v := nI ((5 * t) + 2)) 499 C dL_law_499 (nI_add (5 * t) 2) ?_
  refine z_sld 500 C hX hbl hbA (show (5 * t) + 2 < L by omega) hL hp1 dL_law_500 ?_
  refine z_aload_n 501 C dL_law_501 rfl 1 rfl ?_
  refine z_iload 502 C dL_law_502 0 rfl ?_
  refine z_iconst (v := nI 3) 504 C dL_law_504 rfl ?_
  refine z_iadd (v := nI ((5 * t) + 3)) 505 C dL_law_505 (nI_add (5 * t) 3) ?_
  refine z_sld 506 C hX hbl hbA (show (5 * t) + 3 < L by omega) hL hp2 dL_law_506 ?_
  refine z_aload_n 507 C dL_law_507 rfl 4 rfl ?_
  refine z_callSWi 508 C (As := [.ref (zad g 0), .int p0, .int p1, .int p2, .ref (zad g 11)]) 5 (c_L_countOfRange l C.2.2.1 x hls S hA p0 p1 p2) (vx_cwSW 5 C.1.2.2.2.2 gL_law_L_countOfRange rfl rfl rfl (by decide +kernel) ⟨Nat.le_of_ble_eq_true rfl, Nat.le_of_ble_eq_true rfl⟩) rfl rfl (Nat.le_of_ble_eq_true rfl) ⟨by show cells + 4 ≤ 601024; omega, by show slots + 24 ≤ 7293034; omega⟩ dL_law_508 (fun r y hu => ?_)
  obtain ⟨hr0, hv0, hXA, hXF⟩ : r = nI (zk2 (zinb p0 4 && (zinb p1 64 && zinb p2 64)) (decide (p1 ≤ p2))) ∧ _ ∧ zAll y S ∧ _ := ⟨hu.1, hu.2.1, hu.2.2.1, hu.2.2.2⟩
  obtain ⟨kk, hkk⟩ : ∃ q : Nat, (zk2 (zinb p0 4 && (zinb p1 64 && zinb p2 64)) (decide (p1 ≤ p2))) = q := ⟨_, rfl⟩
  have hkb : kk ≤ 3 := by rw [← hkk]; exact zk2_le _ _ 
  rw [hkk] at hr0 hv0
  subst hr0
  refine z_widen (k := cells + 4) (n := slots + 24) (by omega) (by omega) ?_
  have hM1 := zMA_eq hXF hM
  refine z_istore (lv' := [(6, .int (nI kk)), (5, .int (nI (5 * t))), (0, .ref b), (1, .ref (zad g 0)), (2, .ref (zad g 2)), (3, .ref (zad g 11)), (4, .ref (zad g 12))]) 511 C dL_law_511 (by decide) rfl ?_
  refine z_aload_n 513 C dL_law_513 rfl 4 rfl ?_
  refine z_aload_n 514 C dL_law_514 rfl 2 rfl ?_
  refine z_iload 515 C dL_law_515 1 rfl ?_
  refine z_iconst (v := nI 1) 517 C dL_law_517 rfl ?_
  refine z_iadd (v := nI ((5 * t) + 1)) 518 C dL_law_518 (nI_add (5 * t) 1) ?_
  refine z_sld 519 C hX hbl hbA (show (5 * t) + 1 < L by omega) hL hp0 dL_law_519 ?_
  refine z_aload_n 520 C dL_law_520 rfl 2 rfl ?_
  refine z_iload 521 C dL_law_521 1 rfl ?_
  refine z_iconst (v := nI 2) 523 C dL_law_523 rfl ?_
  refine z_iadd (v := nI ((5 * t) + 2)) 524 C dL_law_524 (nI_add (5 * t) 2) ?_
  refine z_sld 525 C hX hbl hbA (show (5 * t) + 2 < L by omega) hL hp1 dL_law_525 ?_
  refine z_aload_n 526 C dL_law_526 rfl 2 rfl ?_
  refine z_iload 527 C dL_law_527 1 rfl ?_
  refine z_iconst (v := nI 3) 529 C dL_law_529 rfl ?_
  refine z_iadd (v := nI ((5 * t) + 3)) 530 C dL_law_530 (nI_add (5 * t) 3) ?_
  refine z_sld 531 C hX hbl hbA (show (5 * t) + 3 < L by omega) hL hp2 dL_law_531 ?_
  refine z_callVi 532 C (As := [.int p0, .int p1, .int p2]) 3 kO_model rfl (c_X6_countOfRange l C.2.2.1 y S hM1 p0 p1 p2) (cwV 3 C.1.2.2.2.2 gL_law_X6_countOfRange rfl rfl rfl (by decide +kernel) ⟨Nat.le_of_ble_eq_true rfl, Nat.le_of_ble_eq_true rfl⟩) rfl rfl (Nat.le_of_ble_eq_true rfl) ⟨by show cells + 4 + 0 ≤ 601024; omega, by show slots + 24 + 0 ≤ 7293034; omega⟩ dL_law_532 (fun r2 z hz => ?_)
  obtain ⟨⟨hth, hMz, hOz⟩, hvz⟩ := hz
  rw [hkk] at hth hvz
  have hAz := zAll_eq hOz hXA
  refine z_widen (k := cells + 4) (n := slots + 24) (Nat.le_refl _) (Nat.le_refl _) ?_
  refine z_istore (lv' := [(7, .int r2), (6, .int (nI kk)), (5, .int (nI (5 * t))), (0, .ref b), (1, .ref (zad g 0)), (2, .ref (zad g 2)), (3, .ref (zad g 11)), (4, .ref (zad g 12))]) 535 C dL_law_535 (by decide) rfl ?_
  refine z_aload_n 537 C dL_law_537 rfl 5 rfl ?_
  refine z_callVi 538 C (As := []) 0 kO_model rfl (c_X6_thrown l C.2.2.1 z) (cwV 0 C.1.2.2.2.2 gL_law_X6_thrown rfl rfl rfl (by decide +kernel) ⟨Nat.le_of_ble_eq_true rfl, Nat.le_of_ble_eq_true rfl⟩) rfl rfl (Nat.le_of_ble_eq_true rfl) ⟨by show cells + 4 + 0 ≤ 601024; omega, by show slots + 24 + 0 ≤ 7293034; omega⟩ dL_law_538 (fun r3 w hw => ?_)
  obtain ⟨hw1, hw2⟩ := hw
  subst w
  rw [hth] at hw2
  subst r3
  refine z_widen (k := cells + 4) (n := slots + 24) (Nat.le_refl _) (Nat.le_refl _) ?_
  refine z_iload 541 C dL_law_541 1 rfl ?_
  refine z_icmp_eqN 543 C 548 dL_law_543 (by decide) (by omega) (by omega) (fun h543 => ?_) (fun h543 => absurd rfl h543)
  refine z_iload 548 C dL_law_548 1 rfl ?_
  refine z_if_neN 550 C 565 dL_law_550 (by decide) (by omega) (fun h550 => ?_) (fun h550 => ?_)
  · refine z_goto 565 C 1927 dL_law_565 (by decide) ?_
    refine z_lv (lv' := [(5, .int (nI (5 * t))), (0, .ref b), (1, .ref (zad g 0)), (2, .ref (zad g 2)), (3, .ref (zad g 11)), (4, .ref (zad g 12))]) [2, 3, 4, 5, 6, 7] rfl ?_
    exact hcont z S hAz hMz hG
  · refine z_aload_n 553 C dL_law_553 rfl 6 rfl ?_
    refine z_iconst (v := nI 0) 554 C dL_law_554 rfl ?_
    refine z_lald (v := (z.2.1 11) 0) 555 C kL_11 (by omega) rfl dL_law_555 ?_
    refine z_iload 556 C dL_law_556 0 rfl ?_
    refine z_i2l (v := r2.toInt64) 558 C dL_law_558 rfl ?_
    refine z_lcmp (v := lg_cmp ((z.2.1 11) 0) r2.toInt64) 559 C dL_law_559 rfl ?_
    refine z_if_eq 560 C 565 dL_law_560 (by decide) (fun h560 => ?_) (fun h560 => absurd (show lg_cmp (z.2.1 11 0) (r2.toInt64) = 0 by rw [(hOz.1 11 (by omega)).2, hv0 h550, hvz h550]; exact lgc_self _) h560)
    refine z_goto 565 C 1927 dL_law_565 (by decide) ?_
    refine z_lv (lv' := [(5, .int (nI (5 * t))), (0, .ref b), (1, .ref (zad g 0)), (2, .ref (zad g 2)), (3, .ref (zad g 11)), (4, .ref (zad g 12))]) [2, 3, 4, 5, 6, 7] rfl ?_
    exact hcont z S hAz hMz hG
set_option maxHeartbeats 4000000 in
set_option maxRecDepth 100000 in
/-- product -/
theorem law_product {p : Program} {e : Env} {s : State} {m : MethodId} {below : List Frame} {meth : Method} {c : Code} (l : Launch) (hls : l.stackTraces = false) {b L : Nat} {xs : Nat → Int32} (hL : L ≤ 2560) {g : zG} (C : zC p s m #[Value.ref b] meth c g cL_law 9 RL wsL_law) (hX : va_X b L xs s s.heap) (hbl : b < s.heap.size) (hbA : ¬ zA g b) {t cells slots : Nat} {Q : State → Prop} {x : zT} {S : zS} (ht : 5 * t + 5 ≤ L) (hcs : cells + 4 ≤ 601024 ∧ slots + 24 ≤ 7293034) (hA : zAll x S) (hM : zMA x S) (hG : zGood S) (hcont : ∀ (y : zT) (S' : zS), zAll y S' → zMA y S' → zGood S' → Z p l e room_1 s m #[Value.ref b] below meth c g 9 (cells + 4) (slots + 24) Q y 1927 [(5, .int (nI (5 * t))), (0, .ref b), (1, .ref (zad g 0)), (2, .ref (zad g 2)), (3, .ref (zad g 11)), (4, .ref (zad g 12))] []) : Z p l e room_1 s m #[Value.ref b] below meth c g 9 cells slots Q x 568 [(5, .int (nI (5 * t))), (0, .ref b), (1, .ref (zad g 0)), (2, .ref (zad g 2)), (3, .ref (zad g 11)), (4, .ref (zad g 12))] [] := by
  obtain ⟨p0, hp0⟩ : ∃ v : Int32, xs ((5 * t) + 1) = v := ⟨_, rfl⟩
  obtain ⟨p1, hp1⟩ : ∃ v : Int32, xs ((5 * t) + 2) = v := ⟨_, rfl⟩
  refine z_aload_n 568 C dL_law_568 rfl 2 rfl ?_
  refine z_aload_n 569 C dL_law_569 rfl 1 rfl ?_
  refine z_iload 570 C dL_law_570 0 rfl ?_
  refine z_iconst (v := nI 1) 572 C dL_law_572 rfl ?_
  refine z_iadd (v := nI ((5 * t) + 1)) 573 C dL_law_573 (nI_add (5 * t) 1) ?_
  refine z_sld 574 C hX hbl hbA (show (5 * t) + 1 < L by omega) hL hp0 dL_law_574 ?_
  refine z_aload_n 575 C dL_law_575 rfl 1 rfl ?_
  refine z_iload 576 C dL_law_576 0 rfl ?_
  refine z_iconst (v := nI 2) 578 C dL_law_578 rfl ?_
  refine z_iadd (v := nI ((5 * t) + 2)) 579 C dL_law_579 (nI_add (5 * t) 2) ?_
  refine z_sld 580 C hX hbl hbA (show (5 * t) + 2 < L by omega) hL hp1 dL_law_580 ?_
  refine z_aload_n 581 C dL_law_581 rfl 4 rfl ?_
  refine z_callSWi 582 C (As := [.ref (zad g 0), .int p0, .int p1, .ref (zad g 11)]) 4 (c_L_product l C.2.2.1 x hls S hA p0 p1) (vx_cwSW 4 C.1.2.2.2.2 gL_law_L_product rfl rfl rfl (by decide +kernel) ⟨Nat.le_of_ble_eq_true rfl, Nat.le_of_ble_eq_true rfl⟩) rfl rfl (Nat.le_of_ble_eq_true rfl) ⟨by show cells + 2 ≤ 601024; omega, by show slots + 12 ≤ 7293034; omega⟩ dL_law_582 (fun r y hu => ?_)
  obtain ⟨hr0, hv0, hXA, hXF⟩ : r = nI (zk1 (zinb p0 4 && zinb p1 4)) ∧ _ ∧ zAll y S ∧ _ := ⟨hu.1, hu.2.1, hu.2.2.1, hu.2.2.2⟩
  obtain ⟨kk, hkk⟩ : ∃ q : Nat, (zk1 (zinb p0 4 && zinb p1 4)) = q := ⟨_, rfl⟩
  have hkb : kk ≤ 3 := by rw [← hkk]; exact zk1_le _ 
  rw [hkk] at hr0 hv0
  subst hr0
  refine z_widen (k := cells + 4) (n := slots + 24) (by omega) (by omega) ?_
  have hM1 := zMA_eq hXF hM
  refine z_istore (lv' := [(6, .int (nI kk)), (5, .int (nI (5 * t))), (0, .ref b), (1, .ref (zad g 0)), (2, .ref (zad g 2)), (3, .ref (zad g 11)), (4, .ref (zad g 12))]) 585 C dL_law_585 (by decide) rfl ?_
  refine z_aload_n 587 C dL_law_587 rfl 4 rfl ?_
  refine z_aload_n 588 C dL_law_588 rfl 2 rfl ?_
  refine z_iload 589 C dL_law_589 1 rfl ?_
  refine z_iconst (v := nI 1) 591 C dL_law_591 rfl ?_
  refine z_iadd (v := nI ((5 * t) + 1)) 592 C dL_law_592 (nI_add (5 * t) 1) ?_
  refine z_sld 593 C hX hbl hbA (show (5 * t) + 1 < L by omega) hL hp0 dL_law_593 ?_
  refine z_aload_n 594 C dL_law_594 rfl 2 rfl ?_
  refine z_iload 595 C dL_law_595 1 rfl ?_
  refine z_iconst (v := nI 2) 597 C dL_law_597 rfl ?_
  refine z_iadd (v := nI ((5 * t) + 2)) 598 C dL_law_598 (nI_add (5 * t) 2) ?_
  refine z_sld 599 C hX hbl hbA (show (5 * t) + 2 < L by omega) hL hp1 dL_law_599 ?_
  refine z_callVl 600 C (As := [.int p0, .int p1]) 2 kO_model rfl (c_X6_product l C.2.2.1 y S hM1 p0 p1) (cwV 2 C.1.2.2.2.2 gL_law_X6_product rfl rfl rfl (by decide +kernel) ⟨Nat.le_of_ble_eq_true rfl, Nat.le_of_ble_eq_true rfl⟩) rfl rfl (Nat.le_of_ble_eq_true rfl) ⟨by show cells + 4 + 0 ≤ 601024; omega, by show slots + 24 + 0 ≤ 7293034; omega⟩ dL_law_600 (fun r2 z hz => ?_)
  obtain ⟨⟨hth, hMz, hOz⟩, hvz⟩ := hz
  rw [hkk] at hth hvz
  have hAz := zAll_eq hOz hXA
  refine z_widen (k := cells + 4) (n := slots + 24) (Nat.le_refl _) (Nat.le_refl _) ?_
  refine z_lstore (lv' := [(7, .long r2), (6, .int (nI kk)), (5, .int (nI (5 * t))), (0, .ref b), (1, .ref (zad g 0)), (2, .ref (zad g 2)), (3, .ref (zad g 11)), (4, .ref (zad g 12))]) 603 C dL_law_603 (by decide) rfl ?_
  refine z_aload_n 605 C dL_law_605 rfl 5 rfl ?_
  refine z_callVi 606 C (As := []) 0 kO_model rfl (c_X6_thrown l C.2.2.1 z) (cwV 0 C.1.2.2.2.2 gL_law_X6_thrown rfl rfl rfl (by decide +kernel) ⟨Nat.le_of_ble_eq_true rfl, Nat.le_of_ble_eq_true rfl⟩) rfl rfl (Nat.le_of_ble_eq_true rfl) ⟨by show cells + 4 + 0 ≤ 601024; omega, by show slots + 24 + 0 ≤ 7293034; omega⟩ dL_law_606 (fun r3 w hw => ?_)
  obtain ⟨hw1, hw2⟩ := hw
  subst w
  rw [hth] at hw2
  subst r3
  refine z_widen (k := cells + 4) (n := slots + 24) (Nat.le_refl _) (Nat.le_refl _) ?_
  refine z_iload 609 C dL_law_609 1 rfl ?_
  refine z_icmp_eqN 611 C 616 dL_law_611 (by decide) (by omega) (by omega) (fun h611 => ?_) (fun h611 => absurd rfl h611)
  refine z_iload 616 C dL_law_616 1 rfl ?_
  refine z_if_neN 618 C 632 dL_law_618 (by decide) (by omega) (fun h618 => ?_) (fun h618 => ?_)
  · refine z_goto 632 C 1927 dL_law_632 (by decide) ?_
    refine z_lv (lv' := [(5, .int (nI (5 * t))), (0, .ref b), (1, .ref (zad g 0)), (2, .ref (zad g 2)), (3, .ref (zad g 11)), (4, .ref (zad g 12))]) [2, 3, 4, 5, 6, 7] rfl ?_
    exact hcont z S hAz hMz hG
  · refine z_aload_n 621 C dL_law_621 rfl 6 rfl ?_
    refine z_iconst (v := nI 0) 622 C dL_law_622 rfl ?_
    refine z_lald (v := (z.2.1 11) 0) 623 C kL_11 (by omega) rfl dL_law_623 ?_
    refine z_lload 624 C dL_law_624 0 rfl ?_
    refine z_lcmp (v := lg_cmp ((z.2.1 11) 0) r2) 626 C dL_law_626 rfl ?_
    refine z_if_eq 627 C 632 dL_law_627 (by decide) (fun h627 => ?_) (fun h627 => absurd (show lg_cmp (z.2.1 11 0) (r2) = 0 by rw [(hOz.1 11 (by omega)).2, hv0 h618, hvz h618]; exact lgc_self _) h627)
    refine z_goto 632 C 1927 dL_law_632 (by decide) ?_
    refine z_lv (lv' := [(5, .int (nI (5 * t))), (0, .ref b), (1, .ref (zad g 0)), (2, .ref (zad g 2)), (3, .ref (zad g 11)), (4, .ref (zad g 12))]) [2, 3, 4, 5, 6, 7] rfl ?_
    exact hcont z S hAz hMz hG
set_option maxHeartbeats 4000000 in
set_option maxRecDepth 100000 in
/-- column -/
theorem law_column {p : Program} {e : Env} {s : State} {m : MethodId} {below : List Frame} {meth : Method} {c : Code} (l : Launch) (hls : l.stackTraces = false) {b L : Nat} {xs : Nat → Int32} (hL : L ≤ 2560) {g : zG} (C : zC p s m #[Value.ref b] meth c g cL_law 9 RL wsL_law) (hX : va_X b L xs s s.heap) (hbl : b < s.heap.size) (hbA : ¬ zA g b) {t cells slots : Nat} {Q : State → Prop} {x : zT} {S : zS} (ht : 5 * t + 5 ≤ L) (hcs : cells + 4 ≤ 601024 ∧ slots + 24 ≤ 7293034) (hA : zAll x S) (hM : zMA x S) (hG : zGood S) (hcont : ∀ (y : zT) (S' : zS), zAll y S' → zMA y S' → zGood S' → Z p l e room_1 s m #[Value.ref b] below meth c g 9 (cells + 4) (slots + 24) Q y 1927 [(5, .int (nI (5 * t))), (0, .ref b), (1, .ref (zad g 0)), (2, .ref (zad g 2)), (3, .ref (zad g 11)), (4, .ref (zad g 12))] []) : Z p l e room_1 s m #[Value.ref b] below meth c g 9 cells slots Q x 635 [(5, .int (nI (5 * t))), (0, .ref b), (1, .ref (zad g 0)), (2, .ref (zad g 2)), (3, .ref (zad g 11)), (4, .ref (zad g 12))] [] := by
  obtain ⟨p0, hp0⟩ : ∃ v : Int32, xs ((5 * t) + 1) = v := ⟨_, rfl⟩
  obtain ⟨p1, hp1⟩ : ∃ v : Int32, xs ((5 * t) + 2) = v := ⟨_, rfl⟩
  refine z_aload_n 635 C dL_law_635 rfl 2 rfl ?_
  refine z_aload_n 636 C dL_law_636 rfl 1 rfl ?_
  refine z_iload 637 C dL_law_637 0 rfl ?_
  refine z_iconst (v := nI 1) 639 C dL_law_639 rfl ?_
  refine z_iadd (v := nI ((5 * t) + 1)) 640 C dL_law_640 (nI_add (5 * t) 1) ?_
  refine z_sld 641 C hX hbl hbA (show (5 * t) + 1 < L by omega) hL hp0 dL_law_641 ?_
  refine z_aload_n 642 C dL_law_642 rfl 1 rfl ?_
  refine z_iload 643 C dL_law_643 0 rfl ?_
  refine z_iconst (v := nI 2) 645 C dL_law_645 rfl ?_
  refine z_iadd (v := nI ((5 * t) + 2)) 646 C dL_law_646 (nI_add (5 * t) 2) ?_
  refine z_sld 647 C hX hbl hbA (show (5 * t) + 2 < L by omega) hL hp1 dL_law_647 ?_
  refine z_aload_n 648 C dL_law_648 rfl 4 rfl ?_
  refine z_callSWi 649 C (As := [.ref (zad g 0), .int p0, .int p1, .ref (zad g 11)]) 4 (c_L_column l C.2.2.1 x hls S hA p0 p1) (vx_cwSW 4 C.1.2.2.2.2 gL_law_L_column rfl rfl rfl (by decide +kernel) ⟨Nat.le_of_ble_eq_true rfl, Nat.le_of_ble_eq_true rfl⟩) rfl rfl (Nat.le_of_ble_eq_true rfl) ⟨by show cells + 2 ≤ 601024; omega, by show slots + 12 ≤ 7293034; omega⟩ dL_law_649 (fun r y hu => ?_)
  obtain ⟨hr0, hv0, hXA, hXF⟩ : r = nI (zk1 (zinb p0 3 && zinb p1 64)) ∧ _ ∧ zAll y S ∧ _ := ⟨hu.1, hu.2.1, hu.2.2.1, hu.2.2.2⟩
  obtain ⟨kk, hkk⟩ : ∃ q : Nat, (zk1 (zinb p0 3 && zinb p1 64)) = q := ⟨_, rfl⟩
  have hkb : kk ≤ 3 := by rw [← hkk]; exact zk1_le _ 
  rw [hkk] at hr0 hv0
  subst hr0
  refine z_widen (k := cells + 4) (n := slots + 24) (by omega) (by omega) ?_
  have hM1 := zMA_eq hXF hM
  refine z_istore (lv' := [(6, .int (nI kk)), (5, .int (nI (5 * t))), (0, .ref b), (1, .ref (zad g 0)), (2, .ref (zad g 2)), (3, .ref (zad g 11)), (4, .ref (zad g 12))]) 652 C dL_law_652 (by decide) rfl ?_
  refine z_aload_n 654 C dL_law_654 rfl 4 rfl ?_
  refine z_aload_n 655 C dL_law_655 rfl 2 rfl ?_
  refine z_iload 656 C dL_law_656 1 rfl ?_
  refine z_iconst (v := nI 1) 658 C dL_law_658 rfl ?_
  refine z_iadd (v := nI ((5 * t) + 1)) 659 C dL_law_659 (nI_add (5 * t) 1) ?_
  refine z_sld 660 C hX hbl hbA (show (5 * t) + 1 < L by omega) hL hp0 dL_law_660 ?_
  refine z_aload_n 661 C dL_law_661 rfl 2 rfl ?_
  refine z_iload 662 C dL_law_662 1 rfl ?_
  refine z_iconst (v := nI 2) 664 C dL_law_664 rfl ?_
  refine z_iadd (v := nI ((5 * t) + 2)) 665 C dL_law_665 (nI_add (5 * t) 2) ?_
  refine z_sld 666 C hX hbl hbA (show (5 * t) + 2 < L by omega) hL hp1 dL_law_666 ?_
  refine z_callVi 667 C (As := [.int p0, .int p1]) 2 kO_model rfl (c_X6_column l C.2.2.1 y S hM1 p0 p1) (cwV 2 C.1.2.2.2.2 gL_law_X6_column rfl rfl rfl (by decide +kernel) ⟨Nat.le_of_ble_eq_true rfl, Nat.le_of_ble_eq_true rfl⟩) rfl rfl (Nat.le_of_ble_eq_true rfl) ⟨by show cells + 4 + 0 ≤ 601024; omega, by show slots + 24 + 0 ≤ 7293034; omega⟩ dL_law_667 (fun r2 z hz => ?_)
  obtain ⟨⟨hth, hMz, hOz⟩, hvz⟩ := hz
  rw [hkk] at hth hvz
  have hAz := zAll_eq hOz hXA
  refine z_widen (k := cells + 4) (n := slots + 24) (Nat.le_refl _) (Nat.le_refl _) ?_
  refine z_istore (lv' := [(7, .int r2), (6, .int (nI kk)), (5, .int (nI (5 * t))), (0, .ref b), (1, .ref (zad g 0)), (2, .ref (zad g 2)), (3, .ref (zad g 11)), (4, .ref (zad g 12))]) 670 C dL_law_670 (by decide) rfl ?_
  refine z_aload_n 672 C dL_law_672 rfl 5 rfl ?_
  refine z_callVi 673 C (As := []) 0 kO_model rfl (c_X6_thrown l C.2.2.1 z) (cwV 0 C.1.2.2.2.2 gL_law_X6_thrown rfl rfl rfl (by decide +kernel) ⟨Nat.le_of_ble_eq_true rfl, Nat.le_of_ble_eq_true rfl⟩) rfl rfl (Nat.le_of_ble_eq_true rfl) ⟨by show cells + 4 + 0 ≤ 601024; omega, by show slots + 24 + 0 ≤ 7293034; omega⟩ dL_law_673 (fun r3 w hw => ?_)
  obtain ⟨hw1, hw2⟩ := hw
  subst w
  rw [hth] at hw2
  subst r3
  refine z_widen (k := cells + 4) (n := slots + 24) (Nat.le_refl _) (Nat.le_refl _) ?_
  refine z_iload 676 C dL_law_676 1 rfl ?_
  refine z_icmp_eqN 678 C 683 dL_law_678 (by decide) (by omega) (by omega) (fun h678 => ?_) (fun h678 => absurd rfl h678)
  refine z_iload 683 C dL_law_683 1 rfl ?_
  refine z_if_neN 685 C 700 dL_law_685 (by decide) (by omega) (fun h685 => ?_) (fun h685 => ?_)
  · refine z_goto 700 C 1927 dL_law_700 (by decide) ?_
    refine z_lv (lv' := [(5, .int (nI (5 * t))), (0, .ref b), (1, .ref (zad g 0)), (2, .ref (zad g 2)), (3, .ref (zad g 11)), (4, .ref (zad g 12))]) [2, 3, 4, 5, 6, 7] rfl ?_
    exact hcont z S hAz hMz hG
  · refine z_aload_n 688 C dL_law_688 rfl 6 rfl ?_
    refine z_iconst (v := nI 0) 689 C dL_law_689 rfl ?_
    refine z_lald (v := (z.2.1 11) 0) 690 C kL_11 (by omega) rfl dL_law_690 ?_
    refine z_iload 691 C dL_law_691 0 rfl ?_
    refine z_i2l (v := r2.toInt64) 693 C dL_law_693 rfl ?_
    refine z_lcmp (v := lg_cmp ((z.2.1 11) 0) r2.toInt64) 694 C dL_law_694 rfl ?_
    refine z_if_eq 695 C 700 dL_law_695 (by decide) (fun h695 => ?_) (fun h695 => absurd (show lg_cmp (z.2.1 11 0) (r2.toInt64) = 0 by rw [(hOz.1 11 (by omega)).2, hv0 h685, hvz h685]; exact lgc_self _) h695)
    refine z_goto 700 C 1927 dL_law_700 (by decide) ?_
    refine z_lv (lv' := [(5, .int (nI (5 * t))), (0, .ref b), (1, .ref (zad g 0)), (2, .ref (zad g 2)), (3, .ref (zad g 11)), (4, .ref (zad g 12))]) [2, 3, 4, 5, 6, 7] rfl ?_
    exact hcont z S hAz hMz hG
set_option maxHeartbeats 4000000 in
set_option maxRecDepth 100000 in
/-- cell -/
theorem law_cell {p : Program} {e : Env} {s : State} {m : MethodId} {below : List Frame} {meth : Method} {c : Code} (l : Launch) (hls : l.stackTraces = false) {b L : Nat} {xs : Nat → Int32} (hL : L ≤ 2560) {g : zG} (C : zC p s m #[Value.ref b] meth c g cL_law 9 RL wsL_law) (hX : va_X b L xs s s.heap) (hbl : b < s.heap.size) (hbA : ¬ zA g b) {t cells slots : Nat} {Q : State → Prop} {x : zT} {S : zS} (ht : 5 * t + 5 ≤ L) (hcs : cells + 4 ≤ 601024 ∧ slots + 24 ≤ 7293034) (hA : zAll x S) (hM : zMA x S) (hG : zGood S) (hcont : ∀ (y : zT) (S' : zS), zAll y S' → zMA y S' → zGood S' → Z p l e room_1 s m #[Value.ref b] below meth c g 9 (cells + 4) (slots + 24) Q y 1927 [(5, .int (nI (5 * t))), (0, .ref b), (1, .ref (zad g 0)), (2, .ref (zad g 2)), (3, .ref (zad g 11)), (4, .ref (zad g 12))] []) : Z p l e room_1 s m #[Value.ref b] below meth c g 9 cells slots Q x 703 [(5, .int (nI (5 * t))), (0, .ref b), (1, .ref (zad g 0)), (2, .ref (zad g 2)), (3, .ref (zad g 11)), (4, .ref (zad g 12))] [] := by
  obtain ⟨p0, hp0⟩ : ∃ v : Int32, xs ((5 * t) + 1) = v := ⟨_, rfl⟩
  obtain ⟨p1, hp1⟩ : ∃ v : Int32, xs ((5 * t) + 2) = v := ⟨_, rfl⟩
  obtain ⟨p2, hp2⟩ : ∃ v : Int32, xs ((5 * t) + 3) = v := ⟨_, rfl⟩
  obtain ⟨p3, hp3⟩ : ∃ v : Int32, xs ((5 * t) + 4) = v := ⟨_, rfl⟩
  refine z_aload_n 703 C dL_law_703 rfl 2 rfl ?_
  refine z_aload_n 704 C dL_law_704 rfl 1 rfl ?_
  refine z_iload 705 C dL_law_705 0 rfl ?_
  refine z_iconst (v := nI 1) 707 C dL_law_707 rfl ?_
  refine z_iadd (v := nI ((5 * t) + 1)) 708 C dL_law_708 (nI_add (5 * t) 1) ?_
  refine z_sld 709 C hX hbl hbA (show (5 * t) + 1 < L by omega) hL hp0 dL_law_709 ?_
  refine z_aload_n 710 C dL_law_710 rfl 1 rfl ?_
  refine z_iload 711 C dL_law_711 0 rfl ?_
  refine z_iconst (v := nI 2) 713 C dL_law_713 rfl ?_
  refine z_iadd (v := nI ((5 * t) + 2)) 714 C dL_law_714 (nI_add (5 * t) 2) ?_
  refine z_sld 715 C hX hbl hbA (show (5 * t) + 2 < L by omega) hL hp1 dL_law_715 ?_
  refine z_aload_n 716 C dL_law_716 rfl 1 rfl ?_
  refine z_iload 717 C dL_law_717 0 rfl ?_
  refine z_iconst (v := nI 3) 719 C dL_law_719 rfl ?_
  refine z_iadd (v := nI ((5 * t) + 3)) 720 C dL_law_720 (nI_add (5 * t) 3) ?_
  refine z_sld 721 C hX hbl hbA (show (5 * t) + 3 < L by omega) hL hp2 dL_law_721 ?_
  refine z_aload_n 722 C dL_law_722 rfl 1 rfl ?_
  refine z_iload 723 C dL_law_723 0 rfl ?_
  refine z_iconst (v := nI 4) 725 C dL_law_725 rfl ?_
  refine z_iadd (v := nI ((5 * t) + 4)) 726 C dL_law_726 (nI_add (5 * t) 4) ?_
  refine z_sld 727 C hX hbl hbA (show (5 * t) + 4 < L by omega) hL hp3 dL_law_727 ?_
  refine z_aload_n 728 C dL_law_728 rfl 4 rfl ?_
  refine z_callSWi 729 C (As := [.ref (zad g 0), .int p0, .int p1, .int p2, .int p3, .ref (zad g 11)]) 6 (c_L_cell l C.2.2.1 x hls S hA p0 p1 p2 p3) (vx_cwSW 6 C.1.2.2.2.2 gL_law_L_cell rfl rfl rfl (by decide +kernel) ⟨Nat.le_of_ble_eq_true rfl, Nat.le_of_ble_eq_true rfl⟩) rfl rfl (Nat.le_of_ble_eq_true rfl) ⟨by show cells + 4 ≤ 601024; omega, by show slots + 24 ≤ 7293034; omega⟩ dL_law_729 (fun r y hu => ?_)
  obtain ⟨hr0, hv0, hXA, hXF⟩ : r = nI (zk1 (zinb p0 4 && (zinb p1 3 && (zinb p2 3 && zinb p3 8)))) ∧ _ ∧ zAll y S ∧ _ := ⟨hu.1, hu.2.1, hu.2.2.1, hu.2.2.2⟩
  obtain ⟨kk, hkk⟩ : ∃ q : Nat, (zk1 (zinb p0 4 && (zinb p1 3 && (zinb p2 3 && zinb p3 8)))) = q := ⟨_, rfl⟩
  have hkb : kk ≤ 3 := by rw [← hkk]; exact zk1_le _ 
  rw [hkk] at hr0 hv0
  subst hr0
  refine z_widen (k := cells + 4) (n := slots + 24) (by omega) (by omega) ?_
  have hM1 := zMA_eq hXF hM
  refine z_istore (lv' := [(6, .int (nI kk)), (5, .int (nI (5 * t))), (0, .ref b), (1, .ref (zad g 0)), (2, .ref (zad g 2)), (3, .ref (zad g 11)), (4, .ref (zad g 12))]) 732 C dL_law_732 (by decide) rfl ?_
  refine z_aload_n 734 C dL_law_734 rfl 4 rfl ?_
  refine z_aload_n 735 C dL_law_735 rfl 2 rfl ?_
  refine z_iload 736 C dL_law_736 1 rfl ?_
  refine z_iconst (v := nI 1) 738 C dL_law_738 rfl ?_
  refine z_iadd (v := nI ((5 * t) + 1)) 739 C dL_law_739 (nI_add (5 * t) 1) ?_
  refine z_sld 740 C hX hbl hbA (show (5 * t) + 1 < L by omega) hL hp0 dL_law_740 ?_
  refine z_aload_n 741 C dL_law_741 rfl 2 rfl ?_
  refine z_iload 742 C dL_law_742 1 rfl ?_
  refine z_iconst (v := nI 2) 744 C dL_law_744 rfl ?_
  refine z_iadd (v := nI ((5 * t) + 2)) 745 C dL_law_745 (nI_add (5 * t) 2) ?_
  refine z_sld 746 C hX hbl hbA (show (5 * t) + 2 < L by omega) hL hp1 dL_law_746 ?_
  refine z_aload_n 747 C dL_law_747 rfl 2 rfl ?_
  refine z_iload 748 C dL_law_748 1 rfl ?_
  refine z_iconst (v := nI 3) 750 C dL_law_750 rfl ?_
  refine z_iadd (v := nI ((5 * t) + 3)) 751 C dL_law_751 (nI_add (5 * t) 3) ?_
  refine z_sld 752 C hX hbl hbA (show (5 * t) + 3 < L by omega) hL hp2 dL_law_752 ?_
  refine z_aload_n 753 C dL_law_753 rfl 2 rfl ?_
  refine z_iload 754 C dL_law_754 1 rfl ?_
  refine z_iconst (v := nI 4) 756 C dL_law_756 rfl ?_
  refine z_iadd (v := nI ((5 * t) + 4)) 757 C dL_law_757 (nI_add (5 * t) 4) ?_
  refine z_sld 758 C hX hbl hbA (show (5 * t) + 4 < L by omega) hL hp3 dL_law_758 ?_
  refine z_callVi 759 C (As := [.int p0, .int p1, .int p2, .int p3]) 4 kO_model rfl (c_X6_cell l C.2.2.1 y S hM1 p0 p1 p2 p3) (cwV 4 C.1.2.2.2.2 gL_law_X6_cell rfl rfl rfl (by decide +kernel) ⟨Nat.le_of_ble_eq_true rfl, Nat.le_of_ble_eq_true rfl⟩) rfl rfl (Nat.le_of_ble_eq_true rfl) ⟨by show cells + 4 + 0 ≤ 601024; omega, by show slots + 24 + 0 ≤ 7293034; omega⟩ dL_law_759 (fun r2 z hz => ?_)
  obtain ⟨⟨hth, hMz, hOz⟩, hvz⟩ := hz
  rw [hkk] at hth hvz
  have hAz := zAll_eq hOz hXA
  refine z_widen (k := cells + 4) (n := slots + 24) (Nat.le_refl _) (Nat.le_refl _) ?_
  refine z_istore (lv' := [(7, .int r2), (6, .int (nI kk)), (5, .int (nI (5 * t))), (0, .ref b), (1, .ref (zad g 0)), (2, .ref (zad g 2)), (3, .ref (zad g 11)), (4, .ref (zad g 12))]) 762 C dL_law_762 (by decide) rfl ?_
  refine z_aload_n 764 C dL_law_764 rfl 5 rfl ?_
  refine z_callVi 765 C (As := []) 0 kO_model rfl (c_X6_thrown l C.2.2.1 z) (cwV 0 C.1.2.2.2.2 gL_law_X6_thrown rfl rfl rfl (by decide +kernel) ⟨Nat.le_of_ble_eq_true rfl, Nat.le_of_ble_eq_true rfl⟩) rfl rfl (Nat.le_of_ble_eq_true rfl) ⟨by show cells + 4 + 0 ≤ 601024; omega, by show slots + 24 + 0 ≤ 7293034; omega⟩ dL_law_765 (fun r3 w hw => ?_)
  obtain ⟨hw1, hw2⟩ := hw
  subst w
  rw [hth] at hw2
  subst r3
  refine z_widen (k := cells + 4) (n := slots + 24) (Nat.le_refl _) (Nat.le_refl _) ?_
  refine z_iload 768 C dL_law_768 1 rfl ?_
  refine z_icmp_eqN 770 C 775 dL_law_770 (by decide) (by omega) (by omega) (fun h770 => ?_) (fun h770 => absurd rfl h770)
  refine z_iload 775 C dL_law_775 1 rfl ?_
  refine z_if_neN 777 C 792 dL_law_777 (by decide) (by omega) (fun h777 => ?_) (fun h777 => ?_)
  · refine z_goto 792 C 1927 dL_law_792 (by decide) ?_
    refine z_lv (lv' := [(5, .int (nI (5 * t))), (0, .ref b), (1, .ref (zad g 0)), (2, .ref (zad g 2)), (3, .ref (zad g 11)), (4, .ref (zad g 12))]) [2, 3, 4, 5, 6, 7] rfl ?_
    exact hcont z S hAz hMz hG
  · refine z_aload_n 780 C dL_law_780 rfl 6 rfl ?_
    refine z_iconst (v := nI 0) 781 C dL_law_781 rfl ?_
    refine z_lald (v := (z.2.1 11) 0) 782 C kL_11 (by omega) rfl dL_law_782 ?_
    refine z_iload 783 C dL_law_783 0 rfl ?_
    refine z_i2l (v := r2.toInt64) 785 C dL_law_785 rfl ?_
    refine z_lcmp (v := lg_cmp ((z.2.1 11) 0) r2.toInt64) 786 C dL_law_786 rfl ?_
    refine z_if_eq 787 C 792 dL_law_787 (by decide) (fun h787 => ?_) (fun h787 => absurd (show lg_cmp (z.2.1 11 0) (r2.toInt64) = 0 by rw [(hOz.1 11 (by omega)).2, hv0 h777, hvz h777]; exact lgc_self _) h787)
    refine z_goto 792 C 1927 dL_law_792 (by decide) ?_
    refine z_lv (lv' := [(5, .int (nI (5 * t))), (0, .ref b), (1, .ref (zad g 0)), (2, .ref (zad g 2)), (3, .ref (zad g 11)), (4, .ref (zad g 12))]) [2, 3, 4, 5, 6, 7] rfl ?_
    exact hcont z S hAz hMz hG
set_option maxHeartbeats 4000000 in
set_option maxRecDepth 100000 in
/-- estimate -/
theorem law_estimate {p : Program} {e : Env} {s : State} {m : MethodId} {below : List Frame} {meth : Method} {c : Code} (l : Launch) (hls : l.stackTraces = false) {b L : Nat} {xs : Nat → Int32} (hL : L ≤ 2560) {g : zG} (C : zC p s m #[Value.ref b] meth c g cL_law 9 RL wsL_law) (hX : va_X b L xs s s.heap) (hbl : b < s.heap.size) (hbA : ¬ zA g b) {t cells slots : Nat} {Q : State → Prop} {x : zT} {S : zS} (ht : 5 * t + 5 ≤ L) (hcs : cells + 4 ≤ 601024 ∧ slots + 24 ≤ 7293034) (hA : zAll x S) (hM : zMA x S) (hG : zGood S) (hcont : ∀ (y : zT) (S' : zS), zAll y S' → zMA y S' → zGood S' → Z p l e room_1 s m #[Value.ref b] below meth c g 9 (cells + 4) (slots + 24) Q y 1927 [(5, .int (nI (5 * t))), (0, .ref b), (1, .ref (zad g 0)), (2, .ref (zad g 2)), (3, .ref (zad g 11)), (4, .ref (zad g 12))] []) : Z p l e room_1 s m #[Value.ref b] below meth c g 9 cells slots Q x 795 [(5, .int (nI (5 * t))), (0, .ref b), (1, .ref (zad g 0)), (2, .ref (zad g 2)), (3, .ref (zad g 11)), (4, .ref (zad g 12))] [] := by
  obtain ⟨p0, hp0⟩ : ∃ v : Int32, xs ((5 * t) + 1) = v := ⟨_, rfl⟩
  obtain ⟨p1, hp1⟩ : ∃ v : Int32, xs ((5 * t) + 2) = v := ⟨_, rfl⟩
  obtain ⟨p2, hp2⟩ : ∃ v : Int32, xs ((5 * t) + 3) = v := ⟨_, rfl⟩
  refine z_aload_n 795 C dL_law_795 rfl 2 rfl ?_
  refine z_aload_n 796 C dL_law_796 rfl 1 rfl ?_
  refine z_iload 797 C dL_law_797 0 rfl ?_
  refine z_iconst (v := nI 1) 799 C dL_law_799 rfl ?_
  refine z_iadd (v := nI ((5 * t) + 1)) 800 C dL_law_800 (nI_add (5 * t) 1) ?_
  refine z_sld 801 C hX hbl hbA (show (5 * t) + 1 < L by omega) hL hp0 dL_law_801 ?_
  refine z_aload_n 802 C dL_law_802 rfl 1 rfl ?_
  refine z_iload 803 C dL_law_803 0 rfl ?_
  refine z_iconst (v := nI 2) 805 C dL_law_805 rfl ?_
  refine z_iadd (v := nI ((5 * t) + 2)) 806 C dL_law_806 (nI_add (5 * t) 2) ?_
  refine z_sld 807 C hX hbl hbA (show (5 * t) + 2 < L by omega) hL hp1 dL_law_807 ?_
  refine z_aload_n 808 C dL_law_808 rfl 1 rfl ?_
  refine z_iload 809 C dL_law_809 0 rfl ?_
  refine z_iconst (v := nI 3) 811 C dL_law_811 rfl ?_
  refine z_iadd (v := nI ((5 * t) + 3)) 812 C dL_law_812 (nI_add (5 * t) 3) ?_
  refine z_sld 813 C hX hbl hbA (show (5 * t) + 3 < L by omega) hL hp2 dL_law_813 ?_
  refine z_aload_n 814 C dL_law_814 rfl 4 rfl ?_
  refine z_callSWi 815 C (As := [.ref (zad g 0), .int p0, .int p1, .int p2, .ref (zad g 11)]) 5 (c_L_estimate l C.2.2.1 x hls S hA p0 p1 p2) (vx_cwSW 5 C.1.2.2.2.2 gL_law_L_estimate rfl rfl rfl (by decide +kernel) ⟨Nat.le_of_ble_eq_true rfl, Nat.le_of_ble_eq_true rfl⟩) rfl rfl (Nat.le_of_ble_eq_true rfl) ⟨by show cells + 3 ≤ 601024; omega, by show slots + 18 ≤ 7293034; omega⟩ dL_law_815 (fun r y hu => ?_)
  obtain ⟨hr0, hv0, hXA, hXF⟩ : r = nI (zk1 (zinb p0 4 && (zinb p1 7 && zinb p2 (64 / 2 ^ p1.toNatClampNeg)))) ∧ _ ∧ zAll y S ∧ _ := ⟨hu.1, hu.2.1, hu.2.2.1, hu.2.2.2⟩
  obtain ⟨kk, hkk⟩ : ∃ q : Nat, (zk1 (zinb p0 4 && (zinb p1 7 && zinb p2 (64 / 2 ^ p1.toNatClampNeg)))) = q := ⟨_, rfl⟩
  have hkb : kk ≤ 3 := by rw [← hkk]; exact zk1_le _ 
  rw [hkk] at hr0 hv0
  subst hr0
  refine z_widen (k := cells + 4) (n := slots + 24) (by omega) (by omega) ?_
  have hM1 := zMA_eq hXF hM
  refine z_istore (lv' := [(6, .int (nI kk)), (5, .int (nI (5 * t))), (0, .ref b), (1, .ref (zad g 0)), (2, .ref (zad g 2)), (3, .ref (zad g 11)), (4, .ref (zad g 12))]) 818 C dL_law_818 (by decide) rfl ?_
  refine z_aload_n 820 C dL_law_820 rfl 4 rfl ?_
  refine z_aload_n 821 C dL_law_821 rfl 2 rfl ?_
  refine z_iload 822 C dL_law_822 1 rfl ?_
  refine z_iconst (v := nI 1) 824 C dL_law_824 rfl ?_
  refine z_iadd (v := nI ((5 * t) + 1)) 825 C dL_law_825 (nI_add (5 * t) 1) ?_
  refine z_sld 826 C hX hbl hbA (show (5 * t) + 1 < L by omega) hL hp0 dL_law_826 ?_
  refine z_aload_n 827 C dL_law_827 rfl 2 rfl ?_
  refine z_iload 828 C dL_law_828 1 rfl ?_
  refine z_iconst (v := nI 2) 830 C dL_law_830 rfl ?_
  refine z_iadd (v := nI ((5 * t) + 2)) 831 C dL_law_831 (nI_add (5 * t) 2) ?_
  refine z_sld 832 C hX hbl hbA (show (5 * t) + 2 < L by omega) hL hp1 dL_law_832 ?_
  refine z_aload_n 833 C dL_law_833 rfl 2 rfl ?_
  refine z_iload 834 C dL_law_834 1 rfl ?_
  refine z_iconst (v := nI 3) 836 C dL_law_836 rfl ?_
  refine z_iadd (v := nI ((5 * t) + 3)) 837 C dL_law_837 (nI_add (5 * t) 3) ?_
  refine z_sld 838 C hX hbl hbA (show (5 * t) + 3 < L by omega) hL hp2 dL_law_838 ?_
  refine z_callVi 839 C (As := [.int p0, .int p1, .int p2]) 3 kO_model rfl (c_X6_estimate l C.2.2.1 y S hM1 p0 p1 p2) (cwV 3 C.1.2.2.2.2 gL_law_X6_estimate rfl rfl rfl (by decide +kernel) ⟨Nat.le_of_ble_eq_true rfl, Nat.le_of_ble_eq_true rfl⟩) rfl rfl (Nat.le_of_ble_eq_true rfl) ⟨by show cells + 4 + 0 ≤ 601024; omega, by show slots + 24 + 0 ≤ 7293034; omega⟩ dL_law_839 (fun r2 z hz => ?_)
  obtain ⟨⟨hth, hMz, hOz⟩, hvz⟩ := hz
  rw [hkk] at hth hvz
  have hAz := zAll_eq hOz hXA
  refine z_widen (k := cells + 4) (n := slots + 24) (Nat.le_refl _) (Nat.le_refl _) ?_
  refine z_istore (lv' := [(7, .int r2), (6, .int (nI kk)), (5, .int (nI (5 * t))), (0, .ref b), (1, .ref (zad g 0)), (2, .ref (zad g 2)), (3, .ref (zad g 11)), (4, .ref (zad g 12))]) 842 C dL_law_842 (by decide) rfl ?_
  refine z_aload_n 844 C dL_law_844 rfl 5 rfl ?_
  refine z_callVi 845 C (As := []) 0 kO_model rfl (c_X6_thrown l C.2.2.1 z) (cwV 0 C.1.2.2.2.2 gL_law_X6_thrown rfl rfl rfl (by decide +kernel) ⟨Nat.le_of_ble_eq_true rfl, Nat.le_of_ble_eq_true rfl⟩) rfl rfl (Nat.le_of_ble_eq_true rfl) ⟨by show cells + 4 + 0 ≤ 601024; omega, by show slots + 24 + 0 ≤ 7293034; omega⟩ dL_law_845 (fun r3 w hw => ?_)
  obtain ⟨hw1, hw2⟩ := hw
  subst w
  rw [hth] at hw2
  subst r3
  refine z_widen (k := cells + 4) (n := slots + 24) (Nat.le_refl _) (Nat.le_refl _) ?_
  refine z_iload 848 C dL_law_848 1 rfl ?_
  refine z_icmp_eqN 850 C 855 dL_law_850 (by decide) (by omega) (by omega) (fun h850 => ?_) (fun h850 => absurd rfl h850)
  refine z_iload 855 C dL_law_855 1 rfl ?_
  refine z_if_neN 857 C 872 dL_law_857 (by decide) (by omega) (fun h857 => ?_) (fun h857 => ?_)
  · refine z_goto 872 C 1927 dL_law_872 (by decide) ?_
    refine z_lv (lv' := [(5, .int (nI (5 * t))), (0, .ref b), (1, .ref (zad g 0)), (2, .ref (zad g 2)), (3, .ref (zad g 11)), (4, .ref (zad g 12))]) [2, 3, 4, 5, 6, 7] rfl ?_
    exact hcont z S hAz hMz hG
  · refine z_aload_n 860 C dL_law_860 rfl 6 rfl ?_
    refine z_iconst (v := nI 0) 861 C dL_law_861 rfl ?_
    refine z_lald (v := (z.2.1 11) 0) 862 C kL_11 (by omega) rfl dL_law_862 ?_
    refine z_iload 863 C dL_law_863 0 rfl ?_
    refine z_i2l (v := r2.toInt64) 865 C dL_law_865 rfl ?_
    refine z_lcmp (v := lg_cmp ((z.2.1 11) 0) r2.toInt64) 866 C dL_law_866 rfl ?_
    refine z_if_eq 867 C 872 dL_law_867 (by decide) (fun h867 => ?_) (fun h867 => absurd (show lg_cmp (z.2.1 11 0) (r2.toInt64) = 0 by rw [(hOz.1 11 (by omega)).2, hv0 h857, hvz h857]; exact lgc_self _) h867)
    refine z_goto 872 C 1927 dL_law_872 (by decide) ?_
    refine z_lv (lv' := [(5, .int (nI (5 * t))), (0, .ref b), (1, .ref (zad g 0)), (2, .ref (zad g 2)), (3, .ref (zad g 11)), (4, .ref (zad g 12))]) [2, 3, 4, 5, 6, 7] rfl ?_
    exact hcont z S hAz hMz hG
set_option maxHeartbeats 4000000 in
set_option maxRecDepth 100000 in
/-- share -/
theorem law_share {p : Program} {e : Env} {s : State} {m : MethodId} {below : List Frame} {meth : Method} {c : Code} (l : Launch) (hls : l.stackTraces = false) {b L : Nat} {xs : Nat → Int32} (hL : L ≤ 2560) {g : zG} (C : zC p s m #[Value.ref b] meth c g cL_law 9 RL wsL_law) (hX : va_X b L xs s s.heap) (hbl : b < s.heap.size) (hbA : ¬ zA g b) {t cells slots : Nat} {Q : State → Prop} {x : zT} {S : zS} (ht : 5 * t + 5 ≤ L) (hcs : cells + 4 ≤ 601024 ∧ slots + 24 ≤ 7293034) (hA : zAll x S) (hM : zMA x S) (hG : zGood S) (hcont : ∀ (y : zT) (S' : zS), zAll y S' → zMA y S' → zGood S' → Z p l e room_1 s m #[Value.ref b] below meth c g 9 (cells + 4) (slots + 24) Q y 1927 [(5, .int (nI (5 * t))), (0, .ref b), (1, .ref (zad g 0)), (2, .ref (zad g 2)), (3, .ref (zad g 11)), (4, .ref (zad g 12))] []) : Z p l e room_1 s m #[Value.ref b] below meth c g 9 cells slots Q x 875 [(5, .int (nI (5 * t))), (0, .ref b), (1, .ref (zad g 0)), (2, .ref (zad g 2)), (3, .ref (zad g 11)), (4, .ref (zad g 12))] [] := by
  obtain ⟨p0, hp0⟩ : ∃ v : Int32, xs ((5 * t) + 1) = v := ⟨_, rfl⟩
  obtain ⟨p1, hp1⟩ : ∃ v : Int32, xs ((5 * t) + 2) = v := ⟨_, rfl⟩
  refine z_aload_n 875 C dL_law_875 rfl 2 rfl ?_
  refine z_aload_n 876 C dL_law_876 rfl 1 rfl ?_
  refine z_iload 877 C dL_law_877 0 rfl ?_
  refine z_iconst (v := nI 1) 879 C dL_law_879 rfl ?_
  refine z_iadd (v := nI ((5 * t) + 1)) 880 C dL_law_880 (nI_add (5 * t) 1) ?_
  refine z_sld 881 C hX hbl hbA (show (5 * t) + 1 < L by omega) hL hp0 dL_law_881 ?_
  refine z_aload_n 882 C dL_law_882 rfl 1 rfl ?_
  refine z_iload 883 C dL_law_883 0 rfl ?_
  refine z_iconst (v := nI 2) 885 C dL_law_885 rfl ?_
  refine z_iadd (v := nI ((5 * t) + 2)) 886 C dL_law_886 (nI_add (5 * t) 2) ?_
  refine z_sld 887 C hX hbl hbA (show (5 * t) + 2 < L by omega) hL hp1 dL_law_887 ?_
  refine z_aload 888 C dL_law_888 5 rfl ?_
  refine z_callSWi 890 C (As := [.ref (zad g 0), .int p0, .int p1, .ref (zad g 12)]) 4 (c_L_share l C.2.2.1 x hls S hA p0 p1) (vx_cwSW 4 C.1.2.2.2.2 gL_law_L_share rfl rfl rfl (by decide +kernel) ⟨Nat.le_of_ble_eq_true rfl, Nat.le_of_ble_eq_true rfl⟩) rfl rfl (Nat.le_of_ble_eq_true rfl) ⟨by show cells + 2 ≤ 601024; omega, by show slots + 12 ≤ 7293034; omega⟩ dL_law_890 (fun r y hu => ?_)
  obtain ⟨hr0, hv0, hXA, hXF⟩ : r = nI (zk1 (zinb p0 4 && zinb p1 64)) ∧ _ ∧ zAll y S ∧ _ := ⟨hu.1, hu.2.1, hu.2.2.1, hu.2.2.2⟩
  obtain ⟨kk, hkk⟩ : ∃ q : Nat, (zk1 (zinb p0 4 && zinb p1 64)) = q := ⟨_, rfl⟩
  have hkb : kk ≤ 3 := by rw [← hkk]; exact zk1_le _ 
  rw [hkk] at hr0 hv0
  subst hr0
  refine z_widen (k := cells + 4) (n := slots + 24) (by omega) (by omega) ?_
  have hM1 := zMA_eq hXF hM
  refine z_istore (lv' := [(6, .int (nI kk)), (5, .int (nI (5 * t))), (0, .ref b), (1, .ref (zad g 0)), (2, .ref (zad g 2)), (3, .ref (zad g 11)), (4, .ref (zad g 12))]) 893 C dL_law_893 (by decide) rfl ?_
  refine z_aload_n 895 C dL_law_895 rfl 4 rfl ?_
  refine z_aload_n 896 C dL_law_896 rfl 2 rfl ?_
  refine z_iload 897 C dL_law_897 1 rfl ?_
  refine z_iconst (v := nI 1) 899 C dL_law_899 rfl ?_
  refine z_iadd (v := nI ((5 * t) + 1)) 900 C dL_law_900 (nI_add (5 * t) 1) ?_
  refine z_sld 901 C hX hbl hbA (show (5 * t) + 1 < L by omega) hL hp0 dL_law_901 ?_
  refine z_aload_n 902 C dL_law_902 rfl 2 rfl ?_
  refine z_iload 903 C dL_law_903 1 rfl ?_
  refine z_iconst (v := nI 2) 905 C dL_law_905 rfl ?_
  refine z_iadd (v := nI ((5 * t) + 2)) 906 C dL_law_906 (nI_add (5 * t) 2) ?_
  refine z_sld 907 C hX hbl hbA (show (5 * t) + 2 < L by omega) hL hp1 dL_law_907 ?_
  refine z_callVd 908 C (As := [.int p0, .int p1]) 2 kO_model rfl (c_X6_share l C.2.2.1 y S hM1 p0 p1) (cwV 2 C.1.2.2.2.2 gL_law_X6_share rfl rfl rfl (by decide +kernel) ⟨Nat.le_of_ble_eq_true rfl, Nat.le_of_ble_eq_true rfl⟩) rfl rfl (Nat.le_of_ble_eq_true rfl) ⟨by show cells + 4 + 0 ≤ 601024; omega, by show slots + 24 + 0 ≤ 7293034; omega⟩ dL_law_908 (fun r2 z hz => ?_)
  obtain ⟨⟨hth, hMz, hOz⟩, hvz⟩ := hz
  rw [hkk] at hth hvz
  have hAz := zAll_eq hOz hXA
  refine z_widen (k := cells + 4) (n := slots + 24) (Nat.le_refl _) (Nat.le_refl _) ?_
  refine z_dstore (lv' := [(7, .double r2), (6, .int (nI kk)), (5, .int (nI (5 * t))), (0, .ref b), (1, .ref (zad g 0)), (2, .ref (zad g 2)), (3, .ref (zad g 11)), (4, .ref (zad g 12))]) 911 C dL_law_911 (by decide) rfl ?_
  refine z_aload_n 913 C dL_law_913 rfl 5 rfl ?_
  refine z_callVi 914 C (As := []) 0 kO_model rfl (c_X6_thrown l C.2.2.1 z) (cwV 0 C.1.2.2.2.2 gL_law_X6_thrown rfl rfl rfl (by decide +kernel) ⟨Nat.le_of_ble_eq_true rfl, Nat.le_of_ble_eq_true rfl⟩) rfl rfl (Nat.le_of_ble_eq_true rfl) ⟨by show cells + 4 + 0 ≤ 601024; omega, by show slots + 24 + 0 ≤ 7293034; omega⟩ dL_law_914 (fun r3 w hw => ?_)
  obtain ⟨hw1, hw2⟩ := hw
  subst w
  rw [hth] at hw2
  subst r3
  refine z_widen (k := cells + 4) (n := slots + 24) (Nat.le_refl _) (Nat.le_refl _) ?_
  refine z_iload 917 C dL_law_917 1 rfl ?_
  refine z_icmp_eqN 919 C 924 dL_law_919 (by decide) (by omega) (by omega) (fun h919 => ?_) (fun h919 => absurd rfl h919)
  refine z_iload 924 C dL_law_924 1 rfl ?_
  refine z_if_neN 926 C 961 dL_law_926 (by decide) (by omega) (fun h926 => ?_) (fun h926 => ?_)
  · refine z_goto 961 C 1927 dL_law_961 (by decide) ?_
    refine z_lv (lv' := [(5, .int (nI (5 * t))), (0, .ref b), (1, .ref (zad g 0)), (2, .ref (zad g 2)), (3, .ref (zad g 11)), (4, .ref (zad g 12))]) [2, 3, 4, 5, 6, 7] rfl ?_
    exact hcont z S hAz hMz hG
  · obtain ⟨cv, hcv⟩ : ∃ v : Int32, Op.cmpValue (FP.dcmp r2 r2) .l = v := ⟨_, rfl⟩
    refine z_aload 929 C dL_law_929 7 rfl ?_
    refine z_iconst (v := nI 0) 931 C dL_law_931 rfl ?_
    refine z_dald 932 C (v := r2) (by rw [hOz.2, hv0 h926, hvz h926]) dL_law_932 ?_
    refine z_dload 933 C dL_law_933 0 rfl ?_
    refine z_dcmp 935 C dL_law_935 hcv ?_
    refine z_if_eq 936 C 961 dL_law_936 (by decide) (fun h936 => ?_) (fun h936 => ?_)
    · refine z_goto 961 C 1927 dL_law_961 (by decide) ?_
      refine z_lv (lv' := [(5, .int (nI (5 * t))), (0, .ref b), (1, .ref (zad g 0)), (2, .ref (zad g 2)), (3, .ref (zad g 11)), (4, .ref (zad g 12))]) [2, 3, 4, 5, 6, 7] rfl ?_
      exact hcont z S hAz hMz hG
    · refine z_aload 939 C dL_law_939 7 rfl ?_
      refine z_iconst (v := nI 0) 941 C dL_law_941 rfl ?_
      refine z_dald 942 C (v := r2) (by rw [hOz.2, hv0 h926, hvz h926]) dL_law_942 ?_
      refine z_aload 943 C dL_law_943 7 rfl ?_
      refine z_iconst (v := nI 0) 945 C dL_law_945 rfl ?_
      refine z_dald 946 C (v := r2) (by rw [hOz.2, hv0 h926, hvz h926]) dL_law_946 ?_
      refine z_dcmp 947 C dL_law_947 hcv ?_
      refine z_if_eq 948 C 959 dL_law_948 (by decide) (fun h948 => absurd h948 h936) (fun h948 => ?_)
      refine z_dload 951 C dL_law_951 0 rfl ?_
      refine z_dload 953 C dL_law_953 0 rfl ?_
      refine z_dcmp 955 C dL_law_955 hcv ?_
      refine z_if_ne 956 C 961 dL_law_956 (by decide) (fun h956 => ?_) (fun h956 => absurd h956 h936)
      refine z_goto 961 C 1927 dL_law_961 (by decide) ?_
      refine z_lv (lv' := [(5, .int (nI (5 * t))), (0, .ref b), (1, .ref (zad g 0)), (2, .ref (zad g 2)), (3, .ref (zad g 11)), (4, .ref (zad g 12))]) [2, 3, 4, 5, 6, 7] rfl ?_
      exact hcont z S hAz hMz hG
set_option maxHeartbeats 4000000 in
set_option maxRecDepth 100000 in
/-- parts -/
theorem law_parts {p : Program} {e : Env} {s : State} {m : MethodId} {below : List Frame} {meth : Method} {c : Code} (l : Launch) (hls : l.stackTraces = false) {b L : Nat} {xs : Nat → Int32} (hL : L ≤ 2560) {g : zG} (C : zC p s m #[Value.ref b] meth c g cL_law 9 RL wsL_law) (hX : va_X b L xs s s.heap) (hbl : b < s.heap.size) (hbA : ¬ zA g b) {t cells slots : Nat} {Q : State → Prop} {x : zT} {S : zS} (ht : 5 * t + 5 ≤ L) (hcs : cells + 4 ≤ 601024 ∧ slots + 24 ≤ 7293034) (hA : zAll x S) (hM : zMA x S) (hG : zGood S) (hcont : ∀ (y : zT) (S' : zS), zAll y S' → zMA y S' → zGood S' → Z p l e room_1 s m #[Value.ref b] below meth c g 9 (cells + 4) (slots + 24) Q y 1927 [(5, .int (nI (5 * t))), (0, .ref b), (1, .ref (zad g 0)), (2, .ref (zad g 2)), (3, .ref (zad g 11)), (4, .ref (zad g 12))] []) : Z p l e room_1 s m #[Value.ref b] below meth c g 9 cells slots Q x 964 [(5, .int (nI (5 * t))), (0, .ref b), (1, .ref (zad g 0)), (2, .ref (zad g 2)), (3, .ref (zad g 11)), (4, .ref (zad g 12))] [] := by
  obtain ⟨p0, hp0⟩ : ∃ v : Int32, xs ((5 * t) + 1) = v := ⟨_, rfl⟩
  obtain ⟨p1, hp1⟩ : ∃ v : Int32, xs ((5 * t) + 2) = v := ⟨_, rfl⟩
  refine z_aload_n 964 C dL_law_964 rfl 2 rfl ?_
  refine z_aload_n 965 C dL_law_965 rfl 1 rfl ?_
  refine z_iload 966 C dL_law_966 0 rfl ?_
  refine z_iconst (v := nI 1) 968 C dL_law_968 rfl ?_
  refine z_iadd (v := nI ((5 * t) + 1)) 969 C dL_law_969 (nI_add (5 * t) 1) ?_
  refine z_sld 970 C hX hbl hbA (show (5 * t) + 1 < L by omega) hL hp0 dL_law_970 ?_
  refine z_aload_n 971 C dL_law_971 rfl 1 rfl ?_
  refine z_iload 972 C dL_law_972 0 rfl ?_
  refine z_iconst (v := nI 2) 974 C dL_law_974 rfl ?_
  refine z_iadd (v := nI ((5 * t) + 2)) 975 C dL_law_975 (nI_add (5 * t) 2) ?_
  refine z_sld 976 C hX hbl hbA (show (5 * t) + 2 < L by omega) hL hp1 dL_law_976 ?_
  refine z_aload_n 977 C dL_law_977 rfl 4 rfl ?_
  refine z_callSWi 978 C (As := [.ref (zad g 0), .int p0, .int p1, .ref (zad g 11)]) 4 (c_L_parts l C.2.2.1 x hls S hA p0 p1) (vx_cwSW 4 C.1.2.2.2.2 gL_law_L_parts rfl rfl rfl (by decide +kernel) ⟨Nat.le_of_ble_eq_true rfl, Nat.le_of_ble_eq_true rfl⟩) rfl rfl (Nat.le_of_ble_eq_true rfl) ⟨by show cells + 3 ≤ 601024; omega, by show slots + 18 ≤ 7293034; omega⟩ dL_law_978 (fun r y hu => ?_)
  obtain ⟨hr0, hv0, hXA, hXF⟩ : r = nI (zk2 (zinb p0 64 && zinb p1 64) (decide (p0 ≤ p1))) ∧ _ ∧ zAll y S ∧ _ := ⟨hu.1, hu.2.1, hu.2.2.1, hu.2.2.2⟩
  obtain ⟨kk, hkk⟩ : ∃ q : Nat, (zk2 (zinb p0 64 && zinb p1 64) (decide (p0 ≤ p1))) = q := ⟨_, rfl⟩
  have hkb : kk ≤ 3 := by rw [← hkk]; exact zk2_le _ _ 
  rw [hkk] at hr0 hv0
  subst hr0
  refine z_widen (k := cells + 4) (n := slots + 24) (by omega) (by omega) ?_
  have hM1 := zMA_eq hXF hM
  refine z_istore (lv' := [(6, .int (nI kk)), (5, .int (nI (5 * t))), (0, .ref b), (1, .ref (zad g 0)), (2, .ref (zad g 2)), (3, .ref (zad g 11)), (4, .ref (zad g 12))]) 981 C dL_law_981 (by decide) rfl ?_
  refine z_aload_n 983 C dL_law_983 rfl 4 rfl ?_
  refine z_aload_n 984 C dL_law_984 rfl 2 rfl ?_
  refine z_iload 985 C dL_law_985 1 rfl ?_
  refine z_iconst (v := nI 1) 987 C dL_law_987 rfl ?_
  refine z_iadd (v := nI ((5 * t) + 1)) 988 C dL_law_988 (nI_add (5 * t) 1) ?_
  refine z_sld 989 C hX hbl hbA (show (5 * t) + 1 < L by omega) hL hp0 dL_law_989 ?_
  refine z_aload_n 990 C dL_law_990 rfl 2 rfl ?_
  refine z_iload 991 C dL_law_991 1 rfl ?_
  refine z_iconst (v := nI 2) 993 C dL_law_993 rfl ?_
  refine z_iadd (v := nI ((5 * t) + 2)) 994 C dL_law_994 (nI_add (5 * t) 2) ?_
  refine z_sld 995 C hX hbl hbA (show (5 * t) + 2 < L by omega) hL hp1 dL_law_995 ?_
  refine z_callVi 996 C (As := [.int p0, .int p1]) 2 kO_model rfl (c_X6_parts l C.2.2.1 y S hM1 p0 p1) (cwV 2 C.1.2.2.2.2 gL_law_X6_parts rfl rfl rfl (by decide +kernel) ⟨Nat.le_of_ble_eq_true rfl, Nat.le_of_ble_eq_true rfl⟩) rfl rfl (Nat.le_of_ble_eq_true rfl) ⟨by show cells + 4 + 0 ≤ 601024; omega, by show slots + 24 + 0 ≤ 7293034; omega⟩ dL_law_996 (fun r2 z hz => ?_)
  obtain ⟨⟨hth, hMz, hOz⟩, hvz⟩ := hz
  rw [hkk] at hth hvz
  have hAz := zAll_eq hOz hXA
  refine z_widen (k := cells + 4) (n := slots + 24) (Nat.le_refl _) (Nat.le_refl _) ?_
  refine z_istore (lv' := [(7, .int r2), (6, .int (nI kk)), (5, .int (nI (5 * t))), (0, .ref b), (1, .ref (zad g 0)), (2, .ref (zad g 2)), (3, .ref (zad g 11)), (4, .ref (zad g 12))]) 999 C dL_law_999 (by decide) rfl ?_
  refine z_aload_n 1001 C dL_law_1001 rfl 5 rfl ?_
  refine z_callVi 1002 C (As := []) 0 kO_model rfl (c_X6_thrown l C.2.2.1 z) (cwV 0 C.1.2.2.2.2 gL_law_X6_thrown rfl rfl rfl (by decide +kernel) ⟨Nat.le_of_ble_eq_true rfl, Nat.le_of_ble_eq_true rfl⟩) rfl rfl (Nat.le_of_ble_eq_true rfl) ⟨by show cells + 4 + 0 ≤ 601024; omega, by show slots + 24 + 0 ≤ 7293034; omega⟩ dL_law_1002 (fun r3 w hw => ?_)
  obtain ⟨hw1, hw2⟩ := hw
  subst w
  rw [hth] at hw2
  subst r3
  refine z_widen (k := cells + 4) (n := slots + 24) (Nat.le_refl _) (Nat.le_refl _) ?_
  refine z_iload 1005 C dL_law_1005 1 rfl ?_
  refine z_icmp_eqN 1007 C 1012 dL_law_1007 (by decide) (by omega) (by omega) (fun h1007 => ?_) (fun h1007 => absurd rfl h1007)
  refine z_iload 1012 C dL_law_1012 1 rfl ?_
  refine z_if_neN 1014 C 1029 dL_law_1014 (by decide) (by omega) (fun h1014 => ?_) (fun h1014 => ?_)
  · refine z_goto 1029 C 1927 dL_law_1029 (by decide) ?_
    refine z_lv (lv' := [(5, .int (nI (5 * t))), (0, .ref b), (1, .ref (zad g 0)), (2, .ref (zad g 2)), (3, .ref (zad g 11)), (4, .ref (zad g 12))]) [2, 3, 4, 5, 6, 7] rfl ?_
    exact hcont z S hAz hMz hG
  · refine z_aload_n 1017 C dL_law_1017 rfl 6 rfl ?_
    refine z_iconst (v := nI 0) 1018 C dL_law_1018 rfl ?_
    refine z_lald (v := (z.2.1 11) 0) 1019 C kL_11 (by omega) rfl dL_law_1019 ?_
    refine z_iload 1020 C dL_law_1020 0 rfl ?_
    refine z_i2l (v := r2.toInt64) 1022 C dL_law_1022 rfl ?_
    refine z_lcmp (v := lg_cmp ((z.2.1 11) 0) r2.toInt64) 1023 C dL_law_1023 rfl ?_
    refine z_if_eq 1024 C 1029 dL_law_1024 (by decide) (fun h1024 => ?_) (fun h1024 => absurd (show lg_cmp (z.2.1 11 0) (r2.toInt64) = 0 by rw [(hOz.1 11 (by omega)).2, hv0 h1014, hvz h1014]; exact lgc_self _) h1024)
    refine z_goto 1029 C 1927 dL_law_1029 (by decide) ?_
    refine z_lv (lv' := [(5, .int (nI (5 * t))), (0, .ref b), (1, .ref (zad g 0)), (2, .ref (zad g 2)), (3, .ref (zad g 11)), (4, .ref (zad g 12))]) [2, 3, 4, 5, 6, 7] rfl ?_
    exact hcont z S hAz hMz hG
set_option maxHeartbeats 4000000 in
set_option maxRecDepth 100000 in
/-- estimateOfRange -/
theorem law_estimateOfRange {p : Program} {e : Env} {s : State} {m : MethodId} {below : List Frame} {meth : Method} {c : Code} (l : Launch) (hls : l.stackTraces = false) {b L : Nat} {xs : Nat → Int32} (hL : L ≤ 2560) {g : zG} (C : zC p s m #[Value.ref b] meth c g cL_law 9 RL wsL_law) (hX : va_X b L xs s s.heap) (hbl : b < s.heap.size) (hbA : ¬ zA g b) {t cells slots : Nat} {Q : State → Prop} {x : zT} {S : zS} (ht : 5 * t + 5 ≤ L) (hcs : cells + 4 ≤ 601024 ∧ slots + 24 ≤ 7293034) (hA : zAll x S) (hM : zMA x S) (hG : zGood S) (hcont : ∀ (y : zT) (S' : zS), zAll y S' → zMA y S' → zGood S' → Z p l e room_1 s m #[Value.ref b] below meth c g 9 (cells + 4) (slots + 24) Q y 1927 [(5, .int (nI (5 * t))), (0, .ref b), (1, .ref (zad g 0)), (2, .ref (zad g 2)), (3, .ref (zad g 11)), (4, .ref (zad g 12))] []) : Z p l e room_1 s m #[Value.ref b] below meth c g 9 cells slots Q x 1032 [(5, .int (nI (5 * t))), (0, .ref b), (1, .ref (zad g 0)), (2, .ref (zad g 2)), (3, .ref (zad g 11)), (4, .ref (zad g 12))] [] := by
  obtain ⟨p0, hp0⟩ : ∃ v : Int32, xs ((5 * t) + 1) = v := ⟨_, rfl⟩
  obtain ⟨p1, hp1⟩ : ∃ v : Int32, xs ((5 * t) + 2) = v := ⟨_, rfl⟩
  obtain ⟨p2, hp2⟩ : ∃ v : Int32, xs ((5 * t) + 3) = v := ⟨_, rfl⟩
  refine z_aload_n 1032 C dL_law_1032 rfl 2 rfl ?_
  refine z_aload_n 1033 C dL_law_1033 rfl 1 rfl ?_
  refine z_iload 1034 C dL_law_1034 0 rfl ?_
  refine z_iconst (v := nI 1) 1036 C dL_law_1036 rfl ?_
  refine z_iadd (v := nI ((5 * t) + 1)) 1037 C dL_law_1037 (nI_add (5 * t) 1) ?_
  refine z_sld 1038 C hX hbl hbA (show (5 * t) + 1 < L by omega) hL hp0 dL_law_1038 ?_
  refine z_aload_n 1039 C dL_law_1039 rfl 1 rfl ?_
  refine z_iload 1040 C dL_law_1040 0 rfl ?_
  refine z_iconst (v := nI 2) 1042 C dL_law_1042 rfl ?_
  refine z_iadd (v := nI ((5 * t) + 2)) 1043 C dL_law_1043 (nI_add (5 * t) 2) ?_
  refine z_sld 1044 C hX hbl hbA (show (5 * t) + 2 < L by omega) hL hp1 dL_law_1044 ?_
  refine z_aload_n 1045 C dL_law_1045 rfl 1 rfl ?_
  refine z_iload 1046 C dL_law_1046 0 rfl ?_
  refine z_iconst (v := nI 3) 1048 C dL_law_1048 rfl ?_
  refine z_iadd (v := nI ((5 * t) + 3)) 1049 C dL_law_1049 (nI_add (5 * t) 3) ?_
  refine z_sld 1050 C hX hbl hbA (show (5 * t) + 3 < L by omega) hL hp2 dL_law_1050 ?_
  refine z_aload_n 1051 C dL_law_1051 rfl 4 rfl ?_
  refine z_callSWi 1052 C (As := [.ref (zad g 0), .int p0, .int p1, .int p2, .ref (zad g 11)]) 5 (c_L_estimateOfRange l C.2.2.1 x hls S hA p0 p1 p2) (vx_cwSW 5 C.1.2.2.2.2 gL_law_L_estimateOfRange rfl rfl rfl (by decide +kernel) ⟨Nat.le_of_ble_eq_true rfl, Nat.le_of_ble_eq_true rfl⟩) rfl rfl (Nat.le_of_ble_eq_true rfl) ⟨by show cells + 4 ≤ 601024; omega, by show slots + 24 ≤ 7293034; omega⟩ dL_law_1052 (fun r y hu => ?_)
  obtain ⟨hr0, hv0, hXA, hXF⟩ : r = nI (zk2 (zinb p0 4 && (zinb p1 64 && zinb p2 64)) (decide (p1 ≤ p2))) ∧ _ ∧ zAll y S ∧ _ := ⟨hu.1, hu.2.1, hu.2.2.1, hu.2.2.2⟩
  obtain ⟨kk, hkk⟩ : ∃ q : Nat, (zk2 (zinb p0 4 && (zinb p1 64 && zinb p2 64)) (decide (p1 ≤ p2))) = q := ⟨_, rfl⟩
  have hkb : kk ≤ 3 := by rw [← hkk]; exact zk2_le _ _ 
  rw [hkk] at hr0 hv0
  subst hr0
  refine z_widen (k := cells + 4) (n := slots + 24) (by omega) (by omega) ?_
  have hM1 := zMA_eq hXF hM
  refine z_istore (lv' := [(6, .int (nI kk)), (5, .int (nI (5 * t))), (0, .ref b), (1, .ref (zad g 0)), (2, .ref (zad g 2)), (3, .ref (zad g 11)), (4, .ref (zad g 12))]) 1055 C dL_law_1055 (by decide) rfl ?_
  refine z_aload_n 1057 C dL_law_1057 rfl 4 rfl ?_
  refine z_aload_n 1058 C dL_law_1058 rfl 2 rfl ?_
  refine z_iload 1059 C dL_law_1059 1 rfl ?_
  refine z_iconst (v := nI 1) 1061 C dL_law_1061 rfl ?_
  refine z_iadd (v := nI ((5 * t) + 1)) 1062 C dL_law_1062 (nI_add (5 * t) 1) ?_
  refine z_sld 1063 C hX hbl hbA (show (5 * t) + 1 < L by omega) hL hp0 dL_law_1063 ?_
  refine z_aload_n 1064 C dL_law_1064 rfl 2 rfl ?_
  refine z_iload 1065 C dL_law_1065 1 rfl ?_
  refine z_iconst (v := nI 2) 1067 C dL_law_1067 rfl ?_
  refine z_iadd (v := nI ((5 * t) + 2)) 1068 C dL_law_1068 (nI_add (5 * t) 2) ?_
  refine z_sld 1069 C hX hbl hbA (show (5 * t) + 2 < L by omega) hL hp1 dL_law_1069 ?_
  refine z_aload_n 1070 C dL_law_1070 rfl 2 rfl ?_
  refine z_iload 1071 C dL_law_1071 1 rfl ?_
  refine z_iconst (v := nI 3) 1073 C dL_law_1073 rfl ?_
  refine z_iadd (v := nI ((5 * t) + 3)) 1074 C dL_law_1074 (nI_add (5 * t) 3) ?_
  refine z_sld 1075 C hX hbl hbA (show (5 * t) + 3 < L by omega) hL hp2 dL_law_1075 ?_
  refine z_callVi 1076 C (As := [.int p0, .int p1, .int p2]) 3 kO_model rfl (c_X6_estimateOfRange l C.2.2.1 y S hM1 p0 p1 p2) (cwV 3 C.1.2.2.2.2 gL_law_X6_estimateOfRange rfl rfl rfl (by decide +kernel) ⟨Nat.le_of_ble_eq_true rfl, Nat.le_of_ble_eq_true rfl⟩) rfl rfl (Nat.le_of_ble_eq_true rfl) ⟨by show cells + 4 + 0 ≤ 601024; omega, by show slots + 24 + 0 ≤ 7293034; omega⟩ dL_law_1076 (fun r2 z hz => ?_)
  obtain ⟨⟨hth, hMz, hOz⟩, hvz⟩ := hz
  rw [hkk] at hth hvz
  have hAz := zAll_eq hOz hXA
  refine z_widen (k := cells + 4) (n := slots + 24) (Nat.le_refl _) (Nat.le_refl _) ?_
  refine z_istore (lv' := [(7, .int r2), (6, .int (nI kk)), (5, .int (nI (5 * t))), (0, .ref b), (1, .ref (zad g 0)), (2, .ref (zad g 2)), (3, .ref (zad g 11)), (4, .ref (zad g 12))]) 1079 C dL_law_1079 (by decide) rfl ?_
  refine z_aload_n 1081 C dL_law_1081 rfl 5 rfl ?_
  refine z_callVi 1082 C (As := []) 0 kO_model rfl (c_X6_thrown l C.2.2.1 z) (cwV 0 C.1.2.2.2.2 gL_law_X6_thrown rfl rfl rfl (by decide +kernel) ⟨Nat.le_of_ble_eq_true rfl, Nat.le_of_ble_eq_true rfl⟩) rfl rfl (Nat.le_of_ble_eq_true rfl) ⟨by show cells + 4 + 0 ≤ 601024; omega, by show slots + 24 + 0 ≤ 7293034; omega⟩ dL_law_1082 (fun r3 w hw => ?_)
  obtain ⟨hw1, hw2⟩ := hw
  subst w
  rw [hth] at hw2
  subst r3
  refine z_widen (k := cells + 4) (n := slots + 24) (Nat.le_refl _) (Nat.le_refl _) ?_
  refine z_iload 1085 C dL_law_1085 1 rfl ?_
  refine z_icmp_eqN 1087 C 1092 dL_law_1087 (by decide) (by omega) (by omega) (fun h1087 => ?_) (fun h1087 => absurd rfl h1087)
  refine z_iload 1092 C dL_law_1092 1 rfl ?_
  refine z_if_neN 1094 C 1109 dL_law_1094 (by decide) (by omega) (fun h1094 => ?_) (fun h1094 => ?_)
  · refine z_goto 1109 C 1927 dL_law_1109 (by decide) ?_
    refine z_lv (lv' := [(5, .int (nI (5 * t))), (0, .ref b), (1, .ref (zad g 0)), (2, .ref (zad g 2)), (3, .ref (zad g 11)), (4, .ref (zad g 12))]) [2, 3, 4, 5, 6, 7] rfl ?_
    exact hcont z S hAz hMz hG
  · refine z_aload_n 1097 C dL_law_1097 rfl 6 rfl ?_
    refine z_iconst (v := nI 0) 1098 C dL_law_1098 rfl ?_
    refine z_lald (v := (z.2.1 11) 0) 1099 C kL_11 (by omega) rfl dL_law_1099 ?_
    refine z_iload 1100 C dL_law_1100 0 rfl ?_
    refine z_i2l (v := r2.toInt64) 1102 C dL_law_1102 rfl ?_
    refine z_lcmp (v := lg_cmp ((z.2.1 11) 0) r2.toInt64) 1103 C dL_law_1103 rfl ?_
    refine z_if_eq 1104 C 1109 dL_law_1104 (by decide) (fun h1104 => ?_) (fun h1104 => absurd (show lg_cmp (z.2.1 11 0) (r2.toInt64) = 0 by rw [(hOz.1 11 (by omega)).2, hv0 h1094, hvz h1094]; exact lgc_self _) h1104)
    refine z_goto 1109 C 1927 dL_law_1109 (by decide) ?_
    refine z_lv (lv' := [(5, .int (nI (5 * t))), (0, .ref b), (1, .ref (zad g 0)), (2, .ref (zad g 2)), (3, .ref (zad g 11)), (4, .ref (zad g 12))]) [2, 3, 4, 5, 6, 7] rfl ?_
    exact hcont z S hAz hMz hG
set_option maxHeartbeats 4000000 in
set_option maxRecDepth 100000 in
/-- frequent -/
theorem law_frequent {p : Program} {e : Env} {s : State} {m : MethodId} {below : List Frame} {meth : Method} {c : Code} (l : Launch) (hls : l.stackTraces = false) {b L : Nat} {xs : Nat → Int32} (hL : L ≤ 2560) {g : zG} (C : zC p s m #[Value.ref b] meth c g cL_law 9 RL wsL_law) (hX : va_X b L xs s s.heap) (hbl : b < s.heap.size) (hbA : ¬ zA g b) {t cells slots : Nat} {Q : State → Prop} {x : zT} {S : zS} (ht : 5 * t + 5 ≤ L) (hcs : cells + 4 ≤ 601024 ∧ slots + 24 ≤ 7293034) (hA : zAll x S) (hM : zMA x S) (hG : zGood S) (hcont : ∀ (y : zT) (S' : zS), zAll y S' → zMA y S' → zGood S' → Z p l e room_1 s m #[Value.ref b] below meth c g 9 (cells + 4) (slots + 24) Q y 1927 [(5, .int (nI (5 * t))), (0, .ref b), (1, .ref (zad g 0)), (2, .ref (zad g 2)), (3, .ref (zad g 11)), (4, .ref (zad g 12))] []) : Z p l e room_1 s m #[Value.ref b] below meth c g 9 cells slots Q x 1112 [(5, .int (nI (5 * t))), (0, .ref b), (1, .ref (zad g 0)), (2, .ref (zad g 2)), (3, .ref (zad g 11)), (4, .ref (zad g 12))] [] := by
  obtain ⟨p0, hp0⟩ : ∃ v : Int32, xs ((5 * t) + 1) = v := ⟨_, rfl⟩
  obtain ⟨p1, hp1⟩ : ∃ v : Int32, xs ((5 * t) + 2) = v := ⟨_, rfl⟩
  refine z_aload_n 1112 C dL_law_1112 rfl 2 rfl ?_
  refine z_aload_n 1113 C dL_law_1113 rfl 1 rfl ?_
  refine z_iload 1114 C dL_law_1114 0 rfl ?_
  refine z_iconst (v := nI 1) 1116 C dL_law_1116 rfl ?_
  refine z_iadd (v := nI ((5 * t) + 1)) 1117 C dL_law_1117 (nI_add (5 * t) 1) ?_
  refine z_sld 1118 C hX hbl hbA (show (5 * t) + 1 < L by omega) hL hp0 dL_law_1118 ?_
  refine z_aload_n 1119 C dL_law_1119 rfl 1 rfl ?_
  refine z_iload 1120 C dL_law_1120 0 rfl ?_
  refine z_iconst (v := nI 2) 1122 C dL_law_1122 rfl ?_
  refine z_iadd (v := nI ((5 * t) + 2)) 1123 C dL_law_1123 (nI_add (5 * t) 2) ?_
  refine z_sld 1124 C hX hbl hbA (show (5 * t) + 2 < L by omega) hL hp1 dL_law_1124 ?_
  refine z_aload_n 1125 C dL_law_1125 rfl 4 rfl ?_
  refine z_callSWi 1126 C (As := [.ref (zad g 0), .int p0, .int p1, .ref (zad g 11)]) 4 (c_L_frequent l C.2.2.1 x hls S hA p0 p1) (vx_cwSW 4 C.1.2.2.2.2 gL_law_L_frequent rfl rfl rfl (by decide +kernel) ⟨Nat.le_of_ble_eq_true rfl, Nat.le_of_ble_eq_true rfl⟩) rfl rfl (Nat.le_of_ble_eq_true rfl) ⟨by show cells + 2 ≤ 601024; omega, by show slots + 12 ≤ 7293034; omega⟩ dL_law_1126 (fun r y hu => ?_)
  obtain ⟨hr0, hv0, hXA, hXF⟩ : r = nI (zk2 (zinb p0 4) (zwib p1 (nI 1) (nI 1000000))) ∧ _ ∧ zAll y S ∧ _ := ⟨hu.1, hu.2.1, hu.2.2.1, hu.2.2.2⟩
  obtain ⟨kk, hkk⟩ : ∃ q : Nat, (zk2 (zinb p0 4) (zwib p1 (nI 1) (nI 1000000))) = q := ⟨_, rfl⟩
  have hkb : kk ≤ 3 := by rw [← hkk]; exact zk2_le _ _ 
  rw [hkk] at hr0 hv0
  subst hr0
  refine z_widen (k := cells + 4) (n := slots + 24) (by omega) (by omega) ?_
  have hM1 := zMA_eq hXF hM
  refine z_istore (lv' := [(6, .int (nI kk)), (5, .int (nI (5 * t))), (0, .ref b), (1, .ref (zad g 0)), (2, .ref (zad g 2)), (3, .ref (zad g 11)), (4, .ref (zad g 12))]) 1129 C dL_law_1129 (by decide) rfl ?_
  refine z_aload_n 1131 C dL_law_1131 rfl 4 rfl ?_
  refine z_aload_n 1132 C dL_law_1132 rfl 2 rfl ?_
  refine z_iload 1133 C dL_law_1133 1 rfl ?_
  refine z_iconst (v := nI 1) 1135 C dL_law_1135 rfl ?_
  refine z_iadd (v := nI ((5 * t) + 1)) 1136 C dL_law_1136 (nI_add (5 * t) 1) ?_
  refine z_sld 1137 C hX hbl hbA (show (5 * t) + 1 < L by omega) hL hp0 dL_law_1137 ?_
  refine z_aload_n 1138 C dL_law_1138 rfl 2 rfl ?_
  refine z_iload 1139 C dL_law_1139 1 rfl ?_
  refine z_iconst (v := nI 2) 1141 C dL_law_1141 rfl ?_
  refine z_iadd (v := nI ((5 * t) + 2)) 1142 C dL_law_1142 (nI_add (5 * t) 2) ?_
  refine z_sld 1143 C hX hbl hbA (show (5 * t) + 2 < L by omega) hL hp1 dL_law_1143 ?_
  refine z_callVi 1144 C (As := [.int p0, .int p1]) 2 kO_model rfl (c_X6_frequent l C.2.2.1 y S hM1 p0 p1) (cwV 2 C.1.2.2.2.2 gL_law_X6_frequent rfl rfl rfl (by decide +kernel) ⟨Nat.le_of_ble_eq_true rfl, Nat.le_of_ble_eq_true rfl⟩) rfl rfl (Nat.le_of_ble_eq_true rfl) ⟨by show cells + 4 + 0 ≤ 601024; omega, by show slots + 24 + 0 ≤ 7293034; omega⟩ dL_law_1144 (fun r2 z hz => ?_)
  obtain ⟨⟨hth, hMz, hOz⟩, hvz⟩ := hz
  rw [hkk] at hth hvz
  have hAz := zAll_eq hOz hXA
  refine z_widen (k := cells + 4) (n := slots + 24) (Nat.le_refl _) (Nat.le_refl _) ?_
  refine z_istore (lv' := [(7, .int r2), (6, .int (nI kk)), (5, .int (nI (5 * t))), (0, .ref b), (1, .ref (zad g 0)), (2, .ref (zad g 2)), (3, .ref (zad g 11)), (4, .ref (zad g 12))]) 1147 C dL_law_1147 (by decide) rfl ?_
  refine z_aload_n 1149 C dL_law_1149 rfl 5 rfl ?_
  refine z_callVi 1150 C (As := []) 0 kO_model rfl (c_X6_thrown l C.2.2.1 z) (cwV 0 C.1.2.2.2.2 gL_law_X6_thrown rfl rfl rfl (by decide +kernel) ⟨Nat.le_of_ble_eq_true rfl, Nat.le_of_ble_eq_true rfl⟩) rfl rfl (Nat.le_of_ble_eq_true rfl) ⟨by show cells + 4 + 0 ≤ 601024; omega, by show slots + 24 + 0 ≤ 7293034; omega⟩ dL_law_1150 (fun r3 w hw => ?_)
  obtain ⟨hw1, hw2⟩ := hw
  subst w
  rw [hth] at hw2
  subst r3
  refine z_widen (k := cells + 4) (n := slots + 24) (Nat.le_refl _) (Nat.le_refl _) ?_
  refine z_iload 1153 C dL_law_1153 1 rfl ?_
  refine z_icmp_eqN 1155 C 1160 dL_law_1155 (by decide) (by omega) (by omega) (fun h1155 => ?_) (fun h1155 => absurd rfl h1155)
  refine z_iload 1160 C dL_law_1160 1 rfl ?_
  refine z_if_neN 1162 C 1177 dL_law_1162 (by decide) (by omega) (fun h1162 => ?_) (fun h1162 => ?_)
  · refine z_goto 1177 C 1927 dL_law_1177 (by decide) ?_
    refine z_lv (lv' := [(5, .int (nI (5 * t))), (0, .ref b), (1, .ref (zad g 0)), (2, .ref (zad g 2)), (3, .ref (zad g 11)), (4, .ref (zad g 12))]) [2, 3, 4, 5, 6, 7] rfl ?_
    exact hcont z S hAz hMz hG
  · refine z_aload_n 1165 C dL_law_1165 rfl 6 rfl ?_
    refine z_iconst (v := nI 0) 1166 C dL_law_1166 rfl ?_
    refine z_lald (v := (z.2.1 11) 0) 1167 C kL_11 (by omega) rfl dL_law_1167 ?_
    refine z_iload 1168 C dL_law_1168 0 rfl ?_
    refine z_i2l (v := r2.toInt64) 1170 C dL_law_1170 rfl ?_
    refine z_lcmp (v := lg_cmp ((z.2.1 11) 0) r2.toInt64) 1171 C dL_law_1171 rfl ?_
    refine z_if_eq 1172 C 1177 dL_law_1172 (by decide) (fun h1172 => ?_) (fun h1172 => absurd (show lg_cmp (z.2.1 11 0) (r2.toInt64) = 0 by rw [(hOz.1 11 (by omega)).2, hv0 h1162, hvz h1162]; exact lgc_self _) h1172)
    refine z_goto 1177 C 1927 dL_law_1177 (by decide) ?_
    refine z_lv (lv' := [(5, .int (nI (5 * t))), (0, .ref b), (1, .ref (zad g 0)), (2, .ref (zad g 2)), (3, .ref (zad g 11)), (4, .ref (zad g 12))]) [2, 3, 4, 5, 6, 7] rfl ?_
    exact hcont z S hAz hMz hG
set_option maxHeartbeats 4000000 in
set_option maxRecDepth 100000 in
/-- frequentAt -/
theorem law_frequentAt {p : Program} {e : Env} {s : State} {m : MethodId} {below : List Frame} {meth : Method} {c : Code} (l : Launch) (hls : l.stackTraces = false) {b L : Nat} {xs : Nat → Int32} (hL : L ≤ 2560) {g : zG} (C : zC p s m #[Value.ref b] meth c g cL_law 9 RL wsL_law) (hX : va_X b L xs s s.heap) (hbl : b < s.heap.size) (hbA : ¬ zA g b) {t cells slots : Nat} {Q : State → Prop} {x : zT} {S : zS} (ht : 5 * t + 5 ≤ L) (hcs : cells + 4 ≤ 601024 ∧ slots + 24 ≤ 7293034) (hA : zAll x S) (hM : zMA x S) (hG : zGood S) (hcont : ∀ (y : zT) (S' : zS), zAll y S' → zMA y S' → zGood S' → Z p l e room_1 s m #[Value.ref b] below meth c g 9 (cells + 4) (slots + 24) Q y 1927 [(5, .int (nI (5 * t))), (0, .ref b), (1, .ref (zad g 0)), (2, .ref (zad g 2)), (3, .ref (zad g 11)), (4, .ref (zad g 12))] []) : Z p l e room_1 s m #[Value.ref b] below meth c g 9 cells slots Q x 1180 [(5, .int (nI (5 * t))), (0, .ref b), (1, .ref (zad g 0)), (2, .ref (zad g 2)), (3, .ref (zad g 11)), (4, .ref (zad g 12))] [] := by
  obtain ⟨p0, hp0⟩ : ∃ v : Int32, xs ((5 * t) + 1) = v := ⟨_, rfl⟩
  obtain ⟨p1, hp1⟩ : ∃ v : Int32, xs ((5 * t) + 2) = v := ⟨_, rfl⟩
  obtain ⟨p2, hp2⟩ : ∃ v : Int32, xs ((5 * t) + 3) = v := ⟨_, rfl⟩
  refine z_aload_n 1180 C dL_law_1180 rfl 2 rfl ?_
  refine z_aload_n 1181 C dL_law_1181 rfl 1 rfl ?_
  refine z_iload 1182 C dL_law_1182 0 rfl ?_
  refine z_iconst (v := nI 1) 1184 C dL_law_1184 rfl ?_
  refine z_iadd (v := nI ((5 * t) + 1)) 1185 C dL_law_1185 (nI_add (5 * t) 1) ?_
  refine z_sld 1186 C hX hbl hbA (show (5 * t) + 1 < L by omega) hL hp0 dL_law_1186 ?_
  refine z_aload_n 1187 C dL_law_1187 rfl 1 rfl ?_
  refine z_iload 1188 C dL_law_1188 0 rfl ?_
  refine z_iconst (v := nI 2) 1190 C dL_law_1190 rfl ?_
  refine z_iadd (v := nI ((5 * t) + 2)) 1191 C dL_law_1191 (nI_add (5 * t) 2) ?_
  refine z_sld 1192 C hX hbl hbA (show (5 * t) + 2 < L by omega) hL hp1 dL_law_1192 ?_
  refine z_aload_n 1193 C dL_law_1193 rfl 1 rfl ?_
  refine z_iload 1194 C dL_law_1194 0 rfl ?_
  refine z_iconst (v := nI 3) 1196 C dL_law_1196 rfl ?_
  refine z_iadd (v := nI ((5 * t) + 3)) 1197 C dL_law_1197 (nI_add (5 * t) 3) ?_
  refine z_sld 1198 C hX hbl hbA (show (5 * t) + 3 < L by omega) hL hp2 dL_law_1198 ?_
  refine z_aload_n 1199 C dL_law_1199 rfl 4 rfl ?_
  refine z_callSWi 1200 C (As := [.ref (zad g 0), .int p0, .int p1, .int p2, .ref (zad g 11)]) 5 (c_L_frequentAt l C.2.2.1 x hls S hA p0 p1 p2) (vx_cwSW 5 C.1.2.2.2.2 gL_law_L_frequentAt rfl rfl rfl (by decide +kernel) ⟨Nat.le_of_ble_eq_true rfl, Nat.le_of_ble_eq_true rfl⟩) rfl rfl (Nat.le_of_ble_eq_true rfl) ⟨by show cells + 3 ≤ 601024; omega, by show slots + 18 ≤ 7293034; omega⟩ dL_law_1200 (fun r y hu => ?_)
  obtain ⟨hr0, hv0, hXA, hXF⟩ : r = nI (zk3 (zinb p0 4) (zwib p1 (nI 1) (nI 1000000)) (zfrB (S.1 p0.toNatClampNeg) (S.2.1 p0.toNatClampNeg) p1 p2)) ∧ _ ∧ zAll y S ∧ _ := ⟨hu.1, hu.2.1, hu.2.2.1, hu.2.2.2⟩
  obtain ⟨kk, hkk⟩ : ∃ q : Nat, (zk3 (zinb p0 4) (zwib p1 (nI 1) (nI 1000000)) (zfrB (S.1 p0.toNatClampNeg) (S.2.1 p0.toNatClampNeg) p1 p2)) = q := ⟨_, rfl⟩
  have hkb : kk ≤ 3 := by rw [← hkk]; exact zk3_le _ _ _ 
  rw [hkk] at hr0 hv0
  subst hr0
  refine z_widen (k := cells + 4) (n := slots + 24) (by omega) (by omega) ?_
  have hM1 := zMA_eq hXF hM
  refine z_istore (lv' := [(6, .int (nI kk)), (5, .int (nI (5 * t))), (0, .ref b), (1, .ref (zad g 0)), (2, .ref (zad g 2)), (3, .ref (zad g 11)), (4, .ref (zad g 12))]) 1203 C dL_law_1203 (by decide) rfl ?_
  refine z_aload_n 1205 C dL_law_1205 rfl 4 rfl ?_
  refine z_aload_n 1206 C dL_law_1206 rfl 2 rfl ?_
  refine z_iload 1207 C dL_law_1207 1 rfl ?_
  refine z_iconst (v := nI 1) 1209 C dL_law_1209 rfl ?_
  refine z_iadd (v := nI ((5 * t) + 1)) 1210 C dL_law_1210 (nI_add (5 * t) 1) ?_
  refine z_sld 1211 C hX hbl hbA (show (5 * t) + 1 < L by omega) hL hp0 dL_law_1211 ?_
  refine z_aload_n 1212 C dL_law_1212 rfl 2 rfl ?_
  refine z_iload 1213 C dL_law_1213 1 rfl ?_
  refine z_iconst (v := nI 2) 1215 C dL_law_1215 rfl ?_
  refine z_iadd (v := nI ((5 * t) + 2)) 1216 C dL_law_1216 (nI_add (5 * t) 2) ?_
  refine z_sld 1217 C hX hbl hbA (show (5 * t) + 2 < L by omega) hL hp1 dL_law_1217 ?_
  refine z_aload_n 1218 C dL_law_1218 rfl 2 rfl ?_
  refine z_iload 1219 C dL_law_1219 1 rfl ?_
  refine z_iconst (v := nI 3) 1221 C dL_law_1221 rfl ?_
  refine z_iadd (v := nI ((5 * t) + 3)) 1222 C dL_law_1222 (nI_add (5 * t) 3) ?_
  refine z_sld 1223 C hX hbl hbA (show (5 * t) + 3 < L by omega) hL hp2 dL_law_1223 ?_
  refine z_callVi 1224 C (As := [.int p0, .int p1, .int p2]) 3 kO_model rfl (c_X6_frequentAt l C.2.2.1 y S hM1 p0 p1 p2) (cwV 3 C.1.2.2.2.2 gL_law_X6_frequentAt rfl rfl rfl (by decide +kernel) ⟨Nat.le_of_ble_eq_true rfl, Nat.le_of_ble_eq_true rfl⟩) rfl rfl (Nat.le_of_ble_eq_true rfl) ⟨by show cells + 4 + 0 ≤ 601024; omega, by show slots + 24 + 0 ≤ 7293034; omega⟩ dL_law_1224 (fun r2 z hz => ?_)
  obtain ⟨⟨hth, hMz, hOz⟩, hvz⟩ := hz
  rw [hkk] at hth hvz
  have hAz := zAll_eq hOz hXA
  refine z_widen (k := cells + 4) (n := slots + 24) (Nat.le_refl _) (Nat.le_refl _) ?_
  refine z_istore (lv' := [(7, .int r2), (6, .int (nI kk)), (5, .int (nI (5 * t))), (0, .ref b), (1, .ref (zad g 0)), (2, .ref (zad g 2)), (3, .ref (zad g 11)), (4, .ref (zad g 12))]) 1227 C dL_law_1227 (by decide) rfl ?_
  refine z_aload_n 1229 C dL_law_1229 rfl 5 rfl ?_
  refine z_callVi 1230 C (As := []) 0 kO_model rfl (c_X6_thrown l C.2.2.1 z) (cwV 0 C.1.2.2.2.2 gL_law_X6_thrown rfl rfl rfl (by decide +kernel) ⟨Nat.le_of_ble_eq_true rfl, Nat.le_of_ble_eq_true rfl⟩) rfl rfl (Nat.le_of_ble_eq_true rfl) ⟨by show cells + 4 + 0 ≤ 601024; omega, by show slots + 24 + 0 ≤ 7293034; omega⟩ dL_law_1230 (fun r3 w hw => ?_)
  obtain ⟨hw1, hw2⟩ := hw
  subst w
  rw [hth] at hw2
  subst r3
  refine z_widen (k := cells + 4) (n := slots + 24) (Nat.le_refl _) (Nat.le_refl _) ?_
  refine z_iload 1233 C dL_law_1233 1 rfl ?_
  refine z_icmp_eqN 1235 C 1240 dL_law_1235 (by decide) (by omega) (by omega) (fun h1235 => ?_) (fun h1235 => absurd rfl h1235)
  refine z_iload 1240 C dL_law_1240 1 rfl ?_
  refine z_if_neN 1242 C 1257 dL_law_1242 (by decide) (by omega) (fun h1242 => ?_) (fun h1242 => ?_)
  · refine z_goto 1257 C 1927 dL_law_1257 (by decide) ?_
    refine z_lv (lv' := [(5, .int (nI (5 * t))), (0, .ref b), (1, .ref (zad g 0)), (2, .ref (zad g 2)), (3, .ref (zad g 11)), (4, .ref (zad g 12))]) [2, 3, 4, 5, 6, 7] rfl ?_
    exact hcont z S hAz hMz hG
  · refine z_aload_n 1245 C dL_law_1245 rfl 6 rfl ?_
    refine z_iconst (v := nI 0) 1246 C dL_law_1246 rfl ?_
    refine z_lald (v := (z.2.1 11) 0) 1247 C kL_11 (by omega) rfl dL_law_1247 ?_
    refine z_iload 1248 C dL_law_1248 0 rfl ?_
    refine z_i2l (v := r2.toInt64) 1250 C dL_law_1250 rfl ?_
    refine z_lcmp (v := lg_cmp ((z.2.1 11) 0) r2.toInt64) 1251 C dL_law_1251 rfl ?_
    refine z_if_eq 1252 C 1257 dL_law_1252 (by decide) (fun h1252 => ?_) (fun h1252 => absurd (show lg_cmp (z.2.1 11 0) (r2.toInt64) = 0 by rw [(hOz.1 11 (by omega)).2, hv0 h1242, hvz h1242]; exact lgc_self _) h1252)
    refine z_goto 1257 C 1927 dL_law_1257 (by decide) ?_
    refine z_lv (lv' := [(5, .int (nI (5 * t))), (0, .ref b), (1, .ref (zad g 0)), (2, .ref (zad g 2)), (3, .ref (zad g 11)), (4, .ref (zad g 12))]) [2, 3, 4, 5, 6, 7] rfl ?_
    exact hcont z S hAz hMz hG
set_option maxHeartbeats 4000000 in
set_option maxRecDepth 100000 in
/-- itemOfRank -/
theorem law_itemOfRank {p : Program} {e : Env} {s : State} {m : MethodId} {below : List Frame} {meth : Method} {c : Code} (l : Launch) (hls : l.stackTraces = false) {b L : Nat} {xs : Nat → Int32} (hL : L ≤ 2560) {g : zG} (C : zC p s m #[Value.ref b] meth c g cL_law 9 RL wsL_law) (hX : va_X b L xs s s.heap) (hbl : b < s.heap.size) (hbA : ¬ zA g b) {t cells slots : Nat} {Q : State → Prop} {x : zT} {S : zS} (ht : 5 * t + 5 ≤ L) (hcs : cells + 4 ≤ 601024 ∧ slots + 24 ≤ 7293034) (hA : zAll x S) (hM : zMA x S) (hG : zGood S) (hcont : ∀ (y : zT) (S' : zS), zAll y S' → zMA y S' → zGood S' → Z p l e room_1 s m #[Value.ref b] below meth c g 9 (cells + 4) (slots + 24) Q y 1927 [(5, .int (nI (5 * t))), (0, .ref b), (1, .ref (zad g 0)), (2, .ref (zad g 2)), (3, .ref (zad g 11)), (4, .ref (zad g 12))] []) : Z p l e room_1 s m #[Value.ref b] below meth c g 9 cells slots Q x 1260 [(5, .int (nI (5 * t))), (0, .ref b), (1, .ref (zad g 0)), (2, .ref (zad g 2)), (3, .ref (zad g 11)), (4, .ref (zad g 12))] [] := by
  obtain ⟨p0, hp0⟩ : ∃ v : Int32, xs ((5 * t) + 1) = v := ⟨_, rfl⟩
  obtain ⟨p1, hp1⟩ : ∃ v : Int32, xs ((5 * t) + 2) = v := ⟨_, rfl⟩
  refine z_aload_n 1260 C dL_law_1260 rfl 2 rfl ?_
  refine z_aload_n 1261 C dL_law_1261 rfl 1 rfl ?_
  refine z_iload 1262 C dL_law_1262 0 rfl ?_
  refine z_iconst (v := nI 1) 1264 C dL_law_1264 rfl ?_
  refine z_iadd (v := nI ((5 * t) + 1)) 1265 C dL_law_1265 (nI_add (5 * t) 1) ?_
  refine z_sld 1266 C hX hbl hbA (show (5 * t) + 1 < L by omega) hL hp0 dL_law_1266 ?_
  refine z_aload_n 1267 C dL_law_1267 rfl 1 rfl ?_
  refine z_iload 1268 C dL_law_1268 0 rfl ?_
  refine z_iconst (v := nI 2) 1270 C dL_law_1270 rfl ?_
  refine z_iadd (v := nI ((5 * t) + 2)) 1271 C dL_law_1271 (nI_add (5 * t) 2) ?_
  refine z_sld 1272 C hX hbl hbA (show (5 * t) + 2 < L by omega) hL hp1 dL_law_1272 ?_
  refine z_aload_n 1273 C dL_law_1273 rfl 4 rfl ?_
  refine z_callSWi 1274 C (As := [.ref (zad g 0), .int p0, .int p1, .ref (zad g 11)]) 4 (c_L_itemOfRank l C.2.2.1 x hls S hA p0 p1) (vx_cwSW 4 C.1.2.2.2.2 gL_law_L_itemOfRank rfl rfl rfl (by decide +kernel) ⟨Nat.le_of_ble_eq_true rfl, Nat.le_of_ble_eq_true rfl⟩) rfl rfl (Nat.le_of_ble_eq_true rfl) ⟨by show cells + 2 ≤ 601024; omega, by show slots + 12 ≤ 7293034; omega⟩ dL_law_1274 (fun r y hu => ?_)
  obtain ⟨hr0, hv0, hXA, hXF⟩ : r = nI (zk2 (zinb p0 4) (zwib p1 (nI 1) (ztot (S.1 p0.toNatClampNeg)))) ∧ _ ∧ zAll y S ∧ _ := ⟨hu.1, hu.2.1, hu.2.2.1, hu.2.2.2⟩
  obtain ⟨kk, hkk⟩ : ∃ q : Nat, (zk2 (zinb p0 4) (zwib p1 (nI 1) (ztot (S.1 p0.toNatClampNeg)))) = q := ⟨_, rfl⟩
  have hkb : kk ≤ 3 := by rw [← hkk]; exact zk2_le _ _ 
  rw [hkk] at hr0 hv0
  subst hr0
  refine z_widen (k := cells + 4) (n := slots + 24) (by omega) (by omega) ?_
  have hM1 := zMA_eq hXF hM
  refine z_istore (lv' := [(6, .int (nI kk)), (5, .int (nI (5 * t))), (0, .ref b), (1, .ref (zad g 0)), (2, .ref (zad g 2)), (3, .ref (zad g 11)), (4, .ref (zad g 12))]) 1277 C dL_law_1277 (by decide) rfl ?_
  refine z_aload_n 1279 C dL_law_1279 rfl 4 rfl ?_
  refine z_aload_n 1280 C dL_law_1280 rfl 2 rfl ?_
  refine z_iload 1281 C dL_law_1281 1 rfl ?_
  refine z_iconst (v := nI 1) 1283 C dL_law_1283 rfl ?_
  refine z_iadd (v := nI ((5 * t) + 1)) 1284 C dL_law_1284 (nI_add (5 * t) 1) ?_
  refine z_sld 1285 C hX hbl hbA (show (5 * t) + 1 < L by omega) hL hp0 dL_law_1285 ?_
  refine z_aload_n 1286 C dL_law_1286 rfl 2 rfl ?_
  refine z_iload 1287 C dL_law_1287 1 rfl ?_
  refine z_iconst (v := nI 2) 1289 C dL_law_1289 rfl ?_
  refine z_iadd (v := nI ((5 * t) + 2)) 1290 C dL_law_1290 (nI_add (5 * t) 2) ?_
  refine z_sld 1291 C hX hbl hbA (show (5 * t) + 2 < L by omega) hL hp1 dL_law_1291 ?_
  refine z_callVi 1292 C (As := [.int p0, .int p1]) 2 kO_model rfl (c_X6_itemOfRank l C.2.2.1 y S hM1 p0 p1) (cwV 2 C.1.2.2.2.2 gL_law_X6_itemOfRank rfl rfl rfl (by decide +kernel) ⟨Nat.le_of_ble_eq_true rfl, Nat.le_of_ble_eq_true rfl⟩) rfl rfl (Nat.le_of_ble_eq_true rfl) ⟨by show cells + 4 + 0 ≤ 601024; omega, by show slots + 24 + 0 ≤ 7293034; omega⟩ dL_law_1292 (fun r2 z hz => ?_)
  obtain ⟨⟨hth, hMz, hOz⟩, hvz⟩ := hz
  rw [hkk] at hth hvz
  have hAz := zAll_eq hOz hXA
  refine z_widen (k := cells + 4) (n := slots + 24) (Nat.le_refl _) (Nat.le_refl _) ?_
  refine z_istore (lv' := [(7, .int r2), (6, .int (nI kk)), (5, .int (nI (5 * t))), (0, .ref b), (1, .ref (zad g 0)), (2, .ref (zad g 2)), (3, .ref (zad g 11)), (4, .ref (zad g 12))]) 1295 C dL_law_1295 (by decide) rfl ?_
  refine z_aload_n 1297 C dL_law_1297 rfl 5 rfl ?_
  refine z_callVi 1298 C (As := []) 0 kO_model rfl (c_X6_thrown l C.2.2.1 z) (cwV 0 C.1.2.2.2.2 gL_law_X6_thrown rfl rfl rfl (by decide +kernel) ⟨Nat.le_of_ble_eq_true rfl, Nat.le_of_ble_eq_true rfl⟩) rfl rfl (Nat.le_of_ble_eq_true rfl) ⟨by show cells + 4 + 0 ≤ 601024; omega, by show slots + 24 + 0 ≤ 7293034; omega⟩ dL_law_1298 (fun r3 w hw => ?_)
  obtain ⟨hw1, hw2⟩ := hw
  subst w
  rw [hth] at hw2
  subst r3
  refine z_widen (k := cells + 4) (n := slots + 24) (Nat.le_refl _) (Nat.le_refl _) ?_
  refine z_iload 1301 C dL_law_1301 1 rfl ?_
  refine z_icmp_eqN 1303 C 1308 dL_law_1303 (by decide) (by omega) (by omega) (fun h1303 => ?_) (fun h1303 => absurd rfl h1303)
  refine z_iload 1308 C dL_law_1308 1 rfl ?_
  refine z_if_neN 1310 C 1325 dL_law_1310 (by decide) (by omega) (fun h1310 => ?_) (fun h1310 => ?_)
  · refine z_goto 1325 C 1927 dL_law_1325 (by decide) ?_
    refine z_lv (lv' := [(5, .int (nI (5 * t))), (0, .ref b), (1, .ref (zad g 0)), (2, .ref (zad g 2)), (3, .ref (zad g 11)), (4, .ref (zad g 12))]) [2, 3, 4, 5, 6, 7] rfl ?_
    exact hcont z S hAz hMz hG
  · refine z_aload_n 1313 C dL_law_1313 rfl 6 rfl ?_
    refine z_iconst (v := nI 0) 1314 C dL_law_1314 rfl ?_
    refine z_lald (v := (z.2.1 11) 0) 1315 C kL_11 (by omega) rfl dL_law_1315 ?_
    refine z_iload 1316 C dL_law_1316 0 rfl ?_
    refine z_i2l (v := r2.toInt64) 1318 C dL_law_1318 rfl ?_
    refine z_lcmp (v := lg_cmp ((z.2.1 11) 0) r2.toInt64) 1319 C dL_law_1319 rfl ?_
    refine z_if_eq 1320 C 1325 dL_law_1320 (by decide) (fun h1320 => ?_) (fun h1320 => absurd (show lg_cmp (z.2.1 11 0) (r2.toInt64) = 0 by rw [(hOz.1 11 (by omega)).2, hv0 h1310, hvz h1310]; exact lgc_self _) h1320)
    refine z_goto 1325 C 1927 dL_law_1325 (by decide) ?_
    refine z_lv (lv' := [(5, .int (nI (5 * t))), (0, .ref b), (1, .ref (zad g 0)), (2, .ref (zad g 2)), (3, .ref (zad g 11)), (4, .ref (zad g 12))]) [2, 3, 4, 5, 6, 7] rfl ?_
    exact hcont z S hAz hMz hG
set_option maxHeartbeats 4000000 in
set_option maxRecDepth 100000 in
/-- signedColumn -/
theorem law_signedColumn {p : Program} {e : Env} {s : State} {m : MethodId} {below : List Frame} {meth : Method} {c : Code} (l : Launch) (hls : l.stackTraces = false) {b L : Nat} {xs : Nat → Int32} (hL : L ≤ 2560) {g : zG} (C : zC p s m #[Value.ref b] meth c g cL_law 9 RL wsL_law) (hX : va_X b L xs s s.heap) (hbl : b < s.heap.size) (hbA : ¬ zA g b) {t cells slots : Nat} {Q : State → Prop} {x : zT} {S : zS} (ht : 5 * t + 5 ≤ L) (hcs : cells + 4 ≤ 601024 ∧ slots + 24 ≤ 7293034) (hA : zAll x S) (hM : zMA x S) (hG : zGood S) (hcont : ∀ (y : zT) (S' : zS), zAll y S' → zMA y S' → zGood S' → Z p l e room_1 s m #[Value.ref b] below meth c g 9 (cells + 4) (slots + 24) Q y 1927 [(5, .int (nI (5 * t))), (0, .ref b), (1, .ref (zad g 0)), (2, .ref (zad g 2)), (3, .ref (zad g 11)), (4, .ref (zad g 12))] []) : Z p l e room_1 s m #[Value.ref b] below meth c g 9 cells slots Q x 1328 [(5, .int (nI (5 * t))), (0, .ref b), (1, .ref (zad g 0)), (2, .ref (zad g 2)), (3, .ref (zad g 11)), (4, .ref (zad g 12))] [] := by
  obtain ⟨p0, hp0⟩ : ∃ v : Int32, xs ((5 * t) + 1) = v := ⟨_, rfl⟩
  obtain ⟨p1, hp1⟩ : ∃ v : Int32, xs ((5 * t) + 2) = v := ⟨_, rfl⟩
  refine z_aload_n 1328 C dL_law_1328 rfl 2 rfl ?_
  refine z_aload_n 1329 C dL_law_1329 rfl 1 rfl ?_
  refine z_iload 1330 C dL_law_1330 0 rfl ?_
  refine z_iconst (v := nI 1) 1332 C dL_law_1332 rfl ?_
  refine z_iadd (v := nI ((5 * t) + 1)) 1333 C dL_law_1333 (nI_add (5 * t) 1) ?_
  refine z_sld 1334 C hX hbl hbA (show (5 * t) + 1 < L by omega) hL hp0 dL_law_1334 ?_
  refine z_aload_n 1335 C dL_law_1335 rfl 1 rfl ?_
  refine z_iload 1336 C dL_law_1336 0 rfl ?_
  refine z_iconst (v := nI 2) 1338 C dL_law_1338 rfl ?_
  refine z_iadd (v := nI ((5 * t) + 2)) 1339 C dL_law_1339 (nI_add (5 * t) 2) ?_
  refine z_sld 1340 C hX hbl hbA (show (5 * t) + 2 < L by omega) hL hp1 dL_law_1340 ?_
  refine z_aload_n 1341 C dL_law_1341 rfl 4 rfl ?_
  refine z_callSWi 1342 C (As := [.ref (zad g 0), .int p0, .int p1, .ref (zad g 11)]) 4 (c_L_signedColumn l C.2.2.1 x hls S hA p0 p1) (vx_cwSW 4 C.1.2.2.2.2 gL_law_L_signedColumn rfl rfl rfl (by decide +kernel) ⟨Nat.le_of_ble_eq_true rfl, Nat.le_of_ble_eq_true rfl⟩) rfl rfl (Nat.le_of_ble_eq_true rfl) ⟨by show cells + 2 ≤ 601024; omega, by show slots + 12 ≤ 7293034; omega⟩ dL_law_1342 (fun r y hu => ?_)
  obtain ⟨hr0, hv0, hXA, hXF⟩ : r = nI (zk1 (zinb p0 5 && zinb p1 64)) ∧ _ ∧ zAll y S ∧ _ := ⟨hu.1, hu.2.1, hu.2.2.1, hu.2.2.2⟩
  obtain ⟨kk, hkk⟩ : ∃ q : Nat, (zk1 (zinb p0 5 && zinb p1 64)) = q := ⟨_, rfl⟩
  have hkb : kk ≤ 3 := by rw [← hkk]; exact zk1_le _ 
  rw [hkk] at hr0 hv0
  subst hr0
  refine z_widen (k := cells + 4) (n := slots + 24) (by omega) (by omega) ?_
  have hM1 := zMA_eq hXF hM
  refine z_istore (lv' := [(6, .int (nI kk)), (5, .int (nI (5 * t))), (0, .ref b), (1, .ref (zad g 0)), (2, .ref (zad g 2)), (3, .ref (zad g 11)), (4, .ref (zad g 12))]) 1345 C dL_law_1345 (by decide) rfl ?_
  refine z_aload_n 1347 C dL_law_1347 rfl 4 rfl ?_
  refine z_aload_n 1348 C dL_law_1348 rfl 2 rfl ?_
  refine z_iload 1349 C dL_law_1349 1 rfl ?_
  refine z_iconst (v := nI 1) 1351 C dL_law_1351 rfl ?_
  refine z_iadd (v := nI ((5 * t) + 1)) 1352 C dL_law_1352 (nI_add (5 * t) 1) ?_
  refine z_sld 1353 C hX hbl hbA (show (5 * t) + 1 < L by omega) hL hp0 dL_law_1353 ?_
  refine z_aload_n 1354 C dL_law_1354 rfl 2 rfl ?_
  refine z_iload 1355 C dL_law_1355 1 rfl ?_
  refine z_iconst (v := nI 2) 1357 C dL_law_1357 rfl ?_
  refine z_iadd (v := nI ((5 * t) + 2)) 1358 C dL_law_1358 (nI_add (5 * t) 2) ?_
  refine z_sld 1359 C hX hbl hbA (show (5 * t) + 2 < L by omega) hL hp1 dL_law_1359 ?_
  refine z_callVi 1360 C (As := [.int p0, .int p1]) 2 kO_model rfl (c_X6_signedColumn l C.2.2.1 y S hM1 p0 p1) (cwV 2 C.1.2.2.2.2 gL_law_X6_signedColumn rfl rfl rfl (by decide +kernel) ⟨Nat.le_of_ble_eq_true rfl, Nat.le_of_ble_eq_true rfl⟩) rfl rfl (Nat.le_of_ble_eq_true rfl) ⟨by show cells + 4 + 0 ≤ 601024; omega, by show slots + 24 + 0 ≤ 7293034; omega⟩ dL_law_1360 (fun r2 z hz => ?_)
  obtain ⟨⟨hth, hMz, hOz⟩, hvz⟩ := hz
  rw [hkk] at hth hvz
  have hAz := zAll_eq hOz hXA
  refine z_widen (k := cells + 4) (n := slots + 24) (Nat.le_refl _) (Nat.le_refl _) ?_
  refine z_istore (lv' := [(7, .int r2), (6, .int (nI kk)), (5, .int (nI (5 * t))), (0, .ref b), (1, .ref (zad g 0)), (2, .ref (zad g 2)), (3, .ref (zad g 11)), (4, .ref (zad g 12))]) 1363 C dL_law_1363 (by decide) rfl ?_
  refine z_aload_n 1365 C dL_law_1365 rfl 5 rfl ?_
  refine z_callVi 1366 C (As := []) 0 kO_model rfl (c_X6_thrown l C.2.2.1 z) (cwV 0 C.1.2.2.2.2 gL_law_X6_thrown rfl rfl rfl (by decide +kernel) ⟨Nat.le_of_ble_eq_true rfl, Nat.le_of_ble_eq_true rfl⟩) rfl rfl (Nat.le_of_ble_eq_true rfl) ⟨by show cells + 4 + 0 ≤ 601024; omega, by show slots + 24 + 0 ≤ 7293034; omega⟩ dL_law_1366 (fun r3 w hw => ?_)
  obtain ⟨hw1, hw2⟩ := hw
  subst w
  rw [hth] at hw2
  subst r3
  refine z_widen (k := cells + 4) (n := slots + 24) (Nat.le_refl _) (Nat.le_refl _) ?_
  refine z_iload 1369 C dL_law_1369 1 rfl ?_
  refine z_icmp_eqN 1371 C 1376 dL_law_1371 (by decide) (by omega) (by omega) (fun h1371 => ?_) (fun h1371 => absurd rfl h1371)
  refine z_iload 1376 C dL_law_1376 1 rfl ?_
  refine z_if_neN 1378 C 1393 dL_law_1378 (by decide) (by omega) (fun h1378 => ?_) (fun h1378 => ?_)
  · refine z_goto 1393 C 1927 dL_law_1393 (by decide) ?_
    refine z_lv (lv' := [(5, .int (nI (5 * t))), (0, .ref b), (1, .ref (zad g 0)), (2, .ref (zad g 2)), (3, .ref (zad g 11)), (4, .ref (zad g 12))]) [2, 3, 4, 5, 6, 7] rfl ?_
    exact hcont z S hAz hMz hG
  · refine z_aload_n 1381 C dL_law_1381 rfl 6 rfl ?_
    refine z_iconst (v := nI 0) 1382 C dL_law_1382 rfl ?_
    refine z_lald (v := (z.2.1 11) 0) 1383 C kL_11 (by omega) rfl dL_law_1383 ?_
    refine z_iload 1384 C dL_law_1384 0 rfl ?_
    refine z_i2l (v := r2.toInt64) 1386 C dL_law_1386 rfl ?_
    refine z_lcmp (v := lg_cmp ((z.2.1 11) 0) r2.toInt64) 1387 C dL_law_1387 rfl ?_
    refine z_if_eq 1388 C 1393 dL_law_1388 (by decide) (fun h1388 => ?_) (fun h1388 => absurd (show lg_cmp (z.2.1 11 0) (r2.toInt64) = 0 by rw [(hOz.1 11 (by omega)).2, hv0 h1378, hvz h1378]; exact lgc_self _) h1388)
    refine z_goto 1393 C 1927 dL_law_1393 (by decide) ?_
    refine z_lv (lv' := [(5, .int (nI (5 * t))), (0, .ref b), (1, .ref (zad g 0)), (2, .ref (zad g 2)), (3, .ref (zad g 11)), (4, .ref (zad g 12))]) [2, 3, 4, 5, 6, 7] rfl ?_
    exact hcont z S hAz hMz hG
set_option maxHeartbeats 4000000 in
set_option maxRecDepth 100000 in
/-- sign -/
theorem law_sign {p : Program} {e : Env} {s : State} {m : MethodId} {below : List Frame} {meth : Method} {c : Code} (l : Launch) (hls : l.stackTraces = false) {b L : Nat} {xs : Nat → Int32} (hL : L ≤ 2560) {g : zG} (C : zC p s m #[Value.ref b] meth c g cL_law 9 RL wsL_law) (hX : va_X b L xs s s.heap) (hbl : b < s.heap.size) (hbA : ¬ zA g b) {t cells slots : Nat} {Q : State → Prop} {x : zT} {S : zS} (ht : 5 * t + 5 ≤ L) (hcs : cells + 4 ≤ 601024 ∧ slots + 24 ≤ 7293034) (hA : zAll x S) (hM : zMA x S) (hG : zGood S) (hcont : ∀ (y : zT) (S' : zS), zAll y S' → zMA y S' → zGood S' → Z p l e room_1 s m #[Value.ref b] below meth c g 9 (cells + 4) (slots + 24) Q y 1927 [(5, .int (nI (5 * t))), (0, .ref b), (1, .ref (zad g 0)), (2, .ref (zad g 2)), (3, .ref (zad g 11)), (4, .ref (zad g 12))] []) : Z p l e room_1 s m #[Value.ref b] below meth c g 9 cells slots Q x 1396 [(5, .int (nI (5 * t))), (0, .ref b), (1, .ref (zad g 0)), (2, .ref (zad g 2)), (3, .ref (zad g 11)), (4, .ref (zad g 12))] [] := by
  obtain ⟨p0, hp0⟩ : ∃ v : Int32, xs ((5 * t) + 1) = v := ⟨_, rfl⟩
  obtain ⟨p1, hp1⟩ : ∃ v : Int32, xs ((5 * t) + 2) = v := ⟨_, rfl⟩
  refine z_aload_n 1396 C dL_law_1396 rfl 2 rfl ?_
  refine z_aload_n 1397 C dL_law_1397 rfl 1 rfl ?_
  refine z_iload 1398 C dL_law_1398 0 rfl ?_
  refine z_iconst (v := nI 1) 1400 C dL_law_1400 rfl ?_
  refine z_iadd (v := nI ((5 * t) + 1)) 1401 C dL_law_1401 (nI_add (5 * t) 1) ?_
  refine z_sld 1402 C hX hbl hbA (show (5 * t) + 1 < L by omega) hL hp0 dL_law_1402 ?_
  refine z_aload_n 1403 C dL_law_1403 rfl 1 rfl ?_
  refine z_iload 1404 C dL_law_1404 0 rfl ?_
  refine z_iconst (v := nI 2) 1406 C dL_law_1406 rfl ?_
  refine z_iadd (v := nI ((5 * t) + 2)) 1407 C dL_law_1407 (nI_add (5 * t) 2) ?_
  refine z_sld 1408 C hX hbl hbA (show (5 * t) + 2 < L by omega) hL hp1 dL_law_1408 ?_
  refine z_aload_n 1409 C dL_law_1409 rfl 4 rfl ?_
  refine z_callSWi 1410 C (As := [.ref (zad g 0), .int p0, .int p1, .ref (zad g 11)]) 4 (c_L_sign l C.2.2.1 x hls S hA p0 p1) (vx_cwSW 4 C.1.2.2.2.2 gL_law_L_sign rfl rfl rfl (by decide +kernel) ⟨Nat.le_of_ble_eq_true rfl, Nat.le_of_ble_eq_true rfl⟩) rfl rfl (Nat.le_of_ble_eq_true rfl) ⟨by show cells + 2 ≤ 601024; omega, by show slots + 12 ≤ 7293034; omega⟩ dL_law_1410 (fun r y hu => ?_)
  obtain ⟨hr0, hv0, hXA, hXF⟩ : r = nI (zk1 (zinb p0 5 && zinb p1 64)) ∧ _ ∧ zAll y S ∧ _ := ⟨hu.1, hu.2.1, hu.2.2.1, hu.2.2.2⟩
  obtain ⟨kk, hkk⟩ : ∃ q : Nat, (zk1 (zinb p0 5 && zinb p1 64)) = q := ⟨_, rfl⟩
  have hkb : kk ≤ 3 := by rw [← hkk]; exact zk1_le _ 
  rw [hkk] at hr0 hv0
  subst hr0
  refine z_widen (k := cells + 4) (n := slots + 24) (by omega) (by omega) ?_
  have hM1 := zMA_eq hXF hM
  refine z_istore (lv' := [(6, .int (nI kk)), (5, .int (nI (5 * t))), (0, .ref b), (1, .ref (zad g 0)), (2, .ref (zad g 2)), (3, .ref (zad g 11)), (4, .ref (zad g 12))]) 1413 C dL_law_1413 (by decide) rfl ?_
  refine z_aload_n 1415 C dL_law_1415 rfl 4 rfl ?_
  refine z_aload_n 1416 C dL_law_1416 rfl 2 rfl ?_
  refine z_iload 1417 C dL_law_1417 1 rfl ?_
  refine z_iconst (v := nI 1) 1419 C dL_law_1419 rfl ?_
  refine z_iadd (v := nI ((5 * t) + 1)) 1420 C dL_law_1420 (nI_add (5 * t) 1) ?_
  refine z_sld 1421 C hX hbl hbA (show (5 * t) + 1 < L by omega) hL hp0 dL_law_1421 ?_
  refine z_aload_n 1422 C dL_law_1422 rfl 2 rfl ?_
  refine z_iload 1423 C dL_law_1423 1 rfl ?_
  refine z_iconst (v := nI 2) 1425 C dL_law_1425 rfl ?_
  refine z_iadd (v := nI ((5 * t) + 2)) 1426 C dL_law_1426 (nI_add (5 * t) 2) ?_
  refine z_sld 1427 C hX hbl hbA (show (5 * t) + 2 < L by omega) hL hp1 dL_law_1427 ?_
  refine z_callVi 1428 C (As := [.int p0, .int p1]) 2 kO_model rfl (c_X6_sign l C.2.2.1 y S hM1 p0 p1) (cwV 2 C.1.2.2.2.2 gL_law_X6_sign rfl rfl rfl (by decide +kernel) ⟨Nat.le_of_ble_eq_true rfl, Nat.le_of_ble_eq_true rfl⟩) rfl rfl (Nat.le_of_ble_eq_true rfl) ⟨by show cells + 4 + 0 ≤ 601024; omega, by show slots + 24 + 0 ≤ 7293034; omega⟩ dL_law_1428 (fun r2 z hz => ?_)
  obtain ⟨⟨hth, hMz, hOz⟩, hvz⟩ := hz
  rw [hkk] at hth hvz
  have hAz := zAll_eq hOz hXA
  refine z_widen (k := cells + 4) (n := slots + 24) (Nat.le_refl _) (Nat.le_refl _) ?_
  refine z_istore (lv' := [(7, .int r2), (6, .int (nI kk)), (5, .int (nI (5 * t))), (0, .ref b), (1, .ref (zad g 0)), (2, .ref (zad g 2)), (3, .ref (zad g 11)), (4, .ref (zad g 12))]) 1431 C dL_law_1431 (by decide) rfl ?_
  refine z_aload_n 1433 C dL_law_1433 rfl 5 rfl ?_
  refine z_callVi 1434 C (As := []) 0 kO_model rfl (c_X6_thrown l C.2.2.1 z) (cwV 0 C.1.2.2.2.2 gL_law_X6_thrown rfl rfl rfl (by decide +kernel) ⟨Nat.le_of_ble_eq_true rfl, Nat.le_of_ble_eq_true rfl⟩) rfl rfl (Nat.le_of_ble_eq_true rfl) ⟨by show cells + 4 + 0 ≤ 601024; omega, by show slots + 24 + 0 ≤ 7293034; omega⟩ dL_law_1434 (fun r3 w hw => ?_)
  obtain ⟨hw1, hw2⟩ := hw
  subst w
  rw [hth] at hw2
  subst r3
  refine z_widen (k := cells + 4) (n := slots + 24) (Nat.le_refl _) (Nat.le_refl _) ?_
  refine z_iload 1437 C dL_law_1437 1 rfl ?_
  refine z_icmp_eqN 1439 C 1444 dL_law_1439 (by decide) (by omega) (by omega) (fun h1439 => ?_) (fun h1439 => absurd rfl h1439)
  refine z_iload 1444 C dL_law_1444 1 rfl ?_
  refine z_if_neN 1446 C 1461 dL_law_1446 (by decide) (by omega) (fun h1446 => ?_) (fun h1446 => ?_)
  · refine z_goto 1461 C 1927 dL_law_1461 (by decide) ?_
    refine z_lv (lv' := [(5, .int (nI (5 * t))), (0, .ref b), (1, .ref (zad g 0)), (2, .ref (zad g 2)), (3, .ref (zad g 11)), (4, .ref (zad g 12))]) [2, 3, 4, 5, 6, 7] rfl ?_
    exact hcont z S hAz hMz hG
  · refine z_aload_n 1449 C dL_law_1449 rfl 6 rfl ?_
    refine z_iconst (v := nI 0) 1450 C dL_law_1450 rfl ?_
    refine z_lald (v := (z.2.1 11) 0) 1451 C kL_11 (by omega) rfl dL_law_1451 ?_
    refine z_iload 1452 C dL_law_1452 0 rfl ?_
    refine z_i2l (v := r2.toInt64) 1454 C dL_law_1454 rfl ?_
    refine z_lcmp (v := lg_cmp ((z.2.1 11) 0) r2.toInt64) 1455 C dL_law_1455 rfl ?_
    refine z_if_eq 1456 C 1461 dL_law_1456 (by decide) (fun h1456 => ?_) (fun h1456 => absurd (show lg_cmp (z.2.1 11 0) (r2.toInt64) = 0 by rw [(hOz.1 11 (by omega)).2, hv0 h1446, hvz h1446]; exact lgc_self _) h1456)
    refine z_goto 1461 C 1927 dL_law_1461 (by decide) ?_
    refine z_lv (lv' := [(5, .int (nI (5 * t))), (0, .ref b), (1, .ref (zad g 0)), (2, .ref (zad g 2)), (3, .ref (zad g 11)), (4, .ref (zad g 12))]) [2, 3, 4, 5, 6, 7] rfl ?_
    exact hcont z S hAz hMz hG
set_option maxHeartbeats 4000000 in
set_option maxRecDepth 100000 in
/-- signedCell -/
theorem law_signedCell {p : Program} {e : Env} {s : State} {m : MethodId} {below : List Frame} {meth : Method} {c : Code} (l : Launch) (hls : l.stackTraces = false) {b L : Nat} {xs : Nat → Int32} (hL : L ≤ 2560) {g : zG} (C : zC p s m #[Value.ref b] meth c g cL_law 9 RL wsL_law) (hX : va_X b L xs s s.heap) (hbl : b < s.heap.size) (hbA : ¬ zA g b) {t cells slots : Nat} {Q : State → Prop} {x : zT} {S : zS} (ht : 5 * t + 5 ≤ L) (hcs : cells + 4 ≤ 601024 ∧ slots + 24 ≤ 7293034) (hA : zAll x S) (hM : zMA x S) (hG : zGood S) (hcont : ∀ (y : zT) (S' : zS), zAll y S' → zMA y S' → zGood S' → Z p l e room_1 s m #[Value.ref b] below meth c g 9 (cells + 4) (slots + 24) Q y 1927 [(5, .int (nI (5 * t))), (0, .ref b), (1, .ref (zad g 0)), (2, .ref (zad g 2)), (3, .ref (zad g 11)), (4, .ref (zad g 12))] []) : Z p l e room_1 s m #[Value.ref b] below meth c g 9 cells slots Q x 1464 [(5, .int (nI (5 * t))), (0, .ref b), (1, .ref (zad g 0)), (2, .ref (zad g 2)), (3, .ref (zad g 11)), (4, .ref (zad g 12))] [] := by
  obtain ⟨p0, hp0⟩ : ∃ v : Int32, xs ((5 * t) + 1) = v := ⟨_, rfl⟩
  obtain ⟨p1, hp1⟩ : ∃ v : Int32, xs ((5 * t) + 2) = v := ⟨_, rfl⟩
  obtain ⟨p2, hp2⟩ : ∃ v : Int32, xs ((5 * t) + 3) = v := ⟨_, rfl⟩
  refine z_aload_n 1464 C dL_law_1464 rfl 2 rfl ?_
  refine z_aload_n 1465 C dL_law_1465 rfl 1 rfl ?_
  refine z_iload 1466 C dL_law_1466 0 rfl ?_
  refine z_iconst (v := nI 1) 1468 C dL_law_1468 rfl ?_
  refine z_iadd (v := nI ((5 * t) + 1)) 1469 C dL_law_1469 (nI_add (5 * t) 1) ?_
  refine z_sld 1470 C hX hbl hbA (show (5 * t) + 1 < L by omega) hL hp0 dL_law_1470 ?_
  refine z_aload_n 1471 C dL_law_1471 rfl 1 rfl ?_
  refine z_iload 1472 C dL_law_1472 0 rfl ?_
  refine z_iconst (v := nI 2) 1474 C dL_law_1474 rfl ?_
  refine z_iadd (v := nI ((5 * t) + 2)) 1475 C dL_law_1475 (nI_add (5 * t) 2) ?_
  refine z_sld 1476 C hX hbl hbA (show (5 * t) + 2 < L by omega) hL hp1 dL_law_1476 ?_
  refine z_aload_n 1477 C dL_law_1477 rfl 1 rfl ?_
  refine z_iload 1478 C dL_law_1478 0 rfl ?_
  refine z_iconst (v := nI 3) 1480 C dL_law_1480 rfl ?_
  refine z_iadd (v := nI ((5 * t) + 3)) 1481 C dL_law_1481 (nI_add (5 * t) 3) ?_
  refine z_sld 1482 C hX hbl hbA (show (5 * t) + 3 < L by omega) hL hp2 dL_law_1482 ?_
  refine z_aload_n 1483 C dL_law_1483 rfl 4 rfl ?_
  refine z_callSWi 1484 C (As := [.ref (zad g 0), .int p0, .int p1, .int p2, .ref (zad g 11)]) 5 (c_L_signedCell l C.2.2.1 x hls S hA p0 p1 p2) (vx_cwSW 5 C.1.2.2.2.2 gL_law_L_signedCell rfl rfl rfl (by decide +kernel) ⟨Nat.le_of_ble_eq_true rfl, Nat.le_of_ble_eq_true rfl⟩) rfl rfl (Nat.le_of_ble_eq_true rfl) ⟨by show cells + 3 ≤ 601024; omega, by show slots + 18 ≤ 7293034; omega⟩ dL_law_1484 (fun r y hu => ?_)
  obtain ⟨hr0, hv0, hXA, hXF⟩ : r = nI (zk1 (zinb p0 4 && (zinb p1 5 && zinb p2 8))) ∧ _ ∧ zAll y S ∧ _ := ⟨hu.1, hu.2.1, hu.2.2.1, hu.2.2.2⟩
  obtain ⟨kk, hkk⟩ : ∃ q : Nat, (zk1 (zinb p0 4 && (zinb p1 5 && zinb p2 8))) = q := ⟨_, rfl⟩
  have hkb : kk ≤ 3 := by rw [← hkk]; exact zk1_le _ 
  rw [hkk] at hr0 hv0
  subst hr0
  refine z_widen (k := cells + 4) (n := slots + 24) (by omega) (by omega) ?_
  have hM1 := zMA_eq hXF hM
  refine z_istore (lv' := [(6, .int (nI kk)), (5, .int (nI (5 * t))), (0, .ref b), (1, .ref (zad g 0)), (2, .ref (zad g 2)), (3, .ref (zad g 11)), (4, .ref (zad g 12))]) 1487 C dL_law_1487 (by decide) rfl ?_
  refine z_aload_n 1489 C dL_law_1489 rfl 4 rfl ?_
  refine z_aload_n 1490 C dL_law_1490 rfl 2 rfl ?_
  refine z_iload 1491 C dL_law_1491 1 rfl ?_
  refine z_iconst (v := nI 1) 1493 C dL_law_1493 rfl ?_
  refine z_iadd (v := nI ((5 * t) + 1)) 1494 C dL_law_1494 (nI_add (5 * t) 1) ?_
  refine z_sld 1495 C hX hbl hbA (show (5 * t) + 1 < L by omega) hL hp0 dL_law_1495 ?_
  refine z_aload_n 1496 C dL_law_1496 rfl 2 rfl ?_
  refine z_iload 1497 C dL_law_1497 1 rfl ?_
  refine z_iconst (v := nI 2) 1499 C dL_law_1499 rfl ?_
  refine z_iadd (v := nI ((5 * t) + 2)) 1500 C dL_law_1500 (nI_add (5 * t) 2) ?_
  refine z_sld 1501 C hX hbl hbA (show (5 * t) + 2 < L by omega) hL hp1 dL_law_1501 ?_
  refine z_aload_n 1502 C dL_law_1502 rfl 2 rfl ?_
  refine z_iload 1503 C dL_law_1503 1 rfl ?_
  refine z_iconst (v := nI 3) 1505 C dL_law_1505 rfl ?_
  refine z_iadd (v := nI ((5 * t) + 3)) 1506 C dL_law_1506 (nI_add (5 * t) 3) ?_
  refine z_sld 1507 C hX hbl hbA (show (5 * t) + 3 < L by omega) hL hp2 dL_law_1507 ?_
  refine z_callVi 1508 C (As := [.int p0, .int p1, .int p2]) 3 kO_model rfl (c_X6_signedCell l C.2.2.1 y S hM1 p0 p1 p2) (cwV 3 C.1.2.2.2.2 gL_law_X6_signedCell rfl rfl rfl (by decide +kernel) ⟨Nat.le_of_ble_eq_true rfl, Nat.le_of_ble_eq_true rfl⟩) rfl rfl (Nat.le_of_ble_eq_true rfl) ⟨by show cells + 4 + 0 ≤ 601024; omega, by show slots + 24 + 0 ≤ 7293034; omega⟩ dL_law_1508 (fun r2 z hz => ?_)
  obtain ⟨⟨hth, hMz, hOz⟩, hvz⟩ := hz
  rw [hkk] at hth hvz
  have hAz := zAll_eq hOz hXA
  refine z_widen (k := cells + 4) (n := slots + 24) (Nat.le_refl _) (Nat.le_refl _) ?_
  refine z_istore (lv' := [(7, .int r2), (6, .int (nI kk)), (5, .int (nI (5 * t))), (0, .ref b), (1, .ref (zad g 0)), (2, .ref (zad g 2)), (3, .ref (zad g 11)), (4, .ref (zad g 12))]) 1511 C dL_law_1511 (by decide) rfl ?_
  refine z_aload_n 1513 C dL_law_1513 rfl 5 rfl ?_
  refine z_callVi 1514 C (As := []) 0 kO_model rfl (c_X6_thrown l C.2.2.1 z) (cwV 0 C.1.2.2.2.2 gL_law_X6_thrown rfl rfl rfl (by decide +kernel) ⟨Nat.le_of_ble_eq_true rfl, Nat.le_of_ble_eq_true rfl⟩) rfl rfl (Nat.le_of_ble_eq_true rfl) ⟨by show cells + 4 + 0 ≤ 601024; omega, by show slots + 24 + 0 ≤ 7293034; omega⟩ dL_law_1514 (fun r3 w hw => ?_)
  obtain ⟨hw1, hw2⟩ := hw
  subst w
  rw [hth] at hw2
  subst r3
  refine z_widen (k := cells + 4) (n := slots + 24) (Nat.le_refl _) (Nat.le_refl _) ?_
  refine z_iload 1517 C dL_law_1517 1 rfl ?_
  refine z_icmp_eqN 1519 C 1524 dL_law_1519 (by decide) (by omega) (by omega) (fun h1519 => ?_) (fun h1519 => absurd rfl h1519)
  refine z_iload 1524 C dL_law_1524 1 rfl ?_
  refine z_if_neN 1526 C 1541 dL_law_1526 (by decide) (by omega) (fun h1526 => ?_) (fun h1526 => ?_)
  · refine z_goto 1541 C 1927 dL_law_1541 (by decide) ?_
    refine z_lv (lv' := [(5, .int (nI (5 * t))), (0, .ref b), (1, .ref (zad g 0)), (2, .ref (zad g 2)), (3, .ref (zad g 11)), (4, .ref (zad g 12))]) [2, 3, 4, 5, 6, 7] rfl ?_
    exact hcont z S hAz hMz hG
  · refine z_aload_n 1529 C dL_law_1529 rfl 6 rfl ?_
    refine z_iconst (v := nI 0) 1530 C dL_law_1530 rfl ?_
    refine z_lald (v := (z.2.1 11) 0) 1531 C kL_11 (by omega) rfl dL_law_1531 ?_
    refine z_iload 1532 C dL_law_1532 0 rfl ?_
    refine z_i2l (v := r2.toInt64) 1534 C dL_law_1534 rfl ?_
    refine z_lcmp (v := lg_cmp ((z.2.1 11) 0) r2.toInt64) 1535 C dL_law_1535 rfl ?_
    refine z_if_eq 1536 C 1541 dL_law_1536 (by decide) (fun h1536 => ?_) (fun h1536 => absurd (show lg_cmp (z.2.1 11 0) (r2.toInt64) = 0 by rw [(hOz.1 11 (by omega)).2, hv0 h1526, hvz h1526]; exact lgc_self _) h1536)
    refine z_goto 1541 C 1927 dL_law_1541 (by decide) ?_
    refine z_lv (lv' := [(5, .int (nI (5 * t))), (0, .ref b), (1, .ref (zad g 0)), (2, .ref (zad g 2)), (3, .ref (zad g 11)), (4, .ref (zad g 12))]) [2, 3, 4, 5, 6, 7] rfl ?_
    exact hcont z S hAz hMz hG
set_option maxHeartbeats 4000000 in
set_option maxRecDepth 100000 in
/-- signedEstimate -/
theorem law_signedEstimate {p : Program} {e : Env} {s : State} {m : MethodId} {below : List Frame} {meth : Method} {c : Code} (l : Launch) (hls : l.stackTraces = false) {b L : Nat} {xs : Nat → Int32} (hL : L ≤ 2560) {g : zG} (C : zC p s m #[Value.ref b] meth c g cL_law 9 RL wsL_law) (hX : va_X b L xs s s.heap) (hbl : b < s.heap.size) (hbA : ¬ zA g b) {t cells slots : Nat} {Q : State → Prop} {x : zT} {S : zS} (ht : 5 * t + 5 ≤ L) (hcs : cells + 4 ≤ 601024 ∧ slots + 24 ≤ 7293034) (hA : zAll x S) (hM : zMA x S) (hG : zGood S) (hcont : ∀ (y : zT) (S' : zS), zAll y S' → zMA y S' → zGood S' → Z p l e room_1 s m #[Value.ref b] below meth c g 9 (cells + 4) (slots + 24) Q y 1927 [(5, .int (nI (5 * t))), (0, .ref b), (1, .ref (zad g 0)), (2, .ref (zad g 2)), (3, .ref (zad g 11)), (4, .ref (zad g 12))] []) : Z p l e room_1 s m #[Value.ref b] below meth c g 9 cells slots Q x 1544 [(5, .int (nI (5 * t))), (0, .ref b), (1, .ref (zad g 0)), (2, .ref (zad g 2)), (3, .ref (zad g 11)), (4, .ref (zad g 12))] [] := by
  obtain ⟨p0, hp0⟩ : ∃ v : Int32, xs ((5 * t) + 1) = v := ⟨_, rfl⟩
  obtain ⟨p1, hp1⟩ : ∃ v : Int32, xs ((5 * t) + 2) = v := ⟨_, rfl⟩
  refine z_aload_n 1544 C dL_law_1544 rfl 2 rfl ?_
  refine z_aload_n 1545 C dL_law_1545 rfl 1 rfl ?_
  refine z_iload 1546 C dL_law_1546 0 rfl ?_
  refine z_iconst (v := nI 1) 1548 C dL_law_1548 rfl ?_
  refine z_iadd (v := nI ((5 * t) + 1)) 1549 C dL_law_1549 (nI_add (5 * t) 1) ?_
  refine z_sld 1550 C hX hbl hbA (show (5 * t) + 1 < L by omega) hL hp0 dL_law_1550 ?_
  refine z_aload_n 1551 C dL_law_1551 rfl 1 rfl ?_
  refine z_iload 1552 C dL_law_1552 0 rfl ?_
  refine z_iconst (v := nI 2) 1554 C dL_law_1554 rfl ?_
  refine z_iadd (v := nI ((5 * t) + 2)) 1555 C dL_law_1555 (nI_add (5 * t) 2) ?_
  refine z_sld 1556 C hX hbl hbA (show (5 * t) + 2 < L by omega) hL hp1 dL_law_1556 ?_
  refine z_aload_n 1557 C dL_law_1557 rfl 4 rfl ?_
  refine z_callSWi 1558 C (As := [.ref (zad g 0), .int p0, .int p1, .ref (zad g 11)]) 4 (c_L_signedEstimate l C.2.2.1 x hls S hA p0 p1) (vx_cwSW 4 C.1.2.2.2.2 gL_law_L_signedEstimate rfl rfl rfl (by decide +kernel) ⟨Nat.le_of_ble_eq_true rfl, Nat.le_of_ble_eq_true rfl⟩) rfl rfl (Nat.le_of_ble_eq_true rfl) ⟨by show cells + 2 ≤ 601024; omega, by show slots + 12 ≤ 7293034; omega⟩ dL_law_1558 (fun r y hu => ?_)
  obtain ⟨hr0, hv0, hXA, hXF⟩ : r = nI (zk1 (zinb p0 4 && zinb p1 64)) ∧ _ ∧ zAll y S ∧ _ := ⟨hu.1, hu.2.1, hu.2.2.1.1, hu.2.2.1.2⟩
  have hEx := hu.2.2.2
  obtain ⟨kk, hkk⟩ : ∃ q : Nat, (zk1 (zinb p0 4 && zinb p1 64)) = q := ⟨_, rfl⟩
  have hkb : kk ≤ 3 := by rw [← hkk]; exact zk1_le _ 
  rw [hkk] at hr0 hv0
  subst hr0
  refine z_widen (k := cells + 4) (n := slots + 24) (by omega) (by omega) ?_
  have hM1 := zMA_eq hXF hM
  refine z_istore (lv' := [(6, .int (nI kk)), (5, .int (nI (5 * t))), (0, .ref b), (1, .ref (zad g 0)), (2, .ref (zad g 2)), (3, .ref (zad g 11)), (4, .ref (zad g 12))]) 1561 C dL_law_1561 (by decide) rfl ?_
  refine z_aload_n 1563 C dL_law_1563 rfl 4 rfl ?_
  refine z_aload_n 1564 C dL_law_1564 rfl 2 rfl ?_
  refine z_iload 1565 C dL_law_1565 1 rfl ?_
  refine z_iconst (v := nI 1) 1567 C dL_law_1567 rfl ?_
  refine z_iadd (v := nI ((5 * t) + 1)) 1568 C dL_law_1568 (nI_add (5 * t) 1) ?_
  refine z_sld 1569 C hX hbl hbA (show (5 * t) + 1 < L by omega) hL hp0 dL_law_1569 ?_
  refine z_aload_n 1570 C dL_law_1570 rfl 2 rfl ?_
  refine z_iload 1571 C dL_law_1571 1 rfl ?_
  refine z_iconst (v := nI 2) 1573 C dL_law_1573 rfl ?_
  refine z_iadd (v := nI ((5 * t) + 2)) 1574 C dL_law_1574 (nI_add (5 * t) 2) ?_
  refine z_sld 1575 C hX hbl hbA (show (5 * t) + 2 < L by omega) hL hp1 dL_law_1575 ?_
  have hE : ∀ j i, j < 4 → i < 64 → p0 = nI j → p1 = nI i → ∃ m, zsest (S.1 j) i m := fun j i hj hi e0 e1 => by
    have h9 := hEx (by rw [e0, e1, zinb_nI hj (by decide), zinb_nI hi (by decide)]; rfl)
    rw [e0, e1, nI_clamp (by omega), nI_clamp (by omega)] at h9
    exact h9
  refine z_callVi 1576 C (As := [.int p0, .int p1]) 2 kO_model rfl (c_X6_signedEstimate l C.2.2.1 y S hM1 p0 p1 (zGood_hB hG) hE) (cwV 2 C.1.2.2.2.2 gL_law_X6_signedEstimate rfl rfl rfl (by decide +kernel) ⟨Nat.le_of_ble_eq_true rfl, Nat.le_of_ble_eq_true rfl⟩) rfl rfl (Nat.le_of_ble_eq_true rfl) ⟨by show cells + 4 + 0 ≤ 601024; omega, by show slots + 24 + 0 ≤ 7293034; omega⟩ dL_law_1576 (fun r2 z hz => ?_)
  obtain ⟨⟨hth, hMz, hOz⟩, hvz⟩ := hz
  rw [hkk] at hth hvz
  have hAz := zAll_eq hOz hXA
  refine z_widen (k := cells + 4) (n := slots + 24) (Nat.le_refl _) (Nat.le_refl _) ?_
  refine z_istore (lv' := [(7, .int r2), (6, .int (nI kk)), (5, .int (nI (5 * t))), (0, .ref b), (1, .ref (zad g 0)), (2, .ref (zad g 2)), (3, .ref (zad g 11)), (4, .ref (zad g 12))]) 1579 C dL_law_1579 (by decide) rfl ?_
  refine z_aload_n 1581 C dL_law_1581 rfl 5 rfl ?_
  refine z_callVi 1582 C (As := []) 0 kO_model rfl (c_X6_thrown l C.2.2.1 z) (cwV 0 C.1.2.2.2.2 gL_law_X6_thrown rfl rfl rfl (by decide +kernel) ⟨Nat.le_of_ble_eq_true rfl, Nat.le_of_ble_eq_true rfl⟩) rfl rfl (Nat.le_of_ble_eq_true rfl) ⟨by show cells + 4 + 0 ≤ 601024; omega, by show slots + 24 + 0 ≤ 7293034; omega⟩ dL_law_1582 (fun r3 w hw => ?_)
  obtain ⟨hw1, hw2⟩ := hw
  subst w
  rw [hth] at hw2
  subst r3
  refine z_widen (k := cells + 4) (n := slots + 24) (Nat.le_refl _) (Nat.le_refl _) ?_
  refine z_iload 1585 C dL_law_1585 1 rfl ?_
  refine z_icmp_eqN 1587 C 1592 dL_law_1587 (by decide) (by omega) (by omega) (fun h1587 => ?_) (fun h1587 => absurd rfl h1587)
  refine z_iload 1592 C dL_law_1592 1 rfl ?_
  refine z_if_neN 1594 C 1609 dL_law_1594 (by decide) (by omega) (fun h1594 => ?_) (fun h1594 => ?_)
  · refine z_goto 1609 C 1927 dL_law_1609 (by decide) ?_
    refine z_lv (lv' := [(5, .int (nI (5 * t))), (0, .ref b), (1, .ref (zad g 0)), (2, .ref (zad g 2)), (3, .ref (zad g 11)), (4, .ref (zad g 12))]) [2, 3, 4, 5, 6, 7] rfl ?_
    exact hcont z S hAz hMz hG
  · refine z_aload_n 1597 C dL_law_1597 rfl 6 rfl ?_
    refine z_iconst (v := nI 0) 1598 C dL_law_1598 rfl ?_
    refine z_lald (v := (z.2.1 11) 0) 1599 C kL_11 (by omega) rfl dL_law_1599 ?_
    refine z_iload 1600 C dL_law_1600 0 rfl ?_
    refine z_i2l (v := r2.toInt64) 1602 C dL_law_1602 rfl ?_
    refine z_lcmp (v := lg_cmp ((z.2.1 11) 0) r2.toInt64) 1603 C dL_law_1603 rfl ?_
    refine z_if_eq 1604 C 1609 dL_law_1604 (by decide) (fun h1604 => ?_) (fun h1604 => absurd (show lg_cmp (z.2.1 11 0) (r2.toInt64) = 0 by rw [(hOz.1 11 (by omega)).2, hv0 h1594, hvz h1594]; exact lgc_self _) h1604)
    refine z_goto 1609 C 1927 dL_law_1609 (by decide) ?_
    refine z_lv (lv' := [(5, .int (nI (5 * t))), (0, .ref b), (1, .ref (zad g 0)), (2, .ref (zad g 2)), (3, .ref (zad g 11)), (4, .ref (zad g 12))]) [2, 3, 4, 5, 6, 7] rfl ?_
    exact hcont z S hAz hMz hG
set_option maxHeartbeats 4000000 in
set_option maxRecDepth 100000 in
/-- signedProduct -/
theorem law_signedProduct {p : Program} {e : Env} {s : State} {m : MethodId} {below : List Frame} {meth : Method} {c : Code} (l : Launch) (hls : l.stackTraces = false) {b L : Nat} {xs : Nat → Int32} (hL : L ≤ 2560) {g : zG} (C : zC p s m #[Value.ref b] meth c g cL_law 9 RL wsL_law) (hX : va_X b L xs s s.heap) (hbl : b < s.heap.size) (hbA : ¬ zA g b) {t cells slots : Nat} {Q : State → Prop} {x : zT} {S : zS} (ht : 5 * t + 5 ≤ L) (hcs : cells + 4 ≤ 601024 ∧ slots + 24 ≤ 7293034) (hA : zAll x S) (hM : zMA x S) (hG : zGood S) (hcont : ∀ (y : zT) (S' : zS), zAll y S' → zMA y S' → zGood S' → Z p l e room_1 s m #[Value.ref b] below meth c g 9 (cells + 4) (slots + 24) Q y 1927 [(5, .int (nI (5 * t))), (0, .ref b), (1, .ref (zad g 0)), (2, .ref (zad g 2)), (3, .ref (zad g 11)), (4, .ref (zad g 12))] []) : Z p l e room_1 s m #[Value.ref b] below meth c g 9 cells slots Q x 1612 [(5, .int (nI (5 * t))), (0, .ref b), (1, .ref (zad g 0)), (2, .ref (zad g 2)), (3, .ref (zad g 11)), (4, .ref (zad g 12))] [] := by
  obtain ⟨p0, hp0⟩ : ∃ v : Int32, xs ((5 * t) + 1) = v := ⟨_, rfl⟩
  obtain ⟨p1, hp1⟩ : ∃ v : Int32, xs ((5 * t) + 2) = v := ⟨_, rfl⟩
  refine z_aload_n 1612 C dL_law_1612 rfl 2 rfl ?_
  refine z_aload_n 1613 C dL_law_1613 rfl 1 rfl ?_
  refine z_iload 1614 C dL_law_1614 0 rfl ?_
  refine z_iconst (v := nI 1) 1616 C dL_law_1616 rfl ?_
  refine z_iadd (v := nI ((5 * t) + 1)) 1617 C dL_law_1617 (nI_add (5 * t) 1) ?_
  refine z_sld 1618 C hX hbl hbA (show (5 * t) + 1 < L by omega) hL hp0 dL_law_1618 ?_
  refine z_aload_n 1619 C dL_law_1619 rfl 1 rfl ?_
  refine z_iload 1620 C dL_law_1620 0 rfl ?_
  refine z_iconst (v := nI 2) 1622 C dL_law_1622 rfl ?_
  refine z_iadd (v := nI ((5 * t) + 2)) 1623 C dL_law_1623 (nI_add (5 * t) 2) ?_
  refine z_sld 1624 C hX hbl hbA (show (5 * t) + 2 < L by omega) hL hp1 dL_law_1624 ?_
  refine z_aload_n 1625 C dL_law_1625 rfl 4 rfl ?_
  refine z_callSWi 1626 C (As := [.ref (zad g 0), .int p0, .int p1, .ref (zad g 11)]) 4 (c_L_signedProduct l C.2.2.1 x hls S hA p0 p1) (vx_cwSW 4 C.1.2.2.2.2 gL_law_L_signedProduct rfl rfl rfl (by decide +kernel) ⟨Nat.le_of_ble_eq_true rfl, Nat.le_of_ble_eq_true rfl⟩) rfl rfl (Nat.le_of_ble_eq_true rfl) ⟨by show cells + 2 ≤ 601024; omega, by show slots + 12 ≤ 7293034; omega⟩ dL_law_1626 (fun r y hu => ?_)
  obtain ⟨hr0, hv0, hXA, hXF⟩ : r = nI (zk1 (zinb p0 4 && zinb p1 4)) ∧ _ ∧ zAll y S ∧ _ := ⟨hu.1, hu.2.1, hu.2.2.1.1, hu.2.2.1.2⟩
  have hEx := hu.2.2.2
  obtain ⟨kk, hkk⟩ : ∃ q : Nat, (zk1 (zinb p0 4 && zinb p1 4)) = q := ⟨_, rfl⟩
  have hkb : kk ≤ 3 := by rw [← hkk]; exact zk1_le _ 
  rw [hkk] at hr0 hv0
  subst hr0
  refine z_widen (k := cells + 4) (n := slots + 24) (by omega) (by omega) ?_
  have hM1 := zMA_eq hXF hM
  refine z_istore (lv' := [(6, .int (nI kk)), (5, .int (nI (5 * t))), (0, .ref b), (1, .ref (zad g 0)), (2, .ref (zad g 2)), (3, .ref (zad g 11)), (4, .ref (zad g 12))]) 1629 C dL_law_1629 (by decide) rfl ?_
  refine z_aload_n 1631 C dL_law_1631 rfl 4 rfl ?_
  refine z_aload_n 1632 C dL_law_1632 rfl 2 rfl ?_
  refine z_iload 1633 C dL_law_1633 1 rfl ?_
  refine z_iconst (v := nI 1) 1635 C dL_law_1635 rfl ?_
  refine z_iadd (v := nI ((5 * t) + 1)) 1636 C dL_law_1636 (nI_add (5 * t) 1) ?_
  refine z_sld 1637 C hX hbl hbA (show (5 * t) + 1 < L by omega) hL hp0 dL_law_1637 ?_
  refine z_aload_n 1638 C dL_law_1638 rfl 2 rfl ?_
  refine z_iload 1639 C dL_law_1639 1 rfl ?_
  refine z_iconst (v := nI 2) 1641 C dL_law_1641 rfl ?_
  refine z_iadd (v := nI ((5 * t) + 2)) 1642 C dL_law_1642 (nI_add (5 * t) 2) ?_
  refine z_sld 1643 C hX hbl hbA (show (5 * t) + 2 < L by omega) hL hp1 dL_law_1643 ?_
  have hE : ∀ j o, j < 4 → o < 4 → p0 = nI j → p1 = nI o → ∃ m, zsprod (S.1 j) (S.1 o) m := fun j o hj ho e0 e1 => by
    have h9 := hEx (by rw [e0, e1, zinb_nI hj (by decide), zinb_nI ho (by decide)]; rfl)
    rw [e0, e1, nI_clamp (by omega), nI_clamp (by omega)] at h9
    exact h9
  refine z_callVl 1644 C (As := [.int p0, .int p1]) 2 kO_model rfl (c_X6_signedProduct l C.2.2.1 y S hM1 p0 p1 hE) (cwV 2 C.1.2.2.2.2 gL_law_X6_signedProduct rfl rfl rfl (by decide +kernel) ⟨Nat.le_of_ble_eq_true rfl, Nat.le_of_ble_eq_true rfl⟩) rfl rfl (Nat.le_of_ble_eq_true rfl) ⟨by show cells + 4 + 0 ≤ 601024; omega, by show slots + 24 + 0 ≤ 7293034; omega⟩ dL_law_1644 (fun r2 z hz => ?_)
  obtain ⟨⟨hth, hMz, hOz⟩, hvz⟩ := hz
  rw [hkk] at hth hvz
  have hAz := zAll_eq hOz hXA
  refine z_widen (k := cells + 4) (n := slots + 24) (Nat.le_refl _) (Nat.le_refl _) ?_
  refine z_lstore (lv' := [(7, .long r2), (6, .int (nI kk)), (5, .int (nI (5 * t))), (0, .ref b), (1, .ref (zad g 0)), (2, .ref (zad g 2)), (3, .ref (zad g 11)), (4, .ref (zad g 12))]) 1647 C dL_law_1647 (by decide) rfl ?_
  refine z_aload_n 1649 C dL_law_1649 rfl 5 rfl ?_
  refine z_callVi 1650 C (As := []) 0 kO_model rfl (c_X6_thrown l C.2.2.1 z) (cwV 0 C.1.2.2.2.2 gL_law_X6_thrown rfl rfl rfl (by decide +kernel) ⟨Nat.le_of_ble_eq_true rfl, Nat.le_of_ble_eq_true rfl⟩) rfl rfl (Nat.le_of_ble_eq_true rfl) ⟨by show cells + 4 + 0 ≤ 601024; omega, by show slots + 24 + 0 ≤ 7293034; omega⟩ dL_law_1650 (fun r3 w hw => ?_)
  obtain ⟨hw1, hw2⟩ := hw
  subst w
  rw [hth] at hw2
  subst r3
  refine z_widen (k := cells + 4) (n := slots + 24) (Nat.le_refl _) (Nat.le_refl _) ?_
  refine z_iload 1653 C dL_law_1653 1 rfl ?_
  refine z_icmp_eqN 1655 C 1660 dL_law_1655 (by decide) (by omega) (by omega) (fun h1655 => ?_) (fun h1655 => absurd rfl h1655)
  refine z_iload 1660 C dL_law_1660 1 rfl ?_
  refine z_if_neN 1662 C 1676 dL_law_1662 (by decide) (by omega) (fun h1662 => ?_) (fun h1662 => ?_)
  · refine z_goto 1676 C 1927 dL_law_1676 (by decide) ?_
    refine z_lv (lv' := [(5, .int (nI (5 * t))), (0, .ref b), (1, .ref (zad g 0)), (2, .ref (zad g 2)), (3, .ref (zad g 11)), (4, .ref (zad g 12))]) [2, 3, 4, 5, 6, 7] rfl ?_
    exact hcont z S hAz hMz hG
  · refine z_aload_n 1665 C dL_law_1665 rfl 6 rfl ?_
    refine z_iconst (v := nI 0) 1666 C dL_law_1666 rfl ?_
    refine z_lald (v := (z.2.1 11) 0) 1667 C kL_11 (by omega) rfl dL_law_1667 ?_
    refine z_lload 1668 C dL_law_1668 0 rfl ?_
    refine z_lcmp (v := lg_cmp ((z.2.1 11) 0) r2) 1670 C dL_law_1670 rfl ?_
    refine z_if_eq 1671 C 1676 dL_law_1671 (by decide) (fun h1671 => ?_) (fun h1671 => absurd (show lg_cmp (z.2.1 11 0) (r2) = 0 by rw [(hOz.1 11 (by omega)).2, hv0 h1662, hvz h1662]; exact lgc_self _) h1671)
    refine z_goto 1676 C 1927 dL_law_1676 (by decide) ?_
    refine z_lv (lv' := [(5, .int (nI (5 * t))), (0, .ref b), (1, .ref (zad g 0)), (2, .ref (zad g 2)), (3, .ref (zad g 11)), (4, .ref (zad g 12))]) [2, 3, 4, 5, 6, 7] rfl ?_
    exact hcont z S hAz hMz hG
set_option maxHeartbeats 4000000 in
set_option maxRecDepth 100000 in
/-- counters -/
theorem law_counters {p : Program} {e : Env} {s : State} {m : MethodId} {below : List Frame} {meth : Method} {c : Code} (l : Launch) (hls : l.stackTraces = false) {b L : Nat} {xs : Nat → Int32} (hL : L ≤ 2560) {g : zG} (C : zC p s m #[Value.ref b] meth c g cL_law 9 RL wsL_law) (hX : va_X b L xs s s.heap) (hbl : b < s.heap.size) (hbA : ¬ zA g b) {t cells slots : Nat} {Q : State → Prop} {x : zT} {S : zS} (ht : 5 * t + 5 ≤ L) (hcs : cells + 4 ≤ 601024 ∧ slots + 24 ≤ 7293034) (hA : zAll x S) (hM : zMA x S) (hG : zGood S) (hcont : ∀ (y : zT) (S' : zS), zAll y S' → zMA y S' → zGood S' → Z p l e room_1 s m #[Value.ref b] below meth c g 9 (cells + 4) (slots + 24) Q y 1927 [(5, .int (nI (5 * t))), (0, .ref b), (1, .ref (zad g 0)), (2, .ref (zad g 2)), (3, .ref (zad g 11)), (4, .ref (zad g 12))] []) : Z p l e room_1 s m #[Value.ref b] below meth c g 9 cells slots Q x 1679 [(5, .int (nI (5 * t))), (0, .ref b), (1, .ref (zad g 0)), (2, .ref (zad g 2)), (3, .ref (zad g 11)), (4, .ref (zad g 12))] [] := by
  obtain ⟨p0, hp0⟩ : ∃ v : Int32, xs ((5 * t) + 1) = v := ⟨_, rfl⟩
  refine z_aload_n 1679 C dL_law_1679 rfl 2 rfl ?_
  refine z_aload_n 1680 C dL_law_1680 rfl 1 rfl ?_
  refine z_iload 1681 C dL_law_1681 0 rfl ?_
  refine z_iconst (v := nI 1) 1683 C dL_law_1683 rfl ?_
  refine z_iadd (v := nI ((5 * t) + 1)) 1684 C dL_law_1684 (nI_add (5 * t) 1) ?_
  refine z_sld 1685 C hX hbl hbA (show (5 * t) + 1 < L by omega) hL hp0 dL_law_1685 ?_
  refine z_aload_n 1686 C dL_law_1686 rfl 4 rfl ?_
  refine z_callSWi 1687 C (As := [.ref (zad g 0), .int p0, .ref (zad g 11)]) 3 (c_L_counters l C.2.2.1 x hls S hA p0) (vx_cwSW 3 C.1.2.2.2.2 gL_law_L_counters rfl rfl rfl (by decide +kernel) ⟨Nat.le_of_ble_eq_true rfl, Nat.le_of_ble_eq_true rfl⟩) rfl rfl (Nat.le_of_ble_eq_true rfl) ⟨by show cells + 1 ≤ 601024; omega, by show slots + 6 ≤ 7293034; omega⟩ dL_law_1687 (fun r y hu => ?_)
  obtain ⟨hr0, hv0, hXA, hXF⟩ : r = nI (zk1 (zinb p0 4)) ∧ _ ∧ zAll y S ∧ _ := ⟨hu.1, hu.2.1, hu.2.2.1, hu.2.2.2⟩
  obtain ⟨kk, hkk⟩ : ∃ q : Nat, (zk1 (zinb p0 4)) = q := ⟨_, rfl⟩
  have hkb : kk ≤ 3 := by rw [← hkk]; exact zk1_le _ 
  rw [hkk] at hr0 hv0
  subst hr0
  refine z_widen (k := cells + 4) (n := slots + 24) (by omega) (by omega) ?_
  have hM1 := zMA_eq hXF hM
  refine z_istore (lv' := [(6, .int (nI kk)), (5, .int (nI (5 * t))), (0, .ref b), (1, .ref (zad g 0)), (2, .ref (zad g 2)), (3, .ref (zad g 11)), (4, .ref (zad g 12))]) 1690 C dL_law_1690 (by decide) rfl ?_
  refine z_aload_n 1692 C dL_law_1692 rfl 4 rfl ?_
  refine z_aload_n 1693 C dL_law_1693 rfl 2 rfl ?_
  refine z_iload 1694 C dL_law_1694 1 rfl ?_
  refine z_iconst (v := nI 1) 1696 C dL_law_1696 rfl ?_
  refine z_iadd (v := nI ((5 * t) + 1)) 1697 C dL_law_1697 (nI_add (5 * t) 1) ?_
  refine z_sld 1698 C hX hbl hbA (show (5 * t) + 1 < L by omega) hL hp0 dL_law_1698 ?_
  refine z_callVi 1699 C (As := [.int p0]) 1 kO_model rfl (c_X6_counters l C.2.2.1 y S hM1 p0) (cwV 1 C.1.2.2.2.2 gL_law_X6_counters rfl rfl rfl (by decide +kernel) ⟨Nat.le_of_ble_eq_true rfl, Nat.le_of_ble_eq_true rfl⟩) rfl rfl (Nat.le_of_ble_eq_true rfl) ⟨by show cells + 4 + 0 ≤ 601024; omega, by show slots + 24 + 0 ≤ 7293034; omega⟩ dL_law_1699 (fun r2 z hz => ?_)
  obtain ⟨⟨hth, hMz, hOz⟩, hvz⟩ := hz
  rw [hkk] at hth hvz
  have hAz := zAll_eq hOz hXA
  refine z_widen (k := cells + 4) (n := slots + 24) (Nat.le_refl _) (Nat.le_refl _) ?_
  refine z_istore (lv' := [(7, .int r2), (6, .int (nI kk)), (5, .int (nI (5 * t))), (0, .ref b), (1, .ref (zad g 0)), (2, .ref (zad g 2)), (3, .ref (zad g 11)), (4, .ref (zad g 12))]) 1702 C dL_law_1702 (by decide) rfl ?_
  refine z_aload_n 1704 C dL_law_1704 rfl 5 rfl ?_
  refine z_callVi 1705 C (As := []) 0 kO_model rfl (c_X6_thrown l C.2.2.1 z) (cwV 0 C.1.2.2.2.2 gL_law_X6_thrown rfl rfl rfl (by decide +kernel) ⟨Nat.le_of_ble_eq_true rfl, Nat.le_of_ble_eq_true rfl⟩) rfl rfl (Nat.le_of_ble_eq_true rfl) ⟨by show cells + 4 + 0 ≤ 601024; omega, by show slots + 24 + 0 ≤ 7293034; omega⟩ dL_law_1705 (fun r3 w hw => ?_)
  obtain ⟨hw1, hw2⟩ := hw
  subst w
  rw [hth] at hw2
  subst r3
  refine z_widen (k := cells + 4) (n := slots + 24) (Nat.le_refl _) (Nat.le_refl _) ?_
  refine z_iload 1708 C dL_law_1708 1 rfl ?_
  refine z_icmp_eqN 1710 C 1715 dL_law_1710 (by decide) (by omega) (by omega) (fun h1710 => ?_) (fun h1710 => absurd rfl h1710)
  refine z_iload 1715 C dL_law_1715 1 rfl ?_
  refine z_if_neN 1717 C 1732 dL_law_1717 (by decide) (by omega) (fun h1717 => ?_) (fun h1717 => ?_)
  · refine z_goto 1732 C 1927 dL_law_1732 (by decide) ?_
    refine z_lv (lv' := [(5, .int (nI (5 * t))), (0, .ref b), (1, .ref (zad g 0)), (2, .ref (zad g 2)), (3, .ref (zad g 11)), (4, .ref (zad g 12))]) [2, 3, 4, 5, 6, 7] rfl ?_
    exact hcont z S hAz hMz hG
  · refine z_aload_n 1720 C dL_law_1720 rfl 6 rfl ?_
    refine z_iconst (v := nI 0) 1721 C dL_law_1721 rfl ?_
    refine z_lald (v := (z.2.1 11) 0) 1722 C kL_11 (by omega) rfl dL_law_1722 ?_
    refine z_iload 1723 C dL_law_1723 0 rfl ?_
    refine z_i2l (v := r2.toInt64) 1725 C dL_law_1725 rfl ?_
    refine z_lcmp (v := lg_cmp ((z.2.1 11) 0) r2.toInt64) 1726 C dL_law_1726 rfl ?_
    refine z_if_eq 1727 C 1732 dL_law_1727 (by decide) (fun h1727 => ?_) (fun h1727 => absurd (show lg_cmp (z.2.1 11 0) (r2.toInt64) = 0 by rw [(hOz.1 11 (by omega)).2, hv0 h1717, hvz h1717]; exact lgc_self _) h1727)
    refine z_goto 1732 C 1927 dL_law_1732 (by decide) ?_
    refine z_lv (lv' := [(5, .int (nI (5 * t))), (0, .ref b), (1, .ref (zad g 0)), (2, .ref (zad g 2)), (3, .ref (zad g 11)), (4, .ref (zad g 12))]) [2, 3, 4, 5, 6, 7] rfl ?_
    exact hcont z S hAz hMz hG
set_option maxHeartbeats 4000000 in
set_option maxRecDepth 100000 in
/-- counterItem -/
theorem law_counterItem {p : Program} {e : Env} {s : State} {m : MethodId} {below : List Frame} {meth : Method} {c : Code} (l : Launch) (hls : l.stackTraces = false) {b L : Nat} {xs : Nat → Int32} (hL : L ≤ 2560) {g : zG} (C : zC p s m #[Value.ref b] meth c g cL_law 9 RL wsL_law) (hX : va_X b L xs s s.heap) (hbl : b < s.heap.size) (hbA : ¬ zA g b) {t cells slots : Nat} {Q : State → Prop} {x : zT} {S : zS} (ht : 5 * t + 5 ≤ L) (hcs : cells + 4 ≤ 601024 ∧ slots + 24 ≤ 7293034) (hA : zAll x S) (hM : zMA x S) (hG : zGood S) (hcont : ∀ (y : zT) (S' : zS), zAll y S' → zMA y S' → zGood S' → Z p l e room_1 s m #[Value.ref b] below meth c g 9 (cells + 4) (slots + 24) Q y 1927 [(5, .int (nI (5 * t))), (0, .ref b), (1, .ref (zad g 0)), (2, .ref (zad g 2)), (3, .ref (zad g 11)), (4, .ref (zad g 12))] []) : Z p l e room_1 s m #[Value.ref b] below meth c g 9 cells slots Q x 1735 [(5, .int (nI (5 * t))), (0, .ref b), (1, .ref (zad g 0)), (2, .ref (zad g 2)), (3, .ref (zad g 11)), (4, .ref (zad g 12))] [] := by
  obtain ⟨p0, hp0⟩ : ∃ v : Int32, xs ((5 * t) + 1) = v := ⟨_, rfl⟩
  obtain ⟨p1, hp1⟩ : ∃ v : Int32, xs ((5 * t) + 2) = v := ⟨_, rfl⟩
  refine z_aload_n 1735 C dL_law_1735 rfl 2 rfl ?_
  refine z_aload_n 1736 C dL_law_1736 rfl 1 rfl ?_
  refine z_iload 1737 C dL_law_1737 0 rfl ?_
  refine z_iconst (v := nI 1) 1739 C dL_law_1739 rfl ?_
  refine z_iadd (v := nI ((5 * t) + 1)) 1740 C dL_law_1740 (nI_add (5 * t) 1) ?_
  refine z_sld 1741 C hX hbl hbA (show (5 * t) + 1 < L by omega) hL hp0 dL_law_1741 ?_
  refine z_aload_n 1742 C dL_law_1742 rfl 1 rfl ?_
  refine z_iload 1743 C dL_law_1743 0 rfl ?_
  refine z_iconst (v := nI 2) 1745 C dL_law_1745 rfl ?_
  refine z_iadd (v := nI ((5 * t) + 2)) 1746 C dL_law_1746 (nI_add (5 * t) 2) ?_
  refine z_sld 1747 C hX hbl hbA (show (5 * t) + 2 < L by omega) hL hp1 dL_law_1747 ?_
  refine z_aload_n 1748 C dL_law_1748 rfl 4 rfl ?_
  refine z_callSWi 1749 C (As := [.ref (zad g 0), .int p0, .int p1, .ref (zad g 11)]) 4 (c_L_counterItem l C.2.2.1 x hls S hA p0 p1) (vx_cwSW 4 C.1.2.2.2.2 gL_law_L_counterItem rfl rfl rfl (by decide +kernel) ⟨Nat.le_of_ble_eq_true rfl, Nat.le_of_ble_eq_true rfl⟩) rfl rfl (Nat.le_of_ble_eq_true rfl) ⟨by show cells + 2 ≤ 601024; omega, by show slots + 12 ≤ 7293034; omega⟩ dL_law_1749 (fun r y hu => ?_)
  obtain ⟨hr0, hv0, hXA, hXF⟩ : r = nI (zk1 (zinb p0 4 && zinb p1 (S.2.2.1 p0.toNatClampNeg).length)) ∧ _ ∧ zAll y S ∧ _ := ⟨hu.1, hu.2.1, hu.2.2.1, hu.2.2.2⟩
  obtain ⟨kk, hkk⟩ : ∃ q : Nat, (zk1 (zinb p0 4 && zinb p1 (S.2.2.1 p0.toNatClampNeg).length)) = q := ⟨_, rfl⟩
  have hkb : kk ≤ 3 := by rw [← hkk]; exact zk1_le _ 
  rw [hkk] at hr0 hv0
  subst hr0
  refine z_widen (k := cells + 4) (n := slots + 24) (by omega) (by omega) ?_
  have hM1 := zMA_eq hXF hM
  refine z_istore (lv' := [(6, .int (nI kk)), (5, .int (nI (5 * t))), (0, .ref b), (1, .ref (zad g 0)), (2, .ref (zad g 2)), (3, .ref (zad g 11)), (4, .ref (zad g 12))]) 1752 C dL_law_1752 (by decide) rfl ?_
  refine z_aload_n 1754 C dL_law_1754 rfl 4 rfl ?_
  refine z_aload_n 1755 C dL_law_1755 rfl 2 rfl ?_
  refine z_iload 1756 C dL_law_1756 1 rfl ?_
  refine z_iconst (v := nI 1) 1758 C dL_law_1758 rfl ?_
  refine z_iadd (v := nI ((5 * t) + 1)) 1759 C dL_law_1759 (nI_add (5 * t) 1) ?_
  refine z_sld 1760 C hX hbl hbA (show (5 * t) + 1 < L by omega) hL hp0 dL_law_1760 ?_
  refine z_aload_n 1761 C dL_law_1761 rfl 2 rfl ?_
  refine z_iload 1762 C dL_law_1762 1 rfl ?_
  refine z_iconst (v := nI 2) 1764 C dL_law_1764 rfl ?_
  refine z_iadd (v := nI ((5 * t) + 2)) 1765 C dL_law_1765 (nI_add (5 * t) 2) ?_
  refine z_sld 1766 C hX hbl hbA (show (5 * t) + 2 < L by omega) hL hp1 dL_law_1766 ?_
  refine z_callVi 1767 C (As := [.int p0, .int p1]) 2 kO_model rfl (c_X6_counterItem l C.2.2.1 y S hM1 p0 p1) (cwV 2 C.1.2.2.2.2 gL_law_X6_counterItem rfl rfl rfl (by decide +kernel) ⟨Nat.le_of_ble_eq_true rfl, Nat.le_of_ble_eq_true rfl⟩) rfl rfl (Nat.le_of_ble_eq_true rfl) ⟨by show cells + 4 + 0 ≤ 601024; omega, by show slots + 24 + 0 ≤ 7293034; omega⟩ dL_law_1767 (fun r2 z hz => ?_)
  obtain ⟨⟨hth, hMz, hOz⟩, hvz⟩ := hz
  rw [hkk] at hth hvz
  have hAz := zAll_eq hOz hXA
  refine z_widen (k := cells + 4) (n := slots + 24) (Nat.le_refl _) (Nat.le_refl _) ?_
  refine z_istore (lv' := [(7, .int r2), (6, .int (nI kk)), (5, .int (nI (5 * t))), (0, .ref b), (1, .ref (zad g 0)), (2, .ref (zad g 2)), (3, .ref (zad g 11)), (4, .ref (zad g 12))]) 1770 C dL_law_1770 (by decide) rfl ?_
  refine z_aload_n 1772 C dL_law_1772 rfl 5 rfl ?_
  refine z_callVi 1773 C (As := []) 0 kO_model rfl (c_X6_thrown l C.2.2.1 z) (cwV 0 C.1.2.2.2.2 gL_law_X6_thrown rfl rfl rfl (by decide +kernel) ⟨Nat.le_of_ble_eq_true rfl, Nat.le_of_ble_eq_true rfl⟩) rfl rfl (Nat.le_of_ble_eq_true rfl) ⟨by show cells + 4 + 0 ≤ 601024; omega, by show slots + 24 + 0 ≤ 7293034; omega⟩ dL_law_1773 (fun r3 w hw => ?_)
  obtain ⟨hw1, hw2⟩ := hw
  subst w
  rw [hth] at hw2
  subst r3
  refine z_widen (k := cells + 4) (n := slots + 24) (Nat.le_refl _) (Nat.le_refl _) ?_
  refine z_iload 1776 C dL_law_1776 1 rfl ?_
  refine z_icmp_eqN 1778 C 1783 dL_law_1778 (by decide) (by omega) (by omega) (fun h1778 => ?_) (fun h1778 => absurd rfl h1778)
  refine z_iload 1783 C dL_law_1783 1 rfl ?_
  refine z_if_neN 1785 C 1800 dL_law_1785 (by decide) (by omega) (fun h1785 => ?_) (fun h1785 => ?_)
  · refine z_goto 1800 C 1927 dL_law_1800 (by decide) ?_
    refine z_lv (lv' := [(5, .int (nI (5 * t))), (0, .ref b), (1, .ref (zad g 0)), (2, .ref (zad g 2)), (3, .ref (zad g 11)), (4, .ref (zad g 12))]) [2, 3, 4, 5, 6, 7] rfl ?_
    exact hcont z S hAz hMz hG
  · refine z_aload_n 1788 C dL_law_1788 rfl 6 rfl ?_
    refine z_iconst (v := nI 0) 1789 C dL_law_1789 rfl ?_
    refine z_lald (v := (z.2.1 11) 0) 1790 C kL_11 (by omega) rfl dL_law_1790 ?_
    refine z_iload 1791 C dL_law_1791 0 rfl ?_
    refine z_i2l (v := r2.toInt64) 1793 C dL_law_1793 rfl ?_
    refine z_lcmp (v := lg_cmp ((z.2.1 11) 0) r2.toInt64) 1794 C dL_law_1794 rfl ?_
    refine z_if_eq 1795 C 1800 dL_law_1795 (by decide) (fun h1795 => ?_) (fun h1795 => absurd (show lg_cmp (z.2.1 11 0) (r2.toInt64) = 0 by rw [(hOz.1 11 (by omega)).2, hv0 h1785, hvz h1785]; exact lgc_self _) h1795)
    refine z_goto 1800 C 1927 dL_law_1800 (by decide) ?_
    refine z_lv (lv' := [(5, .int (nI (5 * t))), (0, .ref b), (1, .ref (zad g 0)), (2, .ref (zad g 2)), (3, .ref (zad g 11)), (4, .ref (zad g 12))]) [2, 3, 4, 5, 6, 7] rfl ?_
    exact hcont z S hAz hMz hG
set_option maxHeartbeats 4000000 in
set_option maxRecDepth 100000 in
/-- counterOf -/
theorem law_counterOf {p : Program} {e : Env} {s : State} {m : MethodId} {below : List Frame} {meth : Method} {c : Code} (l : Launch) (hls : l.stackTraces = false) {b L : Nat} {xs : Nat → Int32} (hL : L ≤ 2560) {g : zG} (C : zC p s m #[Value.ref b] meth c g cL_law 9 RL wsL_law) (hX : va_X b L xs s s.heap) (hbl : b < s.heap.size) (hbA : ¬ zA g b) {t cells slots : Nat} {Q : State → Prop} {x : zT} {S : zS} (ht : 5 * t + 5 ≤ L) (hcs : cells + 4 ≤ 601024 ∧ slots + 24 ≤ 7293034) (hA : zAll x S) (hM : zMA x S) (hG : zGood S) (hcont : ∀ (y : zT) (S' : zS), zAll y S' → zMA y S' → zGood S' → Z p l e room_1 s m #[Value.ref b] below meth c g 9 (cells + 4) (slots + 24) Q y 1927 [(5, .int (nI (5 * t))), (0, .ref b), (1, .ref (zad g 0)), (2, .ref (zad g 2)), (3, .ref (zad g 11)), (4, .ref (zad g 12))] []) : Z p l e room_1 s m #[Value.ref b] below meth c g 9 cells slots Q x 1803 [(5, .int (nI (5 * t))), (0, .ref b), (1, .ref (zad g 0)), (2, .ref (zad g 2)), (3, .ref (zad g 11)), (4, .ref (zad g 12))] [] := by
  obtain ⟨p0, hp0⟩ : ∃ v : Int32, xs ((5 * t) + 1) = v := ⟨_, rfl⟩
  obtain ⟨p1, hp1⟩ : ∃ v : Int32, xs ((5 * t) + 2) = v := ⟨_, rfl⟩
  refine z_aload_n 1803 C dL_law_1803 rfl 2 rfl ?_
  refine z_aload_n 1804 C dL_law_1804 rfl 1 rfl ?_
  refine z_iload 1805 C dL_law_1805 0 rfl ?_
  refine z_iconst (v := nI 1) 1807 C dL_law_1807 rfl ?_
  refine z_iadd (v := nI ((5 * t) + 1)) 1808 C dL_law_1808 (nI_add (5 * t) 1) ?_
  refine z_sld 1809 C hX hbl hbA (show (5 * t) + 1 < L by omega) hL hp0 dL_law_1809 ?_
  refine z_aload_n 1810 C dL_law_1810 rfl 1 rfl ?_
  refine z_iload 1811 C dL_law_1811 0 rfl ?_
  refine z_iconst (v := nI 2) 1813 C dL_law_1813 rfl ?_
  refine z_iadd (v := nI ((5 * t) + 2)) 1814 C dL_law_1814 (nI_add (5 * t) 2) ?_
  refine z_sld 1815 C hX hbl hbA (show (5 * t) + 2 < L by omega) hL hp1 dL_law_1815 ?_
  refine z_aload_n 1816 C dL_law_1816 rfl 4 rfl ?_
  refine z_callSWi 1817 C (As := [.ref (zad g 0), .int p0, .int p1, .ref (zad g 11)]) 4 (c_L_counterOf l C.2.2.1 x hls S hA p0 p1) (vx_cwSW 4 C.1.2.2.2.2 gL_law_L_counterOf rfl rfl rfl (by decide +kernel) ⟨Nat.le_of_ble_eq_true rfl, Nat.le_of_ble_eq_true rfl⟩) rfl rfl (Nat.le_of_ble_eq_true rfl) ⟨by show cells + 2 ≤ 601024; omega, by show slots + 12 ≤ 7293034; omega⟩ dL_law_1817 (fun r y hu => ?_)
  obtain ⟨hr0, hv0, hXA, hXF⟩ : r = nI (zk1 (zinb p0 4 && zinb p1 64)) ∧ _ ∧ zAll y S ∧ _ := ⟨hu.1, hu.2.1, hu.2.2.1, hu.2.2.2⟩
  obtain ⟨kk, hkk⟩ : ∃ q : Nat, (zk1 (zinb p0 4 && zinb p1 64)) = q := ⟨_, rfl⟩
  have hkb : kk ≤ 3 := by rw [← hkk]; exact zk1_le _ 
  rw [hkk] at hr0 hv0
  subst hr0
  refine z_widen (k := cells + 4) (n := slots + 24) (by omega) (by omega) ?_
  have hM1 := zMA_eq hXF hM
  refine z_istore (lv' := [(6, .int (nI kk)), (5, .int (nI (5 * t))), (0, .ref b), (1, .ref (zad g 0)), (2, .ref (zad g 2)), (3, .ref (zad g 11)), (4, .ref (zad g 12))]) 1820 C dL_law_1820 (by decide) rfl ?_
  refine z_aload_n 1822 C dL_law_1822 rfl 4 rfl ?_
  refine z_aload_n 1823 C dL_law_1823 rfl 2 rfl ?_
  refine z_iload 1824 C dL_law_1824 1 rfl ?_
  refine z_iconst (v := nI 1) 1826 C dL_law_1826 rfl ?_
  refine z_iadd (v := nI ((5 * t) + 1)) 1827 C dL_law_1827 (nI_add (5 * t) 1) ?_
  refine z_sld 1828 C hX hbl hbA (show (5 * t) + 1 < L by omega) hL hp0 dL_law_1828 ?_
  refine z_aload_n 1829 C dL_law_1829 rfl 2 rfl ?_
  refine z_iload 1830 C dL_law_1830 1 rfl ?_
  refine z_iconst (v := nI 2) 1832 C dL_law_1832 rfl ?_
  refine z_iadd (v := nI ((5 * t) + 2)) 1833 C dL_law_1833 (nI_add (5 * t) 2) ?_
  refine z_sld 1834 C hX hbl hbA (show (5 * t) + 2 < L by omega) hL hp1 dL_law_1834 ?_
  refine z_callVi 1835 C (As := [.int p0, .int p1]) 2 kO_model rfl (c_X6_counterOf l C.2.2.1 y S hM1 p0 p1 (zGood_nd hG)) (cwV 2 C.1.2.2.2.2 gL_law_X6_counterOf rfl rfl rfl (by decide +kernel) ⟨Nat.le_of_ble_eq_true rfl, Nat.le_of_ble_eq_true rfl⟩) rfl rfl (Nat.le_of_ble_eq_true rfl) ⟨by show cells + 4 + 0 ≤ 601024; omega, by show slots + 24 + 0 ≤ 7293034; omega⟩ dL_law_1835 (fun r2 z hz => ?_)
  obtain ⟨⟨hth, hMz, hOz⟩, hvz⟩ := hz
  rw [hkk] at hth hvz
  have hAz := zAll_eq hOz hXA
  refine z_widen (k := cells + 4) (n := slots + 24) (Nat.le_refl _) (Nat.le_refl _) ?_
  refine z_istore (lv' := [(7, .int r2), (6, .int (nI kk)), (5, .int (nI (5 * t))), (0, .ref b), (1, .ref (zad g 0)), (2, .ref (zad g 2)), (3, .ref (zad g 11)), (4, .ref (zad g 12))]) 1838 C dL_law_1838 (by decide) rfl ?_
  refine z_aload_n 1840 C dL_law_1840 rfl 5 rfl ?_
  refine z_callVi 1841 C (As := []) 0 kO_model rfl (c_X6_thrown l C.2.2.1 z) (cwV 0 C.1.2.2.2.2 gL_law_X6_thrown rfl rfl rfl (by decide +kernel) ⟨Nat.le_of_ble_eq_true rfl, Nat.le_of_ble_eq_true rfl⟩) rfl rfl (Nat.le_of_ble_eq_true rfl) ⟨by show cells + 4 + 0 ≤ 601024; omega, by show slots + 24 + 0 ≤ 7293034; omega⟩ dL_law_1841 (fun r3 w hw => ?_)
  obtain ⟨hw1, hw2⟩ := hw
  subst w
  rw [hth] at hw2
  subst r3
  refine z_widen (k := cells + 4) (n := slots + 24) (Nat.le_refl _) (Nat.le_refl _) ?_
  refine z_iload 1844 C dL_law_1844 1 rfl ?_
  refine z_icmp_eqN 1846 C 1851 dL_law_1846 (by decide) (by omega) (by omega) (fun h1846 => ?_) (fun h1846 => absurd rfl h1846)
  refine z_iload 1851 C dL_law_1851 1 rfl ?_
  refine z_if_neN 1853 C 1868 dL_law_1853 (by decide) (by omega) (fun h1853 => ?_) (fun h1853 => ?_)
  · refine z_goto 1868 C 1927 dL_law_1868 (by decide) ?_
    refine z_lv (lv' := [(5, .int (nI (5 * t))), (0, .ref b), (1, .ref (zad g 0)), (2, .ref (zad g 2)), (3, .ref (zad g 11)), (4, .ref (zad g 12))]) [2, 3, 4, 5, 6, 7] rfl ?_
    exact hcont z S hAz hMz hG
  · refine z_aload_n 1856 C dL_law_1856 rfl 6 rfl ?_
    refine z_iconst (v := nI 0) 1857 C dL_law_1857 rfl ?_
    refine z_lald (v := (z.2.1 11) 0) 1858 C kL_11 (by omega) rfl dL_law_1858 ?_
    refine z_iload 1859 C dL_law_1859 0 rfl ?_
    refine z_i2l (v := r2.toInt64) 1861 C dL_law_1861 rfl ?_
    refine z_lcmp (v := lg_cmp ((z.2.1 11) 0) r2.toInt64) 1862 C dL_law_1862 rfl ?_
    refine z_if_eq 1863 C 1868 dL_law_1863 (by decide) (fun h1863 => ?_) (fun h1863 => absurd (show lg_cmp (z.2.1 11 0) (r2.toInt64) = 0 by rw [(hOz.1 11 (by omega)).2, hv0 h1853, hvz h1853]; exact lgc_self _) h1863)
    refine z_goto 1868 C 1927 dL_law_1868 (by decide) ?_
    refine z_lv (lv' := [(5, .int (nI (5 * t))), (0, .ref b), (1, .ref (zad g 0)), (2, .ref (zad g 2)), (3, .ref (zad g 11)), (4, .ref (zad g 12))]) [2, 3, 4, 5, 6, 7] rfl ?_
    exact hcont z S hAz hMz hG
set_option maxHeartbeats 4000000 in
set_option maxRecDepth 100000 in
/-- taken -/
theorem law_taken {p : Program} {e : Env} {s : State} {m : MethodId} {below : List Frame} {meth : Method} {c : Code} (l : Launch) (hls : l.stackTraces = false) {b L : Nat} {xs : Nat → Int32} (hL : L ≤ 2560) {g : zG} (C : zC p s m #[Value.ref b] meth c g cL_law 9 RL wsL_law) (hX : va_X b L xs s s.heap) (hbl : b < s.heap.size) (hbA : ¬ zA g b) {t cells slots : Nat} {Q : State → Prop} {x : zT} {S : zS} (ht : 5 * t + 5 ≤ L) (hcs : cells + 4 ≤ 601024 ∧ slots + 24 ≤ 7293034) (hA : zAll x S) (hM : zMA x S) (hG : zGood S) (hcont : ∀ (y : zT) (S' : zS), zAll y S' → zMA y S' → zGood S' → Z p l e room_1 s m #[Value.ref b] below meth c g 9 (cells + 4) (slots + 24) Q y 1927 [(5, .int (nI (5 * t))), (0, .ref b), (1, .ref (zad g 0)), (2, .ref (zad g 2)), (3, .ref (zad g 11)), (4, .ref (zad g 12))] []) : Z p l e room_1 s m #[Value.ref b] below meth c g 9 cells slots Q x 1871 [(5, .int (nI (5 * t))), (0, .ref b), (1, .ref (zad g 0)), (2, .ref (zad g 2)), (3, .ref (zad g 11)), (4, .ref (zad g 12))] [] := by
  obtain ⟨p0, hp0⟩ : ∃ v : Int32, xs ((5 * t) + 1) = v := ⟨_, rfl⟩
  refine z_aload_n 1871 C dL_law_1871 rfl 2 rfl ?_
  refine z_aload_n 1872 C dL_law_1872 rfl 1 rfl ?_
  refine z_iload 1873 C dL_law_1873 0 rfl ?_
  refine z_iconst (v := nI 1) 1875 C dL_law_1875 rfl ?_
  refine z_iadd (v := nI ((5 * t) + 1)) 1876 C dL_law_1876 (nI_add (5 * t) 1) ?_
  refine z_sld 1877 C hX hbl hbA (show (5 * t) + 1 < L by omega) hL hp0 dL_law_1877 ?_
  refine z_aload_n 1878 C dL_law_1878 rfl 4 rfl ?_
  refine z_callSWi 1879 C (As := [.ref (zad g 0), .int p0, .ref (zad g 11)]) 3 (c_L_taken l C.2.2.1 x hls S hA p0) (vx_cwSW 3 C.1.2.2.2.2 gL_law_L_taken rfl rfl rfl (by decide +kernel) ⟨Nat.le_of_ble_eq_true rfl, Nat.le_of_ble_eq_true rfl⟩) rfl rfl (Nat.le_of_ble_eq_true rfl) ⟨by show cells + 1 ≤ 601024; omega, by show slots + 6 ≤ 7293034; omega⟩ dL_law_1879 (fun r y hu => ?_)
  obtain ⟨hr0, hv0, hXA, hXF⟩ : r = nI (zk1 (zinb p0 4)) ∧ _ ∧ zAll y S ∧ _ := ⟨hu.1, hu.2.1, hu.2.2.1, hu.2.2.2⟩
  obtain ⟨kk, hkk⟩ : ∃ q : Nat, (zk1 (zinb p0 4)) = q := ⟨_, rfl⟩
  have hkb : kk ≤ 3 := by rw [← hkk]; exact zk1_le _ 
  rw [hkk] at hr0 hv0
  subst hr0
  refine z_widen (k := cells + 4) (n := slots + 24) (by omega) (by omega) ?_
  have hM1 := zMA_eq hXF hM
  refine z_istore (lv' := [(6, .int (nI kk)), (5, .int (nI (5 * t))), (0, .ref b), (1, .ref (zad g 0)), (2, .ref (zad g 2)), (3, .ref (zad g 11)), (4, .ref (zad g 12))]) 1882 C dL_law_1882 (by decide) rfl ?_
  refine z_aload_n 1884 C dL_law_1884 rfl 4 rfl ?_
  refine z_aload_n 1885 C dL_law_1885 rfl 2 rfl ?_
  refine z_iload 1886 C dL_law_1886 1 rfl ?_
  refine z_iconst (v := nI 1) 1888 C dL_law_1888 rfl ?_
  refine z_iadd (v := nI ((5 * t) + 1)) 1889 C dL_law_1889 (nI_add (5 * t) 1) ?_
  refine z_sld 1890 C hX hbl hbA (show (5 * t) + 1 < L by omega) hL hp0 dL_law_1890 ?_
  refine z_callVi 1891 C (As := [.int p0]) 1 kO_model rfl (c_X6_taken l C.2.2.1 y S hM1 p0) (cwV 1 C.1.2.2.2.2 gL_law_X6_taken rfl rfl rfl (by decide +kernel) ⟨Nat.le_of_ble_eq_true rfl, Nat.le_of_ble_eq_true rfl⟩) rfl rfl (Nat.le_of_ble_eq_true rfl) ⟨by show cells + 4 + 0 ≤ 601024; omega, by show slots + 24 + 0 ≤ 7293034; omega⟩ dL_law_1891 (fun r2 z hz => ?_)
  obtain ⟨⟨hth, hMz, hOz⟩, hvz⟩ := hz
  rw [hkk] at hth hvz
  have hAz := zAll_eq hOz hXA
  refine z_widen (k := cells + 4) (n := slots + 24) (Nat.le_refl _) (Nat.le_refl _) ?_
  refine z_istore (lv' := [(7, .int r2), (6, .int (nI kk)), (5, .int (nI (5 * t))), (0, .ref b), (1, .ref (zad g 0)), (2, .ref (zad g 2)), (3, .ref (zad g 11)), (4, .ref (zad g 12))]) 1894 C dL_law_1894 (by decide) rfl ?_
  refine z_aload_n 1896 C dL_law_1896 rfl 5 rfl ?_
  refine z_callVi 1897 C (As := []) 0 kO_model rfl (c_X6_thrown l C.2.2.1 z) (cwV 0 C.1.2.2.2.2 gL_law_X6_thrown rfl rfl rfl (by decide +kernel) ⟨Nat.le_of_ble_eq_true rfl, Nat.le_of_ble_eq_true rfl⟩) rfl rfl (Nat.le_of_ble_eq_true rfl) ⟨by show cells + 4 + 0 ≤ 601024; omega, by show slots + 24 + 0 ≤ 7293034; omega⟩ dL_law_1897 (fun r3 w hw => ?_)
  obtain ⟨hw1, hw2⟩ := hw
  subst w
  rw [hth] at hw2
  subst r3
  refine z_widen (k := cells + 4) (n := slots + 24) (Nat.le_refl _) (Nat.le_refl _) ?_
  refine z_iload 1900 C dL_law_1900 1 rfl ?_
  refine z_icmp_eqN 1902 C 1907 dL_law_1902 (by decide) (by omega) (by omega) (fun h1902 => ?_) (fun h1902 => absurd rfl h1902)
  refine z_iload 1907 C dL_law_1907 1 rfl ?_
  refine z_if_neN 1909 C 1924 dL_law_1909 (by decide) (by omega) (fun h1909 => ?_) (fun h1909 => ?_)
  · refine z_goto 1924 C 1927 dL_law_1924 (by decide) ?_
    refine z_lv (lv' := [(5, .int (nI (5 * t))), (0, .ref b), (1, .ref (zad g 0)), (2, .ref (zad g 2)), (3, .ref (zad g 11)), (4, .ref (zad g 12))]) [2, 3, 4, 5, 6, 7] rfl ?_
    exact hcont z S hAz hMz hG
  · refine z_aload_n 1912 C dL_law_1912 rfl 6 rfl ?_
    refine z_iconst (v := nI 0) 1913 C dL_law_1913 rfl ?_
    refine z_lald (v := (z.2.1 11) 0) 1914 C kL_11 (by omega) rfl dL_law_1914 ?_
    refine z_iload 1915 C dL_law_1915 0 rfl ?_
    refine z_i2l (v := r2.toInt64) 1917 C dL_law_1917 rfl ?_
    refine z_lcmp (v := lg_cmp ((z.2.1 11) 0) r2.toInt64) 1918 C dL_law_1918 rfl ?_
    refine z_if_eq 1919 C 1924 dL_law_1919 (by decide) (fun h1919 => ?_) (fun h1919 => absurd (show lg_cmp (z.2.1 11 0) (r2.toInt64) = 0 by rw [(hOz.1 11 (by omega)).2, hv0 h1909, hvz h1909]; exact lgc_self _) h1919)
    refine z_goto 1924 C 1927 dL_law_1924 (by decide) ?_
    refine z_lv (lv' := [(5, .int (nI (5 * t))), (0, .ref b), (1, .ref (zad g 0)), (2, .ref (zad g 2)), (3, .ref (zad g 11)), (4, .ref (zad g 12))]) [2, 3, 4, 5, 6, 7] rfl ?_
    exact hcont z S hAz hMz hG
