/-! the world at the loop's head -/
theorem zsb_congr {g : zG} {v u : Nat → Nat} {i : Nat} {f : Nat → Int32} {h : Nat → Int64} (hi : i < 16) (h3 : i ≠ 3) (hv : ∀ i, i < 16 → v i = u i) : zsb g v i f h = zsb g u i f h := by
  rcases (show i = 0 ∨ i = 1 ∨ i = 2 ∨ i = 4 ∨ i = 5 ∨ i = 6 ∨ i = 7 ∨ i = 8 ∨ i = 9 ∨ i = 10 ∨ i = 11 ∨ i = 12 ∨ i = 13 ∨ i = 14 ∨ i = 15 by omega) with rfl | rfl | rfl | rfl | rfl | rfl | rfl | rfl | rfl | rfl | rfl | rfl | rfl | rfl | rfl
  · show (Sum.inr _ : va_E) = Sum.inr _
    rw [hv 1 (by omega), hv 3 (by omega), hv 10 (by omega), hv 13 (by omega)]
  · show (Sum.inr _ : va_E) = Sum.inr _
    rw [hv 2 (by omega)]
  · rfl
  · show (Sum.inr _ : va_E) = Sum.inr _
    rw [hv 7 (by omega)]
  · show (Sum.inr _ : va_E) = Sum.inr _
    rw [hv 8 (by omega)]
  · show (Sum.inr _ : va_E) = Sum.inr _
    rw [hv 9 (by omega)]
  · rfl
  · rfl
  · rfl
  · show (Sum.inr _ : va_E) = Sum.inr _
    rw [hv 11 (by omega), hv 12 (by omega)]
  · rfl
  · rfl
  · show (Sum.inr _ : va_E) = Sum.inr _
    rw [hv 14 (by omega), hv 15 (by omega)]
  · rfl
  · rfl
theorem zblk_get (g : zG) (u : Nat → Nat) {i : Nat} (hi : i < 16) : (zblk g u)[i]? = some (u i, zsb g u i (fun _ => 0) (fun _ => 0)) := by
  unfold zblk
  rw [List.getElem?_map, List.getElem?_range hi]
  rfl
theorem zblk_at {g : zG} {u v : Nat → Nat} {H : Heap} (hv : ∀ i, i < 16 → v i = u i) (hP : va_P g.1 vwCl (zblk g u) H) {i : Nat} (hi : i < 16) : va_at g.1 vwCl (v i, zsb g v i (fun _ => 0) (fun _ => 0)) H := by
  by_cases h3 : i = 3
  · subst h3
    have h1 := zP_q hP 3 (fun k => some (v (4 + k))) (zblk_get g u (by omega)) (fun j hj => by rw [hv (4 + j) (by omega)]) 3 _ (List.getElem?_set_self (List.getElem?_eq_some_iff.mp (zblk_get g u (by omega))).1)
    rw [hv 3 (by omega)]
    exact h1
  · have h1 := hP i _ (zblk_get g u hi)
    rw [zsb_congr hi h3 hv, hv i hi]
    exact h1
theorem zSR_0 {j : Nat} : zSR ((fun _ _ => 0, fun _ _ => 0, fun _ => 0) : zT) j (fun _ => 0) (fun _ => 0) [] 0 := by
  refine ⟨⟨fun i _ => rfl, fun q _ _ => rfl⟩, fun _ _ => rfl, fun _ _ => rfl, fun _ _ => rfl, fun q _ => (zscell_0).symm, rfl, rfl, Nat.zero_le _, fun q hq => absurd hq (Nat.not_lt_zero q)⟩
set_option maxHeartbeats 8000000 in
set_option maxRecDepth 200000 in
theorem whole_start {p : Program} {e : Env} {s : State} {m : MethodId} {below : List Frame} {meth : Method} {c : Code} (l : Launch) (hflags : l.flags = flags0) {b L : Nat} {xs : Nat → Int32} (hL : L ≤ 260) (C0 : lw_At p s m meth c b L xs) : W p l e room_1 s m #[Value.ref b] below meth c s.heap [] 0 0 (lw_Z below #[Value.ref b] s) (entryFrame m ([Value.ref b] : List Value).toArray 8) := by
  obtain ⟨hx, hb, hr, hml, hown, hts, hX, hbl, hlocks, hgv⟩ := id C0
  have hls : l.stackTraces = false := by unfold Launch.stackTraces; rw [hflags]; decide +kernel
  have hts1 : ∀ w ∈ wsL_law, w.before #[Value.ref b] s = true := fun w h => hts w (wsL_law_in w h)
  have hn := znk_start hts
  obtain ⟨k0, i0, hKn0⟩ := u_known (C := RX0) (T := TX0) (N := 1) (n := 1) hts1 inlX0 (hts1 (.instantiable RX0 1) (by decide +kernel))
  obtain ⟨k1, i1, hKn1⟩ := u_known (C := RX1) (T := TX1) (N := 4) (n := 4) hts1 inlX1 (hts1 (.instantiable RX1 4) (by decide +kernel))
  obtain ⟨k2, i2, hKn2⟩ := u_known (C := RX2) (T := TX2) (N := 1) (n := 1) hts1 inlX2 (hts1 (.instantiable RX2 1) (by decide +kernel))
  obtain ⟨k3, i3, hKn3⟩ := u_known (C := RX3) (T := TX3) (N := 2) (n := 2) hts1 inlX3 (hts1 (.instantiable RX3 2) (by decide +kernel))
  obtain ⟨k4, i4, hKn4⟩ := u_known (C := RX4) (T := TX4) (N := 4) (n := 4) hts1 inlX4 (hts1 (.instantiable RX4 4) (by decide +kernel))
  obtain ⟨k5, i5, hKn5⟩ := u_known (C := RX5) (T := TX5) (N := 1) (n := 1) hts1 inlX5 (hts1 (.instantiable RX5 1) (by decide +kernel))
  obtain ⟨a0, ha0⟩ := zarr_i (hts1 (.arrayClass .int) (by decide +kernel))
  obtain ⟨a1, ha1⟩ := zarr_l (hts1 (.arrayClass .long) (by decide +kernel))
  obtain ⟨a2, ha2⟩ := zarr_q hn.2.2.2.2.2
  obtain ⟨a3, ha3⟩ := zarr_q hn.2.2.2.2.1
  obtain ⟨g, hge⟩ : ∃ g : zG, g = ((fun k => if k = 0 then k0 else if k = 1 then k1 else if k = 2 then k2 else if k = 3 then k3 else if k = 4 then k4 else k5, fun k => if k = 0 then i0 else if k = 1 then i1 else if k = 2 then i2 else if k = 3 then i3 else if k = 4 then i4 else i5), fun k => if k = 0 then a0 else if k = 1 then a1 else if k = 2 then a2 else a3, fun _ => 0, s.heap.size, b, L, xs) := ⟨_, rfl⟩
  have hK : va_K g.1 vwCl (zty g) s := by
    subst hge
    refine ⟨fun k q hq => ?_, fun k q hq => ?_⟩
    · match k, hq with
      | 0, hq => cases hq; exact hKn0
      | 1, hq => cases hq; exact hKn1
      | 2, hq => cases hq; exact hKn2
      | 3, hq => cases hq; exact hKn3
      | 4, hq => cases hq; exact hKn4
      | 5, hq => cases hq; exact hKn5
      | k + 6, hq => simp [vwCl] at hq
    · match k, hq with
      | 0, hq => cases hq; exact ha0
      | 1, hq => cases hq; exact ha1
      | 2, hq => cases hq; exact ha2
      | 3, hq => cases hq; exact ha3
      | k + 4, hq => simp [zty] at hq
  obtain ⟨A, hAe⟩ : ∃ A : Nat → Prop, (fun q : Nat => s.heap.size ≤ q) = A := ⟨_, rfl⟩
  have hA : ∀ q : Nat, s.heap.size ≤ q → A q := fun q h => by rw [← hAe]; exact h
  have hS : va_S A s.heap s.heap [] := va_S.rf
  have hP : va_P g.1 vwCl [] s.heap := fun k q h => by simp at h
  have hD : va_D A [] := ⟨fun i j p q h => by simp at h, fun k q h => by simp at h⟩
  have hl := lv_entry ([.ref b]) (n := 8) (Nat.le_of_ble_eq_true rfl)
  rw [lg_entry_eq]
  generalize (lg_sl ([.ref b]) ++ List.replicate (8 - (lg_sl ([.ref b])).length) Slot.unset).toArray = ls at hl ⊢
  have hl : lv_has ls 8 [(0, .ref b)] := hl
  refine va_new (ci := 5) (fs := [.null]) (C := RX5) (T := TX5) (N := 1) hx hb hts1 inlX5 tyX5 tyX5_ok hown (hts1 (.classLink RL 11 RX5) (by decide +kernel)) (hts1 (.instantiable RX5 1) (by decide +kernel)) (hts1 (.initialized RX5) (by decide +kernel)) hK hP hD hS hA rfl (fun j hj => by rcases (show j = 0 by omega) with rfl <;> rfl) (Nat.le_of_ble_eq_true rfl) (Nat.le_of_ble_eq_true rfl) dL_law_0 (fun q1 H hP hD hS => ?_)
  have hP : va_P g.1 vwCl [(q1, .inr (5, [.null]))] H := hP
  have hD : va_D A [(q1, .inr (5, [.null]))] := hD
  refine W.widen (k := 1) (n := 1) (Nat.le_of_ble_eq_true rfl) (Nat.le_of_ble_eq_true rfl) ?_
  refine lv_dup hx hb dL_law_3 rfl ?_
  have hPc := hP.sub (ws' := [(q1, .inr (5, [.null]))]) [0] rfl
  have hDc := hD.sub (ws' := [(q1, .inr (5, [.null]))]) [0] (by decide) rfl
  have hFc := va_free (wc := [(q1, .inr (5, [.null]))]) hD hS hA [0] rfl
  refine va_callv (va_runI (As := []) (rest := [.ref q1]) ⟨hx, hb, hml, hown, hts1⟩ (c_X5_init l (g := g) rfl q1 H.size) (cwI 0 hts1 gL_law_X5_init rfl rfl rfl (hts1 (.initialized RX5) (by decide +kernel)) (hts1 (.methodLink RL 88 yX5_init) (by decide +kernel)) (hts1 (.instanceMethod yX5_init) (by decide +kernel)) rfl (by decide +kernel) ⟨Nat.le_of_ble_eq_true rfl, Nat.le_of_ble_eq_true rfl⟩) ⟨fun a U gg mk q => by obtain ⟨q0, q1, qP, qK, qD, qn⟩ := q; exact ⟨q0, q1, qP, va_K.moved (u := U) (U := U.calling gg mk a) (Vm.Alike.refl U.vm) qK, qD, qn.blind⟩, fun U hU hW => ⟨rfl, by rw [hU], by rw [hU]; exact hPc, va_K.moved hW.alike hK, hDc.weaken (fun _ _ _ _ => trivial), hn.warm hW⟩⟩ rfl rfl hl.1 rfl (lv_room (Nat.le_of_ble_eq_true rfl)) dL_law_4 ⟨Nat.le_of_ble_eq_true rfl, Nat.le_of_ble_eq_true rfl⟩) hS (fun q _ h => hFc q h) hFc (fun u t H1 locs ht hvm hw hB hz1 hk1 hS => ?_)
  obtain ⟨hP1, hD1⟩ := hB
  rw [ht] at hP1
  obtain ⟨ua, uu⟩ := u
  obtain ⟨hP, hD⟩ := va_join (wr := []) (w1 := ([(q1, .inr (5, [.ref ua])), (ua, zq g 2 4 (fun j => some (uu j 0)))] ++ zblk g (uu 0) ++ zblk g (uu 1) ++ zblk g (uu 2) ++ zblk g (uu 3))) hP hD [0] [] rfl rfl (by decide) (by decide) hk1 hFc hP1 hD1
  generalize H1 = H at hP hS ⊢
  have hP : va_P g.1 vwCl ([(q1, .inr (5, [.ref ua])), (ua, zq g 2 4 (fun j => some (uu j 0)))] ++ zblk g (uu 0) ++ zblk g (uu 1) ++ zblk g (uu 2) ++ zblk g (uu 3)) H := hP
  have hD : va_D A ([(q1, .inr (5, [.ref ua])), (ua, zq g 2 4 (fun j => some (uu j 0)))] ++ zblk g (uu 0) ++ zblk g (uu 1) ++ zblk g (uu 2) ++ zblk g (uu 3)) := hD
  refine W.widen (k := 66) (n := 1117) (Nat.le_of_ble_eq_true rfl) (Nat.le_of_ble_eq_true rfl) ?_
  refine lv_astore_n (lv' := [(1, .ref q1), (0, .ref b)]) hx hb dL_law_7 rfl hl (by decide) rfl (fun ls hl => ?_)
  obtain ⟨ad, had⟩ : ∃ ad : Nat → Nat, ad = fun k => if k = 0 then q1 else if k = 1 then ua else uu ((k - 2) / 16) ((k - 2) % 16) := ⟨_, rfl⟩
  have hu : ∀ j, j < 4 → ∀ i, i < 16 → ad (zp j i) = uu j i := fun j hj i hi => by
    have e1 : (zp j i - 2) / 16 = j := by unfold zp; omega
    have e2 : (zp j i - 2) % 16 = i := by unfold zp; omega
    have e3 : 2 ≤ zp j i := zp_ge j i
    rw [had]
    show (if zp j i = 0 then _ else _) = _
    rw [if_neg (by omega), if_neg (by omega), e1, e2]
  obtain ⟨g1, hg1⟩ : ∃ g1 : zG, g1 = (g.1, g.2.1, ad, s.heap.size, b, L, xs) := ⟨_, rfl⟩
  obtain ⟨ws9, hws⟩ : ∃ w : va_W, w = ([(q1, .inr (5, [.ref ua])), (ua, zq g 2 4 (fun j => some (uu j 0)))] ++ zblk g (uu 0) ++ zblk g (uu 1) ++ zblk g (uu 2) ++ zblk g (uu 3)) := ⟨_, rfl⟩
  have hb0 := hP.sub (ws' := zblk g (uu 0)) [2, 3, 4, 5, 6, 7, 8, 9, 10, 11, 12, 13, 14, 15, 16, 17] rfl
  have hb1 := hP.sub (ws' := zblk g (uu 1)) [18, 19, 20, 21, 22, 23, 24, 25, 26, 27, 28, 29, 30, 31, 32, 33] rfl
  have hb2 := hP.sub (ws' := zblk g (uu 2)) [34, 35, 36, 37, 38, 39, 40, 41, 42, 43, 44, 45, 46, 47, 48, 49] rfl
  have hb3 := hP.sub (ws' := zblk g (uu 3)) [50, 51, 52, 53, 54, 55, 56, 57, 58, 59, 60, 61, 62, 63, 64, 65] rfl
  have hz : ∀ j, j < 4 → ∀ i, i < 16 → va_at g.1 vwCl (ad (zp j i), zsb g (fun i => ad (zp j i)) i (fun _ => 0) (fun _ => 0)) H := fun j hj i hi => by
    rcases (show j = 0 ∨ j = 1 ∨ j = 2 ∨ j = 3 by omega) with rfl | rfl | rfl | rfl
    · exact zblk_at (v := fun i => ad (zp 0 i)) (hu 0 hj) hb0 hi
    · exact zblk_at (v := fun i => ad (zp 1 i)) (hu 1 hj) hb1 hi
    · exact zblk_at (v := fun i => ad (zp 2 i)) (hu 2 hj) hb2 hi
    · exact zblk_at (v := fun i => ad (zp 3 i)) (hu 3 hj) hb3 hi
  have hq1 := zP_q hP 1 (fun j => some (ad (zp j 0))) rfl (fun j hj => by rw [hu j hj 0 (by omega)])
  have hW : va_P g1.1 vwCl (zw g1 ((fun _ _ => 0, fun _ _ => 0, fun _ => 0) : zT)) H := fun k q hq => by
    have hk : k < 66 := by
      rcases Nat.lt_or_ge k 66 with h | h
      · exact h
      · rw [zw_out (by omega)] at hq; cases hq
    rw [zw_get hk] at hq
    cases hq
    subst hg1
    by_cases h13 : 2 ≤ k
    · have e : k = zp ((k - 2) / 16) ((k - 2) % 16) := by unfold zp; omega
      have hz9 := hz ((k - 2) / 16) (by omega) ((k - 2) % 16) (by omega)
      show va_at g.1 vwCl (ad k, zc _ k (fun _ => 0) (fun _ => 0) (fun _ => 0)) H
      unfold zc
      rw [if_pos h13, zs_b]
      rw [← e] at hz9
      exact hz9
    · rcases (show k = 0 ∨ k = 1 by omega) with rfl | rfl
      · have h1 := hP 0 _ rfl
        show va_at g.1 vwCl (ad 0, .inr (5, [.ref (ad 1)])) H
        rw [show ad 0 = q1 by rw [had]; rfl, show ad 1 = ua by rw [had]; rfl]
        exact h1
      · have h1 := hq1 1 _ rfl
        show va_at g.1 vwCl (ad 1, _) H
        rw [show ad 1 = ua by rw [had]; rfl]
        exact h1
  have hat : ∀ k, k < 66 → ∃ e, ((([(q1, .inr (5, [.ref ua])), (ua, zq g 2 4 (fun j => some (uu j 0)))] ++ zblk g (uu 0) ++ zblk g (uu 1) ++ zblk g (uu 2) ++ zblk g (uu 3)) : va_W))[k]? = some (ad k, e) := fun k hk => by
    by_cases h13 : 2 ≤ k
    · have e1 : k = zp ((k - 2) / 16) ((k - 2) % 16) := by unfold zp; omega
      have hu9 := hu ((k - 2) / 16) (by omega) ((k - 2) % 16) (by omega)
      rw [← e1] at hu9
      rw [hu9]
      obtain ⟨i, hi, ei⟩ : ∃ i, i < 16 ∧ (k - 2) % 16 = i := ⟨_, by omega, rfl⟩
      rcases (show (k - 2) / 16 = 0 ∨ (k - 2) / 16 = 1 ∨ (k - 2) / 16 = 2 ∨ (k - 2) / 16 = 3 by omega) with ej | ej | ej | ej
      · rw [ei, ej, show k = 2 + i by omega]
        rcases (show i = 0 ∨ i = 1 ∨ i = 2 ∨ i = 3 ∨ i = 4 ∨ i = 5 ∨ i = 6 ∨ i = 7 ∨ i = 8 ∨ i = 9 ∨ i = 10 ∨ i = 11 ∨ i = 12 ∨ i = 13 ∨ i = 14 ∨ i = 15 by omega) with rfl | rfl | rfl | rfl | rfl | rfl | rfl | rfl | rfl | rfl | rfl | rfl | rfl | rfl | rfl | rfl <;> exact ⟨_, rfl⟩
      · rw [ei, ej, show k = 18 + i by omega]
        rcases (show i = 0 ∨ i = 1 ∨ i = 2 ∨ i = 3 ∨ i = 4 ∨ i = 5 ∨ i = 6 ∨ i = 7 ∨ i = 8 ∨ i = 9 ∨ i = 10 ∨ i = 11 ∨ i = 12 ∨ i = 13 ∨ i = 14 ∨ i = 15 by omega) with rfl | rfl | rfl | rfl | rfl | rfl | rfl | rfl | rfl | rfl | rfl | rfl | rfl | rfl | rfl | rfl <;> exact ⟨_, rfl⟩
      · rw [ei, ej, show k = 34 + i by omega]
        rcases (show i = 0 ∨ i = 1 ∨ i = 2 ∨ i = 3 ∨ i = 4 ∨ i = 5 ∨ i = 6 ∨ i = 7 ∨ i = 8 ∨ i = 9 ∨ i = 10 ∨ i = 11 ∨ i = 12 ∨ i = 13 ∨ i = 14 ∨ i = 15 by omega) with rfl | rfl | rfl | rfl | rfl | rfl | rfl | rfl | rfl | rfl | rfl | rfl | rfl | rfl | rfl | rfl <;> exact ⟨_, rfl⟩
      · rw [ei, ej, show k = 50 + i by omega]
        rcases (show i = 0 ∨ i = 1 ∨ i = 2 ∨ i = 3 ∨ i = 4 ∨ i = 5 ∨ i = 6 ∨ i = 7 ∨ i = 8 ∨ i = 9 ∨ i = 10 ∨ i = 11 ∨ i = 12 ∨ i = 13 ∨ i = 14 ∨ i = 15 by omega) with rfl | rfl | rfl | rfl | rfl | rfl | rfl | rfl | rfl | rfl | rfl | rfl | rfl | rfl | rfl | rfl <;> exact ⟨_, rfl⟩
    · rcases (show k = 0 ∨ k = 1 by omega) with rfl | rfl
      · rw [show ad 0 = q1 by rw [had]; rfl]
        exact ⟨_, rfl⟩
      · rw [show ad 1 = ua by rw [had]; rfl]
        exact ⟨_, rfl⟩
  have hOk : zOk g1 := by
    subst hg1
    refine ⟨fun i j hi hj hij => ?_, fun i hi => ?_⟩
    · obtain ⟨e1, h1⟩ := hat i hi
      obtain ⟨e2, h2⟩ := hat j hj
      exact hD.1 _ _ _ _ h1 h2 hij
    · obtain ⟨e1, h1⟩ := hat i hi
      have h3 := hD.2 _ _ h1
      rw [← hAe] at h3
      exact h3
  have hg2 : g1.2.2.2.1 = s.heap.size := by rw [hg1]
  have hgs : g1.2.2.2.2 = (b, L, xs) := by rw [hg1]
  have hK1 : va_K g1.1 vwCl (zty g1) s := by subst hg1; exact hK
  have hSt := zSt_start hts hgv hX hbl hg2 hgs
  have C1 : zC p s m #[Value.ref b] meth c g1 cL_law 8 RL wsL_law := ⟨⟨hx, hb, hml, hown, hts1⟩, hK1, hOk, by rw [hg2]; exact Nat.le_refl _, hSt, hlocks⟩
  have hS1 : va_S (zA g1) s.heap H locs := by
    have e : zA g1 = A := by
      rw [← hAe]
      funext q
      show (g1.2.2.2.1 ≤ q) = (s.heap.size ≤ q)
      rw [hg2]
    rw [e]
    exact hS
  have hA0 : zAll ((fun _ _ => 0, fun _ _ => 0, fun _ => 0) : zT) ((fun _ _ => 0, fun _ _ => 0, fun _ => [], fun _ => 0) : zS) := fun j hj => zSR_0
  refine law_body l (by rw [hgs]; exact hL) C1 hr hg2 ((fun _ _ => 0, fun _ _ => 0, fun _ => 0) : zT) ((fun _ _ => 0, fun _ _ => 0, fun _ => [], fun _ => 0) : zS) hA0 zGood_0 (zfrn_00 64) H locs ls hW hS1 ?_
  have hl9 := lv_sub hl [0, 1] rfl
  subst hg1
  subst had
  exact hl9
set_option maxHeartbeats 4000000 in
theorem lw_walk (l : Launch) (hflags : l.flags = flags0) (b : Addr) (xs : List Int32) : MetFree l x (headSpec (Jvm.Cond.code x code maxLocals ret :: tables_1) room_1) (lw_P b xs) (fun _ _ _ _ _ => True) lw_Q := by
  refine MetFree.of_bodyS (code := code) (maxLocals := maxLocals) (ret := ret) (by decide) ?_ ?_
  · intro args s m h hn
    obtain ⟨meth, c, h1, h2, h3, h4, h5, h6, -, -⟩ := Cond.code_spec hn (atoms_spec (ws := Jvm.Cond.code x code maxLocals ret :: tables_1) h _ List.mem_cons_self)
    exact ⟨meth, c, h1, h2, h3, h4, h5, h6⟩
  · intro p e s m args below meth c s₁ B hml0 hP _
    obtain ⟨rfl, hx, hbd, hgv⟩ := hP
    obtain ⟨scr, harrAt, hlist, hof, hsmall⟩ := hx
    obtain ⟨hcb, hkn, -, -⟩ := State.arrayAt?_spec harrAt
    have hown : s.vm.findClass R_law = some m.cls := findClass_of_methodNamed B.named
    have hts0 : ∀ c ∈ (Jvm.Cond.code x code maxLocals ret :: tables_1), c.before #[Value.ref b] s = true := atoms_spec (ws := Jvm.Cond.code x code maxLocals ret :: tables_1) B.pre
    have hts : ∀ w ∈ lw_tbl, w.before #[Value.ref b] s = true := k2_hts_sels lw_privs (fun w hw => hts0 w (List.mem_cons_of_mem _ hw)) lw_privs_ok
    have hml : c.maxLocals = 8 := B.maxLocals_eq (hts0 _ List.mem_cons_self)
    have X₀ : Stand p l e room_1 s m #[Value.ref b] below meth c s₁ [] 0 0 := Stand.of_body B
    have hh0 : s₁.heap = s.heap := by rw [B.state]; rfl
    have hsz : scr.slots.size = xs.length := by rw [← Array.length_toList, hlist, List.length_map]
    have hval : ∀ j : Nat, j < xs.length → scr.slots[j]? = some (.int (xs.getD j 0)) := fun j hj => by
      rw [← Array.getElem?_toList, hlist]
      simp [hj]
    have hbl : b < s.heap.size := (Array.getElem?_eq_some_iff.mp hcb).1
    have hX : va_X b xs.length (fun j => xs.getD j 0) s s.heap := ⟨scr, hcb, hof, hkn, hsz, hval⟩
    have K : W p l e room_1 s m #[Value.ref b] below meth c s₁.heap [] 0 0 (lw_Z below #[Value.ref b] s) (entryFrame m ([Value.ref b] : List Value).toArray 8) := by
      rw [hh0]
      exact whole_start l hflags hbd ⟨B.exec, B.bytes, B.returns, hml, hown, hts, hX, hbl, B.notSynchronized, hgv⟩
    obtain ⟨t, a1, o, b1, b2, b3⟩ := K s₁ rfl X₀
    exact ⟨t, o, a1, b1, b2, b3⟩
theorem lw_pre_spec {args : Array Value} {s : State} (h : (Jvm.Cond.and given_1 narrow_1).before args s = true) (hr : rest_1_c.before args s = true) : ∃ (b : Addr) (xs : List Int32), lw_P b xs args s := by
  have hs := flat_of_before _ h
  have hq := flat_of_before _ hr
  have hc : (Cond.count 1).before args s = true := hs _ (by decide +kernel)
  have harr : (Cond.arrayOf (.arg 0) .int).before args s = true := hs _ (by decide +kernel)
  have hle : (Cond.le (.length (.arg 0)) (.int 260)).before args s = true := hs _ (by decide +kernel)
  have hlen : (Cond.isInt (.length (.arg 0))).before args s = true := hq _ (by decide +kernel)
  have hall : (Cond.all (.arg 0) (.isInt (.elem (.arg 0) (.index 0)))).before args s = true := hq _ (by decide +kernel)
  obtain ⟨b, xs, hb, hx⟩ := State.ints_of_pre rfl harr hlen hall
  have hsm : xs.length < 2 ^ 31 := hx.choose_spec.2.2.2
  have hev : (Term.length (.arg 0)).eval args s none [] s = some (.int xs.length.toInt32) := hx.length_eval hb
  have hv := Cond.le_ints hev (show (Term.int 260).eval args s none [] s = some (.int 260) from rfl)
  have hd : xs.length.toInt32 ≤ 260 := by
    simpa [Cond.before, Cond.holds, hv] using hle
  have hN : xs.length ≤ 260 := (Int32.ofNat_le_ofNat hsm (by decide)).mp (show Int32.ofNat xs.length ≤ Int32.ofNat 260 from hd)
  exact ⟨b, xs, Cond.one_arg hc (show args[0]? = some (.ref b) from hb), hx, hN, h⟩
theorem lw_comes (l : Launch) (hflags : l.flags = flags0) : Comes l x (Jvm.Cond.code x code maxLocals ret :: tables_1) room_1 (fun tb e args s => Calls_1 tb e args s ∧ rest_1 tb e args s ∧ Pre_1 tb e args s)
    (fun _ _ args s o t => lw_Q args s o t) := by
  intro p e ha hc hk s m args below hf hfit hheap happ hpre
  obtain ⟨b, xs, hP⟩ := lw_pre_spec hpre.2.2 hpre.2.1
  obtain ⟨k, o, h1, h2, h3, hQ⟩ := lw_walk l hflags b xs p e ha hc hk s m args below hf ((Spec.applies_iff_loose hf).mp happ).1 hP trivial
  exact ⟨k, o, h1, h2, h3, hQ⟩
theorem lw_frame {s t : State} {o : Outcome} {args : Array Value} (h : State.butDraws s t lw_cs (fun t1 => Framed s o t1 [] 600104 7301314)) :
    State.butDraws s t [Jvm.Choice.named "NaN.bits"] (fun t1 => Framed s o t1 (fieldLocs frame_1_writes args s ++ arrayLocs frame_1_arrays args s ++ staticLocs frame_1_statics s) 600104 7301314) := h
theorem lw_limb (L : Cond) (hL : ∀ (args : Array Value) (s t : State), L.after args s (.returned (some (.int 1))) t = true) :
    ArmFor flags0 classFile x code maxLocals ret World_1 tables_1 room_1 Calls_1 rest_1 Pre_1
      (fun tb e a s o t => postC L tb e a s o t ∧ State.butDraws s t [Jvm.Choice.named "NaN.bits"] (fun t1 => Framed s o t1 (fieldLocs frame_1_writes a s ++ arrayLocs frame_1_arrays a s ++ staticLocs frame_1_statics s) 600104 7301314)) := by
  intro l hflags _ _ p e ha hc hk s m args below hf hfit hheap happ hpre
  obtain ⟨k, o, h1, h2, h3, rfl, hF⟩ := lw_comes l hflags p e ha hc hk s m args below hf hfit hheap happ hpre
  exact ⟨k, _, h1, h2, h3, hL args s _, lw_frame hF⟩
theorem i_vc : Claimed_1_1 ∧ Claimed_1_2 := ⟨lw_limb limb_1_1 (fun args s t => by simp [limb_1_1, Cond.after, Cond.holds, Cond.value]), lw_limb limb_1_2 (fun args s t => Cond.after_iff.mpr (by
  first | (rw [show limb_1_2 = Cond.eq .result (.int 1) from rfl, Cond.eq_ints (x := 1) (y := 1) rfl rfl]; simp; done) | (simp [limb_1_2, Cond.value, Term.eval]; done)))⟩
