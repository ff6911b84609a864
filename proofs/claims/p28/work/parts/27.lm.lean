/-! ===== the law's own methods ===== -/
section ZLAW
variable {p : Program} {l : Launch} {e : Env} {R : Room} {s : State} {m : MethodId} {args : Array Value} {below : List Frame} {meth : Method} {c : Code} {g : zG} {nL cells slots : Nat} {Q : State → Prop} {x : zT} {lv : List (Nat × Value)} {st : List Value} {cc : ByteArray} {own : String} {Ts : List Cond}
theorem z_sld (pc : Nat) (C : zC p s m args meth c g cc nL own Ts) {i : Nat} {v : Int32} (hi : i < g.2.2.2.2.2.1) (hL : g.2.2.2.2.2.1 ≤ 260) (hv : g.2.2.2.2.2.2 i = v) (hdg : decode cc pc = .ok (.iaload, 1))
    (kk : Z p l e R s m args below meth c g nL cells slots Q x (pc + 1) lv (.int v :: st)) : Z p l e R s m args below meth c g nL cells slots Q x (pc) lv (.int (nI i) :: .ref g.2.2.2.2.1 :: st) := fun H locs ls hP hS hl => by
  have hz := C.2.2.2.2.1.2.2
  refine va_sld C.1.1 C.1.2.1 hz.1 hz.2.1 hz.2.2 hS (vp_in_nI hi (by omega)) hdg ?_
  rw [nI_clamp (by omega), hv]
  exact kk H locs ls hP hS hl
theorem z_slen (pc : Nat) (C : zC p s m args meth c g cc nL own Ts) (hdg : decode cc pc = .ok (.arraylength, 1))
    (kk : Z p l e R s m args below meth c g nL cells slots Q x (pc + 1) lv (.int (nI g.2.2.2.2.2.1) :: st)) : Z p l e R s m args below meth c g nL cells slots Q x (pc) lv (.ref g.2.2.2.2.1 :: st) := fun H locs ls hP hS hl => by
  have hz := C.2.2.2.2.1.2.2
  exact va_slen C.1.1 C.1.2.1 hz.1 hz.2.1 hz.2.2 hS hdg (kk H locs ls hP hS hl)
end ZLAW
theorem zand31 (v : Int32) : ∃ k : Nat, k < 2 ^ 31 ∧ v &&& nI 2147483647 = nI k := by
  refine ⟨(v &&& nI 2147483647).toBitVec.toNat, ?_, ?_⟩
  · have h1 : (v &&& nI 2147483647).toBitVec.toNat = v.toBitVec.toNat &&& 2147483647 := by
      show (v.toBitVec &&& (nI 2147483647).toBitVec).toNat = _
      rw [BitVec.toNat_and]
      rfl
    rw [h1]
    have := Nat.and_le_right (n := v.toBitVec.toNat) (m := 2147483647)
    omega
  · apply Int32.toBitVec_inj.1
    show (v &&& nI 2147483647).toBitVec = BitVec.ofNat 32 _
    rw [BitVec.ofNat_toNat, BitVec.setWidth_eq]
theorem lgc_self (a : Int64) : lg_cmp a a = 0 := by
  unfold lg_cmp
  rw [if_neg Int64.lt_irrefl, if_pos rfl]
set_option maxHeartbeats 4000000 in
set_option maxRecDepth 100000 in
/-- L_draw -/
theorem c_L_draw (l : Launch) {g : zG} (hg : zOk g) (x : zT) (hL : g.2.2.2.2.2.1 ≤ 260) (k : Nat) (hk : k < g.2.2.2.2.2.1) : Met l yL_draw wsL_draw ({ frames := 0, cells := 0, slots := 0, locals := 0 }) (va_Pc [.ref g.2.2.2.2.1, .int (nI k)] (zPre g x)) (va_Qi (fun (r : Int32) (u : zT) => u = x ∧ ∃ m : Nat, m < 2 ^ 31 ∧ r = nI m) (zB g) (zA g)) 0 0 (zA g) := by
  refine z_met (cc := cL_draw) (nL := 2) (ret := (some .int)) hg (by decide) rfl (Nat.le_of_ble_eq_true rfl) ?_
  intro p_ e_ s_ m_ args_ below_ meth_ c_ C hr
  show Z p_ l e_ _ s_ m_ args_ below_ meth_ c_ g 2 0 0 _ x 0 [(0, .ref g.2.2.2.2.1), (1, .int (nI k))] []
  have hw_k7 := C.1.2.2.2.2 (.constant RL 7 2147483647) (by decide +kernel)
  refine z_iload_n 0 C dL_draw_0 rfl 1 rfl ?_
  refine z_aload_n 1 C dL_draw_1 rfl 0 rfl ?_
  refine z_slen 2 C dL_draw_2 ?_
  refine z_icmp_geN 3 C 15 dL_draw_3 (by decide) (by omega) (by omega) (fun h3 => absurd h3 (by omega)) (fun h3 => ?_)
  refine z_aload_n 6 C dL_draw_6 rfl 0 rfl ?_
  refine z_iload_n 7 C dL_draw_7 rfl 1 rfl ?_
  refine z_sld (v := g.2.2.2.2.2.2 k) 8 C (i := k) (by omega) hL rfl dL_draw_8 ?_
  refine z_ldc 9 C (v := nI 2147483647) hw_k7 dL_draw_9 ?_
  refine z_iand (v := (g.2.2.2.2.2.2 k) &&& (nI 2147483647)) 11 C dL_draw_11 rfl ?_
  refine z_goto 12 C 24 dL_draw_12 (by decide) ?_
  obtain ⟨mm, hmm, emm⟩ := zand31 (g.2.2.2.2.2.2 k)
  rw [emm]
  exact z_iret 24 C hr ⟨rfl, mm, hmm, rfl⟩ dL_draw_24
set_option maxHeartbeats 4000000 in
set_option maxRecDepth 100000 in
/-- L_areHalves -/
theorem c_L_areHalves (l : Launch) {g : zG} (hg : zOk g) (x : zT) (S : zS) (hA : zAll x S) (hG : zGood S) (j : Nat) (hj : j < 4) : Met l yL_areHalves wsL_areHalves ({ frames := 5, cells := 0, slots := 0, locals := 110 }) (va_Pc [.ref (zad g 0), .int (nI j)] (zPre g x)) (va_Qi (fun (r : Int32) (u : zT) => u = x ∧ r = nI 1) (zB g) (zA g)) 0 0 (zA g) := by
  refine z_met (cc := cL_areHalves) (nL := 10) (ret := (some .boolean)) hg (by decide) rfl (Nat.le_of_ble_eq_true rfl) ?_
  intro p_ e_ s_ m_ args_ below_ meth_ c_ C hr
  show Z p_ l e_ _ s_ m_ args_ below_ meth_ c_ g 10 0 0 _ x 0 [(0, .ref (zad g 0)), (1, .int (nI j))] []
  have hGj := hG j hj
  refine z_aload_n 0 C dL_areHalves_0 rfl 0 rfl ?_
  refine z_iload_n 1 C dL_areHalves_1 rfl 1 rfl ?_
  refine z_bipush (v := nI 6) 2 C dL_areHalves_2 rfl ?_
  refine z_iconst (v := nI 0) 4 C dL_areHalves_4 rfl ?_
  refine z_callVi 5 C (As := [.int (nI j), .int (nI 6), .int (nI 0)]) 3 kO_main rfl (c_X5_estimate l hg x S hA j (by omega) 6 0 (by omega) (by omega)) (cwV 3 C.1.2.2.2.2 gL_areHalves_X5_estimate rfl rfl rfl (by decide +kernel) ⟨Nat.le_of_ble_eq_true rfl, Nat.le_of_ble_eq_true rfl⟩) rfl rfl (Nat.le_of_ble_eq_true rfl) ⟨Nat.le_of_ble_eq_true rfl, Nat.le_of_ble_eq_true rfl⟩ dL_areHalves_5 (fun r u hu => ?_)
  obtain ⟨hu1, hu2⟩ := hu
  subst u
  subst r
  refine z_aload_n 8 C dL_areHalves_8 rfl 0 rfl ?_
  refine z_iload_n 9 C dL_areHalves_9 rfl 1 rfl ?_
  refine z_callVi 10 C (As := [.int (nI j)]) 1 kO_main rfl (c_X5_total l hg x S hA j (by omega)) (cwV 1 C.1.2.2.2.2 gL_areHalves_X5_total rfl rfl rfl (by decide +kernel) ⟨Nat.le_of_ble_eq_true rfl, Nat.le_of_ble_eq_true rfl⟩) rfl rfl (Nat.le_of_ble_eq_true rfl) ⟨Nat.le_of_ble_eq_true rfl, Nat.le_of_ble_eq_true rfl⟩ dL_areHalves_10 (fun r u hu => ?_)
  obtain ⟨hu1, hu2⟩ := hu
  subst u
  subst r
  refine z_icmp_ne 13 C 20 dL_areHalves_13 (by decide) (fun h13 => absurd (zq_top (S.1 j) (S.2.1 j)) h13) (fun h13 => ?_)
  refine z_iconst (v := nI 1) 16 C dL_areHalves_16 rfl ?_
  refine z_goto 17 C 21 dL_areHalves_17 (by decide) ?_
  refine z_istore_n (lv' := [(2, .int (nI 1)), (0, .ref (zad g 0)), (1, .int (nI j))]) 21 C dL_areHalves_21 rfl (by decide) rfl ?_
  refine z_iconst (v := nI 0) 22 C dL_areHalves_22 rfl ?_
  refine z_istore_n (lv' := [(3, .int (nI 0)), (2, .int (nI 1)), (0, .ref (zad g 0)), (1, .int (nI j))]) 23 C dL_areHalves_23 rfl (by decide) rfl ?_
  have J24 : ∀ (n24 : Nat) (k : Nat), (k ≤ 7) → (7 < k + n24) → Z p_ l e_ (headSpec wsL_areHalves ({ frames := 5, cells := 0, slots := 0, locals := 110 })).room s_ m_ args_ below_ meth_ c_ g 10 0 0 (MQ below_ (va_Qi (fun (r : Int32) (u : zT) => u = x ∧ r = nI 1) (zB g) (zA g)) args_ s_ 0 0 (zA g)) x 24 [(0, .ref (zad g 0)), (1, .int (nI j)), (2, .int (nI 1)), (3, .int (nI k))] [] := by
    intro n24
    induction n24 with
    | zero => intro k hk hn; exact absurd hn (by omega)
    | succ n24 ih24 =>
      intro k hk hn
      refine z_iload_n 24 C dL_areHalves_24 rfl 3 rfl ?_
      refine z_bipush (v := nI 7) 25 C dL_areHalves_25 rfl ?_
      refine z_icmp_geN 27 C 227 dL_areHalves_27 (by decide) (by omega) (by omega) (fun h27 => ?_) (fun h27 => ?_)
      · refine z_iload_n 227 C dL_areHalves_227 rfl 2 rfl ?_
        exact z_zret 228 C hr rfl ⟨rfl, rfl⟩ dL_areHalves_228
      · have h64 : 64 / 2 ^ k ≤ 64 := Nat.div_le_self _ _
        refine z_iconst (v := nI 0) 30 C dL_areHalves_30 rfl ?_
        refine z_istore (lv' := [(4, .int (nI 0)), (0, .ref (zad g 0)), (1, .int (nI j)), (2, .int (nI 1)), (3, .int (nI k))]) 31 C dL_areHalves_31 (by decide) rfl ?_
        have J33 : ∀ (n33 : Nat) (h : Nat), (h ≤ 64 / 2 ^ k) → (64 / 2 ^ k < h + n33) → Z p_ l e_ (headSpec wsL_areHalves ({ frames := 5, cells := 0, slots := 0, locals := 110 })).room s_ m_ args_ below_ meth_ c_ g 10 0 0 (MQ below_ (va_Qi (fun (r : Int32) (u : zT) => u = x ∧ r = nI 1) (zB g) (zA g)) args_ s_ 0 0 (zA g)) x 33 [(0, .ref (zad g 0)), (1, .int (nI j)), (2, .int (nI 1)), (3, .int (nI k)), (4, .int (nI h))] [] := by
          intro n33
          induction n33 with
          | zero => intro h hh hn; exact absurd hn (by omega)
          | succ n33 ih33 =>
            intro h hh hn
            refine z_iload 33 C dL_areHalves_33 4 rfl ?_
            refine z_bipush (v := nI 64) 35 C dL_areHalves_35 rfl ?_
            refine z_iload_n 37 C dL_areHalves_37 rfl 3 rfl ?_
            refine z_ishr (v := nI (64 / 2 ^ k)) 38 C dL_areHalves_38 (zn_shr 64 k (by omega) (by omega)) ?_
            refine z_icmp_geN 39 C 221 dL_areHalves_39 (by decide) (by omega) (by omega) (fun h39 => ?_) (fun h39 => ?_)
            · refine z_iinc (v' := nI (k + 1)) (lv' := [(3, .int (nI (k + 1))), (0, .ref (zad g 0)), (1, .int (nI j)), (2, .int (nI 1)), (4, .int (nI h))]) 221 C dL_areHalves_221 (q := 3) rfl (zn_inc k 1) (by decide) rfl ?_
              refine z_goto 224 C 24 dL_areHalves_224 (by decide) ?_
              refine z_lv (lv' := [(0, .ref (zad g 0)), (1, .int (nI j)), (2, .int (nI 1)), (3, .int (nI (k + 1)))]) [1, 2, 3, 0] rfl ?_
              exact ih24 (k + 1) (by omega) (by omega)
            · have hzp := zpw h27 h39
              have hsm : (h + 1) * 2 ^ k = h * 2 ^ k + 2 ^ k := Nat.succ_mul h (2 ^ k)
              have hc0 := zccol_lt 0 h
              have hc1 := zccol_lt 1 h
              have hc2 := zccol_lt 2 h
              refine z_aload_n 42 C dL_areHalves_42 rfl 0 rfl ?_
              refine z_iload_n 43 C dL_areHalves_43 rfl 1 rfl ?_
              refine z_iload_n 44 C dL_areHalves_44 rfl 3 rfl ?_
              refine z_iload 45 C dL_areHalves_45 4 rfl ?_
              refine z_callVi 47 C (As := [.int (nI j), .int (nI k), .int (nI h)]) 3 kO_main rfl (c_X5_estimate l hg x S hA j (by omega) k h h27 h39) (cwV 3 C.1.2.2.2.2 gL_areHalves_X5_estimate rfl rfl rfl (by decide +kernel) ⟨Nat.le_of_ble_eq_true rfl, Nat.le_of_ble_eq_true rfl⟩) rfl rfl (Nat.le_of_ble_eq_true rfl) ⟨Nat.le_of_ble_eq_true rfl, Nat.le_of_ble_eq_true rfl⟩ dL_areHalves_47 (fun r u hu => ?_)
              obtain ⟨hu1, hu2⟩ := hu
              subst u
              subst r
              refine z_istore (lv' := [(5, .int (zest (S.1 j) (S.2.1 j) k h)), (0, .ref (zad g 0)), (1, .int (nI j)), (2, .int (nI 1)), (3, .int (nI k)), (4, .int (nI h))]) 50 C dL_areHalves_50 (by decide) rfl ?_
              refine z_aload_n 52 C dL_areHalves_52 rfl 1 rfl ?_
              refine z_iload_n 53 C dL_areHalves_53 rfl 2 rfl ?_
              refine z_iload 54 C dL_areHalves_54 5 rfl ?_
              refine z_iload_n 56 C dL_areHalves_56 rfl 4 rfl ?_
              refine z_ishl (v := nI (h * 2 ^ k)) 57 C dL_areHalves_57 (zn_shl h k ⟨by omega, by omega⟩) ?_
              refine z_iload 58 C dL_areHalves_58 5 rfl ?_
              refine z_iconst (v := nI 1) 60 C dL_areHalves_60 rfl ?_
              refine z_iadd (v := nI (h + 1)) 61 C dL_areHalves_61 (nI_add h 1) ?_
              refine z_iload_n 62 C dL_areHalves_62 rfl 4 rfl ?_
              refine z_ishl (v := nI ((h + 1) * 2 ^ k)) 63 C dL_areHalves_63 (zn_shl (h + 1) k ⟨by omega, by omega⟩) ?_
              refine z_iconst (v := nI 1) 64 C dL_areHalves_64 rfl ?_
              refine z_isub (v := nI (((h + 1) * 2 ^ k) - 1)) 65 C dL_areHalves_65 (pk_sub (by omega)) ?_
              refine z_callVi 66 C (As := [.int (nI j), .int (nI (h * 2 ^ k)), .int (nI (((h + 1) * 2 ^ k) - 1))]) 3 kO_main rfl (c_X5_countOfRange l hg x S hA j (by omega) (h * 2 ^ k) (((h + 1) * 2 ^ k) - 1) (by omega) (by omega)) (cwV 3 C.1.2.2.2.2 gL_areHalves_X5_countOfRange rfl rfl rfl (by decide +kernel) ⟨Nat.le_of_ble_eq_true rfl, Nat.le_of_ble_eq_true rfl⟩) rfl rfl (Nat.le_of_ble_eq_true rfl) ⟨Nat.le_of_ble_eq_true rfl, Nat.le_of_ble_eq_true rfl⟩ dL_areHalves_66 (fun r u hu => ?_)
              obtain ⟨hu1, hu2⟩ := hu
              subst u
              rw [show (h + 1) * 2 ^ k - 1 + 1 - h * 2 ^ k = 2 ^ k by omega] at hu2
              subst r
              refine z_istore (lv' := [(6, .int (zsum (S.1 j) (h * 2 ^ k) (2 ^ k))), (5, .int (zest (S.1 j) (S.2.1 j) k h)), (0, .ref (zad g 0)), (1, .int (nI j)), (2, .int (nI 1)), (3, .int (nI k)), (4, .int (nI h))]) 69 C dL_areHalves_69 (by decide) rfl ?_
              refine z_iload_n 71 C dL_areHalves_71 rfl 4 rfl ?_
              refine z_if_eqN 72 C 108 dL_areHalves_72 (by decide) (by omega) (fun h72 => absurd h72 (by omega)) (fun h72 => ?_)
              refine z_iload 75 C dL_areHalves_75 1 rfl ?_
              refine z_iload 77 C dL_areHalves_77 0 rfl ?_
              refine z_icmp_lt 79 C 108 dL_areHalves_79 (by decide) (fun h79 => absurd h79 (zq_ge hGj h27 h39)) (fun h79 => ?_)
              refine z_iload 82 C dL_areHalves_82 1 rfl ?_
              refine z_aload_n 84 C dL_areHalves_84 rfl 2 rfl ?_
              refine z_iload_n 85 C dL_areHalves_85 rfl 3 rfl ?_
              refine z_callVi 86 C (As := [.int (nI j)]) 1 kO_main rfl (c_X5_total l hg x S hA j (by omega)) (cwV 1 C.1.2.2.2.2 gL_areHalves_X5_total rfl rfl rfl (by decide +kernel) ⟨Nat.le_of_ble_eq_true rfl, Nat.le_of_ble_eq_true rfl⟩) rfl rfl (Nat.le_of_ble_eq_true rfl) ⟨Nat.le_of_ble_eq_true rfl, Nat.le_of_ble_eq_true rfl⟩ dL_areHalves_86 (fun r u hu => ?_)
              obtain ⟨hu1, hu2⟩ := hu
              subst u
              subst r
              refine z_icmp_gt 89 C 108 dL_areHalves_89 (by decide) (fun h89 => absurd h89 (Int32.not_lt.mpr (zq_le hGj h27 h39))) (fun h89 => ?_)
              refine z_iload_n 92 C dL_areHalves_92 rfl 5 rfl ?_
              refine z_iconst (v := nI 3) 93 C dL_areHalves_93 rfl ?_
              refine z_icmp_ltN 94 C 104 dL_areHalves_94 (by decide) (by omega) (by omega) (fun h94 => ?_) (fun h94 => ?_)
              · obtain ⟨hq0, hq1, hq2, hq3⟩ := zq_cell (S.1 j) (S.2.1 j) (half := h) h94
                refine z_iconst (v := nI 1) 104 C dL_areHalves_104 rfl ?_
                refine z_goto 105 C 109 dL_areHalves_105 (by decide) ?_
                refine z_istore_n (lv' := [(2, .int (nI 1)), (6, .int (zsum (S.1 j) (h * 2 ^ k) (2 ^ k))), (5, .int (zest (S.1 j) (S.2.1 j) k h)), (0, .ref (zad g 0)), (1, .int (nI j)), (3, .int (nI k)), (4, .int (nI h))]) 109 C dL_areHalves_109 rfl (by decide) rfl ?_
                refine z_iload_n 110 C dL_areHalves_110 rfl 5 rfl ?_
                refine z_iconst (v := nI 3) 111 C dL_areHalves_111 rfl ?_
                refine z_icmp_geN 112 C 215 dL_areHalves_112 (by decide) (by omega) (by omega) (fun h112 => absurd h112 (by omega)) (fun h112 => ?_)
                refine z_aload_n 115 C dL_areHalves_115 rfl 3 rfl ?_
                refine z_iload_n 116 C dL_areHalves_116 rfl 4 rfl ?_
                refine z_iload_n 117 C dL_areHalves_117 rfl 5 rfl ?_
                refine z_iconst (v := nI 0) 118 C dL_areHalves_118 rfl ?_
                refine z_aload_n 119 C dL_areHalves_119 rfl 3 rfl ?_
                refine z_iconst (v := nI 0) 120 C dL_areHalves_120 rfl ?_
                refine z_iload 121 C dL_areHalves_121 6 rfl ?_
                refine z_callVi 123 C (As := [.int (nI 0), .int (nI h)]) 2 kO_main rfl (c_X5_column l hg x S hA 0 h (by omega) (by omega)) (cwV 2 C.1.2.2.2.2 gL_areHalves_X5_column rfl rfl rfl (by decide +kernel) ⟨Nat.le_of_ble_eq_true rfl, Nat.le_of_ble_eq_true rfl⟩) rfl rfl (Nat.le_of_ble_eq_true rfl) ⟨Nat.le_of_ble_eq_true rfl, Nat.le_of_ble_eq_true rfl⟩ dL_areHalves_123 (fun r u hu => ?_)
                obtain ⟨hu1, hu2⟩ := hu
                subst u
                subst r
                refine z_callVi 126 C (As := [.int (nI j), .int (nI k), .int (nI 0), .int (nI (zccol 0 h))]) 4 kO_main rfl (c_X5_cell l hg x S hA j (by omega) k 0 (zccol 0 h) (by omega) (by omega) (by omega)) (cwV 4 C.1.2.2.2.2 gL_areHalves_X5_cell rfl rfl rfl (by decide +kernel) ⟨Nat.le_of_ble_eq_true rfl, Nat.le_of_ble_eq_true rfl⟩) rfl rfl (Nat.le_of_ble_eq_true rfl) ⟨Nat.le_of_ble_eq_true rfl, Nat.le_of_ble_eq_true rfl⟩ dL_areHalves_126 (fun r u hu => ?_)
                obtain ⟨hu1, hu2⟩ := hu
                subst u
                subst r
                refine z_istore (lv' := [(7, .int (S.2.1 j (24 * k + (0 * 8 + (zccol 0 h))))), (2, .int (nI 1)), (6, .int (zsum (S.1 j) (h * 2 ^ k) (2 ^ k))), (5, .int (zest (S.1 j) (S.2.1 j) k h)), (0, .ref (zad g 0)), (1, .int (nI j)), (3, .int (nI k)), (4, .int (nI h))]) 129 C dL_areHalves_129 (by decide) rfl ?_
                refine z_aload_n 131 C dL_areHalves_131 rfl 4 rfl ?_
                refine z_iload_n 132 C dL_areHalves_132 rfl 5 rfl ?_
                refine z_iload_n 133 C dL_areHalves_133 rfl 6 rfl ?_
                refine z_iconst (v := nI 1) 134 C dL_areHalves_134 rfl ?_
                refine z_aload_n 135 C dL_areHalves_135 rfl 4 rfl ?_
                refine z_iconst (v := nI 1) 136 C dL_areHalves_136 rfl ?_
                refine z_iload 137 C dL_areHalves_137 7 rfl ?_
                refine z_callVi 139 C (As := [.int (nI 1), .int (nI h)]) 2 kO_main rfl (c_X5_column l hg x S hA 1 h (by omega) (by omega)) (cwV 2 C.1.2.2.2.2 gL_areHalves_X5_column rfl rfl rfl (by decide +kernel) ⟨Nat.le_of_ble_eq_true rfl, Nat.le_of_ble_eq_true rfl⟩) rfl rfl (Nat.le_of_ble_eq_true rfl) ⟨Nat.le_of_ble_eq_true rfl, Nat.le_of_ble_eq_true rfl⟩ dL_areHalves_139 (fun r u hu => ?_)
                obtain ⟨hu1, hu2⟩ := hu
                subst u
                subst r
                refine z_callVi 142 C (As := [.int (nI j), .int (nI k), .int (nI 1), .int (nI (zccol 1 h))]) 4 kO_main rfl (c_X5_cell l hg x S hA j (by omega) k 1 (zccol 1 h) (by omega) (by omega) (by omega)) (cwV 4 C.1.2.2.2.2 gL_areHalves_X5_cell rfl rfl rfl (by decide +kernel) ⟨Nat.le_of_ble_eq_true rfl, Nat.le_of_ble_eq_true rfl⟩) rfl rfl (Nat.le_of_ble_eq_true rfl) ⟨Nat.le_of_ble_eq_true rfl, Nat.le_of_ble_eq_true rfl⟩ dL_areHalves_142 (fun r u hu => ?_)
                obtain ⟨hu1, hu2⟩ := hu
                subst u
                subst r
                refine z_istore (lv' := [(8, .int (S.2.1 j (24 * k + (1 * 8 + (zccol 1 h))))), (7, .int (S.2.1 j (24 * k + (0 * 8 + (zccol 0 h))))), (2, .int (nI 1)), (6, .int (zsum (S.1 j) (h * 2 ^ k) (2 ^ k))), (5, .int (zest (S.1 j) (S.2.1 j) k h)), (0, .ref (zad g 0)), (1, .int (nI j)), (3, .int (nI k)), (4, .int (nI h))]) 145 C dL_areHalves_145 (by decide) rfl ?_
                refine z_aload_n 147 C dL_areHalves_147 rfl 5 rfl ?_
                refine z_iload_n 148 C dL_areHalves_148 rfl 6 rfl ?_
                refine z_iload_n 149 C dL_areHalves_149 rfl 7 rfl ?_
                refine z_iconst (v := nI 2) 150 C dL_areHalves_150 rfl ?_
                refine z_aload_n 151 C dL_areHalves_151 rfl 5 rfl ?_
                refine z_iconst (v := nI 2) 152 C dL_areHalves_152 rfl ?_
                refine z_iload 153 C dL_areHalves_153 8 rfl ?_
                refine z_callVi 155 C (As := [.int (nI 2), .int (nI h)]) 2 kO_main rfl (c_X5_column l hg x S hA 2 h (by omega) (by omega)) (cwV 2 C.1.2.2.2.2 gL_areHalves_X5_column rfl rfl rfl (by decide +kernel) ⟨Nat.le_of_ble_eq_true rfl, Nat.le_of_ble_eq_true rfl⟩) rfl rfl (Nat.le_of_ble_eq_true rfl) ⟨Nat.le_of_ble_eq_true rfl, Nat.le_of_ble_eq_true rfl⟩ dL_areHalves_155 (fun r u hu => ?_)
                obtain ⟨hu1, hu2⟩ := hu
                subst u
                subst r
                refine z_callVi 158 C (As := [.int (nI j), .int (nI k), .int (nI 2), .int (nI (zccol 2 h))]) 4 kO_main rfl (c_X5_cell l hg x S hA j (by omega) k 2 (zccol 2 h) (by omega) (by omega) (by omega)) (cwV 4 C.1.2.2.2.2 gL_areHalves_X5_cell rfl rfl rfl (by decide +kernel) ⟨Nat.le_of_ble_eq_true rfl, Nat.le_of_ble_eq_true rfl⟩) rfl rfl (Nat.le_of_ble_eq_true rfl) ⟨Nat.le_of_ble_eq_true rfl, Nat.le_of_ble_eq_true rfl⟩ dL_areHalves_158 (fun r u hu => ?_)
                obtain ⟨hu1, hu2⟩ := hu
                subst u
                subst r
                refine z_istore (lv' := [(9, .int (S.2.1 j (24 * k + (2 * 8 + (zccol 2 h))))), (8, .int (S.2.1 j (24 * k + (1 * 8 + (zccol 1 h))))), (7, .int (S.2.1 j (24 * k + (0 * 8 + (zccol 0 h))))), (2, .int (nI 1)), (6, .int (zsum (S.1 j) (h * 2 ^ k) (2 ^ k))), (5, .int (zest (S.1 j) (S.2.1 j) k h)), (0, .ref (zad g 0)), (1, .int (nI j)), (3, .int (nI k)), (4, .int (nI h))]) 161 C dL_areHalves_161 (by decide) rfl ?_
                refine z_iload_n 163 C dL_areHalves_163 rfl 3 rfl ?_
                refine z_if_eqN 164 C 213 dL_areHalves_164 (by decide) (by omega) (fun h164 => absurd h164 (by omega)) (fun h164 => ?_)
                refine z_iload 167 C dL_areHalves_167 5 rfl ?_
                refine z_iload 169 C dL_areHalves_169 2 rfl ?_
                refine z_icmp_gt 171 C 213 dL_areHalves_171 (by decide) (fun h171 => absurd h171 (Int32.not_lt.mpr hq0)) (fun h171 => ?_)
                refine z_iload 174 C dL_areHalves_174 5 rfl ?_
                refine z_iload 176 C dL_areHalves_176 1 rfl ?_
                refine z_icmp_gt 178 C 213 dL_areHalves_178 (by decide) (fun h178 => absurd h178 (Int32.not_lt.mpr hq1)) (fun h178 => ?_)
                refine z_iload 181 C dL_areHalves_181 5 rfl ?_
                refine z_iload 183 C dL_areHalves_183 0 rfl ?_
                refine z_icmp_gt 185 C 213 dL_areHalves_185 (by decide) (fun h185 => absurd h185 (Int32.not_lt.mpr hq2)) (fun h185 => ?_)
                refine z_iload 188 C dL_areHalves_188 5 rfl ?_
                refine z_iload 190 C dL_areHalves_190 2 rfl ?_
                refine z_icmp_eq 192 C 209 dL_areHalves_192 (by decide) (fun h192 => ?_) (fun h192 => ?_)
                · refine z_iconst (v := nI 1) 209 C dL_areHalves_209 rfl ?_
                  refine z_goto 210 C 214 dL_areHalves_210 (by decide) ?_
                  refine z_istore_n (lv' := [(2, .int (nI 1)), (9, .int (S.2.1 j (24 * k + (2 * 8 + (zccol 2 h))))), (8, .int (S.2.1 j (24 * k + (1 * 8 + (zccol 1 h))))), (7, .int (S.2.1 j (24 * k + (0 * 8 + (zccol 0 h))))), (6, .int (zsum (S.1 j) (h * 2 ^ k) (2 ^ k))), (5, .int (zest (S.1 j) (S.2.1 j) k h)), (0, .ref (zad g 0)), (1, .int (nI j)), (3, .int (nI k)), (4, .int (nI h))]) 214 C dL_areHalves_214 rfl (by decide) rfl ?_
                  refine z_iinc (v' := nI (h + 1)) (lv' := [(4, .int (nI (h + 1))), (2, .int (nI 1)), (9, .int (S.2.1 j (24 * k + (2 * 8 + (zccol 2 h))))), (8, .int (S.2.1 j (24 * k + (1 * 8 + (zccol 1 h))))), (7, .int (S.2.1 j (24 * k + (0 * 8 + (zccol 0 h))))), (6, .int (zsum (S.1 j) (h * 2 ^ k) (2 ^ k))), (5, .int (zest (S.1 j) (S.2.1 j) k h)), (0, .ref (zad g 0)), (1, .int (nI j)), (3, .int (nI k))]) 215 C dL_areHalves_215 (q := 9) rfl (zn_inc h 1) (by decide) rfl ?_
                  refine z_goto 218 C 33 dL_areHalves_218 (by decide) ?_
                  refine z_lv (lv' := [(0, .ref (zad g 0)), (1, .int (nI j)), (2, .int (nI 1)), (3, .int (nI k)), (4, .int (nI (h + 1)))]) [7, 8, 1, 9, 0] rfl ?_
                  exact ih33 (h + 1) (by omega) (by omega)
                · refine z_iload 195 C dL_areHalves_195 5 rfl ?_
                  refine z_iload 197 C dL_areHalves_197 1 rfl ?_
                  refine z_icmp_eq 199 C 209 dL_areHalves_199 (by decide) (fun h199 => ?_) (fun h199 => ?_)
                  · refine z_iconst (v := nI 1) 209 C dL_areHalves_209 rfl ?_
                    refine z_goto 210 C 214 dL_areHalves_210 (by decide) ?_
                    refine z_istore_n (lv' := [(2, .int (nI 1)), (9, .int (S.2.1 j (24 * k + (2 * 8 + (zccol 2 h))))), (8, .int (S.2.1 j (24 * k + (1 * 8 + (zccol 1 h))))), (7, .int (S.2.1 j (24 * k + (0 * 8 + (zccol 0 h))))), (6, .int (zsum (S.1 j) (h * 2 ^ k) (2 ^ k))), (5, .int (zest (S.1 j) (S.2.1 j) k h)), (0, .ref (zad g 0)), (1, .int (nI j)), (3, .int (nI k)), (4, .int (nI h))]) 214 C dL_areHalves_214 rfl (by decide) rfl ?_
                    refine z_iinc (v' := nI (h + 1)) (lv' := [(4, .int (nI (h + 1))), (2, .int (nI 1)), (9, .int (S.2.1 j (24 * k + (2 * 8 + (zccol 2 h))))), (8, .int (S.2.1 j (24 * k + (1 * 8 + (zccol 1 h))))), (7, .int (S.2.1 j (24 * k + (0 * 8 + (zccol 0 h))))), (6, .int (zsum (S.1 j) (h * 2 ^ k) (2 ^ k))), (5, .int (zest (S.1 j) (S.2.1 j) k h)), (0, .ref (zad g 0)), (1, .int (nI j)), (3, .int (nI k))]) 215 C dL_areHalves_215 (q := 9) rfl (zn_inc h 1) (by decide) rfl ?_
                    refine z_goto 218 C 33 dL_areHalves_218 (by decide) ?_
                    refine z_lv (lv' := [(0, .ref (zad g 0)), (1, .int (nI j)), (2, .int (nI 1)), (3, .int (nI k)), (4, .int (nI (h + 1)))]) [7, 8, 1, 9, 0] rfl ?_
                    exact ih33 (h + 1) (by omega) (by omega)
                  · refine z_iload 202 C dL_areHalves_202 5 rfl ?_
                    refine z_iload 204 C dL_areHalves_204 0 rfl ?_
                    refine z_icmp_ne 206 C 213 dL_areHalves_206 (by decide) (fun h206 => absurd ((hq3.resolve_left h192).resolve_left h199) h206) (fun h206 => ?_)
                    refine z_iconst (v := nI 1) 209 C dL_areHalves_209 rfl ?_
                    refine z_goto 210 C 214 dL_areHalves_210 (by decide) ?_
                    refine z_istore_n (lv' := [(2, .int (nI 1)), (9, .int (S.2.1 j (24 * k + (2 * 8 + (zccol 2 h))))), (8, .int (S.2.1 j (24 * k + (1 * 8 + (zccol 1 h))))), (7, .int (S.2.1 j (24 * k + (0 * 8 + (zccol 0 h))))), (6, .int (zsum (S.1 j) (h * 2 ^ k) (2 ^ k))), (5, .int (zest (S.1 j) (S.2.1 j) k h)), (0, .ref (zad g 0)), (1, .int (nI j)), (3, .int (nI k)), (4, .int (nI h))]) 214 C dL_areHalves_214 rfl (by decide) rfl ?_
                    refine z_iinc (v' := nI (h + 1)) (lv' := [(4, .int (nI (h + 1))), (2, .int (nI 1)), (9, .int (S.2.1 j (24 * k + (2 * 8 + (zccol 2 h))))), (8, .int (S.2.1 j (24 * k + (1 * 8 + (zccol 1 h))))), (7, .int (S.2.1 j (24 * k + (0 * 8 + (zccol 0 h))))), (6, .int (zsum (S.1 j) (h * 2 ^ k) (2 ^ k))), (5, .int (zest (S.1 j) (S.2.1 j) k h)), (0, .ref (zad g 0)), (1, .int (nI j)), (3, .int (nI k))]) 215 C dL_areHalves_215 (q := 9) rfl (zn_inc h 1) (by decide) rfl ?_
                    refine z_goto 218 C 33 dL_areHalves_218 (by decide) ?_
                    refine z_lv (lv' := [(0, .ref (zad g 0)), (1, .int (nI j)), (2, .int (nI 1)), (3, .int (nI k)), (4, .int (nI (h + 1)))]) [7, 8, 1, 9, 0] rfl ?_
                    exact ih33 (h + 1) (by omega) (by omega)
              · refine z_iload 97 C dL_areHalves_97 1 rfl ?_
                refine z_iload 99 C dL_areHalves_99 0 rfl ?_
                refine z_icmp_ne 101 C 108 dL_areHalves_101 (by decide) (fun h101 => absurd (zq_eq (S.1 j) (S.2.1 j) (by omega)) h101) (fun h101 => ?_)
                refine z_iconst (v := nI 1) 104 C dL_areHalves_104 rfl ?_
                refine z_goto 105 C 109 dL_areHalves_105 (by decide) ?_
                refine z_istore_n (lv' := [(2, .int (nI 1)), (6, .int (zsum (S.1 j) (h * 2 ^ k) (2 ^ k))), (5, .int (zest (S.1 j) (S.2.1 j) k h)), (0, .ref (zad g 0)), (1, .int (nI j)), (3, .int (nI k)), (4, .int (nI h))]) 109 C dL_areHalves_109 rfl (by decide) rfl ?_
                refine z_iload_n 110 C dL_areHalves_110 rfl 5 rfl ?_
                refine z_iconst (v := nI 3) 111 C dL_areHalves_111 rfl ?_
                refine z_icmp_geN 112 C 215 dL_areHalves_112 (by decide) (by omega) (by omega) (fun h112 => ?_) (fun h112 => absurd h112 (by omega))
                refine z_iinc (v' := nI (h + 1)) (lv' := [(4, .int (nI (h + 1))), (2, .int (nI 1)), (6, .int (zsum (S.1 j) (h * 2 ^ k) (2 ^ k))), (5, .int (zest (S.1 j) (S.2.1 j) k h)), (0, .ref (zad g 0)), (1, .int (nI j)), (3, .int (nI k))]) 215 C dL_areHalves_215 (q := 6) rfl (zn_inc h 1) (by decide) rfl ?_
                refine z_goto 218 C 33 dL_areHalves_218 (by decide) ?_
                refine z_lv (lv' := [(0, .ref (zad g 0)), (1, .int (nI j)), (2, .int (nI 1)), (3, .int (nI k)), (4, .int (nI (h + 1)))]) [4, 5, 1, 6, 0] rfl ?_
                exact ih33 (h + 1) (by omega) (by omega)
        refine z_lv (lv' := [(0, .ref (zad g 0)), (1, .int (nI j)), (2, .int (nI 1)), (3, .int (nI k)), (4, .int (nI 0))]) [1, 2, 3, 4, 0] rfl ?_
        exact J33 (64 / 2 ^ k + 1) 0 (Nat.zero_le _) (by omega)
  refine z_lv (lv' := [(0, .ref (zad g 0)), (1, .int (nI j)), (2, .int (nI 1)), (3, .int (nI 0))]) [2, 3, 1, 0] rfl ?_
  exact J24 8 0 (by omega) (by omega)
set_option maxHeartbeats 4000000 in
set_option maxRecDepth 100000 in
/-- L_areCounters -/
theorem c_L_areCounters (l : Launch) {g : zG} (hg : zOk g) (x : zT) (S : zS) (hA : zAll x S) (hG : zGood S) (j : Nat) (hj : j < 4) : Met l yL_areCounters wsL_areCounters ({ frames := 3, cells := 0, slots := 0, locals := 66 }) (va_Pc [.ref (zad g 0), .int (nI j)] (zPre g x)) (va_Qi (fun (r : Int32) (u : zT) => u = x ∧ r = nI 1) (zB g) (zA g)) 0 0 (zA g) := by
  refine z_met (cc := cL_areCounters) (nL := 7) (ret := (some .boolean)) hg (by decide) rfl (Nat.le_of_ble_eq_true rfl) ?_
  intro p_ e_ s_ m_ args_ below_ meth_ c_ C hr
  show Z p_ l e_ _ s_ m_ args_ below_ meth_ c_ g 7 0 0 _ x 0 [(0, .ref (zad g 0)), (1, .int (nI j))] []
  have hGj := hG j hj
  have hl4 := zq_len hGj
  refine z_iconst (v := nI 0) 0 C dL_areCounters_0 rfl ?_
  refine z_istore_n (lv' := [(2, .int (nI 0)), (0, .ref (zad g 0)), (1, .int (nI j))]) 1 C dL_areCounters_1 rfl (by decide) rfl ?_
  refine z_aload_n 2 C dL_areCounters_2 rfl 1 rfl ?_
  refine z_iload_n 3 C dL_areCounters_3 rfl 2 rfl ?_
  refine z_callVi 4 C (As := [.int (nI j)]) 1 kO_main rfl (c_X5_counters l hg x S hA j (by omega)) (cwV 1 C.1.2.2.2.2 gL_areCounters_X5_counters rfl rfl rfl (by decide +kernel) ⟨Nat.le_of_ble_eq_true rfl, Nat.le_of_ble_eq_true rfl⟩) rfl rfl (Nat.le_of_ble_eq_true rfl) ⟨Nat.le_of_ble_eq_true rfl, Nat.le_of_ble_eq_true rfl⟩ dL_areCounters_4 (fun r u hu => ?_)
  obtain ⟨hu1, hu2⟩ := hu
  subst u
  subst r
  refine z_iconst (v := nI 4) 7 C dL_areCounters_7 rfl ?_
  refine z_icmp_gtN 8 C 15 dL_areCounters_8 (by decide) (by omega) (by omega) (fun h8 => absurd h8 (by omega)) (fun h8 => ?_)
  refine z_iconst (v := nI 1) 11 C dL_areCounters_11 rfl ?_
  refine z_goto 12 C 16 dL_areCounters_12 (by decide) ?_
  refine z_istore_n (lv' := [(3, .int (nI 1)), (2, .int (nI 0)), (0, .ref (zad g 0)), (1, .int (nI j))]) 16 C dL_areCounters_16 rfl (by decide) rfl ?_
  refine z_iconst (v := nI 0) 17 C dL_areCounters_17 rfl ?_
  refine z_istore (lv' := [(4, .int (nI 0)), (3, .int (nI 1)), (2, .int (nI 0)), (0, .ref (zad g 0)), (1, .int (nI j))]) 18 C dL_areCounters_18 (by decide) rfl ?_
  have J20 : ∀ (n20 : Nat) (q : Nat) (t : Int32), (q ≤ (S.2.2.1 j).length) → ((S.2.2.1 j).length < q + n20) → (t = zws ((S.2.2.1 j).take q)) → Z p_ l e_ (headSpec wsL_areCounters ({ frames := 3, cells := 0, slots := 0, locals := 66 })).room s_ m_ args_ below_ meth_ c_ g 7 0 0 (MQ below_ (va_Qi (fun (r : Int32) (u : zT) => u = x ∧ r = nI 1) (zB g) (zA g)) args_ s_ 0 0 (zA g)) x 20 [(0, .ref (zad g 0)), (1, .int (nI j)), (2, .int t), (3, .int (nI 1)), (4, .int (nI q))] [] := by
    intro n20
    induction n20 with
    | zero => intro q t hq hn ht; exact absurd hn (by omega)
    | succ n20 ih20 =>
      intro q t hq hn ht
      refine z_iload 20 C dL_areCounters_20 4 rfl ?_
      refine z_aload_n 22 C dL_areCounters_22 rfl 0 rfl ?_
      refine z_iload_n 23 C dL_areCounters_23 rfl 1 rfl ?_
      refine z_callVi 24 C (As := [.int (nI j)]) 1 kO_main rfl (c_X5_counters l hg x S hA j (by omega)) (cwV 1 C.1.2.2.2.2 gL_areCounters_X5_counters rfl rfl rfl (by decide +kernel) ⟨Nat.le_of_ble_eq_true rfl, Nat.le_of_ble_eq_true rfl⟩) rfl rfl (Nat.le_of_ble_eq_true rfl) ⟨Nat.le_of_ble_eq_true rfl, Nat.le_of_ble_eq_true rfl⟩ dL_areCounters_24 (fun r u hu => ?_)
      obtain ⟨hu1, hu2⟩ := hu
      subst u
      subst r
      refine z_icmp_geN 27 C 113 dL_areCounters_27 (by decide) (by omega) (by omega) (fun h27 => ?_) (fun h27 => ?_)
      · refine z_iconst (v := nI 0) 113 C dL_areCounters_113 rfl ?_
        refine z_istore (lv' := [(4, .int (nI 0)), (0, .ref (zad g 0)), (1, .int (nI j)), (2, .int t), (3, .int (nI 1))]) 114 C dL_areCounters_114 (by decide) rfl ?_
        have J116 : ∀ (n116 : Nat) (i : Nat), (i ≤ 64) → (64 < i + n116) → Z p_ l e_ (headSpec wsL_areCounters ({ frames := 3, cells := 0, slots := 0, locals := 66 })).room s_ m_ args_ below_ meth_ c_ g 7 0 0 (MQ below_ (va_Qi (fun (r : Int32) (u : zT) => u = x ∧ r = nI 1) (zB g) (zA g)) args_ s_ 0 0 (zA g)) x 116 [(0, .ref (zad g 0)), (1, .int (nI j)), (2, .int t), (3, .int (nI 1)), (4, .int (nI i))] [] := by
          intro n116
          induction n116 with
          | zero => intro i hi hn; exact absurd hn (by omega)
          | succ n116 ih116 =>
            intro i hi hn
            refine z_iload 116 C dL_areCounters_116 4 rfl ?_
            refine z_bipush (v := nI 64) 118 C dL_areCounters_118 rfl ?_
            refine z_icmp_geN 120 C 179 dL_areCounters_120 (by decide) (by omega) (by omega) (fun h120 => ?_) (fun h120 => ?_)
            · refine z_iload_n 179 C dL_areCounters_179 rfl 3 rfl ?_
              refine z_if_eqN 180 C 204 dL_areCounters_180 (by decide) (by omega) (fun h180 => absurd h180 (by omega)) (fun h180 => ?_)
              refine z_iload_n 183 C dL_areCounters_183 rfl 2 rfl ?_
              refine z_iconst (v := nI 5) 184 C dL_areCounters_184 rfl ?_
              refine z_aload_n 185 C dL_areCounters_185 rfl 0 rfl ?_
              refine z_iload_n 186 C dL_areCounters_186 rfl 1 rfl ?_
              refine z_callVi 187 C (As := [.int (nI j)]) 1 kO_main rfl (c_X5_taken l hg x S hA j (by omega)) (cwV 1 C.1.2.2.2.2 gL_areCounters_X5_taken rfl rfl rfl (by decide +kernel) ⟨Nat.le_of_ble_eq_true rfl, Nat.le_of_ble_eq_true rfl⟩) rfl rfl (Nat.le_of_ble_eq_true rfl) ⟨Nat.le_of_ble_eq_true rfl, Nat.le_of_ble_eq_true rfl⟩ dL_areCounters_187 (fun r u hu => ?_)
              obtain ⟨hu1, hu2⟩ := hu
              subst u
              subst r
              refine z_imul (v := (nI 5) * (S.2.2.2 j)) 190 C dL_areCounters_190 rfl ?_
              refine z_iadd (v := t + ((nI 5) * (S.2.2.2 j))) 191 C dL_areCounters_191 rfl ?_
              refine z_aload_n 192 C dL_areCounters_192 rfl 0 rfl ?_
              refine z_iload_n 193 C dL_areCounters_193 rfl 1 rfl ?_
              refine z_callVi 194 C (As := [.int (nI j)]) 1 kO_main rfl (c_X5_total l hg x S hA j (by omega)) (cwV 1 C.1.2.2.2.2 gL_areCounters_X5_total rfl rfl rfl (by decide +kernel) ⟨Nat.le_of_ble_eq_true rfl, Nat.le_of_ble_eq_true rfl⟩) rfl rfl (Nat.le_of_ble_eq_true rfl) ⟨Nat.le_of_ble_eq_true rfl, Nat.le_of_ble_eq_true rfl⟩ dL_areCounters_194 (fun r u hu => ?_)
              obtain ⟨hu1, hu2⟩ := hu
              subst u
              subst r
              refine z_icmp_gt 197 C 204 dL_areCounters_197 (by decide) (fun h197 => absurd h197 (Int32.not_lt.mpr (by rw [ht, List.take_of_length_le h27]; exact zq_sum hGj))) (fun h197 => ?_)
              refine z_iconst (v := nI 1) 200 C dL_areCounters_200 rfl ?_
              refine z_goto 201 C 205 dL_areCounters_201 (by decide) ?_
              exact z_zret 205 C hr rfl ⟨rfl, rfl⟩ dL_areCounters_205
            · refine z_iload_n 123 C dL_areCounters_123 rfl 3 rfl ?_
              refine z_if_eqN 124 C 179 dL_areCounters_124 (by decide) (by omega) (fun h124 => absurd h124 (by omega)) (fun h124 => ?_)
              refine z_aload_n 127 C dL_areCounters_127 rfl 0 rfl ?_
              refine z_iload_n 128 C dL_areCounters_128 rfl 1 rfl ?_
              refine z_iload 129 C dL_areCounters_129 4 rfl ?_
              refine z_callVi 131 C (As := [.int (nI j), .int (nI i)]) 2 kO_main rfl (c_X5_counterOf l hg x S hA j (by omega) i (by omega)) (cwV 2 C.1.2.2.2.2 gL_areCounters_X5_counterOf rfl rfl rfl (by decide +kernel) ⟨Nat.le_of_ble_eq_true rfl, Nat.le_of_ble_eq_true rfl⟩) rfl rfl (Nat.le_of_ble_eq_true rfl) ⟨Nat.le_of_ble_eq_true rfl, Nat.le_of_ble_eq_true rfl⟩ dL_areCounters_131 (fun r u hu => ?_)
              obtain ⟨hu1, hu2⟩ := hu
              subst u
              subst r
              refine z_aload_n 134 C dL_areCounters_134 rfl 0 rfl ?_
              refine z_iload_n 135 C dL_areCounters_135 rfl 1 rfl ?_
              refine z_iload 136 C dL_areCounters_136 4 rfl ?_
              refine z_callVi 138 C (As := [.int (nI j), .int (nI i)]) 2 kO_main rfl (c_X5_count l hg x S hA j (by omega) i (by omega)) (cwV 2 C.1.2.2.2.2 gL_areCounters_X5_count rfl rfl rfl (by decide +kernel) ⟨Nat.le_of_ble_eq_true rfl, Nat.le_of_ble_eq_true rfl⟩) rfl rfl (Nat.le_of_ble_eq_true rfl) ⟨Nat.le_of_ble_eq_true rfl, Nat.le_of_ble_eq_true rfl⟩ dL_areCounters_138 (fun r u hu => ?_)
              obtain ⟨hu1, hu2⟩ := hu
              subst u
              subst r
              refine z_icmp_gt 141 C 171 dL_areCounters_141 (by decide) (fun h141 => absurd h141 (Int32.not_lt.mpr (zq_few hGj h120).1)) (fun h141 => ?_)
              refine z_aload_n 144 C dL_areCounters_144 rfl 0 rfl ?_
              refine z_iload_n 145 C dL_areCounters_145 rfl 1 rfl ?_
              refine z_iload 146 C dL_areCounters_146 4 rfl ?_
              refine z_callVi 148 C (As := [.int (nI j), .int (nI i)]) 2 kO_main rfl (c_X5_count l hg x S hA j (by omega) i (by omega)) (cwV 2 C.1.2.2.2.2 gL_areCounters_X5_count rfl rfl rfl (by decide +kernel) ⟨Nat.le_of_ble_eq_true rfl, Nat.le_of_ble_eq_true rfl⟩) rfl rfl (Nat.le_of_ble_eq_true rfl) ⟨Nat.le_of_ble_eq_true rfl, Nat.le_of_ble_eq_true rfl⟩ dL_areCounters_148 (fun r u hu => ?_)
              obtain ⟨hu1, hu2⟩ := hu
              subst u
              subst r
              refine z_aload_n 151 C dL_areCounters_151 rfl 0 rfl ?_
              refine z_iload_n 152 C dL_areCounters_152 rfl 1 rfl ?_
              refine z_iload 153 C dL_areCounters_153 4 rfl ?_
              refine z_callVi 155 C (As := [.int (nI j), .int (nI i)]) 2 kO_main rfl (c_X5_counterOf l hg x S hA j (by omega) i (by omega)) (cwV 2 C.1.2.2.2.2 gL_areCounters_X5_counterOf rfl rfl rfl (by decide +kernel) ⟨Nat.le_of_ble_eq_true rfl, Nat.le_of_ble_eq_true rfl⟩) rfl rfl (Nat.le_of_ble_eq_true rfl) ⟨Nat.le_of_ble_eq_true rfl, Nat.le_of_ble_eq_true rfl⟩ dL_areCounters_155 (fun r u hu => ?_)
              obtain ⟨hu1, hu2⟩ := hu
              subst u
              subst r
              refine z_aload_n 158 C dL_areCounters_158 rfl 0 rfl ?_
              refine z_iload_n 159 C dL_areCounters_159 rfl 1 rfl ?_
              refine z_callVi 160 C (As := [.int (nI j)]) 1 kO_main rfl (c_X5_taken l hg x S hA j (by omega)) (cwV 1 C.1.2.2.2.2 gL_areCounters_X5_taken rfl rfl rfl (by decide +kernel) ⟨Nat.le_of_ble_eq_true rfl, Nat.le_of_ble_eq_true rfl⟩) rfl rfl (Nat.le_of_ble_eq_true rfl) ⟨Nat.le_of_ble_eq_true rfl, Nat.le_of_ble_eq_true rfl⟩ dL_areCounters_160 (fun r u hu => ?_)
              obtain ⟨hu1, hu2⟩ := hu
              subst u
              subst r
              refine z_iadd (v := (zwt (S.2.2.1 j) (nI i)) + (S.2.2.2 j)) 163 C dL_areCounters_163 rfl ?_
              refine z_icmp_gt 164 C 171 dL_areCounters_164 (by decide) (fun h164 => absurd h164 (Int32.not_lt.mpr (zq_few hGj h120).2)) (fun h164 => ?_)
              refine z_iconst (v := nI 1) 167 C dL_areCounters_167 rfl ?_
              refine z_goto 168 C 172 dL_areCounters_168 (by decide) ?_
              refine z_istore_n (lv' := [(3, .int (nI 1)), (0, .ref (zad g 0)), (1, .int (nI j)), (2, .int t), (4, .int (nI i))]) 172 C dL_areCounters_172 rfl (by decide) rfl ?_
              refine z_iinc (v' := nI (i + 1)) (lv' := [(4, .int (nI (i + 1))), (3, .int (nI 1)), (0, .ref (zad g 0)), (1, .int (nI j)), (2, .int t)]) 173 C dL_areCounters_173 (q := 4) rfl (zn_inc i 1) (by decide) rfl ?_
              refine z_goto 176 C 116 dL_areCounters_176 (by decide) ?_
              refine z_lv (lv' := [(0, .ref (zad g 0)), (1, .int (nI j)), (2, .int t), (3, .int (nI 1)), (4, .int (nI (i + 1)))]) [2, 3, 4, 1, 0] rfl ?_
              exact ih116 (i + 1) (by omega) (by omega)
        refine z_lv (lv' := [(0, .ref (zad g 0)), (1, .int (nI j)), (2, .int t), (3, .int (nI 1)), (4, .int (nI 0))]) [1, 2, 3, 4, 0] rfl ?_
        exact J116 65 0 (Nat.zero_le _) (by omega)
      · refine z_iload_n 30 C dL_areCounters_30 rfl 3 rfl ?_
        refine z_if_eqN 31 C 113 dL_areCounters_31 (by decide) (by omega) (fun h31 => absurd h31 (by omega)) (fun h31 => ?_)
        refine z_aload_n 34 C dL_areCounters_34 rfl 0 rfl ?_
        refine z_iload_n 35 C dL_areCounters_35 rfl 1 rfl ?_
        refine z_iload 36 C dL_areCounters_36 4 rfl ?_
        refine z_callVi 38 C (As := [.int (nI j), .int (nI q)]) 2 kO_main rfl (c_X5_counterItem l hg x S hA j (by omega) q (by omega)) (cwV 2 C.1.2.2.2.2 gL_areCounters_X5_counterItem rfl rfl rfl (by decide +kernel) ⟨Nat.le_of_ble_eq_true rfl, Nat.le_of_ble_eq_true rfl⟩) rfl rfl (Nat.le_of_ble_eq_true rfl) ⟨Nat.le_of_ble_eq_true rfl, Nat.le_of_ble_eq_true rfl⟩ dL_areCounters_38 (fun r u hu => ?_)
        obtain ⟨hu1, hu2⟩ := hu
        subst u
        obtain ⟨it, hit, eit⟩ := zq_item hGj h27
        rw [eit] at hu2
        subst r
        refine z_istore (lv' := [(5, .int (nI it)), (0, .ref (zad g 0)), (1, .int (nI j)), (2, .int t), (3, .int (nI 1)), (4, .int (nI q))]) 41 C dL_areCounters_41 (by decide) rfl ?_
        refine z_iload_n 43 C dL_areCounters_43 rfl 3 rfl ?_
        refine z_aload_n 44 C dL_areCounters_44 rfl 1 rfl ?_
        refine z_iload_n 45 C dL_areCounters_45 rfl 2 rfl ?_
        refine z_iload 46 C dL_areCounters_46 0 rfl ?_
        refine z_callVi 48 C (As := [.int (nI j), .int (nI it)]) 2 kO_main rfl (c_X5_counterOf l hg x S hA j (by omega) it (by omega)) (cwV 2 C.1.2.2.2.2 gL_areCounters_X5_counterOf rfl rfl rfl (by decide +kernel) ⟨Nat.le_of_ble_eq_true rfl, Nat.le_of_ble_eq_true rfl⟩) rfl rfl (Nat.le_of_ble_eq_true rfl) ⟨Nat.le_of_ble_eq_true rfl, Nat.le_of_ble_eq_true rfl⟩ dL_areCounters_48 (fun r u hu => ?_)
        obtain ⟨hu1, hu2⟩ := hu
        subst u
        subst r
        refine z_iadd (v := t + (zwt (S.2.2.1 j) (nI it))) 51 C dL_areCounters_51 rfl ?_
        refine z_istore_n (lv' := [(2, .int (t + (zwt (S.2.2.1 j) (nI it)))), (5, .int (nI it)), (0, .ref (zad g 0)), (1, .int (nI j)), (3, .int (nI 1)), (4, .int (nI q))]) 52 C dL_areCounters_52 rfl (by decide) rfl ?_
        refine z_aload_n 53 C dL_areCounters_53 rfl 2 rfl ?_
        refine z_iload_n 54 C dL_areCounters_54 rfl 3 rfl ?_
        refine z_iload 55 C dL_areCounters_55 1 rfl ?_
        refine z_callVi 57 C (As := [.int (nI j), .int (nI it)]) 2 kO_main rfl (c_X5_counterOf l hg x S hA j (by omega) it (by omega)) (cwV 2 C.1.2.2.2.2 gL_areCounters_X5_counterOf rfl rfl rfl (by decide +kernel) ⟨Nat.le_of_ble_eq_true rfl, Nat.le_of_ble_eq_true rfl⟩) rfl rfl (Nat.le_of_ble_eq_true rfl) ⟨Nat.le_of_ble_eq_true rfl, Nat.le_of_ble_eq_true rfl⟩ dL_areCounters_57 (fun r u hu => ?_)
        obtain ⟨hu1, hu2⟩ := hu
        subst u
        subst r
        refine z_if_le 60 C 67 dL_areCounters_60 (by decide) (fun h60 => absurd h60 (by rw [zq_wt hGj h27 eit]; exact zq_pos hGj h27)) (fun h60 => ?_)
        refine z_iconst (v := nI 1) 63 C dL_areCounters_63 rfl ?_
        refine z_goto 64 C 68 dL_areCounters_64 (by decide) ?_
        refine z_istore_n (lv' := [(3, .int (nI 1)), (2, .int (t + (zwt (S.2.2.1 j) (nI it)))), (5, .int (nI it)), (0, .ref (zad g 0)), (1, .int (nI j)), (4, .int (nI q))]) 68 C dL_areCounters_68 rfl (by decide) rfl ?_
        refine z_iconst (v := nI 0) 69 C dL_areCounters_69 rfl ?_
        refine z_istore (lv' := [(6, .int (nI 0)), (3, .int (nI 1)), (2, .int (t + (zwt (S.2.2.1 j) (nI it)))), (5, .int (nI it)), (0, .ref (zad g 0)), (1, .int (nI j)), (4, .int (nI q))]) 70 C dL_areCounters_70 (by decide) rfl ?_
        have J72 : ∀ (n72 : Nat) (o2 : Nat), (o2 ≤ q) → (q < o2 + n72) → Z p_ l e_ (headSpec wsL_areCounters ({ frames := 3, cells := 0, slots := 0, locals := 66 })).room s_ m_ args_ below_ meth_ c_ g 7 0 0 (MQ below_ (va_Qi (fun (r : Int32) (u : zT) => u = x ∧ r = nI 1) (zB g) (zA g)) args_ s_ 0 0 (zA g)) x 72 [(0, .ref (zad g 0)), (1, .int (nI j)), (2, .int (t + (zwt (S.2.2.1 j) (nI it)))), (3, .int (nI 1)), (4, .int (nI q)), (5, .int (nI it)), (6, .int (nI o2))] [] := by
          intro n72
          induction n72 with
          | zero => intro o2 ho2 hn; exact absurd hn (by omega)
          | succ n72 ih72 =>
            intro o2 ho2 hn
            refine z_iload 72 C dL_areCounters_72 6 rfl ?_
            refine z_iload 74 C dL_areCounters_74 4 rfl ?_
            refine z_icmp_geN 76 C 107 dL_areCounters_76 (by decide) (by omega) (by omega) (fun h76 => ?_) (fun h76 => ?_)
            · refine z_iinc (v' := nI (q + 1)) (lv' := [(4, .int (nI (q + 1))), (0, .ref (zad g 0)), (1, .int (nI j)), (2, .int (t + (zwt (S.2.2.1 j) (nI it)))), (3, .int (nI 1)), (5, .int (nI it)), (6, .int (nI o2))]) 107 C dL_areCounters_107 (q := 4) rfl (zn_inc q 1) (by decide) rfl ?_
              refine z_goto 110 C 20 dL_areCounters_110 (by decide) ?_
              refine z_lv (lv' := [(0, .ref (zad g 0)), (1, .int (nI j)), (2, .int (t + (zwt (S.2.2.1 j) (nI it)))), (3, .int (nI 1)), (4, .int (nI (q + 1)))]) [1, 2, 3, 4, 0] rfl ?_
              exact ih20 (q + 1) (t + (zwt (S.2.2.1 j) (nI it))) (by omega) (by omega) (by rw [ht, zws_take h27, zq_wt hGj h27 eit])
            · refine z_iload_n 79 C dL_areCounters_79 rfl 3 rfl ?_
              refine z_if_eqN 80 C 99 dL_areCounters_80 (by decide) (by omega) (fun h80 => absurd h80 (by omega)) (fun h80 => ?_)
              refine z_aload_n 83 C dL_areCounters_83 rfl 0 rfl ?_
              refine z_iload_n 84 C dL_areCounters_84 rfl 1 rfl ?_
              refine z_iload 85 C dL_areCounters_85 6 rfl ?_
              refine z_callVi 87 C (As := [.int (nI j), .int (nI o2)]) 2 kO_main rfl (c_X5_counterItem l hg x S hA j (by omega) o2 (by omega)) (cwV 2 C.1.2.2.2.2 gL_areCounters_X5_counterItem rfl rfl rfl (by decide +kernel) ⟨Nat.le_of_ble_eq_true rfl, Nat.le_of_ble_eq_true rfl⟩) rfl rfl (Nat.le_of_ble_eq_true rfl) ⟨Nat.le_of_ble_eq_true rfl, Nat.le_of_ble_eq_true rfl⟩ dL_areCounters_87 (fun r u hu => ?_)
              obtain ⟨hu1, hu2⟩ := hu
              subst u
              subst r
              refine z_iload 90 C dL_areCounters_90 5 rfl ?_
              refine z_icmp_eq 92 C 99 dL_areCounters_92 (by decide) (fun h92 => absurd (h92.trans eit.symm) (zq_nd hGj o2 q h76 h27)) (fun h92 => ?_)
              refine z_iconst (v := nI 1) 95 C dL_areCounters_95 rfl ?_
              refine z_goto 96 C 100 dL_areCounters_96 (by decide) ?_
              refine z_istore_n (lv' := [(3, .int (nI 1)), (0, .ref (zad g 0)), (1, .int (nI j)), (2, .int (t + (zwt (S.2.2.1 j) (nI it)))), (4, .int (nI q)), (5, .int (nI it)), (6, .int (nI o2))]) 100 C dL_areCounters_100 rfl (by decide) rfl ?_
              refine z_iinc (v' := nI (o2 + 1)) (lv' := [(6, .int (nI (o2 + 1))), (3, .int (nI 1)), (0, .ref (zad g 0)), (1, .int (nI j)), (2, .int (t + (zwt (S.2.2.1 j) (nI it)))), (4, .int (nI q)), (5, .int (nI it))]) 101 C dL_areCounters_101 (q := 6) rfl (zn_inc o2 1) (by decide) rfl ?_
              refine z_goto 104 C 72 dL_areCounters_104 (by decide) ?_
              refine z_lv (lv' := [(0, .ref (zad g 0)), (1, .int (nI j)), (2, .int (t + (zwt (S.2.2.1 j) (nI it)))), (3, .int (nI 1)), (4, .int (nI q)), (5, .int (nI it)), (6, .int (nI (o2 + 1)))]) [2, 3, 4, 1, 5, 6, 0] rfl ?_
              exact ih72 (o2 + 1) (by omega) (by omega)
        refine z_lv (lv' := [(0, .ref (zad g 0)), (1, .int (nI j)), (2, .int (t + (zwt (S.2.2.1 j) (nI it)))), (3, .int (nI 1)), (4, .int (nI q)), (5, .int (nI it)), (6, .int (nI 0))]) [4, 5, 2, 1, 6, 3, 0] rfl ?_
        exact J72 (q + 1) 0 (Nat.zero_le _) (by omega)
  refine z_lv (lv' := [(0, .ref (zad g 0)), (1, .int (nI j)), (2, .int (nI 0)), (3, .int (nI 1)), (4, .int (nI 0))]) [3, 4, 2, 1, 0] rfl ?_
  exact J20 ((S.2.2.1 j).length + 1) 0 0 (Nat.zero_le _) (by omega) rfl
set_option maxHeartbeats 4000000 in
set_option maxRecDepth 100000 in
/-- L_areRows -/
theorem c_L_areRows (l : Launch) {g : zG} (hg : zOk g) (x : zT) (S : zS) (hA : zAll x S) (hG : zGood S) (j : Nat) (hj : j < 4) : Met l yL_areRows wsL_areRows ({ frames := 2, cells := 0, slots := 0, locals := 45 }) (va_Pc [.ref (zad g 0), .int (nI j)] (zPre g x)) (va_Qi (fun (r : Int32) (u : zT) => u = x ∧ r = nI 1) (zB g) (zA g)) 0 0 (zA g) := by
  refine z_met (cc := cL_areRows) (nL := 7) (ret := (some .boolean)) hg (by decide) rfl (Nat.le_of_ble_eq_true rfl) ?_
  intro p_ e_ s_ m_ args_ below_ meth_ c_ C hr
  show Z p_ l e_ _ s_ m_ args_ below_ meth_ c_ g 7 0 0 _ x 0 [(0, .ref (zad g 0)), (1, .int (nI j))] []
  have hGj := hG j hj
  refine z_iconst (v := nI 1) 0 C dL_areRows_0 rfl ?_
  refine z_istore_n (lv' := [(2, .int (nI 1)), (0, .ref (zad g 0)), (1, .int (nI j))]) 1 C dL_areRows_1 rfl (by decide) rfl ?_
  refine z_iconst (v := nI 0) 2 C dL_areRows_2 rfl ?_
  refine z_istore_n (lv' := [(3, .int (nI 0)), (2, .int (nI 1)), (0, .ref (zad g 0)), (1, .int (nI j))]) 3 C dL_areRows_3 rfl (by decide) rfl ?_
  have J4 : ∀ (n4 : Nat) (r : Nat), (r ≤ 5) → (5 < r + n4) → Z p_ l e_ (headSpec wsL_areRows ({ frames := 2, cells := 0, slots := 0, locals := 45 })).room s_ m_ args_ below_ meth_ c_ g 7 0 0 (MQ below_ (va_Qi (fun (r : Int32) (u : zT) => u = x ∧ r = nI 1) (zB g) (zA g)) args_ s_ 0 0 (zA g)) x 4 [(0, .ref (zad g 0)), (1, .int (nI j)), (2, .int (nI 1)), (3, .int (nI r))] [] := by
    intro n4
    induction n4 with
    | zero => intro r hr5 hn; exact absurd hn (by omega)
    | succ n4 ih4 =>
      intro r hr5 hn
      refine z_iload_n 4 C dL_areRows_4 rfl 3 rfl ?_
      refine z_iconst (v := nI 5) 5 C dL_areRows_5 rfl ?_
      refine z_icmp_geN 6 C 103 dL_areRows_6 (by decide) (by omega) (by omega) (fun h6 => ?_) (fun h6 => ?_)
      · refine z_iload_n 103 C dL_areRows_103 rfl 2 rfl ?_
        exact z_zret 104 C hr rfl ⟨rfl, rfl⟩ dL_areRows_104
      · refine z_iconst (v := nI 0) 9 C dL_areRows_9 rfl ?_
        refine z_istore (lv' := [(4, .int (nI 0)), (0, .ref (zad g 0)), (1, .int (nI j)), (2, .int (nI 1)), (3, .int (nI r))]) 10 C dL_areRows_10 (by decide) rfl ?_
        refine z_iconst (v := nI 0) 12 C dL_areRows_12 rfl ?_
        refine z_istore (lv' := [(5, .int (nI 0)), (4, .int (nI 0)), (0, .ref (zad g 0)), (1, .int (nI j)), (2, .int (nI 1)), (3, .int (nI r))]) 13 C dL_areRows_13 (by decide) rfl ?_
        refine z_iconst (v := nI 0) 15 C dL_areRows_15 rfl ?_
        refine z_istore (lv' := [(6, .int (nI 0)), (5, .int (nI 0)), (4, .int (nI 0)), (0, .ref (zad g 0)), (1, .int (nI j)), (2, .int (nI 1)), (3, .int (nI r))]) 16 C dL_areRows_16 (by decide) rfl ?_
        have J18 : ∀ (n18 : Nat) (cc : Nat) (t : Int32), (cc ≤ 8) → (8 < cc + n18) → (t = zsum (fun col => zscell (S.1 j) r col) 0 cc) → Z p_ l e_ (headSpec wsL_areRows ({ frames := 2, cells := 0, slots := 0, locals := 45 })).room s_ m_ args_ below_ meth_ c_ g 7 0 0 (MQ below_ (va_Qi (fun (r : Int32) (u : zT) => u = x ∧ r = nI 1) (zB g) (zA g)) args_ s_ 0 0 (zA g)) x 18 [(0, .ref (zad g 0)), (1, .int (nI j)), (2, .int (nI 1)), (3, .int (nI r)), (4, .int t), (5, .int (nI 0)), (6, .int (nI cc))] [] := by
          intro n18
          induction n18 with
          | zero => intro cc t hcc hn hta; exact absurd hn (by omega)
          | succ n18 ih18 =>
            intro cc t hcc hn hta
            refine z_iload 18 C dL_areRows_18 6 rfl ?_
            refine z_bipush (v := nI 8) 20 C dL_areRows_20 rfl ?_
            refine z_icmp_geN 22 C 44 dL_areRows_22 (by decide) (by omega) (by omega) (fun h22 => ?_) (fun h22 => ?_)
            · refine z_iconst (v := nI 0) 44 C dL_areRows_44 rfl ?_
              refine z_istore (lv' := [(6, .int (nI 0)), (0, .ref (zad g 0)), (1, .int (nI j)), (2, .int (nI 1)), (3, .int (nI r)), (4, .int t), (5, .int (nI 0))]) 45 C dL_areRows_45 (by decide) rfl ?_
              have J47 : ∀ (n47 : Nat) (i : Nat) (v : Int32), (i ≤ 64) → (64 < i + n47) → (v = zsum (fun i => zsg r i * S.1 j i) 0 i) → Z p_ l e_ (headSpec wsL_areRows ({ frames := 2, cells := 0, slots := 0, locals := 45 })).room s_ m_ args_ below_ meth_ c_ g 7 0 0 (MQ below_ (va_Qi (fun (r : Int32) (u : zT) => u = x ∧ r = nI 1) (zB g) (zA g)) args_ s_ 0 0 (zA g)) x 47 [(0, .ref (zad g 0)), (1, .int (nI j)), (2, .int (nI 1)), (3, .int (nI r)), (4, .int t), (5, .int v), (6, .int (nI i))] [] := by
                intro n47
                induction n47 with
                | zero => intro i v hi hn htb; exact absurd hn (by omega)
                | succ n47 ih47 =>
                  intro i v hi hn htb
                  refine z_iload 47 C dL_areRows_47 6 rfl ?_
                  refine z_bipush (v := nI 64) 49 C dL_areRows_49 rfl ?_
                  refine z_icmp_geN 51 C 80 dL_areRows_51 (by decide) (by omega) (by omega) (fun h51 => ?_) (fun h51 => ?_)
                  · refine z_iload_n 80 C dL_areRows_80 rfl 2 rfl ?_
                    refine z_if_eqN 81 C 95 dL_areRows_81 (by decide) (by omega) (fun h81 => absurd h81 (by omega)) (fun h81 => ?_)
                    refine z_iload 84 C dL_areRows_84 4 rfl ?_
                    refine z_iload 86 C dL_areRows_86 5 rfl ?_
                    refine z_icmp_ne 88 C 95 dL_areRows_88 (by decide) (fun h88 => absurd (show t = v by rw [hta, htb, show cc = 8 by omega, show i = 64 by omega]; exact zrow_sum (S.1 j) r) h88) (fun h88 => ?_)
                    refine z_iconst (v := nI 1) 91 C dL_areRows_91 rfl ?_
                    refine z_goto 92 C 96 dL_areRows_92 (by decide) ?_
                    refine z_istore_n (lv' := [(2, .int (nI 1)), (0, .ref (zad g 0)), (1, .int (nI j)), (3, .int (nI r)), (4, .int t), (5, .int v), (6, .int (nI i))]) 96 C dL_areRows_96 rfl (by decide) rfl ?_
                    refine z_iinc (v' := nI (r + 1)) (lv' := [(3, .int (nI (r + 1))), (2, .int (nI 1)), (0, .ref (zad g 0)), (1, .int (nI j)), (4, .int t), (5, .int v), (6, .int (nI i))]) 97 C dL_areRows_97 (q := 3) rfl (zn_inc r 1) (by decide) rfl ?_
                    refine z_goto 100 C 4 dL_areRows_100 (by decide) ?_
                    refine z_lv (lv' := [(0, .ref (zad g 0)), (1, .int (nI j)), (2, .int (nI 1)), (3, .int (nI (r + 1)))]) [2, 3, 1, 0] rfl ?_
                    exact ih4 (r + 1) (by omega) (by omega)
                  · refine z_iload 54 C dL_areRows_54 5 rfl ?_
                    refine z_aload_n 56 C dL_areRows_56 rfl 0 rfl ?_
                    refine z_iload_n 57 C dL_areRows_57 rfl 3 rfl ?_
                    refine z_iload 58 C dL_areRows_58 6 rfl ?_
                    refine z_callVi 60 C (As := [.int (nI r), .int (nI i)]) 2 kO_main rfl (c_X5_sign l hg x S hA r i (by omega) (by omega)) (cwV 2 C.1.2.2.2.2 gL_areRows_X5_sign rfl rfl rfl (by decide +kernel) ⟨Nat.le_of_ble_eq_true rfl, Nat.le_of_ble_eq_true rfl⟩) rfl rfl (Nat.le_of_ble_eq_true rfl) ⟨Nat.le_of_ble_eq_true rfl, Nat.le_of_ble_eq_true rfl⟩ dL_areRows_60 (fun r u hu => ?_)
                    obtain ⟨hu1, hu2⟩ := hu
                    subst u
                    subst r
                    refine z_aload_n 63 C dL_areRows_63 rfl 0 rfl ?_
                    refine z_iload_n 64 C dL_areRows_64 rfl 1 rfl ?_
                    refine z_iload 65 C dL_areRows_65 6 rfl ?_
                    refine z_callVi 67 C (As := [.int (nI j), .int (nI i)]) 2 kO_main rfl (c_X5_count l hg x S hA j (by omega) i (by omega)) (cwV 2 C.1.2.2.2.2 gL_areRows_X5_count rfl rfl rfl (by decide +kernel) ⟨Nat.le_of_ble_eq_true rfl, Nat.le_of_ble_eq_true rfl⟩) rfl rfl (Nat.le_of_ble_eq_true rfl) ⟨Nat.le_of_ble_eq_true rfl, Nat.le_of_ble_eq_true rfl⟩ dL_areRows_67 (fun r u hu => ?_)
                    obtain ⟨hu1, hu2⟩ := hu
                    subst u
                    subst r
                    refine z_imul (v := (zsg r i) * (S.1 j i)) 70 C dL_areRows_70 rfl ?_
                    refine z_iadd (v := v + ((zsg r i) * (S.1 j i))) 71 C dL_areRows_71 rfl ?_
                    refine z_istore (lv' := [(5, .int (v + ((zsg r i) * (S.1 j i)))), (0, .ref (zad g 0)), (1, .int (nI j)), (2, .int (nI 1)), (3, .int (nI r)), (4, .int t), (6, .int (nI i))]) 72 C dL_areRows_72 (by decide) rfl ?_
                    refine z_iinc (v' := nI (i + 1)) (lv' := [(6, .int (nI (i + 1))), (5, .int (v + ((zsg r i) * (S.1 j i)))), (0, .ref (zad g 0)), (1, .int (nI j)), (2, .int (nI 1)), (3, .int (nI r)), (4, .int t)]) 74 C dL_areRows_74 (q := 6) rfl (zn_inc i 1) (by decide) rfl ?_
                    refine z_goto 77 C 47 dL_areRows_77 (by decide) ?_
                    refine z_lv (lv' := [(0, .ref (zad g 0)), (1, .int (nI j)), (2, .int (nI 1)), (3, .int (nI r)), (4, .int t), (5, .int (v + ((zsg r i) * (S.1 j i)))), (6, .int (nI (i + 1)))]) [2, 3, 4, 5, 6, 1, 0] rfl ?_
                    exact ih47 (i + 1) (v + ((zsg r i) * (S.1 j i))) (by omega) (by omega) (by rw [htb]; exact zsum_s0 (fun i => zsg r i * S.1 j i) i)
              refine z_lv (lv' := [(0, .ref (zad g 0)), (1, .int (nI j)), (2, .int (nI 1)), (3, .int (nI r)), (4, .int t), (5, .int (nI 0)), (6, .int (nI 0))]) [1, 2, 3, 4, 5, 6, 0] rfl ?_
              exact J47 65 0 0 (by omega) (by omega) rfl
            · refine z_iload 25 C dL_areRows_25 4 rfl ?_
              refine z_aload_n 27 C dL_areRows_27 rfl 0 rfl ?_
              refine z_iload_n 28 C dL_areRows_28 rfl 1 rfl ?_
              refine z_iload_n 29 C dL_areRows_29 rfl 3 rfl ?_
              refine z_iload 30 C dL_areRows_30 6 rfl ?_
              refine z_callVi 32 C (As := [.int (nI j), .int (nI r), .int (nI cc)]) 3 kO_main rfl (c_X5_signedCell l hg x S hA j (by omega) r cc (by omega) (by omega)) (cwV 3 C.1.2.2.2.2 gL_areRows_X5_signedCell rfl rfl rfl (by decide +kernel) ⟨Nat.le_of_ble_eq_true rfl, Nat.le_of_ble_eq_true rfl⟩) rfl rfl (Nat.le_of_ble_eq_true rfl) ⟨Nat.le_of_ble_eq_true rfl, Nat.le_of_ble_eq_true rfl⟩ dL_areRows_32 (fun r u hu => ?_)
              obtain ⟨hu1, hu2⟩ := hu
              subst u
              subst r
              refine z_iadd (v := t + (zscell (S.1 j) r cc)) 35 C dL_areRows_35 rfl ?_
              refine z_istore (lv' := [(4, .int (t + (zscell (S.1 j) r cc))), (0, .ref (zad g 0)), (1, .int (nI j)), (2, .int (nI 1)), (3, .int (nI r)), (5, .int (nI 0)), (6, .int (nI cc))]) 36 C dL_areRows_36 (by decide) rfl ?_
              refine z_iinc (v' := nI (cc + 1)) (lv' := [(6, .int (nI (cc + 1))), (4, .int (t + (zscell (S.1 j) r cc))), (0, .ref (zad g 0)), (1, .int (nI j)), (2, .int (nI 1)), (3, .int (nI r)), (5, .int (nI 0))]) 38 C dL_areRows_38 (q := 6) rfl (zn_inc cc 1) (by decide) rfl ?_
              refine z_goto 41 C 18 dL_areRows_41 (by decide) ?_
              refine z_lv (lv' := [(0, .ref (zad g 0)), (1, .int (nI j)), (2, .int (nI 1)), (3, .int (nI r)), (4, .int (t + (zscell (S.1 j) r cc))), (5, .int (nI 0)), (6, .int (nI (cc + 1)))]) [2, 3, 4, 5, 1, 6, 0] rfl ?_
              exact ih18 (cc + 1) (t + (zscell (S.1 j) r cc)) (by omega) (by omega) (by rw [hta]; exact zsum_s0 _ cc)
        refine z_lv (lv' := [(0, .ref (zad g 0)), (1, .int (nI j)), (2, .int (nI 1)), (3, .int (nI r)), (4, .int (nI 0)), (5, .int (nI 0)), (6, .int (nI 0))]) [3, 4, 5, 6, 2, 1, 0] rfl ?_
        exact J18 9 0 0 (by omega) (by omega) rfl
  refine z_lv (lv' := [(0, .ref (zad g 0)), (1, .int (nI j)), (2, .int (nI 1)), (3, .int (nI 0))]) [2, 3, 1, 0] rfl ?_
  exact J4 6 0 (by omega) (by omega)
set_option maxHeartbeats 4000000 in
set_option maxRecDepth 100000 in
/-- L_areAsked -/
theorem c_L_areAsked (l : Launch) {g : zG} (hg : zOk g) (x : zT) (S : zS) (hA : zAll x S) (hG : zGood S) (j : Nat) (hj : j < 4) (w a b : Nat) (hw1 : 1 ≤ w) (hw2 : w ≤ 2000) (hab : a ≤ b) (hb : b < 64) : Met l yL_areAsked wsL_areAsked ({ frames := 6, cells := 0, slots := 0, locals := 135 }) (va_Pc [.ref (zad g 0), .int (nI j), .int (nI w), .int (nI a), .int (nI b)] (zPre g x)) (va_Qi (fun (r : Int32) (u : zT) => u = x ∧ r = nI 1) (zB g) (zA g)) 0 0 (zA g) := by
  refine z_met (cc := cL_areAsked) (nL := 10) (ret := (some .boolean)) hg (by decide) rfl (Nat.le_of_ble_eq_true rfl) ?_
  intro p_ e_ s_ m_ args_ below_ meth_ c_ C hr
  show Z p_ l e_ _ s_ m_ args_ below_ meth_ c_ g 10 0 0 _ x 0 [(0, .ref (zad g 0)), (1, .int (nI j)), (2, .int (nI w)), (3, .int (nI a)), (4, .int (nI b))] []
  have hGj := hG j hj
  have hz64 := zfrn_le (S.1 j) (S.2.1 j) (nI w) 64
  have hpt := zpt_b hab hb
  refine z_aload_n 0 C dL_areAsked_0 rfl 0 rfl ?_
  refine z_iload_n 1 C dL_areAsked_1 rfl 1 rfl ?_
  refine z_iload_n 2 C dL_areAsked_2 rfl 2 rfl ?_
  refine z_callVi 3 C (As := [.int (nI j), .int (nI w)]) 2 kO_main rfl (c_X5_frequent l hg x S hA j (by omega) w (by omega) (by omega)) (cwV 2 C.1.2.2.2.2 gL_areAsked_X5_frequent rfl rfl rfl (by decide +kernel) ⟨Nat.le_of_ble_eq_true rfl, Nat.le_of_ble_eq_true rfl⟩) rfl rfl (Nat.le_of_ble_eq_true rfl) ⟨Nat.le_of_ble_eq_true rfl, Nat.le_of_ble_eq_true rfl⟩ dL_areAsked_3 (fun r u hu => ?_)
  obtain ⟨hu1, hu2⟩ := hu
  subst u
  subst r
  refine z_istore (lv' := [(5, .int (nI (zfrn (S.1 j) (S.2.1 j) (nI w) 64))), (0, .ref (zad g 0)), (1, .int (nI j)), (2, .int (nI w)), (3, .int (nI a)), (4, .int (nI b))]) 6 C dL_areAsked_6 (by decide) rfl ?_
  refine z_iconst (v := nI 0) 8 C dL_areAsked_8 rfl ?_
  refine z_istore (lv' := [(6, .int (nI 0)), (5, .int (nI (zfrn (S.1 j) (S.2.1 j) (nI w) 64))), (0, .ref (zad g 0)), (1, .int (nI j)), (2, .int (nI w)), (3, .int (nI a)), (4, .int (nI b))]) 9 C dL_areAsked_9 (by decide) rfl ?_
  refine z_iconst (v := nI 1) 11 C dL_areAsked_11 rfl ?_
  refine z_istore (lv' := [(7, .int (nI 1)), (6, .int (nI 0)), (5, .int (nI (zfrn (S.1 j) (S.2.1 j) (nI w) 64))), (0, .ref (zad g 0)), (1, .int (nI j)), (2, .int (nI w)), (3, .int (nI a)), (4, .int (nI b))]) 12 C dL_areAsked_12 (by decide) rfl ?_
  refine z_iconst (v := nI 0) 14 C dL_areAsked_14 rfl ?_
  refine z_istore (lv' := [(8, .int (nI 0)), (7, .int (nI 1)), (6, .int (nI 0)), (5, .int (nI (zfrn (S.1 j) (S.2.1 j) (nI w) 64))), (0, .ref (zad g 0)), (1, .int (nI j)), (2, .int (nI w)), (3, .int (nI a)), (4, .int (nI b))]) 15 C dL_areAsked_15 (by decide) rfl ?_
  have J17 : ∀ (n17 : Nat) (i : Nat) (n : Nat), (i ≤ 64) → (64 < i + n17) → (n = zfrn (S.1 j) (S.2.1 j) (nI w) i) → Z p_ l e_ (headSpec wsL_areAsked ({ frames := 6, cells := 0, slots := 0, locals := 135 })).room s_ m_ args_ below_ meth_ c_ g 10 0 0 (MQ below_ (va_Qi (fun (r : Int32) (u : zT) => u = x ∧ r = nI 1) (zB g) (zA g)) args_ s_ 0 0 (zA g)) x 17 [(0, .ref (zad g 0)), (1, .int (nI j)), (2, .int (nI w)), (3, .int (nI a)), (4, .int (nI b)), (5, .int (nI (zfrn (S.1 j) (S.2.1 j) (nI w) 64))), (6, .int (nI n)), (7, .int (nI 1)), (8, .int (nI i))] [] := by
    intro n17
    induction n17 with
    | zero => intro i n hi hn hp; exact absurd hn (by omega)
    | succ n17 ih17 =>
      intro i n hi hn hp
      refine z_iload 17 C dL_areAsked_17 8 rfl ?_
      refine z_bipush (v := nI 64) 19 C dL_areAsked_19 rfl ?_
      refine z_icmp_geN 21 C 100 dL_areAsked_21 (by decide) (by omega) (by omega) (fun h21 => ?_) (fun h21 => ?_)
      · have hnn : n = zfrn (S.1 j) (S.2.1 j) (nI w) 64 := by rw [hp, show i = 64 by omega]
        refine z_iload 100 C dL_areAsked_100 7 rfl ?_
        refine z_if_eqN 102 C 158 dL_areAsked_102 (by decide) (by omega) (fun h102 => absurd h102 (by omega)) (fun h102 => ?_)
        refine z_iload 105 C dL_areAsked_105 6 rfl ?_
        refine z_iload 107 C dL_areAsked_107 5 rfl ?_
        refine z_icmp_neN 109 C 158 dL_areAsked_109 (by decide) (by omega) (by omega) (fun h109 => absurd hnn h109) (fun h109 => ?_)
        refine z_aload_n 112 C dL_areAsked_112 rfl 0 rfl ?_
        refine z_iload_n 113 C dL_areAsked_113 rfl 1 rfl ?_
        refine z_iload_n 114 C dL_areAsked_114 rfl 3 rfl ?_
        refine z_iload 115 C dL_areAsked_115 4 rfl ?_
        refine z_callVi 117 C (As := [.int (nI j), .int (nI a), .int (nI b)]) 3 kO_main rfl (c_X5_estimateOfRange l hg x S hA j (by omega) a b (by omega) (by omega)) (cwV 3 C.1.2.2.2.2 gL_areAsked_X5_estimateOfRange rfl rfl rfl (by decide +kernel) ⟨Nat.le_of_ble_eq_true rfl, Nat.le_of_ble_eq_true rfl⟩) rfl rfl (Nat.le_of_ble_eq_true rfl) ⟨Nat.le_of_ble_eq_true rfl, Nat.le_of_ble_eq_true rfl⟩ dL_areAsked_117 (fun r u hu => ?_)
        obtain ⟨hu1, hu2⟩ := hu
        subst u
        subst r
        refine z_aload_n 120 C dL_areAsked_120 rfl 0 rfl ?_
        refine z_iload_n 121 C dL_areAsked_121 rfl 1 rfl ?_
        refine z_iload_n 122 C dL_areAsked_122 rfl 3 rfl ?_
        refine z_iload 123 C dL_areAsked_123 4 rfl ?_
        refine z_callVi 125 C (As := [.int (nI j), .int (nI a), .int (nI b)]) 3 kO_main rfl (c_X5_countOfRange l hg x S hA j (by omega) a b (by omega) (by omega)) (cwV 3 C.1.2.2.2.2 gL_areAsked_X5_countOfRange rfl rfl rfl (by decide +kernel) ⟨Nat.le_of_ble_eq_true rfl, Nat.le_of_ble_eq_true rfl⟩) rfl rfl (Nat.le_of_ble_eq_true rfl) ⟨Nat.le_of_ble_eq_true rfl, Nat.le_of_ble_eq_true rfl⟩ dL_areAsked_125 (fun r u hu => ?_)
        obtain ⟨hu1, hu2⟩ := hu
        subst u
        subst r
        refine z_icmp_lt 128 C 158 dL_areAsked_128 (by decide) (fun h128 => absurd h128 (zq_rng hGj hab hb)) (fun h128 => ?_)
        refine z_aload_n 131 C dL_areAsked_131 rfl 0 rfl ?_
        refine z_iload_n 132 C dL_areAsked_132 rfl 3 rfl ?_
        refine z_iload 133 C dL_areAsked_133 4 rfl ?_
        refine z_callVi 135 C (As := [.int (nI a), .int (nI b)]) 2 kO_main rfl (c_X5_parts l hg x S hA a b (by omega) (by omega)) (cwV 2 C.1.2.2.2.2 gL_areAsked_X5_parts rfl rfl rfl (by decide +kernel) ⟨Nat.le_of_ble_eq_true rfl, Nat.le_of_ble_eq_true rfl⟩) rfl rfl (Nat.le_of_ble_eq_true rfl) ⟨Nat.le_of_ble_eq_true rfl, Nat.le_of_ble_eq_true rfl⟩ dL_areAsked_135 (fun r u hu => ?_)
        obtain ⟨hu1, hu2⟩ := hu
        subst u
        subst r
        refine z_iconst (v := nI 1) 138 C dL_areAsked_138 rfl ?_
        refine z_icmp_ltN 139 C 158 dL_areAsked_139 (by decide) (by omega) (by omega) (fun h139 => absurd h139 (by omega)) (fun h139 => ?_)
        refine z_aload_n 142 C dL_areAsked_142 rfl 0 rfl ?_
        refine z_iload_n 143 C dL_areAsked_143 rfl 3 rfl ?_
        refine z_iload 144 C dL_areAsked_144 4 rfl ?_
        refine z_callVi 146 C (As := [.int (nI a), .int (nI b)]) 2 kO_main rfl (c_X5_parts l hg x S hA a b (by omega) (by omega)) (cwV 2 C.1.2.2.2.2 gL_areAsked_X5_parts rfl rfl rfl (by decide +kernel) ⟨Nat.le_of_ble_eq_true rfl, Nat.le_of_ble_eq_true rfl⟩) rfl rfl (Nat.le_of_ble_eq_true rfl) ⟨Nat.le_of_ble_eq_true rfl, Nat.le_of_ble_eq_true rfl⟩ dL_areAsked_146 (fun r u hu => ?_)
        obtain ⟨hu1, hu2⟩ := hu
        subst u
        subst r
        refine z_bipush (v := nI 12) 149 C dL_areAsked_149 rfl ?_
        refine z_icmp_gtN 151 C 158 dL_areAsked_151 (by decide) (by omega) (by omega) (fun h151 => absurd h151 (by omega)) (fun h151 => ?_)
        refine z_iconst (v := nI 1) 154 C dL_areAsked_154 rfl ?_
        refine z_goto 155 C 159 dL_areAsked_155 (by decide) ?_
        refine z_istore (lv' := [(7, .int (nI 1)), (0, .ref (zad g 0)), (1, .int (nI j)), (2, .int (nI w)), (3, .int (nI a)), (4, .int (nI b)), (5, .int (nI (zfrn (S.1 j) (S.2.1 j) (nI w) 64))), (6, .int (nI n)), (8, .int (nI i))]) 159 C dL_areAsked_159 (by decide) rfl ?_
        refine z_aload_n 161 C dL_areAsked_161 rfl 1 rfl ?_
        refine z_iload_n 162 C dL_areAsked_162 rfl 2 rfl ?_
        refine z_callVi 163 C (As := [.int (nI j)]) 1 kO_main rfl (c_X5_total l hg x S hA j (by omega)) (cwV 1 C.1.2.2.2.2 gL_areAsked_X5_total rfl rfl rfl (by decide +kernel) ⟨Nat.le_of_ble_eq_true rfl, Nat.le_of_ble_eq_true rfl⟩) rfl rfl (Nat.le_of_ble_eq_true rfl) ⟨Nat.le_of_ble_eq_true rfl, Nat.le_of_ble_eq_true rfl⟩ dL_areAsked_163 (fun r u hu => ?_)
        obtain ⟨hu1, hu2⟩ := hu
        subst u
        obtain ⟨T, hT, eT⟩ := zq_tot hGj
        rw [eT] at hu2
        subst r
        refine z_istore (lv' := [(8, .int (nI T)), (7, .int (nI 1)), (0, .ref (zad g 0)), (1, .int (nI j)), (2, .int (nI w)), (3, .int (nI a)), (4, .int (nI b)), (5, .int (nI (zfrn (S.1 j) (S.2.1 j) (nI w) 64))), (6, .int (nI n))]) 166 C dL_areAsked_166 (by decide) rfl ?_
        refine z_iload 168 C dL_areAsked_168 0 rfl ?_
        refine z_if_leN 170 C 248 dL_areAsked_170 (by decide) (by omega) (fun h170 => ?_) (fun h170 => ?_)
        · refine z_iload 248 C dL_areAsked_248 1 rfl ?_
          exact z_zret 250 C hr rfl ⟨rfl, rfl⟩ dL_areAsked_250
        · refine z_iconst (v := nI 1) 173 C dL_areAsked_173 rfl ?_
          refine z_iload_n 174 C dL_areAsked_174 rfl 4 rfl ?_
          refine z_iload 175 C dL_areAsked_175 0 rfl ?_
          refine z_irem (v := nI (w % T)) 177 C dL_areAsked_177 (zn_ne0 T (by omega) (by omega)) (pk_rem (by omega) (by omega) (by omega)) ?_
          refine z_iadd (v := nI (1 + (w % T))) 178 C dL_areAsked_178 (nI_add 1 (w % T)) ?_
          refine z_istore (lv' := [(9, .int (nI (1 + (w % T)))), (8, .int (nI T)), (7, .int (nI 1)), (0, .ref (zad g 0)), (1, .int (nI j)), (2, .int (nI w)), (3, .int (nI a)), (4, .int (nI b)), (5, .int (nI (zfrn (S.1 j) (S.2.1 j) (nI w) 64))), (6, .int (nI n))]) 179 C dL_areAsked_179 (by decide) rfl ?_
          have hml : w % T < T := Nat.mod_lt _ (by omega)
          obtain ⟨rk, erk⟩ : ∃ q : Nat, 1 + (w % T) = q := ⟨_, rfl⟩
          rw [erk]
          have hz1 := zq_rank hGj (t := rk) (t' := T) (by omega) hT
          have hz2 := zq_rank hGj (t := 1) (t' := rk) (by omega) (by omega)
          refine z_iload 181 C dL_areAsked_181 2 rfl ?_
          refine z_if_eqN 183 C 245 dL_areAsked_183 (by decide) (by omega) (fun h183 => absurd h183 (by omega)) (fun h183 => ?_)
          refine z_aload_n 186 C dL_areAsked_186 rfl 3 rfl ?_
          refine z_iload_n 187 C dL_areAsked_187 rfl 4 rfl ?_
          refine z_iload 188 C dL_areAsked_188 0 rfl ?_
          refine z_callVi 190 C (As := [.int (nI j), .int (nI rk)]) 2 kO_main rfl (c_X5_itemOfRank l hg x S hA j (by omega) rk (by omega) (by omega) (by rw [eT]; exact (nI_leI (by omega) (by omega)).mpr (by omega))) (cwV 2 C.1.2.2.2.2 gL_areAsked_X5_itemOfRank rfl rfl rfl (by decide +kernel) ⟨Nat.le_of_ble_eq_true rfl, Nat.le_of_ble_eq_true rfl⟩) rfl rfl (Nat.le_of_ble_eq_true rfl) ⟨Nat.le_of_ble_eq_true rfl, Nat.le_of_ble_eq_true rfl⟩ dL_areAsked_190 (fun r u hu => ?_)
          obtain ⟨hu1, hu2⟩ := hu
          subst u
          subst r
          refine z_aload_n 193 C dL_areAsked_193 rfl 3 rfl ?_
          refine z_iload_n 194 C dL_areAsked_194 rfl 4 rfl ?_
          refine z_iload 195 C dL_areAsked_195 1 rfl ?_
          refine z_callVi 197 C (As := [.int (nI j), .int (nI T)]) 2 kO_main rfl (c_X5_itemOfRank l hg x S hA j (by omega) T (by omega) (by omega) (by rw [eT]; exact (nI_leI (by omega) (by omega)).mpr (by omega))) (cwV 2 C.1.2.2.2.2 gL_areAsked_X5_itemOfRank rfl rfl rfl (by decide +kernel) ⟨Nat.le_of_ble_eq_true rfl, Nat.le_of_ble_eq_true rfl⟩) rfl rfl (Nat.le_of_ble_eq_true rfl) ⟨Nat.le_of_ble_eq_true rfl, Nat.le_of_ble_eq_true rfl⟩ dL_areAsked_197 (fun r u hu => ?_)
          obtain ⟨hu1, hu2⟩ := hu
          subst u
          subst r
          refine z_icmp_gtN 200 C 245 dL_areAsked_200 (by decide) (by omega) (by omega) (fun h200 => absurd h200 (by omega)) (fun h200 => ?_)
          refine z_aload_n 203 C dL_areAsked_203 rfl 3 rfl ?_
          refine z_iload_n 204 C dL_areAsked_204 rfl 4 rfl ?_
          refine z_iconst (v := nI 1) 205 C dL_areAsked_205 rfl ?_
          refine z_callVi 206 C (As := [.int (nI j), .int (nI 1)]) 2 kO_main rfl (c_X5_itemOfRank l hg x S hA j (by omega) 1 (by omega) (by omega) (by rw [eT]; exact (nI_leI (by omega) (by omega)).mpr (by omega))) (cwV 2 C.1.2.2.2.2 gL_areAsked_X5_itemOfRank rfl rfl rfl (by decide +kernel) ⟨Nat.le_of_ble_eq_true rfl, Nat.le_of_ble_eq_true rfl⟩) rfl rfl (Nat.le_of_ble_eq_true rfl) ⟨Nat.le_of_ble_eq_true rfl, Nat.le_of_ble_eq_true rfl⟩ dL_areAsked_206 (fun r u hu => ?_)
          obtain ⟨hu1, hu2⟩ := hu
          subst u
          subst r
          refine z_aload_n 209 C dL_areAsked_209 rfl 3 rfl ?_
          refine z_iload_n 210 C dL_areAsked_210 rfl 4 rfl ?_
          refine z_iload 211 C dL_areAsked_211 0 rfl ?_
          refine z_callVi 213 C (As := [.int (nI j), .int (nI rk)]) 2 kO_main rfl (c_X5_itemOfRank l hg x S hA j (by omega) rk (by omega) (by omega) (by rw [eT]; exact (nI_leI (by omega) (by omega)).mpr (by omega))) (cwV 2 C.1.2.2.2.2 gL_areAsked_X5_itemOfRank rfl rfl rfl (by decide +kernel) ⟨Nat.le_of_ble_eq_true rfl, Nat.le_of_ble_eq_true rfl⟩) rfl rfl (Nat.le_of_ble_eq_true rfl) ⟨Nat.le_of_ble_eq_true rfl, Nat.le_of_ble_eq_true rfl⟩ dL_areAsked_213 (fun r u hu => ?_)
          obtain ⟨hu1, hu2⟩ := hu
          subst u
          subst r
          refine z_icmp_gtN 216 C 245 dL_areAsked_216 (by decide) (by omega) (by omega) (fun h216 => absurd h216 (by omega)) (fun h216 => ?_)
          refine z_aload_n 219 C dL_areAsked_219 rfl 3 rfl ?_
          refine z_iload_n 220 C dL_areAsked_220 rfl 4 rfl ?_
          refine z_iload_n 221 C dL_areAsked_221 rfl 6 rfl ?_
          refine z_callVd 222 C (As := [.int (nI j), .int (nI a)]) 2 kO_main rfl (c_X5_share l hg x S hA j (by omega) a (by omega)) (cwV 2 C.1.2.2.2.2 gL_areAsked_X5_share rfl rfl rfl (by decide +kernel) ⟨Nat.le_of_ble_eq_true rfl, Nat.le_of_ble_eq_true rfl⟩) rfl rfl (Nat.le_of_ble_eq_true rfl) ⟨Nat.le_of_ble_eq_true rfl, Nat.le_of_ble_eq_true rfl⟩ dL_areAsked_222 (fun r u hu => ?_)
          obtain ⟨hu1, hu2⟩ := hu
          subst u
          subst r
          refine z_aload_n 225 C dL_areAsked_225 rfl 3 rfl ?_
          refine z_iload_n 226 C dL_areAsked_226 rfl 4 rfl ?_
          refine z_iconst (v := nI 0) 227 C dL_areAsked_227 rfl ?_
          refine z_iload_n 228 C dL_areAsked_228 rfl 6 rfl ?_
          refine z_callVi 229 C (As := [.int (nI j), .int (nI 0), .int (nI a)]) 3 kO_main rfl (c_X5_estimate l hg x S hA j (by omega) 0 a (by omega) (by omega)) (cwV 3 C.1.2.2.2.2 gL_areAsked_X5_estimate rfl rfl rfl (by decide +kernel) ⟨Nat.le_of_ble_eq_true rfl, Nat.le_of_ble_eq_true rfl⟩) rfl rfl (Nat.le_of_ble_eq_true rfl) ⟨Nat.le_of_ble_eq_true rfl, Nat.le_of_ble_eq_true rfl⟩ dL_areAsked_229 (fun r u hu => ?_)
          obtain ⟨hu1, hu2⟩ := hu
          subst u
          subst r
          refine z_i2d 232 C dL_areAsked_232 ?_
          refine z_iload 233 C dL_areAsked_233 1 rfl ?_
          refine z_i2d 235 C dL_areAsked_235 ?_
          refine z_ddiv 236 C dL_areAsked_236 (zddiv_ok (nI_ne0 (by omega) (by omega))) ?_
          refine z_dcmp (v := nI 0) 237 C dL_areAsked_237 (by rw [show zshare (S.1 j) (S.2.1 j) a = FP.ddiv (FP.i2d (zest (S.1 j) (S.2.1 j) 0 a)) (FP.i2d (nI T)) from (if_neg (by rw [eT]; exact nI_ne0 (by omega) (by omega))).trans (by rw [eT])]; exact zdc_self (nI_ne0 (by omega) (by omega)) _) ?_
          refine z_if_neN 238 C 245 dL_areAsked_238 (by decide) (by omega) (fun h238 => absurd h238 (by omega)) (fun h238 => ?_)
          refine z_iconst (v := nI 1) 241 C dL_areAsked_241 rfl ?_
          refine z_goto 242 C 246 dL_areAsked_242 (by decide) ?_
          refine z_istore (lv' := [(7, .int (nI 1)), (9, .int (nI rk)), (8, .int (nI T)), (0, .ref (zad g 0)), (1, .int (nI j)), (2, .int (nI w)), (3, .int (nI a)), (4, .int (nI b)), (5, .int (nI (zfrn (S.1 j) (S.2.1 j) (nI w) 64))), (6, .int (nI n))]) 246 C dL_areAsked_246 (by decide) rfl ?_
          refine z_iload 248 C dL_areAsked_248 0 rfl ?_
          exact z_zret 250 C hr rfl ⟨rfl, rfl⟩ dL_areAsked_250
      · have hz63 := zfrn_le (S.1 j) (S.2.1 j) (nI w) i
        refine z_iload 24 C dL_areAsked_24 7 rfl ?_
        refine z_if_eqN 26 C 100 dL_areAsked_26 (by decide) (by omega) (fun h26 => absurd h26 (by omega)) (fun h26 => ?_)
        refine z_iload 29 C dL_areAsked_29 6 rfl ?_
        refine z_iload 31 C dL_areAsked_31 5 rfl ?_
        refine z_icmp_geN 33 C 53 dL_areAsked_33 (by decide) (by omega) (by omega) (fun h33 => ?_) (fun h33 => ?_)
        · have hnf : ¬ zfreq (S.1 j) (S.2.1 j) i (nI w) := fun z => by have h9 := zfrn_lt z h21; omega
          refine z_iconst (v := nI 0) 53 C dL_areAsked_53 rfl ?_
          refine z_istore (lv' := [(9, .int (nI 0)), (0, .ref (zad g 0)), (1, .int (nI j)), (2, .int (nI w)), (3, .int (nI a)), (4, .int (nI b)), (5, .int (nI (zfrn (S.1 j) (S.2.1 j) (nI w) 64))), (6, .int (nI n)), (7, .int (nI 1)), (8, .int (nI i))]) 54 C dL_areAsked_54 (by decide) rfl ?_
          refine z_iload 56 C dL_areAsked_56 0 rfl ?_
          refine z_if_neN 58 C 72 dL_areAsked_58 (by decide) (by omega) (fun h58 => absurd h58 (by omega)) (fun h58 => ?_)
          refine z_aload_n 61 C dL_areAsked_61 rfl 1 rfl ?_
          refine z_iload_n 62 C dL_areAsked_62 rfl 2 rfl ?_
          refine z_iload 63 C dL_areAsked_63 9 rfl ?_
          refine z_callVi 65 C (As := [.int (nI j), .int (nI i)]) 2 kO_main rfl (c_X5_count l hg x S hA j (by omega) i (by omega)) (cwV 2 C.1.2.2.2.2 gL_areAsked_X5_count rfl rfl rfl (by decide +kernel) ⟨Nat.le_of_ble_eq_true rfl, Nat.le_of_ble_eq_true rfl⟩) rfl rfl (Nat.le_of_ble_eq_true rfl) ⟨Nat.le_of_ble_eq_true rfl, Nat.le_of_ble_eq_true rfl⟩ dL_areAsked_65 (fun r u hu => ?_)
          obtain ⟨hu1, hu2⟩ := hu
          subst u
          subst r
          refine z_iload_n 68 C dL_areAsked_68 rfl 3 rfl ?_
          refine z_icmp_ge 69 C 76 dL_areAsked_69 (by decide) (fun h69 => absurd h69 (Int32.not_le.mpr (zq_freq hGj h21 hnf))) (fun h69 => ?_)
          refine z_iconst (v := nI 1) 72 C dL_areAsked_72 rfl ?_
          refine z_goto 73 C 77 dL_areAsked_73 (by decide) ?_
          refine z_istore (lv' := [(7, .int (nI 1)), (9, .int (nI 0)), (0, .ref (zad g 0)), (1, .int (nI j)), (2, .int (nI w)), (3, .int (nI a)), (4, .int (nI b)), (5, .int (nI (zfrn (S.1 j) (S.2.1 j) (nI w) 64))), (6, .int (nI n)), (8, .int (nI i))]) 77 C dL_areAsked_77 (by decide) rfl ?_
          refine z_iload 79 C dL_areAsked_79 8 rfl ?_
          refine z_iload 81 C dL_areAsked_81 1 rfl ?_
          refine z_if_eqN 83 C 90 dL_areAsked_83 (by decide) (by omega) (fun h83 => ?_) (fun h83 => absurd h83 (by omega))
          refine z_iconst (v := nI 0) 90 C dL_areAsked_90 rfl ?_
          refine z_iadd (v := nI (n + 0)) 91 C dL_areAsked_91 (nI_add n 0) ?_
          refine z_istore (lv' := [(6, .int (nI (n + 0))), (7, .int (nI 1)), (9, .int (nI 0)), (0, .ref (zad g 0)), (1, .int (nI j)), (2, .int (nI w)), (3, .int (nI a)), (4, .int (nI b)), (5, .int (nI (zfrn (S.1 j) (S.2.1 j) (nI w) 64))), (8, .int (nI i))]) 92 C dL_areAsked_92 (by decide) rfl ?_
          refine z_iinc (v' := nI (i + 1)) (lv' := [(8, .int (nI (i + 1))), (6, .int (nI (n + 0))), (7, .int (nI 1)), (9, .int (nI 0)), (0, .ref (zad g 0)), (1, .int (nI j)), (2, .int (nI w)), (3, .int (nI a)), (4, .int (nI b)), (5, .int (nI (zfrn (S.1 j) (S.2.1 j) (nI w) 64)))]) 94 C dL_areAsked_94 (q := 9) rfl (zn_inc i 1) (by decide) rfl ?_
          refine z_goto 97 C 17 dL_areAsked_97 (by decide) ?_
          refine z_lv (lv' := [(0, .ref (zad g 0)), (1, .int (nI j)), (2, .int (nI w)), (3, .int (nI a)), (4, .int (nI b)), (5, .int (nI (zfrn (S.1 j) (S.2.1 j) (nI w) 64))), (6, .int (nI (n + 0))), (7, .int (nI 1)), (8, .int (nI (i + 1)))]) [4, 5, 6, 7, 8, 9, 1, 2, 0] rfl ?_
          exact ih17 (i + 1) (n + 0) (by omega) (by omega) (by rw [zfrn_s_n hnf, Nat.add_zero]; exact hp)
        · refine z_aload_n 36 C dL_areAsked_36 rfl 0 rfl ?_
          refine z_iload_n 37 C dL_areAsked_37 rfl 1 rfl ?_
          refine z_iload_n 38 C dL_areAsked_38 rfl 2 rfl ?_
          refine z_iload 39 C dL_areAsked_39 6 rfl ?_
          refine z_callVi 41 C (As := [.int (nI j), .int (nI w), .int (nI n)]) 3 kO_main rfl (c_X5_frequentAt l hg x S hA j (by omega) w (by omega) (by omega) n (by omega) (by rw [hp]; exact zfr_ex (by rw [← hp]; exact h33))) (cwV 3 C.1.2.2.2.2 gL_areAsked_X5_frequentAt rfl rfl rfl (by decide +kernel) ⟨Nat.le_of_ble_eq_true rfl, Nat.le_of_ble_eq_true rfl⟩) rfl rfl (Nat.le_of_ble_eq_true rfl) ⟨Nat.le_of_ble_eq_true rfl, Nat.le_of_ble_eq_true rfl⟩ dL_areAsked_41 (fun r u hu => ?_)
          obtain ⟨hu1, kk, hfa, hu2⟩ := hu
          subst u
          subst r
          rw [hp] at hfa
          obtain ⟨hk1, hk2, hk3⟩ := zfr_at h21 hfa
          refine z_iload 44 C dL_areAsked_44 8 rfl ?_
          refine z_icmp_neN 46 C 53 dL_areAsked_46 (by decide) (by omega) (by omega) (fun h46 => ?_) (fun h46 => ?_)
          · have hnf : ¬ zfreq (S.1 j) (S.2.1 j) i (nI w) := fun z => h46 (hk1 z)
            refine z_iconst (v := nI 0) 53 C dL_areAsked_53 rfl ?_
            refine z_istore (lv' := [(9, .int (nI 0)), (0, .ref (zad g 0)), (1, .int (nI j)), (2, .int (nI w)), (3, .int (nI a)), (4, .int (nI b)), (5, .int (nI (zfrn (S.1 j) (S.2.1 j) (nI w) 64))), (6, .int (nI n)), (7, .int (nI 1)), (8, .int (nI i))]) 54 C dL_areAsked_54 (by decide) rfl ?_
            refine z_iload 56 C dL_areAsked_56 0 rfl ?_
            refine z_if_neN 58 C 72 dL_areAsked_58 (by decide) (by omega) (fun h58 => absurd h58 (by omega)) (fun h58 => ?_)
            refine z_aload_n 61 C dL_areAsked_61 rfl 1 rfl ?_
            refine z_iload_n 62 C dL_areAsked_62 rfl 2 rfl ?_
            refine z_iload 63 C dL_areAsked_63 9 rfl ?_
            refine z_callVi 65 C (As := [.int (nI j), .int (nI i)]) 2 kO_main rfl (c_X5_count l hg x S hA j (by omega) i (by omega)) (cwV 2 C.1.2.2.2.2 gL_areAsked_X5_count rfl rfl rfl (by decide +kernel) ⟨Nat.le_of_ble_eq_true rfl, Nat.le_of_ble_eq_true rfl⟩) rfl rfl (Nat.le_of_ble_eq_true rfl) ⟨Nat.le_of_ble_eq_true rfl, Nat.le_of_ble_eq_true rfl⟩ dL_areAsked_65 (fun r u hu => ?_)
            obtain ⟨hu1, hu2⟩ := hu
            subst u
            subst r
            refine z_iload_n 68 C dL_areAsked_68 rfl 3 rfl ?_
            refine z_icmp_ge 69 C 76 dL_areAsked_69 (by decide) (fun h69 => absurd h69 (Int32.not_le.mpr (zq_freq hGj h21 hnf))) (fun h69 => ?_)
            refine z_iconst (v := nI 1) 72 C dL_areAsked_72 rfl ?_
            refine z_goto 73 C 77 dL_areAsked_73 (by decide) ?_
            refine z_istore (lv' := [(7, .int (nI 1)), (9, .int (nI 0)), (0, .ref (zad g 0)), (1, .int (nI j)), (2, .int (nI w)), (3, .int (nI a)), (4, .int (nI b)), (5, .int (nI (zfrn (S.1 j) (S.2.1 j) (nI w) 64))), (6, .int (nI n)), (8, .int (nI i))]) 77 C dL_areAsked_77 (by decide) rfl ?_
            refine z_iload 79 C dL_areAsked_79 8 rfl ?_
            refine z_iload 81 C dL_areAsked_81 1 rfl ?_
            refine z_if_eqN 83 C 90 dL_areAsked_83 (by decide) (by omega) (fun h83 => ?_) (fun h83 => absurd h83 (by omega))
            refine z_iconst (v := nI 0) 90 C dL_areAsked_90 rfl ?_
            refine z_iadd (v := nI (n + 0)) 91 C dL_areAsked_91 (nI_add n 0) ?_
            refine z_istore (lv' := [(6, .int (nI (n + 0))), (7, .int (nI 1)), (9, .int (nI 0)), (0, .ref (zad g 0)), (1, .int (nI j)), (2, .int (nI w)), (3, .int (nI a)), (4, .int (nI b)), (5, .int (nI (zfrn (S.1 j) (S.2.1 j) (nI w) 64))), (8, .int (nI i))]) 92 C dL_areAsked_92 (by decide) rfl ?_
            refine z_iinc (v' := nI (i + 1)) (lv' := [(8, .int (nI (i + 1))), (6, .int (nI (n + 0))), (7, .int (nI 1)), (9, .int (nI 0)), (0, .ref (zad g 0)), (1, .int (nI j)), (2, .int (nI w)), (3, .int (nI a)), (4, .int (nI b)), (5, .int (nI (zfrn (S.1 j) (S.2.1 j) (nI w) 64)))]) 94 C dL_areAsked_94 (q := 9) rfl (zn_inc i 1) (by decide) rfl ?_
            refine z_goto 97 C 17 dL_areAsked_97 (by decide) ?_
            refine z_lv (lv' := [(0, .ref (zad g 0)), (1, .int (nI j)), (2, .int (nI w)), (3, .int (nI a)), (4, .int (nI b)), (5, .int (nI (zfrn (S.1 j) (S.2.1 j) (nI w) 64))), (6, .int (nI (n + 0))), (7, .int (nI 1)), (8, .int (nI (i + 1)))]) [4, 5, 6, 7, 8, 9, 1, 2, 0] rfl ?_
            exact ih17 (i + 1) (n + 0) (by omega) (by omega) (by rw [zfrn_s_n hnf, Nat.add_zero]; exact hp)
          · have hyf : zfreq (S.1 j) (S.2.1 j) i (nI w) := by rw [← h46]; exact hfa.2.1
            refine z_iconst (v := nI 1) 49 C dL_areAsked_49 rfl ?_
            refine z_goto 50 C 54 dL_areAsked_50 (by decide) ?_
            refine z_istore (lv' := [(9, .int (nI 1)), (0, .ref (zad g 0)), (1, .int (nI j)), (2, .int (nI w)), (3, .int (nI a)), (4, .int (nI b)), (5, .int (nI (zfrn (S.1 j) (S.2.1 j) (nI w) 64))), (6, .int (nI n)), (7, .int (nI 1)), (8, .int (nI i))]) 54 C dL_areAsked_54 (by decide) rfl ?_
            refine z_iload 56 C dL_areAsked_56 0 rfl ?_
            refine z_if_neN 58 C 72 dL_areAsked_58 (by decide) (by omega) (fun h58 => ?_) (fun h58 => absurd h58 (by omega))
            refine z_iconst (v := nI 1) 72 C dL_areAsked_72 rfl ?_
            refine z_goto 73 C 77 dL_areAsked_73 (by decide) ?_
            refine z_istore (lv' := [(7, .int (nI 1)), (9, .int (nI 1)), (0, .ref (zad g 0)), (1, .int (nI j)), (2, .int (nI w)), (3, .int (nI a)), (4, .int (nI b)), (5, .int (nI (zfrn (S.1 j) (S.2.1 j) (nI w) 64))), (6, .int (nI n)), (8, .int (nI i))]) 77 C dL_areAsked_77 (by decide) rfl ?_
            refine z_iload 79 C dL_areAsked_79 8 rfl ?_
            refine z_iload 81 C dL_areAsked_81 1 rfl ?_
            refine z_if_eqN 83 C 90 dL_areAsked_83 (by decide) (by omega) (fun h83 => absurd h83 (by omega)) (fun h83 => ?_)
            refine z_iconst (v := nI 1) 86 C dL_areAsked_86 rfl ?_
            refine z_goto 87 C 91 dL_areAsked_87 (by decide) ?_
            refine z_iadd (v := nI (n + 1)) 91 C dL_areAsked_91 (nI_add n 1) ?_
            refine z_istore (lv' := [(6, .int (nI (n + 1))), (7, .int (nI 1)), (9, .int (nI 1)), (0, .ref (zad g 0)), (1, .int (nI j)), (2, .int (nI w)), (3, .int (nI a)), (4, .int (nI b)), (5, .int (nI (zfrn (S.1 j) (S.2.1 j) (nI w) 64))), (8, .int (nI i))]) 92 C dL_areAsked_92 (by decide) rfl ?_
            refine z_iinc (v' := nI (i + 1)) (lv' := [(8, .int (nI (i + 1))), (6, .int (nI (n + 1))), (7, .int (nI 1)), (9, .int (nI 1)), (0, .ref (zad g 0)), (1, .int (nI j)), (2, .int (nI w)), (3, .int (nI a)), (4, .int (nI b)), (5, .int (nI (zfrn (S.1 j) (S.2.1 j) (nI w) 64)))]) 94 C dL_areAsked_94 (q := 9) rfl (zn_inc i 1) (by decide) rfl ?_
            refine z_goto 97 C 17 dL_areAsked_97 (by decide) ?_
            refine z_lv (lv' := [(0, .ref (zad g 0)), (1, .int (nI j)), (2, .int (nI w)), (3, .int (nI a)), (4, .int (nI b)), (5, .int (nI (zfrn (S.1 j) (S.2.1 j) (nI w) 64))), (6, .int (nI (n + 1))), (7, .int (nI 1)), (8, .int (nI (i + 1)))]) [4, 5, 6, 7, 8, 9, 1, 2, 0] rfl ?_
            exact ih17 (i + 1) (n + 1) (by omega) (by omega) (by rw [zfrn_s_y hyf, hp])
  refine z_lv (lv' := [(0, .ref (zad g 0)), (1, .int (nI j)), (2, .int (nI w)), (3, .int (nI a)), (4, .int (nI b)), (5, .int (nI (zfrn (S.1 j) (S.2.1 j) (nI w) 64))), (6, .int (nI 0)), (7, .int (nI 1)), (8, .int (nI 0))]) [4, 5, 6, 7, 8, 3, 2, 1, 0] rfl ?_
  exact J17 65 0 0 (by omega) (by omega) rfl
