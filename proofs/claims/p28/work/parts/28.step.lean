set_option maxHeartbeats 4000000 in
set_option maxRecDepth 100000 in
/-- L_step -/
theorem c_L_step (l : Launch) {g : zG} (hg : zOk g) (x : zT) (S : zS) (hA : zAll x S) (hG : zGood S) (wh a b : Nat) (hwh : wh < 2 ^ 31) (ha : a < 2 ^ 31) (hb : b < 2 ^ 31) : Met l yL_step wsL_step ({ frames := 6, cells := 0, slots := 0, locals := 137 }) (va_Pc [.ref (zad g 0), .int (nI wh), .int (nI a), .int (nI b)] (zPre g x)) (va_Qi (fun (r : Int32) (u : zT) => (∃ S' : zS, zAll u S' ∧ zGood S') ∧ r = nI 1) (zB g) (zA g)) 0 0 (zA g) := by
  refine z_met (cc := cL_step) (nL := 12) (ret := (some .boolean)) hg (by decide) rfl (Nat.le_of_ble_eq_true rfl) ?_
  intro p_ e_ s_ m_ args_ below_ meth_ c_ C hr
  show Z p_ l e_ _ s_ m_ args_ below_ meth_ c_ g 12 0 0 _ x 0 [(0, .ref (zad g 0)), (1, .int (nI wh)), (2, .int (nI a)), (3, .int (nI b))] []
  have hw_k16 := C.1.2.2.2.2 (.constant RL 16 1000000) (by decide +kernel)
  refine z_iload_n 0 C dL_step_0 rfl 2 rfl ?_
  refine z_iconst (v := nI 4) 1 C dL_step_1 rfl ?_
  refine z_irem (v := nI (a % 4)) 2 C dL_step_2 (by decide) (pk_rem (by omega) (by omega) (by omega)) ?_
  obtain ⟨j, ej⟩ : ∃ q : Nat, a % 4 = q := ⟨_, rfl⟩
  rw [ej]
  have hj : j < 4 := by omega
  have hGj := hG j hj
  refine z_istore (lv' := [(4, .int (nI j)), (0, .ref (zad g 0)), (1, .int (nI wh)), (2, .int (nI a)), (3, .int (nI b))]) 3 C dL_step_3 (by decide) rfl ?_
  refine z_iload_n 5 C dL_step_5 rfl 3 rfl ?_
  refine z_iconst (v := nI 4) 6 C dL_step_6 rfl ?_
  refine z_idiv (v := nI (a / 4)) 7 C dL_step_7 (by decide) (pk_div (by omega) (by omega) (by omega)) ?_
  refine z_iconst (v := nI 4) 8 C dL_step_8 rfl ?_
  refine z_irem (v := nI ((a / 4) % 4)) 9 C dL_step_9 (by decide) (pk_rem (by omega) (by omega) (by omega)) ?_
  obtain ⟨o, eo⟩ : ∃ q : Nat, (a / 4) % 4 = q := ⟨_, rfl⟩
  rw [eo]
  have ho : o < 4 := by omega
  have hGo := hG o ho
  refine z_istore (lv' := [(5, .int (nI o)), (4, .int (nI j)), (0, .ref (zad g 0)), (1, .int (nI wh)), (2, .int (nI a)), (3, .int (nI b))]) 10 C dL_step_10 (by decide) rfl ?_
  refine z_aload_n 12 C dL_step_12 rfl 2 rfl ?_
  refine z_iload 13 C dL_step_13 1 rfl ?_
  refine z_callVi 15 C (As := [.int (nI j)]) 1 kO_main rfl (c_X5_total l hg x S hA j (by omega)) (cwV 1 C.1.2.2.2.2 gL_step_X5_total rfl rfl rfl (by decide +kernel) ⟨Nat.le_of_ble_eq_true rfl, Nat.le_of_ble_eq_true rfl⟩) rfl rfl (Nat.le_of_ble_eq_true rfl) ⟨Nat.le_of_ble_eq_true rfl, Nat.le_of_ble_eq_true rfl⟩ dL_step_15 (fun r u hu => ?_)
  obtain ⟨hu1, hu2⟩ := hu
  subst u
  obtain ⟨T, hT, eT⟩ := zq_tot hGj
  rw [eT] at hu2
  subst r
  refine z_istore (lv' := [(6, .int (nI T)), (5, .int (nI o)), (4, .int (nI j)), (0, .ref (zad g 0)), (1, .int (nI wh)), (2, .int (nI a)), (3, .int (nI b))]) 18 C dL_step_18 (by decide) rfl ?_
  refine z_iload_n 20 C dL_step_20 rfl 4 rfl ?_
  refine z_bipush (v := nI 8) 21 C dL_step_21 rfl ?_
  refine z_irem (v := nI (wh % 8)) 23 C dL_step_23 (by decide) (pk_rem (by omega) (by omega) (by omega)) ?_
  refine z_bipush (v := nI 6) 24 C dL_step_24 rfl ?_
  refine z_icmp_geN 26 C 218 dL_step_26 (by decide) (by omega) (by omega) (fun h26 => ?_) (fun h26 => ?_)
  · refine z_iload_n 218 C dL_step_218 rfl 4 rfl ?_
    refine z_bipush (v := nI 8) 219 C dL_step_219 rfl ?_
    refine z_irem (v := nI (wh % 8)) 221 C dL_step_221 (by decide) (pk_rem (by omega) (by omega) (by omega)) ?_
    refine z_bipush (v := nI 6) 222 C dL_step_222 rfl ?_
    refine z_icmp_neN 224 C 391 dL_step_224 (by decide) (by omega) (by omega) (fun h224 => ?_) (fun h224 => ?_)
    · refine z_iload_n 391 C dL_step_391 rfl 6 rfl ?_
      refine z_iconst (v := nI 5) 392 C dL_step_392 rfl ?_
      refine z_irem (v := nI (b % 5)) 393 C dL_step_393 (by decide) (pk_rem (by omega) (by omega) (by omega)) ?_
      refine z_if_gtN 394 C 466 dL_step_394 (by decide) (by omega) (fun h394 => ?_) (fun h394 => ?_)
      · refine z_iconst (v := nI 1) 466 C dL_step_466 rfl ?_
        refine z_goto 467 C 471 dL_step_467 (by decide) ?_
        exact z_zret 471 C hr rfl ⟨⟨S, hA, hG⟩, rfl⟩ dL_step_471
      · refine z_aload_n 397 C dL_step_397 rfl 3 rfl ?_
        refine z_iload 398 C dL_step_398 2 rfl ?_
        refine z_callVi 400 C (As := [.int (nI j)]) 1 kO_main rfl (c_X5_clear l hg x S hA j hj) (cwV 1 C.1.2.2.2.2 gL_step_X5_clear rfl rfl rfl (by decide +kernel) ⟨Nat.le_of_ble_eq_true rfl, Nat.le_of_ble_eq_true rfl⟩) rfl rfl (Nat.le_of_ble_eq_true rfl) ⟨Nat.le_of_ble_eq_true rfl, Nat.le_of_ble_eq_true rfl⟩ dL_step_400 (fun r y9 hu => ?_)
        obtain ⟨hO9, hN9, hu2⟩ := hu
        subst r
        obtain ⟨S9, eS9⟩ : ∃ q : zS, q = zSj S j (fun _ => 0) (fun _ => 0) [] 0 := ⟨_, rfl⟩
        have hA9 : zAll y9 S9 := by rw [eS9]; exact zAll_j hA hO9 hN9
        have hG9 : zGood S9 := by rw [eS9]; exact zGood_j hG (zgx_0)
        have e1 : S9.1 j = (fun _ => 0) := by rw [eS9]; exact if_pos rfl
        have e2 : S9.2.1 j = (fun _ => 0) := by rw [eS9]; exact if_pos rfl
        have e3 : S9.2.2.1 j = [] := by rw [eS9]; exact if_pos rfl
        have e4 : S9.2.2.2 j = 0 := by rw [eS9]; exact if_pos rfl
        have hl9 : (S9.2.2.1 j).length = 0 := by rw [e3]; rfl
        have ez : ztot (S9.1 j) = 0 := by rw [e1]; exact zsum_0 0 64
        refine z_iload 403 C dL_step_403 0 rfl ?_
        refine z_icmp_ne 405 C 470 dL_step_405 (by decide) (fun h405 => absurd eT h405) (fun h405 => ?_)
        refine z_aload_n 408 C dL_step_408 rfl 3 rfl ?_
        refine z_iload 409 C dL_step_409 2 rfl ?_
        refine z_callVi 411 C (As := [.int (nI j)]) 1 kO_main rfl (c_X5_total l hg y9 S9 hA9 j (by omega)) (cwV 1 C.1.2.2.2.2 gL_step_X5_total rfl rfl rfl (by decide +kernel) ⟨Nat.le_of_ble_eq_true rfl, Nat.le_of_ble_eq_true rfl⟩) rfl rfl (Nat.le_of_ble_eq_true rfl) ⟨Nat.le_of_ble_eq_true rfl, Nat.le_of_ble_eq_true rfl⟩ dL_step_411 (fun r u hu => ?_)
        obtain ⟨hu1, hu2⟩ := hu
        subst u
        subst r
        refine z_if_ne 414 C 470 dL_step_414 (by decide) (fun h414 => absurd ez h414) (fun h414 => ?_)
        refine z_aload_n 417 C dL_step_417 rfl 3 rfl ?_
        refine z_iload 418 C dL_step_418 2 rfl ?_
        refine z_callVi 420 C (As := [.int (nI j)]) 1 kO_main rfl (c_X5_counters l hg y9 S9 hA9 j (by omega)) (cwV 1 C.1.2.2.2.2 gL_step_X5_counters rfl rfl rfl (by decide +kernel) ⟨Nat.le_of_ble_eq_true rfl, Nat.le_of_ble_eq_true rfl⟩) rfl rfl (Nat.le_of_ble_eq_true rfl) ⟨Nat.le_of_ble_eq_true rfl, Nat.le_of_ble_eq_true rfl⟩ dL_step_420 (fun r u hu => ?_)
        obtain ⟨hu1, hu2⟩ := hu
        subst u
        subst r
        refine z_if_neN 423 C 470 dL_step_423 (by decide) (by omega) (fun h423 => absurd h423 (by omega)) (fun h423 => ?_)
        refine z_aload_n 426 C dL_step_426 rfl 3 rfl ?_
        refine z_iload 427 C dL_step_427 2 rfl ?_
        refine z_callVi 429 C (As := [.int (nI j)]) 1 kO_main rfl (c_X5_taken l hg y9 S9 hA9 j (by omega)) (cwV 1 C.1.2.2.2.2 gL_step_X5_taken rfl rfl rfl (by decide +kernel) ⟨Nat.le_of_ble_eq_true rfl, Nat.le_of_ble_eq_true rfl⟩) rfl rfl (Nat.le_of_ble_eq_true rfl) ⟨Nat.le_of_ble_eq_true rfl, Nat.le_of_ble_eq_true rfl⟩ dL_step_429 (fun r u hu => ?_)
        obtain ⟨hu1, hu2⟩ := hu
        subst u
        subst r
        refine z_if_ne 432 C 470 dL_step_432 (by decide) (fun h432 => absurd e4 h432) (fun h432 => ?_)
        refine z_aload_n 435 C dL_step_435 rfl 3 rfl ?_
        refine z_iload 436 C dL_step_436 2 rfl ?_
        refine z_iload_n 438 C dL_step_438 rfl 5 rfl ?_
        refine z_bipush (v := nI 16) 439 C dL_step_439 rfl ?_
        refine z_idiv (v := nI (a / 16)) 441 C dL_step_441 (by decide) (pk_div (by omega) (by omega) (by omega)) ?_
        refine z_bipush (v := nI 64) 442 C dL_step_442 rfl ?_
        refine z_irem (v := nI ((a / 16) % 64)) 444 C dL_step_444 (by decide) (pk_rem (by omega) (by omega) (by omega)) ?_
        refine z_callVd 445 C (As := [.int (nI j), .int (nI ((a / 16) % 64))]) 2 kO_main rfl (c_X5_share l hg y9 S9 hA9 j (by omega) ((a / 16) % 64) (by omega)) (cwV 2 C.1.2.2.2.2 gL_step_X5_share rfl rfl rfl (by decide +kernel) ⟨Nat.le_of_ble_eq_true rfl, Nat.le_of_ble_eq_true rfl⟩) rfl rfl (Nat.le_of_ble_eq_true rfl) ⟨Nat.le_of_ble_eq_true rfl, Nat.le_of_ble_eq_true rfl⟩ dL_step_445 (fun r u hu => ?_)
        obtain ⟨hu1, hu2⟩ := hu
        subst u
        subst r
        refine z_dconst0 448 C dL_step_448 ?_
        refine z_dcmp (v := nI 0) 449 C dL_step_449 (by rw [show zshare (S9.1 j) (S9.2.1 j) ((a / 16) % 64) = FP.dconst0 from if_pos ez]; exact zdc_0 _) ?_
        refine z_if_neN 450 C 470 dL_step_450 (by decide) (by omega) (fun h450 => absurd h450 (by omega)) (fun h450 => ?_)
        refine z_aload_n 453 C dL_step_453 rfl 3 rfl ?_
        refine z_iload 454 C dL_step_454 2 rfl ?_
        refine z_iload 456 C dL_step_456 1 rfl ?_
        refine z_callVl 458 C (As := [.int (nI j), .int (nI o)]) 2 kO_main rfl (c_X5_signedProduct l hg y9 S9 hA9 j hj o ho) (cwV 2 C.1.2.2.2.2 gL_step_X5_signedProduct rfl rfl rfl (by decide +kernel) ⟨Nat.le_of_ble_eq_true rfl, Nat.le_of_ble_eq_true rfl⟩) rfl rfl (Nat.le_of_ble_eq_true rfl) ⟨Nat.le_of_ble_eq_true rfl, Nat.le_of_ble_eq_true rfl⟩ dL_step_458 (fun r u hu => ?_)
        obtain ⟨⟨hm, rfl⟩, hmid⟩ := hu
        obtain rfl : r = 0 := zsprod_0 (by rw [e1] at hmid; exact hmid)
        refine z_lconst (v := 0) 461 C dL_step_461 rfl ?_
        refine z_lcmp (v := lg_cmp 0 0) 462 C dL_step_462 rfl ?_
        refine z_if_ne 463 C 470 dL_step_463 (by decide) (fun h463 => absurd (lgc_self 0) h463) (fun h463 => ?_)
        refine z_iconst (v := nI 1) 466 C dL_step_466 rfl ?_
        refine z_goto 467 C 471 dL_step_467 (by decide) ?_
        exact z_zret 471 C hr rfl ⟨⟨S9, zAll_l hA9, hG9⟩, rfl⟩ dL_step_471
    · refine z_iload 227 C dL_step_227 2 rfl ?_
      refine z_iload 229 C dL_step_229 1 rfl ?_
      refine z_icmp_eqN 231 C 391 dL_step_231 (by decide) (by omega) (by omega) (fun h231 => ?_) (fun h231 => ?_)
      · refine z_iload_n 391 C dL_step_391 rfl 6 rfl ?_
        refine z_iconst (v := nI 5) 392 C dL_step_392 rfl ?_
        refine z_irem (v := nI (b % 5)) 393 C dL_step_393 (by decide) (pk_rem (by omega) (by omega) (by omega)) ?_
        refine z_if_gtN 394 C 466 dL_step_394 (by decide) (by omega) (fun h394 => ?_) (fun h394 => ?_)
        · refine z_iconst (v := nI 1) 466 C dL_step_466 rfl ?_
          refine z_goto 467 C 471 dL_step_467 (by decide) ?_
          exact z_zret 471 C hr rfl ⟨⟨S, hA, hG⟩, rfl⟩ dL_step_471
        · refine z_aload_n 397 C dL_step_397 rfl 3 rfl ?_
          refine z_iload 398 C dL_step_398 2 rfl ?_
          refine z_callVi 400 C (As := [.int (nI j)]) 1 kO_main rfl (c_X5_clear l hg x S hA j hj) (cwV 1 C.1.2.2.2.2 gL_step_X5_clear rfl rfl rfl (by decide +kernel) ⟨Nat.le_of_ble_eq_true rfl, Nat.le_of_ble_eq_true rfl⟩) rfl rfl (Nat.le_of_ble_eq_true rfl) ⟨Nat.le_of_ble_eq_true rfl, Nat.le_of_ble_eq_true rfl⟩ dL_step_400 (fun r y9 hu => ?_)
          obtain ⟨hO9, hN9, hu2⟩ := hu
          subst r
          obtain ⟨S9, eS9⟩ : ∃ q : zS, q = zSj S j (fun _ => 0) (fun _ => 0) [] 0 := ⟨_, rfl⟩
          have hA9 : zAll y9 S9 := by rw [eS9]; exact zAll_j hA hO9 hN9
          have hG9 : zGood S9 := by rw [eS9]; exact zGood_j hG (zgx_0)
          have e1 : S9.1 j = (fun _ => 0) := by rw [eS9]; exact if_pos rfl
          have e2 : S9.2.1 j = (fun _ => 0) := by rw [eS9]; exact if_pos rfl
          have e3 : S9.2.2.1 j = [] := by rw [eS9]; exact if_pos rfl
          have e4 : S9.2.2.2 j = 0 := by rw [eS9]; exact if_pos rfl
          have hl9 : (S9.2.2.1 j).length = 0 := by rw [e3]; rfl
          have ez : ztot (S9.1 j) = 0 := by rw [e1]; exact zsum_0 0 64
          refine z_iload 403 C dL_step_403 0 rfl ?_
          refine z_icmp_ne 405 C 470 dL_step_405 (by decide) (fun h405 => absurd eT h405) (fun h405 => ?_)
          refine z_aload_n 408 C dL_step_408 rfl 3 rfl ?_
          refine z_iload 409 C dL_step_409 2 rfl ?_
          refine z_callVi 411 C (As := [.int (nI j)]) 1 kO_main rfl (c_X5_total l hg y9 S9 hA9 j (by omega)) (cwV 1 C.1.2.2.2.2 gL_step_X5_total rfl rfl rfl (by decide +kernel) ⟨Nat.le_of_ble_eq_true rfl, Nat.le_of_ble_eq_true rfl⟩) rfl rfl (Nat.le_of_ble_eq_true rfl) ⟨Nat.le_of_ble_eq_true rfl, Nat.le_of_ble_eq_true rfl⟩ dL_step_411 (fun r u hu => ?_)
          obtain ⟨hu1, hu2⟩ := hu
          subst u
          subst r
          refine z_if_ne 414 C 470 dL_step_414 (by decide) (fun h414 => absurd ez h414) (fun h414 => ?_)
          refine z_aload_n 417 C dL_step_417 rfl 3 rfl ?_
          refine z_iload 418 C dL_step_418 2 rfl ?_
          refine z_callVi 420 C (As := [.int (nI j)]) 1 kO_main rfl (c_X5_counters l hg y9 S9 hA9 j (by omega)) (cwV 1 C.1.2.2.2.2 gL_step_X5_counters rfl rfl rfl (by decide +kernel) ⟨Nat.le_of_ble_eq_true rfl, Nat.le_of_ble_eq_true rfl⟩) rfl rfl (Nat.le_of_ble_eq_true rfl) ⟨Nat.le_of_ble_eq_true rfl, Nat.le_of_ble_eq_true rfl⟩ dL_step_420 (fun r u hu => ?_)
          obtain ⟨hu1, hu2⟩ := hu
          subst u
          subst r
          refine z_if_neN 423 C 470 dL_step_423 (by decide) (by omega) (fun h423 => absurd h423 (by omega)) (fun h423 => ?_)
          refine z_aload_n 426 C dL_step_426 rfl 3 rfl ?_
          refine z_iload 427 C dL_step_427 2 rfl ?_
          refine z_callVi 429 C (As := [.int (nI j)]) 1 kO_main rfl (c_X5_taken l hg y9 S9 hA9 j (by omega)) (cwV 1 C.1.2.2.2.2 gL_step_X5_taken rfl rfl rfl (by decide +kernel) ⟨Nat.le_of_ble_eq_true rfl, Nat.le_of_ble_eq_true rfl⟩) rfl rfl (Nat.le_of_ble_eq_true rfl) ⟨Nat.le_of_ble_eq_true rfl, Nat.le_of_ble_eq_true rfl⟩ dL_step_429 (fun r u hu => ?_)
          obtain ⟨hu1, hu2⟩ := hu
          subst u
          subst r
          refine z_if_ne 432 C 470 dL_step_432 (by decide) (fun h432 => absurd e4 h432) (fun h432 => ?_)
          refine z_aload_n 435 C dL_step_435 rfl 3 rfl ?_
          refine z_iload 436 C dL_step_436 2 rfl ?_
          refine z_iload_n 438 C dL_step_438 rfl 5 rfl ?_
          refine z_bipush (v := nI 16) 439 C dL_step_439 rfl ?_
          refine z_idiv (v := nI (a / 16)) 441 C dL_step_441 (by decide) (pk_div (by omega) (by omega) (by omega)) ?_
          refine z_bipush (v := nI 64) 442 C dL_step_442 rfl ?_
          refine z_irem (v := nI ((a / 16) % 64)) 444 C dL_step_444 (by decide) (pk_rem (by omega) (by omega) (by omega)) ?_
          refine z_callVd 445 C (As := [.int (nI j), .int (nI ((a / 16) % 64))]) 2 kO_main rfl (c_X5_share l hg y9 S9 hA9 j (by omega) ((a / 16) % 64) (by omega)) (cwV 2 C.1.2.2.2.2 gL_step_X5_share rfl rfl rfl (by decide +kernel) ⟨Nat.le_of_ble_eq_true rfl, Nat.le_of_ble_eq_true rfl⟩) rfl rfl (Nat.le_of_ble_eq_true rfl) ⟨Nat.le_of_ble_eq_true rfl, Nat.le_of_ble_eq_true rfl⟩ dL_step_445 (fun r u hu => ?_)
          obtain ⟨hu1, hu2⟩ := hu
          subst u
          subst r
          refine z_dconst0 448 C dL_step_448 ?_
          refine z_dcmp (v := nI 0) 449 C dL_step_449 (by rw [show zshare (S9.1 j) (S9.2.1 j) ((a / 16) % 64) = FP.dconst0 from if_pos ez]; exact zdc_0 _) ?_
          refine z_if_neN 450 C 470 dL_step_450 (by decide) (by omega) (fun h450 => absurd h450 (by omega)) (fun h450 => ?_)
          refine z_aload_n 453 C dL_step_453 rfl 3 rfl ?_
          refine z_iload 454 C dL_step_454 2 rfl ?_
          refine z_iload 456 C dL_step_456 1 rfl ?_
          refine z_callVl 458 C (As := [.int (nI j), .int (nI o)]) 2 kO_main rfl (c_X5_signedProduct l hg y9 S9 hA9 j hj o ho) (cwV 2 C.1.2.2.2.2 gL_step_X5_signedProduct rfl rfl rfl (by decide +kernel) ⟨Nat.le_of_ble_eq_true rfl, Nat.le_of_ble_eq_true rfl⟩) rfl rfl (Nat.le_of_ble_eq_true rfl) ⟨Nat.le_of_ble_eq_true rfl, Nat.le_of_ble_eq_true rfl⟩ dL_step_458 (fun r u hu => ?_)
          obtain ⟨⟨hm, rfl⟩, hmid⟩ := hu
          obtain rfl : r = 0 := zsprod_0 (by rw [e1] at hmid; exact hmid)
          refine z_lconst (v := 0) 461 C dL_step_461 rfl ?_
          refine z_lcmp (v := lg_cmp 0 0) 462 C dL_step_462 rfl ?_
          refine z_if_ne 463 C 470 dL_step_463 (by decide) (fun h463 => absurd (lgc_self 0) h463) (fun h463 => ?_)
          refine z_iconst (v := nI 1) 466 C dL_step_466 rfl ?_
          refine z_goto 467 C 471 dL_step_467 (by decide) ?_
          exact z_zret 471 C hr rfl ⟨⟨S9, zAll_l hA9, hG9⟩, rfl⟩ dL_step_471
      · refine z_iload 234 C dL_step_234 0 rfl ?_
        refine z_aload_n 236 C dL_step_236 rfl 3 rfl ?_
        refine z_iload 237 C dL_step_237 1 rfl ?_
        refine z_callVi 239 C (As := [.int (nI o)]) 1 kO_main rfl (c_X5_total l hg x S hA o (by omega)) (cwV 1 C.1.2.2.2.2 gL_step_X5_total rfl rfl rfl (by decide +kernel) ⟨Nat.le_of_ble_eq_true rfl, Nat.le_of_ble_eq_true rfl⟩) rfl rfl (Nat.le_of_ble_eq_true rfl) ⟨Nat.le_of_ble_eq_true rfl, Nat.le_of_ble_eq_true rfl⟩ dL_step_239 (fun r u hu => ?_)
        obtain ⟨hu1, hu2⟩ := hu
        subst u
        obtain ⟨U, hU, eU⟩ := zq_tot hGo
        rw [eU] at hu2
        subst r
        refine z_iadd (v := nI (T + U)) 242 C dL_step_242 (nI_add T U) ?_
        refine z_ldc 243 C (v := nI 1000000) hw_k16 dL_step_243 ?_
        refine z_icmp_gtN 245 C 391 dL_step_245 (by decide) (by omega) (by omega) (fun h245 => ?_) (fun h245 => ?_)
        · refine z_iload_n 391 C dL_step_391 rfl 6 rfl ?_
          refine z_iconst (v := nI 5) 392 C dL_step_392 rfl ?_
          refine z_irem (v := nI (b % 5)) 393 C dL_step_393 (by decide) (pk_rem (by omega) (by omega) (by omega)) ?_
          refine z_if_gtN 394 C 466 dL_step_394 (by decide) (by omega) (fun h394 => ?_) (fun h394 => ?_)
          · refine z_iconst (v := nI 1) 466 C dL_step_466 rfl ?_
            refine z_goto 467 C 471 dL_step_467 (by decide) ?_
            exact z_zret 471 C hr rfl ⟨⟨S, hA, hG⟩, rfl⟩ dL_step_471
          · refine z_aload_n 397 C dL_step_397 rfl 3 rfl ?_
            refine z_iload 398 C dL_step_398 2 rfl ?_
            refine z_callVi 400 C (As := [.int (nI j)]) 1 kO_main rfl (c_X5_clear l hg x S hA j hj) (cwV 1 C.1.2.2.2.2 gL_step_X5_clear rfl rfl rfl (by decide +kernel) ⟨Nat.le_of_ble_eq_true rfl, Nat.le_of_ble_eq_true rfl⟩) rfl rfl (Nat.le_of_ble_eq_true rfl) ⟨Nat.le_of_ble_eq_true rfl, Nat.le_of_ble_eq_true rfl⟩ dL_step_400 (fun r y9 hu => ?_)
            obtain ⟨hO9, hN9, hu2⟩ := hu
            subst r
            obtain ⟨S9, eS9⟩ : ∃ q : zS, q = zSj S j (fun _ => 0) (fun _ => 0) [] 0 := ⟨_, rfl⟩
            have hA9 : zAll y9 S9 := by rw [eS9]; exact zAll_j hA hO9 hN9
            have hG9 : zGood S9 := by rw [eS9]; exact zGood_j hG (zgx_0)
            have e1 : S9.1 j = (fun _ => 0) := by rw [eS9]; exact if_pos rfl
            have e2 : S9.2.1 j = (fun _ => 0) := by rw [eS9]; exact if_pos rfl
            have e3 : S9.2.2.1 j = [] := by rw [eS9]; exact if_pos rfl
            have e4 : S9.2.2.2 j = 0 := by rw [eS9]; exact if_pos rfl
            have hl9 : (S9.2.2.1 j).length = 0 := by rw [e3]; rfl
            have ez : ztot (S9.1 j) = 0 := by rw [e1]; exact zsum_0 0 64
            refine z_iload 403 C dL_step_403 0 rfl ?_
            refine z_icmp_ne 405 C 470 dL_step_405 (by decide) (fun h405 => absurd eT h405) (fun h405 => ?_)
            refine z_aload_n 408 C dL_step_408 rfl 3 rfl ?_
            refine z_iload 409 C dL_step_409 2 rfl ?_
            refine z_callVi 411 C (As := [.int (nI j)]) 1 kO_main rfl (c_X5_total l hg y9 S9 hA9 j (by omega)) (cwV 1 C.1.2.2.2.2 gL_step_X5_total rfl rfl rfl (by decide +kernel) ⟨Nat.le_of_ble_eq_true rfl, Nat.le_of_ble_eq_true rfl⟩) rfl rfl (Nat.le_of_ble_eq_true rfl) ⟨Nat.le_of_ble_eq_true rfl, Nat.le_of_ble_eq_true rfl⟩ dL_step_411 (fun r u hu => ?_)
            obtain ⟨hu1, hu2⟩ := hu
            subst u
            subst r
            refine z_if_ne 414 C 470 dL_step_414 (by decide) (fun h414 => absurd ez h414) (fun h414 => ?_)
            refine z_aload_n 417 C dL_step_417 rfl 3 rfl ?_
            refine z_iload 418 C dL_step_418 2 rfl ?_
            refine z_callVi 420 C (As := [.int (nI j)]) 1 kO_main rfl (c_X5_counters l hg y9 S9 hA9 j (by omega)) (cwV 1 C.1.2.2.2.2 gL_step_X5_counters rfl rfl rfl (by decide +kernel) ⟨Nat.le_of_ble_eq_true rfl, Nat.le_of_ble_eq_true rfl⟩) rfl rfl (Nat.le_of_ble_eq_true rfl) ⟨Nat.le_of_ble_eq_true rfl, Nat.le_of_ble_eq_true rfl⟩ dL_step_420 (fun r u hu => ?_)
            obtain ⟨hu1, hu2⟩ := hu
            subst u
            subst r
            refine z_if_neN 423 C 470 dL_step_423 (by decide) (by omega) (fun h423 => absurd h423 (by omega)) (fun h423 => ?_)
            refine z_aload_n 426 C dL_step_426 rfl 3 rfl ?_
            refine z_iload 427 C dL_step_427 2 rfl ?_
            refine z_callVi 429 C (As := [.int (nI j)]) 1 kO_main rfl (c_X5_taken l hg y9 S9 hA9 j (by omega)) (cwV 1 C.1.2.2.2.2 gL_step_X5_taken rfl rfl rfl (by decide +kernel) ⟨Nat.le_of_ble_eq_true rfl, Nat.le_of_ble_eq_true rfl⟩) rfl rfl (Nat.le_of_ble_eq_true rfl) ⟨Nat.le_of_ble_eq_true rfl, Nat.le_of_ble_eq_true rfl⟩ dL_step_429 (fun r u hu => ?_)
            obtain ⟨hu1, hu2⟩ := hu
            subst u
            subst r
            refine z_if_ne 432 C 470 dL_step_432 (by decide) (fun h432 => absurd e4 h432) (fun h432 => ?_)
            refine z_aload_n 435 C dL_step_435 rfl 3 rfl ?_
            refine z_iload 436 C dL_step_436 2 rfl ?_
            refine z_iload_n 438 C dL_step_438 rfl 5 rfl ?_
            refine z_bipush (v := nI 16) 439 C dL_step_439 rfl ?_
            refine z_idiv (v := nI (a / 16)) 441 C dL_step_441 (by decide) (pk_div (by omega) (by omega) (by omega)) ?_
            refine z_bipush (v := nI 64) 442 C dL_step_442 rfl ?_
            refine z_irem (v := nI ((a / 16) % 64)) 444 C dL_step_444 (by decide) (pk_rem (by omega) (by omega) (by omega)) ?_
            refine z_callVd 445 C (As := [.int (nI j), .int (nI ((a / 16) % 64))]) 2 kO_main rfl (c_X5_share l hg y9 S9 hA9 j (by omega) ((a / 16) % 64) (by omega)) (cwV 2 C.1.2.2.2.2 gL_step_X5_share rfl rfl rfl (by decide +kernel) ⟨Nat.le_of_ble_eq_true rfl, Nat.le_of_ble_eq_true rfl⟩) rfl rfl (Nat.le_of_ble_eq_true rfl) ⟨Nat.le_of_ble_eq_true rfl, Nat.le_of_ble_eq_true rfl⟩ dL_step_445 (fun r u hu => ?_)
            obtain ⟨hu1, hu2⟩ := hu
            subst u
            subst r
            refine z_dconst0 448 C dL_step_448 ?_
            refine z_dcmp (v := nI 0) 449 C dL_step_449 (by rw [show zshare (S9.1 j) (S9.2.1 j) ((a / 16) % 64) = FP.dconst0 from if_pos ez]; exact zdc_0 _) ?_
            refine z_if_neN 450 C 470 dL_step_450 (by decide) (by omega) (fun h450 => absurd h450 (by omega)) (fun h450 => ?_)
            refine z_aload_n 453 C dL_step_453 rfl 3 rfl ?_
            refine z_iload 454 C dL_step_454 2 rfl ?_
            refine z_iload 456 C dL_step_456 1 rfl ?_
            refine z_callVl 458 C (As := [.int (nI j), .int (nI o)]) 2 kO_main rfl (c_X5_signedProduct l hg y9 S9 hA9 j hj o ho) (cwV 2 C.1.2.2.2.2 gL_step_X5_signedProduct rfl rfl rfl (by decide +kernel) ⟨Nat.le_of_ble_eq_true rfl, Nat.le_of_ble_eq_true rfl⟩) rfl rfl (Nat.le_of_ble_eq_true rfl) ⟨Nat.le_of_ble_eq_true rfl, Nat.le_of_ble_eq_true rfl⟩ dL_step_458 (fun r u hu => ?_)
            obtain ⟨⟨hm, rfl⟩, hmid⟩ := hu
            obtain rfl : r = 0 := zsprod_0 (by rw [e1] at hmid; exact hmid)
            refine z_lconst (v := 0) 461 C dL_step_461 rfl ?_
            refine z_lcmp (v := lg_cmp 0 0) 462 C dL_step_462 rfl ?_
            refine z_if_ne 463 C 470 dL_step_463 (by decide) (fun h463 => absurd (lgc_self 0) h463) (fun h463 => ?_)
            refine z_iconst (v := nI 1) 466 C dL_step_466 rfl ?_
            refine z_goto 467 C 471 dL_step_467 (by decide) ?_
            exact z_zret 471 C hr rfl ⟨⟨S9, zAll_l hA9, hG9⟩, rfl⟩ dL_step_471
        · refine z_aload_n 248 C dL_step_248 rfl 3 rfl ?_
          refine z_iload 249 C dL_step_249 2 rfl ?_
          refine z_iload_n 251 C dL_step_251 rfl 5 rfl ?_
          refine z_bipush (v := nI 16) 252 C dL_step_252 rfl ?_
          refine z_idiv (v := nI (a / 16)) 254 C dL_step_254 (by decide) (pk_div (by omega) (by omega) (by omega)) ?_
          refine z_bipush (v := nI 64) 255 C dL_step_255 rfl ?_
          refine z_irem (v := nI ((a / 16) % 64)) 257 C dL_step_257 (by decide) (pk_rem (by omega) (by omega) (by omega)) ?_
          refine z_callVi 258 C (As := [.int (nI j), .int (nI ((a / 16) % 64))]) 2 kO_main rfl (c_X5_count l hg x S hA j (by omega) ((a / 16) % 64) (by omega)) (cwV 2 C.1.2.2.2.2 gL_step_X5_count rfl rfl rfl (by decide +kernel) ⟨Nat.le_of_ble_eq_true rfl, Nat.le_of_ble_eq_true rfl⟩) rfl rfl (Nat.le_of_ble_eq_true rfl) ⟨Nat.le_of_ble_eq_true rfl, Nat.le_of_ble_eq_true rfl⟩ dL_step_258 (fun r u hu => ?_)
          obtain ⟨hu1, hu2⟩ := hu
          subst u
          subst r
          refine z_aload_n 261 C dL_step_261 rfl 3 rfl ?_
          refine z_iload 262 C dL_step_262 1 rfl ?_
          refine z_iload_n 264 C dL_step_264 rfl 5 rfl ?_
          refine z_bipush (v := nI 16) 265 C dL_step_265 rfl ?_
          refine z_idiv (v := nI (a / 16)) 267 C dL_step_267 (by decide) (pk_div (by omega) (by omega) (by omega)) ?_
          refine z_bipush (v := nI 64) 268 C dL_step_268 rfl ?_
          refine z_irem (v := nI ((a / 16) % 64)) 270 C dL_step_270 (by decide) (pk_rem (by omega) (by omega) (by omega)) ?_
          refine z_callVi 271 C (As := [.int (nI o), .int (nI ((a / 16) % 64))]) 2 kO_main rfl (c_X5_count l hg x S hA o (by omega) ((a / 16) % 64) (by omega)) (cwV 2 C.1.2.2.2.2 gL_step_X5_count rfl rfl rfl (by decide +kernel) ⟨Nat.le_of_ble_eq_true rfl, Nat.le_of_ble_eq_true rfl⟩) rfl rfl (Nat.le_of_ble_eq_true rfl) ⟨Nat.le_of_ble_eq_true rfl, Nat.le_of_ble_eq_true rfl⟩ dL_step_271 (fun r u hu => ?_)
          obtain ⟨hu1, hu2⟩ := hu
          subst u
          subst r
          refine z_iadd (v := (S.1 j ((a / 16) % 64)) + (S.1 o ((a / 16) % 64))) 274 C dL_step_274 rfl ?_
          refine z_istore (lv' := [(7, .int ((S.1 j ((a / 16) % 64)) + (S.1 o ((a / 16) % 64)))), (6, .int (nI T)), (5, .int (nI o)), (4, .int (nI j)), (0, .ref (zad g 0)), (1, .int (nI wh)), (2, .int (nI a)), (3, .int (nI b))]) 275 C dL_step_275 (by decide) rfl ?_
          refine z_aload_n 277 C dL_step_277 rfl 4 rfl ?_
          refine z_iload 278 C dL_step_278 3 rfl ?_
          refine z_iconst (v := nI 1) 280 C dL_step_280 rfl ?_
          refine z_iconst (v := nI 2) 281 C dL_step_281 rfl ?_
          refine z_iload_n 282 C dL_step_282 rfl 7 rfl ?_
          refine z_bipush (v := nI 8) 283 C dL_step_283 rfl ?_
          refine z_irem (v := nI (b % 8)) 285 C dL_step_285 (by decide) (pk_rem (by omega) (by omega) (by omega)) ?_
          refine z_callVi 286 C (As := [.int (nI j), .int (nI 1), .int (nI 2), .int (nI (b % 8))]) 4 kO_main rfl (c_X5_cell l hg x S hA j (by omega) 1 2 (b % 8) (by omega) (by omega) (by omega)) (cwV 4 C.1.2.2.2.2 gL_step_X5_cell rfl rfl rfl (by decide +kernel) ⟨Nat.le_of_ble_eq_true rfl, Nat.le_of_ble_eq_true rfl⟩) rfl rfl (Nat.le_of_ble_eq_true rfl) ⟨Nat.le_of_ble_eq_true rfl, Nat.le_of_ble_eq_true rfl⟩ dL_step_286 (fun r u hu => ?_)
          obtain ⟨hu1, hu2⟩ := hu
          subst u
          subst r
          refine z_aload_n 289 C dL_step_289 rfl 4 rfl ?_
          refine z_iload 290 C dL_step_290 2 rfl ?_
          refine z_iconst (v := nI 1) 292 C dL_step_292 rfl ?_
          refine z_iconst (v := nI 2) 293 C dL_step_293 rfl ?_
          refine z_iload_n 294 C dL_step_294 rfl 7 rfl ?_
          refine z_bipush (v := nI 8) 295 C dL_step_295 rfl ?_
          refine z_irem (v := nI (b % 8)) 297 C dL_step_297 (by decide) (pk_rem (by omega) (by omega) (by omega)) ?_
          refine z_callVi 298 C (As := [.int (nI o), .int (nI 1), .int (nI 2), .int (nI (b % 8))]) 4 kO_main rfl (c_X5_cell l hg x S hA o (by omega) 1 2 (b % 8) (by omega) (by omega) (by omega)) (cwV 4 C.1.2.2.2.2 gL_step_X5_cell rfl rfl rfl (by decide +kernel) ⟨Nat.le_of_ble_eq_true rfl, Nat.le_of_ble_eq_true rfl⟩) rfl rfl (Nat.le_of_ble_eq_true rfl) ⟨Nat.le_of_ble_eq_true rfl, Nat.le_of_ble_eq_true rfl⟩ dL_step_298 (fun r u hu => ?_)
          obtain ⟨hu1, hu2⟩ := hu
          subst u
          subst r
          refine z_iadd (v := (S.2.1 j (24 * 1 + (2 * 8 + (b % 8)))) + (S.2.1 o (24 * 1 + (2 * 8 + (b % 8))))) 301 C dL_step_301 rfl ?_
          refine z_istore (lv' := [(8, .int ((S.2.1 j (24 * 1 + (2 * 8 + (b % 8)))) + (S.2.1 o (24 * 1 + (2 * 8 + (b % 8)))))), (7, .int ((S.1 j ((a / 16) % 64)) + (S.1 o ((a / 16) % 64)))), (6, .int (nI T)), (5, .int (nI o)), (4, .int (nI j)), (0, .ref (zad g 0)), (1, .int (nI wh)), (2, .int (nI a)), (3, .int (nI b))]) 302 C dL_step_302 (by decide) rfl ?_
          refine z_aload_n 304 C dL_step_304 rfl 5 rfl ?_
          refine z_iload 305 C dL_step_305 4 rfl ?_
          refine z_callVi 307 C (As := [.int (nI j)]) 1 kO_main rfl (c_X5_taken l hg x S hA j (by omega)) (cwV 1 C.1.2.2.2.2 gL_step_X5_taken rfl rfl rfl (by decide +kernel) ⟨Nat.le_of_ble_eq_true rfl, Nat.le_of_ble_eq_true rfl⟩) rfl rfl (Nat.le_of_ble_eq_true rfl) ⟨Nat.le_of_ble_eq_true rfl, Nat.le_of_ble_eq_true rfl⟩ dL_step_307 (fun r u hu => ?_)
          obtain ⟨hu1, hu2⟩ := hu
          subst u
          subst r
          refine z_aload_n 310 C dL_step_310 rfl 5 rfl ?_
          refine z_iload 311 C dL_step_311 3 rfl ?_
          refine z_callVi 313 C (As := [.int (nI o)]) 1 kO_main rfl (c_X5_taken l hg x S hA o (by omega)) (cwV 1 C.1.2.2.2.2 gL_step_X5_taken rfl rfl rfl (by decide +kernel) ⟨Nat.le_of_ble_eq_true rfl, Nat.le_of_ble_eq_true rfl⟩) rfl rfl (Nat.le_of_ble_eq_true rfl) ⟨Nat.le_of_ble_eq_true rfl, Nat.le_of_ble_eq_true rfl⟩ dL_step_313 (fun r u hu => ?_)
          obtain ⟨hu1, hu2⟩ := hu
          subst u
          subst r
          refine z_iadd (v := (S.2.2.2 j) + (S.2.2.2 o)) 316 C dL_step_316 rfl ?_
          refine z_istore (lv' := [(9, .int ((S.2.2.2 j) + (S.2.2.2 o))), (8, .int ((S.2.1 j (24 * 1 + (2 * 8 + (b % 8)))) + (S.2.1 o (24 * 1 + (2 * 8 + (b % 8)))))), (7, .int ((S.1 j ((a / 16) % 64)) + (S.1 o ((a / 16) % 64)))), (6, .int (nI T)), (5, .int (nI o)), (4, .int (nI j)), (0, .ref (zad g 0)), (1, .int (nI wh)), (2, .int (nI a)), (3, .int (nI b))]) 317 C dL_step_317 (by decide) rfl ?_
          refine z_aload_n 319 C dL_step_319 rfl 6 rfl ?_
          refine z_iload 320 C dL_step_320 5 rfl ?_
          refine z_iload 322 C dL_step_322 4 rfl ?_
          refine z_callVi 324 C (As := [.int (nI j), .int (nI o)]) 2 kO_main rfl (c_X5_merge l hg x S hA j hj o ho h231 (by rw [eT, eU, nI_add]; exact (nI_leI (by omega) (by omega)).mpr (by omega))) (cwV 2 C.1.2.2.2.2 gL_step_X5_merge rfl rfl rfl (by decide +kernel) ⟨Nat.le_of_ble_eq_true rfl, Nat.le_of_ble_eq_true rfl⟩) rfl rfl (Nat.le_of_ble_eq_true rfl) ⟨Nat.le_of_ble_eq_true rfl, Nat.le_of_ble_eq_true rfl⟩ dL_step_324 (fun r y9 hu => ?_)
          obtain ⟨hO9, hN9, hu2⟩ := hu
          subst r
          obtain ⟨S9, eS9⟩ : ∃ q : zS, q = zSj S j (fun k => S.1 j k + S.1 o k) (fun k => S.2.1 j k + S.2.1 o k) (zmrg (S.2.2.1 j) (S.2.2.1 o)) (S.2.2.2 j + S.2.2.2 o + zmrgw (S.2.2.1 j) (S.2.2.1 o)) := ⟨_, rfl⟩
          have hA9 : zAll y9 S9 := by rw [eS9]; exact zAll_j hA hO9 hN9
          have hG9 : zGood S9 := by rw [eS9]; exact zGood_j hG (zgx_mrg hGj hGo (by rw [eT, eU, nI_add]; exact (nI_leI (by omega) (by omega)).mpr (by omega)))
          have e1 : S9.1 j = (fun k => S.1 j k + S.1 o k) := by rw [eS9]; exact if_pos rfl
          have e2 : S9.2.1 j = (fun k => S.2.1 j k + S.2.1 o k) := by rw [eS9]; exact if_pos rfl
          have e3 : S9.2.2.1 j = (zmrg (S.2.2.1 j) (S.2.2.1 o)) := by rw [eS9]; exact if_pos rfl
          have e4 : S9.2.2.2 j = (S.2.2.2 j + S.2.2.2 o + zmrgw (S.2.2.1 j) (S.2.2.1 o)) := by rw [eS9]; exact if_pos rfl
          have f1 : S9.1 o = S.1 o := by rw [eS9]; exact if_neg (fun z => h231 z.symm)
          refine z_iload 327 C dL_step_327 3 rfl ?_
          refine z_aload_n 329 C dL_step_329 rfl 6 rfl ?_
          refine z_iload 330 C dL_step_330 4 rfl ?_
          refine z_callVi 332 C (As := [.int (nI o)]) 1 kO_main rfl (c_X5_total l hg y9 S9 hA9 o (by omega)) (cwV 1 C.1.2.2.2.2 gL_step_X5_total rfl rfl rfl (by decide +kernel) ⟨Nat.le_of_ble_eq_true rfl, Nat.le_of_ble_eq_true rfl⟩) rfl rfl (Nat.le_of_ble_eq_true rfl) ⟨Nat.le_of_ble_eq_true rfl, Nat.le_of_ble_eq_true rfl⟩ dL_step_332 (fun r u hu => ?_)
          obtain ⟨hu1, hu2⟩ := hu
          subst u
          subst r
          refine z_iadd (v := (nI T) + (ztot (S9.1 o))) 335 C dL_step_335 rfl ?_
          refine z_icmp_ne 336 C 389 dL_step_336 (by decide) (fun h336 => absurd (by rw [ztot_add, eT, f1]) h336) (fun h336 => ?_)
          refine z_aload_n 339 C dL_step_339 rfl 6 rfl ?_
          refine z_iload 340 C dL_step_340 5 rfl ?_
          refine z_iload_n 342 C dL_step_342 rfl 8 rfl ?_
          refine z_bipush (v := nI 16) 343 C dL_step_343 rfl ?_
          refine z_idiv (v := nI (a / 16)) 345 C dL_step_345 (by decide) (pk_div (by omega) (by omega) (by omega)) ?_
          refine z_bipush (v := nI 64) 346 C dL_step_346 rfl ?_
          refine z_irem (v := nI ((a / 16) % 64)) 348 C dL_step_348 (by decide) (pk_rem (by omega) (by omega) (by omega)) ?_
          refine z_callVi 349 C (As := [.int (nI j), .int (nI ((a / 16) % 64))]) 2 kO_main rfl (c_X5_count l hg y9 S9 hA9 j (by omega) ((a / 16) % 64) (by omega)) (cwV 2 C.1.2.2.2.2 gL_step_X5_count rfl rfl rfl (by decide +kernel) ⟨Nat.le_of_ble_eq_true rfl, Nat.le_of_ble_eq_true rfl⟩) rfl rfl (Nat.le_of_ble_eq_true rfl) ⟨Nat.le_of_ble_eq_true rfl, Nat.le_of_ble_eq_true rfl⟩ dL_step_349 (fun r u hu => ?_)
          obtain ⟨hu1, hu2⟩ := hu
          subst u
          subst r
          refine z_iload 352 C dL_step_352 2 rfl ?_
          refine z_icmp_ne 354 C 389 dL_step_354 (by decide) (fun h354 => absurd (by rw [e1]) h354) (fun h354 => ?_)
          refine z_aload_n 357 C dL_step_357 rfl 6 rfl ?_
          refine z_iload 358 C dL_step_358 5 rfl ?_
          refine z_iconst (v := nI 1) 360 C dL_step_360 rfl ?_
          refine z_iconst (v := nI 2) 361 C dL_step_361 rfl ?_
          refine z_iload_n 362 C dL_step_362 rfl 9 rfl ?_
          refine z_bipush (v := nI 8) 363 C dL_step_363 rfl ?_
          refine z_irem (v := nI (b % 8)) 365 C dL_step_365 (by decide) (pk_rem (by omega) (by omega) (by omega)) ?_
          refine z_callVi 366 C (As := [.int (nI j), .int (nI 1), .int (nI 2), .int (nI (b % 8))]) 4 kO_main rfl (c_X5_cell l hg y9 S9 hA9 j (by omega) 1 2 (b % 8) (by omega) (by omega) (by omega)) (cwV 4 C.1.2.2.2.2 gL_step_X5_cell rfl rfl rfl (by decide +kernel) ⟨Nat.le_of_ble_eq_true rfl, Nat.le_of_ble_eq_true rfl⟩) rfl rfl (Nat.le_of_ble_eq_true rfl) ⟨Nat.le_of_ble_eq_true rfl, Nat.le_of_ble_eq_true rfl⟩ dL_step_366 (fun r u hu => ?_)
          obtain ⟨hu1, hu2⟩ := hu
          subst u
          subst r
          refine z_iload 369 C dL_step_369 1 rfl ?_
          refine z_icmp_ne 371 C 389 dL_step_371 (by decide) (fun h371 => absurd (by rw [e2]) h371) (fun h371 => ?_)
          refine z_aload_n 374 C dL_step_374 rfl 6 rfl ?_
          refine z_iload 375 C dL_step_375 5 rfl ?_
          refine z_callVi 377 C (As := [.int (nI j)]) 1 kO_main rfl (c_X5_taken l hg y9 S9 hA9 j (by omega)) (cwV 1 C.1.2.2.2.2 gL_step_X5_taken rfl rfl rfl (by decide +kernel) ⟨Nat.le_of_ble_eq_true rfl, Nat.le_of_ble_eq_true rfl⟩) rfl rfl (Nat.le_of_ble_eq_true rfl) ⟨Nat.le_of_ble_eq_true rfl, Nat.le_of_ble_eq_true rfl⟩ dL_step_377 (fun r u hu => ?_)
          obtain ⟨hu1, hu2⟩ := hu
          subst u
          subst r
          refine z_iload 380 C dL_step_380 0 rfl ?_
          refine z_icmp_lt 382 C 389 dL_step_382 (by decide) (fun h382 => absurd h382 (by rw [e4]; exact zq_taken hGj hGo)) (fun h382 => ?_)
          refine z_iconst (v := nI 1) 385 C dL_step_385 rfl ?_
          refine z_goto 386 C 390 dL_step_386 (by decide) ?_
          exact z_zret 390 C hr rfl ⟨⟨S9, hA9, hG9⟩, rfl⟩ dL_step_390
  · refine z_iload_n 29 C dL_step_29 rfl 5 rfl ?_
    refine z_bipush (v := nI 16) 30 C dL_step_30 rfl ?_
    refine z_idiv (v := nI (a / 16)) 32 C dL_step_32 (by decide) (pk_div (by omega) (by omega) (by omega)) ?_
    refine z_iload_n 33 C dL_step_33 rfl 6 rfl ?_
    refine z_iconst (v := nI 3) 34 C dL_step_34 rfl ?_
    refine z_irem (v := nI (b % 3)) 35 C dL_step_35 (by decide) (pk_rem (by omega) (by omega) (by omega)) ?_
    refine z_if_neN 36 C 44 dL_step_36 (by decide) (by omega) (fun h36 => ?_) (fun h36 => ?_)
    · refine z_bipush (v := nI 9) 44 C dL_step_44 rfl ?_
      refine z_irem (v := nI ((a / 16) % 9)) 46 C dL_step_46 (by decide) (pk_rem (by omega) (by omega) (by omega)) ?_
      obtain ⟨i, ei⟩ : ∃ q : Nat, (a / 16) % 9 = q := ⟨_, rfl⟩
      rw [ei]
      have hi : i < 64 := by omega
      have hsc := zscol_lt 2 i
      refine z_istore (lv' := [(7, .int (nI i)), (6, .int (nI T)), (5, .int (nI o)), (4, .int (nI j)), (0, .ref (zad g 0)), (1, .int (nI wh)), (2, .int (nI a)), (3, .int (nI b))]) 47 C dL_step_47 (by decide) rfl ?_
      refine z_iconst (v := nI 1) 49 C dL_step_49 rfl ?_
      refine z_iload_n 50 C dL_step_50 rfl 7 rfl ?_
      refine z_iconst (v := nI 3) 51 C dL_step_51 rfl ?_
      refine z_idiv (v := nI (b / 3)) 52 C dL_step_52 (by decide) (pk_div (by omega) (by omega) (by omega)) ?_
      refine z_iload_n 53 C dL_step_53 rfl 7 rfl ?_
      refine z_iconst (v := nI 2) 54 C dL_step_54 rfl ?_
      refine z_irem (v := nI (b % 2)) 55 C dL_step_55 (by decide) (pk_rem (by omega) (by omega) (by omega)) ?_
      refine z_if_neN 56 C 65 dL_step_56 (by decide) (by omega) (fun h56 => ?_) (fun h56 => ?_)
      · refine z_bipush (v := nI 12) 65 C dL_step_65 rfl ?_
        refine z_irem (v := nI ((b / 3) % 12)) 67 C dL_step_67 (by decide) (pk_rem (by omega) (by omega) (by omega)) ?_
        refine z_iadd (v := nI (1 + ((b / 3) % 12))) 68 C dL_step_68 (nI_add 1 ((b / 3) % 12)) ?_
        obtain ⟨w, ew⟩ : ∃ q : Nat, 1 + ((b / 3) % 12) = q := ⟨_, rfl⟩
        rw [ew]
        have hw : 1 ≤ w ∧ w ≤ 1000 := by omega
        refine z_istore (lv' := [(8, .int (nI w)), (7, .int (nI i)), (6, .int (nI T)), (5, .int (nI o)), (4, .int (nI j)), (0, .ref (zad g 0)), (1, .int (nI wh)), (2, .int (nI a)), (3, .int (nI b))]) 69 C dL_step_69 (by decide) rfl ?_
        refine z_iload 71 C dL_step_71 2 rfl ?_
        refine z_iload 73 C dL_step_73 0 rfl ?_
        refine z_iadd (v := nI (T + w)) 75 C dL_step_75 (nI_add T w) ?_
        refine z_ldc 76 C (v := nI 1000000) hw_k16 dL_step_76 ?_
        refine z_icmp_leN 78 C 94 dL_step_78 (by decide) (by omega) (by omega) (fun h78 => ?_) (fun h78 => ?_)
        · refine z_aload_n 94 C dL_step_94 rfl 5 rfl ?_
          refine z_iload 95 C dL_step_95 4 rfl ?_
          refine z_iload 97 C dL_step_97 1 rfl ?_
          refine z_callVi 99 C (As := [.int (nI j), .int (nI i)]) 2 kO_main rfl (c_X5_count l hg x S hA j (by omega) i (by omega)) (cwV 2 C.1.2.2.2.2 gL_step_X5_count rfl rfl rfl (by decide +kernel) ⟨Nat.le_of_ble_eq_true rfl, Nat.le_of_ble_eq_true rfl⟩) rfl rfl (Nat.le_of_ble_eq_true rfl) ⟨Nat.le_of_ble_eq_true rfl, Nat.le_of_ble_eq_true rfl⟩ dL_step_99 (fun r u hu => ?_)
          obtain ⟨hu1, hu2⟩ := hu
          subst u
          subst r
          refine z_istore (lv' := [(9, .int (S.1 j i)), (8, .int (nI w)), (7, .int (nI i)), (6, .int (nI T)), (5, .int (nI o)), (4, .int (nI j)), (0, .ref (zad g 0)), (1, .int (nI wh)), (2, .int (nI a)), (3, .int (nI b))]) 102 C dL_step_102 (by decide) rfl ?_
          refine z_aload_n 104 C dL_step_104 rfl 6 rfl ?_
          refine z_iload 105 C dL_step_105 5 rfl ?_
          refine z_iconst (v := nI 0) 107 C dL_step_107 rfl ?_
          refine z_iload 108 C dL_step_108 2 rfl ?_
          refine z_callVi 110 C (As := [.int (nI j), .int (nI 0), .int (nI i)]) 3 kO_main rfl (c_X5_estimate l hg x S hA j (by omega) 0 i (by omega) (by omega)) (cwV 3 C.1.2.2.2.2 gL_step_X5_estimate rfl rfl rfl (by decide +kernel) ⟨Nat.le_of_ble_eq_true rfl, Nat.le_of_ble_eq_true rfl⟩) rfl rfl (Nat.le_of_ble_eq_true rfl) ⟨Nat.le_of_ble_eq_true rfl, Nat.le_of_ble_eq_true rfl⟩ dL_step_110 (fun r u hu => ?_)
          obtain ⟨hu1, hu2⟩ := hu
          subst u
          subst r
          refine z_istore (lv' := [(10, .int (zest (S.1 j) (S.2.1 j) 0 i)), (9, .int (S.1 j i)), (8, .int (nI w)), (7, .int (nI i)), (6, .int (nI T)), (5, .int (nI o)), (4, .int (nI j)), (0, .ref (zad g 0)), (1, .int (nI wh)), (2, .int (nI a)), (3, .int (nI b))]) 113 C dL_step_113 (by decide) rfl ?_
          refine z_aload_n 115 C dL_step_115 rfl 7 rfl ?_
          refine z_iload 116 C dL_step_116 6 rfl ?_
          refine z_iconst (v := nI 2) 118 C dL_step_118 rfl ?_
          refine z_aload_n 119 C dL_step_119 rfl 7 rfl ?_
          refine z_iconst (v := nI 2) 120 C dL_step_120 rfl ?_
          refine z_iload 121 C dL_step_121 3 rfl ?_
          refine z_callVi 123 C (As := [.int (nI 2), .int (nI i)]) 2 kO_main rfl (c_X5_signedColumn l hg x S hA 2 i (by omega) (by omega)) (cwV 2 C.1.2.2.2.2 gL_step_X5_signedColumn rfl rfl rfl (by decide +kernel) ⟨Nat.le_of_ble_eq_true rfl, Nat.le_of_ble_eq_true rfl⟩) rfl rfl (Nat.le_of_ble_eq_true rfl) ⟨Nat.le_of_ble_eq_true rfl, Nat.le_of_ble_eq_true rfl⟩ dL_step_123 (fun r u hu => ?_)
          obtain ⟨hu1, hu2⟩ := hu
          subst u
          subst r
          refine z_callVi 126 C (As := [.int (nI j), .int (nI 2), .int (nI (zscol 2 i))]) 3 kO_main rfl (c_X5_signedCell l hg x S hA j (by omega) 2 (zscol 2 i) (by omega) (by omega)) (cwV 3 C.1.2.2.2.2 gL_step_X5_signedCell rfl rfl rfl (by decide +kernel) ⟨Nat.le_of_ble_eq_true rfl, Nat.le_of_ble_eq_true rfl⟩) rfl rfl (Nat.le_of_ble_eq_true rfl) ⟨Nat.le_of_ble_eq_true rfl, Nat.le_of_ble_eq_true rfl⟩ dL_step_126 (fun r u hu => ?_)
          obtain ⟨hu1, hu2⟩ := hu
          subst u
          subst r
          refine z_istore (lv' := [(11, .int (zscell (S.1 j) 2 (zscol 2 i))), (10, .int (zest (S.1 j) (S.2.1 j) 0 i)), (9, .int (S.1 j i)), (8, .int (nI w)), (7, .int (nI i)), (6, .int (nI T)), (5, .int (nI o)), (4, .int (nI j)), (0, .ref (zad g 0)), (1, .int (nI wh)), (2, .int (nI a)), (3, .int (nI b))]) 129 C dL_step_129 (by decide) rfl ?_
          refine z_aload_n 131 C dL_step_131 rfl 8 rfl ?_
          refine z_iload 132 C dL_step_132 7 rfl ?_
          refine z_iload 134 C dL_step_134 4 rfl ?_
          refine z_iload 136 C dL_step_136 3 rfl ?_
          refine z_callVi 138 C (As := [.int (nI j), .int (nI i), .int (nI w)]) 3 kO_main rfl (c_X5_add l hg x S hA j hj i hi w (by omega) (by omega) (by rw [eT, nI_add]; exact (nI_leI (by omega) (by omega)).mpr (by omega))) (cwV 3 C.1.2.2.2.2 gL_step_X5_add rfl rfl rfl (by decide +kernel) ⟨Nat.le_of_ble_eq_true rfl, Nat.le_of_ble_eq_true rfl⟩) rfl rfl (Nat.le_of_ble_eq_true rfl) ⟨Nat.le_of_ble_eq_true rfl, Nat.le_of_ble_eq_true rfl⟩ dL_step_138 (fun r y9 hu => ?_)
          obtain ⟨hO9, hN9, hu2⟩ := hu
          subst r
          obtain ⟨S9, eS9⟩ : ∃ q : zS, q = zSj S j (upd (S.1 j) i (S.1 j i + nI w)) (zdput (S.2.1 j) i (nI w)) (zadd (S.2.2.1 j) (nI i) (nI w)) (S.2.2.2 j + zaddw (S.2.2.1 j) (nI i) (nI w)) := ⟨_, rfl⟩
          have hA9 : zAll y9 S9 := by rw [eS9]; exact zAll_j hA hO9 hN9
          have hG9 : zGood S9 := by rw [eS9]; exact zGood_j hG (zgx_add hGj hi (by omega) (by omega) (by rw [eT, nI_add]; exact (nI_leI (by omega) (by omega)).mpr (by omega)))
          have e1 : S9.1 j = (upd (S.1 j) i (S.1 j i + nI w)) := by rw [eS9]; exact if_pos rfl
          have e2 : S9.2.1 j = (zdput (S.2.1 j) i (nI w)) := by rw [eS9]; exact if_pos rfl
          have e3 : S9.2.2.1 j = (zadd (S.2.2.1 j) (nI i) (nI w)) := by rw [eS9]; exact if_pos rfl
          have e4 : S9.2.2.2 j = (S.2.2.2 j + zaddw (S.2.2.1 j) (nI i) (nI w)) := by rw [eS9]; exact if_pos rfl
          refine z_iload 141 C dL_step_141 5 rfl ?_
          refine z_iload 143 C dL_step_143 3 rfl ?_
          refine z_iadd (v := nI (T + w)) 145 C dL_step_145 (nI_add T w) ?_
          refine z_icmp_ne 146 C 216 dL_step_146 (by decide) (fun h146 => absurd (by rw [ztot_upd hi, eT, nI_add]) h146) (fun h146 => ?_)
          refine z_aload_n 149 C dL_step_149 rfl 8 rfl ?_
          refine z_iload 150 C dL_step_150 7 rfl ?_
          refine z_iload 152 C dL_step_152 4 rfl ?_
          refine z_callVi 154 C (As := [.int (nI j), .int (nI i)]) 2 kO_main rfl (c_X5_count l hg y9 S9 hA9 j (by omega) i (by omega)) (cwV 2 C.1.2.2.2.2 gL_step_X5_count rfl rfl rfl (by decide +kernel) ⟨Nat.le_of_ble_eq_true rfl, Nat.le_of_ble_eq_true rfl⟩) rfl rfl (Nat.le_of_ble_eq_true rfl) ⟨Nat.le_of_ble_eq_true rfl, Nat.le_of_ble_eq_true rfl⟩ dL_step_154 (fun r u hu => ?_)
          obtain ⟨hu1, hu2⟩ := hu
          subst u
          subst r
          refine z_iload 157 C dL_step_157 2 rfl ?_
          refine z_iload 159 C dL_step_159 3 rfl ?_
          refine z_iadd (v := (S.1 j i) + (nI w)) 161 C dL_step_161 rfl ?_
          refine z_icmp_ne 162 C 216 dL_step_162 (by decide) (fun h162 => absurd (by rw [e1, pk_us]) h162) (fun h162 => ?_)
          refine z_aload_n 165 C dL_step_165 rfl 8 rfl ?_
          refine z_iload 166 C dL_step_166 7 rfl ?_
          refine z_iconst (v := nI 0) 168 C dL_step_168 rfl ?_
          refine z_iload 169 C dL_step_169 4 rfl ?_
          refine z_callVi 171 C (As := [.int (nI j), .int (nI 0), .int (nI i)]) 3 kO_main rfl (c_X5_estimate l hg y9 S9 hA9 j (by omega) 0 i (by omega) (by omega)) (cwV 3 C.1.2.2.2.2 gL_step_X5_estimate rfl rfl rfl (by decide +kernel) ⟨Nat.le_of_ble_eq_true rfl, Nat.le_of_ble_eq_true rfl⟩) rfl rfl (Nat.le_of_ble_eq_true rfl) ⟨Nat.le_of_ble_eq_true rfl, Nat.le_of_ble_eq_true rfl⟩ dL_step_171 (fun r u hu => ?_)
          obtain ⟨hu1, hu2⟩ := hu
          subst u
          subst r
          refine z_iload 174 C dL_step_174 1 rfl ?_
          refine z_iload 176 C dL_step_176 3 rfl ?_
          refine z_iadd (v := (zest (S.1 j) (S.2.1 j) 0 i) + (nI w)) 178 C dL_step_178 rfl ?_
          refine z_icmp_ne 179 C 216 dL_step_179 (by decide) (fun h179 => absurd (by rw [e1, e2]; exact zq_estadd hGj hw.2 _) h179) (fun h179 => ?_)
          refine z_aload_n 182 C dL_step_182 rfl 8 rfl ?_
          refine z_iload 183 C dL_step_183 7 rfl ?_
          refine z_iconst (v := nI 2) 185 C dL_step_185 rfl ?_
          refine z_aload_n 186 C dL_step_186 rfl 8 rfl ?_
          refine z_iconst (v := nI 2) 187 C dL_step_187 rfl ?_
          refine z_iload 188 C dL_step_188 4 rfl ?_
          refine z_callVi 190 C (As := [.int (nI 2), .int (nI i)]) 2 kO_main rfl (c_X5_signedColumn l hg y9 S9 hA9 2 i (by omega) (by omega)) (cwV 2 C.1.2.2.2.2 gL_step_X5_signedColumn rfl rfl rfl (by decide +kernel) ⟨Nat.le_of_ble_eq_true rfl, Nat.le_of_ble_eq_true rfl⟩) rfl rfl (Nat.le_of_ble_eq_true rfl) ⟨Nat.le_of_ble_eq_true rfl, Nat.le_of_ble_eq_true rfl⟩ dL_step_190 (fun r u hu => ?_)
          obtain ⟨hu1, hu2⟩ := hu
          subst u
          subst r
          refine z_callVi 193 C (As := [.int (nI j), .int (nI 2), .int (nI (zscol 2 i))]) 3 kO_main rfl (c_X5_signedCell l hg y9 S9 hA9 j (by omega) 2 (zscol 2 i) (by omega) (by omega)) (cwV 3 C.1.2.2.2.2 gL_step_X5_signedCell rfl rfl rfl (by decide +kernel) ⟨Nat.le_of_ble_eq_true rfl, Nat.le_of_ble_eq_true rfl⟩) rfl rfl (Nat.le_of_ble_eq_true rfl) ⟨Nat.le_of_ble_eq_true rfl, Nat.le_of_ble_eq_true rfl⟩ dL_step_193 (fun r u hu => ?_)
          obtain ⟨hu1, hu2⟩ := hu
          subst u
          subst r
          refine z_iload 196 C dL_step_196 0 rfl ?_
          refine z_aload_n 198 C dL_step_198 rfl 8 rfl ?_
          refine z_iconst (v := nI 2) 199 C dL_step_199 rfl ?_
          refine z_iload 200 C dL_step_200 4 rfl ?_
          refine z_callVi 202 C (As := [.int (nI 2), .int (nI i)]) 2 kO_main rfl (c_X5_sign l hg y9 S9 hA9 2 i (by omega) (by omega)) (cwV 2 C.1.2.2.2.2 gL_step_X5_sign rfl rfl rfl (by decide +kernel) ⟨Nat.le_of_ble_eq_true rfl, Nat.le_of_ble_eq_true rfl⟩) rfl rfl (Nat.le_of_ble_eq_true rfl) ⟨Nat.le_of_ble_eq_true rfl, Nat.le_of_ble_eq_true rfl⟩ dL_step_202 (fun r u hu => ?_)
          obtain ⟨hu1, hu2⟩ := hu
          subst u
          subst r
          refine z_iload 205 C dL_step_205 3 rfl ?_
          refine z_imul (v := (zsg 2 i) * (nI w)) 207 C dL_step_207 rfl ?_
          refine z_iadd (v := (zscell (S.1 j) 2 (zscol 2 i)) + ((zsg 2 i) * (nI w))) 208 C dL_step_208 rfl ?_
          refine z_icmp_ne 209 C 216 dL_step_209 (by decide) (fun h209 => absurd (by rw [e1]; exact zq_signed hi 2) h209) (fun h209 => ?_)
          refine z_iconst (v := nI 1) 212 C dL_step_212 rfl ?_
          refine z_goto 213 C 217 dL_step_213 (by decide) ?_
          exact z_zret 217 C hr rfl ⟨⟨S9, hA9, hG9⟩, rfl⟩ dL_step_217
        · refine z_iload 81 C dL_step_81 2 rfl ?_
          refine z_ldc 83 C (v := nI 1000000) hw_k16 dL_step_83 ?_
          refine z_icmp_gtN 85 C 92 dL_step_85 (by decide) (by omega) (by omega) (fun h85 => absurd h85 (by omega)) (fun h85 => ?_)
          refine z_iconst (v := nI 1) 88 C dL_step_88 rfl ?_
          refine z_goto 89 C 93 dL_step_89 (by decide) ?_
          exact z_zret 93 C hr rfl ⟨⟨S, hA, hG⟩, rfl⟩ dL_step_93
      · refine z_sipush (v := nI 1000) 59 C dL_step_59 rfl ?_
        refine z_goto 62 C 67 dL_step_62 (by decide) ?_
        refine z_irem (v := nI ((b / 3) % 1000)) 67 C dL_step_67 (by decide) (pk_rem (by omega) (by omega) (by omega)) ?_
        refine z_iadd (v := nI (1 + ((b / 3) % 1000))) 68 C dL_step_68 (nI_add 1 ((b / 3) % 1000)) ?_
        obtain ⟨w, ew⟩ : ∃ q : Nat, 1 + ((b / 3) % 1000) = q := ⟨_, rfl⟩
        rw [ew]
        have hw : 1 ≤ w ∧ w ≤ 1000 := by omega
        refine z_istore (lv' := [(8, .int (nI w)), (7, .int (nI i)), (6, .int (nI T)), (5, .int (nI o)), (4, .int (nI j)), (0, .ref (zad g 0)), (1, .int (nI wh)), (2, .int (nI a)), (3, .int (nI b))]) 69 C dL_step_69 (by decide) rfl ?_
        refine z_iload 71 C dL_step_71 2 rfl ?_
        refine z_iload 73 C dL_step_73 0 rfl ?_
        refine z_iadd (v := nI (T + w)) 75 C dL_step_75 (nI_add T w) ?_
        refine z_ldc 76 C (v := nI 1000000) hw_k16 dL_step_76 ?_
        refine z_icmp_leN 78 C 94 dL_step_78 (by decide) (by omega) (by omega) (fun h78 => ?_) (fun h78 => ?_)
        · refine z_aload_n 94 C dL_step_94 rfl 5 rfl ?_
          refine z_iload 95 C dL_step_95 4 rfl ?_
          refine z_iload 97 C dL_step_97 1 rfl ?_
          refine z_callVi 99 C (As := [.int (nI j), .int (nI i)]) 2 kO_main rfl (c_X5_count l hg x S hA j (by omega) i (by omega)) (cwV 2 C.1.2.2.2.2 gL_step_X5_count rfl rfl rfl (by decide +kernel) ⟨Nat.le_of_ble_eq_true rfl, Nat.le_of_ble_eq_true rfl⟩) rfl rfl (Nat.le_of_ble_eq_true rfl) ⟨Nat.le_of_ble_eq_true rfl, Nat.le_of_ble_eq_true rfl⟩ dL_step_99 (fun r u hu => ?_)
          obtain ⟨hu1, hu2⟩ := hu
          subst u
          subst r
          refine z_istore (lv' := [(9, .int (S.1 j i)), (8, .int (nI w)), (7, .int (nI i)), (6, .int (nI T)), (5, .int (nI o)), (4, .int (nI j)), (0, .ref (zad g 0)), (1, .int (nI wh)), (2, .int (nI a)), (3, .int (nI b))]) 102 C dL_step_102 (by decide) rfl ?_
          refine z_aload_n 104 C dL_step_104 rfl 6 rfl ?_
          refine z_iload 105 C dL_step_105 5 rfl ?_
          refine z_iconst (v := nI 0) 107 C dL_step_107 rfl ?_
          refine z_iload 108 C dL_step_108 2 rfl ?_
          refine z_callVi 110 C (As := [.int (nI j), .int (nI 0), .int (nI i)]) 3 kO_main rfl (c_X5_estimate l hg x S hA j (by omega) 0 i (by omega) (by omega)) (cwV 3 C.1.2.2.2.2 gL_step_X5_estimate rfl rfl rfl (by decide +kernel) ⟨Nat.le_of_ble_eq_true rfl, Nat.le_of_ble_eq_true rfl⟩) rfl rfl (Nat.le_of_ble_eq_true rfl) ⟨Nat.le_of_ble_eq_true rfl, Nat.le_of_ble_eq_true rfl⟩ dL_step_110 (fun r u hu => ?_)
          obtain ⟨hu1, hu2⟩ := hu
          subst u
          subst r
          refine z_istore (lv' := [(10, .int (zest (S.1 j) (S.2.1 j) 0 i)), (9, .int (S.1 j i)), (8, .int (nI w)), (7, .int (nI i)), (6, .int (nI T)), (5, .int (nI o)), (4, .int (nI j)), (0, .ref (zad g 0)), (1, .int (nI wh)), (2, .int (nI a)), (3, .int (nI b))]) 113 C dL_step_113 (by decide) rfl ?_
          refine z_aload_n 115 C dL_step_115 rfl 7 rfl ?_
          refine z_iload 116 C dL_step_116 6 rfl ?_
          refine z_iconst (v := nI 2) 118 C dL_step_118 rfl ?_
          refine z_aload_n 119 C dL_step_119 rfl 7 rfl ?_
          refine z_iconst (v := nI 2) 120 C dL_step_120 rfl ?_
          refine z_iload 121 C dL_step_121 3 rfl ?_
          refine z_callVi 123 C (As := [.int (nI 2), .int (nI i)]) 2 kO_main rfl (c_X5_signedColumn l hg x S hA 2 i (by omega) (by omega)) (cwV 2 C.1.2.2.2.2 gL_step_X5_signedColumn rfl rfl rfl (by decide +kernel) ⟨Nat.le_of_ble_eq_true rfl, Nat.le_of_ble_eq_true rfl⟩) rfl rfl (Nat.le_of_ble_eq_true rfl) ⟨Nat.le_of_ble_eq_true rfl, Nat.le_of_ble_eq_true rfl⟩ dL_step_123 (fun r u hu => ?_)
          obtain ⟨hu1, hu2⟩ := hu
          subst u
          subst r
          refine z_callVi 126 C (As := [.int (nI j), .int (nI 2), .int (nI (zscol 2 i))]) 3 kO_main rfl (c_X5_signedCell l hg x S hA j (by omega) 2 (zscol 2 i) (by omega) (by omega)) (cwV 3 C.1.2.2.2.2 gL_step_X5_signedCell rfl rfl rfl (by decide +kernel) ⟨Nat.le_of_ble_eq_true rfl, Nat.le_of_ble_eq_true rfl⟩) rfl rfl (Nat.le_of_ble_eq_true rfl) ⟨Nat.le_of_ble_eq_true rfl, Nat.le_of_ble_eq_true rfl⟩ dL_step_126 (fun r u hu => ?_)
          obtain ⟨hu1, hu2⟩ := hu
          subst u
          subst r
          refine z_istore (lv' := [(11, .int (zscell (S.1 j) 2 (zscol 2 i))), (10, .int (zest (S.1 j) (S.2.1 j) 0 i)), (9, .int (S.1 j i)), (8, .int (nI w)), (7, .int (nI i)), (6, .int (nI T)), (5, .int (nI o)), (4, .int (nI j)), (0, .ref (zad g 0)), (1, .int (nI wh)), (2, .int (nI a)), (3, .int (nI b))]) 129 C dL_step_129 (by decide) rfl ?_
          refine z_aload_n 131 C dL_step_131 rfl 8 rfl ?_
          refine z_iload 132 C dL_step_132 7 rfl ?_
          refine z_iload 134 C dL_step_134 4 rfl ?_
          refine z_iload 136 C dL_step_136 3 rfl ?_
          refine z_callVi 138 C (As := [.int (nI j), .int (nI i), .int (nI w)]) 3 kO_main rfl (c_X5_add l hg x S hA j hj i hi w (by omega) (by omega) (by rw [eT, nI_add]; exact (nI_leI (by omega) (by omega)).mpr (by omega))) (cwV 3 C.1.2.2.2.2 gL_step_X5_add rfl rfl rfl (by decide +kernel) ⟨Nat.le_of_ble_eq_true rfl, Nat.le_of_ble_eq_true rfl⟩) rfl rfl (Nat.le_of_ble_eq_true rfl) ⟨Nat.le_of_ble_eq_true rfl, Nat.le_of_ble_eq_true rfl⟩ dL_step_138 (fun r y9 hu => ?_)
          obtain ⟨hO9, hN9, hu2⟩ := hu
          subst r
          obtain ⟨S9, eS9⟩ : ∃ q : zS, q = zSj S j (upd (S.1 j) i (S.1 j i + nI w)) (zdput (S.2.1 j) i (nI w)) (zadd (S.2.2.1 j) (nI i) (nI w)) (S.2.2.2 j + zaddw (S.2.2.1 j) (nI i) (nI w)) := ⟨_, rfl⟩
          have hA9 : zAll y9 S9 := by rw [eS9]; exact zAll_j hA hO9 hN9
          have hG9 : zGood S9 := by rw [eS9]; exact zGood_j hG (zgx_add hGj hi (by omega) (by omega) (by rw [eT, nI_add]; exact (nI_leI (by omega) (by omega)).mpr (by omega)))
          have e1 : S9.1 j = (upd (S.1 j) i (S.1 j i + nI w)) := by rw [eS9]; exact if_pos rfl
          have e2 : S9.2.1 j = (zdput (S.2.1 j) i (nI w)) := by rw [eS9]; exact if_pos rfl
          have e3 : S9.2.2.1 j = (zadd (S.2.2.1 j) (nI i) (nI w)) := by rw [eS9]; exact if_pos rfl
          have e4 : S9.2.2.2 j = (S.2.2.2 j + zaddw (S.2.2.1 j) (nI i) (nI w)) := by rw [eS9]; exact if_pos rfl
          refine z_iload 141 C dL_step_141 5 rfl ?_
          refine z_iload 143 C dL_step_143 3 rfl ?_
          refine z_iadd (v := nI (T + w)) 145 C dL_step_145 (nI_add T w) ?_
          refine z_icmp_ne 146 C 216 dL_step_146 (by decide) (fun h146 => absurd (by rw [ztot_upd hi, eT, nI_add]) h146) (fun h146 => ?_)
          refine z_aload_n 149 C dL_step_149 rfl 8 rfl ?_
          refine z_iload 150 C dL_step_150 7 rfl ?_
          refine z_iload 152 C dL_step_152 4 rfl ?_
          refine z_callVi 154 C (As := [.int (nI j), .int (nI i)]) 2 kO_main rfl (c_X5_count l hg y9 S9 hA9 j (by omega) i (by omega)) (cwV 2 C.1.2.2.2.2 gL_step_X5_count rfl rfl rfl (by decide +kernel) ⟨Nat.le_of_ble_eq_true rfl, Nat.le_of_ble_eq_true rfl⟩) rfl rfl (Nat.le_of_ble_eq_true rfl) ⟨Nat.le_of_ble_eq_true rfl, Nat.le_of_ble_eq_true rfl⟩ dL_step_154 (fun r u hu => ?_)
          obtain ⟨hu1, hu2⟩ := hu
          subst u
          subst r
          refine z_iload 157 C dL_step_157 2 rfl ?_
          refine z_iload 159 C dL_step_159 3 rfl ?_
          refine z_iadd (v := (S.1 j i) + (nI w)) 161 C dL_step_161 rfl ?_
          refine z_icmp_ne 162 C 216 dL_step_162 (by decide) (fun h162 => absurd (by rw [e1, pk_us]) h162) (fun h162 => ?_)
          refine z_aload_n 165 C dL_step_165 rfl 8 rfl ?_
          refine z_iload 166 C dL_step_166 7 rfl ?_
          refine z_iconst (v := nI 0) 168 C dL_step_168 rfl ?_
          refine z_iload 169 C dL_step_169 4 rfl ?_
          refine z_callVi 171 C (As := [.int (nI j), .int (nI 0), .int (nI i)]) 3 kO_main rfl (c_X5_estimate l hg y9 S9 hA9 j (by omega) 0 i (by omega) (by omega)) (cwV 3 C.1.2.2.2.2 gL_step_X5_estimate rfl rfl rfl (by decide +kernel) ⟨Nat.le_of_ble_eq_true rfl, Nat.le_of_ble_eq_true rfl⟩) rfl rfl (Nat.le_of_ble_eq_true rfl) ⟨Nat.le_of_ble_eq_true rfl, Nat.le_of_ble_eq_true rfl⟩ dL_step_171 (fun r u hu => ?_)
          obtain ⟨hu1, hu2⟩ := hu
          subst u
          subst r
          refine z_iload 174 C dL_step_174 1 rfl ?_
          refine z_iload 176 C dL_step_176 3 rfl ?_
          refine z_iadd (v := (zest (S.1 j) (S.2.1 j) 0 i) + (nI w)) 178 C dL_step_178 rfl ?_
          refine z_icmp_ne 179 C 216 dL_step_179 (by decide) (fun h179 => absurd (by rw [e1, e2]; exact zq_estadd hGj hw.2 _) h179) (fun h179 => ?_)
          refine z_aload_n 182 C dL_step_182 rfl 8 rfl ?_
          refine z_iload 183 C dL_step_183 7 rfl ?_
          refine z_iconst (v := nI 2) 185 C dL_step_185 rfl ?_
          refine z_aload_n 186 C dL_step_186 rfl 8 rfl ?_
          refine z_iconst (v := nI 2) 187 C dL_step_187 rfl ?_
          refine z_iload 188 C dL_step_188 4 rfl ?_
          refine z_callVi 190 C (As := [.int (nI 2), .int (nI i)]) 2 kO_main rfl (c_X5_signedColumn l hg y9 S9 hA9 2 i (by omega) (by omega)) (cwV 2 C.1.2.2.2.2 gL_step_X5_signedColumn rfl rfl rfl (by decide +kernel) ⟨Nat.le_of_ble_eq_true rfl, Nat.le_of_ble_eq_true rfl⟩) rfl rfl (Nat.le_of_ble_eq_true rfl) ⟨Nat.le_of_ble_eq_true rfl, Nat.le_of_ble_eq_true rfl⟩ dL_step_190 (fun r u hu => ?_)
          obtain ⟨hu1, hu2⟩ := hu
          subst u
          subst r
          refine z_callVi 193 C (As := [.int (nI j), .int (nI 2), .int (nI (zscol 2 i))]) 3 kO_main rfl (c_X5_signedCell l hg y9 S9 hA9 j (by omega) 2 (zscol 2 i) (by omega) (by omega)) (cwV 3 C.1.2.2.2.2 gL_step_X5_signedCell rfl rfl rfl (by decide +kernel) ⟨Nat.le_of_ble_eq_true rfl, Nat.le_of_ble_eq_true rfl⟩) rfl rfl (Nat.le_of_ble_eq_true rfl) ⟨Nat.le_of_ble_eq_true rfl, Nat.le_of_ble_eq_true rfl⟩ dL_step_193 (fun r u hu => ?_)
          obtain ⟨hu1, hu2⟩ := hu
          subst u
          subst r
          refine z_iload 196 C dL_step_196 0 rfl ?_
          refine z_aload_n 198 C dL_step_198 rfl 8 rfl ?_
          refine z_iconst (v := nI 2) 199 C dL_step_199 rfl ?_
          refine z_iload 200 C dL_step_200 4 rfl ?_
          refine z_callVi 202 C (As := [.int (nI 2), .int (nI i)]) 2 kO_main rfl (c_X5_sign l hg y9 S9 hA9 2 i (by omega) (by omega)) (cwV 2 C.1.2.2.2.2 gL_step_X5_sign rfl rfl rfl (by decide +kernel) ⟨Nat.le_of_ble_eq_true rfl, Nat.le_of_ble_eq_true rfl⟩) rfl rfl (Nat.le_of_ble_eq_true rfl) ⟨Nat.le_of_ble_eq_true rfl, Nat.le_of_ble_eq_true rfl⟩ dL_step_202 (fun r u hu => ?_)
          obtain ⟨hu1, hu2⟩ := hu
          subst u
          subst r
          refine z_iload 205 C dL_step_205 3 rfl ?_
          refine z_imul (v := (zsg 2 i) * (nI w)) 207 C dL_step_207 rfl ?_
          refine z_iadd (v := (zscell (S.1 j) 2 (zscol 2 i)) + ((zsg 2 i) * (nI w))) 208 C dL_step_208 rfl ?_
          refine z_icmp_ne 209 C 216 dL_step_209 (by decide) (fun h209 => absurd (by rw [e1]; exact zq_signed hi 2) h209) (fun h209 => ?_)
          refine z_iconst (v := nI 1) 212 C dL_step_212 rfl ?_
          refine z_goto 213 C 217 dL_step_213 (by decide) ?_
          exact z_zret 217 C hr rfl ⟨⟨S9, hA9, hG9⟩, rfl⟩ dL_step_217
        · refine z_iload 81 C dL_step_81 2 rfl ?_
          refine z_ldc 83 C (v := nI 1000000) hw_k16 dL_step_83 ?_
          refine z_icmp_gtN 85 C 92 dL_step_85 (by decide) (by omega) (by omega) (fun h85 => absurd h85 (by omega)) (fun h85 => ?_)
          refine z_iconst (v := nI 1) 88 C dL_step_88 rfl ?_
          refine z_goto 89 C 93 dL_step_89 (by decide) ?_
          exact z_zret 93 C hr rfl ⟨⟨S, hA, hG⟩, rfl⟩ dL_step_93
    · refine z_bipush (v := nI 64) 39 C dL_step_39 rfl ?_
      refine z_goto 41 C 46 dL_step_41 (by decide) ?_
      refine z_irem (v := nI ((a / 16) % 64)) 46 C dL_step_46 (by decide) (pk_rem (by omega) (by omega) (by omega)) ?_
      obtain ⟨i, ei⟩ : ∃ q : Nat, (a / 16) % 64 = q := ⟨_, rfl⟩
      rw [ei]
      have hi : i < 64 := by omega
      have hsc := zscol_lt 2 i
      refine z_istore (lv' := [(7, .int (nI i)), (6, .int (nI T)), (5, .int (nI o)), (4, .int (nI j)), (0, .ref (zad g 0)), (1, .int (nI wh)), (2, .int (nI a)), (3, .int (nI b))]) 47 C dL_step_47 (by decide) rfl ?_
      refine z_iconst (v := nI 1) 49 C dL_step_49 rfl ?_
      refine z_iload_n 50 C dL_step_50 rfl 7 rfl ?_
      refine z_iconst (v := nI 3) 51 C dL_step_51 rfl ?_
      refine z_idiv (v := nI (b / 3)) 52 C dL_step_52 (by decide) (pk_div (by omega) (by omega) (by omega)) ?_
      refine z_iload_n 53 C dL_step_53 rfl 7 rfl ?_
      refine z_iconst (v := nI 2) 54 C dL_step_54 rfl ?_
      refine z_irem (v := nI (b % 2)) 55 C dL_step_55 (by decide) (pk_rem (by omega) (by omega) (by omega)) ?_
      refine z_if_neN 56 C 65 dL_step_56 (by decide) (by omega) (fun h56 => ?_) (fun h56 => ?_)
      · refine z_bipush (v := nI 12) 65 C dL_step_65 rfl ?_
        refine z_irem (v := nI ((b / 3) % 12)) 67 C dL_step_67 (by decide) (pk_rem (by omega) (by omega) (by omega)) ?_
        refine z_iadd (v := nI (1 + ((b / 3) % 12))) 68 C dL_step_68 (nI_add 1 ((b / 3) % 12)) ?_
        obtain ⟨w, ew⟩ : ∃ q : Nat, 1 + ((b / 3) % 12) = q := ⟨_, rfl⟩
        rw [ew]
        have hw : 1 ≤ w ∧ w ≤ 1000 := by omega
        refine z_istore (lv' := [(8, .int (nI w)), (7, .int (nI i)), (6, .int (nI T)), (5, .int (nI o)), (4, .int (nI j)), (0, .ref (zad g 0)), (1, .int (nI wh)), (2, .int (nI a)), (3, .int (nI b))]) 69 C dL_step_69 (by decide) rfl ?_
        refine z_iload 71 C dL_step_71 2 rfl ?_
        refine z_iload 73 C dL_step_73 0 rfl ?_
        refine z_iadd (v := nI (T + w)) 75 C dL_step_75 (nI_add T w) ?_
        refine z_ldc 76 C (v := nI 1000000) hw_k16 dL_step_76 ?_
        refine z_icmp_leN 78 C 94 dL_step_78 (by decide) (by omega) (by omega) (fun h78 => ?_) (fun h78 => ?_)
        · refine z_aload_n 94 C dL_step_94 rfl 5 rfl ?_
          refine z_iload 95 C dL_step_95 4 rfl ?_
          refine z_iload 97 C dL_step_97 1 rfl ?_
          refine z_callVi 99 C (As := [.int (nI j), .int (nI i)]) 2 kO_main rfl (c_X5_count l hg x S hA j (by omega) i (by omega)) (cwV 2 C.1.2.2.2.2 gL_step_X5_count rfl rfl rfl (by decide +kernel) ⟨Nat.le_of_ble_eq_true rfl, Nat.le_of_ble_eq_true rfl⟩) rfl rfl (Nat.le_of_ble_eq_true rfl) ⟨Nat.le_of_ble_eq_true rfl, Nat.le_of_ble_eq_true rfl⟩ dL_step_99 (fun r u hu => ?_)
          obtain ⟨hu1, hu2⟩ := hu
          subst u
          subst r
          refine z_istore (lv' := [(9, .int (S.1 j i)), (8, .int (nI w)), (7, .int (nI i)), (6, .int (nI T)), (5, .int (nI o)), (4, .int (nI j)), (0, .ref (zad g 0)), (1, .int (nI wh)), (2, .int (nI a)), (3, .int (nI b))]) 102 C dL_step_102 (by decide) rfl ?_
          refine z_aload_n 104 C dL_step_104 rfl 6 rfl ?_
          refine z_iload 105 C dL_step_105 5 rfl ?_
          refine z_iconst (v := nI 0) 107 C dL_step_107 rfl ?_
          refine z_iload 108 C dL_step_108 2 rfl ?_
          refine z_callVi 110 C (As := [.int (nI j), .int (nI 0), .int (nI i)]) 3 kO_main rfl (c_X5_estimate l hg x S hA j (by omega) 0 i (by omega) (by omega)) (cwV 3 C.1.2.2.2.2 gL_step_X5_estimate rfl rfl rfl (by decide +kernel) ⟨Nat.le_of_ble_eq_true rfl, Nat.le_of_ble_eq_true rfl⟩) rfl rfl (Nat.le_of_ble_eq_true rfl) ⟨Nat.le_of_ble_eq_true rfl, Nat.le_of_ble_eq_true rfl⟩ dL_step_110 (fun r u hu => ?_)
          obtain ⟨hu1, hu2⟩ := hu
          subst u
          subst r
          refine z_istore (lv' := [(10, .int (zest (S.1 j) (S.2.1 j) 0 i)), (9, .int (S.1 j i)), (8, .int (nI w)), (7, .int (nI i)), (6, .int (nI T)), (5, .int (nI o)), (4, .int (nI j)), (0, .ref (zad g 0)), (1, .int (nI wh)), (2, .int (nI a)), (3, .int (nI b))]) 113 C dL_step_113 (by decide) rfl ?_
          refine z_aload_n 115 C dL_step_115 rfl 7 rfl ?_
          refine z_iload 116 C dL_step_116 6 rfl ?_
          refine z_iconst (v := nI 2) 118 C dL_step_118 rfl ?_
          refine z_aload_n 119 C dL_step_119 rfl 7 rfl ?_
          refine z_iconst (v := nI 2) 120 C dL_step_120 rfl ?_
          refine z_iload 121 C dL_step_121 3 rfl ?_
          refine z_callVi 123 C (As := [.int (nI 2), .int (nI i)]) 2 kO_main rfl (c_X5_signedColumn l hg x S hA 2 i (by omega) (by omega)) (cwV 2 C.1.2.2.2.2 gL_step_X5_signedColumn rfl rfl rfl (by decide +kernel) ⟨Nat.le_of_ble_eq_true rfl, Nat.le_of_ble_eq_true rfl⟩) rfl rfl (Nat.le_of_ble_eq_true rfl) ⟨Nat.le_of_ble_eq_true rfl, Nat.le_of_ble_eq_true rfl⟩ dL_step_123 (fun r u hu => ?_)
          obtain ⟨hu1, hu2⟩ := hu
          subst u
          subst r
          refine z_callVi 126 C (As := [.int (nI j), .int (nI 2), .int (nI (zscol 2 i))]) 3 kO_main rfl (c_X5_signedCell l hg x S hA j (by omega) 2 (zscol 2 i) (by omega) (by omega)) (cwV 3 C.1.2.2.2.2 gL_step_X5_signedCell rfl rfl rfl (by decide +kernel) ⟨Nat.le_of_ble_eq_true rfl, Nat.le_of_ble_eq_true rfl⟩) rfl rfl (Nat.le_of_ble_eq_true rfl) ⟨Nat.le_of_ble_eq_true rfl, Nat.le_of_ble_eq_true rfl⟩ dL_step_126 (fun r u hu => ?_)
          obtain ⟨hu1, hu2⟩ := hu
          subst u
          subst r
          refine z_istore (lv' := [(11, .int (zscell (S.1 j) 2 (zscol 2 i))), (10, .int (zest (S.1 j) (S.2.1 j) 0 i)), (9, .int (S.1 j i)), (8, .int (nI w)), (7, .int (nI i)), (6, .int (nI T)), (5, .int (nI o)), (4, .int (nI j)), (0, .ref (zad g 0)), (1, .int (nI wh)), (2, .int (nI a)), (3, .int (nI b))]) 129 C dL_step_129 (by decide) rfl ?_
          refine z_aload_n 131 C dL_step_131 rfl 8 rfl ?_
          refine z_iload 132 C dL_step_132 7 rfl ?_
          refine z_iload 134 C dL_step_134 4 rfl ?_
          refine z_iload 136 C dL_step_136 3 rfl ?_
          refine z_callVi 138 C (As := [.int (nI j), .int (nI i), .int (nI w)]) 3 kO_main rfl (c_X5_add l hg x S hA j hj i hi w (by omega) (by omega) (by rw [eT, nI_add]; exact (nI_leI (by omega) (by omega)).mpr (by omega))) (cwV 3 C.1.2.2.2.2 gL_step_X5_add rfl rfl rfl (by decide +kernel) ⟨Nat.le_of_ble_eq_true rfl, Nat.le_of_ble_eq_true rfl⟩) rfl rfl (Nat.le_of_ble_eq_true rfl) ⟨Nat.le_of_ble_eq_true rfl, Nat.le_of_ble_eq_true rfl⟩ dL_step_138 (fun r y9 hu => ?_)
          obtain ⟨hO9, hN9, hu2⟩ := hu
          subst r
          obtain ⟨S9, eS9⟩ : ∃ q : zS, q = zSj S j (upd (S.1 j) i (S.1 j i + nI w)) (zdput (S.2.1 j) i (nI w)) (zadd (S.2.2.1 j) (nI i) (nI w)) (S.2.2.2 j + zaddw (S.2.2.1 j) (nI i) (nI w)) := ⟨_, rfl⟩
          have hA9 : zAll y9 S9 := by rw [eS9]; exact zAll_j hA hO9 hN9
          have hG9 : zGood S9 := by rw [eS9]; exact zGood_j hG (zgx_add hGj hi (by omega) (by omega) (by rw [eT, nI_add]; exact (nI_leI (by omega) (by omega)).mpr (by omega)))
          have e1 : S9.1 j = (upd (S.1 j) i (S.1 j i + nI w)) := by rw [eS9]; exact if_pos rfl
          have e2 : S9.2.1 j = (zdput (S.2.1 j) i (nI w)) := by rw [eS9]; exact if_pos rfl
          have e3 : S9.2.2.1 j = (zadd (S.2.2.1 j) (nI i) (nI w)) := by rw [eS9]; exact if_pos rfl
          have e4 : S9.2.2.2 j = (S.2.2.2 j + zaddw (S.2.2.1 j) (nI i) (nI w)) := by rw [eS9]; exact if_pos rfl
          refine z_iload 141 C dL_step_141 5 rfl ?_
          refine z_iload 143 C dL_step_143 3 rfl ?_
          refine z_iadd (v := nI (T + w)) 145 C dL_step_145 (nI_add T w) ?_
          refine z_icmp_ne 146 C 216 dL_step_146 (by decide) (fun h146 => absurd (by rw [ztot_upd hi, eT, nI_add]) h146) (fun h146 => ?_)
          refine z_aload_n 149 C dL_step_149 rfl 8 rfl ?_
          refine z_iload 150 C dL_step_150 7 rfl ?_
          refine z_iload 152 C dL_step_152 4 rfl ?_
          refine z_callVi 154 C (As := [.int (nI j), .int (nI i)]) 2 kO_main rfl (c_X5_count l hg y9 S9 hA9 j (by omega) i (by omega)) (cwV 2 C.1.2.2.2.2 gL_step_X5_count rfl rfl rfl (by decide +kernel) ⟨Nat.le_of_ble_eq_true rfl, Nat.le_of_ble_eq_true rfl⟩) rfl rfl (Nat.le_of_ble_eq_true rfl) ⟨Nat.le_of_ble_eq_true rfl, Nat.le_of_ble_eq_true rfl⟩ dL_step_154 (fun r u hu => ?_)
          obtain ⟨hu1, hu2⟩ := hu
          subst u
          subst r
          refine z_iload 157 C dL_step_157 2 rfl ?_
          refine z_iload 159 C dL_step_159 3 rfl ?_
          refine z_iadd (v := (S.1 j i) + (nI w)) 161 C dL_step_161 rfl ?_
          refine z_icmp_ne 162 C 216 dL_step_162 (by decide) (fun h162 => absurd (by rw [e1, pk_us]) h162) (fun h162 => ?_)
          refine z_aload_n 165 C dL_step_165 rfl 8 rfl ?_
          refine z_iload 166 C dL_step_166 7 rfl ?_
          refine z_iconst (v := nI 0) 168 C dL_step_168 rfl ?_
          refine z_iload 169 C dL_step_169 4 rfl ?_
          refine z_callVi 171 C (As := [.int (nI j), .int (nI 0), .int (nI i)]) 3 kO_main rfl (c_X5_estimate l hg y9 S9 hA9 j (by omega) 0 i (by omega) (by omega)) (cwV 3 C.1.2.2.2.2 gL_step_X5_estimate rfl rfl rfl (by decide +kernel) ⟨Nat.le_of_ble_eq_true rfl, Nat.le_of_ble_eq_true rfl⟩) rfl rfl (Nat.le_of_ble_eq_true rfl) ⟨Nat.le_of_ble_eq_true rfl, Nat.le_of_ble_eq_true rfl⟩ dL_step_171 (fun r u hu => ?_)
          obtain ⟨hu1, hu2⟩ := hu
          subst u
          subst r
          refine z_iload 174 C dL_step_174 1 rfl ?_
          refine z_iload 176 C dL_step_176 3 rfl ?_
          refine z_iadd (v := (zest (S.1 j) (S.2.1 j) 0 i) + (nI w)) 178 C dL_step_178 rfl ?_
          refine z_icmp_ne 179 C 216 dL_step_179 (by decide) (fun h179 => absurd (by rw [e1, e2]; exact zq_estadd hGj hw.2 _) h179) (fun h179 => ?_)
          refine z_aload_n 182 C dL_step_182 rfl 8 rfl ?_
          refine z_iload 183 C dL_step_183 7 rfl ?_
          refine z_iconst (v := nI 2) 185 C dL_step_185 rfl ?_
          refine z_aload_n 186 C dL_step_186 rfl 8 rfl ?_
          refine z_iconst (v := nI 2) 187 C dL_step_187 rfl ?_
          refine z_iload 188 C dL_step_188 4 rfl ?_
          refine z_callVi 190 C (As := [.int (nI 2), .int (nI i)]) 2 kO_main rfl (c_X5_signedColumn l hg y9 S9 hA9 2 i (by omega) (by omega)) (cwV 2 C.1.2.2.2.2 gL_step_X5_signedColumn rfl rfl rfl (by decide +kernel) ⟨Nat.le_of_ble_eq_true rfl, Nat.le_of_ble_eq_true rfl⟩) rfl rfl (Nat.le_of_ble_eq_true rfl) ⟨Nat.le_of_ble_eq_true rfl, Nat.le_of_ble_eq_true rfl⟩ dL_step_190 (fun r u hu => ?_)
          obtain ⟨hu1, hu2⟩ := hu
          subst u
          subst r
          refine z_callVi 193 C (As := [.int (nI j), .int (nI 2), .int (nI (zscol 2 i))]) 3 kO_main rfl (c_X5_signedCell l hg y9 S9 hA9 j (by omega) 2 (zscol 2 i) (by omega) (by omega)) (cwV 3 C.1.2.2.2.2 gL_step_X5_signedCell rfl rfl rfl (by decide +kernel) ⟨Nat.le_of_ble_eq_true rfl, Nat.le_of_ble_eq_true rfl⟩) rfl rfl (Nat.le_of_ble_eq_true rfl) ⟨Nat.le_of_ble_eq_true rfl, Nat.le_of_ble_eq_true rfl⟩ dL_step_193 (fun r u hu => ?_)
          obtain ⟨hu1, hu2⟩ := hu
          subst u
          subst r
          refine z_iload 196 C dL_step_196 0 rfl ?_
          refine z_aload_n 198 C dL_step_198 rfl 8 rfl ?_
          refine z_iconst (v := nI 2) 199 C dL_step_199 rfl ?_
          refine z_iload 200 C dL_step_200 4 rfl ?_
          refine z_callVi 202 C (As := [.int (nI 2), .int (nI i)]) 2 kO_main rfl (c_X5_sign l hg y9 S9 hA9 2 i (by omega) (by omega)) (cwV 2 C.1.2.2.2.2 gL_step_X5_sign rfl rfl rfl (by decide +kernel) ⟨Nat.le_of_ble_eq_true rfl, Nat.le_of_ble_eq_true rfl⟩) rfl rfl (Nat.le_of_ble_eq_true rfl) ⟨Nat.le_of_ble_eq_true rfl, Nat.le_of_ble_eq_true rfl⟩ dL_step_202 (fun r u hu => ?_)
          obtain ⟨hu1, hu2⟩ := hu
          subst u
          subst r
          refine z_iload 205 C dL_step_205 3 rfl ?_
          refine z_imul (v := (zsg 2 i) * (nI w)) 207 C dL_step_207 rfl ?_
          refine z_iadd (v := (zscell (S.1 j) 2 (zscol 2 i)) + ((zsg 2 i) * (nI w))) 208 C dL_step_208 rfl ?_
          refine z_icmp_ne 209 C 216 dL_step_209 (by decide) (fun h209 => absurd (by rw [e1]; exact zq_signed hi 2) h209) (fun h209 => ?_)
          refine z_iconst (v := nI 1) 212 C dL_step_212 rfl ?_
          refine z_goto 213 C 217 dL_step_213 (by decide) ?_
          exact z_zret 217 C hr rfl ⟨⟨S9, hA9, hG9⟩, rfl⟩ dL_step_217
        · refine z_iload 81 C dL_step_81 2 rfl ?_
          refine z_ldc 83 C (v := nI 1000000) hw_k16 dL_step_83 ?_
          refine z_icmp_gtN 85 C 92 dL_step_85 (by decide) (by omega) (by omega) (fun h85 => absurd h85 (by omega)) (fun h85 => ?_)
          refine z_iconst (v := nI 1) 88 C dL_step_88 rfl ?_
          refine z_goto 89 C 93 dL_step_89 (by decide) ?_
          exact z_zret 93 C hr rfl ⟨⟨S, hA, hG⟩, rfl⟩ dL_step_93
      · refine z_sipush (v := nI 1000) 59 C dL_step_59 rfl ?_
        refine z_goto 62 C 67 dL_step_62 (by decide) ?_
        refine z_irem (v := nI ((b / 3) % 1000)) 67 C dL_step_67 (by decide) (pk_rem (by omega) (by omega) (by omega)) ?_
        refine z_iadd (v := nI (1 + ((b / 3) % 1000))) 68 C dL_step_68 (nI_add 1 ((b / 3) % 1000)) ?_
        obtain ⟨w, ew⟩ : ∃ q : Nat, 1 + ((b / 3) % 1000) = q := ⟨_, rfl⟩
        rw [ew]
        have hw : 1 ≤ w ∧ w ≤ 1000 := by omega
        refine z_istore (lv' := [(8, .int (nI w)), (7, .int (nI i)), (6, .int (nI T)), (5, .int (nI o)), (4, .int (nI j)), (0, .ref (zad g 0)), (1, .int (nI wh)), (2, .int (nI a)), (3, .int (nI b))]) 69 C dL_step_69 (by decide) rfl ?_
        refine z_iload 71 C dL_step_71 2 rfl ?_
        refine z_iload 73 C dL_step_73 0 rfl ?_
        refine z_iadd (v := nI (T + w)) 75 C dL_step_75 (nI_add T w) ?_
        refine z_ldc 76 C (v := nI 1000000) hw_k16 dL_step_76 ?_
        refine z_icmp_leN 78 C 94 dL_step_78 (by decide) (by omega) (by omega) (fun h78 => ?_) (fun h78 => ?_)
        · refine z_aload_n 94 C dL_step_94 rfl 5 rfl ?_
          refine z_iload 95 C dL_step_95 4 rfl ?_
          refine z_iload 97 C dL_step_97 1 rfl ?_
          refine z_callVi 99 C (As := [.int (nI j), .int (nI i)]) 2 kO_main rfl (c_X5_count l hg x S hA j (by omega) i (by omega)) (cwV 2 C.1.2.2.2.2 gL_step_X5_count rfl rfl rfl (by decide +kernel) ⟨Nat.le_of_ble_eq_true rfl, Nat.le_of_ble_eq_true rfl⟩) rfl rfl (Nat.le_of_ble_eq_true rfl) ⟨Nat.le_of_ble_eq_true rfl, Nat.le_of_ble_eq_true rfl⟩ dL_step_99 (fun r u hu => ?_)
          obtain ⟨hu1, hu2⟩ := hu
          subst u
          subst r
          refine z_istore (lv' := [(9, .int (S.1 j i)), (8, .int (nI w)), (7, .int (nI i)), (6, .int (nI T)), (5, .int (nI o)), (4, .int (nI j)), (0, .ref (zad g 0)), (1, .int (nI wh)), (2, .int (nI a)), (3, .int (nI b))]) 102 C dL_step_102 (by decide) rfl ?_
          refine z_aload_n 104 C dL_step_104 rfl 6 rfl ?_
          refine z_iload 105 C dL_step_105 5 rfl ?_
          refine z_iconst (v := nI 0) 107 C dL_step_107 rfl ?_
          refine z_iload 108 C dL_step_108 2 rfl ?_
          refine z_callVi 110 C (As := [.int (nI j), .int (nI 0), .int (nI i)]) 3 kO_main rfl (c_X5_estimate l hg x S hA j (by omega) 0 i (by omega) (by omega)) (cwV 3 C.1.2.2.2.2 gL_step_X5_estimate rfl rfl rfl (by decide +kernel) ⟨Nat.le_of_ble_eq_true rfl, Nat.le_of_ble_eq_true rfl⟩) rfl rfl (Nat.le_of_ble_eq_true rfl) ⟨Nat.le_of_ble_eq_true rfl, Nat.le_of_ble_eq_true rfl⟩ dL_step_110 (fun r u hu => ?_)
          obtain ⟨hu1, hu2⟩ := hu
          subst u
          subst r
          refine z_istore (lv' := [(10, .int (zest (S.1 j) (S.2.1 j) 0 i)), (9, .int (S.1 j i)), (8, .int (nI w)), (7, .int (nI i)), (6, .int (nI T)), (5, .int (nI o)), (4, .int (nI j)), (0, .ref (zad g 0)), (1, .int (nI wh)), (2, .int (nI a)), (3, .int (nI b))]) 113 C dL_step_113 (by decide) rfl ?_
          refine z_aload_n 115 C dL_step_115 rfl 7 rfl ?_
          refine z_iload 116 C dL_step_116 6 rfl ?_
          refine z_iconst (v := nI 2) 118 C dL_step_118 rfl ?_
          refine z_aload_n 119 C dL_step_119 rfl 7 rfl ?_
          refine z_iconst (v := nI 2) 120 C dL_step_120 rfl ?_
          refine z_iload 121 C dL_step_121 3 rfl ?_
          refine z_callVi 123 C (As := [.int (nI 2), .int (nI i)]) 2 kO_main rfl (c_X5_signedColumn l hg x S hA 2 i (by omega) (by omega)) (cwV 2 C.1.2.2.2.2 gL_step_X5_signedColumn rfl rfl rfl (by decide +kernel) ⟨Nat.le_of_ble_eq_true rfl, Nat.le_of_ble_eq_true rfl⟩) rfl rfl (Nat.le_of_ble_eq_true rfl) ⟨Nat.le_of_ble_eq_true rfl, Nat.le_of_ble_eq_true rfl⟩ dL_step_123 (fun r u hu => ?_)
          obtain ⟨hu1, hu2⟩ := hu
          subst u
          subst r
          refine z_callVi 126 C (As := [.int (nI j), .int (nI 2), .int (nI (zscol 2 i))]) 3 kO_main rfl (c_X5_signedCell l hg x S hA j (by omega) 2 (zscol 2 i) (by omega) (by omega)) (cwV 3 C.1.2.2.2.2 gL_step_X5_signedCell rfl rfl rfl (by decide +kernel) ⟨Nat.le_of_ble_eq_true rfl, Nat.le_of_ble_eq_true rfl⟩) rfl rfl (Nat.le_of_ble_eq_true rfl) ⟨Nat.le_of_ble_eq_true rfl, Nat.le_of_ble_eq_true rfl⟩ dL_step_126 (fun r u hu => ?_)
          obtain ⟨hu1, hu2⟩ := hu
          subst u
          subst r
          refine z_istore (lv' := [(11, .int (zscell (S.1 j) 2 (zscol 2 i))), (10, .int (zest (S.1 j) (S.2.1 j) 0 i)), (9, .int (S.1 j i)), (8, .int (nI w)), (7, .int (nI i)), (6, .int (nI T)), (5, .int (nI o)), (4, .int (nI j)), (0, .ref (zad g 0)), (1, .int (nI wh)), (2, .int (nI a)), (3, .int (nI b))]) 129 C dL_step_129 (by decide) rfl ?_
          refine z_aload_n 131 C dL_step_131 rfl 8 rfl ?_
          refine z_iload 132 C dL_step_132 7 rfl ?_
          refine z_iload 134 C dL_step_134 4 rfl ?_
          refine z_iload 136 C dL_step_136 3 rfl ?_
          refine z_callVi 138 C (As := [.int (nI j), .int (nI i), .int (nI w)]) 3 kO_main rfl (c_X5_add l hg x S hA j hj i hi w (by omega) (by omega) (by rw [eT, nI_add]; exact (nI_leI (by omega) (by omega)).mpr (by omega))) (cwV 3 C.1.2.2.2.2 gL_step_X5_add rfl rfl rfl (by decide +kernel) ⟨Nat.le_of_ble_eq_true rfl, Nat.le_of_ble_eq_true rfl⟩) rfl rfl (Nat.le_of_ble_eq_true rfl) ⟨Nat.le_of_ble_eq_true rfl, Nat.le_of_ble_eq_true rfl⟩ dL_step_138 (fun r y9 hu => ?_)
          obtain ⟨hO9, hN9, hu2⟩ := hu
          subst r
          obtain ⟨S9, eS9⟩ : ∃ q : zS, q = zSj S j (upd (S.1 j) i (S.1 j i + nI w)) (zdput (S.2.1 j) i (nI w)) (zadd (S.2.2.1 j) (nI i) (nI w)) (S.2.2.2 j + zaddw (S.2.2.1 j) (nI i) (nI w)) := ⟨_, rfl⟩
          have hA9 : zAll y9 S9 := by rw [eS9]; exact zAll_j hA hO9 hN9
          have hG9 : zGood S9 := by rw [eS9]; exact zGood_j hG (zgx_add hGj hi (by omega) (by omega) (by rw [eT, nI_add]; exact (nI_leI (by omega) (by omega)).mpr (by omega)))
          have e1 : S9.1 j = (upd (S.1 j) i (S.1 j i + nI w)) := by rw [eS9]; exact if_pos rfl
          have e2 : S9.2.1 j = (zdput (S.2.1 j) i (nI w)) := by rw [eS9]; exact if_pos rfl
          have e3 : S9.2.2.1 j = (zadd (S.2.2.1 j) (nI i) (nI w)) := by rw [eS9]; exact if_pos rfl
          have e4 : S9.2.2.2 j = (S.2.2.2 j + zaddw (S.2.2.1 j) (nI i) (nI w)) := by rw [eS9]; exact if_pos rfl
          refine z_iload 141 C dL_step_141 5 rfl ?_
          refine z_iload 143 C dL_step_143 3 rfl ?_
          refine z_iadd (v := nI (T + w)) 145 C dL_step_145 (nI_add T w) ?_
          refine z_icmp_ne 146 C 216 dL_step_146 (by decide) (fun h146 => absurd (by rw [ztot_upd hi, eT, nI_add]) h146) (fun h146 => ?_)
          refine z_aload_n 149 C dL_step_149 rfl 8 rfl ?_
          refine z_iload 150 C dL_step_150 7 rfl ?_
          refine z_iload 152 C dL_step_152 4 rfl ?_
          refine z_callVi 154 C (As := [.int (nI j), .int (nI i)]) 2 kO_main rfl (c_X5_count l hg y9 S9 hA9 j (by omega) i (by omega)) (cwV 2 C.1.2.2.2.2 gL_step_X5_count rfl rfl rfl (by decide +kernel) ⟨Nat.le_of_ble_eq_true rfl, Nat.le_of_ble_eq_true rfl⟩) rfl rfl (Nat.le_of_ble_eq_true rfl) ⟨Nat.le_of_ble_eq_true rfl, Nat.le_of_ble_eq_true rfl⟩ dL_step_154 (fun r u hu => ?_)
          obtain ⟨hu1, hu2⟩ := hu
          subst u
          subst r
          refine z_iload 157 C dL_step_157 2 rfl ?_
          refine z_iload 159 C dL_step_159 3 rfl ?_
          refine z_iadd (v := (S.1 j i) + (nI w)) 161 C dL_step_161 rfl ?_
          refine z_icmp_ne 162 C 216 dL_step_162 (by decide) (fun h162 => absurd (by rw [e1, pk_us]) h162) (fun h162 => ?_)
          refine z_aload_n 165 C dL_step_165 rfl 8 rfl ?_
          refine z_iload 166 C dL_step_166 7 rfl ?_
          refine z_iconst (v := nI 0) 168 C dL_step_168 rfl ?_
          refine z_iload 169 C dL_step_169 4 rfl ?_
          refine z_callVi 171 C (As := [.int (nI j), .int (nI 0), .int (nI i)]) 3 kO_main rfl (c_X5_estimate l hg y9 S9 hA9 j (by omega) 0 i (by omega) (by omega)) (cwV 3 C.1.2.2.2.2 gL_step_X5_estimate rfl rfl rfl (by decide +kernel) ⟨Nat.le_of_ble_eq_true rfl, Nat.le_of_ble_eq_true rfl⟩) rfl rfl (Nat.le_of_ble_eq_true rfl) ⟨Nat.le_of_ble_eq_true rfl, Nat.le_of_ble_eq_true rfl⟩ dL_step_171 (fun r u hu => ?_)
          obtain ⟨hu1, hu2⟩ := hu
          subst u
          subst r
          refine z_iload 174 C dL_step_174 1 rfl ?_
          refine z_iload 176 C dL_step_176 3 rfl ?_
          refine z_iadd (v := (zest (S.1 j) (S.2.1 j) 0 i) + (nI w)) 178 C dL_step_178 rfl ?_
          refine z_icmp_ne 179 C 216 dL_step_179 (by decide) (fun h179 => absurd (by rw [e1, e2]; exact zq_estadd hGj hw.2 _) h179) (fun h179 => ?_)
          refine z_aload_n 182 C dL_step_182 rfl 8 rfl ?_
          refine z_iload 183 C dL_step_183 7 rfl ?_
          refine z_iconst (v := nI 2) 185 C dL_step_185 rfl ?_
          refine z_aload_n 186 C dL_step_186 rfl 8 rfl ?_
          refine z_iconst (v := nI 2) 187 C dL_step_187 rfl ?_
          refine z_iload 188 C dL_step_188 4 rfl ?_
          refine z_callVi 190 C (As := [.int (nI 2), .int (nI i)]) 2 kO_main rfl (c_X5_signedColumn l hg y9 S9 hA9 2 i (by omega) (by omega)) (cwV 2 C.1.2.2.2.2 gL_step_X5_signedColumn rfl rfl rfl (by decide +kernel) ⟨Nat.le_of_ble_eq_true rfl, Nat.le_of_ble_eq_true rfl⟩) rfl rfl (Nat.le_of_ble_eq_true rfl) ⟨Nat.le_of_ble_eq_true rfl, Nat.le_of_ble_eq_true rfl⟩ dL_step_190 (fun r u hu => ?_)
          obtain ⟨hu1, hu2⟩ := hu
          subst u
          subst r
          refine z_callVi 193 C (As := [.int (nI j), .int (nI 2), .int (nI (zscol 2 i))]) 3 kO_main rfl (c_X5_signedCell l hg y9 S9 hA9 j (by omega) 2 (zscol 2 i) (by omega) (by omega)) (cwV 3 C.1.2.2.2.2 gL_step_X5_signedCell rfl rfl rfl (by decide +kernel) ⟨Nat.le_of_ble_eq_true rfl, Nat.le_of_ble_eq_true rfl⟩) rfl rfl (Nat.le_of_ble_eq_true rfl) ⟨Nat.le_of_ble_eq_true rfl, Nat.le_of_ble_eq_true rfl⟩ dL_step_193 (fun r u hu => ?_)
          obtain ⟨hu1, hu2⟩ := hu
          subst u
          subst r
          refine z_iload 196 C dL_step_196 0 rfl ?_
          refine z_aload_n 198 C dL_step_198 rfl 8 rfl ?_
          refine z_iconst (v := nI 2) 199 C dL_step_199 rfl ?_
          refine z_iload 200 C dL_step_200 4 rfl ?_
          refine z_callVi 202 C (As := [.int (nI 2), .int (nI i)]) 2 kO_main rfl (c_X5_sign l hg y9 S9 hA9 2 i (by omega) (by omega)) (cwV 2 C.1.2.2.2.2 gL_step_X5_sign rfl rfl rfl (by decide +kernel) ⟨Nat.le_of_ble_eq_true rfl, Nat.le_of_ble_eq_true rfl⟩) rfl rfl (Nat.le_of_ble_eq_true rfl) ⟨Nat.le_of_ble_eq_true rfl, Nat.le_of_ble_eq_true rfl⟩ dL_step_202 (fun r u hu => ?_)
          obtain ⟨hu1, hu2⟩ := hu
          subst u
          subst r
          refine z_iload 205 C dL_step_205 3 rfl ?_
          refine z_imul (v := (zsg 2 i) * (nI w)) 207 C dL_step_207 rfl ?_
          refine z_iadd (v := (zscell (S.1 j) 2 (zscol 2 i)) + ((zsg 2 i) * (nI w))) 208 C dL_step_208 rfl ?_
          refine z_icmp_ne 209 C 216 dL_step_209 (by decide) (fun h209 => absurd (by rw [e1]; exact zq_signed hi 2) h209) (fun h209 => ?_)
          refine z_iconst (v := nI 1) 212 C dL_step_212 rfl ?_
          refine z_goto 213 C 217 dL_step_213 (by decide) ?_
          exact z_zret 217 C hr rfl ⟨⟨S9, hA9, hG9⟩, rfl⟩ dL_step_217
        · refine z_iload 81 C dL_step_81 2 rfl ?_
          refine z_ldc 83 C (v := nI 1000000) hw_k16 dL_step_83 ?_
          refine z_icmp_gtN 85 C 92 dL_step_85 (by decide) (by omega) (by omega) (fun h85 => absurd h85 (by omega)) (fun h85 => ?_)
          refine z_iconst (v := nI 1) 88 C dL_step_88 rfl ?_
          refine z_goto 89 C 93 dL_step_89 (by decide) ?_
          exact z_zret 93 C hr rfl ⟨⟨S, hA, hG⟩, rfl⟩ dL_step_93
