/-! THE CLAIM OUT OF ONE WALK OF THE LAW'S BODY. Your part is whole_start (and what it stands on); all else here is the same for every law, but numbers. -/
def R_law : String := "CountcoteLaw"
def lw_P (b : Addr) (xs : List Int32) (args : Array Value) (s : State) : Prop := args = #[.ref b] ∧ s.IntsAt b xs ∧ xs.length ≤ 260 ∧ (Jvm.Cond.and given_1 narrow_1).before args s = true
/-- what a walk over the start with the record d0 says of its end, said of the start itself -/
theorem lw_closed {s t : State} {o : Outcome} {d0 : Drawn} {L : List Loc} {k n : Nat} (hd0 : s.drawn.sameBut d0 lw_cs) (hv : ∃ v, o = .returned v) (hW : (s.setDrawn d0).WarmedH t.vm) (hs : (s.setDrawn d0).sameButNew ({ t with vm := s.vm } : State) L k n) : State.butDraws s t lw_cs (fun t1 => Framed s o t1 L k n) := by
  have h2 : t.drawn = d0 := congrArg State.drawn hs.1
  refine ⟨⟨hv, hW, State.sameButNew.setDrawn hs s.drawn⟩, ?_, by decide⟩
  rw [h2]
  exact hd0
def lw_Q (_ : Array Value) (s : State) (o : Outcome) (t : State) : Prop := o = .returned (some (.int 1)) ∧ State.butDraws s t lw_cs (fun t1 => Framed s o t1 [] 600104 7301314)
def lw_Z (below : List Frame) (a : Array Value) (s : State) : State → Prop := fun t => ∃ o, t.status = .running ∧ Ended t below o ∧ lw_Q a s o t
/-- the law's own end, with 1 on the stack, nothing written that was there before, its room as the claim has it; d0: the record of draws at this point (at the entry s.drawn: begin with 'refine W.base ?_' and 'have hd0 := Drawn.sameBut.refl s.drawn lw_cs') -/
theorem lw_ret {p : Program} {l : Launch} {e : Env} {s : State} {m : MethodId} {below : List Frame} {meth : Method} {c : Code} {b : Nat} {d0 : Drawn} (hd0 : s.drawn.sameBut d0 lw_cs) (hx : p.tables.exec = Jvm.exec) (hb : c.code = code) (hr : meth.sig.returnType = ret) (hlocks : meth.locks = false) {pc : Nat} {H : Heap} {ls : Array Slot} (hdg : decode code pc = .ok (.ireturn, 1)) : W p l e room_1 (s.setDrawn d0) m #[Value.ref b] below meth c H [] 600104 7301314 (lw_Z below #[Value.ref b] s) (F0 m pc ls [.int 1]) := by
  intro T hT X
  obtain ⟨fs, hret, hrun, hended, hW, hframe⟩ := X.leave (v := some (.int 1)) (hlocks := hlocks) (fun h => by rw [hr] at h; cases h)
  have hmeth' : T.vm.method? m = some meth := X.method'
  refine ⟨T.setFrames fs, ?_, .returned (some (.int 1)), hrun, hended, rfl, lw_closed hd0 ⟨_, rfl⟩ hW hframe⟩
  jvm_step X.here [X.here.top, hx, hb, hdg, hmeth', hr, ret, narrow_b1]
  (try refine ⟨rfl, ?_⟩); (try refine ⟨rfl, ?_⟩)
  first | (intro acts; rw [hret _ acts rfl rfl rfl]) | rw [hret _ _ rfl rfl rfl]
  exact Steps.refl _
/-- what holds at the law's entry: the machine, the code, the tables' words (any of lw_tbl by 'hts w (by decide +kernel)'), the script of L ints xs at the cell b, what the Statement gives of the start (any of its parts by flat_of_before) -/
def lw_At (p : Program) (s : State) (m : MethodId) (meth : Method) (c : Code) (b L : Nat) (xs : Nat → Int32) : Prop :=
  p.tables.exec = Jvm.exec ∧ c.code = code ∧ meth.sig.returnType = ret ∧ c.maxLocals = 8 ∧ s.vm.findClass R_law = some m.cls ∧ (∀ w ∈ lw_tbl, w.before #[Value.ref b] s = true) ∧ va_X b L xs s s.heap ∧ b < s.heap.size ∧ meth.locks = false ∧ (Jvm.Cond.and given_1 narrow_1).before #[Value.ref b] s = true
theorem zfrn_00 : ∀ n, zfrn (fun _ => 0) (fun _ => 0) (nI 1) n = 0
  | 0 => rfl
  | n + 1 => by
    have h : ¬ zfreq (fun _ => 0) (fun _ => 0) n (nI 1) := fun z => by
      have h1 := z 6 (by omega)
      have h2 : zest (fun _ => 0) (fun _ => 0) 6 (n / 2 ^ 6) = 0 := (if_neg (by omega)).trans (zsum_0 _ _)
      rw [h2] at h1
      exact absurd h1 (by decide)
    rw [zfrn_s_n h]
    exact zfrn_00 n
theorem lgc_nn {a : Int64} (h : ¬ a < 0) : ¬ lg_cmp a 0 < 0 := by
  unfold lg_cmp
  by_cases g : a > 0
  · rw [if_pos g]; decide
  · rw [if_neg g]
    have e : a = 0 := Int64.le_antisymm (Int64.not_lt.mp g) (Int64.not_lt.mp h)
    rw [if_pos e]; decide
set_option maxHeartbeats 8000000 in
set_option maxRecDepth 100000 in
theorem law_body {p : Program} {e : Env} {s : State} {m : MethodId} {below : List Frame} {meth : Method} {c : Code} (l : Launch) {b : Nat} {g : zG} (hL : g.2.2.2.2.2.1 ≤ 260) (C : zC p s m #[Value.ref b] meth c g cL_law 8 RL wsL_law) (hr : meth.sig.returnType = ret) (hg2 : g.2.2.2.1 = s.heap.size) (x : zT) (S : zS) (hA : zAll x S) (hG : zGood S) (h0 : zfrn (S.1 1) (S.2.1 1) (nI 1) 64 = 0) : Z p l e room_1 s m #[Value.ref b] below meth c g 8 66 1117 (lw_Z below #[Value.ref b] s) x 8 [(1, .ref (zad g 0)), (0, .ref g.2.2.2.2.1)] [] := by
  have hg : zOk g := C.2.2.1
  refine z_aload_n 8 C dL_law_8 rfl 0 rfl ?_
  refine z_iconst (v := nI 0) 9 C dL_law_9 rfl ?_
  refine z_callSi 10 C (As := [.ref (zad g 0), .int (nI 0)]) 2 (c_L_areHalves l hg x S hA hG 0 (by omega)) (va_cwS 2 C.1.2.2.2.2 gL_law_L_areHalves rfl rfl rfl (by decide +kernel) ⟨Nat.le_of_ble_eq_true rfl, Nat.le_of_ble_eq_true rfl⟩) rfl rfl (Nat.le_of_ble_eq_true rfl) ⟨Nat.le_of_ble_eq_true rfl, Nat.le_of_ble_eq_true rfl⟩ dL_law_10 (fun r u hu => ?_)
  obtain ⟨hu1, hu2⟩ := hu
  subst u
  subst r
  refine z_if_eqN 13 C 37 dL_law_13 (by decide) (by omega) (fun h13 => absurd h13 (by omega)) (fun h13 => ?_)
  refine z_aload_n 16 C dL_law_16 rfl 0 rfl ?_
  refine z_iconst (v := nI 3) 17 C dL_law_17 rfl ?_
  refine z_callSi 18 C (As := [.ref (zad g 0), .int (nI 3)]) 2 (c_L_areCounters l hg x S hA hG 3 (by omega)) (va_cwS 2 C.1.2.2.2.2 gL_law_L_areCounters rfl rfl rfl (by decide +kernel) ⟨Nat.le_of_ble_eq_true rfl, Nat.le_of_ble_eq_true rfl⟩) rfl rfl (Nat.le_of_ble_eq_true rfl) ⟨Nat.le_of_ble_eq_true rfl, Nat.le_of_ble_eq_true rfl⟩ dL_law_18 (fun r u hu => ?_)
  obtain ⟨hu1, hu2⟩ := hu
  subst u
  subst r
  refine z_if_eqN 21 C 37 dL_law_21 (by decide) (by omega) (fun h21 => absurd h21 (by omega)) (fun h21 => ?_)
  refine z_aload_n 24 C dL_law_24 rfl 0 rfl ?_
  refine z_iconst (v := nI 1) 25 C dL_law_25 rfl ?_
  refine z_iconst (v := nI 1) 26 C dL_law_26 rfl ?_
  refine z_callVi 27 C (As := [.int (nI 1), .int (nI 1)]) 2 kO_main rfl (c_X5_frequent l hg x S hA 1 (by omega) 1 (by omega) (by omega)) (cwV 2 C.1.2.2.2.2 gL_law_X5_frequent rfl rfl rfl (by decide +kernel) ⟨Nat.le_of_ble_eq_true rfl, Nat.le_of_ble_eq_true rfl⟩) rfl rfl (Nat.le_of_ble_eq_true rfl) ⟨Nat.le_of_ble_eq_true rfl, Nat.le_of_ble_eq_true rfl⟩ dL_law_27 (fun r u hu => ?_)
  obtain ⟨hu1, hu2⟩ := hu
  subst u
  subst r
  refine z_if_neN 30 C 37 dL_law_30 (by decide) (by omega) (fun h30 => absurd h30 (by rw [h0]; omega)) (fun h30 => ?_)
  refine z_iconst (v := nI 1) 33 C dL_law_33 rfl ?_
  refine z_goto 34 C 38 dL_law_34 (by decide) ?_
  refine z_istore_n (lv' := [(2, .int (nI 1)), (1, .ref (zad g 0)), (0, .ref g.2.2.2.2.1)]) 38 C dL_law_38 rfl (by decide) rfl ?_
  refine z_aload_n 39 C dL_law_39 rfl 2 rfl ?_
  refine z_slen 40 C dL_law_40 ?_
  refine z_iconst (v := nI 3) 41 C dL_law_41 rfl ?_
  refine z_idiv (v := nI (g.2.2.2.2.2.1 / 3)) 42 C dL_law_42 (by decide) (pk_div (by omega) (by omega) (by omega)) ?_
  refine z_bipush (v := nI 40) 43 C dL_law_43 rfl ?_
  refine z_icmp_leN 45 C 53 dL_law_45 (by decide) (by omega) (by omega) (fun h45 => ?_) (fun h45 => ?_)
  · refine z_aload_n 53 C dL_law_53 rfl 2 rfl ?_
    refine z_slen 54 C dL_law_54 ?_
    refine z_iconst (v := nI 3) 55 C dL_law_55 rfl ?_
    refine z_idiv (v := nI (g.2.2.2.2.2.1 / 3)) 56 C dL_law_56 (by decide) (pk_div (by omega) (by omega) (by omega)) ?_
    obtain ⟨stp, es1, es2, es3⟩ : ∃ q : Nat, nI (g.2.2.2.2.2.1 / 3) = nI q ∧ q ≤ 40 ∧ 3 * q ≤ g.2.2.2.2.2.1 := ⟨g.2.2.2.2.2.1 / 3, rfl, by omega, by omega⟩
    rw [es1]
    refine z_istore_n (lv' := [(3, .int (nI stp)), (2, .int (nI 1)), (1, .ref (zad g 0)), (0, .ref g.2.2.2.2.1)]) 57 C dL_law_57 rfl (by decide) rfl ?_
    refine z_iconst (v := nI 0) 58 C dL_law_58 rfl ?_
    refine z_istore (lv' := [(4, .int (nI 0)), (3, .int (nI stp)), (2, .int (nI 1)), (1, .ref (zad g 0)), (0, .ref g.2.2.2.2.1)]) 59 C dL_law_59 (by decide) rfl ?_
    have J61 : ∀ (n61 : Nat) (k : Nat) (x : zT) (S : zS), (k ≤ stp) → (stp < k + n61) → (zAll x S) → (zGood S) → Z p l e room_1 s m #[Value.ref b] below meth c g 8 66 1117 (lw_Z below #[Value.ref b] s) x 61 [(0, .ref g.2.2.2.2.1), (1, .ref (zad g 0)), (2, .int (nI 1)), (3, .int (nI stp)), (4, .int (nI k))] [] := by
      intro n61
      induction n61 with
      | zero => intro k x S hk hn hA hG; exact absurd hn (by omega)
      | succ n61 ih61 =>
        intro k x S hk hn hA hG
        refine z_iload 61 C dL_law_61 4 rfl ?_
        refine z_iload_n 63 C dL_law_63 rfl 3 rfl ?_
        refine z_icmp_geN 64 C 282 dL_law_64 (by decide) (by omega) (by omega) (fun h64 => ?_) (fun h64 => ?_)
        · refine z_iload_n 282 C dL_law_282 rfl 2 rfl ?_
          intro H locs ls hP hS hl
          refine va_forget (fun q hq => by have h9 : g.2.2.2.1 ≤ q.base := hS.2.2 q hq; rw [hg2] at h9; exact h9) ?_
          refine W.widen (k := 600104) (n := 7301314) (by omega) (by omega) ?_
          exact lw_ret (d0 := s.drawn) (Drawn.sameBut.refl s.drawn lw_cs) C.1.1 C.1.2.1 hr C.2.2.2.2.2 dL_law_283
        · refine z_iload_n 67 C dL_law_67 rfl 2 rfl ?_
          refine z_if_eqN 68 C 282 dL_law_68 (by decide) (by omega) (fun h68 => absurd h68 (by omega)) (fun h68 => ?_)
          refine z_aload_n 71 C dL_law_71 rfl 0 rfl ?_
          refine z_iconst (v := nI 3) 72 C dL_law_72 rfl ?_
          refine z_iload 73 C dL_law_73 4 rfl ?_
          refine z_imul (v := nI (3 * k)) 75 C dL_law_75 (pk_mul 3 k) ?_
          refine z_iconst (v := nI 1) 76 C dL_law_76 rfl ?_
          refine z_iadd (v := nI ((3 * k) + 1)) 77 C dL_law_77 (nI_add (3 * k) 1) ?_
          refine z_callSi 78 C (As := [.ref g.2.2.2.2.1, .int (nI ((3 * k) + 1))]) 2 (c_L_draw l hg x hL ((3 * k) + 1) (by omega)) (va_cwS 2 C.1.2.2.2.2 gL_law_L_draw rfl rfl rfl (by decide +kernel) ⟨Nat.le_of_ble_eq_true rfl, Nat.le_of_ble_eq_true rfl⟩) rfl rfl (Nat.le_of_ble_eq_true rfl) ⟨Nat.le_of_ble_eq_true rfl, Nat.le_of_ble_eq_true rfl⟩ dL_law_78 (fun r u hu => ?_)
          obtain ⟨hu1, d1, hd1, hu2⟩ := hu
          subst u
          subst r
          refine z_istore (lv' := [(5, .int (nI d1)), (0, .ref g.2.2.2.2.1), (1, .ref (zad g 0)), (2, .int (nI 1)), (3, .int (nI stp)), (4, .int (nI k))]) 81 C dL_law_81 (by decide) rfl ?_
          refine z_aload_n 83 C dL_law_83 rfl 1 rfl ?_
          refine z_iconst (v := nI 3) 84 C dL_law_84 rfl ?_
          refine z_iload 85 C dL_law_85 5 rfl ?_
          refine z_imul (v := nI (3 * k)) 87 C dL_law_87 (pk_mul 3 k) ?_
          refine z_iconst (v := nI 2) 88 C dL_law_88 rfl ?_
          refine z_iadd (v := nI ((3 * k) + 2)) 89 C dL_law_89 (nI_add (3 * k) 2) ?_
          refine z_callSi 90 C (As := [.ref g.2.2.2.2.1, .int (nI ((3 * k) + 2))]) 2 (c_L_draw l hg x hL ((3 * k) + 2) (by omega)) (va_cwS 2 C.1.2.2.2.2 gL_law_L_draw rfl rfl rfl (by decide +kernel) ⟨Nat.le_of_ble_eq_true rfl, Nat.le_of_ble_eq_true rfl⟩) rfl rfl (Nat.le_of_ble_eq_true rfl) ⟨Nat.le_of_ble_eq_true rfl, Nat.le_of_ble_eq_true rfl⟩ dL_law_90 (fun r u hu => ?_)
          obtain ⟨hu1, d2, hd2, hu2⟩ := hu
          subst u
          subst r
          refine z_istore (lv' := [(6, .int (nI d2)), (5, .int (nI d1)), (0, .ref g.2.2.2.2.1), (1, .ref (zad g 0)), (2, .int (nI 1)), (3, .int (nI stp)), (4, .int (nI k))]) 93 C dL_law_93 (by decide) rfl ?_
          refine z_iload 95 C dL_law_95 1 rfl ?_
          refine z_bipush (v := nI 16) 97 C dL_law_97 rfl ?_
          refine z_idiv (v := nI (d1 / 16)) 99 C dL_law_99 (by decide) (pk_div (by omega) (by omega) (by omega)) ?_
          refine z_bipush (v := nI 64) 100 C dL_law_100 rfl ?_
          refine z_irem (v := nI ((d1 / 16) % 64)) 102 C dL_law_102 (by decide) (pk_rem (by omega) (by omega) (by omega)) ?_
          obtain ⟨fr, efr⟩ : ∃ q : Nat, (d1 / 16) % 64 = q := ⟨_, rfl⟩
          rw [efr]
          have hfr : fr < 64 := by omega
          refine z_istore (lv' := [(7, .int (nI fr)), (6, .int (nI d2)), (5, .int (nI d1)), (0, .ref g.2.2.2.2.1), (1, .ref (zad g 0)), (2, .int (nI 1)), (3, .int (nI stp)), (4, .int (nI k))]) 103 C dL_law_103 (by decide) rfl ?_
          refine z_aload_n 105 C dL_law_105 rfl 4 rfl ?_
          refine z_aload_n 106 C dL_law_106 rfl 3 rfl ?_
          refine z_iconst (v := nI 3) 107 C dL_law_107 rfl ?_
          refine z_iload 108 C dL_law_108 7 rfl ?_
          refine z_imul (v := nI (3 * k)) 110 C dL_law_110 (pk_mul 3 k) ?_
          refine z_callSi 111 C (As := [.ref g.2.2.2.2.1, .int (nI (3 * k))]) 2 (c_L_draw l hg x hL (3 * k) (by omega)) (va_cwS 2 C.1.2.2.2.2 gL_law_L_draw rfl rfl rfl (by decide +kernel) ⟨Nat.le_of_ble_eq_true rfl, Nat.le_of_ble_eq_true rfl⟩) rfl rfl (Nat.le_of_ble_eq_true rfl) ⟨Nat.le_of_ble_eq_true rfl, Nat.le_of_ble_eq_true rfl⟩ dL_law_111 (fun r u hu => ?_)
          obtain ⟨hu1, d3, hd3, hu2⟩ := hu
          subst u
          subst r
          refine z_iload 114 C dL_law_114 2 rfl ?_
          refine z_iload 116 C dL_law_116 1 rfl ?_
          refine z_callSi 118 C (As := [.ref (zad g 0), .int (nI d3), .int (nI d1), .int (nI d2)]) 4 (c_L_step l hg x S hA hG d3 d1 d2 (by omega) (by omega) (by omega)) (va_cwS 4 C.1.2.2.2.2 gL_law_L_step rfl rfl rfl (by decide +kernel) ⟨Nat.le_of_ble_eq_true rfl, Nat.le_of_ble_eq_true rfl⟩) rfl rfl (Nat.le_of_ble_eq_true rfl) ⟨Nat.le_of_ble_eq_true rfl, Nat.le_of_ble_eq_true rfl⟩ dL_law_118 (fun r y9 hu => ?_)
          obtain ⟨⟨S9, hA9, hG9⟩, hu2⟩ := hu
          subst r
          refine z_if_eqN 121 C 274 dL_law_121 (by decide) (by omega) (fun h121 => absurd h121 (by omega)) (fun h121 => ?_)
          refine z_aload_n 124 C dL_law_124 rfl 4 rfl ?_
          refine z_iload 125 C dL_law_125 2 rfl ?_
          refine z_iconst (v := nI 4) 127 C dL_law_127 rfl ?_
          refine z_irem (v := nI (d1 % 4)) 128 C dL_law_128 (by decide) (pk_rem (by omega) (by omega) (by omega)) ?_
          refine z_callSi 129 C (As := [.ref (zad g 0), .int (nI (d1 % 4))]) 2 (c_L_areHalves l hg y9 S9 hA9 hG9 (d1 % 4) (by omega)) (va_cwS 2 C.1.2.2.2.2 gL_law_L_areHalves rfl rfl rfl (by decide +kernel) ⟨Nat.le_of_ble_eq_true rfl, Nat.le_of_ble_eq_true rfl⟩) rfl rfl (Nat.le_of_ble_eq_true rfl) ⟨Nat.le_of_ble_eq_true rfl, Nat.le_of_ble_eq_true rfl⟩ dL_law_129 (fun r u hu => ?_)
          obtain ⟨hu1, hu2⟩ := hu
          subst u
          subst r
          refine z_if_eqN 132 C 274 dL_law_132 (by decide) (by omega) (fun h132 => absurd h132 (by omega)) (fun h132 => ?_)
          refine z_aload_n 135 C dL_law_135 rfl 4 rfl ?_
          refine z_iload 136 C dL_law_136 2 rfl ?_
          refine z_iconst (v := nI 4) 138 C dL_law_138 rfl ?_
          refine z_irem (v := nI (d1 % 4)) 139 C dL_law_139 (by decide) (pk_rem (by omega) (by omega) (by omega)) ?_
          refine z_callSi 140 C (As := [.ref (zad g 0), .int (nI (d1 % 4))]) 2 (c_L_areCounters l hg y9 S9 hA9 hG9 (d1 % 4) (by omega)) (va_cwS 2 C.1.2.2.2.2 gL_law_L_areCounters rfl rfl rfl (by decide +kernel) ⟨Nat.le_of_ble_eq_true rfl, Nat.le_of_ble_eq_true rfl⟩) rfl rfl (Nat.le_of_ble_eq_true rfl) ⟨Nat.le_of_ble_eq_true rfl, Nat.le_of_ble_eq_true rfl⟩ dL_law_140 (fun r u hu => ?_)
          obtain ⟨hu1, hu2⟩ := hu
          subst u
          subst r
          refine z_if_eqN 143 C 274 dL_law_143 (by decide) (by omega) (fun h143 => absurd h143 (by omega)) (fun h143 => ?_)
          refine z_aload_n 146 C dL_law_146 rfl 4 rfl ?_
          refine z_iload 147 C dL_law_147 2 rfl ?_
          refine z_iconst (v := nI 4) 149 C dL_law_149 rfl ?_
          refine z_irem (v := nI (d1 % 4)) 150 C dL_law_150 (by decide) (pk_rem (by omega) (by omega) (by omega)) ?_
          refine z_callSi 151 C (As := [.ref (zad g 0), .int (nI (d1 % 4))]) 2 (c_L_areRows l hg y9 S9 hA9 hG9 (d1 % 4) (by omega)) (va_cwS 2 C.1.2.2.2.2 gL_law_L_areRows rfl rfl rfl (by decide +kernel) ⟨Nat.le_of_ble_eq_true rfl, Nat.le_of_ble_eq_true rfl⟩) rfl rfl (Nat.le_of_ble_eq_true rfl) ⟨Nat.le_of_ble_eq_true rfl, Nat.le_of_ble_eq_true rfl⟩ dL_law_151 (fun r u hu => ?_)
          obtain ⟨hu1, hu2⟩ := hu
          subst u
          subst r
          refine z_if_eqN 154 C 274 dL_law_154 (by decide) (by omega) (fun h154 => absurd h154 (by omega)) (fun h154 => ?_)
          refine z_aload_n 157 C dL_law_157 rfl 4 rfl ?_
          refine z_iload 158 C dL_law_158 2 rfl ?_
          refine z_iconst (v := nI 4) 160 C dL_law_160 rfl ?_
          refine z_irem (v := nI (d1 % 4)) 161 C dL_law_161 (by decide) (pk_rem (by omega) (by omega) (by omega)) ?_
          refine z_iconst (v := nI 1) 162 C dL_law_162 rfl ?_
          refine z_iload 163 C dL_law_163 1 rfl ?_
          refine z_sipush (v := nI 2000) 165 C dL_law_165 rfl ?_
          refine z_irem (v := nI (d2 % 2000)) 168 C dL_law_168 (by decide) (pk_rem (by omega) (by omega) (by omega)) ?_
          refine z_iadd (v := nI (1 + (d2 % 2000))) 169 C dL_law_169 (nI_add 1 (d2 % 2000)) ?_
          refine z_iload 170 C dL_law_170 0 rfl ?_
          refine z_iload 172 C dL_law_172 0 rfl ?_
          refine z_iload 174 C dL_law_174 1 rfl ?_
          refine z_bipush (v := nI 64) 176 C dL_law_176 rfl ?_
          refine z_iload 178 C dL_law_178 0 rfl ?_
          refine z_isub (v := nI (64 - fr)) 180 C dL_law_180 (pk_sub (by omega)) ?_
          have hmd : d2 % (64 - fr) < 64 - fr := Nat.mod_lt _ (by omega)
          refine z_irem (v := nI (d2 % (64 - fr))) 181 C dL_law_181 (zn_ne0 (64 - fr) (by omega) (by omega)) (pk_rem (by omega) (by omega) (by omega)) ?_
          refine z_iadd (v := nI (fr + (d2 % (64 - fr)))) 182 C dL_law_182 (nI_add fr (d2 % (64 - fr))) ?_
          refine z_callSi 183 C (As := [.ref (zad g 0), .int (nI (d1 % 4)), .int (nI (1 + (d2 % 2000))), .int (nI fr), .int (nI (fr + (d2 % (64 - fr))))]) 5 (c_L_areAsked l hg y9 S9 hA9 hG9 (d1 % 4) (by omega) (1 + (d2 % 2000)) fr (fr + (d2 % (64 - fr))) (by omega) (by omega) (by omega) (by omega)) (va_cwS 5 C.1.2.2.2.2 gL_law_L_areAsked rfl rfl rfl (by decide +kernel) ⟨Nat.le_of_ble_eq_true rfl, Nat.le_of_ble_eq_true rfl⟩) rfl rfl (Nat.le_of_ble_eq_true rfl) ⟨Nat.le_of_ble_eq_true rfl, Nat.le_of_ble_eq_true rfl⟩ dL_law_183 (fun r u hu => ?_)
          obtain ⟨hu1, hu2⟩ := hu
          subst u
          subst r
          refine z_if_eqN 186 C 274 dL_law_186 (by decide) (by omega) (fun h186 => absurd h186 (by omega)) (fun h186 => ?_)
          refine z_aload_n 189 C dL_law_189 rfl 4 rfl ?_
          refine z_iload 190 C dL_law_190 2 rfl ?_
          refine z_iconst (v := nI 4) 192 C dL_law_192 rfl ?_
          refine z_irem (v := nI (d1 % 4)) 193 C dL_law_193 (by decide) (pk_rem (by omega) (by omega) (by omega)) ?_
          refine z_iload 194 C dL_law_194 2 rfl ?_
          refine z_iconst (v := nI 4) 196 C dL_law_196 rfl ?_
          refine z_idiv (v := nI (d1 / 4)) 197 C dL_law_197 (by decide) (pk_div (by omega) (by omega) (by omega)) ?_
          refine z_iconst (v := nI 4) 198 C dL_law_198 rfl ?_
          refine z_irem (v := nI ((d1 / 4) % 4)) 199 C dL_law_199 (by decide) (pk_rem (by omega) (by omega) (by omega)) ?_
          refine z_callVl 200 C (As := [.int (nI (d1 % 4)), .int (nI ((d1 / 4) % 4))]) 2 kO_main rfl (c_X5_product l hg y9 S9 hA9 (d1 % 4) (by omega) ((d1 / 4) % 4) (by omega)) (cwV 2 C.1.2.2.2.2 gL_law_X5_product rfl rfl rfl (by decide +kernel) ⟨Nat.le_of_ble_eq_true rfl, Nat.le_of_ble_eq_true rfl⟩) rfl rfl (Nat.le_of_ble_eq_true rfl) ⟨Nat.le_of_ble_eq_true rfl, Nat.le_of_ble_eq_true rfl⟩ dL_law_200 (fun r u hu => ?_)
          obtain ⟨hu1, hu2⟩ := hu
          subst u
          subst r
          refine z_aload_n 203 C dL_law_203 rfl 4 rfl ?_
          refine z_iload 204 C dL_law_204 2 rfl ?_
          refine z_iconst (v := nI 4) 206 C dL_law_206 rfl ?_
          refine z_idiv (v := nI (d1 / 4)) 207 C dL_law_207 (by decide) (pk_div (by omega) (by omega) (by omega)) ?_
          refine z_iconst (v := nI 4) 208 C dL_law_208 rfl ?_
          refine z_irem (v := nI ((d1 / 4) % 4)) 209 C dL_law_209 (by decide) (pk_rem (by omega) (by omega) (by omega)) ?_
          refine z_iload 210 C dL_law_210 2 rfl ?_
          refine z_iconst (v := nI 4) 212 C dL_law_212 rfl ?_
          refine z_irem (v := nI (d1 % 4)) 213 C dL_law_213 (by decide) (pk_rem (by omega) (by omega) (by omega)) ?_
          refine z_callVl 214 C (As := [.int (nI ((d1 / 4) % 4)), .int (nI (d1 % 4))]) 2 kO_main rfl (c_X5_product l hg y9 S9 hA9 ((d1 / 4) % 4) (by omega) (d1 % 4) (by omega)) (cwV 2 C.1.2.2.2.2 gL_law_X5_product rfl rfl rfl (by decide +kernel) ⟨Nat.le_of_ble_eq_true rfl, Nat.le_of_ble_eq_true rfl⟩) rfl rfl (Nat.le_of_ble_eq_true rfl) ⟨Nat.le_of_ble_eq_true rfl, Nat.le_of_ble_eq_true rfl⟩ dL_law_214 (fun r u hu => ?_)
          obtain ⟨hu1, hu2⟩ := hu
          subst u
          subst r
          refine z_lcmp (v := lg_cmp (zprod (S9.1 (d1 % 4)) (S9.1 ((d1 / 4) % 4))) (zprod (S9.1 ((d1 / 4) % 4)) (S9.1 (d1 % 4)))) 217 C dL_law_217 rfl ?_
          refine z_if_ne 218 C 274 dL_law_218 (by decide) (fun h218 => absurd (by rw [zprod_comm]; exact lgc_self _) h218) (fun h218 => ?_)
          refine z_aload_n 221 C dL_law_221 rfl 4 rfl ?_
          refine z_iload 222 C dL_law_222 2 rfl ?_
          refine z_iconst (v := nI 4) 224 C dL_law_224 rfl ?_
          refine z_irem (v := nI (d1 % 4)) 225 C dL_law_225 (by decide) (pk_rem (by omega) (by omega) (by omega)) ?_
          refine z_iload 226 C dL_law_226 2 rfl ?_
          refine z_iconst (v := nI 4) 228 C dL_law_228 rfl ?_
          refine z_idiv (v := nI (d1 / 4)) 229 C dL_law_229 (by decide) (pk_div (by omega) (by omega) (by omega)) ?_
          refine z_iconst (v := nI 4) 230 C dL_law_230 rfl ?_
          refine z_irem (v := nI ((d1 / 4) % 4)) 231 C dL_law_231 (by decide) (pk_rem (by omega) (by omega) (by omega)) ?_
          refine z_callVl 232 C (As := [.int (nI (d1 % 4)), .int (nI ((d1 / 4) % 4))]) 2 kO_main rfl (c_X5_signedProduct l hg y9 S9 hA9 (d1 % 4) (by omega) ((d1 / 4) % 4) (by omega)) (cwV 2 C.1.2.2.2.2 gL_law_X5_signedProduct rfl rfl rfl (by decide +kernel) ⟨Nat.le_of_ble_eq_true rfl, Nat.le_of_ble_eq_true rfl⟩) rfl rfl (Nat.le_of_ble_eq_true rfl) ⟨Nat.le_of_ble_eq_true rfl, Nat.le_of_ble_eq_true rfl⟩ dL_law_232 (fun v4 u hu => ?_)
          obtain ⟨⟨fv4, rfl⟩, sv4⟩ := hu
          refine z_aload_n 235 C dL_law_235 rfl 4 rfl ?_
          refine z_iload 236 C dL_law_236 2 rfl ?_
          refine z_iconst (v := nI 4) 238 C dL_law_238 rfl ?_
          refine z_idiv (v := nI (d1 / 4)) 239 C dL_law_239 (by decide) (pk_div (by omega) (by omega) (by omega)) ?_
          refine z_iconst (v := nI 4) 240 C dL_law_240 rfl ?_
          refine z_irem (v := nI ((d1 / 4) % 4)) 241 C dL_law_241 (by decide) (pk_rem (by omega) (by omega) (by omega)) ?_
          refine z_iload 242 C dL_law_242 2 rfl ?_
          refine z_iconst (v := nI 4) 244 C dL_law_244 rfl ?_
          refine z_irem (v := nI (d1 % 4)) 245 C dL_law_245 (by decide) (pk_rem (by omega) (by omega) (by omega)) ?_
          refine z_callVl 246 C (As := [.int (nI ((d1 / 4) % 4)), .int (nI (d1 % 4))]) 2 kO_main rfl (c_X5_signedProduct l hg (xl y9 (zp (d1 % 4) 12) fv4) S9 (zAll_l hA9) ((d1 / 4) % 4) (by omega) (d1 % 4) (by omega)) (cwV 2 C.1.2.2.2.2 gL_law_X5_signedProduct rfl rfl rfl (by decide +kernel) ⟨Nat.le_of_ble_eq_true rfl, Nat.le_of_ble_eq_true rfl⟩) rfl rfl (Nat.le_of_ble_eq_true rfl) ⟨Nat.le_of_ble_eq_true rfl, Nat.le_of_ble_eq_true rfl⟩ dL_law_246 (fun v5 u hu => ?_)
          obtain ⟨⟨fv5, rfl⟩, sv5⟩ := hu
          refine z_lcmp (v := lg_cmp v4 v5) 249 C dL_law_249 rfl ?_
          refine z_if_ne 250 C 274 dL_law_250 (by decide) (fun h250 => absurd (by rw [zsprod_comm sv4 sv5]; exact lgc_self _) h250) (fun h250 => ?_)
          refine z_aload_n 253 C dL_law_253 rfl 4 rfl ?_
          refine z_iload 254 C dL_law_254 2 rfl ?_
          refine z_iconst (v := nI 4) 256 C dL_law_256 rfl ?_
          refine z_irem (v := nI (d1 % 4)) 257 C dL_law_257 (by decide) (pk_rem (by omega) (by omega) (by omega)) ?_
          refine z_iload 258 C dL_law_258 2 rfl ?_
          refine z_iconst (v := nI 4) 260 C dL_law_260 rfl ?_
          refine z_irem (v := nI (d1 % 4)) 261 C dL_law_261 (by decide) (pk_rem (by omega) (by omega) (by omega)) ?_
          refine z_callVl 262 C (As := [.int (nI (d1 % 4)), .int (nI (d1 % 4))]) 2 kO_main rfl (c_X5_signedProduct l hg (xl (xl y9 (zp (d1 % 4) 12) fv4) (zp ((d1 / 4) % 4) 12) fv5) S9 (zAll_l (zAll_l hA9)) (d1 % 4) (by omega) (d1 % 4) (by omega)) (cwV 2 C.1.2.2.2.2 gL_law_X5_signedProduct rfl rfl rfl (by decide +kernel) ⟨Nat.le_of_ble_eq_true rfl, Nat.le_of_ble_eq_true rfl⟩) rfl rfl (Nat.le_of_ble_eq_true rfl) ⟨Nat.le_of_ble_eq_true rfl, Nat.le_of_ble_eq_true rfl⟩ dL_law_262 (fun v6 u hu => ?_)
          obtain ⟨⟨fv6, rfl⟩, sv6⟩ := hu
          refine z_lconst (v := 0) 265 C dL_law_265 rfl ?_
          refine z_lcmp (v := lg_cmp v6 0) 266 C dL_law_266 rfl ?_
          refine z_if_lt 267 C 274 dL_law_267 (by decide) (fun h267 => absurd h267 (lgc_nn (zsprod_pos (hG9 _ (by omega)) sv6))) (fun h267 => ?_)
          refine z_iconst (v := nI 1) 270 C dL_law_270 rfl ?_
          refine z_goto 271 C 275 dL_law_271 (by decide) ?_
          refine z_istore_n (lv' := [(2, .int (nI 1)), (7, .int (nI fr)), (6, .int (nI d2)), (5, .int (nI d1)), (0, .ref g.2.2.2.2.1), (1, .ref (zad g 0)), (3, .int (nI stp)), (4, .int (nI k))]) 275 C dL_law_275 rfl (by decide) rfl ?_
          refine z_iinc (v' := nI (k + 1)) (lv' := [(4, .int (nI (k + 1))), (2, .int (nI 1)), (7, .int (nI fr)), (6, .int (nI d2)), (5, .int (nI d1)), (0, .ref g.2.2.2.2.1), (1, .ref (zad g 0)), (3, .int (nI stp))]) 276 C dL_law_276 (q := 7) rfl (zn_inc k 1) (by decide) rfl ?_
          refine z_goto 279 C 61 dL_law_279 (by decide) ?_
          refine z_lv (lv' := [(0, .ref g.2.2.2.2.1), (1, .ref (zad g 0)), (2, .int (nI 1)), (3, .int (nI stp)), (4, .int (nI (k + 1)))]) [5, 6, 1, 7, 0] rfl ?_
          exact ih61 (k + 1) (xl (xl (xl y9 (zp (d1 % 4) 12) fv4) (zp ((d1 / 4) % 4) 12) fv5) (zp (d1 % 4) 12) fv6) S9 (by omega) (by omega) (zAll_l (zAll_l (zAll_l hA9))) hG9
    refine z_lv (lv' := [(0, .ref g.2.2.2.2.1), (1, .ref (zad g 0)), (2, .int (nI 1)), (3, .int (nI stp)), (4, .int (nI 0))]) [4, 3, 2, 1, 0] rfl ?_
    exact J61 (stp + 1) 0 x S (by omega) (by omega) hA hG
  · refine z_bipush (v := nI 40) 48 C dL_law_48 rfl ?_
    refine z_goto 50 C 57 dL_law_50 (by decide) ?_
    obtain ⟨stp, es1, es2, es3⟩ : ∃ q : Nat, nI 40 = nI q ∧ q ≤ 40 ∧ 3 * q ≤ g.2.2.2.2.2.1 := ⟨40, rfl, by omega, by omega⟩
    rw [es1]
    refine z_istore_n (lv' := [(3, .int (nI stp)), (2, .int (nI 1)), (1, .ref (zad g 0)), (0, .ref g.2.2.2.2.1)]) 57 C dL_law_57 rfl (by decide) rfl ?_
    refine z_iconst (v := nI 0) 58 C dL_law_58 rfl ?_
    refine z_istore (lv' := [(4, .int (nI 0)), (3, .int (nI stp)), (2, .int (nI 1)), (1, .ref (zad g 0)), (0, .ref g.2.2.2.2.1)]) 59 C dL_law_59 (by decide) rfl ?_
    have J61 : ∀ (n61 : Nat) (k : Nat) (x : zT) (S : zS), (k ≤ stp) → (stp < k + n61) → (zAll x S) → (zGood S) → Z p l e room_1 s m #[Value.ref b] below meth c g 8 66 1117 (lw_Z below #[Value.ref b] s) x 61 [(0, .ref g.2.2.2.2.1), (1, .ref (zad g 0)), (2, .int (nI 1)), (3, .int (nI stp)), (4, .int (nI k))] [] := by
      intro n61
      induction n61 with
      | zero => intro k x S hk hn hA hG; exact absurd hn (by omega)
      | succ n61 ih61 =>
        intro k x S hk hn hA hG
        refine z_iload 61 C dL_law_61 4 rfl ?_
        refine z_iload_n 63 C dL_law_63 rfl 3 rfl ?_
        refine z_icmp_geN 64 C 282 dL_law_64 (by decide) (by omega) (by omega) (fun h64 => ?_) (fun h64 => ?_)
        · refine z_iload_n 282 C dL_law_282 rfl 2 rfl ?_
          intro H locs ls hP hS hl
          refine va_forget (fun q hq => by have h9 : g.2.2.2.1 ≤ q.base := hS.2.2 q hq; rw [hg2] at h9; exact h9) ?_
          refine W.widen (k := 600104) (n := 7301314) (by omega) (by omega) ?_
          exact lw_ret (d0 := s.drawn) (Drawn.sameBut.refl s.drawn lw_cs) C.1.1 C.1.2.1 hr C.2.2.2.2.2 dL_law_283
        · refine z_iload_n 67 C dL_law_67 rfl 2 rfl ?_
          refine z_if_eqN 68 C 282 dL_law_68 (by decide) (by omega) (fun h68 => absurd h68 (by omega)) (fun h68 => ?_)
          refine z_aload_n 71 C dL_law_71 rfl 0 rfl ?_
          refine z_iconst (v := nI 3) 72 C dL_law_72 rfl ?_
          refine z_iload 73 C dL_law_73 4 rfl ?_
          refine z_imul (v := nI (3 * k)) 75 C dL_law_75 (pk_mul 3 k) ?_
          refine z_iconst (v := nI 1) 76 C dL_law_76 rfl ?_
          refine z_iadd (v := nI ((3 * k) + 1)) 77 C dL_law_77 (nI_add (3 * k) 1) ?_
          refine z_callSi 78 C (As := [.ref g.2.2.2.2.1, .int (nI ((3 * k) + 1))]) 2 (c_L_draw l hg x hL ((3 * k) + 1) (by omega)) (va_cwS 2 C.1.2.2.2.2 gL_law_L_draw rfl rfl rfl (by decide +kernel) ⟨Nat.le_of_ble_eq_true rfl, Nat.le_of_ble_eq_true rfl⟩) rfl rfl (Nat.le_of_ble_eq_true rfl) ⟨Nat.le_of_ble_eq_true rfl, Nat.le_of_ble_eq_true rfl⟩ dL_law_78 (fun r u hu => ?_)
          obtain ⟨hu1, d7, hd7, hu2⟩ := hu
          subst u
          subst r
          refine z_istore (lv' := [(5, .int (nI d7)), (0, .ref g.2.2.2.2.1), (1, .ref (zad g 0)), (2, .int (nI 1)), (3, .int (nI stp)), (4, .int (nI k))]) 81 C dL_law_81 (by decide) rfl ?_
          refine z_aload_n 83 C dL_law_83 rfl 1 rfl ?_
          refine z_iconst (v := nI 3) 84 C dL_law_84 rfl ?_
          refine z_iload 85 C dL_law_85 5 rfl ?_
          refine z_imul (v := nI (3 * k)) 87 C dL_law_87 (pk_mul 3 k) ?_
          refine z_iconst (v := nI 2) 88 C dL_law_88 rfl ?_
          refine z_iadd (v := nI ((3 * k) + 2)) 89 C dL_law_89 (nI_add (3 * k) 2) ?_
          refine z_callSi 90 C (As := [.ref g.2.2.2.2.1, .int (nI ((3 * k) + 2))]) 2 (c_L_draw l hg x hL ((3 * k) + 2) (by omega)) (va_cwS 2 C.1.2.2.2.2 gL_law_L_draw rfl rfl rfl (by decide +kernel) ⟨Nat.le_of_ble_eq_true rfl, Nat.le_of_ble_eq_true rfl⟩) rfl rfl (Nat.le_of_ble_eq_true rfl) ⟨Nat.le_of_ble_eq_true rfl, Nat.le_of_ble_eq_true rfl⟩ dL_law_90 (fun r u hu => ?_)
          obtain ⟨hu1, d8, hd8, hu2⟩ := hu
          subst u
          subst r
          refine z_istore (lv' := [(6, .int (nI d8)), (5, .int (nI d7)), (0, .ref g.2.2.2.2.1), (1, .ref (zad g 0)), (2, .int (nI 1)), (3, .int (nI stp)), (4, .int (nI k))]) 93 C dL_law_93 (by decide) rfl ?_
          refine z_iload 95 C dL_law_95 1 rfl ?_
          refine z_bipush (v := nI 16) 97 C dL_law_97 rfl ?_
          refine z_idiv (v := nI (d7 / 16)) 99 C dL_law_99 (by decide) (pk_div (by omega) (by omega) (by omega)) ?_
          refine z_bipush (v := nI 64) 100 C dL_law_100 rfl ?_
          refine z_irem (v := nI ((d7 / 16) % 64)) 102 C dL_law_102 (by decide) (pk_rem (by omega) (by omega) (by omega)) ?_
          obtain ⟨fr, efr⟩ : ∃ q : Nat, (d7 / 16) % 64 = q := ⟨_, rfl⟩
          rw [efr]
          have hfr : fr < 64 := by omega
          refine z_istore (lv' := [(7, .int (nI fr)), (6, .int (nI d8)), (5, .int (nI d7)), (0, .ref g.2.2.2.2.1), (1, .ref (zad g 0)), (2, .int (nI 1)), (3, .int (nI stp)), (4, .int (nI k))]) 103 C dL_law_103 (by decide) rfl ?_
          refine z_aload_n 105 C dL_law_105 rfl 4 rfl ?_
          refine z_aload_n 106 C dL_law_106 rfl 3 rfl ?_
          refine z_iconst (v := nI 3) 107 C dL_law_107 rfl ?_
          refine z_iload 108 C dL_law_108 7 rfl ?_
          refine z_imul (v := nI (3 * k)) 110 C dL_law_110 (pk_mul 3 k) ?_
          refine z_callSi 111 C (As := [.ref g.2.2.2.2.1, .int (nI (3 * k))]) 2 (c_L_draw l hg x hL (3 * k) (by omega)) (va_cwS 2 C.1.2.2.2.2 gL_law_L_draw rfl rfl rfl (by decide +kernel) ⟨Nat.le_of_ble_eq_true rfl, Nat.le_of_ble_eq_true rfl⟩) rfl rfl (Nat.le_of_ble_eq_true rfl) ⟨Nat.le_of_ble_eq_true rfl, Nat.le_of_ble_eq_true rfl⟩ dL_law_111 (fun r u hu => ?_)
          obtain ⟨hu1, d9, hd9, hu2⟩ := hu
          subst u
          subst r
          refine z_iload 114 C dL_law_114 2 rfl ?_
          refine z_iload 116 C dL_law_116 1 rfl ?_
          refine z_callSi 118 C (As := [.ref (zad g 0), .int (nI d9), .int (nI d7), .int (nI d8)]) 4 (c_L_step l hg x S hA hG d9 d7 d8 (by omega) (by omega) (by omega)) (va_cwS 4 C.1.2.2.2.2 gL_law_L_step rfl rfl rfl (by decide +kernel) ⟨Nat.le_of_ble_eq_true rfl, Nat.le_of_ble_eq_true rfl⟩) rfl rfl (Nat.le_of_ble_eq_true rfl) ⟨Nat.le_of_ble_eq_true rfl, Nat.le_of_ble_eq_true rfl⟩ dL_law_118 (fun r y9 hu => ?_)
          obtain ⟨⟨S9, hA9, hG9⟩, hu2⟩ := hu
          subst r
          refine z_if_eqN 121 C 274 dL_law_121 (by decide) (by omega) (fun h121 => absurd h121 (by omega)) (fun h121 => ?_)
          refine z_aload_n 124 C dL_law_124 rfl 4 rfl ?_
          refine z_iload 125 C dL_law_125 2 rfl ?_
          refine z_iconst (v := nI 4) 127 C dL_law_127 rfl ?_
          refine z_irem (v := nI (d7 % 4)) 128 C dL_law_128 (by decide) (pk_rem (by omega) (by omega) (by omega)) ?_
          refine z_callSi 129 C (As := [.ref (zad g 0), .int (nI (d7 % 4))]) 2 (c_L_areHalves l hg y9 S9 hA9 hG9 (d7 % 4) (by omega)) (va_cwS 2 C.1.2.2.2.2 gL_law_L_areHalves rfl rfl rfl (by decide +kernel) ⟨Nat.le_of_ble_eq_true rfl, Nat.le_of_ble_eq_true rfl⟩) rfl rfl (Nat.le_of_ble_eq_true rfl) ⟨Nat.le_of_ble_eq_true rfl, Nat.le_of_ble_eq_true rfl⟩ dL_law_129 (fun r u hu => ?_)
          obtain ⟨hu1, hu2⟩ := hu
          subst u
          subst r
          refine z_if_eqN 132 C 274 dL_law_132 (by decide) (by omega) (fun h132 => absurd h132 (by omega)) (fun h132 => ?_)
          refine z_aload_n 135 C dL_law_135 rfl 4 rfl ?_
          refine z_iload 136 C dL_law_136 2 rfl ?_
          refine z_iconst (v := nI 4) 138 C dL_law_138 rfl ?_
          refine z_irem (v := nI (d7 % 4)) 139 C dL_law_139 (by decide) (pk_rem (by omega) (by omega) (by omega)) ?_
          refine z_callSi 140 C (As := [.ref (zad g 0), .int (nI (d7 % 4))]) 2 (c_L_areCounters l hg y9 S9 hA9 hG9 (d7 % 4) (by omega)) (va_cwS 2 C.1.2.2.2.2 gL_law_L_areCounters rfl rfl rfl (by decide +kernel) ⟨Nat.le_of_ble_eq_true rfl, Nat.le_of_ble_eq_true rfl⟩) rfl rfl (Nat.le_of_ble_eq_true rfl) ⟨Nat.le_of_ble_eq_true rfl, Nat.le_of_ble_eq_true rfl⟩ dL_law_140 (fun r u hu => ?_)
          obtain ⟨hu1, hu2⟩ := hu
          subst u
          subst r
          refine z_if_eqN 143 C 274 dL_law_143 (by decide) (by omega) (fun h143 => absurd h143 (by omega)) (fun h143 => ?_)
          refine z_aload_n 146 C dL_law_146 rfl 4 rfl ?_
          refine z_iload 147 C dL_law_147 2 rfl ?_
          refine z_iconst (v := nI 4) 149 C dL_law_149 rfl ?_
          refine z_irem (v := nI (d7 % 4)) 150 C dL_law_150 (by decide) (pk_rem (by omega) (by omega) (by omega)) ?_
          refine z_callSi 151 C (As := [.ref (zad g 0), .int (nI (d7 % 4))]) 2 (c_L_areRows l hg y9 S9 hA9 hG9 (d7 % 4) (by omega)) (va_cwS 2 C.1.2.2.2.2 gL_law_L_areRows rfl rfl rfl (by decide +kernel) ⟨Nat.le_of_ble_eq_true rfl, Nat.le_of_ble_eq_true rfl⟩) rfl rfl (Nat.le_of_ble_eq_true rfl) ⟨Nat.le_of_ble_eq_true rfl, Nat.le_of_ble_eq_true rfl⟩ dL_law_151 (fun r u hu => ?_)
          obtain ⟨hu1, hu2⟩ := hu
          subst u
          subst r
          refine z_if_eqN 154 C 274 dL_law_154 (by decide) (by omega) (fun h154 => absurd h154 (by omega)) (fun h154 => ?_)
          refine z_aload_n 157 C dL_law_157 rfl 4 rfl ?_
          refine z_iload 158 C dL_law_158 2 rfl ?_
          refine z_iconst (v := nI 4) 160 C dL_law_160 rfl ?_
          refine z_irem (v := nI (d7 % 4)) 161 C dL_law_161 (by decide) (pk_rem (by omega) (by omega) (by omega)) ?_
          refine z_iconst (v := nI 1) 162 C dL_law_162 rfl ?_
          refine z_iload 163 C dL_law_163 1 rfl ?_
          refine z_sipush (v := nI 2000) 165 C dL_law_165 rfl ?_
          refine z_irem (v := nI (d8 % 2000)) 168 C dL_law_168 (by decide) (pk_rem (by omega) (by omega) (by omega)) ?_
          refine z_iadd (v := nI (1 + (d8 % 2000))) 169 C dL_law_169 (nI_add 1 (d8 % 2000)) ?_
          refine z_iload 170 C dL_law_170 0 rfl ?_
          refine z_iload 172 C dL_law_172 0 rfl ?_
          refine z_iload 174 C dL_law_174 1 rfl ?_
          refine z_bipush (v := nI 64) 176 C dL_law_176 rfl ?_
          refine z_iload 178 C dL_law_178 0 rfl ?_
          refine z_isub (v := nI (64 - fr)) 180 C dL_law_180 (pk_sub (by omega)) ?_
          have hmd : d8 % (64 - fr) < 64 - fr := Nat.mod_lt _ (by omega)
          refine z_irem (v := nI (d8 % (64 - fr))) 181 C dL_law_181 (zn_ne0 (64 - fr) (by omega) (by omega)) (pk_rem (by omega) (by omega) (by omega)) ?_
          refine z_iadd (v := nI (fr + (d8 % (64 - fr)))) 182 C dL_law_182 (nI_add fr (d8 % (64 - fr))) ?_
          refine z_callSi 183 C (As := [.ref (zad g 0), .int (nI (d7 % 4)), .int (nI (1 + (d8 % 2000))), .int (nI fr), .int (nI (fr + (d8 % (64 - fr))))]) 5 (c_L_areAsked l hg y9 S9 hA9 hG9 (d7 % 4) (by omega) (1 + (d8 % 2000)) fr (fr + (d8 % (64 - fr))) (by omega) (by omega) (by omega) (by omega)) (va_cwS 5 C.1.2.2.2.2 gL_law_L_areAsked rfl rfl rfl (by decide +kernel) ⟨Nat.le_of_ble_eq_true rfl, Nat.le_of_ble_eq_true rfl⟩) rfl rfl (Nat.le_of_ble_eq_true rfl) ⟨Nat.le_of_ble_eq_true rfl, Nat.le_of_ble_eq_true rfl⟩ dL_law_183 (fun r u hu => ?_)
          obtain ⟨hu1, hu2⟩ := hu
          subst u
          subst r
          refine z_if_eqN 186 C 274 dL_law_186 (by decide) (by omega) (fun h186 => absurd h186 (by omega)) (fun h186 => ?_)
          refine z_aload_n 189 C dL_law_189 rfl 4 rfl ?_
          refine z_iload 190 C dL_law_190 2 rfl ?_
          refine z_iconst (v := nI 4) 192 C dL_law_192 rfl ?_
          refine z_irem (v := nI (d7 % 4)) 193 C dL_law_193 (by decide) (pk_rem (by omega) (by omega) (by omega)) ?_
          refine z_iload 194 C dL_law_194 2 rfl ?_
          refine z_iconst (v := nI 4) 196 C dL_law_196 rfl ?_
          refine z_idiv (v := nI (d7 / 4)) 197 C dL_law_197 (by decide) (pk_div (by omega) (by omega) (by omega)) ?_
          refine z_iconst (v := nI 4) 198 C dL_law_198 rfl ?_
          refine z_irem (v := nI ((d7 / 4) % 4)) 199 C dL_law_199 (by decide) (pk_rem (by omega) (by omega) (by omega)) ?_
          refine z_callVl 200 C (As := [.int (nI (d7 % 4)), .int (nI ((d7 / 4) % 4))]) 2 kO_main rfl (c_X5_product l hg y9 S9 hA9 (d7 % 4) (by omega) ((d7 / 4) % 4) (by omega)) (cwV 2 C.1.2.2.2.2 gL_law_X5_product rfl rfl rfl (by decide +kernel) ⟨Nat.le_of_ble_eq_true rfl, Nat.le_of_ble_eq_true rfl⟩) rfl rfl (Nat.le_of_ble_eq_true rfl) ⟨Nat.le_of_ble_eq_true rfl, Nat.le_of_ble_eq_true rfl⟩ dL_law_200 (fun r u hu => ?_)
          obtain ⟨hu1, hu2⟩ := hu
          subst u
          subst r
          refine z_aload_n 203 C dL_law_203 rfl 4 rfl ?_
          refine z_iload 204 C dL_law_204 2 rfl ?_
          refine z_iconst (v := nI 4) 206 C dL_law_206 rfl ?_
          refine z_idiv (v := nI (d7 / 4)) 207 C dL_law_207 (by decide) (pk_div (by omega) (by omega) (by omega)) ?_
          refine z_iconst (v := nI 4) 208 C dL_law_208 rfl ?_
          refine z_irem (v := nI ((d7 / 4) % 4)) 209 C dL_law_209 (by decide) (pk_rem (by omega) (by omega) (by omega)) ?_
          refine z_iload 210 C dL_law_210 2 rfl ?_
          refine z_iconst (v := nI 4) 212 C dL_law_212 rfl ?_
          refine z_irem (v := nI (d7 % 4)) 213 C dL_law_213 (by decide) (pk_rem (by omega) (by omega) (by omega)) ?_
          refine z_callVl 214 C (As := [.int (nI ((d7 / 4) % 4)), .int (nI (d7 % 4))]) 2 kO_main rfl (c_X5_product l hg y9 S9 hA9 ((d7 / 4) % 4) (by omega) (d7 % 4) (by omega)) (cwV 2 C.1.2.2.2.2 gL_law_X5_product rfl rfl rfl (by decide +kernel) ⟨Nat.le_of_ble_eq_true rfl, Nat.le_of_ble_eq_true rfl⟩) rfl rfl (Nat.le_of_ble_eq_true rfl) ⟨Nat.le_of_ble_eq_true rfl, Nat.le_of_ble_eq_true rfl⟩ dL_law_214 (fun r u hu => ?_)
          obtain ⟨hu1, hu2⟩ := hu
          subst u
          subst r
          refine z_lcmp (v := lg_cmp (zprod (S9.1 (d7 % 4)) (S9.1 ((d7 / 4) % 4))) (zprod (S9.1 ((d7 / 4) % 4)) (S9.1 (d7 % 4)))) 217 C dL_law_217 rfl ?_
          refine z_if_ne 218 C 274 dL_law_218 (by decide) (fun h218 => absurd (by rw [zprod_comm]; exact lgc_self _) h218) (fun h218 => ?_)
          refine z_aload_n 221 C dL_law_221 rfl 4 rfl ?_
          refine z_iload 222 C dL_law_222 2 rfl ?_
          refine z_iconst (v := nI 4) 224 C dL_law_224 rfl ?_
          refine z_irem (v := nI (d7 % 4)) 225 C dL_law_225 (by decide) (pk_rem (by omega) (by omega) (by omega)) ?_
          refine z_iload 226 C dL_law_226 2 rfl ?_
          refine z_iconst (v := nI 4) 228 C dL_law_228 rfl ?_
          refine z_idiv (v := nI (d7 / 4)) 229 C dL_law_229 (by decide) (pk_div (by omega) (by omega) (by omega)) ?_
          refine z_iconst (v := nI 4) 230 C dL_law_230 rfl ?_
          refine z_irem (v := nI ((d7 / 4) % 4)) 231 C dL_law_231 (by decide) (pk_rem (by omega) (by omega) (by omega)) ?_
          refine z_callVl 232 C (As := [.int (nI (d7 % 4)), .int (nI ((d7 / 4) % 4))]) 2 kO_main rfl (c_X5_signedProduct l hg y9 S9 hA9 (d7 % 4) (by omega) ((d7 / 4) % 4) (by omega)) (cwV 2 C.1.2.2.2.2 gL_law_X5_signedProduct rfl rfl rfl (by decide +kernel) ⟨Nat.le_of_ble_eq_true rfl, Nat.le_of_ble_eq_true rfl⟩) rfl rfl (Nat.le_of_ble_eq_true rfl) ⟨Nat.le_of_ble_eq_true rfl, Nat.le_of_ble_eq_true rfl⟩ dL_law_232 (fun v10 u hu => ?_)
          obtain ⟨⟨fv10, rfl⟩, sv10⟩ := hu
          refine z_aload_n 235 C dL_law_235 rfl 4 rfl ?_
          refine z_iload 236 C dL_law_236 2 rfl ?_
          refine z_iconst (v := nI 4) 238 C dL_law_238 rfl ?_
          refine z_idiv (v := nI (d7 / 4)) 239 C dL_law_239 (by decide) (pk_div (by omega) (by omega) (by omega)) ?_
          refine z_iconst (v := nI 4) 240 C dL_law_240 rfl ?_
          refine z_irem (v := nI ((d7 / 4) % 4)) 241 C dL_law_241 (by decide) (pk_rem (by omega) (by omega) (by omega)) ?_
          refine z_iload 242 C dL_law_242 2 rfl ?_
          refine z_iconst (v := nI 4) 244 C dL_law_244 rfl ?_
          refine z_irem (v := nI (d7 % 4)) 245 C dL_law_245 (by decide) (pk_rem (by omega) (by omega) (by omega)) ?_
          refine z_callVl 246 C (As := [.int (nI ((d7 / 4) % 4)), .int (nI (d7 % 4))]) 2 kO_main rfl (c_X5_signedProduct l hg (xl y9 (zp (d7 % 4) 12) fv10) S9 (zAll_l hA9) ((d7 / 4) % 4) (by omega) (d7 % 4) (by omega)) (cwV 2 C.1.2.2.2.2 gL_law_X5_signedProduct rfl rfl rfl (by decide +kernel) ⟨Nat.le_of_ble_eq_true rfl, Nat.le_of_ble_eq_true rfl⟩) rfl rfl (Nat.le_of_ble_eq_true rfl) ⟨Nat.le_of_ble_eq_true rfl, Nat.le_of_ble_eq_true rfl⟩ dL_law_246 (fun v11 u hu => ?_)
          obtain ⟨⟨fv11, rfl⟩, sv11⟩ := hu
          refine z_lcmp (v := lg_cmp v10 v11) 249 C dL_law_249 rfl ?_
          refine z_if_ne 250 C 274 dL_law_250 (by decide) (fun h250 => absurd (by rw [zsprod_comm sv10 sv11]; exact lgc_self _) h250) (fun h250 => ?_)
          refine z_aload_n 253 C dL_law_253 rfl 4 rfl ?_
          refine z_iload 254 C dL_law_254 2 rfl ?_
          refine z_iconst (v := nI 4) 256 C dL_law_256 rfl ?_
          refine z_irem (v := nI (d7 % 4)) 257 C dL_law_257 (by decide) (pk_rem (by omega) (by omega) (by omega)) ?_
          refine z_iload 258 C dL_law_258 2 rfl ?_
          refine z_iconst (v := nI 4) 260 C dL_law_260 rfl ?_
          refine z_irem (v := nI (d7 % 4)) 261 C dL_law_261 (by decide) (pk_rem (by omega) (by omega) (by omega)) ?_
          refine z_callVl 262 C (As := [.int (nI (d7 % 4)), .int (nI (d7 % 4))]) 2 kO_main rfl (c_X5_signedProduct l hg (xl (xl y9 (zp (d7 % 4) 12) fv10) (zp ((d7 / 4) % 4) 12) fv11) S9 (zAll_l (zAll_l hA9)) (d7 % 4) (by omega) (d7 % 4) (by omega)) (cwV 2 C.1.2.2.2.2 gL_law_X5_signedProduct rfl rfl rfl (by decide +kernel) ⟨Nat.le_of_ble_eq_true rfl, Nat.le_of_ble_eq_true rfl⟩) rfl rfl (Nat.le_of_ble_eq_true rfl) ⟨Nat.le_of_ble_eq_true rfl, Nat.le_of_ble_eq_true rfl⟩ dL_law_262 (fun v12 u hu => ?_)
          obtain ⟨⟨fv12, rfl⟩, sv12⟩ := hu
          refine z_lconst (v := 0) 265 C dL_law_265 rfl ?_
          refine z_lcmp (v := lg_cmp v12 0) 266 C dL_law_266 rfl ?_
          refine z_if_lt 267 C 274 dL_law_267 (by decide) (fun h267 => absurd h267 (lgc_nn (zsprod_pos (hG9 _ (by omega)) sv12))) (fun h267 => ?_)
          refine z_iconst (v := nI 1) 270 C dL_law_270 rfl ?_
          refine z_goto 271 C 275 dL_law_271 (by decide) ?_
          refine z_istore_n (lv' := [(2, .int (nI 1)), (7, .int (nI fr)), (6, .int (nI d8)), (5, .int (nI d7)), (0, .ref g.2.2.2.2.1), (1, .ref (zad g 0)), (3, .int (nI stp)), (4, .int (nI k))]) 275 C dL_law_275 rfl (by decide) rfl ?_
          refine z_iinc (v' := nI (k + 1)) (lv' := [(4, .int (nI (k + 1))), (2, .int (nI 1)), (7, .int (nI fr)), (6, .int (nI d8)), (5, .int (nI d7)), (0, .ref g.2.2.2.2.1), (1, .ref (zad g 0)), (3, .int (nI stp))]) 276 C dL_law_276 (q := 7) rfl (zn_inc k 1) (by decide) rfl ?_
          refine z_goto 279 C 61 dL_law_279 (by decide) ?_
          refine z_lv (lv' := [(0, .ref g.2.2.2.2.1), (1, .ref (zad g 0)), (2, .int (nI 1)), (3, .int (nI stp)), (4, .int (nI (k + 1)))]) [5, 6, 1, 7, 0] rfl ?_
          exact ih61 (k + 1) (xl (xl (xl y9 (zp (d7 % 4) 12) fv10) (zp ((d7 / 4) % 4) 12) fv11) (zp (d7 % 4) 12) fv12) S9 (by omega) (by omega) (zAll_l (zAll_l (zAll_l hA9))) hG9
    refine z_lv (lv' := [(0, .ref g.2.2.2.2.1), (1, .ref (zad g 0)), (2, .int (nI 1)), (3, .int (nI stp)), (4, .int (nI 0))]) [4, 3, 2, 1, 0] rfl ?_
    exact J61 (stp + 1) 0 x S (by omega) (by omega) hA hG
