/-! rows of the signed sketch -/
theorem zsum_swap (F : Nat → Nat → Int32) (m : Nat) : ∀ n, zsum (fun a => zsum (fun b => F a b) 0 m) 0 n = zsum (fun b => zsum (fun a => F a b) 0 n) 0 m
  | 0 => (zsum_0 0 m).symm
  | n + 1 => by
    show zsum (fun a => zsum (fun b => F a b) 0 m) 0 n + zsum (fun b => F (0 + n) b) 0 m = _
    rw [zsum_swap F m n, ← zsum_add]
    rfl
theorem zrow_sum (c : Nat → Int32) (row : Nat) : zsum (fun col => zscell c row col) 0 8 = zsum (fun i => zsg row i * c i) 0 64 := by
  unfold zscell
  rw [zsum_swap (fun col i => if zscol row i = col then zsg row i * c i else 0) 64 8]
  refine zsum_congr (fun i _ _ => ?_)
  show zsum (fun col => if zscol row i = col then zsg row i * c i else 0) 0 8 = _
  have h := zsum_one (zscol row i) (zsg row i * c i) 8
  rw [if_pos (zscol_lt row i)] at h
  refine Eq.trans (zsum_congr (fun col _ _ => ?_)) h
  by_cases e : zscol row i = col
  · rw [if_pos e, if_pos e.symm]
  · rw [if_neg e, if_neg (fun z => e z.symm)]
theorem zsum_s0 (f : Nat → Int32) (i : Nat) : zsum f 0 i + f i = zsum f 0 (i + 1) := by
  show _ = zsum f 0 i + f (0 + i)
  rw [Nat.zero_add]
/-! frequent items -/
theorem znr_mem {n : Nat → Nat} {a i : Nat} : ∀ {m : Nat}, a ≤ i → i < a + m → n i ≤ znr n a m
  | 0, h1, h2 => absurd h2 (by omega)
  | m + 1, h1, h2 => by
    show n i ≤ znr n a m + n (a + m)
    by_cases e : i = a + m
    · subst e; omega
    · have := znr_mem (n := n) (a := a) (i := i) (m := m) h1 (by omega)
      omega
theorem zdivb {i lev : Nat} (hl : lev ≤ 6) : i / 2 ^ lev * 2 ^ lev ≤ i ∧ i < i / 2 ^ lev * 2 ^ lev + 2 ^ lev := by
  rcases (show lev = 0 ∨ lev = 1 ∨ lev = 2 ∨ lev = 3 ∨ lev = 4 ∨ lev = 5 ∨ lev = 6 by omega) with e | e | e | e | e | e | e <;> subst e <;> omega
theorem zq_freq {c d : Nat → Int32} {L : zCL} {aw : Int32} (h : zgx c d L aw) {i : Nat} (hi : i < 64) {w : Int32} (hw : ¬ zfreq c d i w) : c i < w := by
  obtain ⟨n, h1, h2, h3, h4⟩ := zq_est h
  refine Int32.not_le.mp (fun z => hw (fun lev hl => ?_))
  obtain ⟨e1, E, e2, e3, e4⟩ := h4 lev (i / 2 ^ lev) (by omega) (zhalf_lt hi hl)
  obtain ⟨b1, b2⟩ := zdivb (i := i) hl
  have h5 := znr_mem (n := n) b1 b2
  rw [e2]
  refine Int32.le_trans z ?_
  rw [h3 i hi]
  exact (nI_leI (by omega) (by omega)).mpr (by omega)
theorem zfrn_s_y {c d : Nat → Int32} {w : Int32} {i : Nat} (h : zfreq c d i w) : zfrn c d w (i + 1) = zfrn c d w i + 1 := by
  show zfrn c d w i + zfrb c d w i = _
  rw [zfrb_y h]
theorem zfrn_s_n {c d : Nat → Int32} {w : Int32} {i : Nat} (h : ¬ zfreq c d i w) : zfrn c d w (i + 1) = zfrn c d w i := by
  show zfrn c d w i + zfrb c d w i = _
  rw [zfrb_n h]
  omega
theorem zfrn_mono {c d : Nat → Int32} {w : Int32} {a : Nat} : ∀ m, zfrn c d w a ≤ zfrn c d w (a + m)
  | 0 => Nat.le_refl _
  | m + 1 => by
    have := zfrn_mono (c := c) (d := d) (w := w) (a := a) m
    show _ ≤ zfrn c d w (a + m) + zfrb c d w (a + m)
    omega
theorem zfrn_ex {c d : Nat → Int32} {w : Int32} {a : Nat} : ∀ b, zfrn c d w a < zfrn c d w b → ∃ k, k < b ∧ zfreq c d k w ∧ zfrn c d w k = zfrn c d w a
  | 0, h => absurd h (Nat.not_lt_zero _)
  | b + 1, h => by
    by_cases g : zfrn c d w a < zfrn c d w b
    · obtain ⟨k, h1, h2, h3⟩ := zfrn_ex b g
      exact ⟨k, by omega, h2, h3⟩
    · by_cases f : zfreq c d b w
      · rw [zfrn_s_y f] at h
        exact ⟨b, by omega, f, by omega⟩
      · rw [zfrn_s_n f] at h
        exact absurd h g
theorem zfrn_lt {c d : Nat → Int32} {w : Int32} {a b : Nat} (hf : zfreq c d a w) (h : a < b) : zfrn c d w a < zfrn c d w b := by
  have h1 := zfrn_mono (c := c) (d := d) (w := w) (a := a + 1) (b - (a + 1))
  rw [zfrn_s_y hf, show a + 1 + (b - (a + 1)) = b by omega] at h1
  omega
theorem zfrn_inj {c d : Nat → Int32} {w : Int32} {a b : Nat} (ha : zfreq c d a w) (hb : zfreq c d b w) (h : zfrn c d w a = zfrn c d w b) : a = b := by
  rcases Nat.lt_trichotomy a b with e | e | e
  · have := zfrn_lt ha e; omega
  · exact e
  · have := zfrn_lt hb e; omega
/-- there is an item at that place -/
theorem zfr_ex {c d : Nat → Int32} {w : Int32} {i : Nat} (h : zfrn c d w i < zfrn c d w 64) : ∃ k, zfrat c d w (nI (zfrn c d w i)) k := by
  obtain ⟨k, h1, h2, h3⟩ := zfrn_ex 64 h
  exact ⟨k, h1, h2, by rw [h3]⟩
theorem zfr_at {c d : Nat → Int32} {w : Int32} {i k : Nat} (hi : i < 64) (h : zfrat c d w (nI (zfrn c d w i)) k) : (zfreq c d i w → k = i) ∧ (¬ zfreq c d i w → k ≠ i) ∧ k < 64 := by
  obtain ⟨h1, h2, h3⟩ := h
  have b1 := zfrn_le c d w i
  have b2 := zfrn_le c d w k
  have h4 := (nI_eq (by omega) (by omega)).mp h3
  exact ⟨fun f => (zfrn_inj f h2 h4).symm, fun f e => f (by rw [← e]; exact h2), h1⟩
/-! ranges -/
theorem zq_rngN {c d : Nat → Int32} {L : zCL} {aw : Int32} (h : zgx c d L aw) {b : Nat} (hb : b < 64) : ∃ n : Nat → Nat, (∀ i, i < 64 → c i = nI (n i)) ∧ znsum n 64 ≤ 1000000 ∧ ∀ f a, f ≤ 65 → a ≤ b + 1 → b < a + f → ∃ E : Nat, zestR c d f a b = nI E ∧ znr n a (b + 1 - a) ≤ E ∧ E ≤ f * 1000000 := by
  obtain ⟨n, h1, h2, h3, h4⟩ := zq_est h
  refine ⟨n, h3, h1, fun f => ?_⟩
  induction f with
  | zero => intro a _ ha hf; exact ⟨0, rfl, by rw [show b + 1 - a = 0 by omega]; exact Nat.le_refl _, Nat.zero_le _⟩
  | succ f ih =>
    intro a hf5 ha hf
    by_cases c0 : a ≤ b
    · obtain ⟨g1, g2⟩ := zlev_fit c0
      have gl := zlev_le a b
      have gp := zlev_pos a b
      rw [zestR_s c0]
      obtain ⟨E', e1, e2, e3⟩ := ih (a + 2 ^ zlev a b) (by omega) (by omega) (by omega)
      obtain ⟨p1, E, p2, p3, p4⟩ := h4 (zlev a b) (a / 2 ^ zlev a b) (by omega) (zhalf_lt (by omega) gl)
      have hd : a / 2 ^ zlev a b * 2 ^ zlev a b = a := Nat.div_mul_cancel (Nat.dvd_of_mod_eq_zero g1)
      rw [hd] at p3
      have ha2 := znr_app n a (2 ^ zlev a b) (b + 1 - (a + 2 ^ zlev a b))
      rw [show 2 ^ zlev a b + (b + 1 - (a + 2 ^ zlev a b)) = b + 1 - a by omega] at ha2
      exact ⟨E + E', by rw [p2, e1]; exact nI_add _ _, by omega, by omega⟩
    · rw [zestR_e (by omega)]
      exact ⟨0, rfl, by rw [show b + 1 - a = 0 by omega]; exact Nat.le_refl _, Nat.zero_le _⟩
theorem zq_rng {c d : Nat → Int32} {L : zCL} {aw : Int32} (h : zgx c d L aw) {a b : Nat} (hab : a ≤ b) (hb : b < 64) : ¬ zestR c d 65 a b < zsum c a (b + 1 - a) := by
  obtain ⟨n, h3, h1, h5⟩ := zq_rngN h hb
  obtain ⟨E, e1, e2, e3⟩ := h5 65 a (by omega) (by omega) (by omega)
  rw [e1, zsum_znr (n := n) (fun k k1 k2 => h3 k (by omega))]
  have := znr_le (n := n) (a := a) (m := b + 1 - a) (by omega)
  exact fun z => absurd ((nI_ltI (by omega) (by omega)).mp z) (by omega)
def zptB (a b : Nat) : Bool := decide (1 ≤ zparts 65 a b) && decide (zparts 65 a b ≤ 12)
set_option maxRecDepth 100000 in
theorem zpt_all : (List.range 64).all (fun a => (List.range 64).all (fun b => decide (b < a) || zptB a b)) = true := by decide +kernel
theorem zpt_b {a b : Nat} (hab : a ≤ b) (hb : b < 64) : 1 ≤ zparts 65 a b ∧ zparts 65 a b ≤ 12 := by
  have h1 := List.all_eq_true.mp zpt_all a (List.mem_range.mpr (by omega))
  have h2 := List.all_eq_true.mp h1 b (List.mem_range.mpr hb)
  rw [Bool.or_eq_true, decide_eq_true_eq] at h2
  have h3 := h2.resolve_left (by omega)
  unfold zptB at h3
  rw [Bool.and_eq_true, decide_eq_true_eq, decide_eq_true_eq] at h3
  exact h3
/-! ranks -/
theorem zrank_b (c d : Nat → Int32) : ∀ (n : Nat) (t : Int32) (h : Nat), h * 2 ^ n ≤ zrank c d n t h ∧ zrank c d n t h < (h + 1) * 2 ^ n
  | 0, t, h => by show h * 1 ≤ h ∧ h < (h + 1) * 1; omega
  | n + 1, t, h => by
    have h1 := zrank_b c d n t (2 * h)
    have h2 := zrank_b c d n (t - zest c d n (2 * h)) (2 * h + 1)
    have e : 2 ^ (n + 1) = 2 * 2 ^ n := by rw [Nat.pow_succ]; omega
    have e1 : h * 2 ^ (n + 1) = 2 * h * 2 ^ n := by rw [e, ← Nat.mul_assoc, Nat.mul_comm h 2]
    have e2 : (h + 1) * 2 ^ (n + 1) = (2 * h + 1 + 1) * 2 ^ n := by rw [e, ← Nat.mul_assoc, Nat.mul_comm (h + 1) 2]; rfl
    have e3 : (2 * h + 1) * 2 ^ n ≤ (2 * h + 1 + 1) * 2 ^ n := Nat.mul_le_mul_right _ (by omega)
    have e4 : 2 * h * 2 ^ n ≤ (2 * h + 1) * 2 ^ n := Nat.mul_le_mul_right _ (by omega)
    have e9 : zrank c d (n + 1) t h = if t ≤ zest c d n (2 * h) then zrank c d n t (2 * h) else zrank c d n (t - zest c d n (2 * h)) (2 * h + 1) := rfl
    rw [e1, e2, e9]
    by_cases q : t ≤ zest c d n (2 * h)
    · rw [if_pos q]
      exact ⟨h1.1, Nat.lt_of_lt_of_le h1.2 e3⟩
    · rw [if_neg q]
      exact ⟨Nat.le_trans e4 h2.1, h2.2⟩
theorem zrank_m {c d : Nat → Int32} (hE : ∀ lev half, lev < 7 → half < 64 / 2 ^ lev → ∃ E : Nat, zest c d lev half = nI E ∧ E ≤ 1000000) : ∀ (n t t' h : Nat), n ≤ 6 → h < 64 / 2 ^ n → t ≤ t' → t' ≤ 1000000 → zrank c d n (nI t) h ≤ zrank c d n (nI t') h
  | 0, t, t', h, _, _, _, _ => Nat.le_refl _
  | n + 1, t, t', h, hn, hh, ht, ht' => by
    have hb : 2 * h < 64 / 2 ^ n ∧ 2 * h + 1 < 64 / 2 ^ n := by
      rcases (show n = 0 ∨ n = 1 ∨ n = 2 ∨ n = 3 ∨ n = 4 ∨ n = 5 by omega) with e | e | e | e | e | e <;> subst e <;> omega
    obtain ⟨E, e1, e2⟩ := hE n (2 * h) (by omega) hb.1
    show (if nI t ≤ zest c d n (2 * h) then zrank c d n (nI t) (2 * h) else zrank c d n (nI t - zest c d n (2 * h)) (2 * h + 1)) ≤ (if nI t' ≤ zest c d n (2 * h) then zrank c d n (nI t') (2 * h) else zrank c d n (nI t' - zest c d n (2 * h)) (2 * h + 1))
    rw [e1]
    by_cases q : t ≤ E
    · rw [if_pos ((nI_leI (by omega) (by omega)).mpr q)]
      by_cases q' : t' ≤ E
      · rw [if_pos ((nI_leI (by omega) (by omega)).mpr q')]
        exact zrank_m hE n t t' (2 * h) (by omega) hb.1 ht ht'
      · rw [if_neg (fun z => q' ((nI_leI (by omega) (by omega)).mp z))]
        exact Nat.le_of_lt (Nat.lt_of_lt_of_le (zrank_b c d n _ _).2 (zrank_b c d n _ _).1)
    · rw [if_neg (fun z => q ((nI_leI (by omega) (by omega)).mp z)), if_neg (fun z => q (Nat.le_trans ht ((nI_leI (by omega) (by omega)).mp z))), pk_sub (by omega), pk_sub (by omega)]
      exact zrank_m hE n (t - E) (t' - E) (2 * h + 1) (by omega) hb.2 (by omega) (by omega)
theorem zq_rank {c d : Nat → Int32} {L : zCL} {aw : Int32} (h : zgx c d L aw) {t t' : Nat} (ht : t ≤ t') (ht' : t' ≤ 1000000) : zrank c d 6 (nI t) 0 ≤ zrank c d 6 (nI t') 0 ∧ zrank c d 6 (nI t) 0 < 64 ∧ zrank c d 6 (nI t') 0 < 64 := by
  obtain ⟨n, h1, h2, h3, h4⟩ := zq_est h
  refine ⟨zrank_m (fun lev half hl hh => ?_) 6 t t' 0 (by omega) (by omega) ht ht', (zrank_b c d 6 _ 0).2, (zrank_b c d 6 _ 0).2⟩
  obtain ⟨e1, E, e2, e3, e4⟩ := h4 lev half hl hh
  exact ⟨E, e2, by omega⟩
/-! shares -/
theorem zdc_self {a t : Int32} (h : ¬ t = 0) (op : CmpOp) : Op.cmpValue (FP.dcmp (FP.ddiv (FP.i2d a) (FP.i2d t)) (FP.ddiv (FP.i2d a) (FP.i2d t))) op = 0 := by
  have h0 : Jvm.FP.Core.dIsNaN (FP.ddiv (FP.i2d a) (FP.i2d t)) = false := Jvm.FP.Core.ddiv_out (by rw [Jvm.FP.Core.notNaN_iff]; exact (Jvm.FP.Core.i2d_fin a).ne_nan) (Jvm.FP.Core.i2d_fin t) (fun z => Jvm.FP.Core.i2d_ne_zero h ((Jvm.FP.Core.zero_bits2 _).mp z))
  have h1 : FP.dcmp (FP.ddiv (FP.i2d a) (FP.i2d t)) (FP.ddiv (FP.i2d a) (FP.i2d t)) = some .eq := Jvm.FP.Core.dcmp_self ((Jvm.FP.Core.notNaN_iff _).mp h0)
  rw [h1]
  rfl
theorem zdc_0 (op : CmpOp) : Op.cmpValue (FP.dcmp FP.dconst0 FP.dconst0) op = 0 := by
  have h1 : FP.dcmp FP.dconst0 FP.dconst0 = some .eq := by decide +kernel
  rw [h1]
  rfl
/-! products -/
theorem zprod_comm (c c2 : Nat → Int32) : zprod c c2 = zprod c2 c := zsumL_congr (fun k _ _ => Int64.mul_comm _ _)
theorem zsprod_comm {c c2 : Nat → Int32} {m m' : Int64} (h : zsprod c c2 m) (h' : zsprod c2 c m') : m = m' := by
  refine zMid_uniq h (zMid_congr (fun k _ => ?_) h')
  exact zsumL_congr (fun k _ _ => Int64.mul_comm _ _)
theorem zsumL_i (F : Nat → Int64) (G : Nat → Nat) : ∀ n, (∀ k, k < n → F k = Int64.ofInt (G k : Int)) → zsumL F 0 n = Int64.ofInt (znsum G n : Int)
  | 0, _ => rfl
  | n + 1, h => by
    show zsumL F 0 n + F (0 + n) = Int64.ofInt ((znsum G n + G n : Nat) : Int)
    rw [zsumL_i F G n (fun k hk => h k (by omega)), Nat.zero_add, h n (by omega), ← Int64.ofInt_add]
    congr 1
theorem znsum_b {G : Nat → Nat} {B : Nat} : ∀ n, (∀ k, k < n → G k ≤ B) → znsum G n ≤ n * B
  | 0, _ => Nat.zero_le _
  | n + 1, h => by
    have h1 := znsum_b (G := G) (B := B) n (fun k hk => h k (by omega))
    have h2 := h n (by omega)
    show znsum G n + G n ≤ (n + 1) * B
    rw [Nat.add_mul]
    omega
theorem zq_sq {c d : Nat → Int32} {L : zCL} {aw : Int32} (h : zgx c d L aw) (r col : Nat) : ∃ G : Nat, (zscell c r col).toInt64 * (zscell c r col).toInt64 = Int64.ofInt (G : Int) ∧ G ≤ 1000000000000 := by
  obtain ⟨n, hb, -, -⟩ := h
  obtain ⟨z, z1, z2, z3⟩ := zscell_int (r := r) (col := col) hb.1
  have hT := hb.2.2.1
  have e1 : zscell c r col = Int32.ofInt z := z1
  have e2 : (zscell c r col).toInt64 = Int64.ofInt z := by
    apply Int64.toInt_inj.mp
    rw [Int32.toInt_toInt64, e1, Int32.toInt_ofInt_of_le (by omega) (by omega), Int64.toInt_ofInt_of_le (by omega) (by omega)]
  have e3 : z * z = ((z.natAbs * z.natAbs : Nat) : Int) := (Int.natAbs_mul_self (a := z)).symm
  refine ⟨z.natAbs * z.natAbs, ?_, ?_⟩
  · rw [e2, ← Int64.ofInt_mul, e3]
  · have h1 : z.natAbs ≤ 1000000 := by omega
    exact Nat.le_trans (Nat.mul_le_mul h1 h1) (by omega)
theorem zsprod_pos {c d : Nat → Int32} {L : zCL} {aw : Int32} (h : zgx c d L aw) {m : Int64} (hm : zsprod c c m) : ¬ m < 0 := by
  obtain ⟨k, hk, e⟩ := hm.1
  obtain ⟨G, hG⟩ : ∃ G : Nat → Nat, ∀ col, (zscell c k col).toInt64 * (zscell c k col).toInt64 = Int64.ofInt (G col : Int) ∧ G col ≤ 1000000000000 := ⟨fun col => Classical.choose (zq_sq h k col), fun col => Classical.choose_spec (zq_sq h k col)⟩
  have h1 := zsumL_i (fun col => (zscell c k col).toInt64 * (zscell c k col).toInt64) G 8 (fun col _ => (hG col).1)
  have h2 := znsum_b (G := G) 8 (fun col _ => (hG col).2)
  have e9 : m = Int64.ofInt (znsum G 8 : Int) := e.symm.trans h1
  rw [e9, Int64.lt_iff_toInt_lt, Int64.toInt_ofInt_of_le (by omega) (by omega)]
  have h0 : (0 : Int64).toInt = 0 := by decide
  omega
theorem zsumL_0 : ∀ n, zsumL (fun _ => 0) 0 n = 0
  | 0 => rfl
  | n + 1 => by
    show zsumL (fun _ => 0) 0 n + 0 = 0
    rw [zsumL_0 n]
    rfl
theorem zsprod_0 {c2 : Nat → Int32} {m : Int64} (hm : zsprod (fun _ => 0) c2 m) : m = 0 := by
  obtain ⟨k, hk, e⟩ := hm.1
  rw [← e, ← zsumL_0 8]
  refine zsumL_congr (fun col _ _ => ?_)
  rw [zscell_0]
  exact Int64.zero_mul
theorem zsprod_00 {c2 : Nat → Int32} {m : Int64} (hm : zsprod c2 (fun _ => 0) m) : m = 0 := by
  obtain ⟨k, hk, e⟩ := hm.1
  rw [← e, ← zsumL_0 8]
  refine zsumL_congr (fun col _ _ => ?_)
  rw [zscell_0]
  exact Int64.mul_zero
/-! what an add and a merge show -/
theorem ztot_add (c c2 : Nat → Int32) : ztot (fun k => c k + c2 k) = ztot c + ztot c2 := zsum_add c c2 0 64
theorem ztot_upd {c : Nat → Int32} {i : Nat} {w : Int32} (hi : i < 64) : ztot (upd c i (c i + w)) = ztot c + w := by
  unfold ztot
  have e := zsum_one i w 64
  rw [if_pos hi] at e
  refine Eq.trans (zsum_congr (g := fun k => c k + (if k = i then w else 0)) (fun k _ _ => ?_)) ((zsum_add c (fun k => if k = i then w else 0) 0 64).trans (by rw [e]))
  by_cases h : k = i
  · subst h
    rw [pk_us, if_pos rfl]
  · rw [pk_un h, if_neg h, Int32.add_zero]
theorem zlN_put (m : Nat → Nat) (h w : Nat) : zlN (zcN m h w) h = zlN m h + w := by
  have p0 : zcN m h w (zcp 0 h) = max (m (zcp 0 h)) (zlN m h + w) := if_pos (Or.inl rfl)
  have p1 : zcN m h w (zcp 1 h) = max (m (zcp 1 h)) (zlN m h + w) := if_pos (Or.inr (Or.inl rfl))
  have p2 : zcN m h w (zcp 2 h) = max (m (zcp 2 h)) (zlN m h + w) := if_pos (Or.inr (Or.inr rfl))
  unfold zlN at p0 p1 p2 ⊢
  rw [p0, p1, p2]
  omega
theorem zq_estadd {c d : Nat → Int32} {L : zCL} {aw : Int32} (h : zgx c d L aw) {i w : Nat} (hw : w ≤ 1000) (c' : Nat → Int32) : zest c' (zdput d i (nI w)) 0 i = zest c d 0 i + nI w := by
  obtain ⟨n, hb, ⟨m, h1, h2⟩, -⟩ := h
  have hT := hb.2.2.1
  have e1 : zest c d 0 i = nI (zlN m i) := by
    refine (if_pos (by omega)).trans ?_
    refine zleast_nat (T := znsum n 64) (by omega) (fun q => ?_)
    rw [show 24 * 0 + q = q by omega]
    exact h1 q
  have hc := fun q => zcput_nat (f := d) (m := m) (T := znsum n 64) (h := i) (w := w) (by omega) h1 q
  have e2 : zest c' (zdput d i (nI w)) 0 i = nI (zlN (zcN m i w) i) := by
    refine (if_pos (by omega)).trans ?_
    refine (zleast_congr (g := zcput d i (nI w)) (fun q hq => ?_)).trans (zleast_nat (T := znsum n 64 + w) (by omega) hc)
    show zdput d i (nI w) (24 * 0 + q) = _
    rw [show 24 * 0 + q = q by omega]
    unfold zdput
    rw [if_pos hq, show i / 2 ^ 0 = i from Nat.div_one i]
  rw [e2, e1, zlN_put, nI_add]
theorem zq_signed {c : Nat → Int32} {i : Nat} {w : Int32} (hi : i < 64) (r : Nat) : zscell (upd c i (c i + w)) r (zscol r i) = zscell c r (zscol r i) + zsg r i * w := by
  rw [zscell_put hi, if_pos rfl]
theorem zq_taken {c d c2 d2 : Nat → Int32} {L K : zCL} {aw ow : Int32} (h : zgx c d L aw) (h' : zgx c2 d2 K ow) : ¬ aw + ow + zmrgw L K < aw + ow := by
  obtain ⟨n, hb, hk, hf⟩ := h
  obtain ⟨m, gb, gk, gf⟩ := h'
  obtain ⟨-, z, z1, z2⟩ := zfw_mrg hb.2.2.2.2 gb.2.2.2.2 hb.2.2.2.1 gb.2.2.2.1 hf gf (zbs_le hb) (zbs_le gb)
  obtain ⟨t, f1, -, f3⟩ := hf
  obtain ⟨u, g1, -, g3⟩ := gf
  have hT := hb.2.2.1
  have gT := gb.2.2.1
  rw [f1, g1, z1, nI_add, nI_add]
  exact fun y => absurd ((nI_ltI (by omega) (by omega)).mp y) (by omega)
