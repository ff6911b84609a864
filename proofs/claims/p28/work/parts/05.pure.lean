/-! ===== sums, the tree of halves ===== -/
def zsum (f : Nat → Int32) (a : Nat) : Nat → Int32
  | 0 => 0
  | n + 1 => zsum f a n + f (a + n)
def zsumL (f : Nat → Int64) (a : Nat) : Nat → Int64
  | 0 => 0
  | n + 1 => zsumL f a n + f (a + n)
theorem zsum_s (f : Nat → Int32) {a i : Nat} (h : a ≤ i) : zsum f a (i + 1 - a) = zsum f a (i - a) + f i := by
  rw [show i + 1 - a = (i - a) + 1 by omega]
  show zsum f a (i - a) + f (a + (i - a)) = _
  rw [show a + (i - a) = i by omega]
theorem zsumL_s (f : Nat → Int64) {a i : Nat} (h : a ≤ i) : zsumL f a (i + 1 - a) = zsumL f a (i - a) + f i := by
  rw [show i + 1 - a = (i - a) + 1 by omega]
  show zsumL f a (i - a) + f (a + (i - a)) = _
  rw [show a + (i - a) = i by omega]
theorem zsum_congr {f g : Nat → Int32} {a : Nat} : ∀ {n : Nat}, (∀ k, a ≤ k → k < a + n → f k = g k) → zsum f a n = zsum g a n
  | 0, _ => rfl
  | n + 1, h => by
    show zsum f a n + f (a + n) = zsum g a n + g (a + n)
    rw [zsum_congr (n := n) (fun k h1 h2 => h k h1 (by omega)), h (a + n) (by omega) (by omega)]
theorem zsumL_congr {f g : Nat → Int64} {a : Nat} : ∀ {n : Nat}, (∀ k, a ≤ k → k < a + n → f k = g k) → zsumL f a n = zsumL g a n
  | 0, _ => rfl
  | n + 1, h => by
    show zsumL f a n + f (a + n) = zsumL g a n + g (a + n)
    rw [zsumL_congr (n := n) (fun k h1 h2 => h k h1 (by omega)), h (a + n) (by omega) (by omega)]
theorem zsum_app (f : Nat → Int32) (a m : Nat) : ∀ n : Nat, zsum f a (m + n) = zsum f a m + zsum f (a + m) n
  | 0 => by
    show zsum f a m = zsum f a m + 0
    rw [Int32.add_zero]
  | n + 1 => by
    show zsum f a (m + n) + f (a + (m + n)) = zsum f a m + (zsum f (a + m) n + f (a + m + n))
    rw [zsum_app f a m n, Int32.add_assoc, Nat.add_assoc]
/-- the counts of the halves: c on the leaves, every other one the sum of its two parts -/
def zTree (f c : Nat → Int32) : Prop := (∀ k, k < 64 → f (64 + k) = c k) ∧ ∀ q, 1 ≤ q → q < 64 → f q = f (2 * q) + f (2 * q + 1)
theorem zTree_half {f c : Nat → Int32} (h : zTree f c) : ∀ lev half : Nat, lev ≤ 6 → half < 64 / 2 ^ lev → f (64 / 2 ^ lev + half) = zsum c (half * 2 ^ lev) (2 ^ lev)
  | 0, half, _, hh => by
    have h1 : half < 64 := by simpa using hh
    rw [show 64 / 2 ^ 0 = 64 by decide, h.1 half h1]
    show _ = zsum c (half * 1) 0 + c (half * 1 + 0)
    rw [show zsum c (half * 1) 0 = 0 from rfl, Int32.zero_add, Nat.mul_one, Nat.add_zero]
  | lev + 1, half, hl, hh => by
    have e9 : lev = 0 ∨ lev = 1 ∨ lev = 2 ∨ lev = 3 ∨ lev = 4 ∨ lev = 5 := by omega
    have e1 : 64 / 2 ^ lev = 2 * (64 / 2 ^ (lev + 1)) := by rcases e9 with e | e | e | e | e | e <;> subst e <;> decide
    have e2 : 1 ≤ 64 / 2 ^ (lev + 1) := by rcases e9 with e | e | e | e | e | e <;> subst e <;> decide
    have e3 : 64 / 2 ^ (lev + 1) ≤ 32 := by rcases e9 with e | e | e | e | e | e <;> subst e <;> decide
    have h1 := zTree_half h lev (2 * half) (by omega) (by omega)
    have h2 := zTree_half h lev (2 * half + 1) (by omega) (by omega)
    rw [h.2 _ (by omega) (by omega), show 2 * (64 / 2 ^ (lev + 1) + half) = 64 / 2 ^ lev + 2 * half by omega, show 64 / 2 ^ lev + 2 * half + 1 = 64 / 2 ^ lev + (2 * half + 1) by omega, h1, h2]
    have e4 : 2 ^ (lev + 1) = 2 ^ lev + 2 ^ lev := by rw [Nat.pow_succ]; omega
    rw [e4, zsum_app]
    congr 2
    · rw [Nat.mul_add, Nat.mul_comm 2 half, Nat.mul_assoc, Nat.two_mul, Nat.mul_add]
    · rw [Nat.mul_add, Nat.add_mul, Nat.one_mul, Nat.mul_comm 2 half, Nat.mul_assoc, Nat.two_mul, Nat.mul_add]
/-- on the way up: every node but q, and those above it, is right already -/
def zTreeU (f c : Nat → Int32) (w : Int32) (q : Nat) : Prop := (∀ k, k < 64 → f (64 + k) + (if 64 + k = q then w else 0) = c k) ∧ ∀ p, 1 ≤ p → p < 64 → f p + (if p = q then w else 0) = f (2 * p) + f (2 * p + 1)
theorem zTreeU_0 {f c : Nat → Int32} {w : Int32} {i : Nat} (h : zTree f c) : zTreeU f (upd c i (c i + w)) w (64 + i) := by
  refine ⟨fun k hk => ?_, fun p h1 h2 => ?_⟩
  · by_cases e : k = i
    · subst e
      rw [if_pos rfl, h.1 k hk, pk_us]
    · rw [if_neg (by omega), pk_un e, h.1 k hk, Int32.add_zero]
  · rw [if_neg (by omega), Int32.add_zero, h.2 p h1 h2]
theorem zTreeU_s {f c : Nat → Int32} {w : Int32} {q : Nat} (hq : 1 ≤ q) (hq2 : q < 128) (h : zTreeU f c w q) : zTreeU (upd f q (f q + w)) c w (q / 2) := by
  refine ⟨fun k hk => ?_, fun p h1 h2 => ?_⟩
  · by_cases e : 64 + k = q
    · subst e
      have h3 := h.1 k hk
      rw [if_pos rfl] at h3
      rw [pk_us, if_neg (by omega), Int32.add_zero, h3]
    · have h3 := h.1 k hk
      rw [if_neg e, Int32.add_zero] at h3
      rw [pk_un e, if_neg (by omega), Int32.add_zero, h3]
  · have h3 := h.2 p h1 h2
    by_cases e : p = q
    · subst e
      rw [if_pos rfl] at h3
      rw [pk_us, if_neg (by omega), Int32.add_zero, pk_un (by omega), pk_un (by omega), h3]
    · rw [if_neg e, Int32.add_zero] at h3
      rw [pk_un e]
      by_cases e2 : p = q / 2
      · rw [if_pos e2, h3]
        by_cases e3 : 2 * p = q
        · rw [e3, pk_us, pk_un (by omega), Int32.add_assoc, Int32.add_comm (f (q + 1)) w, Int32.add_assoc]
        · have e4 : 2 * p + 1 = q := by omega
          rw [e4, pk_us, pk_un (by omega), Int32.add_assoc]
      · rw [if_neg e2, Int32.add_zero, pk_un (by omega), pk_un (by omega), h3]
theorem zTreeU_e {f c : Nat → Int32} {w : Int32} (h : zTreeU f c w 0) : zTree f c := by
  refine ⟨fun k hk => ?_, fun p h1 h2 => ?_⟩
  · have h3 := h.1 k hk
    rw [if_neg (by omega), Int32.add_zero] at h3
    exact h3
  · have h3 := h.2 p h1 h2
    rw [if_neg (by omega), Int32.add_zero] at h3
    exact h3
theorem zTree_add {f f' c c' : Nat → Int32} (h : zTree f c) (h' : zTree f' c') {F : Nat → Int32} (hF : ∀ q, q < 128 → F q = f q + f' q) : zTree F (fun k => c k + c' k) := by
  refine ⟨fun k hk => ?_, fun p h1 h2 => ?_⟩
  · show F (64 + k) = c k + c' k
    rw [hF _ (by omega), h.1 k hk, h'.1 k hk]
  · rw [hF p (by omega), hF _ (by omega), hF _ (by omega), h.2 p h1 h2, h'.2 p h1 h2]
    ac_rfl
theorem zTree_0 {F : Nat → Int32} (hF : ∀ q, q < 128 → F q = 0) : zTree F (fun _ => 0) := by
  refine ⟨fun k hk => hF _ (by omega), fun p h1 h2 => ?_⟩
  rw [hF p (by omega), hF _ (by omega), hF _ (by omega)]
  rfl
