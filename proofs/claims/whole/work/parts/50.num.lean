-- numbers
def m1 : Int32 := -1
def m4 : Int32 := -4
theorem q_0 : (0 : Int32) = nI 0 := rfl
theorem q_1 : (1 : Int32) = nI 1 := rfl
theorem q_2 : (2 : Int32) = nI 2 := rfl
theorem q_3 : (3 : Int32) = nI 3 := rfl
theorem q_4 : (4 : Int32) = nI 4 := rfl
theorem q_5 : (5 : Int32) = nI 5 := rfl
theorem q_6 : (6 : Int32) = nI 6 := rfl
theorem q_8 : (8 : Int32) = nI 8 := rfl
theorem q_12 : (12 : Int32) = nI 12 := rfl
theorem q_15 : (15 : Int32) = nI 15 := rfl
theorem q_16 : (16 : Int32) = nI 16 := rfl
theorem q_20 : (20 : Int32) = nI 20 := rfl
theorem q_24 : (24 : Int32) = nI 24 := rfl
theorem q_30 : (30 : Int32) = nI 30 := rfl
theorem q_31 : (31 : Int32) = nI 31 := rfl
theorem q_32 : (32 : Int32) = nI 32 := rfl
theorem q_80 : (80 : Int32) = nI 80 := rfl
theorem q_9 : (9 : Int32) = nI 9 := rfl
theorem q_99 : (99 : Int32) = nI 99 := rfl
theorem q_126 : (126 : Int32) = nI 126 := rfl
theorem q_48 : (48 : Int32) = nI 48 := rfl
theorem q_57 : (57 : Int32) = nI 57 := rfl
theorem q_58 : (58 : Int32) = nI 58 := rfl
theorem q_59 : (59 : Int32) = nI 59 := rfl
theorem q_97 : (97 : Int32) = nI 97 := rfl
theorem q_101 : (101 : Int32) = nI 101 := rfl
theorem q_10 : (10 : Int32) = nI 10 := rfl
theorem q_21 : (21 : Int32) = nI 21 := rfl
theorem q_255 : (255 : Int32) = nI 255 := rfl
theorem q_46656 : (46656 : Int32) = nI 46656 := rfl
theorem d_let {a b : Nat} (h : a ≤ b) : (a ≤ b) = True := eq_true h
theorem d_lef {a b : Nat} (h : b < a) : (a ≤ b) = False := eq_false (by omega)
theorem d_ltt {a b : Nat} (h : a < b) : (a < b) = True := eq_true h
theorem d_ltf {a b : Nat} (h : b ≤ a) : (a < b) = False := eq_false (by omega)
theorem d_eqt {a b : Nat} (h : a = b) : (a = b) = True := eq_true h
theorem d_eqf {a b : Nat} (h : a ≠ b) : (a = b) = False := eq_false h
theorem q_ofNat (n : Nat) : Int32.ofNat n = nI n := rfl
theorem q_m1 : -nI 1 = m1 := rfl
theorem q_m4 : -nI 4 = m4 := rfl
theorem q_cl {n : Nat} (h : n < 2147483648) : (nI n).toNatClampNeg = n := nI_clamp h
theorem q_lt {a b : Nat} (ha : a < 2147483648) (hb : b < 2147483648) : (nI a < nI b) = (a < b) := propext (nI_ltI ha hb)
theorem q_le {a b : Nat} (ha : a < 2147483648) (hb : b < 2147483648) : (nI a ≤ nI b) = (a ≤ b) := propext (nI_leI ha hb)
theorem q_eq {a b : Nat} (ha : a < 2147483648) (hb : b < 2147483648) : (nI a = nI b) = (a = b) := propext (nI_eq ha hb)
theorem m1_toInt : m1.toInt = -1 := by decide
theorem m4_toInt : m4.toInt = -4 := by decide
theorem m1_lt {a : Nat} (ha : a < 2147483648) : (m1 < nI a) = True := by
  rw [Int32.lt_iff_toInt_lt, m1_toInt, nI_toInt ha]; exact eq_true (by omega)
theorem m1_le {a : Nat} (ha : a < 2147483648) : (m1 ≤ nI a) = True := by
  rw [Int32.le_iff_toInt_le, m1_toInt, nI_toInt ha]; exact eq_true (by omega)
theorem m1_nlt {a : Nat} (ha : a < 2147483648) : (nI a < m1) = False := by
  rw [Int32.lt_iff_toInt_lt, m1_toInt, nI_toInt ha]; exact eq_false (by omega)
theorem m1_nle {a : Nat} (ha : a < 2147483648) : (nI a ≤ m1) = False := by
  rw [Int32.le_iff_toInt_le, m1_toInt, nI_toInt ha]; exact eq_false (by omega)
theorem m1_ne {a : Nat} (ha : a < 2147483648) : (nI a = m1) = False := by
  rw [← Int32.toInt_inj, m1_toInt, nI_toInt ha]; exact eq_false (by omega)
theorem m1_ne2 {a : Nat} (ha : a < 2147483648) : (m1 = nI a) = False := by
  rw [← Int32.toInt_inj, m1_toInt, nI_toInt ha]; exact eq_false (by omega)
theorem m4_lt {a : Nat} (ha : a < 2147483648) : (m4 < nI a) = True := by
  rw [Int32.lt_iff_toInt_lt, m4_toInt, nI_toInt ha]; exact eq_true (by omega)
theorem m4_le {a : Nat} (ha : a < 2147483648) : (m4 ≤ nI a) = True := by
  rw [Int32.le_iff_toInt_le, m4_toInt, nI_toInt ha]; exact eq_true (by omega)
theorem m4_nlt {a : Nat} (ha : a < 2147483648) : (nI a < m4) = False := by
  rw [Int32.lt_iff_toInt_lt, m4_toInt, nI_toInt ha]; exact eq_false (by omega)
theorem m4_nle {a : Nat} (ha : a < 2147483648) : (nI a ≤ m4) = False := by
  rw [Int32.le_iff_toInt_le, m4_toInt, nI_toInt ha]; exact eq_false (by omega)
theorem m4_ne {a : Nat} (ha : a < 2147483648) : (nI a = m4) = False := by
  rw [← Int32.toInt_inj, m4_toInt, nI_toInt ha]; exact eq_false (by omega)
theorem m4_ne2 {a : Nat} (ha : a < 2147483648) : (m4 = nI a) = False := by
  rw [← Int32.toInt_inj, m4_toInt, nI_toInt ha]; exact eq_false (by omega)
theorem q_sub {a b : Nat} (h : b ≤ a) : nI a - nI b = nI (a - b) := pk_sub h
theorem q_div {a d : Nat} (ha : a < 2147483648) (h0 : 0 < d) (hd : d < 2147483648) : nI a / nI d = nI (a / d) := pk_div ha h0 hd
theorem q_rem {a d : Nat} (ha : a < 2147483648) (h0 : 0 < d) (hd : d < 2147483648) : nI a - nI a / nI d * nI d = nI (a % d) := pk_rem ha h0 hd
theorem q_pm (n : Nat) : nI (n + 1) + m1 = nI n := pk_m1 n
theorem q_a31 {b : Nat} (hb : b < 31) : nI b &&& nI 31 = nI b := by
  rw [pk_andN (by omega) 5 (by decide), Nat.mod_eq_of_lt (by omega)]
theorem q_sm {b : Nat} (hb : b < 31) : ((nI b).toBitVec.smod 32).toNat = b := by
  revert b
  intro b hb
  exact co_dec (N := 31) (P := fun b => ((nI b).toBitVec.smod 32).toNat = b) (by decide +kernel) hb
theorem q_bit {x b : Nat} (hx : x < 2147483648) (hb : b < 31) : ((nI x >>> (nI b &&& nI 31)) &&& nI 1) = nI (x / 2 ^ b % 2) := by
  rw [q_a31 hb, pk_shrN hx (nI b) b (q_sm hb), pk_andN (Nat.lt_of_le_of_lt (Nat.div_le_self _ _) (by omega)) 1 (by decide)]
theorem q_pow {b : Nat} (hb : b < 31) : 2 ^ b < 2147483648 := Nat.pow_lt_pow_right (by decide) hb
theorem q_shl {b : Nat} (hb : b < 31) : nI 1 <<< (nI b &&& nI 31) = nI (2 ^ b) := by
  have := q_pow hb
  rw [q_a31 hb, pk_shlN (nI b) b (q_sm hb) (by omega), Nat.one_mul]
theorem q_or (a b : Nat) : nI a ||| nI b = nI (a ||| b) := by
  apply Int32.toBitVec_inj.1
  apply BitVec.eq_of_toNat_eq
  show ((nI a).toBitVec ||| (nI b).toBitVec).toNat = (nI (a ||| b)).toBitVec.toNat
  show ((BitVec.ofNat 32 a) ||| (BitVec.ofNat 32 b)).toNat = (BitVec.ofNat 32 (a ||| b)).toNat
  rw [← BitVec.ofNat_or]
theorem q_and (a b : Nat) : nI a &&& nI b = nI (a &&& b) := by
  apply Int32.toBitVec_inj.1
  apply BitVec.eq_of_toNat_eq
  show ((BitVec.ofNat 32 a) &&& (BitVec.ofNat 32 b)).toNat = (BitVec.ofNat 32 (a &&& b)).toNat
  rw [← BitVec.ofNat_and]
-- loops
theorem b_run {α β : Type} {x : Option α} {a : α} {g : α → Option β} {y : Option β} (h : x = some a) (hg : g a = y) : x.bind g = y := by
  subst h; exact hg
theorem lp_run {σ ρ : Type} {b : σ → Option (σ ⊕ ρ)} (st : Nat → σ) {r : ρ} : ∀ (K N i : Nat), K < N → (∀ k, k < K → b (st (i + k)) = some (.inl (st (i + k + 1)))) → b (st (i + K)) = some (.inr r) → lp b N (st i) = some r := by
  intro K
  induction K with
  | zero =>
    intro N i hN _ he
    obtain ⟨n, rfl⟩ : ∃ n, N = n + 1 := ⟨N - 1, by omega⟩
    unfold lp
    rw [show b (st i) = some (.inr r) from he]
  | succ K ih =>
    intro N i hN hs he
    obtain ⟨n, rfl⟩ : ∃ n, N = n + 1 := ⟨N - 1, by omega⟩
    unfold lp
    rw [show b (st i) = some (.inl (st (i + 1))) from hs 0 (by omega)]
    refine ih n (i + 1) (by omega) (fun k hk => ?_) ?_
    · have := hs (k + 1) (by omega)
      rw [show i + (k + 1) = i + 1 + k by omega] at this
      exact this
    · rw [show i + 1 + K = i + (K + 1) by omega]; exact he
theorem lp_for {σ ρ : Type} {b : σ → Option (σ ⊕ ρ)} {N : Nat} {s : σ} {r : ρ} (st : Nat → σ) (n : Nat) (hN : n < N) (h0 : s = st 0) (h1 : ∀ k, k < n → b (st k) = some (.inl (st (k + 1)))) (h2 : b (st n) = some (.inr r)) : lp b N s = some r := by
  subst h0
  refine lp_run st n N 0 hN (fun k hk => ?_) ?_
  · rw [Nat.zero_add]; exact h1 k hk
  · rw [Nat.zero_add]; exact h2
def ff (P : Nat → Bool) : Nat → Nat → Nat
  | i, 0 => i
  | i, n + 1 => if P i then i else ff P (i + 1) n
theorem ff_le (P : Nat → Bool) : ∀ n i, i ≤ ff P i n ∧ ff P i n ≤ i + n := by
  intro n
  induction n with
  | zero => intro i; unfold ff; omega
  | succ n ih =>
    intro i; unfold ff
    split
    · omega
    · have := ih (i + 1); omega
theorem ff_no (P : Nat → Bool) : ∀ n i j, i ≤ j → j < ff P i n → P j = false := by
  intro n
  induction n with
  | zero => intro i j h1 h2; unfold ff at h2; omega
  | succ n ih =>
    intro i j h1 h2; unfold ff at h2
    split at h2
    · omega
    · rename_i hp
      by_cases e : i = j
      · subst e; exact Bool.eq_false_iff.mpr hp
      · exact ih (i + 1) j (by omega) h2
theorem ff_yes (P : Nat → Bool) : ∀ n i, ff P i n < i + n → P (ff P i n) = true := by
  intro n
  induction n with
  | zero => intro i h; unfold ff at h; omega
  | succ n ih =>
    intro i h; unfold ff at h ⊢
    split at h
    · rename_i hp; rw [if_pos hp]; exact hp
    · rename_i hp; rw [if_neg hp]; exact ih (i + 1) (by omega)
theorem ff_is (P : Nat → Bool) {n i k : Nat} (h1 : i ≤ k) (h2 : k < i + n) (h3 : P k = true) (h4 : ∀ j, i ≤ j → j < k → P j = false) : ff P i n = k := by
  have a := ff_le P n i
  by_cases h : ff P i n < k
  · have := ff_yes P n i (by omega)
    rw [h4 _ a.1 h] at this; cases this
  · by_cases h' : k < ff P i n
    · have := ff_no P n i k h1 h'
      rw [h3] at this; cases this
    · omega
theorem ff_end (P : Nat → Bool) {n i : Nat} (h4 : ∀ j, i ≤ j → j < i + n → P j = false) : ff P i n = i + n := by
  have a := ff_le P n i
  by_cases h : ff P i n < i + n
  · have := ff_yes P n i h
    rw [h4 _ a.1 h] at this; cases this
  · omega
theorem ff_congr {P Q : Nat → Bool} : ∀ n i, (∀ j, i ≤ j → j < i + n → P j = Q j) → ff P i n = ff Q i n := by
  intro n
  induction n with
  | zero => intro i _; rfl
  | succ n ih =>
    intro i h; unfold ff
    rw [h i (by omega) (by omega), ih (i + 1) (fun j a b => h j (by omega) (by omega))]
theorem lp_find {σ ρ : Type} {b : σ → Option (σ ⊕ ρ)} {N : Nat} {s : σ} (st : Nat → σ) (P : Nat → Bool) (n i : Nat) (ry : Nat → ρ) (rn : ρ) (hN : n < N) (hi : i ≤ n) (h0 : s = st i)
    (h1 : ∀ k, i ≤ k → k < n → P k = false → b (st k) = some (.inl (st (k + 1)))) (h2 : ∀ k, i ≤ k → k < n → P k = true → b (st k) = some (.inr (ry k))) (h3 : b (st n) = some (.inr rn)) :
    lp b N s = some (if ff P i (n - i) < n then ry (ff P i (n - i)) else rn) := by
  subst h0
  have a := ff_le P (n - i) i
  refine lp_run st (ff P i (n - i) - i) N i (by omega) (fun k hk => h1 _ (by omega) (by omega) (ff_no P (n - i) i _ (by omega) (by omega))) ?_
  rw [show i + (ff P i (n - i) - i) = ff P i (n - i) by omega]
  split
  · exact h2 _ a.1 (by omega) (ff_yes P (n - i) i (by omega))
  · rw [show ff P i (n - i) = n by omega]; exact h3
def it {α : Type} (f : Nat → α → α) (a : α) : Nat → α
  | 0 => a
  | k + 1 => f k (it f a k)
theorem it_congr {α : Type} {f g : Nat → α → α} {a : α} : ∀ n, (∀ k x, k < n → f k x = g k x) → it f a n = it g a n := by
  intro n
  induction n with
  | zero => intro _; rfl
  | succ n ih => intro h; unfold it; rw [ih (fun k x hk => h k x (by omega)), h n _ (by omega)]
def sm (f : Nat → Nat) : Nat → Nat
  | 0 => 0
  | n + 1 => sm f n + f n
theorem sm_congr {f g : Nat → Nat} : ∀ n, (∀ k, k < n → f k = g k) → sm f n = sm g n := by
  intro n
  induction n with
  | zero => intro _; rfl
  | succ n ih => intro h; unfold sm; rw [ih (fun k hk => h k (by omega)), h n (by omega)]
theorem sm_le {f : Nat → Nat} {m : Nat} : ∀ n, (∀ k, k < n → f k ≤ m) → sm f n ≤ n * m := by
  intro n
  induction n with
  | zero => intro _; unfold sm; omega
  | succ n ih =>
    intro h; unfold sm
    have := ih (fun k hk => h k (by omega)); have := h n (by omega)
    rw [Nat.succ_mul]; omega
theorem sm_mono {f g : Nat → Nat} : ∀ n, (∀ k, k < n → f k ≤ g k) → sm f n ≤ sm g n := by
  intro n
  induction n with
  | zero => intro _; exact Nat.le_refl _
  | succ n ih =>
    intro h; unfold sm
    have := ih (fun k hk => h k (by omega)); have := h n (by omega)
    omega
-- sets as bits
def bs (P : Nat → Bool) (n : Nat) : Nat := sm (fun b => if P b then 2 ^ b else 0) n
theorem bs_lt (P : Nat → Bool) : ∀ n, bs P n < 2 ^ n := by
  intro n
  induction n with
  | zero => show 0 < 1; decide
  | succ n ih =>
    show bs P n + (if P n then 2 ^ n else 0) < 2 ^ (n + 1)
    rw [Nat.pow_succ]
    split <;> omega
theorem bs_or (P : Nat → Bool) (n : Nat) : bs P (n + 1) = if P n then bs P n ||| 2 ^ n else bs P n := by
  show bs P n + (if P n then 2 ^ n else 0) = _
  split
  · have := Nat.two_pow_add_eq_or_of_lt (bs_lt P n) 1
    rw [Nat.mul_one] at this
    rw [Nat.or_comm, ← this, Nat.add_comm]
  · rw [Nat.add_zero]
theorem bs_bit (P : Nat → Bool) : ∀ n k, bs P n / 2 ^ k % 2 = if k < n ∧ P k = true then 1 else 0 := by
  intro n
  induction n with
  | zero =>
    intro k
    rw [if_neg (fun h => absurd h.1 (Nat.not_lt_zero k))]
    show 0 / 2 ^ k % 2 = 0
    rw [Nat.zero_div]
  | succ n ih =>
    intro k
    have hl := bs_lt P n
    show (bs P n + (if P n then 2 ^ n else 0)) / 2 ^ k % 2 = _
    by_cases hk : k < n
    · have e : (bs P n + (if P n then 2 ^ n else 0)) / 2 ^ k % 2 = bs P n / 2 ^ k % 2 := by
        split
        · rw [show 2 ^ n = 2 ^ k * (2 * 2 ^ (n - k - 1)) by rw [← Nat.pow_succ', ← Nat.pow_add]; congr 1; omega, Nat.add_mul_div_left _ _ (Nat.two_pow_pos k), Nat.add_mul_mod_self_left]
        · rw [Nat.add_zero]
      rw [e, ih k]
      by_cases hp : P k = true
      · rw [if_pos ⟨hk, hp⟩, if_pos ⟨by omega, hp⟩]
      · rw [if_neg (fun h => hp h.2), if_neg (fun h => hp h.2)]
    · by_cases he : k = n
      · subst he
        by_cases hp : P k = true
        · rw [if_pos hp, if_pos ⟨by omega, hp⟩, Nat.add_div_right _ (Nat.two_pow_pos k), Nat.div_eq_of_lt hl]
        · rw [if_neg hp, if_neg (fun h => hp h.2), Nat.add_zero, Nat.div_eq_of_lt hl]
      · rw [show (if k < n + 1 ∧ P k = true then 1 else 0) = 0 from if_neg (fun h => by omega)]
        have : 2 ^ (n + 1) ≤ 2 ^ k := Nat.pow_le_pow_right (by decide) (by omega)
        rw [Nat.div_eq_of_lt]
        rw [Nat.pow_succ] at this
        split <;> omega
theorem q_bs {P : Nat → Bool} {n k : Nat} (hn : n ≤ 30) (hk : k < n) : (((nI (bs P n) >>> (nI k &&& nI 31)) &&& nI 1) = nI 1) = (P k = true) := by
  have h1 := bs_lt P n
  have h2 : 2 ^ n ≤ 2 ^ 30 := Nat.pow_le_pow_right (by decide) hn
  rw [q_bit (by omega) (by omega), bs_bit]
  by_cases hp : P k = true
  · rw [if_pos ⟨hk, hp⟩]; exact (eq_true rfl).trans (eq_true hp).symm
  · rw [if_neg (fun q => hp q.2), q_eq (by decide) (by decide)]
    exact (eq_false (by decide)).trans (eq_false hp).symm
