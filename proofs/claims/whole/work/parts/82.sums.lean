-- sums
theorem sm_add (f g : Nat → Nat) : ∀ n, sm (fun k => f k + g k) n = sm f n + sm g n := by
  intro n
  induction n with
  | zero => rfl
  | succ n ih =>
    show sm (fun k => f k + g k) n + (f n + g n) = (sm f n + f n) + (sm g n + g n)
    rw [ih]; omega
theorem sm_mul (f : Nat → Nat) (c : Nat) : ∀ n, sm (fun k => f k * c) n = sm f n * c := by
  intro n
  induction n with
  | zero => show 0 = 0 * c; rw [Nat.zero_mul]
  | succ n ih =>
    show sm (fun k => f k * c) n + f n * c = (sm f n + f n) * c
    rw [ih, Nat.add_mul]
theorem sm_zero {f : Nat → Nat} : ∀ n, (∀ k, k < n → f k = 0) → sm f n = 0 := by
  intro n
  induction n with
  | zero => intro _; rfl
  | succ n ih =>
    intro h
    show sm f n + f n = 0
    rw [ih (fun k hk => h k (by omega)), h n (by omega)]
theorem sm_swap (f : Nat → Nat → Nat) : ∀ n m, sm (fun i => sm (fun j => f i j) m) n = sm (fun j => sm (fun i => f i j) n) m := by
  intro n
  induction n with
  | zero => intro m; exact (sm_zero m (fun _ _ => rfl)).symm
  | succ n ih =>
    intro m
    show sm (fun i => sm (fun j => f i j) m) n + sm (fun j => f n j) m = sm (fun j => sm (fun i => f i j) n + f n j) m
    rw [ih, sm_add]
theorem sm_nz {f : Nat → Nat} : ∀ n, sm f n ≠ 0 → ∃ k, k < n ∧ f k ≠ 0 := by
  intro n
  induction n with
  | zero => intro h; exact absurd rfl h
  | succ n ih =>
    intro h
    by_cases c : f n = 0
    · obtain ⟨k, h1, h2⟩ := ih (fun q => h (by show sm f n + f n = 0; rw [q, c]))
      exact ⟨k, by omega, h2⟩
    · exact ⟨n, by omega, c⟩
theorem sm_at {f : Nat → Nat} : ∀ n k, k < n → f k ≤ sm f n := by
  intro n
  induction n with
  | zero => intro k hk; omega
  | succ n ih =>
    intro k hk
    show f k ≤ sm f n + f n
    by_cases c : k = n
    · subst c; omega
    · have := ih k (by omega); omega
theorem sm_tail {f : Nat → Nat} {m : Nat} : ∀ n, m ≤ n → (∀ k, m ≤ k → k < n → f k = 0) → sm f n = sm f m := by
  intro n
  induction n with
  | zero => intro h _; rw [show m = 0 by omega]
  | succ n ih =>
    intro h h0
    by_cases c : m = n + 1
    · rw [c]
    · show sm f n + f n = sm f m
      rw [ih (by omega) (fun k a b => h0 k a (by omega)), h0 n (by omega) (by omega)]; rfl
theorem sm_one {k : Nat} (g : Nat → Nat) : ∀ n, sm (fun s => if k = s then g s else 0) n = if k < n then g k else 0 := by
  intro n
  induction n with
  | zero => rw [if_neg (Nat.not_lt_zero k)]; rfl
  | succ n ih =>
    show sm (fun s => if k = s then g s else 0) n + (if k = n then g n else 0) = _
    rw [ih]
    by_cases c : k = n
    · subst c; rw [if_neg (Nat.lt_irrefl k), if_pos rfl, if_pos (Nat.lt_succ_self k)]; omega
    · rw [if_neg c]
      by_cases d : k < n
      · rw [if_pos d, if_pos (by omega)]; rfl
      · rw [if_neg d, if_neg (by omega)]
-- the weight of a state in a table
def wf (n : Nat) (st wt : Nat → Nat) (s : Nat) : Nat := sm (fun j => if st j = s then wt j else 0) n
theorem wf_s (n : Nat) (st wt : Nat → Nat) (s : Nat) : wf (n + 1) st wt s = wf n st wt s + (if st n = s then wt n else 0) := rfl
theorem wf_cong {n : Nat} {st wt st' wt' : Nat → Nat} (h1 : ∀ j, j < n → st' j = st j) (h2 : ∀ j, j < n → wt' j = wt j) (s : Nat) : wf n st' wt' s = wf n st wt s := sm_congr n (fun j hj => by rw [h1 j hj, h2 j hj])
theorem wf_sum (K : Nat) (F : Nat → Nat) (st wt : Nat → Nat) : ∀ n, (∀ j, j < n → st j < K) → sm (fun s => wf n st wt s * F s) K = sm (fun j => wt j * F (st j)) n := by
  intro n
  induction n with
  | zero => intro _; exact sm_zero K (fun s _ => Nat.zero_mul _)
  | succ n ih =>
    intro h
    have e : sm (fun s => wf (n + 1) st wt s * F s) K = sm (fun s => wf n st wt s * F s) K + sm (fun s => if st n = s then wt n * F s else 0) K := by
      rw [← sm_add]
      refine sm_congr K (fun s _ => ?_)
      rw [wf_s, Nat.add_mul]
      by_cases c : st n = s
      · rw [if_pos c, if_pos c]
      · rw [if_neg c, if_neg c, Nat.zero_mul]
    rw [e, ih (fun j hj => h j (by omega)), sm_one (fun s => wt n * F s), if_pos (h n (by omega))]
    rfl
theorem wf_ins {n : Nat} {st wt : Nat → Nat} (dis : ∀ i j, i < j → j < n → st i ≠ st j) {j0 : Nat} (hj : j0 < n) (w s : Nat) : wf n st (fun j => if j = j0 then wt j + w else wt j) s = wf n st wt s + if s = st j0 then w else 0 := by
  have key : ∀ m, m ≤ n → wf m st (fun j => if j = j0 then wt j + w else wt j) s = wf m st wt s + (if j0 < m ∧ s = st j0 then w else 0) := by
    intro m
    induction m with
    | zero => intro _; rw [if_neg (fun q => Nat.not_lt_zero _ q.1)]; rfl
    | succ m ih =>
      intro hm
      rw [wf_s, wf_s, ih (by omega)]
      by_cases c : m = j0
      · subst c
        rw [if_neg (fun q => Nat.lt_irrefl _ q.1)]
        show wf m st wt s + 0 + (if st m = s then (if m = m then wt m + w else wt m) else 0) = _
        rw [if_pos rfl]
        by_cases d : st m = s
        · rw [if_pos d, if_pos d, if_pos ⟨by omega, d.symm⟩]; omega
        · rw [if_neg d, if_neg d, if_neg (fun q => d q.2.symm)]
      · show wf m st wt s + (if j0 < m ∧ s = st j0 then w else 0) + (if st m = s then (if m = j0 then wt m + w else wt m) else 0) = _
        rw [if_neg c]
        have E : (if j0 < m + 1 ∧ s = st j0 then w else 0) = if j0 < m ∧ s = st j0 then w else 0 := by
          by_cases d : j0 < m ∧ s = st j0
          · rw [if_pos d, if_pos (show j0 < m + 1 ∧ s = st j0 from ⟨by omega, d.2⟩)]
          · rw [if_neg d, if_neg (show ¬ (j0 < m + 1 ∧ s = st j0) from fun q => d ⟨by omega, q.2⟩)]
        rw [E]; omega
  rw [key n (Nat.le_refl _)]
  by_cases c : s = st j0
  · rw [if_pos ⟨hj, c⟩, if_pos c]
  · rw [if_neg (fun q => c q.2), if_neg c]
-- one ballot of weights
def stW (K : Nat) (nx wi : Nat → Nat → Nat) (q W : Nat → Nat) (x : Nat) : Nat := sm (fun s => sm (fun e => if wi s e = 0 ∧ nx s e = x then W s * q e else 0) 4) K
def gaW (K : Nat) (wi : Nat → Nat → Nat) (q W : Nat → Nat) (nm : Nat) : Nat := sm (fun s => sm (fun e => if wi s e = nm + 1 then W s * q e else 0) 4) K
theorem ite_mul0 {p : Prop} [Decidable p] (a c : Nat) : (if p then a * c else 0) = (if p then a else 0) * c := by
  split
  · rfl
  · rw [Nat.zero_mul]
theorem stW_sc {K : Nat} {nx wi : Nat → Nat → Nat} {q q' W W' : Nat → Nat} {a b : Nat} (h1 : ∀ s, s < K → W' s = W s * a) (h2 : ∀ e, e < 4 → q' e = q e * b) (x : Nat) : stW K nx wi q' W' x = stW K nx wi q W x * (a * b) := by
  unfold stW
  rw [← sm_mul]
  refine sm_congr K (fun s hs => ?_)
  rw [← sm_mul]
  refine sm_congr 4 (fun e he => ?_)
  rw [h1 s hs, h2 e he, ← ite_mul0]
  congr 1
  rw [Nat.mul_mul_mul_comm]
theorem gaW_sc {K : Nat} {wi : Nat → Nat → Nat} {q q' W W' : Nat → Nat} {a b : Nat} (h1 : ∀ s, s < K → W' s = W s * a) (h2 : ∀ e, e < 4 → q' e = q e * b) (nm : Nat) : gaW K wi q' W' nm = gaW K wi q W nm * (a * b) := by
  unfold gaW
  rw [← sm_mul]
  refine sm_congr K (fun s hs => ?_)
  rw [← sm_mul]
  refine sm_congr 4 (fun e he => ?_)
  rw [h1 s hs, h2 e he, ← ite_mul0]
  congr 1
  rw [Nat.mul_mul_mul_comm]
theorem stW_0 {K : Nat} {nx wi : Nat → Nat → Nat} {q W : Nat → Nat} (h : ∀ s, s < K → W s = 0) (x : Nat) : stW K nx wi q W x = 0 := sm_zero K (fun s hs => sm_zero 4 (fun e _ => by rw [h s hs, Nat.zero_mul]; split <;> rfl))
theorem gaW_0 {K : Nat} {wi : Nat → Nat → Nat} {q W : Nat → Nat} (h : ∀ s, s < K → W s = 0) (nm : Nat) : gaW K wi q W nm = 0 := sm_zero K (fun s hs => sm_zero 4 (fun e _ => by rw [h s hs, Nat.zero_mul]; split <;> rfl))
theorem stW_nz {K : Nat} {nx wi : Nat → Nat → Nat} {q W : Nat → Nat} {x : Nat} (h : stW K nx wi q W x ≠ 0) : ∃ s e, s < K ∧ W s ≠ 0 ∧ nx s e = x := by
  obtain ⟨s, hs, h1⟩ := sm_nz K h
  obtain ⟨e, _, h2⟩ := sm_nz 4 h1
  refine ⟨s, e, hs, fun z => h2 ?_, ?_⟩
  · show (if wi s e = 0 ∧ nx s e = x then W s * q e else 0) = 0
    rw [z, Nat.zero_mul]; split <;> rfl
  · refine Classical.byContradiction (fun z => h2 ?_)
    exact if_neg (fun c => z c.2)
theorem mass {K : Nat} {nx wi : Nat → Nat → Nat} {q W : Nat → Nat} (nm : Nat) : sm (stW K nx wi q W) K + gaW K wi q W nm ≤ sm W K * sm q 4 := by
  unfold gaW
  rw [show sm (stW K nx wi q W) K = sm (fun s => sm (fun e => sm (fun x => if wi s e = 0 ∧ nx s e = x then W s * q e else 0) K) 4) K from by
    show sm (fun x => sm (fun s => sm (fun e => if wi s e = 0 ∧ nx s e = x then W s * q e else 0) 4) K) K = _
    rw [sm_swap]
    exact sm_congr K (fun s _ => sm_swap _ K 4)]
  rw [← sm_mul, ← sm_add]
  refine sm_mono K (fun s _ => ?_)
  rw [Nat.mul_comm, ← sm_mul, ← sm_add]
  refine sm_mono 4 (fun e _ => ?_)
  rw [Nat.mul_comm (q e)]
  by_cases c : wi s e = 0
  · rw [if_neg (by omega), Nat.add_zero]
    rw [show (fun x => if wi s e = 0 ∧ nx s e = x then W s * q e else 0) = (fun x => if nx s e = x then (fun _ => W s * q e) x else 0) from funext fun x => by
      by_cases d : nx s e = x
      · rw [if_pos ⟨c, d⟩, if_pos d]
      · rw [if_neg (fun z => d z.2), if_neg d]]
    rw [sm_one (fun _ => W s * q e)]
    split <;> omega
  · rw [sm_zero K (fun x _ => if_neg (fun z => c z.1)), Nat.zero_add]
    split <;> omega
-- longs
theorem l_shl (n : Nat) {k : Nat} (hk : k < 64) : lN n <<< ((nI k).toInt64 &&& 63) = lN (n * 2 ^ k) := by
  have c1 : ∀ k, k < 64 → ((nI k).toInt64 &&& 63) = lN k := by decide +kernel
  have c2 : ∀ k, k < 64 → (BitVec.ofNat 64 k).smod 64 = BitVec.ofNat 64 k := by decide +kernel
  rw [c1 k hk]
  apply Int64.toBitVec_inj.mp
  rw [Int64.toBitVec_shiftLeft]
  show BitVec.ofNat 64 n <<< ((BitVec.ofNat 64 k).smod 64) = BitVec.ofNat 64 (n * 2 ^ k)
  rw [c2 k hk]
  apply BitVec.eq_of_toNat_eq
  rw [BitVec.shiftLeft_eq', BitVec.toNat_shiftLeft, BitVec.toNat_ofNat, BitVec.toNat_ofNat, BitVec.toNat_ofNat, Nat.mod_eq_of_lt (show k < 2 ^ 64 by omega), Nat.shiftLeft_eq, Nat.mul_mod, Nat.mod_mod, ← Nat.mul_mod]
theorem l_and1 {n : Nat} (h : n < 2 ^ 63) : (lN n &&& 1 = 0) ↔ n % 2 = 0 := by
  have e : lN n &&& 1 = lN (n % 2) := by
    apply Int64.toBitVec_inj.mp
    apply BitVec.eq_of_toNat_eq
    show (BitVec.ofNat 64 n &&& BitVec.ofNat 64 1).toNat = (BitVec.ofNat 64 (n % 2)).toNat
    rw [BitVec.toNat_and, BitVec.toNat_ofNat, BitVec.toNat_ofNat, BitVec.toNat_ofNat, Nat.mod_eq_of_lt (show n < 2 ^ 64 by omega), Nat.mod_eq_of_lt (show 1 < 2 ^ 64 by decide), Nat.mod_eq_of_lt (show n % 2 < 2 ^ 64 by omega), Nat.and_one_is_mod]
  rw [e, show (0 : Int64) = lN 0 from rfl, pk_lEQ (by omega) (by decide)]
theorem l_pos {n : Nat} (h : n < 2 ^ 63) : (lg_cmp (lN n) (0 : Int64) ≤ 0) ↔ n = 0 := by
  rw [lg_cmp_le, show (0 : Int64) = lN 0 from rfl, pk_lLE h (by decide)]; omega
-- lowest terms
theorem x_lower {N : Nat} (hN : 200000 ≤ N) {a k : Nat} (ha : a < 2 ^ 63) (hk : k ≤ 62) : ∃ a' b' j, f_X1_lower N (lN a) (lN (2 ^ k)) = some (lN a', lN b') ∧ a = a' * 2 ^ j ∧ 2 ^ k = b' * 2 ^ j ∧ Nat.gcd a' b' = 1 := by
  have L : ∃ e : Int64 × Int64, lp (fun s : Int32 × Int64 × Int64 => f_X1_lower_B2 s.1 s.2.1 s.2.2) N ((0 : Int32), lN a, lN (2 ^ k)) = some e ∧ ∃ a' b' j, e = (lN a', lN b') ∧ a = a' * 2 ^ j ∧ 2 ^ k = b' * 2 ^ j ∧ Nat.gcd a' b' = 1 := by
    refine lp_rel0 (fun j (s : Int32 × Int64 × Int64) => s.1 = nI j ∧ j ≤ k ∧ ∃ a', s.2.1 = lN a' ∧ s.2.2 = lN (2 ^ (k - j)) ∧ a = a' * 2 ^ j) _ k (by omega) ⟨rfl, by omega, a, rfl, rfl, by rw [Nat.pow_zero, Nat.mul_one]⟩ ?_ ?_
    · rintro j hj s ⟨h1, h2, a', h3, h4, h5⟩
      have al : a' ≤ a := by rw [h5]; exact Nat.le_mul_of_pos_right _ (Nat.two_pow_pos j)
      have pl : 2 ^ (k - j) < 2 ^ 63 := Nat.pow_lt_pow_right (by decide) (by omega)
      have pe : 2 ^ (k - j) = 2 ^ (k - (j + 1)) * 2 := by rw [← Nat.pow_succ]; congr 1; omega
      by_cases c : a' % 2 = 0
      · left
        refine ⟨(nI (j + 1), lN (a' / 2), lN (2 ^ (k - (j + 1)))), ?_, rfl, by omega, a' / 2, rfl, rfl, ?_⟩
        · unfold f_X1_lower_B2
          rw [h1, if_neg (by rw [show (64 : Int32) = nI 64 from rfl, q_le (by omega) (by omega)]; omega), h3, if_pos ((lg_cmp_eq _ _).2 ((l_and1 (by omega)).2 c)), h4, if_pos ((lg_cmp_eq _ _).2 ((l_and1 pl).2 (by omega))), nI_1, show (2 : Int64) = lN 2 from rfl, pk_lDiv (by omega) (by decide) (by decide), pk_lDiv pl (by decide) (by decide), show 2 ^ (k - j) / 2 = 2 ^ (k - (j + 1)) by omega]
        · rw [h5, Nat.pow_succ, Nat.mul_comm (2 ^ j), ← Nat.mul_assoc]
          congr 1; omega
      · right
        refine ⟨(lN a', lN (2 ^ (k - j))), ?_, a', 2 ^ (k - j), j, rfl, h5, by rw [← Nat.pow_add]; congr 1; omega, ?_⟩
        · unfold f_X1_lower_B2
          rw [h1, if_neg (by rw [show (64 : Int32) = nI 64 from rfl, q_le (by omega) (by omega)]; omega), h3, if_neg (fun q => c ((l_and1 (by omega)).1 ((lg_cmp_eq _ _).1 q))), h4]
        · exact Nat.Coprime.pow_right _ (show Nat.gcd a' 2 = 1 by rw [Nat.gcd_comm, Nat.gcd_rec, show a' % 2 = 1 by omega]; rfl)
    · rintro s ⟨h1, h2, a', h3, h4, h5⟩
      have al : a' ≤ a := by rw [h5]; exact Nat.le_mul_of_pos_right _ (Nat.two_pow_pos k)
      rw [Nat.sub_self, Nat.pow_zero] at h4
      refine ⟨(lN a', lN 1), ?_, a', 1, k, rfl, h5, (Nat.one_mul _).symm, Nat.gcd_one_right _⟩
      unfold f_X1_lower_B2
      rw [h1, if_neg (by rw [show (64 : Int32) = nI 64 from rfl, q_le (by omega) (by omega)]; omega), h3, h4]
      have c1 : ¬ lg_cmp (lN 1 &&& 1) 0 = 0 := by decide
      by_cases c : lg_cmp (lN a' &&& 1) 0 = 0
      · rw [if_pos c, if_neg c1]
      · rw [if_neg c]
  obtain ⟨e, E1, a', b', j, E2, E3, E4, E5⟩ := L
  subst E2
  refine ⟨a', b', j, ?_, E3, E4, E5⟩
  unfold f_X1_lower
  exact b_run E1 rfl
theorem m_gcd : ∀ (m N x y : Nat), y < 2 ^ m → m < 63 → x < 2 ^ 63 → 2 * m + 1 ≤ N → lp (fun s : Int64 × Int64 => f_X7_common_B6 s.1 s.2) N (lN x, lN y) = some (lN (Nat.gcd x y)) := by
  intro m
  have stop : ∀ (N x : Nat), 1 ≤ N → lp (fun s : Int64 × Int64 => f_X7_common_B6 s.1 s.2) N (lN x, lN 0) = some (lN (Nat.gcd x 0)) := by
    intro N x h
    obtain ⟨n, rfl⟩ : ∃ n, N = n + 1 := ⟨N - 1, by omega⟩
    refine lp_stop ?_
    show f_X7_common_B6 (lN x) (lN 0) = _
    unfold f_X7_common_B6
    rw [if_pos (show lg_cmp (lN 0) 0 = 0 by decide), Nat.gcd_zero_right]
  have step : ∀ (n x y : Nat), y ≠ 0 → y < 2 ^ 63 → x < 2 ^ 63 → lp (fun s : Int64 × Int64 => f_X7_common_B6 s.1 s.2) (n + 1) (lN x, lN y) = lp (fun s : Int64 × Int64 => f_X7_common_B6 s.1 s.2) n (lN y, lN (x % y)) := by
    intro n x y h0 hy hx
    refine lp_step ?_
    show f_X7_common_B6 (lN x) (lN y) = _
    have ne : ¬ lN y = 0 := by rw [show (0 : Int64) = lN 0 from rfl, pk_lEQ hy (by decide)]; exact h0
    unfold f_X7_common_B6
    rw [if_neg (fun q => ne ((lg_cmp_eq _ _).1 q)), if_neg ne, pk_lRem hx (by omega) hy]
  induction m with
  | zero => intro N x y h1 _ _ h3; rw [show y = 0 by omega]; exact stop N x (by omega)
  | succ m ih =>
    intro N x y h1 hm hx hN
    have hp : 2 ^ (m + 1) < 2 ^ 63 := Nat.pow_lt_pow_right (by decide) (by omega)
    by_cases c : y = 0
    · rw [c]; exact stop N x (by omega)
    · obtain ⟨n, rfl⟩ : ∃ n, N = n + 2 := ⟨N - 2, by omega⟩
      have hr := Nat.mod_lt x (show y > 0 by omega)
      rw [step (n + 1) x y c (by omega) hx, Nat.gcd_comm x y, Nat.gcd_rec y x, Nat.gcd_comm (x % y) y]
      by_cases d : x % y = 0
      · rw [d]; exact stop _ _ (by omega)
      · have hr2 := Nat.mod_lt y (show x % y > 0 by omega)
        rw [step n y (x % y) d (by omega) (by omega), Nat.gcd_comm y (x % y), Nat.gcd_rec (x % y) y, Nat.gcd_comm (y % (x % y)) (x % y)]
        refine ih n (x % y) (y % (x % y)) ?_ (by omega) (by omega) (by omega)
        have hd := Nat.div_add_mod y (x % y)
        have hq : 1 ≤ y / (x % y) := (Nat.le_div_iff_mul_le (by omega)).2 (by omega)
        have : x % y * 1 ≤ x % y * (y / (x % y)) := Nat.mul_le_mul_left _ hq
        rw [Nat.pow_succ] at h1
        omega
theorem m_common {N : Nat} (hN : 200000 ≤ N) {x y : Nat} (hx : x < 2 ^ 62) (hy : y < 2 ^ 62) : f_X7_common N (lN x) (lN y) = some (lN (Nat.gcd x y)) := by
  unfold f_X7_common
  exact b_run (m_gcd 62 N x y hy (by decide) (by omega) (by omega)) rfl
-- two ways to the lowest terms
theorem low2 {a b g a' b' j : Nat} (h1 : a = a' * 2 ^ j) (h2 : b = b' * 2 ^ j) (h3 : Nat.gcd a' b' = 1) (hg : 0 < g) : a * g / Nat.gcd (a * g) (b * g) = a' ∧ b * g / Nat.gcd (a * g) (b * g) = b' := by
  have e : Nat.gcd (a * g) (b * g) = 2 ^ j * g := by
    rw [Nat.gcd_mul_right, h1, h2, Nat.gcd_mul_right, h3, Nat.one_mul]
  have p : 0 < 2 ^ j * g := Nat.mul_pos (Nat.two_pow_pos j) hg
  rw [e, h1, h2, Nat.mul_assoc, Nat.mul_assoc, Nat.mul_div_cancel _ p, Nat.mul_div_cancel _ p]
  exact ⟨rfl, rfl⟩
