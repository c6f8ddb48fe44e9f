-- the spread: states found by hashing
def hsI (M s : Nat) : Int32 := (((nI s * (40503 : Int32)).toUInt32 >>> ((4 : Int32).toUInt32 &&& Int32.toUInt32 31)).toInt32) &&& ((Int32.ofNat M) - (1 : Int32))
def hsF (M s : Nat) : Nat := (hsI M s).toNatClampNeg
def pw (M : Nat) : Prop := ∃ q, q ≤ 20 ∧ M = 2 ^ q
theorem pw_mask {M : Nat} (h : pw M) : (Int32.ofNat M - 1 : Int32) = nI (M - 1) ∧ (nI (M - 1)).toBitVec.toNat = M - 1 ∧ 1 ≤ M ∧ M ≤ 1048576 := by
  obtain ⟨q, hq, rfl⟩ := h
  have h1 := Nat.two_pow_pos q
  have h2 : 2 ^ q ≤ 2 ^ 20 := Nat.pow_le_pow_right (by decide) hq
  refine ⟨?_, pk_tn (by omega), h1, h2⟩
  show nI (2 ^ q) - nI 1 = _
  rw [pk_sub (by omega)]
theorem hs_ok {M : Nat} (h : pw M) (s : Nat) : hsI M s = nI (hsF M s) ∧ hsF M s < M := by
  obtain ⟨a1, a2, a3, a4⟩ := pw_mask h
  obtain ⟨q, hq, rfl⟩ := h
  obtain ⟨j, j1, j2⟩ := pk_andE (((nI s * (40503 : Int32)).toUInt32 >>> ((4 : Int32).toUInt32 &&& Int32.toUInt32 31)).toInt32) (m := nI (2 ^ q - 1)) q a2
  have e : hsI (2 ^ q) s = nI j := by unfold hsI; rw [a1]; exact j2
  have ej : hsF (2 ^ q) s = j := by unfold hsF; rw [e, q_cl (by omega)]
  rw [ej]; exact ⟨e, j1⟩
def pr (M s i : Nat) : Nat := (hsF M s + i) % M
theorem pr_lt {M s i : Nat} (h : 1 ≤ M) : pr M s i < M := Nat.mod_lt _ (by omega)
theorem pr_inj {M s i j : Nat} (hi : i < M) (hj : j < M) (h : pr M s i = pr M s j) : i = j := by
  unfold pr at h
  have key : ∀ a i j : Nat, i < M → j < M → i < j → (a + i) % M ≠ (a + j) % M := by
    intro a i j hi hj hij he
    have e1 := Nat.div_add_mod (a + i) M
    have e2 := Nat.div_add_mod (a + j) M
    rw [he] at e1
    have hlt : M * ((a + i) / M) < M * ((a + j) / M) := by omega
    have h3 : (a + i) / M < (a + j) / M := Nat.lt_of_mul_lt_mul_left hlt
    have h4 : M * ((a + i) / M + 1) ≤ M * ((a + j) / M) := Nat.mul_le_mul_left _ h3
    rw [Nat.mul_succ] at h4
    omega
  rcases Nat.lt_trichotomy i j with l | l | l
  · exact absurd h (key _ i j hi hj l)
  · exact l
  · exact absurd h.symm (key _ j i hj hi l)
theorem pr_all {M s p : Nat} (hM : 1 ≤ M) (h : pw M) (hp : p < M) : ∃ i, i < M ∧ pr M s i = p := by
  have hh := (hs_ok h s).2
  by_cases c : hsF M s ≤ p
  · exact ⟨p - hsF M s, by omega, by unfold pr; rw [show hsF M s + (p - hsF M s) = p by omega, Nat.mod_eq_of_lt hp]⟩
  · refine ⟨p + M - hsF M s, by omega, ?_⟩
    unfold pr
    rw [show hsF M s + (p + M - hsF M s) = p + M by omega, Nat.add_mod_right, Nat.mod_eq_of_lt hp]
theorem pr_s {M s i : Nat} (h : pw M) : (nI (pr M s i) + 1) &&& (Int32.ofNat M - 1 : Int32) = nI (pr M s (i + 1)) := by
  obtain ⟨a1, a2, a3, a4⟩ := pw_mask h
  have hl := pr_lt (M := M) (s := s) (i := i) a3
  rw [a1, nI_1]
  obtain ⟨q, hq, rfl⟩ := h
  rw [pk_andN (by omega) q a2]
  congr 1
  unfold pr
  rw [Nat.add_mod ((hsF (2 ^ q) s + i) % 2 ^ q) 1, Nat.mod_mod, ← Nat.add_mod]; rfl
-- what the slots hold
def SI (n M : Nat) (st sl : Nat → Nat) : Prop := (∀ p, p < M → sl p ≤ n) ∧ (∀ p q, p < q → q < M → sl p ≠ 0 → sl p ≠ sl q) ∧ (∀ i j, i < j → j < n → st i ≠ st j) ∧ ∀ j, j < n → ∃ i, i < M ∧ sl (pr M (st j) i) = j + 1 ∧ ∀ i', i' < i → sl (pr M (st j) i') ≠ 0
def slP (M : Nat) (st sl : Nat → Nat) (s i : Nat) : Bool := decide (sl (pr M s i) = 0 ∨ st (sl (pr M s i) - 1) = s)
def slS (M : Nat) (st sl : Nat → Nat) (s : Nat) : Nat := ff (slP M st sl s) 0 M
theorem SI_free {n M : Nat} {st sl : Nat → Nat} (h : SI n M st sl) (hn : n < M) : ∃ p, p < M ∧ sl p = 0 := by
  refine Classical.byContradiction (fun q => ?_)
  have nz : ∀ p, p < M → sl p ≠ 0 := fun p hp z => q ⟨p, hp, z⟩
  have := pigeon n M (fun p => sl p - 1) (fun p hp => by have := nz p hp; have := h.1 p hp; show sl p - 1 < n; omega) (fun i j hij hj => by
    have a := nz i (by omega); have b := nz j hj
    have := h.2.1 i j hij hj a
    show sl i - 1 ≠ sl j - 1; omega)
  omega
theorem sl_lt {n M : Nat} {st sl : Nat → Nat} (hp : pw M) (h : SI n M st sl) (hn : n < M) (s : Nat) : slS M st sl s < M := by
  obtain ⟨p, h1, h2⟩ := SI_free h hn
  obtain ⟨i, i1, i2⟩ := pr_all (s := s) (by omega) hp h1
  refine Nat.lt_of_not_le (fun q => ?_)
  have := ff_no (slP M st sl s) M 0 i (by omega) (by unfold slS at q; omega)
  exact of_decide_eq_false this (Or.inl (by rw [i2]; exact h2))
theorem sl_yes {n M : Nat} {st sl : Nat → Nat} (hp : pw M) (h : SI n M st sl) (hn : n < M) {s j : Nat} (hj : j < n) (hs : st j = s) : sl (pr M s (slS M st sl s)) = j + 1 := by
  obtain ⟨i, i1, i2, i3⟩ := h.2.2.2 j hj
  rw [hs] at i2 i3
  have e : slS M st sl s = i := ff_is (slP M st sl s) (by omega) (by omega) (decide_eq_true (Or.inr (by rw [i2, Nat.add_sub_cancel]; exact hs))) (fun k _ hk => decide_eq_false (fun z => by
    rcases z with z | z
    · exact i3 k hk z
    · have nz := i3 k hk
      have hle := h.1 (pr M s k) (pr_lt (by omega))
      have ek : sl (pr M s k) - 1 = j := by
        rcases Nat.lt_trichotomy (sl (pr M s k) - 1) j with l | l | l
        · exact absurd (z.trans hs.symm) (h.2.2.1 _ _ l hj)
        · exact l
        · exact absurd (hs.trans z.symm) (h.2.2.1 _ _ l (by omega))
      have es : sl (pr M s k) = sl (pr M s i) := by omega
      have ne : pr M s k ≠ pr M s i := fun q => by have := pr_inj (by omega) i1 q; omega
      rcases Nat.lt_or_ge (pr M s k) (pr M s i) with l | l
      · exact h.2.1 _ _ l (pr_lt (by omega)) nz es
      · exact h.2.1 _ _ (by omega) (pr_lt (by omega)) (by omega) es.symm))
  rw [e]; exact i2
theorem sl_no {n M : Nat} {st sl : Nat → Nat} (hp : pw M) (h : SI n M st sl) (hn : n < M) {s : Nat} (hs : ∀ j, j < n → st j ≠ s) : sl (pr M s (slS M st sl s)) = 0 ∧ ∀ i', i' < slS M st sl s → sl (pr M s i') ≠ 0 := by
  have hl := sl_lt hp h hn s
  have hy := of_decide_eq_true (ff_yes (slP M st sl s) M 0 (by unfold slS at hl; omega))
  constructor
  · rcases hy with z | z
    · exact z
    · refine Classical.byContradiction (fun q => ?_)
      have hle := h.1 (pr M s (slS M st sl s)) (pr_lt (by omega))
      exact hs (sl (pr M s (slS M st sl s)) - 1) (by unfold slS at *; omega) z
  · intro i' hi' z
    have := ff_no (slP M st sl s) M 0 i' (by omega) hi'
    exact of_decide_eq_false this (Or.inl z)
theorem SI_ins {n M : Nat} {st sl : Nat → Nat} (hp : pw M) (h : SI n M st sl) (hn : n < M) (hs : ∀ j, j < n → st j ≠ st n) : SI (n + 1) M st (fun p => if p = pr M (st n) (slS M st sl (st n)) then n + 1 else sl p) := by
  obtain ⟨z0, z1⟩ := sl_no hp h hn hs
  have hl := sl_lt hp h hn (st n)
  generalize hi0 : slS M st sl (st n) = i0 at *
  refine ⟨fun p hp' => ?_, fun p q hpq hq => ?_, fun i j hij hj => ?_, fun j hj => ?_⟩
  · show (if p = pr M (st n) i0 then n + 1 else sl p) ≤ n + 1
    split
    · omega
    · have := h.1 p hp'; omega
  · show (if p = pr M (st n) i0 then n + 1 else sl p) ≠ 0 → (if p = pr M (st n) i0 then n + 1 else sl p) ≠ (if q = pr M (st n) i0 then n + 1 else sl q)
    have a := h.1 p (by omega); have b := h.1 q hq
    by_cases c : p = pr M (st n) i0
    · rw [if_pos c, if_neg (by omega)]; omega
    · rw [if_neg c]
      by_cases d : q = pr M (st n) i0
      · rw [if_pos d]; omega
      · rw [if_neg d]; exact h.2.1 p q hpq hq
  · by_cases e : j = n
    · subst e; exact hs i hij
    · exact h.2.2.1 i j hij (by omega)
  · by_cases e : j = n
    · subst e
      refine ⟨i0, hl, if_pos rfl, fun i' hi' => ?_⟩
      show (if pr M (st j) i' = pr M (st j) i0 then j + 1 else sl (pr M (st j) i')) ≠ 0
      split
      · omega
      · exact z1 i' hi'
    · obtain ⟨i, i1, i2, i3⟩ := h.2.2.2 j (by omega)
      have nz : ∀ p, sl p ≠ 0 → p ≠ pr M (st n) i0 := fun p hp' q => hp' (by rw [q]; exact z0)
      refine ⟨i, i1, ?_, fun i' hi' => ?_⟩
      · show (if pr M (st j) i = pr M (st n) i0 then n + 1 else sl (pr M (st j) i)) = j + 1
        rw [if_neg (nz _ (by omega))]; exact i2
      · show (if pr M (st j) i' = pr M (st n) i0 then n + 1 else sl (pr M (st j) i')) ≠ 0
        rw [if_neg (nz _ (i3 i' hi'))]; exact i3 i' hi'
theorem SI_cong {n M : Nat} {st st' sl sl' : Nat → Nat} (h : SI n M st sl) (h1 : ∀ j, j < n → st' j = st j) (h2 : ∀ p, p < M → sl' p = sl p) (hM : 1 ≤ M) : SI n M st' sl' := by
  refine ⟨fun p hp => by rw [h2 p hp]; exact h.1 p hp, fun p q hpq hq => by rw [h2 p (by omega), h2 q hq]; exact h.2.1 p q hpq hq, fun i j hij hj => by rw [h1 i (by omega), h1 j hj]; exact h.2.2.1 i j hij hj, fun j hj => ?_⟩
  obtain ⟨i, i1, i2, i3⟩ := h.2.2.2 j hj
  rw [h1 j hj]
  exact ⟨i, i1, by rw [h2 _ (pr_lt hM)]; exact i2, fun i' hi' => by rw [h2 _ (pr_lt hM)]; exact i3 i' hi'⟩
theorem slS_cong {M : Nat} {st st' sl sl' : Nat → Nat} {n s : Nat} (h : SI n M st sl) (h1 : ∀ j, j < n → st' j = st j) (h2 : ∀ p, p < M → sl' p = sl p) (hM : 1 ≤ M) : slS M st' sl' s = slS M st sl s := ff_congr M 0 (fun i _ hi => by
  have hl := pr_lt (M := M) (s := s) (i := i) hM
  have hle := h.1 _ hl
  unfold slP
  rw [h2 _ hl]
  by_cases z : sl (pr M s i) = 0
  · rw [decide_eq_true (Or.inl z), decide_eq_true (Or.inl z)]
  · rw [h1 _ (by omega)])
theorem x_slot {N : Nat} (hN : 300000 ≤ N) {n L M s : Nat} {st sl : Nat → Nat} (hp : pw M) (hM : M < 300000) (h : SI n M st sl) (hn : n < M) (hnL : n ≤ L) (hs : s < 46656) {vst vsl : Nat → Int32} (h1 : ∀ j, j < n → vst j = nI (st j) ∧ st j < 46656) (h2 : ∀ p, p < M → vsl p = nI (sl p)) : f_X3_slotOf N L vst M vsl (nI s) = some (nI (pr M s (slS M st sl s))) := by
  obtain ⟨a1, a2, a3, a4⟩ := pw_mask hp
  have hl := sl_lt hp h hn s
  have h0 : pr M s 0 = hsF M s := by unfold pr; rw [Nat.add_zero, Nat.mod_eq_of_lt (hs_ok hp s).2]
  have L : lp (fun z : Int32 × Int32 => f_X3_slotOf_B20 L vst M vsl (nI s) (Int32.ofNat M - 1) z.1 z.2) N (hsI M s, (0 : Int32)) = some (if slS M st sl s < M then nI (pr M s (slS M st sl s)) else nI (pr M s M)) := by
    refine lp_find (fun i => (nI (pr M s i), nI i)) (slP M st sl s) M 0 (fun i => nI (pr M s i)) (nI (pr M s M)) (by omega) (by omega) (by rw [(hs_ok hp s).1, h0]; rfl) ?_ ?_ ?_
    · intro i _ hi hP
      have hP := of_decide_eq_false hP
      have hl2 := pr_lt (M := M) (s := s) (i := i) a3
      have hle := h.1 _ hl2
      have e := h2 _ hl2
      have nz : sl (pr M s i) ≠ 0 := fun q => hP (Or.inl q)
      have ns : st (sl (pr M s i) - 1) ≠ s := fun q => hP (Or.inr q)
      obtain ⟨e1, e2⟩ := h1 (sl (pr M s i) - 1) (by omega)
      show f_X3_slotOf_B20 L vst M vsl (nI s) (Int32.ofNat M - 1) (nI (pr M s i)) (nI i) = some (Sum.inl (nI (pr M s (i + 1)), nI (i + 1)))
      unfold f_X3_slotOf_B20
      rw [pr_s hp, a1, if_neg (by rw [q_lt (by omega) (by omega)]; omega), q_cl (by omega), if_neg (by rw [q_0, q_lt (by omega) (by omega)]; omega), e, if_neg (nI_ne0 (by omega) (by omega)), q_1, pk_sub (by omega), q_cl (by omega), if_neg (by rw [q_0, q_lt (by omega) (by omega)]; omega), e1, if_neg (by rw [q_eq (by omega) (by omega)]; exact ns), nI_add]
    · intro i _ hi hP
      have hP := of_decide_eq_true hP
      have hl2 := pr_lt (M := M) (s := s) (i := i) a3
      have hle := h.1 _ hl2
      have e := h2 _ hl2
      show f_X3_slotOf_B20 L vst M vsl (nI s) (Int32.ofNat M - 1) (nI (pr M s i)) (nI i) = some (Sum.inr (nI (pr M s i)))
      unfold f_X3_slotOf_B20
      rw [pr_s hp, a1, if_neg (by rw [q_lt (by omega) (by omega)]; omega), q_cl (by omega), if_neg (by rw [q_0, q_lt (by omega) (by omega)]; omega), e]
      by_cases z : sl (pr M s i) = 0
      · rw [if_pos (by rw [z]; rfl)]
      · have hs' : st (sl (pr M s i) - 1) = s := hP.elim (fun q => absurd q z) id
        obtain ⟨e1, e2⟩ := h1 (sl (pr M s i) - 1) (by omega)
        rw [if_neg (nI_ne0 (by omega) (by omega)), q_1, pk_sub (by omega), q_cl (by omega), if_neg (by rw [q_0, q_lt (by omega) (by omega)]; omega), e1, if_pos (by rw [hs'])]
    · show f_X3_slotOf_B20 L vst M vsl (nI s) (Int32.ofNat M - 1) (nI (pr M s M)) (nI M) = some (Sum.inr (nI (pr M s M)))
      unfold f_X3_slotOf_B20
      rw [a1, if_pos (by rw [q_lt (by omega) (by omega)]; omega)]
  rw [if_pos hl] at L
  unfold f_X3_slotOf
  exact b_run L rfl
