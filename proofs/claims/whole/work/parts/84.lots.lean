-- the lots of one ballot, as bits of one number
def lke (h : Hl) (e b : Nat) : Bool := decide (hMov h b = 4 ∧ e / 2 ^ hLots h b % 2 = 1)
def nxC (h : Hl) (r : Br) (tt s e : Nat) : Nat → Nat := stS h (aliv r tt) (mdS 0 0 tt) (lke h e) (dec s)
def nxE (h : Hl) (r : Br) (tt s e : Nat) : Nat := enc (nxC h r tt s e)
def wiE (h : Hl) (r : Br) (tt s e : Nat) : Nat := wiS h r (cn h (nxC h r tt s e)) tt
def dgL (h : Hl) (k : Nat) : Nat := hDig h (lbS h k)
def facE (h : Hl) (k i : Nat) : Nat := if i = 1 then dgL h k else 4 - dgL h k
def shE (h : Hl) (tt k i : Nat) : Nat := if tt = 0 ∨ hLots h (hB h) ≤ k then 1 - i else facE h k i
def qE (h : Hl) (tt e : Nat) : Nat := shE h tt 0 (e % 2) * shE h tt 1 (e / 2)
def wyE (h : Hl) (tt k : Nat) : Nat := if tt = 0 ∨ hLots h (hB h) ≤ k then 1 else 4
def wyS (h : Hl) (tt : Nat) : Nat := wyE h tt 0 * wyE h tt 1
def qrE (h : Hl) (tt e : Nat) : Nat := qE h tt e * (16 / wyS h tt)
theorem hLots_s (h : Hl) (b : Nat) : hLots h (b + 1) = hLots h b + (if hMov h b = 4 then 1 else 0) := rfl
theorem hLots_mono (h : Hl) {a : Nat} : ∀ b, a ≤ b → hLots h a ≤ hLots h b := by
  intro b
  induction b with
  | zero => intro q; rw [show a = 0 by omega]; exact Nat.le_refl _
  | succ b ih =>
    intro q
    by_cases c : a = b + 1
    · rw [c]; exact Nat.le_refl _
    · have := ih (by omega)
      rw [hLots_s]; omega
theorem lb_is {h : Hl} {b k : Nat} (hb : b < hB h) (h4 : hMov h b = 4) (hk : hLots h b = k) : lbS h k = b := by
  refine ff_is (lbP h k) (Nat.zero_le _) (by omega) (decide_eq_true ⟨h4, hk⟩) (fun j _ hj => decide_eq_false (fun q => ?_))
  have := hLots_mono h (a := j + 1) b (by omega)
  rw [hLots_s, if_pos q.1] at this
  omega
theorem lb_ex {h : Hl} {k : Nat} : ∀ n, k < hLots h n → ∃ b, b < n ∧ hMov h b = 4 ∧ hLots h b = k := by
  intro n
  induction n with
  | zero => intro q; exact absurd q (Nat.not_lt_zero _)
  | succ n ih =>
    intro q
    by_cases c : k < hLots h n
    · obtain ⟨b, h1, h2⟩ := ih c
      exact ⟨b, by omega, h2⟩
    · rw [hLots_s] at q
      by_cases d : hMov h n = 4
      · rw [if_pos d] at q; exact ⟨n, by omega, d, by omega⟩
      · rw [if_neg d] at q; omega
theorem lb_yes {h : Hl} {k : Nat} (q : k < hLots h (hB h)) : lbS h k < hB h ∧ hMov h (lbS h k) = 4 ∧ hLots h (lbS h k) = k := by
  obtain ⟨b, h1, h2, h3⟩ := lb_ex _ q
  rw [lb_is h1 h2 h3]
  exact ⟨h1, h2, h3⟩
theorem lb_no {h : Hl} {k : Nat} (q : hLots h (hB h) ≤ k) : ¬ lbS h k < hB h := by
  intro z
  have hy : hMov h (lbS h k) = 4 ∧ hLots h (lbS h k) = k := of_decide_eq_true (ff_yes (lbP h k) (hB h) 0 (by unfold lbS at z; omega))
  have := hLots_mono h (a := lbS h k + 1) (hB h) (by omega)
  rw [hLots_s, if_pos hy.1, hy.2] at this
  omega
theorem dg_ok {h : Hl} (ok : hOK h) {k : Nat} (q : k < hLots h (hB h)) : 1 ≤ dgL h k ∧ dgL h k ≤ 3 := by
  obtain ⟨h1, h2, _⟩ := lb_yes q
  exact (ok.2.1 _ h1).2.2.2.2.2.2.2.2 h2
theorem sh_sum {h : Hl} (ok : hOK h) (tt k : Nat) : shE h tt k 0 + shE h tt k 1 = wyE h tt k := by
  unfold shE wyE facE
  by_cases c : tt = 0 ∨ hLots h (hB h) ≤ k
  · rw [if_pos c, if_pos c, if_pos c]
  · rw [if_neg c, if_neg c, if_neg c, if_neg (by decide), if_pos rfl]
    have := dg_ok ok (k := k) (by omega)
    omega
theorem q_sum {h : Hl} (ok : hOK h) (tt : Nat) : sm (qE h tt) 4 = wyS h tt := by
  unfold wyS
  rw [← sh_sum ok tt 0, ← sh_sum ok tt 1]
  show 0 + shE h tt 0 0 * shE h tt 1 0 + shE h tt 0 1 * shE h tt 1 0 + shE h tt 0 0 * shE h tt 1 1 + shE h tt 0 1 * shE h tt 1 1 = _
  rw [Nat.mul_add, Nat.add_mul, Nat.add_mul]; omega
theorem wy_is (h : Hl) (tt : Nat) : wyS h tt = 1 ∨ wyS h tt = 4 ∨ wyS h tt = 16 := by
  unfold wyS wyE
  split <;> split <;> simp
theorem wy_16 (h : Hl) (tt : Nat) : wyS h tt * (16 / wyS h tt) = 16 := by
  rcases wy_is h tt with e | e | e <;> rw [e]
theorem q_hi {h : Hl} {tt e : Nat} (h1 : 2 ^ hLots h (hB h) ≤ e) (h2 : e < 4) : qE h tt e = 0 := by
  have P : ∀ k, hLots h (hB h) ≤ k → shE h tt k 1 = 0 := fun k hk => by unfold shE; rw [if_pos (Or.inr hk)]
  unfold qE
  by_cases c : hLots h (hB h) ≤ 0
  · have : 2 ^ hLots h (hB h) = 1 := by rw [show hLots h (hB h) = 0 by omega]
    by_cases d : e / 2 = 1
    · rw [d, P 1 (by omega), Nat.mul_zero]
    · rw [show e % 2 = 1 by omega, P 0 c, Nat.zero_mul]
  · by_cases d : hLots h (hB h) ≤ 1
    · have : 2 ^ hLots h (hB h) = 2 := by rw [show hLots h (hB h) = 1 by omega]
      rw [show e / 2 = 1 by omega, P 1 d, Nat.mul_zero]
    · have : 2 ^ 2 ≤ 2 ^ hLots h (hB h) := Nat.pow_le_pow_right (by decide) (by omega)
      omega
theorem q_0t {h : Hl} {e : Nat} (h2 : e < 4) : qE h 0 e = if e = 0 then 1 else 0 := by
  unfold qE shE
  rw [if_pos (Or.inl rfl), if_pos (Or.inl rfl)]
  match e, h2 with
  | 0, _ => rfl
  | 1, _ => rfl
  | 2, _ => rfl
  | 3, _ => rfl
-- the class's side
def fiI (h : Hl) (tt k : Nat) : Int32 := if tt = 0 ∨ hLots h (hB h) ≤ k then m1 else nI (lbS h k)
theorem fiI_t {h : Hl} {tt k : Nat} (ht : tt ≠ 0) : (if lbS h k < hB h then nI (lbS h k) else m1) = fiI h tt k := by
  unfold fiI
  by_cases c : hLots h (hB h) ≤ k
  · rw [if_neg (lb_no c), if_pos (Or.inr c)]
  · rw [if_pos (lb_yes (by omega)).1, if_neg (by omega)]
theorem x_share {h : Hl} (ok : hOK h) {vb : Int32} {vme vmo vdi vsi vor : Nat → Int32} (t : tX h vb vme vmo vdi vsi vor) {N : Nat} (hN : 200000 ≤ N) {tt k i : Nat} (hi : i < 2) : f_X1_share vdi (fiI h tt k) (nI i) = some (lN (shE h tt k i)) := by
  have h6 := ok.1
  unfold f_X1_share fiI shE facE
  by_cases c : tt = 0 ∨ hLots h (hB h) ≤ k
  · rw [if_pos c, if_pos c, if_pos (show m1 = -1 from rfl), q_1, pk_sub (by omega), nI_l (by omega)]
  · obtain ⟨l1, l2, l3⟩ := lb_yes (h := h) (k := k) (by omega)
    have d := dg_ok ok (k := k) (by omega)
    have e3 : vdi (lbS h k) = nI (dgL h k) := (t.2 _ l1).2.2.1 (Or.inr l2)
    have ne : ¬ nI (lbS h k) = -1 := by rw [show (-1 : Int32) = m1 from rfl, m1_ne (by omega)]; exact id
    rw [if_neg c, if_neg c, if_neg ne, q_cl (by omega), e3]
    by_cases c1 : i = 1
    · rw [if_pos (by rw [c1]; rfl), if_pos c1, if_neg (by rw [q_0, q_lt (by omega) (by omega)]; omega), nI_l (by omega)]
    · rw [if_neg (by rw [q_1, q_eq (by omega) (by omega)]; exact c1), if_neg c1, if_neg (by rw [q_0, q_lt (by omega) (by omega)]; omega), q_4, pk_sub (by omega), nI_l (by omega)]
def luE (h : Hl) (tt k i : Nat) : Nat := if tt = 0 ∨ hLots h (hB h) ≤ k then 0 else i * 2 ^ lbS h k
theorem x_luck {h : Hl} (ok : hOK h) {tt k i : Nat} (hi : i < 2) : f_X1_luckOf (fiI h tt k) (nI i) = some (nI (luE h tt k i)) := by
  have h6 := ok.1
  unfold f_X1_luckOf fiI luE
  by_cases c : tt = 0 ∨ hLots h (hB h) ≤ k
  · rw [if_pos c, if_pos c, if_pos (show m1 = -1 from rfl)]; rfl
  · obtain ⟨l1, l2, l3⟩ := lb_yes (h := h) (k := k) (by omega)
    have ne : ¬ nI (lbS h k) = -1 := by rw [show (-1 : Int32) = m1 from rfl, m1_ne (by omega)]; exact id
    have p6 : 2 ^ lbS h k ≤ 2 ^ 6 := Nat.pow_le_pow_right (by decide) (by omega)
    have p7 : i * 2 ^ lbS h k ≤ 1 * 2 ^ 6 := Nat.mul_le_mul (by omega) p6
    rw [if_neg c, if_neg c, if_neg ne, show (31 : Int32) = nI 31 from rfl, q_a31 (by omega), pk_shlN (nI (lbS h k)) (lbS h k) (q_sm (by omega)) (by omega)]
theorem bs_or2 (P Q : Nat → Bool) : ∀ n, bs (fun b => P b || Q b) n = bs P n ||| bs Q n := by
  intro n
  induction n with
  | zero => show 0 = 0 ||| 0; decide
  | succ n ih =>
    rw [bs_or, bs_or P, bs_or Q, ih]
    generalize bs P n = a
    generalize bs Q n = b
    generalize 2 ^ n = c
    by_cases p : P n = true
    · by_cases q : Q n = true
      · rw [if_pos (by rw [p]; rfl), if_pos p, if_pos q]
        apply Nat.eq_of_testBit_eq
        intro k
        rw [Nat.testBit_or, Nat.testBit_or, Nat.testBit_or, Nat.testBit_or, Nat.testBit_or]
        cases a.testBit k <;> cases b.testBit k <;> cases c.testBit k <;> rfl
      · rw [if_pos (by rw [p]; rfl), if_pos p, if_neg q]
        apply Nat.eq_of_testBit_eq
        intro k
        rw [Nat.testBit_or, Nat.testBit_or, Nat.testBit_or, Nat.testBit_or]
        cases a.testBit k <;> cases b.testBit k <;> cases c.testBit k <;> rfl
    · by_cases q : Q n = true
      · rw [if_pos (by rw [q, Bool.or_true]), if_neg p, if_pos q]
        apply Nat.eq_of_testBit_eq
        intro k
        rw [Nat.testBit_or, Nat.testBit_or, Nat.testBit_or, Nat.testBit_or]
        cases a.testBit k <;> cases b.testBit k <;> cases c.testBit k <;> rfl
      · rw [if_neg (fun z => by rw [Bool.or_eq_true] at z; exact z.elim p q), if_neg p, if_neg q]
theorem bs_one {n f i : Nat} (hi : i < 2) (hf : i = 1 → f < n) : bs (fun b => decide (b = f ∧ i = 1)) n = i * 2 ^ f := by
  by_cases c : i = 1
  · have e : bs (fun b => decide (b = f ∧ i = 1)) n = sm (fun s => if f = s then (fun s => 2 ^ s) s else 0) n := sm_congr n (fun b _ => by
      by_cases d : f = b
      · rw [if_pos d, if_pos (decide_eq_true ⟨d.symm, c⟩)]
      · rw [if_neg d, if_neg (fun z => d (of_decide_eq_true z).1.symm)])
    rw [e, sm_one (fun s => 2 ^ s), if_pos (hf c), c, Nat.one_mul]
  · rw [show i = 0 by omega, Nat.zero_mul]
    exact sm_zero n (fun b _ => if_neg (fun z => absurd (of_decide_eq_true z).2 (by decide)))
theorem lu_bs {h : Hl} (ok : hOK h) {tt i j : Nat} (hi : i < 2) (hj : j < 2) (hq : qE h tt (i + 2 * j) ≠ 0) : luE h tt 0 i ||| luE h tt 1 j = bs (lke h (i + 2 * j)) (hB h) := by
  have h6 := ok.1
  have h2 := ok.2.2
  unfold qE at hq
  rw [show (i + 2 * j) % 2 = i by omega, show (i + 2 * j) / 2 = j by omega] at hq
  have Z : ∀ k i, i < 2 → (tt = 0 ∨ hLots h (hB h) ≤ k) → shE h tt k i ≠ 0 → i = 0 := fun k i hi c q => by
    unfold shE at q; rw [if_pos c] at q; omega
  have q0 : shE h tt 0 i ≠ 0 := fun z => hq (by rw [z, Nat.zero_mul])
  have q1 : shE h tt 1 j ≠ 0 := fun z => hq (by rw [z, Nat.mul_zero])
  have lle : ∀ k, lbS h k ≤ hB h := fun k => by have := ff_le (lbP h k) (hB h) 0; unfold lbS; omega
  have lu : ∀ k i, (tt = 0 ∨ hLots h (hB h) ≤ k → i = 0) → luE h tt k i = i * 2 ^ lbS h k := fun k i hz => by
    unfold luE
    by_cases c : tt = 0 ∨ hLots h (hB h) ≤ k
    · rw [if_pos c, hz c, Nat.zero_mul]
    · rw [if_neg c]
  rw [lu 0 i (fun c => Z 0 i hi c q0), lu 1 j (fun c => Z 1 j hj c q1)]
  have f0 : i = 1 → lbS h 0 < hB h := fun e => by
    refine (lb_yes (Nat.lt_of_not_le (fun c => ?_))).1
    have := Z 0 i hi (Or.inr c) q0; omega
  have f1 : j = 1 → lbS h 1 < hB h := fun e => by
    refine (lb_yes (Nat.lt_of_not_le (fun c => ?_))).1
    have := Z 1 j hj (Or.inr c) q1; omega
  rw [← bs_one hi f0, ← bs_one hj f1, ← bs_or2]
  refine bs_congr (fun b hb => ?_)
  rw [← Bool.decide_or]
  unfold lke
  refine decide_eq_decide.mpr ⟨fun c => ?_, fun c => ?_⟩
  · rcases c with ⟨c1, c2⟩ | ⟨c1, c2⟩
    · have nz : ¬ (tt = 0 ∨ hLots h (hB h) ≤ 0) := fun c => by have := Z 0 i hi c q0; omega
      obtain ⟨l1, l2, l3⟩ := lb_yes (h := h) (k := 0) (by omega)
      rw [c1, l3]
      exact ⟨l2, by rw [Nat.pow_zero, Nat.div_one]; omega⟩
    · have nz : ¬ (tt = 0 ∨ hLots h (hB h) ≤ 1) := fun c => by have := Z 1 j hj c q1; omega
      obtain ⟨l1, l2, l3⟩ := lb_yes (h := h) (k := 1) (by omega)
      rw [c1, l3]
      exact ⟨l2, by rw [Nat.pow_one]; omega⟩
  · obtain ⟨c1, c2⟩ := c
    have hm := hLots_mono h (a := b + 1) (hB h) (by omega)
    rw [hLots_s, if_pos c1] at hm
    by_cases k0 : hLots h b = 0
    · rw [k0, Nat.pow_zero, Nat.div_one] at c2
      exact Or.inl ⟨(lb_is hb c1 k0).symm, by omega⟩
    · have k1 : hLots h b = 1 := by omega
      rw [k1, Nat.pow_one] at c2
      exact Or.inr ⟨(lb_is hb c1 k1).symm, by omega⟩
-- the reference's side
def wpF (h : Hl) (e b v : Nat) : Nat := if hMov h b = 4 then v * (if e / 2 ^ hLots h b % 2 = 1 then hDig h b else 4 - hDig h b) else v
theorem wp_is {h : Hl} (ok : hOK h) (e : Nat) : ∀ n, n ≤ hB h → it (wpF h e) 1 n = (if 0 < hLots h n then facE h 0 (e % 2) else 1) * (if 1 < hLots h n then facE h 1 (e / 2 % 2) else 1) := by
  intro n
  induction n with
  | zero => intro _; rw [show hLots h 0 = 0 from rfl, if_neg (Nat.not_lt_zero 0), if_neg (Nat.not_lt_zero 1)]; rfl
  | succ n ih =>
    intro hn
    show wpF h e n (it (wpF h e) 1 n) = _
    have hm := hLots_mono h (a := n + 1) (hB h) hn
    have h2 := ok.2.2
    rw [ih (by omega)]
    unfold wpF
    rw [hLots_s] at hm ⊢
    by_cases c : hMov h n = 4
    · rw [if_pos c] at hm ⊢
      rw [if_pos c]
      by_cases k0 : hLots h n = 0
      · have l := lb_is (by omega) c k0
        have A0 : (if 0 < hLots h n then facE h 0 (e % 2) else 1) = 1 := if_neg (by omega)
        have A1 : (if 1 < hLots h n then facE h 1 (e / 2 % 2) else 1) = 1 := if_neg (by omega)
        have B0 : (if 0 < hLots h n + 1 then facE h 0 (e % 2) else 1) = facE h 0 (e % 2) := if_pos (by omega)
        have B1 : (if 1 < hLots h n + 1 then facE h 1 (e / 2 % 2) else 1) = 1 := if_neg (by omega)
        rw [A0, A1, B0, B1, k0, Nat.pow_zero, Nat.div_one, Nat.mul_one, Nat.one_mul, Nat.mul_one]
        unfold facE dgL
        rw [l]
      · have k1 : hLots h n = 1 := by omega
        have l := lb_is (by omega) c k1
        have A0 : (if 0 < hLots h n then facE h 0 (e % 2) else 1) = facE h 0 (e % 2) := if_pos (by omega)
        have A1 : (if 1 < hLots h n then facE h 1 (e / 2 % 2) else 1) = 1 := if_neg (by omega)
        have B0 : (if 0 < hLots h n + 1 then facE h 0 (e % 2) else 1) = facE h 0 (e % 2) := if_pos (by omega)
        have B1 : (if 1 < hLots h n + 1 then facE h 1 (e / 2 % 2) else 1) = facE h 1 (e / 2 % 2) := if_pos (by omega)
        rw [A0, A1, B0, B1, k1, Nat.pow_one, Nat.mul_one]
        congr 1
        unfold facE dgL
        rw [l]
    · rw [if_neg c, if_neg c]; rfl
theorem m_weight {h : Hl} (ok : hOK h) {vb : Int32} {vme vmo vdi vsi vor : Nat → Int32} (t : tX h vb vme vmo vdi vsi vor) {N : Nat} (hN : 200000 ≤ N) {tt e : Nat} (ht : tt ≠ 0) (he : e < 4) (hl : e < 2 ^ hLots h (hB h)) : f_X7_weightOf N vb vmo vdi (nI e) = some (nI (qrE h tt e)) := by
  have h6 := ok.1
  have h2 := ok.2.2
  have e0 := t.1
  have L : lp (fun s : Int32 × Int32 × Int32 => f_X7_weightOf_B7 vb vmo vdi (nI e) s.1 s.2.1 s.2.2) N ((1 : Int32), (0 : Int32), (0 : Int32)) = some (nI (it (wpF h e) 1 (hB h)), nI (hLots h (hB h)), nI (hB h)) := by
    refine lp_for (fun n => (nI (it (wpF h e) 1 n), nI (hLots h n), nI n)) (hB h) (by omega) rfl ?_ ?_
    · intro b hb
      obtain ⟨e1, e2, e3, _⟩ := t.2 b hb
      have o := ok.2.1 b hb
      have o3 := o.2.2.1
      have hll := hLots_le h b
      show f_X7_weightOf_B7 vb vmo vdi (nI e) (nI (it (wpF h e) 1 b)) (nI (hLots h b)) (nI b) = some (Sum.inl (nI (wpF h e b (it (wpF h e) 1 b)), nI (hLots h b + (if hMov h b = 4 then 1 else 0)), nI (b + 1)))
      generalize it (wpF h e) 1 b = v
      unfold f_X7_weightOf_B7 f_X7_weightOf_L56 f_X7_weightOf_L61 wpF
      rw [e0, if_neg (by rw [q_le (by omega) (by omega)]; omega), q_cl (by omega), if_neg (by rw [q_0, q_lt (by omega) (by omega)]; omega), e2, show (31 : Int32) = nI 31 from rfl, q_1, q_bit (by omega) (by omega)]
      by_cases c : hMov h b = 4
      · obtain ⟨o8, o9⟩ := o.2.2.2.2.2.2.2.2 c
        rw [if_pos (by rw [c]; rfl), if_pos c, if_pos c, e3 (Or.inr c)]
        by_cases d : e / 2 ^ hLots h b % 2 = 1
        · rw [if_pos (by rw [d]), if_pos d, pk_mul, nI_add, nI_add]
        · rw [if_neg (by rw [q_eq (by omega) (by omega)]; exact d), if_neg d, q_4, pk_sub (by omega), pk_mul, nI_add, nI_add]
      · rw [if_neg (by rw [q_4, q_eq (by omega) (by omega)]; exact c), if_neg c, if_neg c, nI_add]; rfl
    · show f_X7_weightOf_B7 vb vmo vdi (nI e) (nI (it (wpF h e) 1 (hB h))) (nI (hLots h (hB h))) (nI (hB h)) = _
      unfold f_X7_weightOf_B7
      rw [e0, if_pos (by rw [q_le (by omega) (by omega)]; omega)]
  unfold f_X7_weightOf
  refine b_run L ?_
  show (if nI (hLots h (hB h)) = 0 then some (16 : Int32) else if nI (hLots h (hB h)) = 1 then some ((4 : Int32) * nI (it (wpF h e) 1 (hB h))) else some (nI (it (wpF h e) 1 (hB h)))) = some (nI (qrE h tt e))
  rw [wp_is ok e (hB h) (Nat.le_refl _)]
  unfold qrE wyS wyE qE shE
  by_cases k0 : hLots h (hB h) = 0
  · rw [k0] at hl ⊢
    have : e = 0 := by have : (2 : Nat) ^ 0 = 1 := rfl; omega
    subst this
    rw [if_pos (show nI 0 = 0 from rfl), if_pos (Or.inr (Nat.le_refl 0)), if_pos (Or.inr (by decide)), if_pos (Or.inr (Nat.le_refl 0)), if_pos (Or.inr (by decide))]
    rfl
  · by_cases k1 : hLots h (hB h) = 1
    · rw [k1] at hl ⊢
      have : e < 2 := by have : (2 : Nat) ^ 1 = 2 := rfl; omega
      rw [if_neg (by decide), if_pos (show nI 1 = 1 from rfl), if_pos (show 0 < 1 by decide), if_neg (show ¬ 1 < 1 by decide), if_neg (by omega), if_pos (Or.inr (Nat.le_refl 1)), if_neg (by omega), if_pos (Or.inr (Nat.le_refl 1)), q_4, pk_mul, show e / 2 = 0 by omega]
      congr 2
      show 4 * (facE h 0 (e % 2) * 1) = facE h 0 (e % 2) * 1 * 4
      omega
    · have k2 : hLots h (hB h) = 2 := by omega
      rw [k2]
      rw [if_neg (by decide), if_neg (by decide), if_pos (by decide), if_pos (by decide), if_neg (by omega), if_neg (by omega), if_neg (by omega), if_neg (by omega), show e / 2 % 2 = e / 2 by omega]
      congr 2
      show _ = _ * 1
      omega
