-- tables of states with their weights
def Tb (P : Nat → Prop) (W : Nat → Nat) (vs : Int32) (a : Nat) (va : Nat → Int32) (b : Nat) (vb : Nat → Int64) (c : Nat) (vc : Nat → Int32) : Prop :=
  ∃ (k n : Nat) (st wt sl : Nat → Nat), k ≤ 11 ∧ n ≤ 32 * 2 ^ k ∧ a = 32 * 2 ^ k ∧ b = 32 * 2 ^ k ∧ c = 128 * 2 ^ k ∧ vs = nI n ∧ SI n (128 * 2 ^ k) st sl ∧ (∀ j, j < n → va j = nI (st j) ∧ st j < 46656 ∧ P (st j)) ∧ (∀ j, j < n → vb j = lN (wt j)) ∧ (∀ p, p < 128 * 2 ^ k → vc p = nI (sl p)) ∧ ∀ x, wf n st wt x = W x
theorem p_k {k : Nat} (hk : k ≤ 11) : 1 ≤ 2 ^ k ∧ 2 ^ k ≤ 2048 := ⟨Nat.two_pow_pos k, (Nat.pow_le_pow_right (by decide) hk : 2 ^ k ≤ 2 ^ 11)⟩
theorem pw_k {k : Nat} (hk : k ≤ 11) : pw (128 * 2 ^ k) := ⟨7 + k, by omega, by rw [Nat.pow_add]⟩
theorem Tb_len {P : Nat → Prop} {W : Nat → Nat} {vs : Int32} {a b c : Nat} {va vc : Nat → Int32} {vb : Nat → Int64} (h : Tb P W vs a va b vb c vc) : lenO a b c := by
  obtain ⟨k, n, st, wt, sl, h1, h2, h3, h4, h5, _⟩ := h
  exact ⟨k, h1, h3, h4, h5⟩
theorem Tb_cong {P : Nat → Prop} {W W' : Nat → Nat} {vs : Int32} {a b c : Nat} {va vc : Nat → Int32} {vb : Nat → Int64} (h : Tb P W vs a va b vb c vc) (e : ∀ x, W' x = W x) : Tb P W' vs a va b vb c vc := by
  obtain ⟨k, n, st, wt, sl, h1, h2, h3, h4, h5, h6, h7, h8, h9, h10, h11⟩ := h
  exact ⟨k, n, st, wt, sl, h1, h2, h3, h4, h5, h6, h7, h8, h9, h10, fun x => (h11 x).trans (e x).symm⟩
theorem SI_0 (M : Nat) (st : Nat → Nat) : SI 0 M st (fun _ => 0) := ⟨fun _ _ => Nat.le_refl _, fun _ _ _ _ h => absurd rfl h, fun i j hij hj => by omega, fun j hj => by omega⟩
theorem x_fill3 {N : Nat} (hN : 300000 ≤ N) {n : Nat} (hn : n < 300000) (v : Nat → Int32) (x : Int32) : f_J7_fill_53178 N n v x = some (fl v x n) := by
  unfold f_J7_fill_53178
  refine b_run (lp_for (fun k => (nI k, fl v x k)) n (by omega) rfl ?_ ?_ (r := fl v x n)) rfl
  · intro k hk
    simp (disch := omega) only [f_J7_fill_53178_B5, d_let, d_lef, d_ltt, d_ltf, d_eqt, d_eqf, ↓reduceIte, or_false, false_or, or_true, true_or, and_true, true_and, and_false, false_and, not_true_eq_false, not_false_eq_true, Bool.false_eq_true, Option.bind_some, q_ofNat, q_cl, q_lt, q_le, q_eq, nI_add, pk_mul, q_m1, q_m4, m1_lt, m1_le, m1_nlt, m1_nle, m1_ne, m1_ne2, m4_lt, m4_le, m4_nlt, m4_nle, m4_ne, m4_ne2, q_0, q_1, q_2, q_3, q_4, q_5, q_6, q_8, q_12, q_15, q_16, q_20, q_24, q_30, q_31, q_32, q_80, q_9, q_99, q_126, q_48, q_57, q_58, q_59, q_97, q_101, q_10, q_21, q_255, q_46656]; rfl
  · simp (disch := omega) only [f_J7_fill_53178_B5, d_let, d_lef, d_ltt, d_ltf, d_eqt, d_eqf, ↓reduceIte, or_false, false_or, or_true, true_or, and_true, true_and, and_false, false_and, not_true_eq_false, not_false_eq_true, Bool.false_eq_true, Option.bind_some, q_ofNat, q_cl, q_lt, q_le, q_eq, nI_add, pk_mul, q_m1, q_m4, m1_lt, m1_le, m1_nlt, m1_nle, m1_ne, m1_ne2, m4_lt, m4_le, m4_nlt, m4_nle, m4_ne, m4_ne2, q_0, q_1, q_2, q_3, q_4, q_5, q_6, q_8, q_12, q_15, q_16, q_20, q_24, q_30, q_31, q_32, q_80, q_9, q_99, q_126, q_48, q_57, q_58, q_59, q_97, q_101, q_10, q_21, q_255, q_46656]
theorem x_empty {N : Nat} (hN : 300000 ≤ N) (P : Nat → Prop) {a b c : Nat} (h : lenO a b c) (va : Nat → Int32) (vb : Nat → Int64) (vc : Nat → Int32) : ∃ v, f_X3_empty N c vc = some ((0 : Int32), v) ∧ Tb P (fun _ => 0) 0 a va b vb c v := by
  obtain ⟨k, hk, rfl, rfl, rfl⟩ := h
  obtain ⟨p1, p2⟩ := p_k hk
  refine ⟨fl vc 0 (128 * 2 ^ k), ?_, k, 0, fun _ => 0, fun _ => 0, fun _ => 0, hk, by omega, rfl, rfl, rfl, rfl, SI_0 _ _, fun j hj => by omega, fun j hj => by omega, fun p hp => fl_in hp, fun x => rfl⟩
  unfold f_X3_empty
  exact b_run (x_fill3 hN (by omega) vc 0) rfl
theorem x_grow {N : Nat} (hN : 300000 ≤ N) {k : Nat} (hk : k ≤ 10) {n : Nat} (hn : n = 32 * 2 ^ k) {st : Nat → Nat} (dis : ∀ i j, i < j → j < n → st i ≠ st j) {va : Nat → Int32} (A : ∀ j, j < n → va j = nI (st j) ∧ st j < 46656) (vb : Nat → Int64) :
    ∃ va' vb' vc' sl, f_X3_grow N (nI n) (32 * 2 ^ k) va (32 * 2 ^ k) vb (128 * 2 ^ k) = some (32 * 2 ^ (k + 1), va', 32 * 2 ^ (k + 1), vb', 128 * 2 ^ (k + 1), vc') ∧ (∀ j, j < n → va' j = va j) ∧ (∀ j, j < n → vb' j = vb j) ∧ SI n (128 * 2 ^ (k + 1)) st sl ∧ ∀ p, p < 128 * 2 ^ (k + 1) → vc' p = nI (sl p) := by
  obtain ⟨p1, p2⟩ := p_k (k := k) (by omega)
  have p3 : 2 ^ k ≤ 2 ^ 10 := Nat.pow_le_pow_right (by decide) hk
  have p3 : 2 ^ k ≤ 1024 := p3
  have e2 : 2 ^ (k + 1) = 2 * 2 ^ k := by rw [Nat.pow_succ, Nat.mul_comm]
  have hpw : pw (128 * 2 ^ (k + 1)) := pw_k (by omega)
  have c1 : ∀ j, j < n → va_cpy va (fun _ => 0) 0 0 (32 * 2 ^ k) j = va j := fun j hj => by rw [pk_cpy_in (Nat.zero_le j) (by omega)]; congr 1; omega
  have c2 : ∀ j, j < n → va_cpy vb (fun _ => 0) 0 0 (32 * 2 ^ k) j = vb j := fun j hj => by rw [pk_cpy_in (Nat.zero_le j) (by omega)]; congr 1; omega
  have L : ∃ e : Nat × (Nat → Int32) × Nat × (Nat → Int64) × Nat × (Nat → Int32), lp (fun s : Int32 × (Nat → Int32) => f_X3_grow_B51 N (nI n) (2 * (32 * 2 ^ k)) (va_cpy va (fun _ => 0) 0 0 (32 * 2 ^ k)) (2 * (32 * 2 ^ k)) (va_cpy vb (fun _ => 0) 0 0 (32 * 2 ^ k)) (2 * (128 * 2 ^ k)) s.1 s.2) N ((0 : Int32), (fun _ => 0)) = some e ∧ ∃ vc' sl, e = (32 * 2 ^ (k + 1), va_cpy va (fun _ => 0) 0 0 (32 * 2 ^ k), 32 * 2 ^ (k + 1), va_cpy vb (fun _ => 0) 0 0 (32 * 2 ^ k), 128 * 2 ^ (k + 1), vc') ∧ SI n (128 * 2 ^ (k + 1)) st sl ∧ ∀ p, p < 128 * 2 ^ (k + 1) → vc' p = nI (sl p) := by
    rw [show 2 * (32 * 2 ^ k) = 32 * 2 ^ (k + 1) by omega, show 2 * (128 * 2 ^ k) = 128 * 2 ^ (k + 1) by omega]
    generalize va_cpy va (fun _ => 0) 0 0 (32 * 2 ^ k) = va' at *
    generalize va_cpy vb (fun _ => 0) 0 0 (32 * 2 ^ k) = vb' at *
    refine lp_rel0 (fun i (s : Int32 × (Nat → Int32)) => s.1 = nI i ∧ ∃ sl, SI i (128 * 2 ^ (k + 1)) st sl ∧ ∀ p, p < 128 * 2 ^ (k + 1) → s.2 p = nI (sl p)) _ n (by omega) ⟨rfl, fun _ => 0, SI_0 _ _, fun p _ => rfl⟩ ?_ ?_
    · rintro i hi s ⟨h1, sl, h2, h3⟩
      left
      obtain ⟨a1, a2⟩ := A i hi
      have S := x_slot hN hpw (L := 32 * 2 ^ (k + 1)) (by omega) h2 (by omega) (by omega) a2 (vst := va') (fun j hj => by rw [c1 j (by omega)]; exact A j (by omega)) h3
      have hl := pr_lt (M := 128 * 2 ^ (k + 1)) (s := st i) (i := slS (128 * 2 ^ (k + 1)) st sl (st i)) (by omega)
      refine ⟨(nI (i + 1), upd s.2 (pr (128 * 2 ^ (k + 1)) (st i) (slS (128 * 2 ^ (k + 1)) st sl (st i))) (nI (i + 1))), ?_, rfl, _, SI_ins hpw h2 (by omega) (fun j hj => dis j i hj hi), fun p hp => ?_⟩
      · unfold f_X3_grow_B51
        rw [h1, if_neg (by rw [q_le (by omega) (by omega)]; omega), q_cl (by omega), if_neg (by rw [q_0, q_lt (by omega) (by omega)]; omega), c1 i hi, a1, S, Option.bind_some, q_cl (by omega), if_neg (by rw [q_0, q_lt (by omega) (by omega)]; omega), nI_1]
      · show upd s.2 _ (nI (i + 1)) p = nI (if p = pr (128 * 2 ^ (k + 1)) (st i) (slS (128 * 2 ^ (k + 1)) st sl (st i)) then i + 1 else sl p)
        by_cases d : p = pr (128 * 2 ^ (k + 1)) (st i) (slS (128 * 2 ^ (k + 1)) st sl (st i))
        · rw [if_pos d, ← d, pk_us]
        · rw [if_neg d, pk_un d]; exact h3 p hp
    · rintro s ⟨h1, sl, h2, h3⟩
      refine ⟨(32 * 2 ^ (k + 1), va', 32 * 2 ^ (k + 1), vb', 128 * 2 ^ (k + 1), s.2), ?_, s.2, sl, rfl, h2, h3⟩
      unfold f_X3_grow_B51
      rw [h1, if_pos (by rw [q_le (by omega) (by omega)]; omega)]
  obtain ⟨e, E1, vc', sl, E2, E3, E4⟩ := L
  subst E2
  refine ⟨_, _, vc', sl, ?_, c1, c2, E3, E4⟩
  unfold f_X3_grow
  rw [if_neg (by omega), if_neg (by omega), if_neg (by omega)]
  exact b_run E1 rfl
abbrev TbT : Type := Int32 × Nat × (Nat → Int32) × Nat × (Nat → Int64) × Nat × (Nat → Int32)
def TbU (P : Nat → Prop) (W : Nat → Nat) (u : TbT) : Prop := Tb P W u.1 u.2.1 u.2.2.1 u.2.2.2.1 u.2.2.2.2.1 u.2.2.2.2.2.1 u.2.2.2.2.2.2
theorem x_put {P : Nat → Prop} {W : Nat → Nat} {k n : Nat} (hk : k ≤ 11) (hn : n < 32 * 2 ^ k) {st wt sl : Nat → Nat} (S : SI n (128 * 2 ^ k) st sl) {va vc : Nat → Int32} {vb : Nat → Int64} (A : ∀ j, j < n → va j = nI (st j) ∧ st j < 46656 ∧ P (st j)) (B : ∀ j, j < n → vb j = lN (wt j)) (C : ∀ p, p < 128 * 2 ^ k → vc p = nI (sl p)) (D : ∀ x, wf n st wt x = W x) {s : Nat} (hs : s < 46656) (hP : P s) (w : Nat) (hno : ∀ j, j < n → st j ≠ s) :
    ∃ u : TbT, f_X3_add_L59 (nI n) (nI s) (lN w) (nI (pr (128 * 2 ^ k) s (slS (128 * 2 ^ k) st sl s))) (32 * 2 ^ k) va (32 * 2 ^ k) vb (128 * 2 ^ k) vc = some u ∧ TbU P (fun x => W x + if x = s then w else 0) u := by
  obtain ⟨p1, p2⟩ := p_k hk
  have hpw := pw_k hk
  have hl := pr_lt (M := 128 * 2 ^ k) (s := s) (i := slS (128 * 2 ^ k) st sl s) (by omega)
  obtain ⟨st', t1, t2⟩ : ∃ st' : Nat → Nat, (∀ j, j < n → st' j = st j) ∧ st' n = s := ⟨fun j => if j = n then s else st j, fun j hj => if_neg (by omega), if_pos rfl⟩
  obtain ⟨wt', r1, r2⟩ : ∃ wt' : Nat → Nat, (∀ j, j < n → wt' j = wt j) ∧ wt' n = w := ⟨fun j => if j = n then w else wt j, fun j hj => if_neg (by omega), if_pos rfl⟩
  have S1 := SI_cong S (sl' := sl) t1 (fun p _ => rfl) (by omega)
  have S2 := SI_ins hpw S1 (by omega) (fun j hj => by rw [t1 j hj, t2]; exact hno j hj)
  rw [t2, slS_cong S t1 (fun p _ => rfl) (by omega)] at S2
  refine ⟨(nI (n + 1), 32 * 2 ^ k, upd va n (nI s), 32 * 2 ^ k, vp_updL vb n (lN w), 128 * 2 ^ k, upd vc (pr (128 * 2 ^ k) s (slS (128 * 2 ^ k) st sl s)) (nI (n + 1))), ?_, k, n + 1, st', wt', _, hk, by omega, rfl, rfl, rfl, rfl, S2, fun j hj => ?_, fun j hj => ?_, fun p hp => ?_, fun x => ?_⟩
  · unfold f_X3_add_L59
    rw [q_cl (by omega), q_cl (by omega), if_neg (by rw [q_0, q_lt (by omega) (by omega)]; omega), if_neg (by rw [q_0, q_lt (by omega) (by omega)]; omega), if_neg (by rw [q_0, q_lt (by omega) (by omega)]; omega), nI_1]
  · show upd va n (nI s) j = nI (st' j) ∧ st' j < 46656 ∧ P (st' j)
    by_cases c : j = n
    · rw [c, t2, pk_us]; exact ⟨rfl, hs, hP⟩
    · rw [t1 j (by omega), pk_un c]; exact A j (by omega)
  · show vp_updL vb n (lN w) j = lN (wt' j)
    by_cases c : j = n
    · rw [c, r2, pk_uLs]
    · rw [r1 j (by omega), pk_uLn c]; exact B j (by omega)
  · show upd vc _ (nI (n + 1)) p = nI (if p = pr (128 * 2 ^ k) s (slS (128 * 2 ^ k) st sl s) then n + 1 else sl p)
    by_cases d : p = pr (128 * 2 ^ k) s (slS (128 * 2 ^ k) st sl s)
    · rw [if_pos d, ← d, pk_us]
    · rw [if_neg d, pk_un d]; exact C p hp
  · rw [wf_s, wf_cong t1 r1, D x, t2, r2]
    show W x + (if s = x then w else 0) = W x + if x = s then w else 0
    by_cases c : s = x
    · rw [if_pos c, if_pos c.symm]
    · rw [if_neg c, if_neg (fun q => c q.symm)]
theorem x_add {N : Nat} (hN : 300000 ≤ N) {P : Nat → Prop} {W : Nat → Nat} {vs : Int32} {a b c : Nat} {va vc : Nat → Int32} {vb : Nat → Int64} (h : Tb P W vs a va b vb c vc) {s : Nat} (hs : s < 46656) (hP : P s) (w : Nat) :
    ∃ u : TbT, f_X3_add N vs a va b vb c vc (nI s) (lN w) = some u ∧ TbU P (fun x => W x + if x = s then w else 0) u := by
  obtain ⟨k, n, st, wt, sl, hk, hn, rfl, rfl, rfl, rfl, S, A, B, C, D⟩ := h
  obtain ⟨p1, p2⟩ := p_k hk
  have hpw := pw_k hk
  have A2 : ∀ j, j < n → va j = nI (st j) ∧ st j < 46656 := fun j hj => ⟨(A j hj).1, (A j hj).2.1⟩
  have SL := x_slot hN hpw (L := 32 * 2 ^ k) (by omega) S (by omega) hn hs A2 C
  have hl := pr_lt (M := 128 * 2 ^ k) (s := s) (i := slS (128 * 2 ^ k) st sl s) (by omega)
  have hC := C _ hl
  by_cases c : ∃ j, j < n ∧ st j = s
  · obtain ⟨j, hj, he⟩ := c
    have y := sl_yes hpw S (by omega) hj he
    rw [y] at hC
    refine ⟨(nI n, 32 * 2 ^ k, va, 32 * 2 ^ k, vp_updL vb j (vb j + lN w), 128 * 2 ^ k, vc), ?_, k, n, st, fun i => if i = j then wt i + w else wt i, sl, hk, hn, rfl, rfl, rfl, rfl, S, A, fun i hi => ?_, C, fun x => ?_⟩
    · unfold f_X3_add
      rw [SL, Option.bind_some, q_cl (by omega), if_neg (by rw [q_0, q_lt (by omega) (by omega)]; omega), hC, if_neg (nI_ne0 (by omega) (by omega)), q_1, pk_sub (by omega), q_cl (by omega), if_neg (by rw [q_0, q_lt (by omega) (by omega)]; omega)]
      rfl
    · show vp_updL vb j (vb j + lN w) i = lN (if i = j then wt i + w else wt i)
      by_cases d : i = j
      · rw [if_pos d, d, pk_uLs, B j hj, lN_add]
      · rw [if_neg d, pk_uLn d]; exact B i hi
    · rw [wf_ins S.2.2.1 hj, D x, he]
  · have hno : ∀ j, j < n → st j ≠ s := fun j hj e => c ⟨j, hj, e⟩
    have z := (sl_no hpw S (by omega) hno).1
    rw [z] at hC
    by_cases f : n = 32 * 2 ^ k
    · have k10 : k ≤ 10 := by
        have := pigeon 46656 n st (fun i hi => (A i hi).2.1) S.2.2.1
        refine Nat.le_of_not_lt (fun q => ?_)
        rw [show k = 11 by omega] at f
        have : (2 : Nat) ^ 11 = 2048 := rfl
        omega
      obtain ⟨va', vb', vc', sl', G1, G2, G3, G4, G5⟩ := x_grow hN k10 f S.2.2.1 A2 vb
      obtain ⟨p3, p4⟩ := p_k (k := k + 1) (by omega)
      have e2 : 2 ^ (k + 1) = 2 * 2 ^ k := by rw [Nat.pow_succ, Nat.mul_comm]
      have SL2 := x_slot hN (pw_k (k := k + 1) (by omega)) (L := 32 * 2 ^ (k + 1)) (by omega) G4 (by omega) (by omega) hs (vst := va') (fun j hj => by rw [G2 j hj]; exact A2 j hj) G5
      obtain ⟨u, U1, U2⟩ := x_put (W := W) (k := k + 1) (by omega) (by omega) G4 (va := va') (vc := vc') (vb := vb') (wt := wt) (fun j hj => by rw [G2 j hj]; exact A j hj) (fun j hj => by rw [G3 j hj]; exact B j hj) G5 D hs hP w hno
      refine ⟨u, ?_, U2⟩
      unfold f_X3_add
      rw [SL, Option.bind_some, q_cl (by omega), if_neg (by rw [q_0, q_lt (by omega) (by omega)]; omega), hC, if_pos (show nI 0 = 0 from rfl), if_pos (by rw [f]; rfl), G1, Option.bind_some]
      exact b_run SL2 U1
    · obtain ⟨u, U1, U2⟩ := x_put (W := W) hk (by omega) S A B C D hs hP w hno
      refine ⟨u, ?_, U2⟩
      unfold f_X3_add
      rw [SL, Option.bind_some, q_cl (by omega), if_neg (by rw [q_0, q_lt (by omega) (by omega)]; omega), hC, if_pos (show nI 0 = 0 from rfl), if_neg (by rw [q_ofNat, q_eq (by omega) (by omega)]; exact f)]
      exact U1
