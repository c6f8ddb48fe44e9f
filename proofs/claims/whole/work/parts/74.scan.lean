-- the text: how it is read, sign by sign
def sk (g : Nat → Nat) (T a : Nat) : Nat := ff (fun i => decide (g i ≠ 32)) a (T - a)
theorem sk_le {g : Nat → Nat} {T a : Nat} (h : a ≤ T) : a ≤ sk g T a ∧ sk g T a ≤ T := by
  have := ff_le (fun i => decide (g i ≠ 32)) (T - a) a
  unfold sk; omega
theorem sk_sk {g : Nat → Nat} {T a : Nat} (h : a ≤ T) : sk g T (sk g T a) = sk g T a := by
  have hl := sk_le (g := g) h
  by_cases c : sk g T a < T
  · have hy := ff_yes (fun i => decide (g i ≠ 32)) (T - a) a (by unfold sk at c; omega)
    exact ff_is (fun i => decide (g i ≠ 32)) (Nat.le_refl _) (by omega) hy (fun j h1 h2 => by omega)
  · have e : sk g T a = T := by omega
    rw [e]; unfold sk; rw [Nat.sub_self]; rfl
def chI (g : Nat → Nat) (T p : Nat) : Int32 := if p < T then nI (g p) else m1
def tOK (g : Nat → Nat) (T : Nat) (v : Nat → Int32) : Prop := T ≤ 80 ∧ ∀ i, i < T → v i = nI (g i) ∧ 32 ≤ g i ∧ g i ≤ 126
theorem x_sign {g : Nat → Nat} {T : Nat} {v : Nat → Int32} (t : tOK g T v) {N : Nat} (hN : 200000 ≤ N) {a : Nat} (ha : a ≤ T) : f_X4_sign N (nI T) (nI a) v = some (chI g T (sk g T a), nI (sk g T a)) := by
  have hT := t.1
  have hl := sk_le (g := g) ha
  unfold f_X4_sign
  have L : lp (fun s => f_X4_sign_B0 (nI T) v s) N (nI a) = some (nI (sk g T a)) := by
    have E : (if sk g T a < T then nI (sk g T a) else nI T) = nI (sk g T a) := by
      by_cases c : sk g T a < T
      · rw [if_pos c]
      · rw [if_neg c, show sk g T a = T by omega]
    rw [← E]
    refine lp_find (fun i => nI i) (fun i => decide (g i ≠ 32)) T a (fun i => nI i) (nI T) (by omega) ha rfl ?_ ?_ ?_
    · intro i _ hi hP
      obtain ⟨e1, e2, e3⟩ := t.2 i hi
      have hP := Classical.not_not.mp (of_decide_eq_false hP)
      simp (disch := omega) only [f_X4_sign_B0, d_let, d_lef, d_ltt, d_ltf, d_eqt, d_eqf, ↓reduceIte, or_false, false_or, or_true, true_or, and_true, true_and, and_false, false_and, not_true_eq_false, not_false_eq_true, Bool.false_eq_true, Option.bind_some, q_ofNat, q_cl, q_lt, q_le, q_eq, nI_add, pk_mul, q_m1, q_m4, m1_lt, m1_le, m1_nlt, m1_nle, m1_ne, m1_ne2, m4_lt, m4_le, m4_nlt, m4_nle, m4_ne, m4_ne2, q_0, q_1, q_2, q_3, q_4, q_5, q_6, q_8, q_12, q_15, q_16, q_20, q_24, q_30, q_31, q_32, q_80, q_9, q_99, q_126, q_48, q_57, q_58, q_59, q_97, q_101, q_10, q_21, q_255, q_46656, e1]
    · intro i _ hi hP
      obtain ⟨e1, e2, e3⟩ := t.2 i hi
      have hP := of_decide_eq_true hP
      simp (disch := omega) only [f_X4_sign_B0, d_let, d_lef, d_ltt, d_ltf, d_eqt, d_eqf, ↓reduceIte, or_false, false_or, or_true, true_or, and_true, true_and, and_false, false_and, not_true_eq_false, not_false_eq_true, Bool.false_eq_true, Option.bind_some, q_ofNat, q_cl, q_lt, q_le, q_eq, nI_add, pk_mul, q_m1, q_m4, m1_lt, m1_le, m1_nlt, m1_nle, m1_ne, m1_ne2, m4_lt, m4_le, m4_nlt, m4_nle, m4_ne, m4_ne2, q_0, q_1, q_2, q_3, q_4, q_5, q_6, q_8, q_12, q_15, q_16, q_20, q_24, q_30, q_31, q_32, q_80, q_9, q_99, q_126, q_48, q_57, q_58, q_59, q_97, q_101, q_10, q_21, q_255, q_46656, e1]
    · simp (disch := omega) only [f_X4_sign_B0, d_let, d_lef, d_ltt, d_ltf, d_eqt, d_eqf, ↓reduceIte, or_false, false_or, or_true, true_or, and_true, true_and, and_false, false_and, not_true_eq_false, not_false_eq_true, Bool.false_eq_true, Option.bind_some, q_ofNat, q_cl, q_lt, q_le, q_eq, nI_add, pk_mul, q_m1, q_m4, m1_lt, m1_le, m1_nlt, m1_nle, m1_ne, m1_ne2, m4_lt, m4_le, m4_nlt, m4_nle, m4_ne, m4_ne2, q_0, q_1, q_2, q_3, q_4, q_5, q_6, q_8, q_12, q_15, q_16, q_20, q_24, q_30, q_31, q_32, q_80, q_9, q_99, q_126, q_48, q_57, q_58, q_59, q_97, q_101, q_10, q_21, q_255, q_46656]
  refine b_run L ?_
  unfold chI
  by_cases c : sk g T a < T
  · obtain ⟨e1, e2, e3⟩ := t.2 _ c
    simp (disch := omega) only [d_let, d_lef, d_ltt, d_ltf, d_eqt, d_eqf, ↓reduceIte, or_false, false_or, or_true, true_or, and_true, true_and, and_false, false_and, not_true_eq_false, not_false_eq_true, Bool.false_eq_true, Option.bind_some, q_ofNat, q_cl, q_lt, q_le, q_eq, nI_add, pk_mul, q_m1, q_m4, m1_lt, m1_le, m1_nlt, m1_nle, m1_ne, m1_ne2, m4_lt, m4_le, m4_nlt, m4_nle, m4_ne, m4_ne2, q_0, q_1, q_2, q_3, q_4, q_5, q_6, q_8, q_12, q_15, q_16, q_20, q_24, q_30, q_31, q_32, q_80, q_9, q_99, q_126, q_48, q_57, q_58, q_59, q_97, q_101, q_10, q_21, q_255, q_46656, e1]
  · simp (disch := omega) only [d_let, d_lef, d_ltt, d_ltf, d_eqt, d_eqf, ↓reduceIte, or_false, false_or, or_true, true_or, and_true, true_and, and_false, false_and, not_true_eq_false, not_false_eq_true, Bool.false_eq_true, Option.bind_some, q_ofNat, q_cl, q_lt, q_le, q_eq, nI_add, pk_mul, q_m1, q_m4, m1_lt, m1_le, m1_nlt, m1_nle, m1_ne, m1_ne2, m4_lt, m4_le, m4_nlt, m4_nle, m4_ne, m4_ne2, q_0, q_1, q_2, q_3, q_4, q_5, q_6, q_8, q_12, q_15, q_16, q_20, q_24, q_30, q_31, q_32, q_80, q_9, q_99, q_126, q_48, q_57, q_58, q_59, q_97, q_101, q_10, q_21, q_255, q_46656]
theorem m_next {g : Nat → Nat} {T : Nat} {v : Nat → Int32} (t : tOK g T v) {N : Nat} (hN : 200000 ≤ N) {a : Nat} (ha : a ≤ T) : f_X7_next N (nI T) (nI a) v = some (chI g T (sk g T a), nI (sk g T a)) := by
  have hT := t.1
  have hl := sk_le (g := g) ha
  unfold f_X7_next
  have L : lp (fun s => f_X7_next_B0 (nI T) v s) N (nI a) = some (nI (sk g T a)) := by
    have E : (if sk g T a < T then nI (sk g T a) else nI T) = nI (sk g T a) := by
      by_cases c : sk g T a < T
      · rw [if_pos c]
      · rw [if_neg c, show sk g T a = T by omega]
    rw [← E]
    refine lp_find (fun i => nI i) (fun i => decide (g i ≠ 32)) T a (fun i => nI i) (nI T) (by omega) ha rfl ?_ ?_ ?_
    · intro i _ hi hP
      obtain ⟨e1, e2, e3⟩ := t.2 i hi
      have hP := Classical.not_not.mp (of_decide_eq_false hP)
      simp (disch := omega) only [f_X7_next_B0, d_let, d_lef, d_ltt, d_ltf, d_eqt, d_eqf, ↓reduceIte, or_false, false_or, or_true, true_or, and_true, true_and, and_false, false_and, not_true_eq_false, not_false_eq_true, Bool.false_eq_true, Option.bind_some, q_ofNat, q_cl, q_lt, q_le, q_eq, nI_add, pk_mul, q_m1, q_m4, m1_lt, m1_le, m1_nlt, m1_nle, m1_ne, m1_ne2, m4_lt, m4_le, m4_nlt, m4_nle, m4_ne, m4_ne2, q_0, q_1, q_2, q_3, q_4, q_5, q_6, q_8, q_12, q_15, q_16, q_20, q_24, q_30, q_31, q_32, q_80, q_9, q_99, q_126, q_48, q_57, q_58, q_59, q_97, q_101, q_10, q_21, q_255, q_46656, e1]
    · intro i _ hi hP
      obtain ⟨e1, e2, e3⟩ := t.2 i hi
      have hP := of_decide_eq_true hP
      simp (disch := omega) only [f_X7_next_B0, d_let, d_lef, d_ltt, d_ltf, d_eqt, d_eqf, ↓reduceIte, or_false, false_or, or_true, true_or, and_true, true_and, and_false, false_and, not_true_eq_false, not_false_eq_true, Bool.false_eq_true, Option.bind_some, q_ofNat, q_cl, q_lt, q_le, q_eq, nI_add, pk_mul, q_m1, q_m4, m1_lt, m1_le, m1_nlt, m1_nle, m1_ne, m1_ne2, m4_lt, m4_le, m4_nlt, m4_nle, m4_ne, m4_ne2, q_0, q_1, q_2, q_3, q_4, q_5, q_6, q_8, q_12, q_15, q_16, q_20, q_24, q_30, q_31, q_32, q_80, q_9, q_99, q_126, q_48, q_57, q_58, q_59, q_97, q_101, q_10, q_21, q_255, q_46656, e1]
    · simp (disch := omega) only [f_X7_next_B0, d_let, d_lef, d_ltt, d_ltf, d_eqt, d_eqf, ↓reduceIte, or_false, false_or, or_true, true_or, and_true, true_and, and_false, false_and, not_true_eq_false, not_false_eq_true, Bool.false_eq_true, Option.bind_some, q_ofNat, q_cl, q_lt, q_le, q_eq, nI_add, pk_mul, q_m1, q_m4, m1_lt, m1_le, m1_nlt, m1_nle, m1_ne, m1_ne2, m4_lt, m4_le, m4_nlt, m4_nle, m4_ne, m4_ne2, q_0, q_1, q_2, q_3, q_4, q_5, q_6, q_8, q_12, q_15, q_16, q_20, q_24, q_30, q_31, q_32, q_80, q_9, q_99, q_126, q_48, q_57, q_58, q_59, q_97, q_101, q_10, q_21, q_255, q_46656]
  refine b_run L ?_
  unfold chI
  by_cases c : sk g T a < T
  · obtain ⟨e1, e2, e3⟩ := t.2 _ c
    simp (disch := omega) only [d_let, d_lef, d_ltt, d_ltf, d_eqt, d_eqf, ↓reduceIte, or_false, false_or, or_true, true_or, and_true, true_and, and_false, false_and, not_true_eq_false, not_false_eq_true, Bool.false_eq_true, Option.bind_some, q_ofNat, q_cl, q_lt, q_le, q_eq, nI_add, pk_mul, q_m1, q_m4, m1_lt, m1_le, m1_nlt, m1_nle, m1_ne, m1_ne2, m4_lt, m4_le, m4_nlt, m4_nle, m4_ne, m4_ne2, q_0, q_1, q_2, q_3, q_4, q_5, q_6, q_8, q_12, q_15, q_16, q_20, q_24, q_30, q_31, q_32, q_80, q_9, q_99, q_126, q_48, q_57, q_58, q_59, q_97, q_101, q_10, q_21, q_255, q_46656, e1]
  · simp (disch := omega) only [d_let, d_lef, d_ltt, d_ltf, d_eqt, d_eqf, ↓reduceIte, or_false, false_or, or_true, true_or, and_true, true_and, and_false, false_and, not_true_eq_false, not_false_eq_true, Bool.false_eq_true, Option.bind_some, q_ofNat, q_cl, q_lt, q_le, q_eq, nI_add, pk_mul, q_m1, q_m4, m1_lt, m1_le, m1_nlt, m1_nle, m1_ne, m1_ne2, m4_lt, m4_le, m4_nlt, m4_nle, m4_ne, m4_ne2, q_0, q_1, q_2, q_3, q_4, q_5, q_6, q_8, q_12, q_15, q_16, q_20, q_24, q_30, q_31, q_32, q_80, q_9, q_99, q_126, q_48, q_57, q_58, q_59, q_97, q_101, q_10, q_21, q_255, q_46656]
-- a number
theorem mi_48_57 (y : Int32) : f_X7_in y.toInt64 (48 : Int64) (57 : Int64) = some (if (48 : Int) ≤ y.toInt ∧ y.toInt ≤ 57 then nI 1 else nI 0) := m_in y 48 57 (d := (inferInstance : Decidable ((48 : Int) ≤ y.toInt ∧ y.toInt ≤ 57)))
theorem mi_1_20 (y : Int32) : f_X7_in y.toInt64 (1 : Int64) (20 : Int64) = some (if (1 : Int) ≤ y.toInt ∧ y.toInt ≤ 20 then nI 1 else nI 0) := m_in y 1 20 (d := (inferInstance : Decidable ((1 : Int) ≤ y.toInt ∧ y.toInt ≤ 20)))
theorem mi_97_101 (y : Int32) : f_X7_in y.toInt64 (97 : Int64) (101 : Int64) = some (if (97 : Int) ≤ y.toInt ∧ y.toInt ≤ 101 then nI 1 else nI 0) := m_in y 97 101 (d := (inferInstance : Decidable ((97 : Int) ≤ y.toInt ∧ y.toInt ≤ 101)))
theorem mi_0_5 (y : Int32) : f_X7_in y.toInt64 (0 : Int64) (5 : Int64) = some (if (0 : Int) ≤ y.toInt ∧ y.toInt ≤ 5 then nI 1 else nI 0) := m_in y 0 5 (d := (inferInstance : Decidable ((0 : Int) ≤ y.toInt ∧ y.toInt ≤ 5)))
theorem mi_1_3 (y : Int32) : f_X7_in y.toInt64 (1 : Int64) (3 : Int64) = some (if (1 : Int) ≤ y.toInt ∧ y.toInt ≤ 3 then nI 1 else nI 0) := m_in y 1 3 (d := (inferInstance : Decidable ((1 : Int) ≤ y.toInt ∧ y.toInt ≤ 3)))
def nuE (g : Nat → Nat) (T p : Nat) : Nat := ff (fun i => decide (¬ (48 ≤ g i ∧ g i ≤ 57))) p (T - p)
def nuC (g : Nat → Nat) (p k : Nat) : Nat := it (fun k v => min (v * 10 + g (p + k) - 48) 21) 0 k
def nuM (g : Nat → Nat) (p k : Nat) : Nat := it (fun k v => if v ≤ 99 then 10 * v + g (p + k) - 48 else v) 0 k
theorem nu_rel (g : Nat → Nat) (p : Nat) : ∀ k, (∀ j, j < k → 48 ≤ g (p + j) ∧ g (p + j) ≤ 57) → nuC g p k = min (nuM g p k) 21 ∧ nuM g p k ≤ 1000 := by
  intro k
  induction k with
  | zero => intro _; exact ⟨rfl, by show 0 ≤ 1000; decide⟩
  | succ k ih =>
    intro h
    obtain ⟨i1, i2⟩ := ih (fun j hj => h j (by omega))
    have hk := h k (by omega)
    show min (nuC g p k * 10 + g (p + k) - 48) 21 = min (if nuM g p k ≤ 99 then 10 * nuM g p k + g (p + k) - 48 else nuM g p k) 21 ∧ (if nuM g p k ≤ 99 then 10 * nuM g p k + g (p + k) - 48 else nuM g p k) ≤ 1000
    rw [i1]
    split <;> omega
theorem num_both {g : Nat → Nat} {T : Nat} {v w : Nat → Int32} (t : tOK g T v) (t2 : tOK g T w) {N : Nat} (hN : 200000 ≤ N) {a a' x : Nat} (ha : a ≤ T) (ha' : a' ≤ T) (haa : sk g T a = sk g T a') (hx : x < 6) (vme : Nat → Int32) :
    (∃ m e, 1 ≤ m ∧ m ≤ 20 ∧ e ≤ T ∧ f_X4_readMembers N (nI T) (nI a) v vme (nI x) = some (nI 1, nI e, upd vme x (nI m)) ∧ f_X7_readNumber N (nI T) (nI a') w = some (nI m, nI e)) ∨
    (∃ z, f_X4_readMembers N (nI T) (nI a) v vme (nI x) = some (nI 0, nI (sk g T a), upd vme x z) ∧ f_X7_readNumber N (nI T) (nI a') w = some (m1, nI (sk g T a))) := by
  have hT := t.1
  have hl := sk_le (g := g) ha
  have S := x_sign t hN ha
  have S2 := m_next t2 hN ha'
  rw [← haa] at S2
  generalize sk g T a = p at *
  have he := ff_le (fun i => decide (¬ (48 ≤ g i ∧ g i ≤ 57))) (T - p) p
  have hno : ∀ k, k < nuE g T p - p → 48 ≤ g (p + k) ∧ g (p + k) ≤ 57 := fun k hk => by
    have := ff_no (fun i => decide (¬ (48 ≤ g i ∧ g i ≤ 57))) (T - p) p (p + k) (by omega) (by unfold nuE at hk; omega)
    exact Classical.not_not.mp (of_decide_eq_false this)
  have hyes : nuE g T p < T → ¬ (48 ≤ g (nuE g T p) ∧ g (nuE g T p) ≤ 57) := fun h => of_decide_eq_true (ff_yes (fun i => decide (¬ (48 ≤ g i ∧ g i ≤ 57))) (T - p) p (by unfold nuE at h; omega))
  have heT : p ≤ nuE g T p ∧ nuE g T p ≤ T := by unfold nuE; omega
  clear he
  generalize nuE g T p = e at *
  obtain ⟨n, rfl⟩ : ∃ n, e = p + n := ⟨e - p, by omega⟩
  rw [Nat.add_sub_cancel_left] at hno
  have hrel := nu_rel g p n hno
  have LC : lp (fun s : Int32 × Int32 => f_X4_readMembers_B13 (nI T) v s.1 s.2) N ((0 : Int32), nI p) = some (nI (nuC g p n), nI (p + n)) := by
    refine lp_for (fun k => (nI (nuC g p k), nI (p + k))) n (by omega) rfl ?_ ?_
    · intro k hk
      have d := hno k hk
      have hr := nu_rel g p k (fun j hj => hno j (by omega))
      obtain ⟨e1, e2, e3⟩ := t.2 (p + k) (by omega)
      show _ = some (Sum.inl (nI (min (nuC g p k * 10 + g (p + k) - 48) 21), nI (p + k + 1)))
      have hc : nuC g p k ≤ 21 := by omega
      generalize nuC g p k = z at *
      by_cases c : 21 < z * 10 + g (p + k) - 48
      · rw [Nat.min_eq_right (by omega)]
        simp (disch := omega) only [f_X4_readMembers_B13, d_let, d_lef, d_ltt, d_ltf, d_eqt, d_eqf, ↓reduceIte, or_false, false_or, or_true, true_or, and_true, true_and, and_false, false_and, not_true_eq_false, not_false_eq_true, Bool.false_eq_true, Option.bind_some, q_ofNat, q_cl, q_lt, q_le, q_eq, nI_add, pk_mul, q_m1, q_m4, m1_lt, m1_le, m1_nlt, m1_nle, m1_ne, m1_ne2, m4_lt, m4_le, m4_nlt, m4_nle, m4_ne, m4_ne2, q_0, q_1, q_2, q_3, q_4, q_5, q_6, q_8, q_12, q_15, q_16, q_20, q_24, q_30, q_31, q_32, q_80, q_9, q_99, q_126, q_48, q_57, q_58, q_59, q_97, q_101, q_10, q_21, q_255, q_46656, e1, q_sub]
      · rw [Nat.min_eq_left (by omega)]
        simp (disch := omega) only [f_X4_readMembers_B13, d_let, d_lef, d_ltt, d_ltf, d_eqt, d_eqf, ↓reduceIte, or_false, false_or, or_true, true_or, and_true, true_and, and_false, false_and, not_true_eq_false, not_false_eq_true, Bool.false_eq_true, Option.bind_some, q_ofNat, q_cl, q_lt, q_le, q_eq, nI_add, pk_mul, q_m1, q_m4, m1_lt, m1_le, m1_nlt, m1_nle, m1_ne, m1_ne2, m4_lt, m4_le, m4_nlt, m4_nle, m4_ne, m4_ne2, q_0, q_1, q_2, q_3, q_4, q_5, q_6, q_8, q_12, q_15, q_16, q_20, q_24, q_30, q_31, q_32, q_80, q_9, q_99, q_126, q_48, q_57, q_58, q_59, q_97, q_101, q_10, q_21, q_255, q_46656, e1, q_sub]
    · by_cases c : p + n < T
      · obtain ⟨e1, e2, e3⟩ := t.2 _ c
        have := hyes c
        by_cases d : g (p + n) < 48
        · simp (disch := omega) only [f_X4_readMembers_B13, d_let, d_lef, d_ltt, d_ltf, d_eqt, d_eqf, ↓reduceIte, or_false, false_or, or_true, true_or, and_true, true_and, and_false, false_and, not_true_eq_false, not_false_eq_true, Bool.false_eq_true, Option.bind_some, q_ofNat, q_cl, q_lt, q_le, q_eq, nI_add, pk_mul, q_m1, q_m4, m1_lt, m1_le, m1_nlt, m1_nle, m1_ne, m1_ne2, m4_lt, m4_le, m4_nlt, m4_nle, m4_ne, m4_ne2, q_0, q_1, q_2, q_3, q_4, q_5, q_6, q_8, q_12, q_15, q_16, q_20, q_24, q_30, q_31, q_32, q_80, q_9, q_99, q_126, q_48, q_57, q_58, q_59, q_97, q_101, q_10, q_21, q_255, q_46656, e1]
        · simp (disch := omega) only [f_X4_readMembers_B13, d_let, d_lef, d_ltt, d_ltf, d_eqt, d_eqf, ↓reduceIte, or_false, false_or, or_true, true_or, and_true, true_and, and_false, false_and, not_true_eq_false, not_false_eq_true, Bool.false_eq_true, Option.bind_some, q_ofNat, q_cl, q_lt, q_le, q_eq, nI_add, pk_mul, q_m1, q_m4, m1_lt, m1_le, m1_nlt, m1_nle, m1_ne, m1_ne2, m4_lt, m4_le, m4_nlt, m4_nle, m4_ne, m4_ne2, q_0, q_1, q_2, q_3, q_4, q_5, q_6, q_8, q_12, q_15, q_16, q_20, q_24, q_30, q_31, q_32, q_80, q_9, q_99, q_126, q_48, q_57, q_58, q_59, q_97, q_101, q_10, q_21, q_255, q_46656, e1]
      · simp (disch := omega) only [f_X4_readMembers_B13, d_let, d_lef, d_ltt, d_ltf, d_eqt, d_eqf, ↓reduceIte, or_false, false_or, or_true, true_or, and_true, true_and, and_false, false_and, not_true_eq_false, not_false_eq_true, Bool.false_eq_true, Option.bind_some, q_ofNat, q_cl, q_lt, q_le, q_eq, nI_add, pk_mul, q_m1, q_m4, m1_lt, m1_le, m1_nlt, m1_nle, m1_ne, m1_ne2, m4_lt, m4_le, m4_nlt, m4_nle, m4_ne, m4_ne2, q_0, q_1, q_2, q_3, q_4, q_5, q_6, q_8, q_12, q_15, q_16, q_20, q_24, q_30, q_31, q_32, q_80, q_9, q_99, q_126, q_48, q_57, q_58, q_59, q_97, q_101, q_10, q_21, q_255, q_46656]
  have LM : lp (fun s : Int32 × Int32 => f_X7_readNumber_B12 (nI T) w s.1 s.2) N ((0 : Int32), nI p) = some (nI (nuM g p n), nI (p + n)) := by
    refine lp_for (fun k => (nI (nuM g p k), nI (p + k))) n (by omega) rfl ?_ ?_
    · intro k hk
      have d := hno k hk
      have hr := nu_rel g p k (fun j hj => hno j (by omega))
      obtain ⟨e1, e2, e3⟩ := t2.2 (p + k) (by omega)
      have I := mi_48_57 (nI (g (p + k)))
      rw [if_pos (by rw [nI_toInt (by omega)]; omega)] at I
      show _ = some (Sum.inl (nI (if nuM g p k ≤ 99 then 10 * nuM g p k + g (p + k) - 48 else nuM g p k), nI (p + k + 1)))
      generalize nuM g p k = z at *
      by_cases c : z ≤ 99
      · simp (disch := omega) only [f_X7_readNumber_B12, f_X7_readNumber_L72, d_let, d_lef, d_ltt, d_ltf, d_eqt, d_eqf, ↓reduceIte, or_false, false_or, or_true, true_or, and_true, true_and, and_false, false_and, not_true_eq_false, not_false_eq_true, Bool.false_eq_true, Option.bind_some, q_ofNat, q_cl, q_lt, q_le, q_eq, nI_add, pk_mul, q_m1, q_m4, m1_lt, m1_le, m1_nlt, m1_nle, m1_ne, m1_ne2, m4_lt, m4_le, m4_nlt, m4_nle, m4_ne, m4_ne2, q_0, q_1, q_2, q_3, q_4, q_5, q_6, q_8, q_12, q_15, q_16, q_20, q_24, q_30, q_31, q_32, q_80, q_9, q_99, q_126, q_48, q_57, q_58, q_59, q_97, q_101, q_10, q_21, q_255, q_46656, e1, I, q_sub]
      · simp (disch := omega) only [f_X7_readNumber_B12, f_X7_readNumber_L72, d_let, d_lef, d_ltt, d_ltf, d_eqt, d_eqf, ↓reduceIte, or_false, false_or, or_true, true_or, and_true, true_and, and_false, false_and, not_true_eq_false, not_false_eq_true, Bool.false_eq_true, Option.bind_some, q_ofNat, q_cl, q_lt, q_le, q_eq, nI_add, pk_mul, q_m1, q_m4, m1_lt, m1_le, m1_nlt, m1_nle, m1_ne, m1_ne2, m4_lt, m4_le, m4_nlt, m4_nle, m4_ne, m4_ne2, q_0, q_1, q_2, q_3, q_4, q_5, q_6, q_8, q_12, q_15, q_16, q_20, q_24, q_30, q_31, q_32, q_80, q_9, q_99, q_126, q_48, q_57, q_58, q_59, q_97, q_101, q_10, q_21, q_255, q_46656, e1, I]
    · by_cases c : p + n < T
      · obtain ⟨e1, e2, e3⟩ := t2.2 _ c
        have := hyes c
        have I := mi_48_57 (nI (g (p + n)))
        rw [if_neg (by rw [nI_toInt (by omega)]; omega)] at I
        simp (disch := omega) only [f_X7_readNumber_B12, d_let, d_lef, d_ltt, d_ltf, d_eqt, d_eqf, ↓reduceIte, or_false, false_or, or_true, true_or, and_true, true_and, and_false, false_and, not_true_eq_false, not_false_eq_true, Bool.false_eq_true, Option.bind_some, q_ofNat, q_cl, q_lt, q_le, q_eq, nI_add, pk_mul, q_m1, q_m4, m1_lt, m1_le, m1_nlt, m1_nle, m1_ne, m1_ne2, m4_lt, m4_le, m4_nlt, m4_nle, m4_ne, m4_ne2, q_0, q_1, q_2, q_3, q_4, q_5, q_6, q_8, q_12, q_15, q_16, q_20, q_24, q_30, q_31, q_32, q_80, q_9, q_99, q_126, q_48, q_57, q_58, q_59, q_97, q_101, q_10, q_21, q_255, q_46656, e1, I]
      · simp (disch := omega) only [f_X7_readNumber_B12, d_let, d_lef, d_ltt, d_ltf, d_eqt, d_eqf, ↓reduceIte, or_false, false_or, or_true, true_or, and_true, true_and, and_false, false_and, not_true_eq_false, not_false_eq_true, Bool.false_eq_true, Option.bind_some, q_ofNat, q_cl, q_lt, q_le, q_eq, nI_add, pk_mul, q_m1, q_m4, m1_lt, m1_le, m1_nlt, m1_nle, m1_ne, m1_ne2, m4_lt, m4_le, m4_nlt, m4_nle, m4_ne, m4_ne2, q_0, q_1, q_2, q_3, q_4, q_5, q_6, q_8, q_12, q_15, q_16, q_20, q_24, q_30, q_31, q_32, q_80, q_9, q_99, q_126, q_48, q_57, q_58, q_59, q_97, q_101, q_10, q_21, q_255, q_46656]
  rw [q_0] at LC LM
  by_cases c : 1 ≤ nuM g p n ∧ nuM g p n ≤ 20
  · left
    have hn0 : n ≠ 0 := fun q => by rw [q] at c; exact absurd c.1 (by show ¬ 1 ≤ 0; decide)
    have I := mi_1_20 (nI (nuM g p n))
    rw [if_pos (by rw [nI_toInt (by omega)]; omega)] at I
    have ec : nuC g p n = nuM g p n := by omega
    rw [ec] at LC
    refine ⟨nuM g p n, p + n, c.1, c.2, heT.2, ?_, ?_⟩
    · simp (disch := omega) only [f_X4_readMembers, d_let, d_lef, d_ltt, d_ltf, d_eqt, d_eqf, ↓reduceIte, or_false, false_or, or_true, true_or, and_true, true_and, and_false, false_and, not_true_eq_false, not_false_eq_true, Bool.false_eq_true, Option.bind_some, q_ofNat, q_cl, q_lt, q_le, q_eq, nI_add, pk_mul, q_m1, q_m4, m1_lt, m1_le, m1_nlt, m1_nle, m1_ne, m1_ne2, m4_lt, m4_le, m4_nlt, m4_nle, m4_ne, m4_ne2, q_0, q_1, q_2, q_3, q_4, q_5, q_6, q_8, q_12, q_15, q_16, q_20, q_24, q_30, q_31, q_32, q_80, q_9, q_99, q_126, q_48, q_57, q_58, q_59, q_97, q_101, q_10, q_21, q_255, q_46656, S, LC]
    · simp (disch := omega) only [f_X7_readNumber, d_let, d_lef, d_ltt, d_ltf, d_eqt, d_eqf, ↓reduceIte, or_false, false_or, or_true, true_or, and_true, true_and, and_false, false_and, not_true_eq_false, not_false_eq_true, Bool.false_eq_true, Option.bind_some, q_ofNat, q_cl, q_lt, q_le, q_eq, nI_add, pk_mul, q_m1, q_m4, m1_lt, m1_le, m1_nlt, m1_nle, m1_ne, m1_ne2, m4_lt, m4_le, m4_nlt, m4_nle, m4_ne, m4_ne2, q_0, q_1, q_2, q_3, q_4, q_5, q_6, q_8, q_12, q_15, q_16, q_20, q_24, q_30, q_31, q_32, q_80, q_9, q_99, q_126, q_48, q_57, q_58, q_59, q_97, q_101, q_10, q_21, q_255, q_46656, S2, LM, I]
  · right
    refine ⟨nI (nuC g p n), ?_, ?_⟩
    · by_cases d : nuC g p n < 1
      · simp (disch := omega) only [f_X4_readMembers, f_X4_readMembers_L111, d_let, d_lef, d_ltt, d_ltf, d_eqt, d_eqf, ↓reduceIte, or_false, false_or, or_true, true_or, and_true, true_and, and_false, false_and, not_true_eq_false, not_false_eq_true, Bool.false_eq_true, Option.bind_some, q_ofNat, q_cl, q_lt, q_le, q_eq, nI_add, pk_mul, q_m1, q_m4, m1_lt, m1_le, m1_nlt, m1_nle, m1_ne, m1_ne2, m4_lt, m4_le, m4_nlt, m4_nle, m4_ne, m4_ne2, q_0, q_1, q_2, q_3, q_4, q_5, q_6, q_8, q_12, q_15, q_16, q_20, q_24, q_30, q_31, q_32, q_80, q_9, q_99, q_126, q_48, q_57, q_58, q_59, q_97, q_101, q_10, q_21, q_255, q_46656, S, LC]
      · simp (disch := omega) only [f_X4_readMembers, f_X4_readMembers_L111, d_let, d_lef, d_ltt, d_ltf, d_eqt, d_eqf, ↓reduceIte, or_false, false_or, or_true, true_or, and_true, true_and, and_false, false_and, not_true_eq_false, not_false_eq_true, Bool.false_eq_true, Option.bind_some, q_ofNat, q_cl, q_lt, q_le, q_eq, nI_add, pk_mul, q_m1, q_m4, m1_lt, m1_le, m1_nlt, m1_nle, m1_ne, m1_ne2, m4_lt, m4_le, m4_nlt, m4_nle, m4_ne, m4_ne2, q_0, q_1, q_2, q_3, q_4, q_5, q_6, q_8, q_12, q_15, q_16, q_20, q_24, q_30, q_31, q_32, q_80, q_9, q_99, q_126, q_48, q_57, q_58, q_59, q_97, q_101, q_10, q_21, q_255, q_46656, S, LC]
    · by_cases d : n = 0
      · simp (disch := omega) only [f_X7_readNumber, d_let, d_lef, d_ltt, d_ltf, d_eqt, d_eqf, ↓reduceIte, or_false, false_or, or_true, true_or, and_true, true_and, and_false, false_and, not_true_eq_false, not_false_eq_true, Bool.false_eq_true, Option.bind_some, q_ofNat, q_cl, q_lt, q_le, q_eq, nI_add, pk_mul, q_m1, q_m4, m1_lt, m1_le, m1_nlt, m1_nle, m1_ne, m1_ne2, m4_lt, m4_le, m4_nlt, m4_nle, m4_ne, m4_ne2, q_0, q_1, q_2, q_3, q_4, q_5, q_6, q_8, q_12, q_15, q_16, q_20, q_24, q_30, q_31, q_32, q_80, q_9, q_99, q_126, q_48, q_57, q_58, q_59, q_97, q_101, q_10, q_21, q_255, q_46656, S2, LM]; rw [d]; rfl
      · have I := mi_1_20 (nI (nuM g p n))
        rw [if_neg (by rw [nI_toInt (by omega)]; omega)] at I
        simp (disch := omega) only [f_X7_readNumber, d_let, d_lef, d_ltt, d_ltf, d_eqt, d_eqf, ↓reduceIte, or_false, false_or, or_true, true_or, and_true, true_and, and_false, false_and, not_true_eq_false, not_false_eq_true, Bool.false_eq_true, Option.bind_some, q_ofNat, q_cl, q_lt, q_le, q_eq, nI_add, pk_mul, q_m1, q_m4, m1_lt, m1_le, m1_nlt, m1_nle, m1_ne, m1_ne2, m4_lt, m4_le, m4_nlt, m4_nle, m4_ne, m4_ne2, q_0, q_1, q_2, q_3, q_4, q_5, q_6, q_8, q_12, q_15, q_16, q_20, q_24, q_30, q_31, q_32, q_80, q_9, q_99, q_126, q_48, q_57, q_58, q_59, q_97, q_101, q_10, q_21, q_255, q_46656, S2, LM, I]
-- a move
def mvC (c : Nat) : Nat := if c = 102 then 0 else if c = 110 then 1 else if c = 108 then 2 else if c = 111 then 3 else if c = 107 then 4 else 9
theorem mv_x {c : Nat} (h : c < 128) : f_X4_moveOf (nI c) = some (if mvC c = 9 then m1 else nI (mvC c)) := co_dec (N := 128) (P := fun c => f_X4_moveOf (nI c) = some (if mvC c = 9 then m1 else nI (mvC c))) (by decide +kernel) h
theorem mvC_le (c : Nat) : mvC c = 9 ∨ mvC c ≤ 4 := by
  unfold mvC; split; omega; split; omega; split; omega; split; omega; split <;> omega
theorem digit_both {g : Nat → Nat} {T : Nat} {v w : Nat → Int32} (t : tOK g T v) (t2 : tOK g T w) {N : Nat} (hN : 200000 ≤ N) {a x lo hi : Nat} (ha : a ≤ T) (hx : x < 6) (hlo : 48 ≤ lo) (hlh : lo ≤ hi) (hhi : hi ≤ 57) (dp cdi : Nat → Int32) :
    (∃ d q, lo ≤ d + 48 ∧ d + 48 ≤ hi ∧ q < T ∧ q = sk g T a ∧ g q = d + 48 ∧ f_X4_readDigit N (nI T) (nI a) v dp cdi (nI x) (nI lo) (nI hi) = some (nI 1, nI (q + 1), upd dp x (nI q), upd cdi x (nI d)) ∧ f_X7_next N (nI T) (nI a) w = some (nI (d + 48), nI q)) ∨
    (f_X4_readDigit N (nI T) (nI a) v dp cdi (nI x) (nI lo) (nI hi) = some (nI 0, nI (sk g T a), dp, cdi) ∧ ∃ y : Int32, f_X7_next N (nI T) (nI a) w = some (y, nI (sk g T a)) ∧ (y.toInt < lo ∨ (hi : Int) < y.toInt) ∧ -1 ≤ y.toInt ∧ y.toInt ≤ 126) := by
  have hT := t.1
  have hl := sk_le (g := g) ha
  have S := x_sign t hN ha
  have S2 := m_next t2 hN ha
  generalize hq : sk g T a = q at *
  unfold chI at S S2
  by_cases c : q < T
  · rw [if_pos c] at S S2
    obtain ⟨e1, e2, e3⟩ := t.2 q c
    by_cases d : lo ≤ g q ∧ g q ≤ hi
    · left
      refine ⟨g q - 48, q, by omega, by omega, c, rfl, by omega, ?_, by rw [S2, show g q - 48 + 48 = g q by omega]⟩
      simp (disch := omega) only [f_X4_readDigit, d_let, d_lef, d_ltt, d_ltf, d_eqt, d_eqf, ↓reduceIte, or_false, false_or, or_true, true_or, and_true, true_and, and_false, false_and, not_true_eq_false, not_false_eq_true, Bool.false_eq_true, Option.bind_some, q_ofNat, q_cl, q_lt, q_le, q_eq, nI_add, pk_mul, q_m1, q_m4, m1_lt, m1_le, m1_nlt, m1_nle, m1_ne, m1_ne2, m4_lt, m4_le, m4_nlt, m4_nle, m4_ne, m4_ne2, q_0, q_1, q_2, q_3, q_4, q_5, q_6, q_8, q_12, q_15, q_16, q_20, q_24, q_30, q_31, q_32, q_80, q_9, q_99, q_126, q_48, q_57, q_58, q_59, q_97, q_101, q_10, q_21, q_255, q_46656, S, q_sub]
    · right
      refine ⟨?_, nI (g q), S2, by rw [nI_toInt (by omega)]; omega, by rw [nI_toInt (by omega)]; omega⟩
      by_cases f : g q < lo
      · simp (disch := omega) only [f_X4_readDigit, d_let, d_lef, d_ltt, d_ltf, d_eqt, d_eqf, ↓reduceIte, or_false, false_or, or_true, true_or, and_true, true_and, and_false, false_and, not_true_eq_false, not_false_eq_true, Bool.false_eq_true, Option.bind_some, q_ofNat, q_cl, q_lt, q_le, q_eq, nI_add, pk_mul, q_m1, q_m4, m1_lt, m1_le, m1_nlt, m1_nle, m1_ne, m1_ne2, m4_lt, m4_le, m4_nlt, m4_nle, m4_ne, m4_ne2, q_0, q_1, q_2, q_3, q_4, q_5, q_6, q_8, q_12, q_15, q_16, q_20, q_24, q_30, q_31, q_32, q_80, q_9, q_99, q_126, q_48, q_57, q_58, q_59, q_97, q_101, q_10, q_21, q_255, q_46656, S]
      · simp (disch := omega) only [f_X4_readDigit, d_let, d_lef, d_ltt, d_ltf, d_eqt, d_eqf, ↓reduceIte, or_false, false_or, or_true, true_or, and_true, true_and, and_false, false_and, not_true_eq_false, not_false_eq_true, Bool.false_eq_true, Option.bind_some, q_ofNat, q_cl, q_lt, q_le, q_eq, nI_add, pk_mul, q_m1, q_m4, m1_lt, m1_le, m1_nlt, m1_nle, m1_ne, m1_ne2, m4_lt, m4_le, m4_nlt, m4_nle, m4_ne, m4_ne2, q_0, q_1, q_2, q_3, q_4, q_5, q_6, q_8, q_12, q_15, q_16, q_20, q_24, q_30, q_31, q_32, q_80, q_9, q_99, q_126, q_48, q_57, q_58, q_59, q_97, q_101, q_10, q_21, q_255, q_46656, S]
  · rw [if_neg c] at S S2
    right
    refine ⟨?_, m1, S2, by rw [m1_toInt]; omega, by rw [m1_toInt]; omega⟩
    simp (disch := omega) only [f_X4_readDigit, d_let, d_lef, d_ltt, d_ltf, d_eqt, d_eqf, ↓reduceIte, or_false, false_or, or_true, true_or, and_true, true_and, and_false, false_and, not_true_eq_false, not_false_eq_true, Bool.false_eq_true, Option.bind_some, q_ofNat, q_cl, q_lt, q_le, q_eq, nI_add, pk_mul, q_m1, q_m4, m1_lt, m1_le, m1_nlt, m1_nle, m1_ne, m1_ne2, m4_lt, m4_le, m4_nlt, m4_nle, m4_ne, m4_ne2, q_0, q_1, q_2, q_3, q_4, q_5, q_6, q_8, q_12, q_15, q_16, q_20, q_24, q_30, q_31, q_32, q_80, q_9, q_99, q_126, q_48, q_57, q_58, q_59, q_97, q_101, q_10, q_21, q_255, q_46656, S]
