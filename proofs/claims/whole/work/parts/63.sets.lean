def beS (h : Hl) (k b : Nat) : Bool := decide (pl h b k < hSiz h b)
def raS (h : Hl) (a k : Nat) : Nat := sm (fun b => if pl h b a < hSiz h b ∧ pl h b a < pl h b k then hMem h b else 0) (hB h)
theorem raS_le {h : Hl} (ok : hOK h) (a k : Nat) : raS h a k ≤ 120 := by
  have := sm_le (f := fun b => if pl h b a < hSiz h b ∧ pl h b a < pl h b k then hMem h b else 0) (m := 20) (hB h) (fun b hb => by
    have := (ok.2.1 b hb).2.1
    split <;> omega)
  have := ok.1
  unfold raS; omega
theorem x_bearers {h : Hl} (ok : hOK h) {vb : Int32} {vme vmo vdi vsi vor : Nat → Int32} (t : tX h vb vme vmo vdi vsi vor) {N : Nat} (hN : 200000 ≤ N) {k : Nat} (hk : k < 5) : f_X5_bearers N vb vsi vor (nI k) = some (nI (bs (beS h k) (hB h))) := by
  have h6 := ok.1
  have e0 := t.1
  unfold f_X5_bearers
  refine b_run (lp_for (fun n => (nI (bs (beS h k) n), nI n)) (hB h) (by omega) rfl ?_ ?_ (r := nI (bs (beS h k) (hB h)))) rfl
  · intro b hb
    have P := x_place ok t hN hb hk
    have hp := pl_le h b k
    have o5 := (ok.2.1 b hb).2.2.2.2.1
    rw [bs_or]
    by_cases hl : pl h b k < hSiz h b
    · rw [if_pos hl] at P
      rw [if_pos (show beS h k b = true from decide_eq_true hl)]
      simp (disch := omega) only [f_X5_bearers_B4, f_X5_bearers_L28, d_let, d_lef, d_ltt, d_ltf, d_eqt, d_eqf, ↓reduceIte, or_false, false_or, or_true, true_or, and_true, true_and, and_false, false_and, not_true_eq_false, not_false_eq_true, Bool.false_eq_true, Option.bind_some, q_ofNat, q_cl, q_lt, q_le, q_eq, nI_add, pk_mul, q_m1, q_m4, m1_lt, m1_le, m1_nlt, m1_nle, m1_ne, m1_ne2, m4_lt, m4_le, m4_nlt, m4_nle, m4_ne, m4_ne2, q_0, q_1, q_2, q_3, q_4, q_5, q_6, q_8, q_12, q_15, q_16, q_20, q_24, q_30, q_31, q_32, q_80, q_9, q_99, q_126, q_48, q_57, q_58, q_59, q_97, q_101, q_10, q_21, q_255, q_46656, e0, P, q_shl, q_or]
    · rw [if_neg hl] at P
      rw [if_neg (show ¬ beS h k b = true from fun q => hl (of_decide_eq_true q))]
      simp (disch := omega) only [f_X5_bearers_B4, f_X5_bearers_L28, d_let, d_lef, d_ltt, d_ltf, d_eqt, d_eqf, ↓reduceIte, or_false, false_or, or_true, true_or, and_true, true_and, and_false, false_and, not_true_eq_false, not_false_eq_true, Bool.false_eq_true, Option.bind_some, q_ofNat, q_cl, q_lt, q_le, q_eq, nI_add, pk_mul, q_m1, q_m4, m1_lt, m1_le, m1_nlt, m1_nle, m1_ne, m1_ne2, m4_lt, m4_le, m4_nlt, m4_nle, m4_ne, m4_ne2, q_0, q_1, q_2, q_3, q_4, q_5, q_6, q_8, q_12, q_15, q_16, q_20, q_24, q_30, q_31, q_32, q_80, q_9, q_99, q_126, q_48, q_57, q_58, q_59, q_97, q_101, q_10, q_21, q_255, q_46656, e0, P]
  · simp (disch := omega) only [f_X5_bearers_B4, d_let, d_lef, d_ltt, d_ltf, d_eqt, d_eqf, ↓reduceIte, or_false, false_or, or_true, true_or, and_true, true_and, and_false, false_and, not_true_eq_false, not_false_eq_true, Bool.false_eq_true, Option.bind_some, q_ofNat, q_cl, q_lt, q_le, q_eq, nI_add, pk_mul, q_m1, q_m4, m1_lt, m1_le, m1_nlt, m1_nle, m1_ne, m1_ne2, m4_lt, m4_le, m4_nlt, m4_nle, m4_ne, m4_ne2, q_0, q_1, q_2, q_3, q_4, q_5, q_6, q_8, q_12, q_15, q_16, q_20, q_24, q_30, q_31, q_32, q_80, q_9, q_99, q_126, q_48, q_57, q_58, q_59, q_97, q_101, q_10, q_21, q_255, q_46656, e0]
theorem m_bearers {h : Hl} (ok : hOK h) {vb : Int32} {vme vmo vdi vsi vor : Nat → Int32} (t : tX h vb vme vmo vdi vsi vor) {N : Nat} (hN : 200000 ≤ N) {k : Nat} (hk : k < 5) : f_X7_bearers N vb vsi vor (nI k) = some (nI (bs (beS h k) (hB h))) := by
  have h6 := ok.1
  have e0 := t.1
  unfold f_X7_bearers
  refine b_run (lp_for (fun n => (nI (bs (beS h k) n), nI n)) (hB h) (by omega) rfl ?_ ?_ (r := nI (bs (beS h k) (hB h)))) rfl
  · intro b hb
    have P := m_place ok t hN hb hk
    have hp := pl_le h b k
    have o5 := (ok.2.1 b hb).2.2.2.2.1
    rw [bs_or]
    by_cases hl : pl h b k < hSiz h b
    · rw [if_pos hl] at P
      rw [if_pos (show beS h k b = true from decide_eq_true hl)]
      simp (disch := omega) only [f_X7_bearers_B4, f_X7_bearers_L29, d_let, d_lef, d_ltt, d_ltf, d_eqt, d_eqf, ↓reduceIte, or_false, false_or, or_true, true_or, and_true, true_and, and_false, false_and, not_true_eq_false, not_false_eq_true, Bool.false_eq_true, Option.bind_some, q_ofNat, q_cl, q_lt, q_le, q_eq, nI_add, pk_mul, q_m1, q_m4, m1_lt, m1_le, m1_nlt, m1_nle, m1_ne, m1_ne2, m4_lt, m4_le, m4_nlt, m4_nle, m4_ne, m4_ne2, q_0, q_1, q_2, q_3, q_4, q_5, q_6, q_8, q_12, q_15, q_16, q_20, q_24, q_30, q_31, q_32, q_80, q_9, q_99, q_126, q_48, q_57, q_58, q_59, q_97, q_101, q_10, q_21, q_255, q_46656, e0, P, q_shl, q_or]
    · rw [if_neg hl] at P
      rw [if_neg (show ¬ beS h k b = true from fun q => hl (of_decide_eq_true q))]
      simp (disch := omega) only [f_X7_bearers_B4, f_X7_bearers_L29, d_let, d_lef, d_ltt, d_ltf, d_eqt, d_eqf, ↓reduceIte, or_false, false_or, or_true, true_or, and_true, true_and, and_false, false_and, not_true_eq_false, not_false_eq_true, Bool.false_eq_true, Option.bind_some, q_ofNat, q_cl, q_lt, q_le, q_eq, nI_add, pk_mul, q_m1, q_m4, m1_lt, m1_le, m1_nlt, m1_nle, m1_ne, m1_ne2, m4_lt, m4_le, m4_nlt, m4_nle, m4_ne, m4_ne2, q_0, q_1, q_2, q_3, q_4, q_5, q_6, q_8, q_12, q_15, q_16, q_20, q_24, q_30, q_31, q_32, q_80, q_9, q_99, q_126, q_48, q_57, q_58, q_59, q_97, q_101, q_10, q_21, q_255, q_46656, e0, P, q_or, Nat.or_zero]
  · simp (disch := omega) only [f_X7_bearers_B4, d_let, d_lef, d_ltt, d_ltf, d_eqt, d_eqf, ↓reduceIte, or_false, false_or, or_true, true_or, and_true, true_and, and_false, false_and, not_true_eq_false, not_false_eq_true, Bool.false_eq_true, Option.bind_some, q_ofNat, q_cl, q_lt, q_le, q_eq, nI_add, pk_mul, q_m1, q_m4, m1_lt, m1_le, m1_nlt, m1_nle, m1_ne, m1_ne2, m4_lt, m4_le, m4_nlt, m4_nle, m4_ne, m4_ne2, q_0, q_1, q_2, q_3, q_4, q_5, q_6, q_8, q_12, q_15, q_16, q_20, q_24, q_30, q_31, q_32, q_80, q_9, q_99, q_126, q_48, q_57, q_58, q_59, q_97, q_101, q_10, q_21, q_255, q_46656, e0]
theorem x_prefer {h : Hl} (ok : hOK h) {vb : Int32} {vme vmo vdi vsi vor : Nat → Int32} (t : tX h vb vme vmo vdi vsi vor) {N : Nat} (hN : 200000 ≤ N) {a k : Nat} (ha : a < 5) (hk : k < 5) : f_X5_preferring N vb vme vsi vor (nI a) (nI k) = some (nI (raS h a k)) := by
  have h6 := ok.1
  have e0 := t.1
  unfold f_X5_preferring
  refine b_run (lp_for (fun n => (nI (sm (fun b => if pl h b a < hSiz h b ∧ pl h b a < pl h b k then hMem h b else 0) n), nI n)) (hB h) (by omega) rfl ?_ ?_ (r := nI (raS h a k))) rfl
  · intro b hb
    have P1 := x_place ok t hN hb ha
    have P2 := x_place ok t hN hb hk
    have e1 := (t.2 b hb).1
    have hp1 := pl_le h b a; have hp2 := pl_le h b k
    have o5 := (ok.2.1 b hb).2.2.2.2.1
    show _ = some (Sum.inl (nI (sm (fun b => if pl h b a < hSiz h b ∧ pl h b a < pl h b k then hMem h b else 0) b + (if pl h b a < hSiz h b ∧ pl h b a < pl h b k then hMem h b else 0)), nI (b + 1)))
    generalize sm (fun b => if pl h b a < hSiz h b ∧ pl h b a < pl h b k then hMem h b else 0) b = g
    by_cases l1 : pl h b a < hSiz h b
    · rw [if_pos l1] at P1
      by_cases l2 : pl h b k < hSiz h b
      · rw [if_pos l2] at P2
        by_cases l3 : pl h b a < pl h b k
        · simp (disch := omega) only [f_X5_preferring_B5, f_X5_preferring_L61, f_X5_preferring_L51, d_let, d_lef, d_ltt, d_ltf, d_eqt, d_eqf, ↓reduceIte, or_false, false_or, or_true, true_or, and_true, true_and, and_false, false_and, not_true_eq_false, not_false_eq_true, Bool.false_eq_true, Option.bind_some, q_ofNat, q_cl, q_lt, q_le, q_eq, nI_add, pk_mul, q_m1, q_m4, m1_lt, m1_le, m1_nlt, m1_nle, m1_ne, m1_ne2, m4_lt, m4_le, m4_nlt, m4_nle, m4_ne, m4_ne2, q_0, q_1, q_2, q_3, q_4, q_5, q_6, q_8, q_12, q_15, q_16, q_20, q_24, q_30, q_31, q_32, q_80, q_9, q_99, q_126, q_48, q_57, q_58, q_59, q_97, q_101, q_10, q_21, q_255, q_46656, e0, P1, P2, e1]
        · simp (disch := omega) only [f_X5_preferring_B5, f_X5_preferring_L61, f_X5_preferring_L51, d_let, d_lef, d_ltt, d_ltf, d_eqt, d_eqf, ↓reduceIte, or_false, false_or, or_true, true_or, and_true, true_and, and_false, false_and, not_true_eq_false, not_false_eq_true, Bool.false_eq_true, Option.bind_some, q_ofNat, q_cl, q_lt, q_le, q_eq, nI_add, pk_mul, q_m1, q_m4, m1_lt, m1_le, m1_nlt, m1_nle, m1_ne, m1_ne2, m4_lt, m4_le, m4_nlt, m4_nle, m4_ne, m4_ne2, q_0, q_1, q_2, q_3, q_4, q_5, q_6, q_8, q_12, q_15, q_16, q_20, q_24, q_30, q_31, q_32, q_80, q_9, q_99, q_126, q_48, q_57, q_58, q_59, q_97, q_101, q_10, q_21, q_255, q_46656, e0, P1, P2, Nat.add_zero]
      · rw [if_neg l2] at P2
        simp (disch := omega) only [f_X5_preferring_B5, f_X5_preferring_L61, f_X5_preferring_L51, d_let, d_lef, d_ltt, d_ltf, d_eqt, d_eqf, ↓reduceIte, or_false, false_or, or_true, true_or, and_true, true_and, and_false, false_and, not_true_eq_false, not_false_eq_true, Bool.false_eq_true, Option.bind_some, q_ofNat, q_cl, q_lt, q_le, q_eq, nI_add, pk_mul, q_m1, q_m4, m1_lt, m1_le, m1_nlt, m1_nle, m1_ne, m1_ne2, m4_lt, m4_le, m4_nlt, m4_nle, m4_ne, m4_ne2, q_0, q_1, q_2, q_3, q_4, q_5, q_6, q_8, q_12, q_15, q_16, q_20, q_24, q_30, q_31, q_32, q_80, q_9, q_99, q_126, q_48, q_57, q_58, q_59, q_97, q_101, q_10, q_21, q_255, q_46656, e0, P1, P2, e1]
    · rw [if_neg l1] at P1
      generalize (if pl h b k < hSiz h b then nI (pl h b k) else m1) = z at P2
      simp (disch := omega) only [f_X5_preferring_B5, f_X5_preferring_L61, f_X5_preferring_L51, d_let, d_lef, d_ltt, d_ltf, d_eqt, d_eqf, ↓reduceIte, or_false, false_or, or_true, true_or, and_true, true_and, and_false, false_and, not_true_eq_false, not_false_eq_true, Bool.false_eq_true, Option.bind_some, q_ofNat, q_cl, q_lt, q_le, q_eq, nI_add, pk_mul, q_m1, q_m4, m1_lt, m1_le, m1_nlt, m1_nle, m1_ne, m1_ne2, m4_lt, m4_le, m4_nlt, m4_nle, m4_ne, m4_ne2, q_0, q_1, q_2, q_3, q_4, q_5, q_6, q_8, q_12, q_15, q_16, q_20, q_24, q_30, q_31, q_32, q_80, q_9, q_99, q_126, q_48, q_57, q_58, q_59, q_97, q_101, q_10, q_21, q_255, q_46656, e0, P1, P2, Nat.add_zero]
  · simp (disch := omega) only [f_X5_preferring_B5, d_let, d_lef, d_ltt, d_ltf, d_eqt, d_eqf, ↓reduceIte, or_false, false_or, or_true, true_or, and_true, true_and, and_false, false_and, not_true_eq_false, not_false_eq_true, Bool.false_eq_true, Option.bind_some, q_ofNat, q_cl, q_lt, q_le, q_eq, nI_add, pk_mul, q_m1, q_m4, m1_lt, m1_le, m1_nlt, m1_nle, m1_ne, m1_ne2, m4_lt, m4_le, m4_nlt, m4_nle, m4_ne, m4_ne2, q_0, q_1, q_2, q_3, q_4, q_5, q_6, q_8, q_12, q_15, q_16, q_20, q_24, q_30, q_31, q_32, q_80, q_9, q_99, q_126, q_48, q_57, q_58, q_59, q_97, q_101, q_10, q_21, q_255, q_46656, e0]; rfl
theorem m_rather {h : Hl} (ok : hOK h) {vb : Int32} {vme vmo vdi vsi vor : Nat → Int32} (t : tX h vb vme vmo vdi vsi vor) {N : Nat} (hN : 200000 ≤ N) {a k : Nat} (ha : a < 5) (hk : k < 5) : f_X7_ratherOf N vb vme vsi vor (nI a) (nI k) = some (nI (raS h a k)) := by
  have h6 := ok.1
  have e0 := t.1
  unfold f_X7_ratherOf
  refine b_run (lp_for (fun n => (nI (sm (fun b => if pl h b a < hSiz h b ∧ pl h b a < pl h b k then hMem h b else 0) n), nI n)) (hB h) (by omega) rfl ?_ ?_ (r := nI (raS h a k))) rfl
  · intro b hb
    have P1 := m_place ok t hN hb ha
    have P2 := m_place ok t hN hb hk
    have e1 := (t.2 b hb).1
    have hp1 := pl_le h b a; have hp2 := pl_le h b k
    have o5 := (ok.2.1 b hb).2.2.2.2.1
    show _ = some (Sum.inl (nI (sm (fun b => if pl h b a < hSiz h b ∧ pl h b a < pl h b k then hMem h b else 0) b + (if pl h b a < hSiz h b ∧ pl h b a < pl h b k then hMem h b else 0)), nI (b + 1)))
    generalize sm (fun b => if pl h b a < hSiz h b ∧ pl h b a < pl h b k then hMem h b else 0) b = g
    by_cases l1 : pl h b a < hSiz h b
    · rw [if_pos l1] at P1
      by_cases l2 : pl h b k < hSiz h b
      · rw [if_pos l2] at P2
        by_cases l3 : pl h b a < pl h b k
        · simp (disch := omega) only [f_X7_ratherOf_B5, f_X7_ratherOf_L61, f_X7_ratherOf_L60, f_X7_ratherOf_L50, d_let, d_lef, d_ltt, d_ltf, d_eqt, d_eqf, ↓reduceIte, or_false, false_or, or_true, true_or, and_true, true_and, and_false, false_and, not_true_eq_false, not_false_eq_true, Bool.false_eq_true, Option.bind_some, q_ofNat, q_cl, q_lt, q_le, q_eq, nI_add, pk_mul, q_m1, q_m4, m1_lt, m1_le, m1_nlt, m1_nle, m1_ne, m1_ne2, m4_lt, m4_le, m4_nlt, m4_nle, m4_ne, m4_ne2, q_0, q_1, q_2, q_3, q_4, q_5, q_6, q_8, q_12, q_15, q_16, q_20, q_24, q_30, q_31, q_32, q_80, q_9, q_99, q_126, q_48, q_57, q_58, q_59, q_97, q_101, q_10, q_21, q_255, q_46656, e0, P1, P2, e1]
        · simp (disch := omega) only [f_X7_ratherOf_B5, f_X7_ratherOf_L61, f_X7_ratherOf_L60, f_X7_ratherOf_L50, d_let, d_lef, d_ltt, d_ltf, d_eqt, d_eqf, ↓reduceIte, or_false, false_or, or_true, true_or, and_true, true_and, and_false, false_and, not_true_eq_false, not_false_eq_true, Bool.false_eq_true, Option.bind_some, q_ofNat, q_cl, q_lt, q_le, q_eq, nI_add, pk_mul, q_m1, q_m4, m1_lt, m1_le, m1_nlt, m1_nle, m1_ne, m1_ne2, m4_lt, m4_le, m4_nlt, m4_nle, m4_ne, m4_ne2, q_0, q_1, q_2, q_3, q_4, q_5, q_6, q_8, q_12, q_15, q_16, q_20, q_24, q_30, q_31, q_32, q_80, q_9, q_99, q_126, q_48, q_57, q_58, q_59, q_97, q_101, q_10, q_21, q_255, q_46656, e0, P1, P2, Nat.add_zero]
      · rw [if_neg l2] at P2
        simp (disch := omega) only [f_X7_ratherOf_B5, f_X7_ratherOf_L61, f_X7_ratherOf_L60, f_X7_ratherOf_L50, d_let, d_lef, d_ltt, d_ltf, d_eqt, d_eqf, ↓reduceIte, or_false, false_or, or_true, true_or, and_true, true_and, and_false, false_and, not_true_eq_false, not_false_eq_true, Bool.false_eq_true, Option.bind_some, q_ofNat, q_cl, q_lt, q_le, q_eq, nI_add, pk_mul, q_m1, q_m4, m1_lt, m1_le, m1_nlt, m1_nle, m1_ne, m1_ne2, m4_lt, m4_le, m4_nlt, m4_nle, m4_ne, m4_ne2, q_0, q_1, q_2, q_3, q_4, q_5, q_6, q_8, q_12, q_15, q_16, q_20, q_24, q_30, q_31, q_32, q_80, q_9, q_99, q_126, q_48, q_57, q_58, q_59, q_97, q_101, q_10, q_21, q_255, q_46656, e0, P1, P2, e1]
    · rw [if_neg l1] at P1
      generalize (if pl h b k < hSiz h b then nI (pl h b k) else m4) = z at P2
      simp (disch := omega) only [f_X7_ratherOf_B5, f_X7_ratherOf_L61, f_X7_ratherOf_L60, f_X7_ratherOf_L50, d_let, d_lef, d_ltt, d_ltf, d_eqt, d_eqf, ↓reduceIte, or_false, false_or, or_true, true_or, and_true, true_and, and_false, false_and, not_true_eq_false, not_false_eq_true, Bool.false_eq_true, Option.bind_some, q_ofNat, q_cl, q_lt, q_le, q_eq, nI_add, pk_mul, q_m1, q_m4, m1_lt, m1_le, m1_nlt, m1_nle, m1_ne, m1_ne2, m4_lt, m4_le, m4_nlt, m4_nle, m4_ne, m4_ne2, q_0, q_1, q_2, q_3, q_4, q_5, q_6, q_8, q_12, q_15, q_16, q_20, q_24, q_30, q_31, q_32, q_80, q_9, q_99, q_126, q_48, q_57, q_58, q_59, q_97, q_101, q_10, q_21, q_255, q_46656, e0, P1, P2, Nat.add_zero]
  · simp (disch := omega) only [f_X7_ratherOf_B5, d_let, d_lef, d_ltt, d_ltf, d_eqt, d_eqf, ↓reduceIte, or_false, false_or, or_true, true_or, and_true, true_and, and_false, false_and, not_true_eq_false, not_false_eq_true, Bool.false_eq_true, Option.bind_some, q_ofNat, q_cl, q_lt, q_le, q_eq, nI_add, pk_mul, q_m1, q_m4, m1_lt, m1_le, m1_nlt, m1_nle, m1_ne, m1_ne2, m4_lt, m4_le, m4_nlt, m4_nle, m4_ne, m4_ne2, q_0, q_1, q_2, q_3, q_4, q_5, q_6, q_8, q_12, q_15, q_16, q_20, q_24, q_30, q_31, q_32, q_80, q_9, q_99, q_126, q_48, q_57, q_58, q_59, q_97, q_101, q_10, q_21, q_255, q_46656, e0]; rfl
theorem m_members {h : Hl} (ok : hOK h) {vb : Int32} {vme vmo vdi vsi vor : Nat → Int32} (t : tX h vb vme vmo vdi vsi vor) {N : Nat} (hN : 200000 ≤ N) {x : Nat} (hx : x < 2147483648) : f_X7_membersOf N vb vme (nI x) = some (nI (mo h (bt x))) := by
  have h6 := ok.1
  have e0 := t.1
  unfold f_X7_membersOf
  refine b_run (lp_for (fun n => (nI (sm (fun b => if bt x b then hMem h b else 0) n), nI n)) (hB h) (by omega) rfl ?_ ?_ (r := nI (mo h (bt x)))) rfl
  · intro b hb
    have e1 := (t.2 b hb).1
    have hm : x / 2 ^ b % 2 * hMem h b = (if bt x b = true then hMem h b else 0) := by
      by_cases q : x / 2 ^ b % 2 = 1
      · rw [if_pos (show bt x b = true from decide_eq_true q), q, Nat.one_mul]
      · rw [if_neg (show ¬ bt x b = true from fun z => q (of_decide_eq_true z)), show x / 2 ^ b % 2 = 0 by omega, Nat.zero_mul]
    show _ = some (Sum.inl (nI (sm (fun b => if bt x b then hMem h b else 0) b + (if bt x b = true then hMem h b else 0)), nI (b + 1)))
    simp (disch := omega) only [f_X7_membersOf_B4, d_lef, d_ltf, ↓reduceIte, false_or, q_cl, q_lt, q_le, nI_add, pk_mul, q_0, q_1, q_31, e0, e1, q_bit, hm]
  · simp (disch := omega) only [f_X7_membersOf_B4, d_let, d_lef, d_ltt, d_ltf, d_eqt, d_eqf, ↓reduceIte, or_false, false_or, or_true, true_or, and_true, true_and, and_false, false_and, not_true_eq_false, not_false_eq_true, Bool.false_eq_true, Option.bind_some, q_ofNat, q_cl, q_lt, q_le, q_eq, nI_add, pk_mul, q_m1, q_m4, m1_lt, m1_le, m1_nlt, m1_nle, m1_ne, m1_ne2, m4_lt, m4_le, m4_nlt, m4_nle, m4_ne, m4_ne2, q_0, q_1, q_2, q_3, q_4, q_5, q_6, q_8, q_12, q_15, q_16, q_20, q_24, q_30, q_31, q_32, q_80, q_9, q_99, q_126, q_48, q_57, q_58, q_59, q_97, q_101, q_10, q_21, q_255, q_46656, e0]; rfl
-- need
theorem alS_pos {h : Hl} (ok : hOK h) (h0 : 0 < hB h) : 1 ≤ alS h := by
  obtain ⟨n, hn⟩ : ∃ n, hB h = n + 1 := ⟨hB h - 1, by omega⟩
  have := (ok.2.1 n (by omega)).1
  unfold alS; rw [hn]; show 1 ≤ sm (hMem h) n + hMem h n; omega
theorem neS_le {h : Hl} {r : Br} (rok : bOK r) {d : Nat} (hd : d < 8) : neS h r d ≤ alS h := by
  obtain ⟨r1, r2, r3⟩ := rok.1 d hd
  have hm : alS h * bAb r d ≤ alS h * bBe r d := Nat.mul_le_mul_left _ r2
  unfold neS
  refine Nat.le_of_lt_succ ((Nat.div_lt_iff_lt_mul (by omega)).2 ?_)
  rw [Nat.succ_mul]; omega
theorem neS_pos {h : Hl} (ok : hOK h) (h0 : 0 < hB h) {r : Br} (rok : bOK r) {d : Nat} (hd : d < 8) : 1 ≤ neS h r d := by
  obtain ⟨r1, r2, r3⟩ := rok.1 d hd
  have ha := alS_pos ok h0
  have : 1 * 1 ≤ alS h * bAb r d := Nat.mul_le_mul ha r1
  unfold neS
  exact Nat.div_pos (by omega) (by omega)
-- the fewest
def sbI (a x : Nat) : Prop := (nI x &&& (nI a ^^^ m1)) = nI 0
theorem sb_all : (List.range 64).all (fun a => (List.range 64).all (fun x => (!(decide ((nI x &&& (nI a ^^^ m1)) = nI 0)) || (decide (x ≤ a) && (List.range 6).all (fun b => !(bt x b) || bt a b))) && decide ((nI a &&& (nI a ^^^ m1)) = nI 0))) = true := by decide +kernel
theorem sb_1 {a x : Nat} (ha : a < 64) (hx : x < 64) (h : sbI a x) : x ≤ a ∧ ∀ b, b < 6 → bt x b = true → bt a b = true := by
  have h1 := List.all_eq_true.mp sb_all a (List.mem_range.mpr ha)
  have h2 := List.all_eq_true.mp h1 x (List.mem_range.mpr hx)
  rw [Bool.and_eq_true, Bool.or_eq_true, Bool.and_eq_true, decide_eq_true (show (nI x &&& (nI a ^^^ m1)) = nI 0 from h)] at h2
  rcases h2.1 with q | q
  · cases q
  · refine ⟨of_decide_eq_true q.1, fun b hb hx => ?_⟩
    have := List.all_eq_true.mp q.2 b (List.mem_range.mpr hb)
    rw [hx] at this
    exact this
theorem sb_2 {a : Nat} (ha : a < 64) : sbI a a := by
  have h1 := List.all_eq_true.mp sb_all a (List.mem_range.mpr ha)
  have h2 := List.all_eq_true.mp h1 a (List.mem_range.mpr ha)
  rw [Bool.and_eq_true] at h2
  show (nI a &&& (nI a ^^^ m1)) = nI 0
  exact of_decide_eq_true h2.2
theorem mo_mono {h : Hl} {P Q : Nat → Bool} (hP : ∀ b, b < hB h → P b = true → Q b = true) : mo h P ≤ mo h Q := sm_mono _ (fun b hb => by
  by_cases q : P b = true
  · rw [if_pos q, if_pos (hP b hb q)]; exact Nat.le_refl _
  · rw [if_neg q]; omega)
def qlf (h : Hl) (a e x : Nat) : Prop := sbI a x ∧ e ≤ mo h (bt x)
def opt (h : Hl) (a e x : Nat) : Prop := qlf h a e x ∧ ∀ s, s < 64 → qlf h a e s → mo h (bt x) < mo h (bt s) ∨ (mo h (bt x) = mo h (bt s) ∧ x ≤ s)
theorem opt_u {h : Hl} {a e x y : Nat} (hx : x < 64) (hy : y < 64) (h1 : opt h a e x) (h2 : opt h a e y) : x = y := by
  have := h1.2 y hy h2.1; have := h2.2 x hx h1.1; omega
noncomputable def fwF (h : Hl) (a e : Nat) (k : Nat) (s : Nat × Nat) : Nat × Nat := @ite _ (qlf h a e (k + 1) ∧ mo h (bt (k + 1)) < s.2) (Classical.propDecidable _) (k + 1, mo h (bt (k + 1))) s
theorem fwF_inv {h : Hl} (ok : hOK h) {a e : Nat} : ∀ k, ((it (fwF h a e) (0, 121) k).1 = 0 ∧ (it (fwF h a e) (0, 121) k).2 = 121 ∧ ∀ s, 1 ≤ s → s ≤ k → ¬ qlf h a e s) ∨ (1 ≤ (it (fwF h a e) (0, 121) k).1 ∧ (it (fwF h a e) (0, 121) k).1 ≤ k ∧ qlf h a e (it (fwF h a e) (0, 121) k).1 ∧ (it (fwF h a e) (0, 121) k).2 = mo h (bt (it (fwF h a e) (0, 121) k).1) ∧ ∀ s, 1 ≤ s → s ≤ k → qlf h a e s → mo h (bt (it (fwF h a e) (0, 121) k).1) < mo h (bt s) ∨ (mo h (bt (it (fwF h a e) (0, 121) k).1) = mo h (bt s) ∧ (it (fwF h a e) (0, 121) k).1 ≤ s)) := by
  intro k
  induction k with
  | zero => exact Or.inl ⟨rfl, rfl, fun s h1 h2 => by omega⟩
  | succ k ih =>
    show ((fwF h a e k (it (fwF h a e) (0, 121) k)).1 = 0 ∧ (fwF h a e k (it (fwF h a e) (0, 121) k)).2 = 121 ∧ ∀ s, 1 ≤ s → s ≤ k + 1 → ¬ qlf h a e s) ∨ (1 ≤ (fwF h a e k (it (fwF h a e) (0, 121) k)).1 ∧ (fwF h a e k (it (fwF h a e) (0, 121) k)).1 ≤ k + 1 ∧ qlf h a e (fwF h a e k (it (fwF h a e) (0, 121) k)).1 ∧ (fwF h a e k (it (fwF h a e) (0, 121) k)).2 = mo h (bt (fwF h a e k (it (fwF h a e) (0, 121) k)).1) ∧ ∀ s, 1 ≤ s → s ≤ k + 1 → qlf h a e s → mo h (bt (fwF h a e k (it (fwF h a e) (0, 121) k)).1) < mo h (bt s) ∨ (mo h (bt (fwF h a e k (it (fwF h a e) (0, 121) k)).1) = mo h (bt s) ∧ (fwF h a e k (it (fwF h a e) (0, 121) k)).1 ≤ s))
    generalize it (fwF h a e) (0, 121) k = z at *
    have hmo := mo_le ok (bt (k + 1))
    by_cases c : qlf h a e (k + 1) ∧ mo h (bt (k + 1)) < z.2
    · have E : fwF h a e k z = (k + 1, mo h (bt (k + 1))) := if_pos c
      rw [E]
      refine Or.inr ⟨by show 1 ≤ k + 1; omega, Nat.le_refl _, c.1, rfl, fun s h1 h2 hq => ?_⟩
      show mo h (bt (k + 1)) < mo h (bt s) ∨ (mo h (bt (k + 1)) = mo h (bt s) ∧ k + 1 ≤ s)
      by_cases hs : s = k + 1
      · subst hs; exact Or.inr ⟨rfl, Nat.le_refl _⟩
      · rcases ih with ⟨_, _, i3⟩ | ⟨_, _, _, i4, i5⟩
        · exact absurd hq (i3 s h1 (by omega))
        · have := i5 s h1 (by omega) hq; omega
    · have E : fwF h a e k z = z := if_neg c
      rw [E]
      rcases ih with ⟨i1, i2, i3⟩ | ⟨i1, i2, i3, i4, i5⟩
      · refine Or.inl ⟨i1, i2, fun s h1 h2 hq => ?_⟩
        by_cases hs : s = k + 1
        · subst hs; exact c ⟨hq, by omega⟩
        · exact i3 s h1 (by omega) hq
      · refine Or.inr ⟨i1, by omega, i3, i4, fun s h1 h2 hq => ?_⟩
        by_cases hs : s = k + 1
        · subst hs
          have : ¬ mo h (bt (k + 1)) < z.2 := fun q => c ⟨hq, q⟩
          omega
        · exact i5 s h1 (by omega) hq
def oS (x : Nat) : Int32 := if x = 0 then m4 else nI x
theorem x_fewest {h : Hl} (ok : hOK h) {vb : Int32} {vme vmo vdi vsi vor : Nat → Int32} (t : tX h vb vme vmo vdi vsi vor) {N : Nat} (hN : 200000 ≤ N) {a e : Nat} (ha : a < 64) (he : e < 1000) : f_X6_fewestAmong N vb vme (nI a) (nI e) = some (oS (it (fwF h a e) (0, 121) a).1) := by
  have hle : ∀ k, (it (fwF h a e) (0, 121) k).2 ≤ 121 ∧ (it (fwF h a e) (0, 121) k).1 ≤ k := by
    intro k
    rcases fwF_inv ok (a := a) (e := e) k with ⟨i1, i2, _⟩ | ⟨i1, i2, i3, i4, _⟩
    · omega
    · have := mo_le ok (bt (it (fwF h a e) (0, 121) k).1); omega
  unfold f_X6_fewestAmong
  refine b_run (lp_for (fun k => (oS (it (fwF h a e) (0, 121) k).1, nI (it (fwF h a e) (0, 121) k).2, nI (k + 1))) a (by omega) rfl ?_ ?_ (r := oS (it (fwF h a e) (0, 121) a).1)) rfl
  · intro k hk
    have hl := hle k
    have M := x_members ok t hN (x := k + 1) (by omega)
    have hmo := mo_le ok (bt (k + 1))
    show _ = some (Sum.inl (oS (fwF h a e k (it (fwF h a e) (0, 121) k)).1, nI (fwF h a e k (it (fwF h a e) (0, 121) k)).2, nI (k + 1 + 1)))
    generalize it (fwF h a e) (0, 121) k = z at *
    by_cases c1 : sbI a (k + 1)
    · have c1' : (nI (k + 1) &&& (nI a ^^^ m1)) = nI 0 := c1
      by_cases c2 : e ≤ mo h (bt (k + 1))
      · by_cases c3 : mo h (bt (k + 1)) < z.2
        · rw [show fwF h a e k z = (k + 1, mo h (bt (k + 1))) from if_pos ⟨⟨c1, c2⟩, c3⟩]
          simp (disch := omega) only [f_X6_fewestAmong_B10, f_X6_fewestAmong_L56, d_let, d_lef, d_ltt, d_ltf, d_eqt, d_eqf, ↓reduceIte, or_false, false_or, or_true, true_or, and_true, true_and, and_false, false_and, not_true_eq_false, not_false_eq_true, Bool.false_eq_true, Option.bind_some, q_ofNat, q_cl, q_lt, q_le, q_eq, nI_add, pk_mul, q_m1, q_m4, m1_lt, m1_le, m1_nlt, m1_nle, m1_ne, m1_ne2, m4_lt, m4_le, m4_nlt, m4_nle, m4_ne, m4_ne2, q_0, q_1, q_2, q_3, q_4, q_5, q_6, q_8, q_12, q_15, q_16, q_20, q_24, q_30, q_31, q_32, q_80, q_9, q_99, q_126, q_48, q_57, q_58, q_59, q_97, q_101, q_10, q_21, q_255, q_46656, c1', M, oS]
        · rw [show fwF h a e k z = z from if_neg (fun q => c3 q.2)]
          simp (disch := omega) only [f_X6_fewestAmong_B10, f_X6_fewestAmong_L56, d_let, d_lef, d_ltt, d_ltf, d_eqt, d_eqf, ↓reduceIte, or_false, false_or, or_true, true_or, and_true, true_and, and_false, false_and, not_true_eq_false, not_false_eq_true, Bool.false_eq_true, Option.bind_some, q_ofNat, q_cl, q_lt, q_le, q_eq, nI_add, pk_mul, q_m1, q_m4, m1_lt, m1_le, m1_nlt, m1_nle, m1_ne, m1_ne2, m4_lt, m4_le, m4_nlt, m4_nle, m4_ne, m4_ne2, q_0, q_1, q_2, q_3, q_4, q_5, q_6, q_8, q_12, q_15, q_16, q_20, q_24, q_30, q_31, q_32, q_80, q_9, q_99, q_126, q_48, q_57, q_58, q_59, q_97, q_101, q_10, q_21, q_255, q_46656, c1', M]
      · rw [show fwF h a e k z = z from if_neg (fun q => c2 q.1.2)]
        simp (disch := omega) only [f_X6_fewestAmong_B10, f_X6_fewestAmong_L56, d_let, d_lef, d_ltt, d_ltf, d_eqt, d_eqf, ↓reduceIte, or_false, false_or, or_true, true_or, and_true, true_and, and_false, false_and, not_true_eq_false, not_false_eq_true, Bool.false_eq_true, Option.bind_some, q_ofNat, q_cl, q_lt, q_le, q_eq, nI_add, pk_mul, q_m1, q_m4, m1_lt, m1_le, m1_nlt, m1_nle, m1_ne, m1_ne2, m4_lt, m4_le, m4_nlt, m4_nle, m4_ne, m4_ne2, q_0, q_1, q_2, q_3, q_4, q_5, q_6, q_8, q_12, q_15, q_16, q_20, q_24, q_30, q_31, q_32, q_80, q_9, q_99, q_126, q_48, q_57, q_58, q_59, q_97, q_101, q_10, q_21, q_255, q_46656, c1', M]
    · rw [show fwF h a e k z = z from if_neg (fun q => c1 q.1.1)]
      have c1' : ¬ (nI (k + 1) &&& (nI a ^^^ m1)) = nI 0 := c1
      simp (disch := omega) only [f_X6_fewestAmong_B10, f_X6_fewestAmong_L56, d_let, d_lef, d_ltt, d_ltf, d_eqt, d_eqf, ↓reduceIte, or_false, false_or, or_true, true_or, and_true, true_and, and_false, false_and, not_true_eq_false, not_false_eq_true, Bool.false_eq_true, Option.bind_some, q_ofNat, q_cl, q_lt, q_le, q_eq, nI_add, pk_mul, q_m1, q_m4, m1_lt, m1_le, m1_nlt, m1_nle, m1_ne, m1_ne2, m4_lt, m4_le, m4_nlt, m4_nle, m4_ne, m4_ne2, q_0, q_1, q_2, q_3, q_4, q_5, q_6, q_8, q_12, q_15, q_16, q_20, q_24, q_30, q_31, q_32, q_80, q_9, q_99, q_126, q_48, q_57, q_58, q_59, q_97, q_101, q_10, q_21, q_255, q_46656, c1']
  · simp (disch := omega) only [f_X6_fewestAmong_B10, d_let, d_lef, d_ltt, d_ltf, d_eqt, d_eqf, ↓reduceIte, or_false, false_or, or_true, true_or, and_true, true_and, and_false, false_and, not_true_eq_false, not_false_eq_true, Bool.false_eq_true, Option.bind_some, q_ofNat, q_cl, q_lt, q_le, q_eq, nI_add, pk_mul, q_m1, q_m4, m1_lt, m1_le, m1_nlt, m1_nle, m1_ne, m1_ne2, m4_lt, m4_le, m4_nlt, m4_nle, m4_ne, m4_ne2, q_0, q_1, q_2, q_3, q_4, q_5, q_6, q_8, q_12, q_15, q_16, q_20, q_24, q_30, q_31, q_32, q_80, q_9, q_99, q_126, q_48, q_57, q_58, q_59, q_97, q_101, q_10, q_21, q_255, q_46656]
noncomputable def fmF (h : Hl) (a e : Nat) (k best : Nat) : Nat := @ite _ (qlf h a e k ∧ (mo h (bt k) < mo h (bt best) ∨ (mo h (bt k) = mo h (bt best) ∧ k < best))) (Classical.propDecidable _) k best
theorem fmF_inv {h : Hl} {a e : Nat} (ha : a < 64) (hq : qlf h a e a) : ∀ k, k ≤ 64 → it (fmF h a e) a k < 64 ∧ qlf h a e (it (fmF h a e) a k) ∧ ∀ s, s < k → qlf h a e s → mo h (bt (it (fmF h a e) a k)) < mo h (bt s) ∨ (mo h (bt (it (fmF h a e) a k)) = mo h (bt s) ∧ it (fmF h a e) a k ≤ s) := by
  intro k
  induction k with
  | zero => intro _; exact ⟨ha, hq, fun s h1 => by omega⟩
  | succ k ih =>
    intro hk
    show fmF h a e k (it (fmF h a e) a k) < 64 ∧ qlf h a e (fmF h a e k (it (fmF h a e) a k)) ∧ ∀ s, s < k + 1 → qlf h a e s → mo h (bt (fmF h a e k (it (fmF h a e) a k))) < mo h (bt s) ∨ (mo h (bt (fmF h a e k (it (fmF h a e) a k))) = mo h (bt s) ∧ fmF h a e k (it (fmF h a e) a k) ≤ s)
    have ih := ih (by omega)
    generalize it (fmF h a e) a k = z at *
    by_cases c : qlf h a e k ∧ (mo h (bt k) < mo h (bt z) ∨ (mo h (bt k) = mo h (bt z) ∧ k < z))
    · rw [show fmF h a e k z = k from if_pos c]
      refine ⟨by omega, c.1, fun s h1 hq => ?_⟩
      by_cases hs : s = k
      · subst hs; omega
      · have := ih.2.2 s (by omega) hq; omega
    · rw [show fmF h a e k z = z from if_neg c]
      refine ⟨ih.1, ih.2.1, fun s h1 hq => ?_⟩
      by_cases hs : s = k
      · subst hs
        have : ¬ (mo h (bt s) < mo h (bt z) ∨ (mo h (bt s) = mo h (bt z) ∧ s < z)) := fun q => c ⟨hq, q⟩
        omega
      · exact ih.2.2 s (by omega) hq
theorem m_fewest {h : Hl} (ok : hOK h) {vb : Int32} {vme vmo vdi vsi vor : Nat → Int32} (t : tX h vb vme vmo vdi vsi vor) {N : Nat} (hN : 200000 ≤ N) {a e : Nat} (ha : a < 2 ^ hB h) (he : e < 1000) (hq : qlf h a e a) : f_X7_fewest N vb vme (nI a) (nI e) = some (nI (it (fmF h a e) a (2 ^ hB h))) := by
  have h6 := ok.1
  have e0 := t.1
  have hp := q_p6 h6
  unfold f_X7_fewest
  refine b_run (lp_for (fun k => (nI (it (fmF h a e) a k), nI k)) (2 ^ hB h) (by omega) rfl ?_ ?_ (r := nI (it (fmF h a e) a (2 ^ hB h)))) rfl
  · intro k hk
    have hz := (fmF_inv (h := h) (e := e) (by omega) hq k (by omega)).1
    have M := m_members ok t hN (x := k) (by omega)
    have hmo := mo_le ok (bt k)
    show _ = some (Sum.inl (nI (fmF h a e k (it (fmF h a e) a k)), nI (k + 1)))
    generalize it (fmF h a e) a k = z at *
    have M2 := m_members ok t hN (x := z) (by omega)
    have hmo2 := mo_le ok (bt z)
    rw [e0] at M M2
    have D1 : (nI (mo h (bt k)) - nI (mo h (bt z)) < nI 0) = (mo h (bt k) < mo h (bt z)) := by
      rw [i_lt (by omega), pk_sub_toInt (by omega) (by omega)]; exact propext ⟨fun q => by omega, fun q => by omega⟩
    have D2 : (nI (mo h (bt k)) - nI (mo h (bt z)) = nI 0) = (mo h (bt k) = mo h (bt z)) := by
      rw [i_eq (by omega), pk_sub_toInt (by omega) (by omega)]; exact propext ⟨fun q => by omega, fun q => by omega⟩
    by_cases c1 : sbI a k
    · have c1' : (nI k &&& (nI a ^^^ m1)) = nI 0 := c1
      by_cases c2 : e ≤ mo h (bt k)
      · by_cases c3 : mo h (bt k) < mo h (bt z)
        · rw [show fmF h a e k z = k from if_pos ⟨⟨c1, c2⟩, Or.inl c3⟩]
          simp (disch := omega) only [f_X7_fewest_B5, f_X7_fewest_L72, f_X7_fewest_L71, f_X7_fewest_L70, f_X7_fewest_L65, d_let, d_lef, d_ltt, d_ltf, d_eqt, d_eqf, ↓reduceIte, or_false, false_or, or_true, true_or, and_true, true_and, and_false, false_and, not_true_eq_false, not_false_eq_true, Bool.false_eq_true, Option.bind_some, q_ofNat, q_cl, q_lt, q_le, q_eq, nI_add, pk_mul, q_m1, q_m4, m1_lt, m1_le, m1_nlt, m1_nle, m1_ne, m1_ne2, m4_lt, m4_le, m4_nlt, m4_nle, m4_ne, m4_ne2, q_0, q_1, q_2, q_3, q_4, q_5, q_6, q_8, q_12, q_15, q_16, q_20, q_24, q_30, q_31, q_32, q_80, q_9, q_99, q_126, q_48, q_57, q_58, q_59, q_97, q_101, q_10, q_21, q_255, q_46656, e0, q_shl, c1', M, M2, D1, D2]
        · by_cases c4 : mo h (bt k) = mo h (bt z)
          · by_cases c5 : k < z
            · rw [show fmF h a e k z = k from if_pos ⟨⟨c1, c2⟩, Or.inr ⟨c4, c5⟩⟩]
              simp (disch := omega) only [f_X7_fewest_B5, f_X7_fewest_L72, f_X7_fewest_L71, f_X7_fewest_L70, f_X7_fewest_L65, d_let, d_lef, d_ltt, d_ltf, d_eqt, d_eqf, ↓reduceIte, or_false, false_or, or_true, true_or, and_true, true_and, and_false, false_and, not_true_eq_false, not_false_eq_true, Bool.false_eq_true, Option.bind_some, q_ofNat, q_cl, q_lt, q_le, q_eq, nI_add, pk_mul, q_m1, q_m4, m1_lt, m1_le, m1_nlt, m1_nle, m1_ne, m1_ne2, m4_lt, m4_le, m4_nlt, m4_nle, m4_ne, m4_ne2, q_0, q_1, q_2, q_3, q_4, q_5, q_6, q_8, q_12, q_15, q_16, q_20, q_24, q_30, q_31, q_32, q_80, q_9, q_99, q_126, q_48, q_57, q_58, q_59, q_97, q_101, q_10, q_21, q_255, q_46656, e0, q_shl, c1', M, M2, D1, D2]
            · rw [show fmF h a e k z = z from if_neg (fun q => by omega)]
              simp (disch := omega) only [f_X7_fewest_B5, f_X7_fewest_L72, f_X7_fewest_L71, f_X7_fewest_L70, f_X7_fewest_L65, d_let, d_lef, d_ltt, d_ltf, d_eqt, d_eqf, ↓reduceIte, or_false, false_or, or_true, true_or, and_true, true_and, and_false, false_and, not_true_eq_false, not_false_eq_true, Bool.false_eq_true, Option.bind_some, q_ofNat, q_cl, q_lt, q_le, q_eq, nI_add, pk_mul, q_m1, q_m4, m1_lt, m1_le, m1_nlt, m1_nle, m1_ne, m1_ne2, m4_lt, m4_le, m4_nlt, m4_nle, m4_ne, m4_ne2, q_0, q_1, q_2, q_3, q_4, q_5, q_6, q_8, q_12, q_15, q_16, q_20, q_24, q_30, q_31, q_32, q_80, q_9, q_99, q_126, q_48, q_57, q_58, q_59, q_97, q_101, q_10, q_21, q_255, q_46656, e0, q_shl, c1', M, M2, D1, D2]
          · rw [show fmF h a e k z = z from if_neg (fun q => by omega)]
            simp (disch := omega) only [f_X7_fewest_B5, f_X7_fewest_L72, f_X7_fewest_L71, f_X7_fewest_L70, f_X7_fewest_L65, d_let, d_lef, d_ltt, d_ltf, d_eqt, d_eqf, ↓reduceIte, or_false, false_or, or_true, true_or, and_true, true_and, and_false, false_and, not_true_eq_false, not_false_eq_true, Bool.false_eq_true, Option.bind_some, q_ofNat, q_cl, q_lt, q_le, q_eq, nI_add, pk_mul, q_m1, q_m4, m1_lt, m1_le, m1_nlt, m1_nle, m1_ne, m1_ne2, m4_lt, m4_le, m4_nlt, m4_nle, m4_ne, m4_ne2, q_0, q_1, q_2, q_3, q_4, q_5, q_6, q_8, q_12, q_15, q_16, q_20, q_24, q_30, q_31, q_32, q_80, q_9, q_99, q_126, q_48, q_57, q_58, q_59, q_97, q_101, q_10, q_21, q_255, q_46656, e0, q_shl, c1', M, M2, D1, D2]
      · rw [show fmF h a e k z = z from if_neg (fun q => c2 q.1.2)]
        simp (disch := omega) only [f_X7_fewest_B5, f_X7_fewest_L72, f_X7_fewest_L71, f_X7_fewest_L70, f_X7_fewest_L65, d_let, d_lef, d_ltt, d_ltf, d_eqt, d_eqf, ↓reduceIte, or_false, false_or, or_true, true_or, and_true, true_and, and_false, false_and, not_true_eq_false, not_false_eq_true, Bool.false_eq_true, Option.bind_some, q_ofNat, q_cl, q_lt, q_le, q_eq, nI_add, pk_mul, q_m1, q_m4, m1_lt, m1_le, m1_nlt, m1_nle, m1_ne, m1_ne2, m4_lt, m4_le, m4_nlt, m4_nle, m4_ne, m4_ne2, q_0, q_1, q_2, q_3, q_4, q_5, q_6, q_8, q_12, q_15, q_16, q_20, q_24, q_30, q_31, q_32, q_80, q_9, q_99, q_126, q_48, q_57, q_58, q_59, q_97, q_101, q_10, q_21, q_255, q_46656, e0, q_shl, c1', M]
    · rw [show fmF h a e k z = z from if_neg (fun q => c1 q.1.1)]
      have c1' : ¬ (nI k &&& (nI a ^^^ m1)) = nI 0 := c1
      simp (disch := omega) only [f_X7_fewest_B5, f_X7_fewest_L72, f_X7_fewest_L71, f_X7_fewest_L70, f_X7_fewest_L65, d_let, d_lef, d_ltt, d_ltf, d_eqt, d_eqf, ↓reduceIte, or_false, false_or, or_true, true_or, and_true, true_and, and_false, false_and, not_true_eq_false, not_false_eq_true, Bool.false_eq_true, Option.bind_some, q_ofNat, q_cl, q_lt, q_le, q_eq, nI_add, pk_mul, q_m1, q_m4, m1_lt, m1_le, m1_nlt, m1_nle, m1_ne, m1_ne2, m4_lt, m4_le, m4_nlt, m4_nle, m4_ne, m4_ne2, q_0, q_1, q_2, q_3, q_4, q_5, q_6, q_8, q_12, q_15, q_16, q_20, q_24, q_30, q_31, q_32, q_80, q_9, q_99, q_126, q_48, q_57, q_58, q_59, q_97, q_101, q_10, q_21, q_255, q_46656, e0, q_shl, c1']
  · simp (disch := omega) only [f_X7_fewest_B5, d_let, d_lef, d_ltt, d_ltf, d_eqt, d_eqf, ↓reduceIte, or_false, false_or, or_true, true_or, and_true, true_and, and_false, false_and, not_true_eq_false, not_false_eq_true, Bool.false_eq_true, Option.bind_some, q_ofNat, q_cl, q_lt, q_le, q_eq, nI_add, pk_mul, q_m1, q_m4, m1_lt, m1_le, m1_nlt, m1_nle, m1_ne, m1_ne2, m4_lt, m4_le, m4_nlt, m4_nle, m4_ne, m4_ne2, q_0, q_1, q_2, q_3, q_4, q_5, q_6, q_8, q_12, q_15, q_16, q_20, q_24, q_30, q_31, q_32, q_80, q_9, q_99, q_126, q_48, q_57, q_58, q_59, q_97, q_101, q_10, q_21, q_255, q_46656, e0, q_shl]
theorem few_eq {h : Hl} (ok : hOK h) {a e : Nat} (ha : a < 2 ^ hB h) (he : 1 ≤ e) (hq : qlf h a e a) : oS (it (fwF h a e) (0, 121) a).1 = nI (it (fmF h a e) a (2 ^ hB h)) := by
  have hp := q_p6 ok.1
  have Z : mo h (bt 0) = 0 := by
    have := sm_le (f := fun b => if bt 0 b = true then hMem h b else 0) (m := 0) (hB h) (fun b _ => by rw [if_neg]; exact Nat.le_refl _; unfold bt; simp)
    unfold mo; omega
  have sub64 : ∀ s, s < 64 → qlf h a e s → 1 ≤ s ∧ s ≤ a := fun s hs q => by
    refine ⟨Nat.pos_of_ne_zero (fun z => ?_), (sb_1 (by omega) hs q.1).1⟩
    subst z; have := q.2; omega
  have A : opt h a e (it (fwF h a e) (0, 121) a).1 ∧ (it (fwF h a e) (0, 121) a).1 ≠ 0 := by
    rcases fwF_inv ok (a := a) (e := e) a with ⟨i1, i2, i3⟩ | ⟨i1, i2, i3, i4, i5⟩
    · exact absurd hq (i3 a (sub64 a (by omega) hq).1 (Nat.le_refl _))
    · exact ⟨⟨i3, fun s hs q => i5 s (sub64 s hs q).1 (sub64 s hs q).2 q⟩, by omega⟩
  have B := fmF_inv (h := h) (e := e) (by omega) hq (2 ^ hB h) (by omega)
  have B' : opt h a e (it (fmF h a e) a (2 ^ hB h)) := ⟨B.2.1, fun s hs q => B.2.2 s (by have := sub64 s hs q; omega) q⟩
  have hl : (it (fwF h a e) (0, 121) a).1 < 64 := by have := (sub64 (it (fmF h a e) a (2 ^ hB h)) B.1 B.2.1); rcases fwF_inv ok (a := a) (e := e) a with ⟨i1, i2, i3⟩ | ⟨i1, i2, i3, i4, i5⟩ <;> omega
  unfold oS
  rw [if_neg A.2, opt_u hl B.1 A.1 B']
theorem few_no {h : Hl} (ok : hOK h) {a e : Nat} (ha : a < 64) (hq : mo h (bt a) < e) : oS (it (fwF h a e) (0, 121) a).1 = m4 := by
  have h6 := ok.1
  rcases fwF_inv ok (a := a) (e := e) a with ⟨i1, i2, i3⟩ | ⟨i1, i2, i3, i4, i5⟩
  · unfold oS; rw [if_pos i1]
  · have s1 := sb_1 ha (by omega) i3.1
    have := mo_mono (h := h) (P := bt (it (fwF h a e) (0, 121) a).1) (Q := bt a) (fun b hb => s1.2 b (by omega))
    have := i3.2; omega
