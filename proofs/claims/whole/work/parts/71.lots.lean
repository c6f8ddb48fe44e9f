def badL (v : Nat → Int32) (a k : Nat) : Bool := decide (¬ ((0 : Int) ≤ (v (a + k)).toInt ∧ (v (a + k)).toInt ≤ 3))
theorem x_lotV (y : Int32) : f_X6_isLotValue y = some (if (0 : Int) ≤ y.toInt ∧ y.toInt ≤ 3 then nI 1 else nI 0) := by
  unfold f_X6_isLotValue
  by_cases q1 : y.toInt < 0
  · simp (disch := omega) only [d_let, d_lef, d_ltt, d_ltf, d_eqt, d_eqf, ↓reduceIte, or_false, false_or, or_true, true_or, and_true, true_and, and_false, false_and, not_true_eq_false, not_false_eq_true, Bool.false_eq_true, Option.bind_some, q_ofNat, q_cl, q_lt, q_le, q_eq, nI_add, pk_mul, q_m1, q_m4, m1_lt, m1_le, m1_nlt, m1_nle, m1_ne, m1_ne2, m4_lt, m4_le, m4_nlt, m4_nle, m4_ne, m4_ne2, q_0, q_1, q_2, q_3, q_4, q_5, q_6, q_8, q_12, q_15, q_16, q_20, q_24, q_30, q_31, q_32, q_80, q_9, q_99, q_126, q_48, q_57, q_58, q_59, q_97, q_101, q_10, q_21, q_255, q_46656, i_lt, i_ltr, i_le, i_ler, i_eq, di_let, di_lef, di_ltt, di_ltf, di_eqt, di_eqf, nI_toIntq, m1_toInt, m4_toInt, mi_0_7, mi_1_12, mi_0_4, mi_0_15, mi_0_3, mi_0_32, mi_1_32, mi_0_1, mi_1_8, mi_0_2, mi_1_16, mi_1_4]
  · by_cases q2 : 3 < y.toInt
    · simp (disch := omega) only [d_let, d_lef, d_ltt, d_ltf, d_eqt, d_eqf, ↓reduceIte, or_false, false_or, or_true, true_or, and_true, true_and, and_false, false_and, not_true_eq_false, not_false_eq_true, Bool.false_eq_true, Option.bind_some, q_ofNat, q_cl, q_lt, q_le, q_eq, nI_add, pk_mul, q_m1, q_m4, m1_lt, m1_le, m1_nlt, m1_nle, m1_ne, m1_ne2, m4_lt, m4_le, m4_nlt, m4_nle, m4_ne, m4_ne2, q_0, q_1, q_2, q_3, q_4, q_5, q_6, q_8, q_12, q_15, q_16, q_20, q_24, q_30, q_31, q_32, q_80, q_9, q_99, q_126, q_48, q_57, q_58, q_59, q_97, q_101, q_10, q_21, q_255, q_46656, i_lt, i_ltr, i_le, i_ler, i_eq, di_let, di_lef, di_ltt, di_ltf, di_eqt, di_eqf, nI_toIntq, m1_toInt, m4_toInt, mi_0_7, mi_1_12, mi_0_4, mi_0_15, mi_0_3, mi_0_32, mi_1_32, mi_0_1, mi_1_8, mi_0_2, mi_1_16, mi_1_4]
    · simp (disch := omega) only [d_let, d_lef, d_ltt, d_ltf, d_eqt, d_eqf, ↓reduceIte, or_false, false_or, or_true, true_or, and_true, true_and, and_false, false_and, not_true_eq_false, not_false_eq_true, Bool.false_eq_true, Option.bind_some, q_ofNat, q_cl, q_lt, q_le, q_eq, nI_add, pk_mul, q_m1, q_m4, m1_lt, m1_le, m1_nlt, m1_nle, m1_ne, m1_ne2, m4_lt, m4_le, m4_nlt, m4_nle, m4_ne, m4_ne2, q_0, q_1, q_2, q_3, q_4, q_5, q_6, q_8, q_12, q_15, q_16, q_20, q_24, q_30, q_31, q_32, q_80, q_9, q_99, q_126, q_48, q_57, q_58, q_59, q_97, q_101, q_10, q_21, q_255, q_46656, i_lt, i_ltr, i_le, i_ler, i_eq, di_let, di_lef, di_ltt, di_ltf, di_eqt, di_eqf, nI_toIntq, m1_toInt, m4_toInt, mi_0_7, mi_1_12, mi_0_4, mi_0_15, mi_0_3, mi_0_32, mi_1_32, mi_0_1, mi_1_8, mi_0_2, mi_1_16, mi_1_4]
theorem x_at {v : Nat → Int32} {j i : Nat} (hj : j < 4) (hi : i < 24) : f_X2_at v (nI j) (nI i) = some (v (24 * j + i)) := by
  unfold f_X2_at
  simp (disch := omega) only [d_let, d_lef, d_ltt, d_ltf, d_eqt, d_eqf, ↓reduceIte, or_false, false_or, or_true, true_or, and_true, true_and, and_false, false_and, not_true_eq_false, not_false_eq_true, Bool.false_eq_true, Option.bind_some, q_ofNat, q_cl, q_lt, q_le, q_eq, nI_add, pk_mul, q_m1, q_m4, m1_lt, m1_le, m1_nlt, m1_nle, m1_ne, m1_ne2, m4_lt, m4_le, m4_nlt, m4_nle, m4_ne, m4_ne2, q_0, q_1, q_2, q_3, q_4, q_5, q_6, q_8, q_12, q_15, q_16, q_20, q_24, q_30, q_31, q_32, q_80, q_9, q_99, q_126, q_48, q_57, q_58, q_59, q_97, q_101, q_10, q_21, q_255, q_46656, Nat.mul_comm j 24]
theorem x_lotsA {N : Nat} (hN : 200000 ≤ N) (vlo v : Nat → Int32) {j i n : Nat} (hj : j < 4) (hn : n ≤ 16) (hi : i + n ≤ 24) : lp (fun s => f_X6_lots_B40 vlo v (nI j) (nI i) (nI n) s) N (0 : Int32) = some (if ff (badL v (24 * j + i)) 0 n < n then .inr (-2, vlo) else .inl (nI n)) := by
  refine lp_find (fun k => nI k) (badL v (24 * j + i)) n 0 (fun _ => Sum.inr (-2, vlo)) (Sum.inl (nI n)) (by omega) (by omega) rfl ?_ ?_ ?_
  · intro k _ hk hP
    have hP := of_decide_eq_false hP
    have hP := Classical.not_not.mp hP
    have A := x_at (v := v) (j := j) (i := i + k) hj (by omega)
    rw [show 24 * j + (i + k) = 24 * j + i + k by omega] at A
    have L := x_lotV (v (24 * j + i + k))
    rw [if_pos hP] at L
    simp (disch := omega) only [f_X6_lots_B40, d_let, d_lef, d_ltt, d_ltf, d_eqt, d_eqf, ↓reduceIte, or_false, false_or, or_true, true_or, and_true, true_and, and_false, false_and, not_true_eq_false, not_false_eq_true, Bool.false_eq_true, Option.bind_some, q_ofNat, q_cl, q_lt, q_le, q_eq, nI_add, pk_mul, q_m1, q_m4, m1_lt, m1_le, m1_nlt, m1_nle, m1_ne, m1_ne2, m4_lt, m4_le, m4_nlt, m4_nle, m4_ne, m4_ne2, q_0, q_1, q_2, q_3, q_4, q_5, q_6, q_8, q_12, q_15, q_16, q_20, q_24, q_30, q_31, q_32, q_80, q_9, q_99, q_126, q_48, q_57, q_58, q_59, q_97, q_101, q_10, q_21, q_255, q_46656, A, L]
  · intro k _ hk hP
    have hP := of_decide_eq_true hP
    have A := x_at (v := v) (j := j) (i := i + k) hj (by omega)
    rw [show 24 * j + (i + k) = 24 * j + i + k by omega] at A
    have L := x_lotV (v (24 * j + i + k))
    rw [if_neg hP] at L
    simp (disch := omega) only [f_X6_lots_B40, d_let, d_lef, d_ltt, d_ltf, d_eqt, d_eqf, ↓reduceIte, or_false, false_or, or_true, true_or, and_true, true_and, and_false, false_and, not_true_eq_false, not_false_eq_true, Bool.false_eq_true, Option.bind_some, q_ofNat, q_cl, q_lt, q_le, q_eq, nI_add, pk_mul, q_m1, q_m4, m1_lt, m1_le, m1_nlt, m1_nle, m1_ne, m1_ne2, m4_lt, m4_le, m4_nlt, m4_nle, m4_ne, m4_ne2, q_0, q_1, q_2, q_3, q_4, q_5, q_6, q_8, q_12, q_15, q_16, q_20, q_24, q_30, q_31, q_32, q_80, q_9, q_99, q_126, q_48, q_57, q_58, q_59, q_97, q_101, q_10, q_21, q_255, q_46656, A, L]
  · simp (disch := omega) only [f_X6_lots_B40, d_let, d_lef, d_ltt, d_ltf, d_eqt, d_eqf, ↓reduceIte, or_false, false_or, or_true, true_or, and_true, true_and, and_false, false_and, not_true_eq_false, not_false_eq_true, Bool.false_eq_true, Option.bind_some, q_ofNat, q_cl, q_lt, q_le, q_eq, nI_add, pk_mul, q_m1, q_m4, m1_lt, m1_le, m1_nlt, m1_nle, m1_ne, m1_ne2, m4_lt, m4_le, m4_nlt, m4_nle, m4_ne, m4_ne2, q_0, q_1, q_2, q_3, q_4, q_5, q_6, q_8, q_12, q_15, q_16, q_20, q_24, q_30, q_31, q_32, q_80, q_9, q_99, q_126, q_48, q_57, q_58, q_59, q_97, q_101, q_10, q_21, q_255, q_46656]
theorem m_lotsA {N : Nat} (hN : 200000 ≤ N) (vlo v : Nat → Int32) {j i n : Nat} (hj : j < 4) (hn : n ≤ 16) (hi : i + n ≤ 24) : lp (fun s => f_X7_lots_B53 vlo v (nI n) (nI (24 * j + i)) s) N (0 : Int32) = some (if ff (badL v (24 * j + i)) 0 n < n then .inr (-2, vlo) else .inl (nI n)) := by
  refine lp_find (fun k => nI k) (badL v (24 * j + i)) n 0 (fun _ => Sum.inr (-2, vlo)) (Sum.inl (nI n)) (by omega) (by omega) rfl ?_ ?_ ?_
  · intro k _ hk hP
    have hP := of_decide_eq_false hP
    have hP := Classical.not_not.mp hP
    have L := mi_0_3 (v (24 * j + i + k))
    rw [if_pos hP] at L
    simp (disch := omega) only [f_X7_lots_B53, d_let, d_lef, d_ltt, d_ltf, d_eqt, d_eqf, ↓reduceIte, or_false, false_or, or_true, true_or, and_true, true_and, and_false, false_and, not_true_eq_false, not_false_eq_true, Bool.false_eq_true, Option.bind_some, q_ofNat, q_cl, q_lt, q_le, q_eq, nI_add, pk_mul, q_m1, q_m4, m1_lt, m1_le, m1_nlt, m1_nle, m1_ne, m1_ne2, m4_lt, m4_le, m4_nlt, m4_nle, m4_ne, m4_ne2, q_0, q_1, q_2, q_3, q_4, q_5, q_6, q_8, q_12, q_15, q_16, q_20, q_24, q_30, q_31, q_32, q_80, q_9, q_99, q_126, q_48, q_57, q_58, q_59, q_97, q_101, q_10, q_21, q_255, q_46656, L]
  · intro k _ hk hP
    have hP := of_decide_eq_true hP
    have L := mi_0_3 (v (24 * j + i + k))
    rw [if_neg hP] at L
    simp (disch := omega) only [f_X7_lots_B53, d_let, d_lef, d_ltt, d_ltf, d_eqt, d_eqf, ↓reduceIte, or_false, false_or, or_true, true_or, and_true, true_and, and_false, false_and, not_true_eq_false, not_false_eq_true, Bool.false_eq_true, Option.bind_some, q_ofNat, q_cl, q_lt, q_le, q_eq, nI_add, pk_mul, q_m1, q_m4, m1_lt, m1_le, m1_nlt, m1_nle, m1_ne, m1_ne2, m4_lt, m4_le, m4_nlt, m4_nle, m4_ne, m4_ne2, q_0, q_1, q_2, q_3, q_4, q_5, q_6, q_8, q_12, q_15, q_16, q_20, q_24, q_30, q_31, q_32, q_80, q_9, q_99, q_126, q_48, q_57, q_58, q_59, q_97, q_101, q_10, q_21, q_255, q_46656, L]
  · simp (disch := omega) only [f_X7_lots_B53, d_let, d_lef, d_ltt, d_ltf, d_eqt, d_eqf, ↓reduceIte, or_false, false_or, or_true, true_or, and_true, true_and, and_false, false_and, not_true_eq_false, not_false_eq_true, Bool.false_eq_true, Option.bind_some, q_ofNat, q_cl, q_lt, q_le, q_eq, nI_add, pk_mul, q_m1, q_m4, m1_lt, m1_le, m1_nlt, m1_nle, m1_ne, m1_ne2, m4_lt, m4_le, m4_nlt, m4_nle, m4_ne, m4_ne2, q_0, q_1, q_2, q_3, q_4, q_5, q_6, q_8, q_12, q_15, q_16, q_20, q_24, q_30, q_31, q_32, q_80, q_9, q_99, q_126, q_48, q_57, q_58, q_59, q_97, q_101, q_10, q_21, q_255, q_46656]
theorem x_lotsB {N : Nat} (hN : 200000 ≤ N) (vlo v : Nat → Int32) {j i n : Nat} (hj : j < 4) (hn : n ≤ 16) (hi : i + n ≤ 24) : lp (fun s : Int32 × (Nat → Int32) => f_X6_lots_B77 v (nI j) (nI i) (nI n) s.1 s.2) N ((0 : Int32), vlo) = some (nI n, it (wrF (fun k => v (24 * j + i + k))) vlo n) := by
  refine lp_for (fun k => (nI k, it (wrF (fun k => v (24 * j + i + k))) vlo k)) n (by omega) rfl ?_ ?_
  · intro k hk
    have A := x_at (v := v) (j := j) (i := i + k) hj (by omega)
    rw [show 24 * j + (i + k) = 24 * j + i + k by omega] at A
    simp (disch := omega) only [f_X6_lots_B77, d_let, d_lef, d_ltt, d_ltf, d_eqt, d_eqf, ↓reduceIte, or_false, false_or, or_true, true_or, and_true, true_and, and_false, false_and, not_true_eq_false, not_false_eq_true, Bool.false_eq_true, Option.bind_some, q_ofNat, q_cl, q_lt, q_le, q_eq, nI_add, pk_mul, q_m1, q_m4, m1_lt, m1_le, m1_nlt, m1_nle, m1_ne, m1_ne2, m4_lt, m4_le, m4_nlt, m4_nle, m4_ne, m4_ne2, q_0, q_1, q_2, q_3, q_4, q_5, q_6, q_8, q_12, q_15, q_16, q_20, q_24, q_30, q_31, q_32, q_80, q_9, q_99, q_126, q_48, q_57, q_58, q_59, q_97, q_101, q_10, q_21, q_255, q_46656, A]; rfl
  · simp (disch := omega) only [f_X6_lots_B77, d_let, d_lef, d_ltt, d_ltf, d_eqt, d_eqf, ↓reduceIte, or_false, false_or, or_true, true_or, and_true, true_and, and_false, false_and, not_true_eq_false, not_false_eq_true, Bool.false_eq_true, Option.bind_some, q_ofNat, q_cl, q_lt, q_le, q_eq, nI_add, pk_mul, q_m1, q_m4, m1_lt, m1_le, m1_nlt, m1_nle, m1_ne, m1_ne2, m4_lt, m4_le, m4_nlt, m4_nle, m4_ne, m4_ne2, q_0, q_1, q_2, q_3, q_4, q_5, q_6, q_8, q_12, q_15, q_16, q_20, q_24, q_30, q_31, q_32, q_80, q_9, q_99, q_126, q_48, q_57, q_58, q_59, q_97, q_101, q_10, q_21, q_255, q_46656]
theorem m_lotsB {N : Nat} (hN : 200000 ≤ N) (vlo v : Nat → Int32) {j i n : Nat} (hj : j < 4) (hn : n ≤ 16) (hi : i + n ≤ 24) : lp (fun s : Int32 × (Nat → Int32) => f_X7_lots_B93 v (nI n) (nI (24 * j + i)) s.1 s.2) N ((0 : Int32), vlo) = some (nI n, it (wrF (fun k => v (24 * j + i + k))) vlo n) := by
  refine lp_for (fun k => (nI k, it (wrF (fun k => v (24 * j + i + k))) vlo k)) n (by omega) rfl ?_ ?_
  · intro k hk
    simp (disch := omega) only [f_X7_lots_B93, d_let, d_lef, d_ltt, d_ltf, d_eqt, d_eqf, ↓reduceIte, or_false, false_or, or_true, true_or, and_true, true_and, and_false, false_and, not_true_eq_false, not_false_eq_true, Bool.false_eq_true, Option.bind_some, q_ofNat, q_cl, q_lt, q_le, q_eq, nI_add, pk_mul, q_m1, q_m4, m1_lt, m1_le, m1_nlt, m1_nle, m1_ne, m1_ne2, m4_lt, m4_le, m4_nlt, m4_nle, m4_ne, m4_ne2, q_0, q_1, q_2, q_3, q_4, q_5, q_6, q_8, q_12, q_15, q_16, q_20, q_24, q_30, q_31, q_32, q_80, q_9, q_99, q_126, q_48, q_57, q_58, q_59, q_97, q_101, q_10, q_21, q_255, q_46656]; rfl
  · simp (disch := omega) only [f_X7_lots_B93, d_let, d_lef, d_ltt, d_ltf, d_eqt, d_eqf, ↓reduceIte, or_false, false_or, or_true, true_or, and_true, true_and, and_false, false_and, not_true_eq_false, not_false_eq_true, Bool.false_eq_true, Option.bind_some, q_ofNat, q_cl, q_lt, q_le, q_eq, nI_add, pk_mul, q_m1, q_m4, m1_lt, m1_le, m1_nlt, m1_nle, m1_ne, m1_ne2, m4_lt, m4_le, m4_nlt, m4_nle, m4_ne, m4_ne2, q_0, q_1, q_2, q_3, q_4, q_5, q_6, q_8, q_12, q_15, q_16, q_20, q_24, q_30, q_31, q_32, q_80, q_9, q_99, q_126, q_48, q_57, q_58, q_59, q_97, q_101, q_10, q_21, q_255, q_46656]
def bLt (r : Br) (v : Nat → Int32) (a n : Nat) : Br := (bAb r, bBe r, bSt r, fun k => if k < n then (v (a + k)).toInt.toNat else bLo r k)
theorem bLt_ok {r : Br} (rok : bOK r) {v : Nat → Int32} {a n : Nat} (hv : ∀ k, k < n → (0 : Int) ≤ (v (a + k)).toInt ∧ (v (a + k)).toInt ≤ 3) : bOK (bLt r v a n) := by
  refine ⟨rok.1, rok.2.1, fun k hk => ?_⟩
  show (if k < n then (v (a + k)).toInt.toNat else bLo r k) < 4
  split
  · rename_i q; have := hv k q; omega
  · exact rok.2.2 k hk
theorem bLt_X {r : Br} {v w : Nat → Int32} {a n : Nat} (hv : ∀ k, k < n → (0 : Int) ≤ (v (a + k)).toInt ∧ (v (a + k)).toInt ≤ 3) (hw : ∀ k, k < n → w (a + k) = v (a + k)) {vab vbe vst vlo : Nat → Int32} (rr : rX r vab vbe vst vlo) : rX (bLt r v a n) vab vbe vst (it (wrF (fun k => w (a + k))) vlo n) := by
  refine ⟨rr.1, rr.2.1, fun k hk => ?_⟩
  show it (wrF (fun k => w (a + k))) vlo n k = nI (if k < n then (v (a + k)).toInt.toNat else bLo r k)
  rw [wrF_at]
  by_cases c : k < n
  · rw [if_pos c, if_pos c, hw k c]
    have := hv k c
    rw [← Int32.toInt_inj, nI_toInt (by omega)]; omega
  · rw [if_neg c, if_neg c]; exact rr.2.2 k hk
theorem badL_eq {v w : Nat → Int32} (h : ∀ i, i < 96 → w i = v i) {j i n : Nat} (hj : j < 4) (hi : i + n ≤ 24) : ff (badL w (24 * j + i)) 0 n = ff (badL v (24 * j + i)) 0 n := ff_congr n 0 (fun k _ hk => by unfold badL; rw [h (24 * j + i + k) (by omega)])
theorem ok_lots {N : Nat} (hN : 200000 ≤ N) : st_lots N Rel := by
  unfold st_lots
  intro vx_kept vx_tape_length vx_tape_at vx_tape_lotBlocks vx_tape_bytes vx_tape_digitPlaces vx_told_blocks vx_told_members vx_told_moves vx_told_digits vx_told_sizes vx_told_orders vx_told_above vx_told_below vx_told_struck vx_told_lots vx_course_ballots vx_course_used vx_course_chosen vx_course_waiter vx_course_wait vx_course_wrote vx_course_writes vx_course_counts vx_keptTold_blocks vx_keptTold_members vx_keptTold_moves vx_keptTold_digits vx_keptTold_sizes vx_keptTold_orders vx_keptTold_above vx_keptTold_below vx_keptTold_struck vx_keptTold_lots vx_keptCourse_ballots vx_keptCourse_used vx_keptCourse_chosen vx_keptCourse_waiter vx_keptCourse_wait vx_keptCourse_wrote vx_keptCourse_writes vx_keptCourse_counts vx_trialTold_blocks vx_trialTold_members vx_trialTold_moves vx_trialTold_digits vx_trialTold_sizes vx_trialTold_orders vx_trialTold_above vx_trialTold_below vx_trialTold_struck vx_trialTold_lots vx_trial_ballots vx_trial_used vx_trial_chosen vx_trial_waiter vx_trial_wait vx_trial_wrote vx_trial_writes vx_trial_counts vx_odds_above vx_odds_below vx_odds_now_size nx_odds_now_states vx_odds_now_states nx_odds_now_weights vx_odds_now_weights nx_odds_now_slots vx_odds_now_slots vx_odds_then_size nx_odds_then_states vx_odds_then_states nx_odds_then_weights vx_odds_then_weights nx_odds_then_slots vx_odds_then_slots vx_odds_trial_ballots vx_odds_trial_used vx_odds_trial_chosen vx_odds_trial_waiter vx_odds_trial_wait vx_odds_trial_wrote vx_odds_trial_writes vx_odds_trial_counts vx_sheets_lanes vx_sheets_sizes vx_sheets_items vm_blocks vm_done vm_used vm_taken vm_taped vm_at vm_readBlocks vm_copyUsed vm_waiter vm_waiting vm_isTold vm_toldBits vm_toldAt vm_endName vm_endBallot vm_isKept vm_imageAt vm_members vm_moves vm_digits vm_sizes vm_orders vm_above vm_below vm_struck vm_lotted vm_wrote vm_tape vm_readMembers vm_readMoves vm_readDigits vm_readSizes vm_readOrders vm_digitPlaces vm_copy vm_then vm_counts vm_ways vm_more vm_image vm_singles vm_lanes vm_rowSizes vm_items y0 y1 y2 y3 hR
  obtain ⟨RB, RK, RT, RS, RO, RW⟩ := Rel_out hR
  obtain ⟨h, r, s, ok, rok, sok, tx, rx, cx, tm, td, rm, cm⟩ := RB
  have RB' : RelB vx_told_blocks vx_told_members vx_told_moves vx_told_digits vx_told_sizes vx_told_orders vx_told_above vx_told_below vx_told_struck vx_told_lots vx_course_ballots vx_course_used vx_course_chosen vx_course_wrote vx_course_counts vm_blocks vm_done vm_used vm_taken vm_members vm_moves vm_digits vm_sizes vm_orders vm_above vm_below vm_struck vm_lotted vm_wrote := ⟨h, r, s, ok, rok, sok, tx, rx, cx, tm, td, rm, cm⟩
  obtain ⟨S1, S2⟩ := RS
  have NR : RelS vx_sheets_lanes vx_sheets_sizes vx_sheets_items vm_lanes vm_rowSizes vm_items := ⟨S1, S2⟩
  rcases arg y3 1 16 with hy | hy | ⟨n, hn1, hn2, rfl⟩
  · refine ⟨(m1, vx_told_lots), (m1, vm_lotted), ?_, ?_, rfl, Rel_in RB' RK RT NR RO RW⟩
    · unfold f_X6_lots; rw [if_pos (by rw [q_1, i_lt (by omega)]; omega)]; rfl
    · unfold f_X7_lots
      rcases row_ref S1 y0 y1 y2 (n := 1) (by decide) with ⟨_, A2⟩ | ⟨j, l, hj, hl, rfl, rfl, A3, _⟩
      · rw [A2]; rfl
      · rw [A3, Option.bind_some, if_neg (by decide), mi_1_16, if_neg (by omega)]; rfl
  · refine ⟨(m1, vx_told_lots), (m1, vm_lotted), ?_, ?_, rfl, Rel_in RB' RK RT NR RO RW⟩
    · unfold f_X6_lots; rw [if_neg (by rw [q_1, i_lt (by omega)]; omega), if_neg (by rw [q_16, i_le (by omega)]; omega)]; rfl
    · unfold f_X7_lots
      rcases row_ref S1 y0 y1 y2 (n := 1) (by decide) with ⟨_, A2⟩ | ⟨j, l, hj, hl, rfl, rfl, A3, _⟩
      · rw [A2]; rfl
      · rw [A3, Option.bind_some, if_neg (by decide), mi_1_16, if_neg (by omega)]; rfl
  · have X : ∀ {z : Int32 × (Nat → Int32)} {q : Int32}, f_X2_refusalOfRow vx_sheets_lanes vx_sheets_sizes y0 y1 y2 (nI n) = some q → (if q = 0 then ((lp (fun s => f_X6_lots_B40 vx_told_lots vx_sheets_items y0 y2 (nI n) s) N (0 : Int32)).bind (Sum.elim (fun t12 => ((lp (fun s => f_X6_lots_B77 vx_sheets_items y0 y2 (nI n) s.1 s.2) N ((0 : Int32), vx_told_lots)).bind (fun e13 => some e13))) (fun q9 => some q9))) else some (q, vx_told_lots)) = some z → f_X6_lots N vx_told_lots vx_sheets_lanes vx_sheets_sizes vx_sheets_items y0 y1 y2 (nI n) = some z := by
      intro z q h1 h2
      unfold f_X6_lots
      rw [if_neg (by rw [q_1, q_lt (by omega) (by omega)]; omega), if_pos (by rw [q_16, q_le (by omega) (by omega)]; omega)]
      exact b_run h1 h2
    have Y : ∀ {z : Int32 × (Nat → Int32)} {q : Int32}, f_X7_isSheet y0 y1 = some (nI 1) → f_X7_lacksRow vm_lanes vm_rowSizes y0 y1 y2 (nI n) = some q → (if (0 : Int32) ≤ q then ((lp (fun s => f_X7_lots_B53 vm_lotted vm_items (nI n) ((24 * y0) + y2) s) N (0 : Int32)).bind (Sum.elim (fun t14 => ((lp (fun s => f_X7_lots_B93 vm_items (nI n) ((24 * y0) + y2) s.1 s.2) N ((0 : Int32), vm_lotted)).bind (fun e15 => some e15))) (fun q9 => some q9))) else some (q, vm_lotted)) = some z → f_X7_lots N vm_lotted vm_lanes vm_rowSizes vm_items y0 y1 y2 (nI n) = some z := by
      intro z q h0 h1 h2
      unfold f_X7_lots
      rw [h0, Option.bind_some, if_neg (by decide), mi_1_16, if_pos (by rw [nI_toInt (by omega)]; omega), Option.bind_some, if_neg (by decide)]
      exact b_run h1 h2
    rcases row_ref S1 y0 y1 y2 (n := n) (by omega) with ⟨A1, A2⟩ | ⟨j, l, hj, hl, rfl, rfl, A3, ⟨z, Z0, Z1, Z2⟩ | ⟨i, k, rfl, e1, e2, e3, e4, A1, A2⟩⟩
    · refine ⟨(m1, vx_told_lots), (m1, vm_lotted), X A1 (if_neg (by decide)), ?_, rfl, Rel_in RB' RK RT NR RO RW⟩
      unfold f_X7_lots; rw [A2]; rfl
    · exact ⟨(z, vx_told_lots), (z, vm_lotted), X Z1 (if_neg Z0.1), Y A3 Z2 (if_neg Z0.2), rfl, Rel_in RB' RK RT NR RO RW⟩
    · have L1 := x_lotsA hN vx_told_lots vx_sheets_items (j := j) (i := i) (n := n) hj hn2 (by omega)
      have L2 := m_lotsA hN vm_lotted vm_items (j := j) (i := i) (n := n) hj hn2 (by omega)
      rw [badL_eq S2 hj (by omega)] at L2
      have hidx : (24 : Int32) * nI j + nI i = nI (24 * j + i) := by rw [q_24, pk_mul, nI_add]
      by_cases c : ff (badL vx_sheets_items (24 * j + i)) 0 n < n
      · rw [if_pos c] at L1 L2
        refine ⟨(-2, vx_told_lots), (-2, vm_lotted), X A1 ?_, Y A3 A2 ?_, rfl, Rel_in RB' RK RT NR RO RW⟩
        · rw [if_pos (show nI 0 = 0 from rfl), L1]; rfl
        · rw [if_pos (by decide), hidx, L2]; rfl
      · rw [if_neg c] at L1 L2
        have hv : ∀ q, q < n → (0 : Int) ≤ (vx_sheets_items (24 * j + i + q)).toInt ∧ (vx_sheets_items (24 * j + i + q)).toInt ≤ 3 := by
          intro q hq
          have a := ff_le (badL vx_sheets_items (24 * j + i)) n 0
          have := ff_no (badL vx_sheets_items (24 * j + i)) n 0 q (by omega) (by omega)
          exact Classical.not_not.mp (of_decide_eq_false this)
        refine ⟨(nI n, it (wrF (fun k => vx_sheets_items (24 * j + i + k))) vx_told_lots n), (nI n, it (wrF (fun k => vm_items (24 * j + i + k))) vm_lotted n), X A1 ?_, Y A3 A2 ?_, rfl, Rel_in ⟨h, bLt r vx_sheets_items (24 * j + i) n, s, ok, bLt_ok rok hv, sok, tx, bLt_X hv (fun _ _ => rfl) rx, cx, tm, td, bLt_X hv (fun q hq => S2 _ (by omega)) rm, cm⟩ RK RT NR RO RW⟩
        · rw [if_pos (show nI 0 = 0 from rfl), L1, Option.bind_some, Sum.elim_inl]
          exact b_run (x_lotsB hN vx_told_lots vx_sheets_items hj hn2 (by omega)) rfl
        · rw [if_pos (by decide), hidx, L2, Option.bind_some, Sum.elim_inl]
          exact b_run (m_lotsB hN vm_lotted vm_items hj hn2 (by omega)) rfl
-- judge
def jS (h : Hl) (r : Br) (k : Nat) : Cr := it (fun _ s => oneS h r 0 0 s) c0 k
theorem jS_1 (h : Hl) (r : Br) : ∀ k, (jS h r k).1 = k := by
  intro k
  induction k with
  | zero => rfl
  | succ k ih => show (jS h r k).1 + 1 = k + 1; rw [ih]
theorem jS_ok {h : Hl} (ok : hOK h) (r : Br) : ∀ k, k ≤ 32 → cOK h (jS h r k) := by
  intro k
  induction k with
  | zero => intro _; exact c0_ok h
  | succ k ih => intro hk; exact oneS_ok ok (ih (by omega)) (show (jS h r k).1 < 32 by rw [jS_1]; omega)
def mis (h : Hl) (r : Br) (v : Nat → Int32) (a b k : Nat) : Bool := decide (v (a + 5 * b + k) ≠ nI (cn h (jS h r (b + 1)).2.2.2 k))
def jP (h : Hl) (r : Br) (v : Nat → Int32) (a b : Nat) : Bool := decide ((jS h r b).2.2.1 ≠ 0 ∨ ff (mis h r v a b) 0 5 < 5)
def juS (h : Hl) (r : Br) (v : Nat → Int32) (a n : Nat) : Int32 := if ff (jP h r v a) 0 n < n then nI (ff (jP h r v a) 0 n) else m4
theorem ju_stop {h : Hl} {r : Br} {v : Nat → Int32} {a n b : Nat} (hb : b < n) (h1 : ∀ j, j < b → jP h r v a j = false) (h2 : jP h r v a b = true) : nI b = juS h r v a n := by
  have := ff_is (jP h r v a) (n := n) (i := 0) (k := b) (by omega) (by omega) h2 (fun j _ => h1 j)
  unfold juS; rw [this, if_pos hb]
theorem ju_end {h : Hl} {r : Br} {v : Nat → Int32} {a n : Nat} (h1 : ∀ j, j < n → jP h r v a j = false) : m4 = juS h r v a n := by
  have := ff_end (jP h r v a) (n := n) (i := 0) (fun j _ hj => h1 j (by omega))
  unfold juS; rw [this, if_neg (by omega)]
theorem x_stand {h : Hl} {r : Br} {N : Nat} (hN : 200000 ≤ N) {v vc : Nat → Int32} {j i b : Nat} (hj : j < 4) (hi : i + 5 * b + 5 ≤ 24) (hc : ∀ k, k < 5 → vc k = nI (cn h (jS h r (b + 1)).2.2.2 k)) : f_X6_countsStandAt N vc v (nI j) (nI (i + 5 * b)) = some (if ff (mis h r v (24 * j + i) b) 0 5 < 5 then nI 0 else nI 1) := by
  unfold f_X6_countsStandAt
  refine b_run (lp_find (fun k => nI k) (mis h r v (24 * j + i) b) 5 0 (fun _ => nI 0) (nI 1) (by omega) (by omega) rfl ?_ ?_ ?_) rfl
  · intro k _ hk hP
    have hP := Classical.not_not.mp (of_decide_eq_false hP)
    have A := x_at (v := v) (j := j) (i := i + 5 * b + k) hj (by omega)
    rw [show 24 * j + (i + 5 * b + k) = 24 * j + i + 5 * b + k by omega, hP] at A
    simp (disch := omega) only [f_X6_countsStandAt_B2, d_let, d_lef, d_ltt, d_ltf, d_eqt, d_eqf, ↓reduceIte, or_false, false_or, or_true, true_or, and_true, true_and, and_false, false_and, not_true_eq_false, not_false_eq_true, Bool.false_eq_true, Option.bind_some, q_ofNat, q_cl, q_lt, q_le, q_eq, nI_add, pk_mul, q_m1, q_m4, m1_lt, m1_le, m1_nlt, m1_nle, m1_ne, m1_ne2, m4_lt, m4_le, m4_nlt, m4_nle, m4_ne, m4_ne2, q_0, q_1, q_2, q_3, q_4, q_5, q_6, q_8, q_12, q_15, q_16, q_20, q_24, q_30, q_31, q_32, q_80, q_9, q_99, q_126, q_48, q_57, q_58, q_59, q_97, q_101, q_10, q_21, q_255, q_46656, A, hc]
  · intro k _ hk hP
    have hP := of_decide_eq_true hP
    have A := x_at (v := v) (j := j) (i := i + 5 * b + k) hj (by omega)
    rw [show 24 * j + (i + 5 * b + k) = 24 * j + i + 5 * b + k by omega] at A
    simp (disch := omega) only [f_X6_countsStandAt_B2, d_let, d_lef, d_ltt, d_ltf, d_eqt, d_eqf, ↓reduceIte, or_false, false_or, or_true, true_or, and_true, true_and, and_false, false_and, not_true_eq_false, not_false_eq_true, Bool.false_eq_true, Option.bind_some, q_ofNat, q_cl, q_lt, q_le, q_eq, nI_add, pk_mul, q_m1, q_m4, m1_lt, m1_le, m1_nlt, m1_nle, m1_ne, m1_ne2, m4_lt, m4_le, m4_nlt, m4_nle, m4_ne, m4_ne2, q_0, q_1, q_2, q_3, q_4, q_5, q_6, q_8, q_12, q_15, q_16, q_20, q_24, q_30, q_31, q_32, q_80, q_9, q_99, q_126, q_48, q_57, q_58, q_59, q_97, q_101, q_10, q_21, q_255, q_46656, A, hc, hP]
  · simp (disch := omega) only [f_X6_countsStandAt_B2, d_let, d_lef, d_ltt, d_ltf, d_eqt, d_eqf, ↓reduceIte, or_false, false_or, or_true, true_or, and_true, true_and, and_false, false_and, not_true_eq_false, not_false_eq_true, Bool.false_eq_true, Option.bind_some, q_ofNat, q_cl, q_lt, q_le, q_eq, nI_add, pk_mul, q_m1, q_m4, m1_lt, m1_le, m1_nlt, m1_nle, m1_ne, m1_ne2, m4_lt, m4_le, m4_nlt, m4_nle, m4_ne, m4_ne2, q_0, q_1, q_2, q_3, q_4, q_5, q_6, q_8, q_12, q_15, q_16, q_20, q_24, q_30, q_31, q_32, q_80, q_9, q_99, q_126, q_48, q_57, q_58, q_59, q_97, q_101, q_10, q_21, q_255, q_46656]
abbrev JuT : Type := Int32 × Int32 × Int32 × Int32 × Int32 × Int32 × (Nat → Int32) × (Nat → Int32) × (Nat → Int32)
theorem x_judge {h : Hl} (ok : hOK h) {vb : Int32} {vme vmo vdi vsi vor : Nat → Int32} (t : tX h vb vme vmo vdi vsi vor) {N : Nat} (hN : 200000 ≤ N) {r : Br} (rok : bOK r) {vab vbe vst vlo : Nat → Int32} (rr : rX r vab vbe vst vlo) {v : Nat → Int32} {j i n : Nat} (hj : j < 4) (hn : n ≤ 4) (hi : i + 5 * n ≤ 24) {s : Int32 × Int32 × Int32 × Int32 × (Nat → Int32) × (Nat → Int32) × (Nat → Int32)} (h1 : s.1 = nI 0) (h2 : cX h c0 s.2.1 s.2.2.1 s.2.2.2.1 s.2.2.2.2.1 s.2.2.2.2.2.2) :
    ∃ e : JuT, lp (fun s : Int32 × Int32 × Int32 × Int32 × (Nat → Int32) × (Nat → Int32) × (Nat → Int32) => f_X6_judge_B58 N vb vme vmo vdi vsi vor vab vbe vst vlo (wX 0) (nI 0) v (nI j) (nI i) (nI n) s.1 s.2.1 s.2.2.1 s.2.2.2.1 s.2.2.2.2.1 s.2.2.2.2.2.1 s.2.2.2.2.2.2) N s = some e ∧ e.1 = juS h r v (24 * j + i) n := by
  refine lp_rel0 (fun b (s : Int32 × Int32 × Int32 × Int32 × (Nat → Int32) × (Nat → Int32) × (Nat → Int32)) => s.1 = nI b ∧ cX h (jS h r b) s.2.1 s.2.2.1 s.2.2.2.1 s.2.2.2.2.1 s.2.2.2.2.2.2 ∧ ∀ q, q < b → jP h r v (24 * j + i) q = false) _ n (by omega) ⟨h1, h2, fun q hq => by omega⟩ ?_ ?_
  · rintro b hb s ⟨a1, a2, a3⟩
    have okj := jS_ok ok r b (by omega)
    have c1 := okj.2.2.1
    have j1 := jS_1 h r b
    have d1 := a2.1; have d3 := a2.2.2.1
    rw [j1] at d1
    by_cases c : (jS h r b).2.2.1 = 0
    · obtain ⟨u, U1, U2⟩ := x_goOn ok t hN rok rr (wt := 0) (wn := 0) (by decide) (by decide) (n := 1) (by decide) okj (vws := s.2.2.2.2.2.1) a2
      have E : goS h r 0 0 1 (jS h r b) = jS h r (b + 1) := by
        show (if (jS h r b).2.2.1 ≠ 0 ∨ 32 ≤ (jS h r b).1 then jS h r b else goS h r 0 0 0 (oneS h r 0 0 (jS h r b))) = _
        rw [if_neg (by rw [j1]; omega)]; rfl
      rw [E] at U2
      have O : f_X0_isOver s.2.1 s.2.2.2.1 = some (nI 0) := by
        unfold f_X0_isOver
        rw [d1, d3, c]
        simp (disch := omega) only [d_let, d_lef, d_ltt, d_ltf, d_eqt, d_eqf, ↓reduceIte, or_false, false_or, or_true, true_or, and_true, true_and, and_false, false_and, not_true_eq_false, not_false_eq_true, Bool.false_eq_true, Option.bind_some, q_ofNat, q_cl, q_lt, q_le, q_eq, nI_add, pk_mul, q_m1, q_m4, m1_lt, m1_le, m1_nlt, m1_nle, m1_ne, m1_ne2, m4_lt, m4_le, m4_nlt, m4_nle, m4_ne, m4_ne2, q_0, q_1, q_2, q_3, q_4, q_5, q_6, q_8, q_12, q_15, q_16, q_20, q_24, q_30, q_31, q_32, q_80, q_9, q_99, q_126, q_48, q_57, q_58, q_59, q_97, q_101, q_10, q_21, q_255, q_46656, wX_0]
      have S := x_stand hN (v := v) (i := i) (b := b) hj (by omega) U2.2.2.2.2
      by_cases d : ff (mis h r v (24 * j + i) b) 0 5 < 5
      · right
        rw [if_pos d] at S
        refine ⟨(nI b, u.1, u.2.1, u.2.2.1, wX 0, nI 0, u.2.2.2.1, u.2.2.2.2.1, u.2.2.2.2.2), ?_, ju_stop hb a3 (decide_eq_true (Or.inr d))⟩
        simp (disch := omega) only [f_X6_judge_B58, d_let, d_lef, d_ltt, d_ltf, d_eqt, d_eqf, ↓reduceIte, or_false, false_or, or_true, true_or, and_true, true_and, and_false, false_and, not_true_eq_false, not_false_eq_true, Bool.false_eq_true, Option.bind_some, q_ofNat, q_cl, q_lt, q_le, q_eq, nI_add, pk_mul, q_m1, q_m4, m1_lt, m1_le, m1_nlt, m1_nle, m1_ne, m1_ne2, m4_lt, m4_le, m4_nlt, m4_nle, m4_ne, m4_ne2, q_0, q_1, q_2, q_3, q_4, q_5, q_6, q_8, q_12, q_15, q_16, q_20, q_24, q_30, q_31, q_32, q_80, q_9, q_99, q_126, q_48, q_57, q_58, q_59, q_97, q_101, q_10, q_21, q_255, q_46656, a1, O, U1, S]
      · left
        rw [if_neg d] at S
        refine ⟨(nI (b + 1), u.1, u.2.1, u.2.2.1, u.2.2.2.1, u.2.2.2.2.1, u.2.2.2.2.2), ?_, rfl, U2, fun q hq => ?_⟩
        · simp (disch := omega) only [f_X6_judge_B58, d_let, d_lef, d_ltt, d_ltf, d_eqt, d_eqf, ↓reduceIte, or_false, false_or, or_true, true_or, and_true, true_and, and_false, false_and, not_true_eq_false, not_false_eq_true, Bool.false_eq_true, Option.bind_some, q_ofNat, q_cl, q_lt, q_le, q_eq, nI_add, pk_mul, q_m1, q_m4, m1_lt, m1_le, m1_nlt, m1_nle, m1_ne, m1_ne2, m4_lt, m4_le, m4_nlt, m4_nle, m4_ne, m4_ne2, q_0, q_1, q_2, q_3, q_4, q_5, q_6, q_8, q_12, q_15, q_16, q_20, q_24, q_30, q_31, q_32, q_80, q_9, q_99, q_126, q_48, q_57, q_58, q_59, q_97, q_101, q_10, q_21, q_255, q_46656, a1, O, U1, S]
        · by_cases e : q = b
          · subst e; exact decide_eq_false (fun z => z.elim (fun y => y c) d)
          · exact a3 q (by omega)
    · right
      have O : f_X0_isOver s.2.1 s.2.2.2.1 = some (nI 1) := by
        unfold f_X0_isOver
        rw [d1, d3]
        simp (disch := omega) only [d_let, d_lef, d_ltt, d_ltf, d_eqt, d_eqf, ↓reduceIte, or_false, false_or, or_true, true_or, and_true, true_and, and_false, false_and, not_true_eq_false, not_false_eq_true, Bool.false_eq_true, Option.bind_some, q_ofNat, q_cl, q_lt, q_le, q_eq, nI_add, pk_mul, q_m1, q_m4, m1_lt, m1_le, m1_nlt, m1_nle, m1_ne, m1_ne2, m4_lt, m4_le, m4_nlt, m4_nle, m4_ne, m4_ne2, q_0, q_1, q_2, q_3, q_4, q_5, q_6, q_8, q_12, q_15, q_16, q_20, q_24, q_30, q_31, q_32, q_80, q_9, q_99, q_126, q_48, q_57, q_58, q_59, q_97, q_101, q_10, q_21, q_255, q_46656, q_wXm]
      refine ⟨(nI b, s.2.1, s.2.2.1, s.2.2.2.1, wX 0, nI 0, s.2.2.2.2.1, s.2.2.2.2.2.1, s.2.2.2.2.2.2), ?_, ju_stop hb a3 (decide_eq_true (Or.inl c))⟩
      simp (disch := omega) only [f_X6_judge_B58, d_let, d_lef, d_ltt, d_ltf, d_eqt, d_eqf, ↓reduceIte, or_false, false_or, or_true, true_or, and_true, true_and, and_false, false_and, not_true_eq_false, not_false_eq_true, Bool.false_eq_true, Option.bind_some, q_ofNat, q_cl, q_lt, q_le, q_eq, nI_add, pk_mul, q_m1, q_m4, m1_lt, m1_le, m1_nlt, m1_nle, m1_ne, m1_ne2, m4_lt, m4_le, m4_nlt, m4_nle, m4_ne, m4_ne2, q_0, q_1, q_2, q_3, q_4, q_5, q_6, q_8, q_12, q_15, q_16, q_20, q_24, q_30, q_31, q_32, q_80, q_9, q_99, q_126, q_48, q_57, q_58, q_59, q_97, q_101, q_10, q_21, q_255, q_46656, a1, O]
  · rintro s ⟨a1, a2, a3⟩
    refine ⟨(m4, s.2.1, s.2.2.1, s.2.2.2.1, wX 0, nI 0, s.2.2.2.2.1, s.2.2.2.2.2.1, s.2.2.2.2.2.2), ?_, ju_end a3⟩
    simp (disch := omega) only [f_X6_judge_B58, d_let, d_lef, d_ltt, d_ltf, d_eqt, d_eqf, ↓reduceIte, or_false, false_or, or_true, true_or, and_true, true_and, and_false, false_and, not_true_eq_false, not_false_eq_true, Bool.false_eq_true, Option.bind_some, q_ofNat, q_cl, q_lt, q_le, q_eq, nI_add, pk_mul, q_m1, q_m4, m1_lt, m1_le, m1_nlt, m1_nle, m1_ne, m1_ne2, m4_lt, m4_le, m4_nlt, m4_nle, m4_ne, m4_ne2, q_0, q_1, q_2, q_3, q_4, q_5, q_6, q_8, q_12, q_15, q_16, q_20, q_24, q_30, q_31, q_32, q_80, q_9, q_99, q_126, q_48, q_57, q_58, q_59, q_97, q_101, q_10, q_21, q_255, q_46656, a1]
abbrev JmT : Type := Int32 × (Nat → Int32) × (Nat → Int32) × (Nat → Int32) × Int32 × Int32
theorem m_stand {h : Hl} {r : Br} {N : Nat} (hN : 200000 ≤ N) {v vc c1 c2 : Nat → Int32} {x1 x2 : Int32} {a b : Nat} (hi : a + 5 * b + 5 ≤ 96) (hc : ∀ k, k < 5 → vc k = nI (cn h (jS h r (b + 1)).2.2.2 k)) : lp (fun s => f_X7_judge_B106 x1 x2 c1 c2 vc v (nI b) (nI a) s) N (0 : Int32) = some (if ff (mis h r v a b) 0 5 < 5 then .inr (nI b, c1, c2, vc, x1, x2) else .inl (nI 5)) := by
  refine lp_find (fun k => nI k) (mis h r v a b) 5 0 (fun _ => Sum.inr (nI b, c1, c2, vc, x1, x2)) (Sum.inl (nI 5)) (by omega) (by omega) rfl ?_ ?_ ?_
  · intro k _ hk hP
    have hP := Classical.not_not.mp (of_decide_eq_false hP)
    simp (disch := omega) only [f_X7_judge_B106, d_let, d_lef, d_ltt, d_ltf, d_eqt, d_eqf, ↓reduceIte, or_false, false_or, or_true, true_or, and_true, true_and, and_false, false_and, not_true_eq_false, not_false_eq_true, Bool.false_eq_true, Option.bind_some, q_ofNat, q_cl, q_lt, q_le, q_eq, nI_add, pk_mul, q_m1, q_m4, m1_lt, m1_le, m1_nlt, m1_nle, m1_ne, m1_ne2, m4_lt, m4_le, m4_nlt, m4_nle, m4_ne, m4_ne2, q_0, q_1, q_2, q_3, q_4, q_5, q_6, q_8, q_12, q_15, q_16, q_20, q_24, q_30, q_31, q_32, q_80, q_9, q_99, q_126, q_48, q_57, q_58, q_59, q_97, q_101, q_10, q_21, q_255, q_46656, hP, hc]
  · intro k _ hk hP
    have hP := of_decide_eq_true hP
    simp (disch := omega) only [f_X7_judge_B106, d_let, d_lef, d_ltt, d_ltf, d_eqt, d_eqf, ↓reduceIte, or_false, false_or, or_true, true_or, and_true, true_and, and_false, false_and, not_true_eq_false, not_false_eq_true, Bool.false_eq_true, Option.bind_some, q_ofNat, q_cl, q_lt, q_le, q_eq, nI_add, pk_mul, q_m1, q_m4, m1_lt, m1_le, m1_nlt, m1_nle, m1_ne, m1_ne2, m4_lt, m4_le, m4_nlt, m4_nle, m4_ne, m4_ne2, q_0, q_1, q_2, q_3, q_4, q_5, q_6, q_8, q_12, q_15, q_16, q_20, q_24, q_30, q_31, q_32, q_80, q_9, q_99, q_126, q_48, q_57, q_58, q_59, q_97, q_101, q_10, q_21, q_255, q_46656, hc, hP]
  · simp (disch := omega) only [f_X7_judge_B106, d_let, d_lef, d_ltt, d_ltf, d_eqt, d_eqf, ↓reduceIte, or_false, false_or, or_true, true_or, and_true, true_and, and_false, false_and, not_true_eq_false, not_false_eq_true, Bool.false_eq_true, Option.bind_some, q_ofNat, q_cl, q_lt, q_le, q_eq, nI_add, pk_mul, q_m1, q_m4, m1_lt, m1_le, m1_nlt, m1_nle, m1_ne, m1_ne2, m4_lt, m4_le, m4_nlt, m4_nle, m4_ne, m4_ne2, q_0, q_1, q_2, q_3, q_4, q_5, q_6, q_8, q_12, q_15, q_16, q_20, q_24, q_30, q_31, q_32, q_80, q_9, q_99, q_126, q_48, q_57, q_58, q_59, q_97, q_101, q_10, q_21, q_255, q_46656]
theorem m_judge {h : Hl} (ok : hOK h) {vb : Int32} {vme vmo vdi vsi vor : Nat → Int32} (t : tX h vb vme vmo vdi vsi vor) {N : Nat} (hN : 200000 ≤ N) {r : Br} (rok : bOK r) {vab vbe vst vlo : Nat → Int32} (rr : rX r vab vbe vst vlo) {mw mn mt tb : Int32} (W3 : mw = wM 0) (W4 : ∃ k, k < 1000 ∧ mn = nI k) (W5 : mt = nI 0) {v : Nat → Int32} {a n : Nat} (hn : n ≤ 4) (hi : a + 5 * n ≤ 96) {s : Int32 × Int32 × (Nat → Int32) × (Nat → Int32) × (Nat → Int32) × Int32 × Int32} (h1 : s.1 = nI 0) (h2 : s.2.1 = nI 0) (h3 : ∀ b, b < 6 → s.2.2.1 b = wM 0) (h4 : s.2.2.2.2.2.1 = nI 0) :
    ∃ e : JmT, lp (fun s : Int32 × Int32 × (Nat → Int32) × (Nat → Int32) × (Nat → Int32) × Int32 × Int32 => f_X7_judge_B72 N vb mw mn mt tb vme vmo vdi vsi vor vab vbe vst vlo v (nI n) (nI a) s.1 s.2.1 s.2.2.1 s.2.2.2.1 s.2.2.2.2.1 s.2.2.2.2.2.1 s.2.2.2.2.2.2) N s = some e ∧ e.1 = juS h r v a n := by
  obtain ⟨wk, hwk, rfl⟩ := W4
  subst W3 W5
  have hone : ∀ s, oneS h r 0 wk s = oneS h r 0 0 s := fun s => by
    have : mdS 0 wk s.1 = mdS 0 0 s.1 := funext fun b => by unfold mdS; rw [show fmS 0 wk b = 0 from if_neg (by omega), show fmS 0 0 b = 0 from if_neg (by omega)]
    unfold oneS; rw [this]
  refine lp_rel0 (fun b s => s.1 = (if (jS h r b).2.2.1 = 0 then nI 0 else nI 1) ∧ s.2.1 = nI b ∧ (∀ q, q < 6 → s.2.2.1 q = wM ((jS h r b).2.2.2 q)) ∧ s.2.2.2.2.2.1 = nI (jS h r b).2.1 ∧ ∀ q, q < b → jP h r v a q = false) _ n (by omega) ⟨h1, h2, h3, h4, fun q hq => by omega⟩ ?_ ?_
  · rintro b hb s ⟨a1, a2, a3, a4, a5⟩
    have okj := jS_ok ok r b (by omega)
    have j1 := jS_1 h r b
    by_cases c : (jS h r b).2.2.1 = 0
    · rw [if_pos c] at a1
      obtain ⟨vw', vth', vc', G1, G2, G3, G4⟩ := m_go1 ok t hN rok rr (wt := 0) (wn := wk) (by omega) hwk okj (by rw [j1]; omega) (tb := tb) (vth := s.2.2.2.1) (vc := s.2.2.2.2.1) a3
      rw [hone] at G1 G2 G3 G4
      rw [j1] at G1 G4
      have c1 := (jS_ok ok r (b + 1) (by omega)).2.2.1
      have S := m_stand hN (h := h) (r := r) (v := v) (vc := vc') (c1 := vw') (c2 := vth') (x1 := nI (oneS h r 0 0 (jS h r b)).2.1) (x2 := nI 0) (a := a) (b := b) (by omega) G3
      have K : f_X7_judge_B72 N vb (wM 0) (nI wk) (nI 0) tb vme vmo vdi vsi vor vab vbe vst vlo v (nI n) (nI a) s.1 s.2.1 s.2.2.1 s.2.2.2.1 s.2.2.2.2.1 s.2.2.2.2.2.1 s.2.2.2.2.2.2 = f_X7_judge_L100 N vb (nI (jS h r b).2.1) (wM 0) (nI wk) (nI 0) tb vme vmo vdi vsi vor vab vbe vst vlo s.2.2.1 s.2.2.2.1 s.2.2.2.2.1 v (nI b) (nI a) (nI (if b = 0 then 1 else 0)) (nI b) := by
        by_cases b0 : b = 0
        · simp (disch := omega) only [f_X7_judge_B72, d_let, d_lef, d_ltt, d_ltf, d_eqt, d_eqf, ↓reduceIte, or_false, false_or, or_true, true_or, and_true, true_and, and_false, false_and, not_true_eq_false, not_false_eq_true, Bool.false_eq_true, Option.bind_some, q_ofNat, q_cl, q_lt, q_le, q_eq, nI_add, pk_mul, q_m1, q_m4, m1_lt, m1_le, m1_nlt, m1_nle, m1_ne, m1_ne2, m4_lt, m4_le, m4_nlt, m4_nle, m4_ne, m4_ne2, q_0, q_1, q_2, q_3, q_4, q_5, q_6, q_8, q_12, q_15, q_16, q_20, q_24, q_30, q_31, q_32, q_80, q_9, q_99, q_126, q_48, q_57, q_58, q_59, q_97, q_101, q_10, q_21, q_255, q_46656, a1, a2, a4]
        · simp (disch := omega) only [f_X7_judge_B72, d_let, d_lef, d_ltt, d_ltf, d_eqt, d_eqf, ↓reduceIte, or_false, false_or, or_true, true_or, and_true, true_and, and_false, false_and, not_true_eq_false, not_false_eq_true, Bool.false_eq_true, Option.bind_some, q_ofNat, q_cl, q_lt, q_le, q_eq, nI_add, pk_mul, q_m1, q_m4, m1_lt, m1_le, m1_nlt, m1_nle, m1_ne, m1_ne2, m4_lt, m4_le, m4_nlt, m4_nle, m4_ne, m4_ne2, q_0, q_1, q_2, q_3, q_4, q_5, q_6, q_8, q_12, q_15, q_16, q_20, q_24, q_30, q_31, q_32, q_80, q_9, q_99, q_126, q_48, q_57, q_58, q_59, q_97, q_101, q_10, q_21, q_255, q_46656, a1, a2, a4]
      rw [K]
      unfold f_X7_judge_L100
      rw [G1, Option.bind_some, S, Option.bind_some]
      by_cases d : ff (mis h r v a b) 0 5 < 5
      · right
        rw [if_pos d]
        exact ⟨_, rfl, ju_stop hb a5 (decide_eq_true (Or.inr d))⟩
      · left
        rw [if_neg d]
        show ∃ s', ((f_X7_chosenIn N vb vme vab vbe vc' (nI b)).bind _) = _ ∧ _
        rw [G4, Option.bind_some]
        have PP : ∀ q, q < b + 1 → jP h r v a q = false := fun q hq => by
          by_cases e : q = b
          · subst e; exact decide_eq_false (fun z => z.elim (fun y => y c) d)
          · exact a5 q (by omega)
        have e1 : (oneS h r 0 0 (jS h r b)) = jS h r (b + 1) := rfl
        rw [e1] at *
        by_cases f : (jS h r (b + 1)).2.2.1 = 0
        · rw [if_pos (by rw [q_0, q_wMl (by omega)]; exact f)]
          refine ⟨(nI 0, nI (b + 1), vw', vth', vc', nI (jS h r (b + 1)).2.1, nI 0), ?_, ?_, rfl, G2, rfl, PP⟩
          · unfold f_X7_judge_L160; rw [nI_1]; rfl
          · rw [if_pos f]
        · rw [if_neg (by rw [q_0, q_wMl (by omega)]; exact f)]
          refine ⟨(nI 1, nI (b + 1), vw', vth', vc', nI (jS h r (b + 1)).2.1, nI 0), ?_, ?_, rfl, G2, rfl, PP⟩
          · unfold f_X7_judge_L160; rw [nI_1]; rfl
          · rw [if_neg f]
    · right
      rw [if_neg c] at a1
      refine ⟨(nI b, s.2.2.1, s.2.2.2.1, s.2.2.2.2.1, s.2.2.2.2.2.1, s.2.2.2.2.2.2), ?_, ju_stop hb a5 (decide_eq_true (Or.inl c))⟩
      simp (disch := omega) only [f_X7_judge_B72, d_let, d_lef, d_ltt, d_ltf, d_eqt, d_eqf, ↓reduceIte, or_false, false_or, or_true, true_or, and_true, true_and, and_false, false_and, not_true_eq_false, not_false_eq_true, Bool.false_eq_true, Option.bind_some, q_ofNat, q_cl, q_lt, q_le, q_eq, nI_add, pk_mul, q_m1, q_m4, m1_lt, m1_le, m1_nlt, m1_nle, m1_ne, m1_ne2, m4_lt, m4_le, m4_nlt, m4_nle, m4_ne, m4_ne2, q_0, q_1, q_2, q_3, q_4, q_5, q_6, q_8, q_12, q_15, q_16, q_20, q_24, q_30, q_31, q_32, q_80, q_9, q_99, q_126, q_48, q_57, q_58, q_59, q_97, q_101, q_10, q_21, q_255, q_46656, a1, a2]
  · rintro s ⟨a1, a2, a3, a4, a5⟩
    refine ⟨(m4, s.2.2.1, s.2.2.2.1, s.2.2.2.2.1, s.2.2.2.2.2.1, s.2.2.2.2.2.2), ?_, ju_end a5⟩
    simp (disch := omega) only [f_X7_judge_B72, d_let, d_lef, d_ltt, d_ltf, d_eqt, d_eqf, ↓reduceIte, or_false, false_or, or_true, true_or, and_true, true_and, and_false, false_and, not_true_eq_false, not_false_eq_true, Bool.false_eq_true, Option.bind_some, q_ofNat, q_cl, q_lt, q_le, q_eq, nI_add, pk_mul, q_m1, q_m4, m1_lt, m1_le, m1_nlt, m1_nle, m1_ne, m1_ne2, m4_lt, m4_le, m4_nlt, m4_nle, m4_ne, m4_ne2, q_0, q_1, q_2, q_3, q_4, q_5, q_6, q_8, q_12, q_15, q_16, q_20, q_24, q_30, q_31, q_32, q_80, q_9, q_99, q_126, q_48, q_57, q_58, q_59, q_97, q_101, q_10, q_21, q_255, q_46656, a2]
theorem juS_eq {h : Hl} {r : Br} {v w : Nat → Int32} (q : ∀ i, i < 96 → w i = v i) {a n : Nat} (hn : a + 5 * n ≤ 96) : juS h r w a n = juS h r v a n := by
  have : ff (jP h r w a) 0 n = ff (jP h r v a) 0 n := ff_congr n 0 (fun b _ hb => by
    have : ff (mis h r w a b) 0 5 = ff (mis h r v a b) 0 5 := ff_congr 5 0 (fun k _ hk => by unfold mis; rw [q (a + 5 * b + k) (by omega)])
    unfold jP; rw [this])
  unfold juS; rw [this]
theorem ok_judge {N : Nat} (hN : 200000 ≤ N) : st_judge N Rel := by
  unfold st_judge
  intro vx_kept vx_tape_length vx_tape_at vx_tape_lotBlocks vx_tape_bytes vx_tape_digitPlaces vx_told_blocks vx_told_members vx_told_moves vx_told_digits vx_told_sizes vx_told_orders vx_told_above vx_told_below vx_told_struck vx_told_lots vx_course_ballots vx_course_used vx_course_chosen vx_course_waiter vx_course_wait vx_course_wrote vx_course_writes vx_course_counts vx_keptTold_blocks vx_keptTold_members vx_keptTold_moves vx_keptTold_digits vx_keptTold_sizes vx_keptTold_orders vx_keptTold_above vx_keptTold_below vx_keptTold_struck vx_keptTold_lots vx_keptCourse_ballots vx_keptCourse_used vx_keptCourse_chosen vx_keptCourse_waiter vx_keptCourse_wait vx_keptCourse_wrote vx_keptCourse_writes vx_keptCourse_counts vx_trialTold_blocks vx_trialTold_members vx_trialTold_moves vx_trialTold_digits vx_trialTold_sizes vx_trialTold_orders vx_trialTold_above vx_trialTold_below vx_trialTold_struck vx_trialTold_lots vx_trial_ballots vx_trial_used vx_trial_chosen vx_trial_waiter vx_trial_wait vx_trial_wrote vx_trial_writes vx_trial_counts vx_odds_above vx_odds_below vx_odds_now_size nx_odds_now_states vx_odds_now_states nx_odds_now_weights vx_odds_now_weights nx_odds_now_slots vx_odds_now_slots vx_odds_then_size nx_odds_then_states vx_odds_then_states nx_odds_then_weights vx_odds_then_weights nx_odds_then_slots vx_odds_then_slots vx_odds_trial_ballots vx_odds_trial_used vx_odds_trial_chosen vx_odds_trial_waiter vx_odds_trial_wait vx_odds_trial_wrote vx_odds_trial_writes vx_odds_trial_counts vx_sheets_lanes vx_sheets_sizes vx_sheets_items vm_blocks vm_done vm_used vm_taken vm_taped vm_at vm_readBlocks vm_copyUsed vm_waiter vm_waiting vm_isTold vm_toldBits vm_toldAt vm_endName vm_endBallot vm_isKept vm_imageAt vm_members vm_moves vm_digits vm_sizes vm_orders vm_above vm_below vm_struck vm_lotted vm_wrote vm_tape vm_readMembers vm_readMoves vm_readDigits vm_readSizes vm_readOrders vm_digitPlaces vm_copy vm_then vm_counts vm_ways vm_more vm_image vm_singles vm_lanes vm_rowSizes vm_items y0 y1 y2 y3 hR
  obtain ⟨RB, RK, RT, RS, RO, RW⟩ := Rel_out hR
  obtain ⟨h, r, s, ok, rok, sok, tx, rx, cx, tm, td, rm, cm⟩ := RB
  have h6 := ok.1
  have e1 := tx.1; have e2 := tm.1
  have RB' : RelB vx_told_blocks vx_told_members vx_told_moves vx_told_digits vx_told_sizes vx_told_orders vx_told_above vx_told_below vx_told_struck vx_told_lots vx_course_ballots vx_course_used vx_course_chosen vx_course_wrote vx_course_counts vm_blocks vm_done vm_used vm_taken vm_members vm_moves vm_digits vm_sizes vm_orders vm_above vm_below vm_struck vm_lotted vm_wrote := ⟨h, r, s, ok, rok, sok, tx, rx, cx, tm, td, rm, cm⟩
  obtain ⟨S1, S2⟩ := RS
  have NR : RelS vx_sheets_lanes vx_sheets_sizes vx_sheets_items vm_lanes vm_rowSizes vm_items := ⟨S1, S2⟩
  rcases arg y3 1 4 with hy | hy | ⟨n, hn1, hn2, rfl⟩
  · refine ⟨(-1, vx_trial_ballots, vx_trial_used, vx_trial_chosen, vx_trial_waiter, vx_trial_wait, vx_trial_wrote, vx_trial_writes, vx_trial_counts), (-1, vm_copy, vm_then, vm_counts, vm_copyUsed, vm_toldAt), ?_, ?_, rfl, Rel_in RB' RK RT NR RO RW⟩
    · unfold f_X6_judge; rw [if_pos (by rw [q_1, i_lt (by omega)]; omega)]
    · unfold f_X7_judge
      rcases row_ref S1 y0 y1 y2 (n := 1) (by decide) with ⟨_, A2⟩ | ⟨j, l, hj, hl, rfl, rfl, A3, _⟩
      · rw [A2]; rfl
      · rw [A3, Option.bind_some, if_neg (by decide), mi_1_4, if_neg (by omega)]; rfl
  · refine ⟨(-1, vx_trial_ballots, vx_trial_used, vx_trial_chosen, vx_trial_waiter, vx_trial_wait, vx_trial_wrote, vx_trial_writes, vx_trial_counts), (-1, vm_copy, vm_then, vm_counts, vm_copyUsed, vm_toldAt), ?_, ?_, rfl, Rel_in RB' RK RT NR RO RW⟩
    · unfold f_X6_judge; rw [if_neg (by rw [q_1, i_lt (by omega)]; omega), if_neg (by rw [q_4, i_le (by omega)]; omega)]
    · unfold f_X7_judge
      rcases row_ref S1 y0 y1 y2 (n := 1) (by decide) with ⟨_, A2⟩ | ⟨j, l, hj, hl, rfl, rfl, A3, _⟩
      · rw [A2]; rfl
      · rw [A3, Option.bind_some, if_neg (by decide), mi_1_4, if_neg (by omega)]; rfl
  · have g1 : ¬ nI n < 1 := by rw [q_1, q_lt (by omega) (by omega)]; omega
    have g2 : nI n ≤ 4 := by rw [q_4, q_le (by omega) (by omega)]; omega
    have g5 : (5 : Int32) * nI n = nI (5 * n) := by rw [q_5, pk_mul]
    have gi : f_X7_in (nI n).toInt64 1 4 = some (nI 1) := by rw [mi_1_4, if_pos (by rw [nI_toInt (by omega)]; omega)]
    rcases row_ref S1 y0 y1 y2 (n := 5 * n) (by omega) with ⟨A1, A2⟩ | ⟨j, l, hj, hl, rfl, rfl, A3, ⟨z, Z0, Z1, Z2⟩ | ⟨i, k, rfl, f1, f2, f3, f4, A1, A2⟩⟩
    · refine ⟨(m1, vx_trial_ballots, vx_trial_used, vx_trial_chosen, vx_trial_waiter, vx_trial_wait, vx_trial_wrote, vx_trial_writes, vx_trial_counts), (-1, vm_copy, vm_then, vm_counts, vm_copyUsed, vm_toldAt), ?_, ?_, rfl, Rel_in RB' RK RT NR RO RW⟩
      · unfold f_X6_judge; rw [if_neg g1, if_pos g2, g5, A1, Option.bind_some, if_neg (by decide)]
      · unfold f_X7_judge; rw [A2]; rfl
    · refine ⟨(z, vx_trial_ballots, vx_trial_used, vx_trial_chosen, vx_trial_waiter, vx_trial_wait, vx_trial_wrote, vx_trial_writes, vx_trial_counts), (z, vm_copy, vm_then, vm_counts, vm_copyUsed, vm_toldAt), ?_, ?_, rfl, Rel_in RB' RK RT NR RO RW⟩
      · unfold f_X6_judge; rw [if_neg g1, if_pos g2, g5, Z1, Option.bind_some, if_neg Z0.1]
      · unfold f_X7_judge; rw [A3, Option.bind_some, if_neg (by decide), gi, Option.bind_some, if_neg (by decide), g5, Z2, Option.bind_some, if_neg Z0.2]
    · by_cases h0 : hB h = 0
      · refine ⟨(-2, vx_trial_ballots, vx_trial_used, vx_trial_chosen, vx_trial_waiter, vx_trial_wait, vx_trial_wrote, vx_trial_writes, vx_trial_counts), (-2, vm_copy, vm_then, vm_counts, vm_copyUsed, vm_toldAt), ?_, ?_, rfl, Rel_in RB' RK RT NR RO RW⟩
        · unfold f_X6_judge
          rw [if_neg g1, if_pos g2, g5, A1, Option.bind_some, if_pos (show nI 0 = 0 from rfl), show f_X6_isEmpty vx_told_blocks = some (nI 1) by rw [e1, e_empty h6, if_pos h0], Option.bind_some, if_neg (by decide)]
        · unfold f_X7_judge
          rw [A3, Option.bind_some, if_neg (by decide), gi, Option.bind_some, if_neg (by decide), g5, A2, Option.bind_some, if_pos (by decide), if_pos (by rw [e2, h0]; rfl)]
      · obtain ⟨vw', vc', R1, R2⟩ := x_restart hN h vx_trial_wrote vx_trial_counts
        obtain ⟨e, E1, E2⟩ := x_judge ok tx hN rok rx (v := vx_sheets_items) (j := j) (i := i) (n := n) hj hn2 (by omega) (s := ((0 : Int32), nI 0, nI 0, wX 0, vw', vx_trial_writes, vc')) rfl R2
        obtain ⟨w, T1, T2⟩ := m_takeNone hN vm_copy
        obtain ⟨m, M1, M2⟩ := m_judge ok tm hN rok rm (tb := vm_toldBits) RW.2.2.1 RW.2.2.2.1 RW.2.2.2.2 (v := vm_items) (a := 24 * j + i) (n := n) hn2 (by omega) (s := ((0 : Int32), (0 : Int32), w, vm_then, vm_counts, nI 0, vm_toldAt)) rfl rfl T2 rfl
        have hidx : (24 : Int32) * nI j + nI i = nI (24 * j + i) := by rw [q_24, pk_mul, nI_add]
        refine ⟨e, m, ?_, ?_, by rw [E2, M2, juS_eq S2 (by omega)], Rel_in RB' RK RT NR RO RW⟩
        · unfold f_X6_judge
          rw [if_neg g1, if_pos g2, g5, A1, Option.bind_some, if_pos (show nI 0 = 0 from rfl), show f_X6_isEmpty vx_told_blocks = some (nI 0) by rw [e1, e_empty h6, if_neg h0], Option.bind_some, if_pos (show nI 0 = 0 from rfl), R1, Option.bind_some]
          exact b_run E1 rfl
        · unfold f_X7_judge
          rw [A3, Option.bind_some, if_neg (by decide), gi, Option.bind_some, if_neg (by decide), g5, A2, Option.bind_some, if_pos (by decide), if_neg (by rw [e2]; exact nI_ne0 (by omega) (by omega)), T1, Option.bind_some, hidx]
          exact b_run M1 rfl
