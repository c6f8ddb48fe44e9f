-- what is told: the class's own
theorem x_place {h : Hl} (ok : hOK h) {vb : Int32} {vme vmo vdi vsi vor : Nat → Int32} (t : tX h vb vme vmo vdi vsi vor) {N : Nat} (hN : 200000 ≤ N) {b k : Nat} (hb : b < hB h) (hk : k < 5) : f_X5_place N vsi vor (nI b) (nI k) = some (if pl h b k < hSiz h b then nI (pl h b k) else m1) := by
  have h6 := ok.1
  obtain ⟨_, _, _, e4, e5⟩ := t.2 b hb
  obtain ⟨_, _, _, o4, o5, o6, _⟩ := ok.2.1 b hb
  unfold f_X5_place
  refine b_run (lp_find (fun i => nI i) (fun i => decide (hOrd h b i = k)) (hSiz h b) 0 (fun i => nI i) m1 (by omega) (by omega) rfl ?_ ?_ ?_) ?_
  · intro i _ hi hP
    have hP := of_decide_eq_false hP
    have := e5 i hi; have := o6 i hi
    simp (disch := omega) only [f_X5_place_B7, d_let, d_lef, d_ltt, d_ltf, d_eqt, d_eqf, ↓reduceIte, or_false, false_or, or_true, true_or, and_true, true_and, and_false, false_and, not_true_eq_false, not_false_eq_true, Bool.false_eq_true, Option.bind_some, q_ofNat, q_cl, q_lt, q_le, q_eq, nI_add, pk_mul, q_m1, q_m4, m1_lt, m1_le, m1_nlt, m1_nle, m1_ne, m1_ne2, m4_lt, m4_le, m4_nlt, m4_nle, m4_ne, m4_ne2, q_0, q_1, q_2, q_3, q_4, q_5, q_6, q_8, q_12, q_15, q_16, q_20, q_24, q_30, q_31, q_32, q_80, q_9, q_99, q_126, q_48, q_57, q_58, q_59, q_97, q_101, q_10, q_21, q_255, q_46656, e4, Nat.mul_comm b 5, e5 i hi]
  · intro i _ hi hP
    have hP := of_decide_eq_true hP
    have := e5 i hi; have := o6 i hi
    simp (disch := omega) only [f_X5_place_B7, d_let, d_lef, d_ltt, d_ltf, d_eqt, d_eqf, ↓reduceIte, or_false, false_or, or_true, true_or, and_true, true_and, and_false, false_and, not_true_eq_false, not_false_eq_true, Bool.false_eq_true, Option.bind_some, q_ofNat, q_cl, q_lt, q_le, q_eq, nI_add, pk_mul, q_m1, q_m4, m1_lt, m1_le, m1_nlt, m1_nle, m1_ne, m1_ne2, m4_lt, m4_le, m4_nlt, m4_nle, m4_ne, m4_ne2, q_0, q_1, q_2, q_3, q_4, q_5, q_6, q_8, q_12, q_15, q_16, q_20, q_24, q_30, q_31, q_32, q_80, q_9, q_99, q_126, q_48, q_57, q_58, q_59, q_97, q_101, q_10, q_21, q_255, q_46656, e4, Nat.mul_comm b 5, e5 i hi]
  · simp (disch := omega) only [f_X5_place_B7, d_let, d_lef, d_ltt, d_ltf, d_eqt, d_eqf, ↓reduceIte, or_false, false_or, or_true, true_or, and_true, true_and, and_false, false_and, not_true_eq_false, not_false_eq_true, Bool.false_eq_true, Option.bind_some, q_ofNat, q_cl, q_lt, q_le, q_eq, nI_add, pk_mul, q_m1, q_m4, m1_lt, m1_le, m1_nlt, m1_nle, m1_ne, m1_ne2, m4_lt, m4_le, m4_nlt, m4_nle, m4_ne, m4_ne2, q_0, q_1, q_2, q_3, q_4, q_5, q_6, q_8, q_12, q_15, q_16, q_20, q_24, q_30, q_31, q_32, q_80, q_9, q_99, q_126, q_48, q_57, q_58, q_59, q_97, q_101, q_10, q_21, q_255, q_46656, e4]
  · rfl
theorem x_placeN {h : Hl} (ok : hOK h) {vb : Int32} {vme vmo vdi vsi vor : Nat → Int32} (t : tX h vb vme vmo vdi vsi vor) {N : Nat} (hN : 200000 ≤ N) {b : Nat} (hb : b < hB h) : f_X5_place N vsi vor (nI b) m1 = some m1 := by
  have h6 := ok.1
  obtain ⟨_, _, _, e4, e5⟩ := t.2 b hb
  obtain ⟨_, _, _, o4, o5, o6, _⟩ := ok.2.1 b hb
  unfold f_X5_place
  refine b_run (lp_for (fun i => nI i) (hSiz h b) (by omega) rfl (r := m1) ?_ ?_) ?_
  · intro i hi
    have := e5 i hi; have := o6 i hi
    simp (disch := omega) only [f_X5_place_B7, d_let, d_lef, d_ltt, d_ltf, d_eqt, d_eqf, ↓reduceIte, or_false, false_or, or_true, true_or, and_true, true_and, and_false, false_and, not_true_eq_false, not_false_eq_true, Bool.false_eq_true, Option.bind_some, q_ofNat, q_cl, q_lt, q_le, q_eq, nI_add, pk_mul, q_m1, q_m4, m1_lt, m1_le, m1_nlt, m1_nle, m1_ne, m1_ne2, m4_lt, m4_le, m4_nlt, m4_nle, m4_ne, m4_ne2, q_0, q_1, q_2, q_3, q_4, q_5, q_6, q_8, q_12, q_15, q_16, q_20, q_24, q_30, q_31, q_32, q_80, q_9, q_99, q_126, q_48, q_57, q_58, q_59, q_97, q_101, q_10, q_21, q_255, q_46656, e4, Nat.mul_comm b 5, e5 i hi]
  · simp (disch := omega) only [f_X5_place_B7, d_let, d_lef, d_ltt, d_ltf, d_eqt, d_eqf, ↓reduceIte, or_false, false_or, or_true, true_or, and_true, true_and, and_false, false_and, not_true_eq_false, not_false_eq_true, Bool.false_eq_true, Option.bind_some, q_ofNat, q_cl, q_lt, q_le, q_eq, nI_add, pk_mul, q_m1, q_m4, m1_lt, m1_le, m1_nlt, m1_nle, m1_ne, m1_ne2, m4_lt, m4_le, m4_nlt, m4_nle, m4_ne, m4_ne2, q_0, q_1, q_2, q_3, q_4, q_5, q_6, q_8, q_12, q_15, q_16, q_20, q_24, q_30, q_31, q_32, q_80, q_9, q_99, q_126, q_48, q_57, q_58, q_59, q_97, q_101, q_10, q_21, q_255, q_46656, e4]
  · rfl
theorem x_first {h : Hl} (ok : hOK h) {vb : Int32} {vme vmo vdi vsi vor : Nat → Int32} (t : tX h vb vme vmo vdi vsi vor) {N : Nat} (hN : 200000 ≤ N) {b i0 : Nat} {al : Nat → Bool} (hb : b < hB h) (hi0 : i0 ≤ hSiz h b) : f_X5_firstAlive N vsi vor (nI b) (nI i0) (nI (bs al 5)) = some (wX (fa h al b i0)) := by
  have h6 := ok.1
  obtain ⟨_, _, _, e4, e5⟩ := t.2 b hb
  obtain ⟨_, _, _, o4, o5, o6, _⟩ := ok.2.1 b hb
  unfold f_X5_firstAlive
  refine b_run (lp_find (fun i => nI i) (fun i => al (hOrd h b i)) (hSiz h b) i0 (fun i => .inl (nI i)) (.inr m1) (by omega) (by omega) rfl ?_ ?_ ?_) ?_
  · intro i _ hi hP
    have := e5 i hi; have := o6 i hi
    simp (disch := omega) only [f_X5_firstAlive_B8, d_let, d_lef, d_ltt, d_ltf, d_eqt, d_eqf, ↓reduceIte, or_false, false_or, or_true, true_or, and_true, true_and, and_false, false_and, not_true_eq_false, not_false_eq_true, Bool.false_eq_true, Option.bind_some, q_ofNat, q_cl, q_lt, q_le, q_eq, nI_add, pk_mul, q_m1, q_m4, m1_lt, m1_le, m1_nlt, m1_nle, m1_ne, m1_ne2, m4_lt, m4_le, m4_nlt, m4_nle, m4_ne, m4_ne2, q_0, q_1, q_2, q_3, q_4, q_5, q_6, q_8, q_12, q_15, q_16, q_20, q_24, q_30, q_31, q_32, q_80, q_9, q_99, q_126, q_48, q_57, q_58, q_59, q_97, q_101, q_10, q_21, q_255, q_46656, e4, Nat.mul_comm b 5, e5 i hi, q_bs, hP, Bool.false_eq_true]
  · intro i _ hi hP
    have := e5 i hi; have := o6 i hi
    simp (disch := omega) only [f_X5_firstAlive_B8, d_let, d_lef, d_ltt, d_ltf, d_eqt, d_eqf, ↓reduceIte, or_false, false_or, or_true, true_or, and_true, true_and, and_false, false_and, not_true_eq_false, not_false_eq_true, Bool.false_eq_true, Option.bind_some, q_ofNat, q_cl, q_lt, q_le, q_eq, nI_add, pk_mul, q_m1, q_m4, m1_lt, m1_le, m1_nlt, m1_nle, m1_ne, m1_ne2, m4_lt, m4_le, m4_nlt, m4_nle, m4_ne, m4_ne2, q_0, q_1, q_2, q_3, q_4, q_5, q_6, q_8, q_12, q_15, q_16, q_20, q_24, q_30, q_31, q_32, q_80, q_9, q_99, q_126, q_48, q_57, q_58, q_59, q_97, q_101, q_10, q_21, q_255, q_46656, e4, Nat.mul_comm b 5, e5 i hi, q_bs, hP]
  · simp (disch := omega) only [f_X5_firstAlive_B8, d_let, d_lef, d_ltt, d_ltf, d_eqt, d_eqf, ↓reduceIte, or_false, false_or, or_true, true_or, and_true, true_and, and_false, false_and, not_true_eq_false, not_false_eq_true, Bool.false_eq_true, Option.bind_some, q_ofNat, q_cl, q_lt, q_le, q_eq, nI_add, pk_mul, q_m1, q_m4, m1_lt, m1_le, m1_nlt, m1_nle, m1_ne, m1_ne2, m4_lt, m4_le, m4_nlt, m4_nle, m4_ne, m4_ne2, q_0, q_1, q_2, q_3, q_4, q_5, q_6, q_8, q_12, q_15, q_16, q_20, q_24, q_30, q_31, q_32, q_80, q_9, q_99, q_126, q_48, q_57, q_58, q_59, q_97, q_101, q_10, q_21, q_255, q_46656, e4]
  · unfold fa
    have a := ff_le (fun i => al (hOrd h b i)) (hSiz h b - i0) i0
    generalize ff (fun i => al (hOrd h b i)) i0 (hSiz h b - i0) = g at *
    split
    · rename_i hg
      simp (disch := omega) only [d_let, d_lef, d_ltt, d_ltf, d_eqt, d_eqf, ↓reduceIte, or_false, false_or, or_true, true_or, and_true, true_and, and_false, false_and, not_true_eq_false, not_false_eq_true, Bool.false_eq_true, Option.bind_some, q_ofNat, q_cl, q_lt, q_le, q_eq, nI_add, pk_mul, q_m1, q_m4, m1_lt, m1_le, m1_nlt, m1_nle, m1_ne, m1_ne2, m4_lt, m4_le, m4_nlt, m4_nle, m4_ne, m4_ne2, q_0, q_1, q_2, q_3, q_4, q_5, q_6, q_8, q_12, q_15, q_16, q_20, q_24, q_30, q_31, q_32, q_80, q_9, q_99, q_126, q_48, q_57, q_58, q_59, q_97, q_101, q_10, q_21, q_255, q_46656, Sum.elim_inl, Nat.mul_comm b 5, e5 g hg, wX_s]
    · rfl
theorem x_alive {r : Br} (rok : bOK r) {vst : Nat → Int32} (hst : ∀ k, k < 5 → vst k = nI (bSt r k)) {N : Nat} (hN : 200000 ≤ N) {t : Nat} (ht : t < 1000) : f_X5_namesAlive N vst (nI t) = some (nI (bs (aliv r t) 5)) := by
  unfold f_X5_namesAlive
  refine b_run (lp_for (fun k => (nI (bs (aliv r t) k), nI k)) 5 (by omega) rfl (r := nI (bs (aliv r t) 5)) ?_ ?_) ?_
  · intro k hk
    have := hst k hk; have := rok.2.1 k hk
    by_cases hl : t < bSt r k
    · have hb : bs (aliv r t) (k + 1) = bs (aliv r t) k ||| 2 ^ k := by rw [bs_or, if_pos]; exact decide_eq_true hl
      simp (disch := omega) only [f_X5_namesAlive_B4, f_X5_namesAlive_L25, d_let, d_lef, d_ltt, d_ltf, d_eqt, d_eqf, ↓reduceIte, or_false, false_or, or_true, true_or, and_true, true_and, and_false, false_and, not_true_eq_false, not_false_eq_true, Bool.false_eq_true, Option.bind_some, q_ofNat, q_cl, q_lt, q_le, q_eq, nI_add, pk_mul, q_m1, q_m4, m1_lt, m1_le, m1_nlt, m1_nle, m1_ne, m1_ne2, m4_lt, m4_le, m4_nlt, m4_nle, m4_ne, m4_ne2, q_0, q_1, q_2, q_3, q_4, q_5, q_6, q_8, q_12, q_15, q_16, q_20, q_24, q_30, q_31, q_32, q_80, q_9, q_99, q_126, q_48, q_57, q_58, q_59, q_97, q_101, q_10, q_21, q_255, q_46656, hst k hk, q_shl, q_or, hb]
    · have hb : bs (aliv r t) (k + 1) = bs (aliv r t) k := by rw [bs_or, if_neg]; simpa [aliv] using hl
      simp (disch := omega) only [f_X5_namesAlive_B4, f_X5_namesAlive_L25, d_let, d_lef, d_ltt, d_ltf, d_eqt, d_eqf, ↓reduceIte, or_false, false_or, or_true, true_or, and_true, true_and, and_false, false_and, not_true_eq_false, not_false_eq_true, Bool.false_eq_true, Option.bind_some, q_ofNat, q_cl, q_lt, q_le, q_eq, nI_add, pk_mul, q_m1, q_m4, m1_lt, m1_le, m1_nlt, m1_nle, m1_ne, m1_ne2, m4_lt, m4_le, m4_nlt, m4_nle, m4_ne, m4_ne2, q_0, q_1, q_2, q_3, q_4, q_5, q_6, q_8, q_12, q_15, q_16, q_20, q_24, q_30, q_31, q_32, q_80, q_9, q_99, q_126, q_48, q_57, q_58, q_59, q_97, q_101, q_10, q_21, q_255, q_46656, hst k hk, hb]
  · simp (disch := omega) only [f_X5_namesAlive_B4, d_let, d_lef, d_ltt, d_ltf, d_eqt, d_eqf, ↓reduceIte, or_false, false_or, or_true, true_or, and_true, true_and, and_false, false_and, not_true_eq_false, not_false_eq_true, Bool.false_eq_true, Option.bind_some, q_ofNat, q_cl, q_lt, q_le, q_eq, nI_add, pk_mul, q_m1, q_m4, m1_lt, m1_le, m1_nlt, m1_nle, m1_ne, m1_ne2, m4_lt, m4_le, m4_nlt, m4_nle, m4_ne, m4_ne2, q_0, q_1, q_2, q_3, q_4, q_5, q_6, q_8, q_12, q_15, q_16, q_20, q_24, q_30, q_31, q_32, q_80, q_9, q_99, q_126, q_48, q_57, q_58, q_59, q_97, q_101, q_10, q_21, q_255, q_46656]
  · rfl
def bt (x k : Nat) : Bool := decide (x / 2 ^ k % 2 = 1)
def mo (h : Hl) (P : Nat → Bool) : Nat := sm (fun b => if P b then hMem h b else 0) (hB h)
theorem mo_le {h : Hl} (ok : hOK h) (P : Nat → Bool) : mo h P ≤ 120 := by
  have := sm_le (f := fun b => if P b then hMem h b else 0) (m := 20) (hB h) (fun b hb => by
    have := (ok.2.1 b hb).2.1
    split <;> omega)
  have := ok.1
  unfold mo; omega
theorem mo_all (h : Hl) {P : Nat → Bool} (hP : ∀ b, b < hB h → P b = true) : mo h P = alS h := sm_congr _ (fun b hb => by rw [if_pos (hP b hb)])
theorem mo_congr {h : Hl} {P Q : Nat → Bool} (hP : ∀ b, b < hB h → P b = Q b) : mo h P = mo h Q := sm_congr _ (fun b hb => by rw [hP b hb])
theorem x_members {h : Hl} (ok : hOK h) {vb : Int32} {vme vmo vdi vsi vor : Nat → Int32} (t : tX h vb vme vmo vdi vsi vor) {N : Nat} (hN : 200000 ≤ N) {x : Nat} (hx : x < 2147483648) : f_X5_membersOf N vb vme (nI x) = some (nI (mo h (bt x))) := by
  have h6 := ok.1
  have e1 := t.1
  unfold f_X5_membersOf
  refine b_run (lp_for (fun n => (nI (sm (fun b => if bt x b then hMem h b else 0) n), nI n)) (hB h) (by omega) rfl (r := nI (mo h (bt x))) ?_ ?_) ?_
  · intro k hk
    obtain ⟨e2, _⟩ := t.2 k hk
    have e3 : sm (fun b => if bt x b = true then hMem h b else 0) (k + 1) = sm (fun b => if bt x b = true then hMem h b else 0) k + (if bt x k = true then hMem h k else 0) := rfl
    by_cases hl : x / 2 ^ k % 2 = 1
    · rw [e3, if_pos (show bt x k = true from decide_eq_true hl)]
      simp (disch := omega) only [f_X5_membersOf_B4, f_X5_membersOf_L30, d_let, d_lef, d_ltt, d_ltf, d_eqt, d_eqf, ↓reduceIte, or_false, false_or, or_true, true_or, and_true, true_and, and_false, false_and, not_true_eq_false, not_false_eq_true, Bool.false_eq_true, Option.bind_some, q_ofNat, q_cl, q_lt, q_le, q_eq, nI_add, pk_mul, q_m1, q_m4, m1_lt, m1_le, m1_nlt, m1_nle, m1_ne, m1_ne2, m4_lt, m4_le, m4_nlt, m4_nle, m4_ne, m4_ne2, q_0, q_1, q_2, q_3, q_4, q_5, q_6, q_8, q_12, q_15, q_16, q_20, q_24, q_30, q_31, q_32, q_80, q_9, q_99, q_126, q_48, q_57, q_58, q_59, q_97, q_101, q_10, q_21, q_255, q_46656, e1, e2, q_bit, hl]
    · have : ¬ bt x k = true := fun q => hl (of_decide_eq_true q)
      rw [e3, if_neg this]
      have : x / 2 ^ k % 2 < 2147483648 := by omega
      simp (disch := omega) only [f_X5_membersOf_B4, f_X5_membersOf_L30, d_let, d_lef, d_ltt, d_ltf, d_eqt, d_eqf, ↓reduceIte, or_false, false_or, or_true, true_or, and_true, true_and, and_false, false_and, not_true_eq_false, not_false_eq_true, Bool.false_eq_true, Option.bind_some, q_ofNat, q_cl, q_lt, q_le, q_eq, nI_add, pk_mul, q_m1, q_m4, m1_lt, m1_le, m1_nlt, m1_nle, m1_ne, m1_ne2, m4_lt, m4_le, m4_nlt, m4_nle, m4_ne, m4_ne2, q_0, q_1, q_2, q_3, q_4, q_5, q_6, q_8, q_12, q_15, q_16, q_20, q_24, q_30, q_31, q_32, q_80, q_9, q_99, q_126, q_48, q_57, q_58, q_59, q_97, q_101, q_10, q_21, q_255, q_46656, e1, e2, q_bit, hl, Nat.add_zero]
  · simp (disch := omega) only [f_X5_membersOf_B4, d_let, d_lef, d_ltt, d_ltf, d_eqt, d_eqf, ↓reduceIte, or_false, false_or, or_true, true_or, and_true, true_and, and_false, false_and, not_true_eq_false, not_false_eq_true, Bool.false_eq_true, Option.bind_some, q_ofNat, q_cl, q_lt, q_le, q_eq, nI_add, pk_mul, q_m1, q_m4, m1_lt, m1_le, m1_nlt, m1_nle, m1_ne, m1_ne2, m4_lt, m4_le, m4_nlt, m4_nle, m4_ne, m4_ne2, q_0, q_1, q_2, q_3, q_4, q_5, q_6, q_8, q_12, q_15, q_16, q_20, q_24, q_30, q_31, q_32, q_80, q_9, q_99, q_126, q_48, q_57, q_58, q_59, q_97, q_101, q_10, q_21, q_255, q_46656, e1]; rfl
  · rfl
theorem x_allB {h : Hl} (ok : hOK h) {vb : Int32} {vme vmo vdi vsi vor : Nat → Int32} (t : tX h vb vme vmo vdi vsi vor) {N : Nat} (hN : 200000 ≤ N) : f_X5_allBlocks vb = some (nI (2 ^ hB h - 1)) := by
  have h6 := ok.1
  have e1 := t.1
  have := Nat.two_pow_pos (hB h)
  unfold f_X5_allBlocks
  simp (disch := omega) only [d_let, d_lef, d_ltt, d_ltf, d_eqt, d_eqf, ↓reduceIte, or_false, false_or, or_true, true_or, and_true, true_and, and_false, false_and, not_true_eq_false, not_false_eq_true, Bool.false_eq_true, Option.bind_some, q_ofNat, q_cl, q_lt, q_le, q_eq, nI_add, pk_mul, q_m1, q_m4, m1_lt, m1_le, m1_nlt, m1_nle, m1_ne, m1_ne2, m4_lt, m4_le, m4_nlt, m4_nle, m4_ne, m4_ne2, q_0, q_1, q_2, q_3, q_4, q_5, q_6, q_8, q_12, q_15, q_16, q_20, q_24, q_30, q_31, q_32, q_80, q_9, q_99, q_126, q_48, q_57, q_58, q_59, q_97, q_101, q_10, q_21, q_255, q_46656, e1, q_shl, q_sub]
theorem bt_all {n k : Nat} (h : k < n) : bt (2 ^ n - 1) k = true := by
  have e : 2 ^ n - 1 = bs (fun _ => true) n := by
    clear h
    induction n with
    | zero => rfl
    | succ n ih =>
      show _ = bs (fun _ => true) n + 2 ^ n
      rw [← ih, Nat.pow_succ]; have := Nat.two_pow_pos n; omega
  unfold bt
  rw [e, bs_bit, if_pos ⟨h, rfl⟩]; rfl
theorem q_p6 {n : Nat} (h : n ≤ 6) : 2 ^ n ≤ 64 := Nat.pow_le_pow_right (n := 2) (by decide) h
theorem x_all {h : Hl} (ok : hOK h) {vb : Int32} {vme vmo vdi vsi vor : Nat → Int32} (t : tX h vb vme vmo vdi vsi vor) {N : Nat} (hN : 200000 ≤ N) : f_X5_allMembers N vb vme = some (nI (alS h)) := by
  have h6 := ok.1
  have := q_p6 h6
  unfold f_X5_allMembers
  rw [x_allB ok t hN, Option.bind_some, x_members ok t hN (by omega), Option.bind_some, mo_all h (fun b hb => bt_all hb)]
theorem x_need {h : Hl} (ok : hOK h) {vb : Int32} {vme vmo vdi vsi vor : Nat → Int32} (t : tX h vb vme vmo vdi vsi vor) {N : Nat} (hN : 200000 ≤ N) {r : Br} (rok : bOK r) {vab vbe : Nat → Int32} (hab : ∀ d, d < 8 → vab d = nI (bAb r d) ∧ vbe d = nI (bBe r d)) {d : Nat} (hd : d < 8) : f_X5_needed N vb vme vab vbe (nI d) = some (nI (neS h r d)) := by
  obtain ⟨e1, e2⟩ := hab d hd
  obtain ⟨r1, r2, r3⟩ := rok.1 d hd
  have ha := alS_le ok
  have hm : alS h * bAb r d ≤ 120 * 12 := Nat.mul_le_mul ha (by omega)
  unfold f_X5_needed f_X5_needed_L21 f_X5_needed_L39 f_X6_isDay
  have hmx : (if 1 < bBe r d then nI (bBe r d) else nI 1) = nI (bBe r d) := by
    by_cases h1 : 1 < bBe r d
    · rw [if_pos h1]
    · rw [if_neg h1]; congr 1; omega
  simp (disch := omega) only [d_let, d_lef, d_ltt, d_ltf, d_eqt, d_eqf, ↓reduceIte, or_false, false_or, or_true, true_or, and_true, true_and, and_false, false_and, not_true_eq_false, not_false_eq_true, Bool.false_eq_true, Option.bind_some, q_ofNat, q_cl, q_lt, q_le, q_eq, nI_add, pk_mul, q_m1, q_m4, m1_lt, m1_le, m1_nlt, m1_nle, m1_ne, m1_ne2, m4_lt, m4_le, m4_nlt, m4_nle, m4_ne, m4_ne2, q_0, q_1, q_2, q_3, q_4, q_5, q_6, q_8, q_12, q_15, q_16, q_20, q_24, q_30, q_31, q_32, q_80, q_9, q_99, q_126, q_48, q_57, q_58, q_59, q_97, q_101, q_10, q_21, q_255, q_46656, e1, e2, hmx, x_all ok t hN, q_sub, q_div, neS]
