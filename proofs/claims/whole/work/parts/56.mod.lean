-- the reference
theorem q_wM {k l : Nat} (hk : k < 1000) (hl : l < 1000) : (nI k = wM l) = (l = k + 1) := by
  unfold wM
  by_cases h0 : l = 0
  · rw [if_pos h0, m4_ne (by omega)]; exact (eq_false (by omega)).symm
  · rw [if_neg h0, q_eq (by omega) (by omega)]; exact propext ⟨fun q => by omega, fun q => by omega⟩
theorem q_wMl {l : Nat} (hl : l < 1000) : (wM l < nI 0) = (l = 0) := by
  unfold wM
  by_cases h0 : l = 0
  · rw [if_pos h0, m4_lt (by omega)]; exact (eq_true h0).symm
  · rw [if_neg h0, q_lt (by omega) (by omega)]; exact (eq_false (by omega)).trans (eq_false h0).symm
theorem q_wMg {l : Nat} (hl : l < 1000) : (nI 0 ≤ wM l) = (l ≠ 0) := by
  unfold wM
  by_cases h0 : l = 0
  · rw [if_pos h0, m4_nle (by omega)]; exact (eq_false (fun q => q h0)).symm
  · rw [if_neg h0, q_le (by omega) (by omega)]; exact (eq_true (by omega)).trans (eq_true h0).symm
theorem m_all {h : Hl} (ok : hOK h) {vb : Int32} {vme vmo vdi vsi vor : Nat → Int32} (t : tX h vb vme vmo vdi vsi vor) {N : Nat} (hN : 200000 ≤ N) : f_X7_all N vb vme = some (nI (alS h)) := by
  have h6 := ok.1
  have e0 := t.1
  unfold f_X7_all
  refine b_run (lp_for (fun k => (nI (sm (hMem h) k), nI k)) (hB h) (by omega) rfl ?_ ?_ (r := nI (alS h))) rfl
  · intro b hb
    obtain ⟨e1, _⟩ := t.2 b hb
    simp (disch := omega) only [f_X7_all_B4, d_let, d_lef, d_ltt, d_ltf, d_eqt, d_eqf, ↓reduceIte, or_false, false_or, or_true, true_or, and_true, true_and, and_false, false_and, not_true_eq_false, not_false_eq_true, Bool.false_eq_true, Option.bind_some, q_ofNat, q_cl, q_lt, q_le, q_eq, nI_add, pk_mul, q_m1, q_m4, m1_lt, m1_le, m1_nlt, m1_nle, m1_ne, m1_ne2, m4_lt, m4_le, m4_nlt, m4_nle, m4_ne, m4_ne2, q_0, q_1, q_2, q_3, q_4, q_5, q_6, q_8, q_12, q_15, q_16, q_20, q_24, q_30, q_31, q_32, q_80, q_9, q_99, q_126, q_48, q_57, q_58, q_59, q_97, q_101, q_10, q_21, q_255, q_46656, e0, e1]; rfl
  · simp (disch := omega) only [f_X7_all_B4, d_let, d_lef, d_ltt, d_ltf, d_eqt, d_eqf, ↓reduceIte, or_false, false_or, or_true, true_or, and_true, true_and, and_false, false_and, not_true_eq_false, not_false_eq_true, Bool.false_eq_true, Option.bind_some, q_ofNat, q_cl, q_lt, q_le, q_eq, nI_add, pk_mul, q_m1, q_m4, m1_lt, m1_le, m1_nlt, m1_nle, m1_ne, m1_ne2, m4_lt, m4_le, m4_nlt, m4_nle, m4_ne, m4_ne2, q_0, q_1, q_2, q_3, q_4, q_5, q_6, q_8, q_12, q_15, q_16, q_20, q_24, q_30, q_31, q_32, q_80, q_9, q_99, q_126, q_48, q_57, q_58, q_59, q_97, q_101, q_10, q_21, q_255, q_46656, e0]; rfl
theorem m_need {h : Hl} (ok : hOK h) {vb : Int32} {vme vmo vdi vsi vor : Nat → Int32} (t : tX h vb vme vmo vdi vsi vor) {N : Nat} (hN : 200000 ≤ N) {r : Br} (rok : bOK r) {vab vbe : Nat → Int32} (hab : ∀ d, d < 8 → vab d = nI (bAb r d) ∧ vbe d = nI (bBe r d)) {d : Nat} (hd : d < 8) : f_X7_needOf N vb vme vab vbe (nI d) = some (nI (neS h r d)) := by
  obtain ⟨e1, e2⟩ := hab d hd
  obtain ⟨r1, r2, r3⟩ := rok.1 d hd
  have ha := alS_le ok
  have hm : alS h * bAb r d ≤ 120 * 12 := Nat.mul_le_mul ha (by omega)
  unfold f_X7_needOf
  simp (disch := omega) only [d_let, d_lef, d_ltt, d_ltf, d_eqt, d_eqf, ↓reduceIte, or_false, false_or, or_true, true_or, and_true, true_and, and_false, false_and, not_true_eq_false, not_false_eq_true, Bool.false_eq_true, Option.bind_some, q_ofNat, q_cl, q_lt, q_le, q_eq, nI_add, pk_mul, q_m1, q_m4, m1_lt, m1_le, m1_nlt, m1_nle, m1_ne, m1_ne2, m4_lt, m4_le, m4_nlt, m4_nle, m4_ne, m4_ne2, q_0, q_1, q_2, q_3, q_4, q_5, q_6, q_8, q_12, q_15, q_16, q_20, q_24, q_30, q_31, q_32, q_80, q_9, q_99, q_126, q_48, q_57, q_58, q_59, q_97, q_101, q_10, q_21, q_255, q_46656, e1, e2, m_all ok t hN, q_sub, q_div, neS]
theorem m_place {h : Hl} (ok : hOK h) {vb : Int32} {vme vmo vdi vsi vor : Nat → Int32} (t : tX h vb vme vmo vdi vsi vor) {N : Nat} (hN : 200000 ≤ N) {b k : Nat} (hb : b < hB h) (hk : k < 5) : f_X7_placeIn N vsi vor (nI b) (nI k) = some (if pl h b k < hSiz h b then nI (pl h b k) else m4) := by
  have h6 := ok.1; obtain ⟨e1, e2, e3, e4, e5⟩ := t.2 b hb; obtain ⟨o1, o2, o3, o4, o5, o6, o7, o8, o9⟩ := ok.2.1 b hb
  unfold f_X7_placeIn
  refine b_run (lp_for (fun i => (if pl h b k < i then nI (pl h b k) else m4, nI i)) (hSiz h b) (by omega) rfl ?_ ?_ (r := if pl h b k < hSiz h b then nI (pl h b k) else m4)) rfl
  · intro i hi
    have := o6 i hi
    by_cases hq : hOrd h b i = k
    · have hp := pl_in hi hq
      have : pl h b k = i := by
        by_cases h1 : pl h b k < i
        · exact absurd (hp.2.trans hq.symm) (o7 _ _ h1 hi)
        · by_cases h2 : i < pl h b k
          · exact absurd (hq.trans hp.2.symm) (o7 _ _ h2 hp.1)
          · omega
      simp (disch := omega) only [f_X7_placeIn_B6, f_X7_placeIn_L38, d_let, d_lef, d_ltt, d_ltf, d_eqt, d_eqf, ↓reduceIte, or_false, false_or, or_true, true_or, and_true, true_and, and_false, false_and, not_true_eq_false, not_false_eq_true, Bool.false_eq_true, Option.bind_some, q_ofNat, q_cl, q_lt, q_le, q_eq, nI_add, pk_mul, q_m1, q_m4, m1_lt, m1_le, m1_nlt, m1_nle, m1_ne, m1_ne2, m4_lt, m4_le, m4_nlt, m4_nle, m4_ne, m4_ne2, q_0, q_1, q_2, q_3, q_4, q_5, q_6, q_8, q_12, q_15, q_16, q_20, q_24, q_30, q_31, q_32, q_80, q_9, q_99, q_126, q_48, q_57, q_58, q_59, q_97, q_101, q_10, q_21, q_255, q_46656, e4, e5 i hi, this]
    · have : pl h b k ≠ i := fun q => hq (by have := pl_out (h := h) (b := b) (k := k) (by omega); rw [q] at this; exact this)
      have e : (if pl h b k < i + 1 then nI (pl h b k) else m4) = (if pl h b k < i then nI (pl h b k) else m4) := by
        by_cases h1 : pl h b k < i
        · rw [if_pos h1, if_pos (by omega)]
        · rw [if_neg h1, if_neg (by omega)]
      rw [e]
      generalize (if pl h b k < i then nI (pl h b k) else m4) = z
      simp (disch := omega) only [f_X7_placeIn_B6, f_X7_placeIn_L38, d_let, d_lef, d_ltt, d_ltf, d_eqt, d_eqf, ↓reduceIte, or_false, false_or, or_true, true_or, and_true, true_and, and_false, false_and, not_true_eq_false, not_false_eq_true, Bool.false_eq_true, Option.bind_some, q_ofNat, q_cl, q_lt, q_le, q_eq, nI_add, pk_mul, q_m1, q_m4, m1_lt, m1_le, m1_nlt, m1_nle, m1_ne, m1_ne2, m4_lt, m4_le, m4_nlt, m4_nle, m4_ne, m4_ne2, q_0, q_1, q_2, q_3, q_4, q_5, q_6, q_8, q_12, q_15, q_16, q_20, q_24, q_30, q_31, q_32, q_80, q_9, q_99, q_126, q_48, q_57, q_58, q_59, q_97, q_101, q_10, q_21, q_255, q_46656, e4, e5 i hi]
  · generalize (if pl h b k < hSiz h b then nI (pl h b k) else m4) = z
    simp (disch := omega) only [f_X7_placeIn_B6, d_let, d_lef, d_ltt, d_ltf, d_eqt, d_eqf, ↓reduceIte, or_false, false_or, or_true, true_or, and_true, true_and, and_false, false_and, not_true_eq_false, not_false_eq_true, Bool.false_eq_true, Option.bind_some, q_ofNat, q_cl, q_lt, q_le, q_eq, nI_add, pk_mul, q_m1, q_m4, m1_lt, m1_le, m1_nlt, m1_nle, m1_ne, m1_ne2, m4_lt, m4_le, m4_nlt, m4_nle, m4_ne, m4_ne2, q_0, q_1, q_2, q_3, q_4, q_5, q_6, q_8, q_12, q_15, q_16, q_20, q_24, q_30, q_31, q_32, q_80, q_9, q_99, q_126, q_48, q_57, q_58, q_59, q_97, q_101, q_10, q_21, q_255, q_46656, e4]
theorem m_alive {r : Br} (rok : bOK r) {vst : Nat → Int32} (hst : ∀ k, k < 5 → vst k = nI (bSt r k)) {k tt : Nat} (hk : k < 5) (ht : tt < 1000) : f_X7_isAlive vst (nI k) (nI tt) = some (if aliv r (min tt 31) k = true then nI 1 else nI 0) := by
  have e := hst k hk
  have := rok.2.1 k hk
  unfold aliv
  by_cases h1 : tt < 32
  · by_cases h2 : tt < bSt r k
    · simp (disch := omega) only [f_X7_isAlive, f_X7_isAlive_L18, d_let, d_lef, d_ltt, d_ltf, d_eqt, d_eqf, ↓reduceIte, or_false, false_or, or_true, true_or, and_true, true_and, and_false, false_and, not_true_eq_false, not_false_eq_true, Bool.false_eq_true, Option.bind_some, q_ofNat, q_cl, q_lt, q_le, q_eq, nI_add, pk_mul, q_m1, q_m4, m1_lt, m1_le, m1_nlt, m1_nle, m1_ne, m1_ne2, m4_lt, m4_le, m4_nlt, m4_nle, m4_ne, m4_ne2, q_0, q_1, q_2, q_3, q_4, q_5, q_6, q_8, q_12, q_15, q_16, q_20, q_24, q_30, q_31, q_32, q_80, q_9, q_99, q_126, q_48, q_57, q_58, q_59, q_97, q_101, q_10, q_21, q_255, q_46656, e, decide_eq_true_eq]
    · simp (disch := omega) only [f_X7_isAlive, f_X7_isAlive_L18, d_let, d_lef, d_ltt, d_ltf, d_eqt, d_eqf, ↓reduceIte, or_false, false_or, or_true, true_or, and_true, true_and, and_false, false_and, not_true_eq_false, not_false_eq_true, Bool.false_eq_true, Option.bind_some, q_ofNat, q_cl, q_lt, q_le, q_eq, nI_add, pk_mul, q_m1, q_m4, m1_lt, m1_le, m1_nlt, m1_nle, m1_ne, m1_ne2, m4_lt, m4_le, m4_nlt, m4_nle, m4_ne, m4_ne2, q_0, q_1, q_2, q_3, q_4, q_5, q_6, q_8, q_12, q_15, q_16, q_20, q_24, q_30, q_31, q_32, q_80, q_9, q_99, q_126, q_48, q_57, q_58, q_59, q_97, q_101, q_10, q_21, q_255, q_46656, e, decide_eq_true_eq]
  · by_cases h2 : 31 < bSt r k
    · simp (disch := omega) only [f_X7_isAlive, f_X7_isAlive_L18, d_let, d_lef, d_ltt, d_ltf, d_eqt, d_eqf, ↓reduceIte, or_false, false_or, or_true, true_or, and_true, true_and, and_false, false_and, not_true_eq_false, not_false_eq_true, Bool.false_eq_true, Option.bind_some, q_ofNat, q_cl, q_lt, q_le, q_eq, nI_add, pk_mul, q_m1, q_m4, m1_lt, m1_le, m1_nlt, m1_nle, m1_ne, m1_ne2, m4_lt, m4_le, m4_nlt, m4_nle, m4_ne, m4_ne2, q_0, q_1, q_2, q_3, q_4, q_5, q_6, q_8, q_12, q_15, q_16, q_20, q_24, q_30, q_31, q_32, q_80, q_9, q_99, q_126, q_48, q_57, q_58, q_59, q_97, q_101, q_10, q_21, q_255, q_46656, e, decide_eq_true_eq]
    · simp (disch := omega) only [f_X7_isAlive, f_X7_isAlive_L18, d_let, d_lef, d_ltt, d_ltf, d_eqt, d_eqf, ↓reduceIte, or_false, false_or, or_true, true_or, and_true, true_and, and_false, false_and, not_true_eq_false, not_false_eq_true, Bool.false_eq_true, Option.bind_some, q_ofNat, q_cl, q_lt, q_le, q_eq, nI_add, pk_mul, q_m1, q_m4, m1_lt, m1_le, m1_nlt, m1_nle, m1_ne, m1_ne2, m4_lt, m4_le, m4_nlt, m4_nle, m4_ne, m4_ne2, q_0, q_1, q_2, q_3, q_4, q_5, q_6, q_8, q_12, q_15, q_16, q_20, q_24, q_30, q_31, q_32, q_80, q_9, q_99, q_126, q_48, q_57, q_58, q_59, q_97, q_101, q_10, q_21, q_255, q_46656, e, decide_eq_true_eq]
theorem m_firm {h : Hl} (ok : hOK h) {vb : Int32} {vme vmo vdi vsi vor : Nat → Int32} (t : tX h vb vme vmo vdi vsi vor) {N : Nat} (hN : 200000 ≤ N) {r : Br} (rok : bOK r) {vst : Nat → Int32} (hst : ∀ k, k < 5 → vst k = nI (bSt r k)) {b tt : Nat} (hb : b < hB h) (ht : tt < 1000) : f_X7_firm N vsi vor vst (nI b) (nI tt) = some (wM (fa h (aliv r (min tt 31)) b 0)) := by
  have h6 := ok.1; obtain ⟨e1, e2, e3, e4, e5⟩ := t.2 b hb; obtain ⟨o1, o2, o3, o4, o5, o6, o7, o8, o9⟩ := ok.2.1 b hb
  unfold f_X7_firm
  refine b_run (lp_find (fun i => nI i) (fun i => aliv r (min tt 31) (hOrd h b i)) (hSiz h b) 0 (fun i => .inl (nI i)) (.inr m4) (by omega) (by omega) rfl ?_ ?_ ?_) ?_
  · intro i _ hi hP
    have := o6 i hi
    simp (disch := omega) only [f_X7_firm_B2, d_let, d_lef, d_ltt, d_ltf, d_eqt, d_eqf, ↓reduceIte, or_false, false_or, or_true, true_or, and_true, true_and, and_false, false_and, not_true_eq_false, not_false_eq_true, Bool.false_eq_true, Option.bind_some, q_ofNat, q_cl, q_lt, q_le, q_eq, nI_add, pk_mul, q_m1, q_m4, m1_lt, m1_le, m1_nlt, m1_nle, m1_ne, m1_ne2, m4_lt, m4_le, m4_nlt, m4_nle, m4_ne, m4_ne2, q_0, q_1, q_2, q_3, q_4, q_5, q_6, q_8, q_12, q_15, q_16, q_20, q_24, q_30, q_31, q_32, q_80, q_9, q_99, q_126, q_48, q_57, q_58, q_59, q_97, q_101, q_10, q_21, q_255, q_46656, e4, e5 i hi, m_alive rok hst, hP]
  · intro i _ hi hP
    have := o6 i hi
    simp (disch := omega) only [f_X7_firm_B2, d_let, d_lef, d_ltt, d_ltf, d_eqt, d_eqf, ↓reduceIte, or_false, false_or, or_true, true_or, and_true, true_and, and_false, false_and, not_true_eq_false, not_false_eq_true, Bool.false_eq_true, Option.bind_some, q_ofNat, q_cl, q_lt, q_le, q_eq, nI_add, pk_mul, q_m1, q_m4, m1_lt, m1_le, m1_nlt, m1_nle, m1_ne, m1_ne2, m4_lt, m4_le, m4_nlt, m4_nle, m4_ne, m4_ne2, q_0, q_1, q_2, q_3, q_4, q_5, q_6, q_8, q_12, q_15, q_16, q_20, q_24, q_30, q_31, q_32, q_80, q_9, q_99, q_126, q_48, q_57, q_58, q_59, q_97, q_101, q_10, q_21, q_255, q_46656, e4, e5 i hi, m_alive rok hst, hP]
  · simp (disch := omega) only [f_X7_firm_B2, d_let, d_lef, d_ltt, d_ltf, d_eqt, d_eqf, ↓reduceIte, or_false, false_or, or_true, true_or, and_true, true_and, and_false, false_and, not_true_eq_false, not_false_eq_true, Bool.false_eq_true, Option.bind_some, q_ofNat, q_cl, q_lt, q_le, q_eq, nI_add, pk_mul, q_m1, q_m4, m1_lt, m1_le, m1_nlt, m1_nle, m1_ne, m1_ne2, m4_lt, m4_le, m4_nlt, m4_nle, m4_ne, m4_ne2, q_0, q_1, q_2, q_3, q_4, q_5, q_6, q_8, q_12, q_15, q_16, q_20, q_24, q_30, q_31, q_32, q_80, q_9, q_99, q_126, q_48, q_57, q_58, q_59, q_97, q_101, q_10, q_21, q_255, q_46656, e4]
  · unfold fa
    have a := ff_le (fun i => aliv r (min tt 31) (hOrd h b i)) (hSiz h b - 0) 0
    generalize ff (fun i => aliv r (min tt 31) (hOrd h b i)) 0 (hSiz h b - 0) = g at *
    split
    · rename_i hg
      simp (disch := omega) only [d_let, d_lef, d_ltt, d_ltf, d_eqt, d_eqf, ↓reduceIte, or_false, false_or, or_true, true_or, and_true, true_and, and_false, false_and, not_true_eq_false, not_false_eq_true, Bool.false_eq_true, Option.bind_some, q_ofNat, q_cl, q_lt, q_le, q_eq, nI_add, pk_mul, q_m1, q_m4, m1_lt, m1_le, m1_nlt, m1_nle, m1_ne, m1_ne2, m4_lt, m4_le, m4_nlt, m4_nle, m4_ne, m4_ne2, q_0, q_1, q_2, q_3, q_4, q_5, q_6, q_8, q_12, q_15, q_16, q_20, q_24, q_30, q_31, q_32, q_80, q_9, q_99, q_126, q_48, q_57, q_58, q_59, q_97, q_101, q_10, q_21, q_255, q_46656, Sum.elim_inl, e5 g hg, wM_s]
    · rfl
theorem m_lead {h : Hl} (ok : hOK h) {vb : Int32} {vme vmo vdi vsi vor : Nat → Int32} (t : tX h vb vme vmo vdi vsi vor) {N : Nat} (hN : 200000 ≤ N) {r : Br} (rok : bOK r) {vst : Nat → Int32} (hst : ∀ k, k < 5 → vst k = nI (bSt r k)) {b tt : Nat} (hb : b < hB h) (ht : tt < 1000) {cnt : Nat → Nat} {vc : Nat → Int32} (hc : ∀ k, k < 5 → vc k = nI (cnt k)) (hc2 : ∀ k, cnt k ≤ 120) : f_X7_lead N vsi vor vst vc (nI b) (nI tt) = some (wM (leS h (aliv r (min tt 31)) cnt b)) := by
  have h6 := ok.1; obtain ⟨e1, e2, e3, e4, e5⟩ := t.2 b hb; obtain ⟨o1, o2, o3, o4, o5, o6, o7, o8, o9⟩ := ok.2.1 b hb
  generalize hal : aliv r (min tt 31) = al
  have A : ∀ k, k < 5 → f_X7_isAlive vst (nI k) (nI tt) = some (if al k = true then nI 1 else nI 0) := fun k hk => by rw [← hal]; exact m_alive rok hst hk ht
  have hle : ∀ n, n ≤ hSiz h b → it (leF h al cnt b) 0 n ≤ 5 := by
    intro n
    induction n with
    | zero => intro _; show 0 ≤ 5; omega
    | succ n ih =>
      intro hn
      have := o6 n (by omega)
      have := ih (by omega)
      show leF h al cnt b n (it (leF h al cnt b) 0 n) ≤ 5
      generalize it (leF h al cnt b) 0 n = best at *
      unfold leF
      split <;> omega
  unfold f_X7_lead
  refine b_run (lp_for (fun k => (wM (it (leF h al cnt b) 0 k), nI k)) (hSiz h b) (by omega) rfl ?_ ?_ (r := wM (leS h al cnt b))) rfl
  · intro k hk
    have := o6 k hk
    have hl := hle k (by omega)
    have hx := hc2 (hOrd h b k)
    show _ = some (Sum.inl (wM (leF h al cnt b k (it (leF h al cnt b) 0 k)), nI (k + 1)))
    generalize it (leF h al cnt b) 0 k = best at *
    have hy := hc2 (best - 1)
    unfold leF
    by_cases ha : al (hOrd h b k) = true
    · by_cases h0 : best = 0
      · subst h0
        rw [if_pos ⟨ha, Or.inl rfl⟩]
        simp (disch := omega) only [f_X7_lead_B6, f_X7_lead_L66, f_X7_lead_L65, f_X7_lead_L60, d_let, d_lef, d_ltt, d_ltf, d_eqt, d_eqf, ↓reduceIte, or_false, false_or, or_true, true_or, and_true, true_and, and_false, false_and, not_true_eq_false, not_false_eq_true, Bool.false_eq_true, Option.bind_some, q_ofNat, q_cl, q_lt, q_le, q_eq, nI_add, pk_mul, q_m1, q_m4, m1_lt, m1_le, m1_nlt, m1_nle, m1_ne, m1_ne2, m4_lt, m4_le, m4_nlt, m4_nle, m4_ne, m4_ne2, q_0, q_1, q_2, q_3, q_4, q_5, q_6, q_8, q_12, q_15, q_16, q_20, q_24, q_30, q_31, q_32, q_80, q_9, q_99, q_126, q_48, q_57, q_58, q_59, q_97, q_101, q_10, q_21, q_255, q_46656, e4, e5 k hk, A, ha, hc, wM_0, wM_s]
      · by_cases hlt : cnt (best - 1) < cnt (hOrd h b k)
        · rw [if_pos ⟨ha, Or.inr hlt⟩]
          simp (disch := omega) only [f_X7_lead_B6, f_X7_lead_L66, f_X7_lead_L65, f_X7_lead_L60, d_let, d_lef, d_ltt, d_ltf, d_eqt, d_eqf, ↓reduceIte, or_false, false_or, or_true, true_or, and_true, true_and, and_false, false_and, not_true_eq_false, not_false_eq_true, Bool.false_eq_true, Option.bind_some, q_ofNat, q_cl, q_lt, q_le, q_eq, nI_add, pk_mul, q_m1, q_m4, m1_lt, m1_le, m1_nlt, m1_nle, m1_ne, m1_ne2, m4_lt, m4_le, m4_nlt, m4_nle, m4_ne, m4_ne2, q_0, q_1, q_2, q_3, q_4, q_5, q_6, q_8, q_12, q_15, q_16, q_20, q_24, q_30, q_31, q_32, q_80, q_9, q_99, q_126, q_48, q_57, q_58, q_59, q_97, q_101, q_10, q_21, q_255, q_46656, e4, e5 k hk, A, ha, hc, wM, Nat.add_sub_cancel]
        · rw [if_neg (fun q => q.2.elim h0 hlt)]
          simp (disch := omega) only [f_X7_lead_B6, f_X7_lead_L66, f_X7_lead_L65, f_X7_lead_L60, d_let, d_lef, d_ltt, d_ltf, d_eqt, d_eqf, ↓reduceIte, or_false, false_or, or_true, true_or, and_true, true_and, and_false, false_and, not_true_eq_false, not_false_eq_true, Bool.false_eq_true, Option.bind_some, q_ofNat, q_cl, q_lt, q_le, q_eq, nI_add, pk_mul, q_m1, q_m4, m1_lt, m1_le, m1_nlt, m1_nle, m1_ne, m1_ne2, m4_lt, m4_le, m4_nlt, m4_nle, m4_ne, m4_ne2, q_0, q_1, q_2, q_3, q_4, q_5, q_6, q_8, q_12, q_15, q_16, q_20, q_24, q_30, q_31, q_32, q_80, q_9, q_99, q_126, q_48, q_57, q_58, q_59, q_97, q_101, q_10, q_21, q_255, q_46656, e4, e5 k hk, A, ha, hc, wM]
    · rw [if_neg (fun q => ha q.1)]
      simp (disch := omega) only [f_X7_lead_B6, f_X7_lead_L66, f_X7_lead_L65, f_X7_lead_L60, d_let, d_lef, d_ltt, d_ltf, d_eqt, d_eqf, ↓reduceIte, or_false, false_or, or_true, true_or, and_true, true_and, and_false, false_and, not_true_eq_false, not_false_eq_true, Bool.false_eq_true, Option.bind_some, q_ofNat, q_cl, q_lt, q_le, q_eq, nI_add, pk_mul, q_m1, q_m4, m1_lt, m1_le, m1_nlt, m1_nle, m1_ne, m1_ne2, m4_lt, m4_le, m4_nlt, m4_nle, m4_ne, m4_ne2, q_0, q_1, q_2, q_3, q_4, q_5, q_6, q_8, q_12, q_15, q_16, q_20, q_24, q_30, q_31, q_32, q_80, q_9, q_99, q_126, q_48, q_57, q_58, q_59, q_97, q_101, q_10, q_21, q_255, q_46656, e4, e5 k hk, A, ha]
  · simp (disch := omega) only [f_X7_lead_B6, d_let, d_lef, d_ltt, d_ltf, d_eqt, d_eqf, ↓reduceIte, or_false, false_or, or_true, true_or, and_true, true_and, and_false, false_and, not_true_eq_false, not_false_eq_true, Bool.false_eq_true, Option.bind_some, q_ofNat, q_cl, q_lt, q_le, q_eq, nI_add, pk_mul, q_m1, q_m4, m1_lt, m1_le, m1_nlt, m1_nle, m1_ne, m1_ne2, m4_lt, m4_le, m4_nlt, m4_nle, m4_ne, m4_ne2, q_0, q_1, q_2, q_3, q_4, q_5, q_6, q_8, q_12, q_15, q_16, q_20, q_24, q_30, q_31, q_32, q_80, q_9, q_99, q_126, q_48, q_57, q_58, q_59, q_97, q_101, q_10, q_21, q_255, q_46656, e4]; rfl
theorem m_last {N : Nat} (hN : 200000 ≤ N) {cnt : Nat → Nat} {vc : Nat → Int32} (hc : ∀ k, k < 5 → vc k = nI (cnt k)) (hc2 : ∀ k, cnt k ≤ 120) : f_X7_lastOf N vc = some (wM (laS cnt)) := by
  unfold f_X7_lastOf
  refine b_run (lp_for (fun k => (nI (it (laF cnt) (0, 0) k).2, wM (it (laF cnt) (0, 0) k).1, nI k)) 5 (by omega) rfl ?_ ?_ (r := (nI (it (laF cnt) (0, 0) 5).2, wM (it (laF cnt) (0, 0) 5).1, nI 5))) ?_
  · intro k hk
    have hl := laF_1 (cnt := cnt) k
    have hx := hc2 k
    show _ = some (Sum.inl (nI (laF cnt k (it (laF cnt) (0, 0) k)).2, wM (laF cnt k (it (laF cnt) (0, 0) k)).1, nI (k + 1)))
    generalize it (laF cnt) (0, 0) k = s at *
    have hy := hc2 (s.1 - 1)
    unfold laF
    by_cases h0 : cnt k = 0
    · rw [if_pos h0]
      simp (disch := omega) only [f_X7_lastOf_B7, f_X7_lastOf_L49, d_let, d_lef, d_ltt, d_ltf, d_eqt, d_eqf, ↓reduceIte, or_false, false_or, or_true, true_or, and_true, true_and, and_false, false_and, not_true_eq_false, not_false_eq_true, Bool.false_eq_true, Option.bind_some, q_ofNat, q_cl, q_lt, q_le, q_eq, nI_add, pk_mul, q_m1, q_m4, m1_lt, m1_le, m1_nlt, m1_nle, m1_ne, m1_ne2, m4_lt, m4_le, m4_nlt, m4_nle, m4_ne, m4_ne2, q_0, q_1, q_2, q_3, q_4, q_5, q_6, q_8, q_12, q_15, q_16, q_20, q_24, q_30, q_31, q_32, q_80, q_9, q_99, q_126, q_48, q_57, q_58, q_59, q_97, q_101, q_10, q_21, q_255, q_46656, hc]
    · rw [if_neg h0]
      by_cases h1 : s.1 = 0
      · simp (disch := omega) only [f_X7_lastOf_B7, f_X7_lastOf_L49, f_X7_lastOf_L48, f_X7_lastOf_L43, d_let, d_lef, d_ltt, d_ltf, d_eqt, d_eqf, ↓reduceIte, or_false, false_or, or_true, true_or, and_true, true_and, and_false, false_and, not_true_eq_false, not_false_eq_true, Bool.false_eq_true, Option.bind_some, q_ofNat, q_cl, q_lt, q_le, q_eq, nI_add, pk_mul, q_m1, q_m4, m1_lt, m1_le, m1_nlt, m1_nle, m1_ne, m1_ne2, m4_lt, m4_le, m4_nlt, m4_nle, m4_ne, m4_ne2, q_0, q_1, q_2, q_3, q_4, q_5, q_6, q_8, q_12, q_15, q_16, q_20, q_24, q_30, q_31, q_32, q_80, q_9, q_99, q_126, q_48, q_57, q_58, q_59, q_97, q_101, q_10, q_21, q_255, q_46656, hc, h1, wM_0, wM_s]
      · by_cases h2 : cnt k < cnt (s.1 - 1)
        · simp (disch := omega) only [f_X7_lastOf_B7, f_X7_lastOf_L49, f_X7_lastOf_L48, f_X7_lastOf_L43, d_let, d_lef, d_ltt, d_ltf, d_eqt, d_eqf, ↓reduceIte, or_false, false_or, or_true, true_or, and_true, true_and, and_false, false_and, not_true_eq_false, not_false_eq_true, Bool.false_eq_true, Option.bind_some, q_ofNat, q_cl, q_lt, q_le, q_eq, nI_add, pk_mul, q_m1, q_m4, m1_lt, m1_le, m1_nlt, m1_nle, m1_ne, m1_ne2, m4_lt, m4_le, m4_nlt, m4_nle, m4_ne, m4_ne2, q_0, q_1, q_2, q_3, q_4, q_5, q_6, q_8, q_12, q_15, q_16, q_20, q_24, q_30, q_31, q_32, q_80, q_9, q_99, q_126, q_48, q_57, q_58, q_59, q_97, q_101, q_10, q_21, q_255, q_46656, hc, wM, Nat.add_sub_cancel]
        · simp (disch := omega) only [f_X7_lastOf_B7, f_X7_lastOf_L49, f_X7_lastOf_L48, f_X7_lastOf_L43, d_let, d_lef, d_ltt, d_ltf, d_eqt, d_eqf, ↓reduceIte, or_false, false_or, or_true, true_or, and_true, true_and, and_false, false_and, not_true_eq_false, not_false_eq_true, Bool.false_eq_true, Option.bind_some, q_ofNat, q_cl, q_lt, q_le, q_eq, nI_add, pk_mul, q_m1, q_m4, m1_lt, m1_le, m1_nlt, m1_nle, m1_ne, m1_ne2, m4_lt, m4_le, m4_nlt, m4_nle, m4_ne, m4_ne2, q_0, q_1, q_2, q_3, q_4, q_5, q_6, q_8, q_12, q_15, q_16, q_20, q_24, q_30, q_31, q_32, q_80, q_9, q_99, q_126, q_48, q_57, q_58, q_59, q_97, q_101, q_10, q_21, q_255, q_46656, hc, wM]
  · simp (disch := omega) only [f_X7_lastOf_B7, d_let, d_lef, d_ltt, d_ltf, d_eqt, d_eqf, ↓reduceIte, or_false, false_or, or_true, true_or, and_true, true_and, and_false, false_and, not_true_eq_false, not_false_eq_true, Bool.false_eq_true, Option.bind_some, q_ofNat, q_cl, q_lt, q_le, q_eq, nI_add, pk_mul, q_m1, q_m4, m1_lt, m1_le, m1_nlt, m1_nle, m1_ne, m1_ne2, m4_lt, m4_le, m4_nlt, m4_nle, m4_ne, m4_ne2, q_0, q_1, q_2, q_3, q_4, q_5, q_6, q_8, q_12, q_15, q_16, q_20, q_24, q_30, q_31, q_32, q_80, q_9, q_99, q_126, q_48, q_57, q_58, q_59, q_97, q_101, q_10, q_21, q_255, q_46656]
  · have hl := laF_1 (cnt := cnt) 5
    unfold laS
    by_cases h1 : (it (laF cnt) (0, 0) 5).2 ≤ 1
    · simp (disch := omega) only [d_let, d_lef, d_ltt, d_ltf, d_eqt, d_eqf, ↓reduceIte, or_false, false_or, or_true, true_or, and_true, true_and, and_false, false_and, not_true_eq_false, not_false_eq_true, Bool.false_eq_true, Option.bind_some, q_ofNat, q_cl, q_lt, q_le, q_eq, nI_add, pk_mul, q_m1, q_m4, m1_lt, m1_le, m1_nlt, m1_nle, m1_ne, m1_ne2, m4_lt, m4_le, m4_nlt, m4_nle, m4_ne, m4_ne2, q_0, q_1, q_2, q_3, q_4, q_5, q_6, q_8, q_12, q_15, q_16, q_20, q_24, q_30, q_31, q_32, q_80, q_9, q_99, q_126, q_48, q_57, q_58, q_59, q_97, q_101, q_10, q_21, q_255, q_46656, wM_0]
    · simp (disch := omega) only [d_let, d_lef, d_ltt, d_ltf, d_eqt, d_eqf, ↓reduceIte, or_false, false_or, or_true, true_or, and_true, true_and, and_false, false_and, not_true_eq_false, not_false_eq_true, Bool.false_eq_true, Option.bind_some, q_ofNat, q_cl, q_lt, q_le, q_eq, nI_add, pk_mul, q_m1, q_m4, m1_lt, m1_le, m1_nlt, m1_nle, m1_ne, m1_ne2, m4_lt, m4_le, m4_nlt, m4_nle, m4_ne, m4_ne2, q_0, q_1, q_2, q_3, q_4, q_5, q_6, q_8, q_12, q_15, q_16, q_20, q_24, q_30, q_31, q_32, q_80, q_9, q_99, q_126, q_48, q_57, q_58, q_59, q_97, q_101, q_10, q_21, q_255, q_46656]
theorem m_count {h : Hl} (ok : hOK h) {vb : Int32} {vme vmo vdi vsi vor : Nat → Int32} (t : tX h vb vme vmo vdi vsi vor) {N : Nat} (hN : 200000 ≤ N) {c : Nat → Nat} {vw vc : Nat → Int32} (hw : ∀ b, b < 6 → vw b = wM (c b)) (hc : wOK h c) : ∃ v, f_X7_countCopy N vb vme vw vc = some v ∧ ∀ k, k < 5 → v k = nI (cn h c k) := by
  have h6 := ok.1
  have e0 := t.1
  refine ⟨it (taF c vme) (fl vc 0 5) (hB h), ?_, taF_at (h := h) (fun k hk => fl_in hk) (hB h) (fun b hb => ⟨(t.2 b hb).1, wOK_lt ok hc b⟩)⟩
  unfold f_X7_countCopy
  refine b_run (lp_for (fun k => (nI k, fl vc 0 k)) 5 (by omega) rfl ?_ ?_ (r := (nI 5, fl vc 0 5))) ?_
  · intro k hk
    simp (disch := omega) only [f_X7_countCopy_B2, d_let, d_lef, d_ltt, d_ltf, d_eqt, d_eqf, ↓reduceIte, or_false, false_or, or_true, true_or, and_true, true_and, and_false, false_and, not_true_eq_false, not_false_eq_true, Bool.false_eq_true, Option.bind_some, q_ofNat, q_cl, q_lt, q_le, q_eq, nI_add, pk_mul, q_m1, q_m4, m1_lt, m1_le, m1_nlt, m1_nle, m1_ne, m1_ne2, m4_lt, m4_le, m4_nlt, m4_nle, m4_ne, m4_ne2, q_0, q_1, q_2, q_3, q_4, q_5, q_6, q_8, q_12, q_15, q_16, q_20, q_24, q_30, q_31, q_32, q_80, q_9, q_99, q_126, q_48, q_57, q_58, q_59, q_97, q_101, q_10, q_21, q_255, q_46656]; rfl
  · simp (disch := omega) only [f_X7_countCopy_B2, d_let, d_lef, d_ltt, d_ltf, d_eqt, d_eqf, ↓reduceIte, or_false, false_or, or_true, true_or, and_true, true_and, and_false, false_and, not_true_eq_false, not_false_eq_true, Bool.false_eq_true, Option.bind_some, q_ofNat, q_cl, q_lt, q_le, q_eq, nI_add, pk_mul, q_m1, q_m4, m1_lt, m1_le, m1_nlt, m1_nle, m1_ne, m1_ne2, m4_lt, m4_le, m4_nlt, m4_nle, m4_ne, m4_ne2, q_0, q_1, q_2, q_3, q_4, q_5, q_6, q_8, q_12, q_15, q_16, q_20, q_24, q_30, q_31, q_32, q_80, q_9, q_99, q_126, q_48, q_57, q_58, q_59, q_97, q_101, q_10, q_21, q_255, q_46656]
  refine b_run (lp_for (fun k => (nI k, it (taF c vme) (fl vc 0 5) k)) (hB h) (by omega) rfl ?_ ?_ (r := it (taF c vme) (fl vc 0 5) (hB h))) rfl
  · intro b hb
    have := wOK_lt ok hc b
    show _ = some (Sum.inl (nI (b + 1), taF c vme b (it (taF c vme) (fl vc 0 5) b)))
    unfold taF
    by_cases h0 : c b = 0
    · simp (disch := omega) only [f_X7_countCopy_B22, f_X7_countCopy_L59, d_let, d_lef, d_ltt, d_ltf, d_eqt, d_eqf, ↓reduceIte, or_false, false_or, or_true, true_or, and_true, true_and, and_false, false_and, not_true_eq_false, not_false_eq_true, Bool.false_eq_true, Option.bind_some, q_ofNat, q_cl, q_lt, q_le, q_eq, nI_add, pk_mul, q_m1, q_m4, m1_lt, m1_le, m1_nlt, m1_nle, m1_ne, m1_ne2, m4_lt, m4_le, m4_nlt, m4_nle, m4_ne, m4_ne2, q_0, q_1, q_2, q_3, q_4, q_5, q_6, q_8, q_12, q_15, q_16, q_20, q_24, q_30, q_31, q_32, q_80, q_9, q_99, q_126, q_48, q_57, q_58, q_59, q_97, q_101, q_10, q_21, q_255, q_46656, hw, h0, wM_0, e0]
    · simp (disch := omega) only [f_X7_countCopy_B22, f_X7_countCopy_L59, d_let, d_lef, d_ltt, d_ltf, d_eqt, d_eqf, ↓reduceIte, or_false, false_or, or_true, true_or, and_true, true_and, and_false, false_and, not_true_eq_false, not_false_eq_true, Bool.false_eq_true, Option.bind_some, q_ofNat, q_cl, q_lt, q_le, q_eq, nI_add, pk_mul, q_m1, q_m4, m1_lt, m1_le, m1_nlt, m1_nle, m1_ne, m1_ne2, m4_lt, m4_le, m4_nlt, m4_nle, m4_ne, m4_ne2, q_0, q_1, q_2, q_3, q_4, q_5, q_6, q_8, q_12, q_15, q_16, q_20, q_24, q_30, q_31, q_32, q_80, q_9, q_99, q_126, q_48, q_57, q_58, q_59, q_97, q_101, q_10, q_21, q_255, q_46656, hw, wM, e0]
  · simp (disch := omega) only [f_X7_countCopy_B22, d_let, d_lef, d_ltt, d_ltf, d_eqt, d_eqf, ↓reduceIte, or_false, false_or, or_true, true_or, and_true, true_and, and_false, false_and, not_true_eq_false, not_false_eq_true, Bool.false_eq_true, Option.bind_some, q_ofNat, q_cl, q_lt, q_le, q_eq, nI_add, pk_mul, q_m1, q_m4, m1_lt, m1_le, m1_nlt, m1_nle, m1_ne, m1_ne2, m4_lt, m4_le, m4_nlt, m4_nle, m4_ne, m4_ne2, q_0, q_1, q_2, q_3, q_4, q_5, q_6, q_8, q_12, q_15, q_16, q_20, q_24, q_30, q_31, q_32, q_80, q_9, q_99, q_126, q_48, q_57, q_58, q_59, q_97, q_101, q_10, q_21, q_255, q_46656, e0]
theorem m_onward {h : Hl} (ok : hOK h) {vb : Int32} {vme vmo vdi vsi vor : Nat → Int32} (t : tX h vb vme vmo vdi vsi vor) {N : Nat} (hN : 200000 ≤ N) {r : Br} (rok : bOK r) {vst : Nat → Int32} (hst : ∀ k, k < 5 → vst k = nI (bSt r k)) {b tt : Nat} (hb : b < hB h) (ht : tt < 1000) {c : Nat → Nat} {vw : Nat → Int32} (hw : ∀ b, b < 6 → vw b = wM (c b)) (hc : wOK h c) {last : Nat} (hl : last ≤ 5) : f_X7_onward N vsi vor vst vw (nI b) (nI tt) (wM last) = some (wM (nxS h (aliv r (min tt 31)) c last b)) := by
  have h6 := ok.1; obtain ⟨e1, e2, e3, e4, e5⟩ := t.2 b hb; obtain ⟨o1, o2, o3, o4, o5, o6, o7, o8, o9⟩ := ok.2.1 b hb
  have F0 := m_firm ok t hN rok hst hb ht
  have A : ∀ k, k < 5 → f_X7_isAlive vst (nI k) (nI tt) = some (if aliv r (min tt 31) k = true then nI 1 else nI 0) := fun k hk => m_alive rok hst hk ht
  generalize aliv r (min tt 31) = al at *
  unfold nxS
  by_cases h0 : c b = 0
  · simp (disch := omega) only [f_X7_onward, d_let, d_lef, d_ltt, d_ltf, d_eqt, d_eqf, ↓reduceIte, or_false, false_or, or_true, true_or, and_true, true_and, and_false, false_and, not_true_eq_false, not_false_eq_true, Bool.false_eq_true, Option.bind_some, q_ofNat, q_cl, q_lt, q_le, q_eq, nI_add, pk_mul, q_m1, q_m4, m1_lt, m1_le, m1_nlt, m1_nle, m1_ne, m1_ne2, m4_lt, m4_le, m4_nlt, m4_nle, m4_ne, m4_ne2, q_0, q_1, q_2, q_3, q_4, q_5, q_6, q_8, q_12, q_15, q_16, q_20, q_24, q_30, q_31, q_32, q_80, q_9, q_99, q_126, q_48, q_57, q_58, q_59, q_97, q_101, q_10, q_21, q_255, q_46656, hw, h0, wM_0, F0]
  · obtain ⟨i, hi, hq⟩ := hc.1 b hb h0
    have hk := o6 i hi
    obtain ⟨k, hk2⟩ : ∃ k, c b = k + 1 := ⟨c b - 1, by omega⟩
    have hp := pl_in (h := h) (b := b) (k := k) hi (by omega)
    have F2 := fa_le ok hb (al := al) (i := pl h b k + 1)
    have P := m_place ok t hN hb (k := k) (by omega)
    rw [if_pos hp.1] at P
    have L : lp (fun s => f_X7_onward_B50 vsi vor vst (nI b) (nI tt) s) N (nI (pl h b k + 1)) = some (if ff (fun j => al (hOrd h b j)) (pl h b k + 1) (hSiz h b - (pl h b k + 1)) < hSiz h b then Sum.inr (nI (hOrd h b (ff (fun j => al (hOrd h b j)) (pl h b k + 1) (hSiz h b - (pl h b k + 1))))) else Sum.inl (nI (hSiz h b))) := by
      refine lp_find (fun i => nI i) (fun i => al (hOrd h b i)) (hSiz h b) (pl h b k + 1) (fun i => Sum.inr (nI (hOrd h b i))) (Sum.inl (nI (hSiz h b))) (by omega) (by omega) rfl ?_ ?_ ?_
      · intro i _ hi hP
        have := o6 i hi
        simp (disch := omega) only [f_X7_onward_B50, d_let, d_lef, d_ltt, d_ltf, d_eqt, d_eqf, ↓reduceIte, or_false, false_or, or_true, true_or, and_true, true_and, and_false, false_and, not_true_eq_false, not_false_eq_true, Bool.false_eq_true, Option.bind_some, q_ofNat, q_cl, q_lt, q_le, q_eq, nI_add, pk_mul, q_m1, q_m4, m1_lt, m1_le, m1_nlt, m1_nle, m1_ne, m1_ne2, m4_lt, m4_le, m4_nlt, m4_nle, m4_ne, m4_ne2, q_0, q_1, q_2, q_3, q_4, q_5, q_6, q_8, q_12, q_15, q_16, q_20, q_24, q_30, q_31, q_32, q_80, q_9, q_99, q_126, q_48, q_57, q_58, q_59, q_97, q_101, q_10, q_21, q_255, q_46656, e4, e5 i hi, A, hP]
      · intro i _ hi hP
        have := o6 i hi
        simp (disch := omega) only [f_X7_onward_B50, d_let, d_lef, d_ltt, d_ltf, d_eqt, d_eqf, ↓reduceIte, or_false, false_or, or_true, true_or, and_true, true_and, and_false, false_and, not_true_eq_false, not_false_eq_true, Bool.false_eq_true, Option.bind_some, q_ofNat, q_cl, q_lt, q_le, q_eq, nI_add, pk_mul, q_m1, q_m4, m1_lt, m1_le, m1_nlt, m1_nle, m1_ne, m1_ne2, m4_lt, m4_le, m4_nlt, m4_nle, m4_ne, m4_ne2, q_0, q_1, q_2, q_3, q_4, q_5, q_6, q_8, q_12, q_15, q_16, q_20, q_24, q_30, q_31, q_32, q_80, q_9, q_99, q_126, q_48, q_57, q_58, q_59, q_97, q_101, q_10, q_21, q_255, q_46656, e4, e5 i hi, A, hP]
      · simp (disch := omega) only [f_X7_onward_B50, d_let, d_lef, d_ltt, d_ltf, d_eqt, d_eqf, ↓reduceIte, or_false, false_or, or_true, true_or, and_true, true_and, and_false, false_and, not_true_eq_false, not_false_eq_true, Bool.false_eq_true, Option.bind_some, q_ofNat, q_cl, q_lt, q_le, q_eq, nI_add, pk_mul, q_m1, q_m4, m1_lt, m1_le, m1_nlt, m1_nle, m1_ne, m1_ne2, m4_lt, m4_le, m4_nlt, m4_nle, m4_ne, m4_ne2, q_0, q_1, q_2, q_3, q_4, q_5, q_6, q_8, q_12, q_15, q_16, q_20, q_24, q_30, q_31, q_32, q_80, q_9, q_99, q_126, q_48, q_57, q_58, q_59, q_97, q_101, q_10, q_21, q_255, q_46656, e4]
    have G : f_X7_onward_L39 N vsi vor vst (nI b) (nI tt) (nI k) = some (wM (if fa h al b (pl h b k + 1) ≠ 0 then fa h al b (pl h b k + 1) else if al k = true then k + 1 else fa h al b 0)) := by
      unfold f_X7_onward_L39
      rw [P, Option.bind_some, nI_1, L, Option.bind_some]
      unfold fa
      by_cases hg : ff (fun j => al (hOrd h b j)) (pl h b k + 1) (hSiz h b - (pl h b k + 1)) < hSiz h b
      · simp (disch := omega) only [d_let, d_lef, d_ltt, d_ltf, d_eqt, d_eqf, ↓reduceIte, or_false, false_or, or_true, true_or, and_true, true_and, and_false, false_and, not_true_eq_false, not_false_eq_true, Bool.false_eq_true, Option.bind_some, q_ofNat, q_cl, q_lt, q_le, q_eq, nI_add, pk_mul, q_m1, q_m4, m1_lt, m1_le, m1_nlt, m1_nle, m1_ne, m1_ne2, m4_lt, m4_le, m4_nlt, m4_nle, m4_ne, m4_ne2, q_0, q_1, q_2, q_3, q_4, q_5, q_6, q_8, q_12, q_15, q_16, q_20, q_24, q_30, q_31, q_32, q_80, q_9, q_99, q_126, q_48, q_57, q_58, q_59, q_97, q_101, q_10, q_21, q_255, q_46656, Sum.elim_inr, ne_eq, wM_s, Nat.add_eq_zero_iff]
      · rw [if_neg hg, if_neg hg]
        have F0' := F0
        unfold fa at F0'
        by_cases ha : al k = true
        · simp (disch := omega) only [d_let, d_lef, d_ltt, d_ltf, d_eqt, d_eqf, ↓reduceIte, or_false, false_or, or_true, true_or, and_true, true_and, and_false, false_and, not_true_eq_false, not_false_eq_true, Bool.false_eq_true, Option.bind_some, q_ofNat, q_cl, q_lt, q_le, q_eq, nI_add, pk_mul, q_m1, q_m4, m1_lt, m1_le, m1_nlt, m1_nle, m1_ne, m1_ne2, m4_lt, m4_le, m4_nlt, m4_nle, m4_ne, m4_ne2, q_0, q_1, q_2, q_3, q_4, q_5, q_6, q_8, q_12, q_15, q_16, q_20, q_24, q_30, q_31, q_32, q_80, q_9, q_99, q_126, q_48, q_57, q_58, q_59, q_97, q_101, q_10, q_21, q_255, q_46656, Sum.elim_inl, ne_eq, A, ha, wM_s]
        · simp (disch := omega) only [d_let, d_lef, d_ltt, d_ltf, d_eqt, d_eqf, ↓reduceIte, or_false, false_or, or_true, true_or, and_true, true_and, and_false, false_and, not_true_eq_false, not_false_eq_true, Bool.false_eq_true, Option.bind_some, q_ofNat, q_cl, q_lt, q_le, q_eq, nI_add, pk_mul, q_m1, q_m4, m1_lt, m1_le, m1_nlt, m1_nle, m1_ne, m1_ne2, m4_lt, m4_le, m4_nlt, m4_nle, m4_ne, m4_ne2, q_0, q_1, q_2, q_3, q_4, q_5, q_6, q_8, q_12, q_15, q_16, q_20, q_24, q_30, q_31, q_32, q_80, q_9, q_99, q_126, q_48, q_57, q_58, q_59, q_97, q_101, q_10, q_21, q_255, q_46656, Sum.elim_inl, ne_eq, A, ha, F0']
    simp only [hk2, Nat.add_sub_cancel]
    by_cases ha : al k = true
    · by_cases hll : k + 1 = last
      · simp (disch := omega) only [f_X7_onward, d_let, d_lef, d_ltt, d_ltf, d_eqt, d_eqf, ↓reduceIte, or_false, false_or, or_true, true_or, and_true, true_and, and_false, false_and, not_true_eq_false, not_false_eq_true, Bool.false_eq_true, Option.bind_some, q_ofNat, q_cl, q_lt, q_le, q_eq, nI_add, pk_mul, q_m1, q_m4, m1_lt, m1_le, m1_nlt, m1_nle, m1_ne, m1_ne2, m4_lt, m4_le, m4_nlt, m4_nle, m4_ne, m4_ne2, q_0, q_1, q_2, q_3, q_4, q_5, q_6, q_8, q_12, q_15, q_16, q_20, q_24, q_30, q_31, q_32, q_80, q_9, q_99, q_126, q_48, q_57, q_58, q_59, q_97, q_101, q_10, q_21, q_255, q_46656, hw, hk2, wM_s, A, ha, q_wM, G, ne_eq]
      · simp (disch := omega) only [f_X7_onward, d_let, d_lef, d_ltt, d_ltf, d_eqt, d_eqf, ↓reduceIte, or_false, false_or, or_true, true_or, and_true, true_and, and_false, false_and, not_true_eq_false, not_false_eq_true, Bool.false_eq_true, Option.bind_some, q_ofNat, q_cl, q_lt, q_le, q_eq, nI_add, pk_mul, q_m1, q_m4, m1_lt, m1_le, m1_nlt, m1_nle, m1_ne, m1_ne2, m4_lt, m4_le, m4_nlt, m4_nle, m4_ne, m4_ne2, q_0, q_1, q_2, q_3, q_4, q_5, q_6, q_8, q_12, q_15, q_16, q_20, q_24, q_30, q_31, q_32, q_80, q_9, q_99, q_126, q_48, q_57, q_58, q_59, q_97, q_101, q_10, q_21, q_255, q_46656, hw, hk2, wM_s, A, ha, q_wM, ne_eq]
    · simp (disch := omega) only [f_X7_onward, d_let, d_lef, d_ltt, d_ltf, d_eqt, d_eqf, ↓reduceIte, or_false, false_or, or_true, true_or, and_true, true_and, and_false, false_and, not_true_eq_false, not_false_eq_true, Bool.false_eq_true, Option.bind_some, q_ofNat, q_cl, q_lt, q_le, q_eq, nI_add, pk_mul, q_m1, q_m4, m1_lt, m1_le, m1_nlt, m1_nle, m1_ne, m1_ne2, m4_lt, m4_le, m4_nlt, m4_nle, m4_ne, m4_ne2, q_0, q_1, q_2, q_3, q_4, q_5, q_6, q_8, q_12, q_15, q_16, q_20, q_24, q_30, q_31, q_32, q_80, q_9, q_99, q_126, q_48, q_57, q_58, q_59, q_97, q_101, q_10, q_21, q_255, q_46656, hw, hk2, wM_s, A, ha, G, ne_eq]
