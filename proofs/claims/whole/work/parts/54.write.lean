theorem q_wX {k l : Nat} (hk : k < 1000) (hl : l < 1000) : (nI k = wX l) = (l = k + 1) := by
  unfold wX
  by_cases h0 : l = 0
  · rw [if_pos h0, m1_ne (by omega)]; exact (eq_false (by omega)).symm
  · rw [if_neg h0, q_eq (by omega) (by omega)]; exact propext ⟨fun q => by omega, fun q => by omega⟩
theorem q_wXm {l : Nat} (hl : l < 1000) : (wX l = m1) = (l = 0) := by
  unfold wX
  by_cases h0 : l = 0
  · rw [if_pos h0]; exact (eq_true rfl).trans (eq_true h0).symm
  · rw [if_neg h0, m1_ne (by omega)]; exact (eq_false h0).symm
theorem fa_le {h : Hl} (ok : hOK h) {b : Nat} (hb : b < hB h) {al : Nat → Bool} {i : Nat} : fa h al b i ≤ 5 := by
  unfold fa
  split
  · rename_i hg; have := (ok.2.1 b hb).2.2.2.2.2.1 _ hg; omega
  · omega
theorem leS_le {h : Hl} (ok : hOK h) {b : Nat} (hb : b < hB h) {al : Nat → Bool} {cnt : Nat → Nat} : leS h al cnt b ≤ 5 := by
  rcases leS_ok (h := h) (al := al) (cnt := cnt) (b := b) with q | ⟨j, h1, h2⟩
  · omega
  · have := (ok.2.1 b hb).2.2.2.2.2.1 _ h1; omega
theorem x_next {h : Hl} (ok : hOK h) {vb : Int32} {vme vmo vdi vsi vor : Nat → Int32} (t : tX h vb vme vmo vdi vsi vor) {N : Nat} (hN : 200000 ≤ N) {b : Nat} (hb : b < hB h) {al : Nat → Bool} {c : Nat → Nat} {vw : Nat → Int32} (hw : ∀ b, b < 6 → vw b = wX (c b)) (hc : wOK h c) {last : Nat} (hl : last ≤ 5) : f_X0_byNext N vw vsi vor (nI b) (nI (bs al 5)) (wX last) = some (wX (nxS h al c last b)) := by
  have h6 := ok.1; obtain ⟨e1, e2, e3, e4, e5⟩ := t.2 b hb; obtain ⟨o1, o2, o3, o4, o5, o6, o7, o8, o9⟩ := ok.2.1 b hb
  have F0 : f_X5_firstAlive N vsi vor (nI b) (nI 0) (nI (bs al 5)) = some (wX (fa h al b 0)) := x_first ok t hN hb (by omega)
  unfold nxS
  by_cases h0 : c b = 0
  · simp (disch := omega) only [f_X0_byNext, f_X0_byNext_L30, f_X0_byNext_L31, f_X0_byNext_L48, f_X0_byNext_L77, f_X6_isName, d_let, d_lef, d_ltt, d_ltf, d_eqt, d_eqf, ↓reduceIte, or_false, false_or, or_true, true_or, and_true, true_and, and_false, false_and, not_true_eq_false, not_false_eq_true, Bool.false_eq_true, Option.bind_some, q_ofNat, q_cl, q_lt, q_le, q_eq, nI_add, pk_mul, q_m1, q_m4, m1_lt, m1_le, m1_nlt, m1_nle, m1_ne, m1_ne2, m4_lt, m4_le, m4_nlt, m4_nle, m4_ne, m4_ne2, q_0, q_1, q_2, q_3, q_4, q_5, q_6, q_8, q_12, q_15, q_16, q_20, q_24, q_30, q_31, q_32, q_80, q_9, q_99, q_126, q_48, q_57, q_58, q_59, q_97, q_101, q_10, q_21, q_255, q_46656, hw, h0, wX_0, x_placeN ok t hN hb, F0]
  · obtain ⟨i, hi, hq⟩ := hc.1 b hb h0
    have hk := o6 i hi
    obtain ⟨k, hk2⟩ : ∃ k, c b = k + 1 := ⟨c b - 1, by omega⟩
    have hp := pl_in (h := h) (b := b) (k := k) hi (by omega)
    have F1 : f_X5_firstAlive N vsi vor (nI b) (nI (pl h b k + 1)) (nI (bs al 5)) = some (wX (fa h al b (pl h b k + 1))) := x_first ok t hN hb (by omega)
    have F2 := fa_le ok hb (al := al) (i := pl h b k + 1)
    have P := x_place ok t hN hb (k := k) (by omega)
    rw [if_pos hp.1] at P
    simp only [hk2, Nat.add_sub_cancel]
    by_cases ha : al k = true
    · by_cases hll : k + 1 = last
      · by_cases hf : fa h al b (pl h b k + 1) = 0
        · simp (disch := omega) only [f_X0_byNext, f_X0_byNext_L30, f_X0_byNext_L31, f_X0_byNext_L48, f_X0_byNext_L77, f_X6_isName, d_let, d_lef, d_ltt, d_ltf, d_eqt, d_eqf, ↓reduceIte, or_false, false_or, or_true, true_or, and_true, true_and, and_false, false_and, not_true_eq_false, not_false_eq_true, Bool.false_eq_true, Option.bind_some, q_ofNat, q_cl, q_lt, q_le, q_eq, nI_add, pk_mul, q_m1, q_m4, m1_lt, m1_le, m1_nlt, m1_nle, m1_ne, m1_ne2, m4_lt, m4_le, m4_nlt, m4_nle, m4_ne, m4_ne2, q_0, q_1, q_2, q_3, q_4, q_5, q_6, q_8, q_12, q_15, q_16, q_20, q_24, q_30, q_31, q_32, q_80, q_9, q_99, q_126, q_48, q_57, q_58, q_59, q_97, q_101, q_10, q_21, q_255, q_46656, hw, hk2, wX_s, q_bs, q_wX, q_wXm, P, F0, F1, ha, ne_eq]
        · simp (disch := omega) only [f_X0_byNext, f_X0_byNext_L30, f_X0_byNext_L31, f_X0_byNext_L48, f_X0_byNext_L77, f_X6_isName, d_let, d_lef, d_ltt, d_ltf, d_eqt, d_eqf, ↓reduceIte, or_false, false_or, or_true, true_or, and_true, true_and, and_false, false_and, not_true_eq_false, not_false_eq_true, Bool.false_eq_true, Option.bind_some, q_ofNat, q_cl, q_lt, q_le, q_eq, nI_add, pk_mul, q_m1, q_m4, m1_lt, m1_le, m1_nlt, m1_nle, m1_ne, m1_ne2, m4_lt, m4_le, m4_nlt, m4_nle, m4_ne, m4_ne2, q_0, q_1, q_2, q_3, q_4, q_5, q_6, q_8, q_12, q_15, q_16, q_20, q_24, q_30, q_31, q_32, q_80, q_9, q_99, q_126, q_48, q_57, q_58, q_59, q_97, q_101, q_10, q_21, q_255, q_46656, hw, hk2, wX_s, q_bs, q_wX, q_wXm, P, F0, F1, ha, ne_eq]
      · simp (disch := omega) only [f_X0_byNext, f_X0_byNext_L30, f_X0_byNext_L31, f_X0_byNext_L48, f_X0_byNext_L77, f_X6_isName, d_let, d_lef, d_ltt, d_ltf, d_eqt, d_eqf, ↓reduceIte, or_false, false_or, or_true, true_or, and_true, true_and, and_false, false_and, not_true_eq_false, not_false_eq_true, Bool.false_eq_true, Option.bind_some, q_ofNat, q_cl, q_lt, q_le, q_eq, nI_add, pk_mul, q_m1, q_m4, m1_lt, m1_le, m1_nlt, m1_nle, m1_ne, m1_ne2, m4_lt, m4_le, m4_nlt, m4_nle, m4_ne, m4_ne2, q_0, q_1, q_2, q_3, q_4, q_5, q_6, q_8, q_12, q_15, q_16, q_20, q_24, q_30, q_31, q_32, q_80, q_9, q_99, q_126, q_48, q_57, q_58, q_59, q_97, q_101, q_10, q_21, q_255, q_46656, hw, hk2, wX_s, q_bs, q_wX, q_wXm, P, F0, F1, ha, ne_eq]
    · by_cases hf : fa h al b (pl h b k + 1) = 0
      · simp (disch := omega) only [f_X0_byNext, f_X0_byNext_L30, f_X0_byNext_L31, f_X0_byNext_L48, f_X0_byNext_L77, f_X6_isName, d_let, d_lef, d_ltt, d_ltf, d_eqt, d_eqf, ↓reduceIte, or_false, false_or, or_true, true_or, and_true, true_and, and_false, false_and, not_true_eq_false, not_false_eq_true, Bool.false_eq_true, Option.bind_some, q_ofNat, q_cl, q_lt, q_le, q_eq, nI_add, pk_mul, q_m1, q_m4, m1_lt, m1_le, m1_nlt, m1_nle, m1_ne, m1_ne2, m4_lt, m4_le, m4_nlt, m4_nle, m4_ne, m4_ne2, q_0, q_1, q_2, q_3, q_4, q_5, q_6, q_8, q_12, q_15, q_16, q_20, q_24, q_30, q_31, q_32, q_80, q_9, q_99, q_126, q_48, q_57, q_58, q_59, q_97, q_101, q_10, q_21, q_255, q_46656, hw, hk2, wX_s, q_bs, q_wX, q_wXm, P, F0, F1, ha, ne_eq]
      · simp (disch := omega) only [f_X0_byNext, f_X0_byNext_L30, f_X0_byNext_L31, f_X0_byNext_L48, f_X0_byNext_L77, f_X6_isName, d_let, d_lef, d_ltt, d_ltf, d_eqt, d_eqf, ↓reduceIte, or_false, false_or, or_true, true_or, and_true, true_and, and_false, false_and, not_true_eq_false, not_false_eq_true, Bool.false_eq_true, Option.bind_some, q_ofNat, q_cl, q_lt, q_le, q_eq, nI_add, pk_mul, q_m1, q_m4, m1_lt, m1_le, m1_nlt, m1_nle, m1_ne, m1_ne2, m4_lt, m4_le, m4_nlt, m4_nle, m4_ne, m4_ne2, q_0, q_1, q_2, q_3, q_4, q_5, q_6, q_8, q_12, q_15, q_16, q_20, q_24, q_30, q_31, q_32, q_80, q_9, q_99, q_126, q_48, q_57, q_58, q_59, q_97, q_101, q_10, q_21, q_255, q_46656, hw, hk2, wX_s, q_bs, q_wX, q_wXm, P, F0, F1, ha, ne_eq]
theorem x_follow {h : Hl} (ok : hOK h) {vb : Int32} {vme vmo vdi vsi vor : Nat → Int32} (t : tX h vb vme vmo vdi vsi vor) {N : Nat} (hN : 200000 ≤ N) {b : Nat} (hb : b < hB h) (hm : hMov h b = 3) {al : Nat → Bool} {c : Nat → Nat} {vw : Nat → Int32} (hw : ∀ b, b < 6 → vw b = wX (c b)) (hc : wOK h c) : f_X0_byFollow N vw vdi vsi vor (nI b) (nI (bs al 5)) = some (wX (foS h al c b)) := by
  have h6 := ok.1; obtain ⟨e1, e2, e3, e4, e5⟩ := t.2 b hb; obtain ⟨o1, o2, o3, o4, o5, o6, o7, o8, o9⟩ := ok.2.1 b hb
  have F0 : f_X5_firstAlive N vsi vor (nI b) (nI 0) (nI (bs al 5)) = some (wX (fa h al b 0)) := x_first ok t hN hb (by omega)
  have hd := o8 hm
  have e3 := e3 (Or.inl hm)
  have hc5 := wOK_lt ok hc (hDig h b)
  unfold foS
  by_cases h0 : c (hDig h b) = 0
  · simp (disch := omega) only [f_X0_byFollow, f_X0_byFollow_L30, f_X0_byFollow_L31, f_X0_byFollow_L55, f_X0_byFollow_L56, f_X0_byFollow_L79, f_X6_isName, d_let, d_lef, d_ltt, d_ltf, d_eqt, d_eqf, ↓reduceIte, or_false, false_or, or_true, true_or, and_true, true_and, and_false, false_and, not_true_eq_false, not_false_eq_true, Bool.false_eq_true, Option.bind_some, q_ofNat, q_cl, q_lt, q_le, q_eq, nI_add, pk_mul, q_m1, q_m4, m1_lt, m1_le, m1_nlt, m1_nle, m1_ne, m1_ne2, m4_lt, m4_le, m4_nlt, m4_nle, m4_ne, m4_ne2, q_0, q_1, q_2, q_3, q_4, q_5, q_6, q_8, q_12, q_15, q_16, q_20, q_24, q_30, q_31, q_32, q_80, q_9, q_99, q_126, q_48, q_57, q_58, q_59, q_97, q_101, q_10, q_21, q_255, q_46656, hw, e3, h0, wX_0, F0, ne_eq]
  · obtain ⟨k, hk2⟩ : ∃ k, c (hDig h b) = k + 1 := ⟨c (hDig h b) - 1, by omega⟩
    have P := x_place ok t hN hb (k := k) (by omega)
    have hpl := pl_le h b k
    simp only [hk2, Nat.add_sub_cancel]
    by_cases ha : al k = true
    · by_cases hp : pl h b k < hSiz h b
      · rw [if_pos hp] at P
        simp (disch := omega) only [f_X0_byFollow, f_X0_byFollow_L30, f_X0_byFollow_L31, f_X0_byFollow_L55, f_X0_byFollow_L56, f_X0_byFollow_L79, f_X6_isName, d_let, d_lef, d_ltt, d_ltf, d_eqt, d_eqf, ↓reduceIte, or_false, false_or, or_true, true_or, and_true, true_and, and_false, false_and, not_true_eq_false, not_false_eq_true, Bool.false_eq_true, Option.bind_some, q_ofNat, q_cl, q_lt, q_le, q_eq, nI_add, pk_mul, q_m1, q_m4, m1_lt, m1_le, m1_nlt, m1_nle, m1_ne, m1_ne2, m4_lt, m4_le, m4_nlt, m4_nle, m4_ne, m4_ne2, q_0, q_1, q_2, q_3, q_4, q_5, q_6, q_8, q_12, q_15, q_16, q_20, q_24, q_30, q_31, q_32, q_80, q_9, q_99, q_126, q_48, q_57, q_58, q_59, q_97, q_101, q_10, q_21, q_255, q_46656, hw, e3, hk2, wX_s, q_bs, P, F0, ha, ne_eq]
      · rw [if_neg hp] at P
        simp (disch := omega) only [f_X0_byFollow, f_X0_byFollow_L30, f_X0_byFollow_L31, f_X0_byFollow_L55, f_X0_byFollow_L56, f_X0_byFollow_L79, f_X6_isName, d_let, d_lef, d_ltt, d_ltf, d_eqt, d_eqf, ↓reduceIte, or_false, false_or, or_true, true_or, and_true, true_and, and_false, false_and, not_true_eq_false, not_false_eq_true, Bool.false_eq_true, Option.bind_some, q_ofNat, q_cl, q_lt, q_le, q_eq, nI_add, pk_mul, q_m1, q_m4, m1_lt, m1_le, m1_nlt, m1_nle, m1_ne, m1_ne2, m4_lt, m4_le, m4_nlt, m4_nle, m4_ne, m4_ne2, q_0, q_1, q_2, q_3, q_4, q_5, q_6, q_8, q_12, q_15, q_16, q_20, q_24, q_30, q_31, q_32, q_80, q_9, q_99, q_126, q_48, q_57, q_58, q_59, q_97, q_101, q_10, q_21, q_255, q_46656, hw, e3, hk2, wX_s, q_bs, P, F0, ha, ne_eq]
    · simp (disch := omega) only [f_X0_byFollow, f_X0_byFollow_L30, f_X0_byFollow_L31, f_X0_byFollow_L55, f_X0_byFollow_L56, f_X0_byFollow_L79, f_X6_isName, d_let, d_lef, d_ltt, d_ltf, d_eqt, d_eqf, ↓reduceIte, or_false, false_or, or_true, true_or, and_true, true_and, and_false, false_and, not_true_eq_false, not_false_eq_true, Bool.false_eq_true, Option.bind_some, q_ofNat, q_cl, q_lt, q_le, q_eq, nI_add, pk_mul, q_m1, q_m4, m1_lt, m1_le, m1_nlt, m1_nle, m1_ne, m1_ne2, m4_lt, m4_le, m4_nlt, m4_nle, m4_ne, m4_ne2, q_0, q_1, q_2, q_3, q_4, q_5, q_6, q_8, q_12, q_15, q_16, q_20, q_24, q_30, q_31, q_32, q_80, q_9, q_99, q_126, q_48, q_57, q_58, q_59, q_97, q_101, q_10, q_21, q_255, q_46656, hw, e3, hk2, wX_s, q_bs, F0, ha, ne_eq]
theorem x_move {h : Hl} (ok : hOK h) {vb : Int32} {vme vmo vdi vsi vor : Nat → Int32} (t : tX h vb vme vmo vdi vsi vor) {N : Nat} (hN : 200000 ≤ N) {b : Nat} (hb : b < hB h) {al lk : Nat → Bool} {c cnt : Nat → Nat} {vw vc : Nat → Int32} (hw : ∀ b, b < 6 → vw b = wX (c b)) (hc : wOK h c) (hvc : ∀ k, k < 5 → vc k = nI (cnt k)) (hc2 : ∀ k, cnt k ≤ 120) {last : Nat} (hl : last ≤ 5) : f_X0_byMove N vw vc vmo vdi vsi vor (nI b) (nI (bs al 5)) (wX last) (nI (bs lk (hB h))) = some (wX (moS h al c cnt last (lk b) b)) := by
  have h6 := ok.1; obtain ⟨e1, e2, e3, e4, e5⟩ := t.2 b hb; obtain ⟨o1, o2, o3, o4, o5, o6, o7, o8, o9⟩ := ok.2.1 b hb
  have F0 : f_X5_firstAlive N vsi vor (nI b) (nI 0) (nI (bs al 5)) = some (wX (fa h al b 0)) := x_first ok t hN hb (by omega)
  unfold moS
  by_cases k1 : hMov h b = 1
  · simp (disch := omega) only [f_X0_byMove, d_let, d_lef, d_ltt, d_ltf, d_eqt, d_eqf, ↓reduceIte, or_false, false_or, or_true, true_or, and_true, true_and, and_false, false_and, not_true_eq_false, not_false_eq_true, Bool.false_eq_true, Option.bind_some, q_ofNat, q_cl, q_lt, q_le, q_eq, nI_add, pk_mul, q_m1, q_m4, m1_lt, m1_le, m1_nlt, m1_nle, m1_ne, m1_ne2, m4_lt, m4_le, m4_nlt, m4_nle, m4_ne, m4_ne2, q_0, q_1, q_2, q_3, q_4, q_5, q_6, q_8, q_12, q_15, q_16, q_20, q_24, q_30, q_31, q_32, q_80, q_9, q_99, q_126, q_48, q_57, q_58, q_59, q_97, q_101, q_10, q_21, q_255, q_46656, e2, x_next ok t hN hb hw hc hl]
  · by_cases k2 : hMov h b = 2
    · simp (disch := omega) only [f_X0_byMove, d_let, d_lef, d_ltt, d_ltf, d_eqt, d_eqf, ↓reduceIte, or_false, false_or, or_true, true_or, and_true, true_and, and_false, false_and, not_true_eq_false, not_false_eq_true, Bool.false_eq_true, Option.bind_some, q_ofNat, q_cl, q_lt, q_le, q_eq, nI_add, pk_mul, q_m1, q_m4, m1_lt, m1_le, m1_nlt, m1_nle, m1_ne, m1_ne2, m4_lt, m4_le, m4_nlt, m4_nle, m4_ne, m4_ne2, q_0, q_1, q_2, q_3, q_4, q_5, q_6, q_8, q_12, q_15, q_16, q_20, q_24, q_30, q_31, q_32, q_80, q_9, q_99, q_126, q_48, q_57, q_58, q_59, q_97, q_101, q_10, q_21, q_255, q_46656, e2, x_lead ok t hN hb hvc hc2]
    · by_cases k3 : hMov h b = 3
      · simp (disch := omega) only [f_X0_byMove, d_let, d_lef, d_ltt, d_ltf, d_eqt, d_eqf, ↓reduceIte, or_false, false_or, or_true, true_or, and_true, true_and, and_false, false_and, not_true_eq_false, not_false_eq_true, Bool.false_eq_true, Option.bind_some, q_ofNat, q_cl, q_lt, q_le, q_eq, nI_add, pk_mul, q_m1, q_m4, m1_lt, m1_le, m1_nlt, m1_nle, m1_ne, m1_ne2, m4_lt, m4_le, m4_nlt, m4_nle, m4_ne, m4_ne2, q_0, q_1, q_2, q_3, q_4, q_5, q_6, q_8, q_12, q_15, q_16, q_20, q_24, q_30, q_31, q_32, q_80, q_9, q_99, q_126, q_48, q_57, q_58, q_59, q_97, q_101, q_10, q_21, q_255, q_46656, e2, x_follow ok t hN hb k3 hw hc]
      · by_cases k4 : hMov h b = 4
        · by_cases hk : lk b = true
          · simp (disch := omega) only [f_X0_byMove, d_let, d_lef, d_ltt, d_ltf, d_eqt, d_eqf, ↓reduceIte, or_false, false_or, or_true, true_or, and_true, true_and, and_false, false_and, not_true_eq_false, not_false_eq_true, Bool.false_eq_true, Option.bind_some, q_ofNat, q_cl, q_lt, q_le, q_eq, nI_add, pk_mul, q_m1, q_m4, m1_lt, m1_le, m1_nlt, m1_nle, m1_ne, m1_ne2, m4_lt, m4_le, m4_nlt, m4_nle, m4_ne, m4_ne2, q_0, q_1, q_2, q_3, q_4, q_5, q_6, q_8, q_12, q_15, q_16, q_20, q_24, q_30, q_31, q_32, q_80, q_9, q_99, q_126, q_48, q_57, q_58, q_59, q_97, q_101, q_10, q_21, q_255, q_46656, e2, q_bs, hk, x_lead ok t hN hb hvc hc2]
          · simp (disch := omega) only [f_X0_byMove, d_let, d_lef, d_ltt, d_ltf, d_eqt, d_eqf, ↓reduceIte, or_false, false_or, or_true, true_or, and_true, true_and, and_false, false_and, not_true_eq_false, not_false_eq_true, Bool.false_eq_true, Option.bind_some, q_ofNat, q_cl, q_lt, q_le, q_eq, nI_add, pk_mul, q_m1, q_m4, m1_lt, m1_le, m1_nlt, m1_nle, m1_ne, m1_ne2, m4_lt, m4_le, m4_nlt, m4_nle, m4_ne, m4_ne2, q_0, q_1, q_2, q_3, q_4, q_5, q_6, q_8, q_12, q_15, q_16, q_20, q_24, q_30, q_31, q_32, q_80, q_9, q_99, q_126, q_48, q_57, q_58, q_59, q_97, q_101, q_10, q_21, q_255, q_46656, e2, q_bs, hk, F0]
        · simp (disch := omega) only [f_X0_byMove, d_let, d_lef, d_ltt, d_ltf, d_eqt, d_eqf, ↓reduceIte, or_false, false_or, or_true, true_or, and_true, true_and, and_false, false_and, not_true_eq_false, not_false_eq_true, Bool.false_eq_true, Option.bind_some, q_ofNat, q_cl, q_lt, q_le, q_eq, nI_add, pk_mul, q_m1, q_m4, m1_lt, m1_le, m1_nlt, m1_nle, m1_ne, m1_ne2, m4_lt, m4_le, m4_nlt, m4_nle, m4_ne, m4_ne2, q_0, q_1, q_2, q_3, q_4, q_5, q_6, q_8, q_12, q_15, q_16, q_20, q_24, q_30, q_31, q_32, q_80, q_9, q_99, q_126, q_48, q_57, q_58, q_59, q_97, q_101, q_10, q_21, q_255, q_46656, e2, F0]
-- how a block goes in a ballot, by who waits (a code) and how long
def fmS (wt wn b : Nat) : Nat := if b + 1 = wt then wn else 0
def mdS (wt wn t b : Nat) : Nat := if t < fmS wt wn b then 0 else if t = fmS wt wn b then 1 else 2
theorem moS_le {h : Hl} (ok : hOK h) {b : Nat} (hb : b < hB h) {al : Nat → Bool} {c cnt : Nat → Nat} (hc : wOK h c) {last : Nat} {lk : Bool} : moS h al c cnt last lk b ≤ 5 := by
  have f1 : ∀ i, fa h al b i ≤ 5 := fun i => fa_le ok hb
  have f2 : leS h al cnt b ≤ 5 := leS_le ok hb
  have f3 := wOK_lt ok hc b
  have f4 := wOK_lt ok hc (hDig h b)
  have g0 := f1 0
  have g1 := f1 (pl h b (c b - 1) + 1)
  unfold moS nxS foS
  repeat' split
  all_goals omega
theorem stS_le {h : Hl} (ok : hOK h) {al : Nat → Bool} {md : Nat → Nat} {lk : Nat → Bool} {c : Nat → Nat} (hc : wOK h c) (b : Nat) : stS h al md lk c b ≤ 5 := wOK_lt ok (stS_ok hc) b
theorem x_firm {wt wn b : Nat} (hb : b < 6) (hw : wt ≤ 6) : f_X0_firmBallot (wX wt) (nI wn) (nI b) = some (nI (fmS wt wn b)) := by
  unfold fmS
  by_cases h : b + 1 = wt
  · simp (disch := omega) only [f_X0_firmBallot, d_let, d_lef, d_ltt, d_ltf, d_eqt, d_eqf, ↓reduceIte, or_false, false_or, or_true, true_or, and_true, true_and, and_false, false_and, not_true_eq_false, not_false_eq_true, Bool.false_eq_true, Option.bind_some, q_ofNat, q_cl, q_lt, q_le, q_eq, nI_add, pk_mul, q_m1, q_m4, m1_lt, m1_le, m1_nlt, m1_nle, m1_ne, m1_ne2, m4_lt, m4_le, m4_nlt, m4_nle, m4_ne, m4_ne2, q_0, q_1, q_2, q_3, q_4, q_5, q_6, q_8, q_12, q_15, q_16, q_20, q_24, q_30, q_31, q_32, q_80, q_9, q_99, q_126, q_48, q_57, q_58, q_59, q_97, q_101, q_10, q_21, q_255, q_46656, q_wX]
  · simp (disch := omega) only [f_X0_firmBallot, d_let, d_lef, d_ltt, d_ltf, d_eqt, d_eqf, ↓reduceIte, or_false, false_or, or_true, true_or, and_true, true_and, and_false, false_and, not_true_eq_false, not_false_eq_true, Bool.false_eq_true, Option.bind_some, q_ofNat, q_cl, q_lt, q_le, q_eq, nI_add, pk_mul, q_m1, q_m4, m1_lt, m1_le, m1_nlt, m1_nle, m1_ne, m1_ne2, m4_lt, m4_le, m4_nlt, m4_nle, m4_ne, m4_ne2, q_0, q_1, q_2, q_3, q_4, q_5, q_6, q_8, q_12, q_15, q_16, q_20, q_24, q_30, q_31, q_32, q_80, q_9, q_99, q_126, q_48, q_57, q_58, q_59, q_97, q_101, q_10, q_21, q_255, q_46656, q_wX]
def wrF (g : Nat → Int32) (b : Nat) (v : Nat → Int32) : Nat → Int32 := upd v b (g b)
theorem wrF_at (g v : Nat → Int32) : ∀ n j, it (wrF g) v n j = if j < n then g j else v j := by
  intro n
  induction n with
  | zero => intro j; rw [if_neg (Nat.not_lt_zero j)]; rfl
  | succ n ih =>
    intro j
    show upd (it (wrF g) v n) n (g n) j = _
    unfold upd
    by_cases h : j = n
    · rw [if_pos h, if_pos (by omega), h]
    · rw [if_neg h, ih]
      by_cases h2 : j < n
      · rw [if_pos h2, if_pos (by omega)]
      · rw [if_neg h2, if_neg (by omega)]
theorem fmS_le {wt wn b : Nat} : fmS wt wn b ≤ wn := by unfold fmS; split <;> omega
theorem x_write {h : Hl} (ok : hOK h) {vb : Int32} {vme vmo vdi vsi vor : Nat → Int32} (t : tX h vb vme vmo vdi vsi vor) {N : Nat} (hN : 200000 ≤ N) {r : Br} (rok : bOK r) {vst : Nat → Int32} (hst : ∀ k, k < 5 → vst k = nI (bSt r k)) {tt : Nat} (ht : tt < 1000) {wt wn : Nat} (hwt : wt ≤ 6) (hwn : wn < 1000) {lk : Nat → Bool} {c : Nat → Nat} {vw vws vc : Nat → Int32} (hw : ∀ b, b < 6 → vw b = wX (c b)) (hc : wOK h c) (hvc : ∀ k, k < 5 → vc k = nI (cn h c k)) :
    ∃ u : (Nat → Int32) × (Nat → Int32) × (Nat → Int32), f_X0_write N (wX wt) (nI wn) vw vws vc vb vme vmo vdi vsi vor vst (nI tt) (nI (bs lk (hB h))) = some u ∧ (∀ b, b < 6 → u.1 b = wX (stS h (aliv r tt) (mdS wt wn tt) lk c b)) ∧ (∀ k, k < 5 → u.2.2 k = nI (cn h (stS h (aliv r tt) (mdS wt wn tt) lk c) k)) := by
  have h6 := ok.1
  have e0 := t.1
  have hc2 := cn_le ok c
  have hla := laS_le (cn h c)
  have L : lp (fun s : Int32 × (Nat → Int32) => f_X0_write_B16 N (wX wt) (nI wn) vw vc vb vmo vdi vsi vor (nI tt) (nI (bs lk (hB h))) (wX (laS (cn h c))) (nI (bs (aliv r tt) 5)) s.1 s.2) N ((0 : Int32), vws) = some (nI (hB h), it (wrF (fun b => wX (stS h (aliv r tt) (mdS wt wn tt) lk c b))) vws (hB h)) := by
    refine lp_for (fun k => (nI k, it (wrF (fun b => wX (stS h (aliv r tt) (mdS wt wn tt) lk c b))) vws k)) (hB h) (by omega) rfl ?_ ?_
    · intro b hb
      have F0 : f_X5_firstAlive N vsi vor (nI b) (nI 0) (nI (bs (aliv r tt) 5)) = some (wX (fa h (aliv r tt) b 0)) := x_first ok t hN hb (by omega)
      have M := x_move ok t hN hb (al := aliv r tt) (lk := lk) hw hc hvc hc2 hla
      have hfm := fmS_le (wt := wt) (wn := wn) (b := b)
      show _ = some (Sum.inl (nI (b + 1), upd (it (wrF (fun b => wX (stS h (aliv r tt) (mdS wt wn tt) lk c b))) vws b) b (wX (stS h (aliv r tt) (mdS wt wn tt) lk c b))))
      generalize it (wrF (fun b => wX (stS h (aliv r tt) (mdS wt wn tt) lk c b))) vws b = v
      unfold stS mdS
      by_cases k0 : tt < fmS wt wn b
      · simp (disch := omega) only [f_X0_write_B16, f_X0_write_L86, f_X0_write_L87, d_let, d_lef, d_ltt, d_ltf, d_eqt, d_eqf, ↓reduceIte, or_false, false_or, or_true, true_or, and_true, true_and, and_false, false_and, not_true_eq_false, not_false_eq_true, Bool.false_eq_true, Option.bind_some, q_ofNat, q_cl, q_lt, q_le, q_eq, nI_add, pk_mul, q_m1, q_m4, m1_lt, m1_le, m1_nlt, m1_nle, m1_ne, m1_ne2, m4_lt, m4_le, m4_nlt, m4_nle, m4_ne, m4_ne2, q_0, q_1, q_2, q_3, q_4, q_5, q_6, q_8, q_12, q_15, q_16, q_20, q_24, q_30, q_31, q_32, q_80, q_9, q_99, q_126, q_48, q_57, q_58, q_59, q_97, q_101, q_10, q_21, q_255, q_46656, e0, x_firm, wX_0]
      · by_cases k1 : tt = fmS wt wn b
        · simp (disch := omega) only [f_X0_write_B16, f_X0_write_L86, f_X0_write_L87, d_let, d_lef, d_ltt, d_ltf, d_eqt, d_eqf, ↓reduceIte, or_false, false_or, or_true, true_or, and_true, true_and, and_false, false_and, not_true_eq_false, not_false_eq_true, Bool.false_eq_true, Option.bind_some, q_ofNat, q_cl, q_lt, q_le, q_eq, nI_add, pk_mul, q_m1, q_m4, m1_lt, m1_le, m1_nlt, m1_nle, m1_ne, m1_ne2, m4_lt, m4_le, m4_nlt, m4_nle, m4_ne, m4_ne2, q_0, q_1, q_2, q_3, q_4, q_5, q_6, q_8, q_12, q_15, q_16, q_20, q_24, q_30, q_31, q_32, q_80, q_9, q_99, q_126, q_48, q_57, q_58, q_59, q_97, q_101, q_10, q_21, q_255, q_46656, e0, x_firm, F0]
        · simp (disch := omega) only [f_X0_write_B16, f_X0_write_L86, f_X0_write_L87, d_let, d_lef, d_ltt, d_ltf, d_eqt, d_eqf, ↓reduceIte, or_false, false_or, or_true, true_or, and_true, true_and, and_false, false_and, not_true_eq_false, not_false_eq_true, Bool.false_eq_true, Option.bind_some, q_ofNat, q_cl, q_lt, q_le, q_eq, nI_add, pk_mul, q_m1, q_m4, m1_lt, m1_le, m1_nlt, m1_nle, m1_ne, m1_ne2, m4_lt, m4_le, m4_nlt, m4_nle, m4_ne, m4_ne2, q_0, q_1, q_2, q_3, q_4, q_5, q_6, q_8, q_12, q_15, q_16, q_20, q_24, q_30, q_31, q_32, q_80, q_9, q_99, q_126, q_48, q_57, q_58, q_59, q_97, q_101, q_10, q_21, q_255, q_46656, e0, x_firm, M]
    · simp (disch := omega) only [f_X0_write_B16, d_let, d_lef, d_ltt, d_ltf, d_eqt, d_eqf, ↓reduceIte, or_false, false_or, or_true, true_or, and_true, true_and, and_false, false_and, not_true_eq_false, not_false_eq_true, Bool.false_eq_true, Option.bind_some, q_ofNat, q_cl, q_lt, q_le, q_eq, nI_add, pk_mul, q_m1, q_m4, m1_lt, m1_le, m1_nlt, m1_nle, m1_ne, m1_ne2, m4_lt, m4_le, m4_nlt, m4_nle, m4_ne, m4_ne2, q_0, q_1, q_2, q_3, q_4, q_5, q_6, q_8, q_12, q_15, q_16, q_20, q_24, q_30, q_31, q_32, q_80, q_9, q_99, q_126, q_48, q_57, q_58, q_59, q_97, q_101, q_10, q_21, q_255, q_46656, e0]
  have hw2 : ∀ b, b < 6 → va_cpy (it (wrF (fun b => wX (stS h (aliv r tt) (mdS wt wn tt) lk c b))) vws (hB h)) vw (0 : Int32).toNatClampNeg (0 : Int32).toNatClampNeg vb.toNatClampNeg b = wX (stS h (aliv r tt) (mdS wt wn tt) lk c b) := by
    intro b hb
    rw [e0, q_cl (by omega)]
    by_cases hbb : b < hB h
    · rw [pk_cpy_in (by show 0 ≤ b; omega) (by show b < 0 + hB h; omega)]
      show it (wrF _) vws (hB h) (0 + (b - 0)) = _
      rw [show 0 + (b - 0) = b by omega, wrF_at, if_pos hbb]
    · rw [pk_cpy_out (by show b < 0 ∨ 0 + hB h ≤ b; omega), hw b hb, hc.2 b (by omega)]
      unfold stS; rw [if_neg hbb]
  obtain ⟨vc', hT, hT2⟩ := x_tally ok t hN (vc := vc) hw2 (stS_ok hc)
  refine ⟨(va_cpy (it (wrF (fun b => wX (stS h (aliv r tt) (mdS wt wn tt) lk c b))) vws (hB h)) vw (0 : Int32).toNatClampNeg (0 : Int32).toNatClampNeg vb.toNatClampNeg, it (wrF (fun b => wX (stS h (aliv r tt) (mdS wt wn tt) lk c b))) vws (hB h), vc'), ?_, hw2, hT2⟩
  unfold f_X0_write
  rw [x_last hN hvc hc2, Option.bind_some, x_alive rok hst hN ht, Option.bind_some, L, Option.bind_some, if_neg, hT, Option.bind_some]
  simp (disch := omega) only [d_let, d_lef, d_ltt, d_ltf, d_eqt, d_eqf, ↓reduceIte, or_false, false_or, or_true, true_or, and_true, true_and, and_false, false_and, not_true_eq_false, not_false_eq_true, Bool.false_eq_true, Option.bind_some, q_ofNat, q_cl, q_lt, q_le, q_eq, nI_add, pk_mul, q_m1, q_m4, m1_lt, m1_le, m1_nlt, m1_nle, m1_ne, m1_ne2, m4_lt, m4_le, m4_nlt, m4_nle, m4_ne, m4_ne2, q_0, q_1, q_2, q_3, q_4, q_5, q_6, q_8, q_12, q_15, q_16, q_20, q_24, q_30, q_31, q_32, q_80, q_9, q_99, q_126, q_48, q_57, q_58, q_59, q_97, q_101, q_10, q_21, q_255, q_46656, e0]
