def mdM (wt wn tt fl b : Nat) : Nat := if b + 1 = wt ∧ tt < wn then 0 else if fl = 1 ∨ (b + 1 = wt ∧ tt = wn) then 1 else 2
theorem mdM_S {wt wn tt b : Nat} : mdM wt wn tt (if tt = 0 then 1 else 0) b = mdS wt wn tt b := by
  unfold mdM mdS fmS
  by_cases h1 : b + 1 = wt
  · by_cases h2 : tt < wn
    · rw [if_pos ⟨h1, h2⟩, if_pos h1, if_pos h2]
    · rw [if_neg (fun q => h2 q.2), if_pos h1, if_neg h2]
      by_cases h3 : tt = wn
      · rw [if_pos (Or.inr ⟨h1, h3⟩), if_pos h3]
      · rw [if_neg, if_neg h3]
        rintro (q | q)
        · split at q <;> omega
        · exact h3 q.2
  · rw [if_neg (fun q => h1 q.1), if_neg h1, if_neg (show ¬ tt < 0 by omega)]
    by_cases h3 : tt = 0
    · rw [if_pos (Or.inl (by rw [if_pos h3])), if_pos h3]
    · rw [if_neg, if_neg h3]
      rintro (q | q)
      · rw [if_neg h3] at q; omega
      · exact h1 q.1
theorem m_writes {h : Hl} (ok : hOK h) {vb : Int32} {vme vmo vdi vsi vor : Nat → Int32} (t : tX h vb vme vmo vdi vsi vor) {N : Nat} (hN : 200000 ≤ N) {r : Br} (rok : bOK r) {vst : Nat → Int32} (hst : ∀ k, k < 5 → vst k = nI (bSt r k)) {vlo : Nat → Int32} {b tt : Nat} (hb : b < hB h) (ht : tt < 1000) {wt wn fl : Nat} (hwt : wt ≤ 6) (hwn : wn < 1000) (hfl : fl ≤ 1) {c : Nat → Nat} {vw vc : Nat → Int32} (hw : ∀ b, b < 6 → vw b = wM (c b)) (hc : wOK h c) (hvc : ∀ k, k < 5 → vc k = nI (cn h c k)) {cu it tb ta cu' ta' : Int32} {lk : Bool}
    (HL : hMov h b = 4 → mdM wt wn tt fl b = 2 → f_X7_leadsByLot cu it tb ta vdi vlo (nI b) = some (if lk = true then nI 1 else nI 0, cu', ta'))
    (HN : ¬ (hMov h b = 4 ∧ mdM wt wn tt fl b = 2) → cu' = cu ∧ ta' = ta) :
    f_X7_writes N cu (wM wt) (nI wn) it tb ta vmo vdi vsi vor vst vlo vw vc (nI b) (nI tt) (nI fl) (wM (laS (cn h c))) = some (wM (if mdM wt wn tt fl b = 0 then 0 else if mdM wt wn tt fl b = 1 then fa h (aliv r (min tt 31)) b 0 else moS h (aliv r (min tt 31)) c (cn h c) (laS (cn h c)) lk b), cu', ta') := by
  have h6 := ok.1; obtain ⟨e1, e2, e3, e4, e5⟩ := t.2 b hb; obtain ⟨o1, o2, o3, o4, o5, o6, o7, o8, o9⟩ := ok.2.1 b hb
  have F0 := m_firm ok t hN rok hst hb ht
  have A : ∀ k, k < 5 → f_X7_isAlive vst (nI k) (nI tt) = some (if aliv r (min tt 31) k = true then nI 1 else nI 0) := fun k hk => m_alive rok hst hk ht
  have O := m_onward ok t hN rok hst hb ht hw hc (laS_le (cn h c))
  have E := m_lead ok t hN rok hst hb ht hvc (cn_le ok c)
  generalize aliv r (min tt 31) = al at *
  have hmd : mdM wt wn tt fl b = 0 ∨ mdM wt wn tt fl b = 1 ∨ mdM wt wn tt fl b = 2 := by
    unfold mdM; split; omega; split <;> omega
  -- the way of the call: by what mdM says
  have W0 : mdM wt wn tt fl b = 0 → f_X7_writes N cu (wM wt) (nI wn) it tb ta vmo vdi vsi vor vst vlo vw vc (nI b) (nI tt) (nI fl) (wM (laS (cn h c))) = some (m4, cu, ta) := by
    intro q
    have : b + 1 = wt ∧ tt < wn := by
      unfold mdM at q; split at q; assumption; split at q <;> omega
    obtain ⟨k1, k2⟩ := this
    simp (disch := omega) only [f_X7_writes, f_X7_writes_L19, f_X7_writes_L39, f_X7_writes_L46, f_X7_writes_L143, d_let, d_lef, d_ltt, d_ltf, d_eqt, d_eqf, ↓reduceIte, or_false, false_or, or_true, true_or, and_true, true_and, and_false, false_and, not_true_eq_false, not_false_eq_true, Bool.false_eq_true, Option.bind_some, q_ofNat, q_cl, q_lt, q_le, q_eq, nI_add, pk_mul, q_m1, q_m4, m1_lt, m1_le, m1_nlt, m1_nle, m1_ne, m1_ne2, m4_lt, m4_le, m4_nlt, m4_nle, m4_ne, m4_ne2, q_0, q_1, q_2, q_3, q_4, q_5, q_6, q_8, q_12, q_15, q_16, q_20, q_24, q_30, q_31, q_32, q_80, q_9, q_99, q_126, q_48, q_57, q_58, q_59, q_97, q_101, q_10, q_21, q_255, q_46656, q_wM]
  have W1 : mdM wt wn tt fl b = 1 → f_X7_writes N cu (wM wt) (nI wn) it tb ta vmo vdi vsi vor vst vlo vw vc (nI b) (nI tt) (nI fl) (wM (laS (cn h c))) = some (wM (fa h al b 0), cu, ta) := by
    intro q
    have : ¬ (b + 1 = wt ∧ tt < wn) ∧ (fl = 1 ∨ (b + 1 = wt ∧ tt = wn)) := by
      unfold mdM at q; split at q; omega; split at q
      · exact ⟨by assumption, by assumption⟩
      · omega
    obtain ⟨k1, k2⟩ := this
    by_cases j1 : b + 1 = wt
    · have k3 : wn ≤ tt := by omega
      by_cases j2 : fl = 0
      · have j3 : tt = wn := by omega
        simp (disch := omega) only [f_X7_writes, f_X7_writes_L19, f_X7_writes_L39, f_X7_writes_L46, f_X7_writes_L143, d_let, d_lef, d_ltt, d_ltf, d_eqt, d_eqf, ↓reduceIte, or_false, false_or, or_true, true_or, and_true, true_and, and_false, false_and, not_true_eq_false, not_false_eq_true, Bool.false_eq_true, Option.bind_some, q_ofNat, q_cl, q_lt, q_le, q_eq, nI_add, pk_mul, q_m1, q_m4, m1_lt, m1_le, m1_nlt, m1_nle, m1_ne, m1_ne2, m4_lt, m4_le, m4_nlt, m4_nle, m4_ne, m4_ne2, q_0, q_1, q_2, q_3, q_4, q_5, q_6, q_8, q_12, q_15, q_16, q_20, q_24, q_30, q_31, q_32, q_80, q_9, q_99, q_126, q_48, q_57, q_58, q_59, q_97, q_101, q_10, q_21, q_255, q_46656, q_wM, F0]
      · simp (disch := omega) only [f_X7_writes, f_X7_writes_L19, f_X7_writes_L39, f_X7_writes_L46, f_X7_writes_L143, d_let, d_lef, d_ltt, d_ltf, d_eqt, d_eqf, ↓reduceIte, or_false, false_or, or_true, true_or, and_true, true_and, and_false, false_and, not_true_eq_false, not_false_eq_true, Bool.false_eq_true, Option.bind_some, q_ofNat, q_cl, q_lt, q_le, q_eq, nI_add, pk_mul, q_m1, q_m4, m1_lt, m1_le, m1_nlt, m1_nle, m1_ne, m1_ne2, m4_lt, m4_le, m4_nlt, m4_nle, m4_ne, m4_ne2, q_0, q_1, q_2, q_3, q_4, q_5, q_6, q_8, q_12, q_15, q_16, q_20, q_24, q_30, q_31, q_32, q_80, q_9, q_99, q_126, q_48, q_57, q_58, q_59, q_97, q_101, q_10, q_21, q_255, q_46656, q_wM, F0]
    · have j2 : fl = 1 := by omega
      simp (disch := omega) only [f_X7_writes, f_X7_writes_L19, f_X7_writes_L39, f_X7_writes_L46, f_X7_writes_L143, d_let, d_lef, d_ltt, d_ltf, d_eqt, d_eqf, ↓reduceIte, or_false, false_or, or_true, true_or, and_true, true_and, and_false, false_and, not_true_eq_false, not_false_eq_true, Bool.false_eq_true, Option.bind_some, q_ofNat, q_cl, q_lt, q_le, q_eq, nI_add, pk_mul, q_m1, q_m4, m1_lt, m1_le, m1_nlt, m1_nle, m1_ne, m1_ne2, m4_lt, m4_le, m4_nlt, m4_nle, m4_ne, m4_ne2, q_0, q_1, q_2, q_3, q_4, q_5, q_6, q_8, q_12, q_15, q_16, q_20, q_24, q_30, q_31, q_32, q_80, q_9, q_99, q_126, q_48, q_57, q_58, q_59, q_97, q_101, q_10, q_21, q_255, q_46656, q_wM, F0]
  have W2 : mdM wt wn tt fl b = 2 → f_X7_writes N cu (wM wt) (nI wn) it tb ta vmo vdi vsi vor vst vlo vw vc (nI b) (nI tt) (nI fl) (wM (laS (cn h c))) = f_X7_writes_L46 N cu it tb ta vmo vdi vsi vor vst vlo vw vc (nI b) (nI tt) (wM (laS (cn h c))) := by
    intro q
    have : ¬ (b + 1 = wt ∧ tt < wn) ∧ ¬ (fl = 1 ∨ (b + 1 = wt ∧ tt = wn)) := by
      unfold mdM at q; split at q; omega; split at q
      · omega
      · exact ⟨by assumption, by assumption⟩
    obtain ⟨k1, k2⟩ := this
    by_cases j1 : b + 1 = wt
    · simp (disch := omega) only [f_X7_writes, f_X7_writes_L19, d_let, d_lef, d_ltt, d_ltf, d_eqt, d_eqf, ↓reduceIte, or_false, false_or, or_true, true_or, and_true, true_and, and_false, false_and, not_true_eq_false, not_false_eq_true, Bool.false_eq_true, Option.bind_some, q_ofNat, q_cl, q_lt, q_le, q_eq, nI_add, pk_mul, q_m1, q_m4, m1_lt, m1_le, m1_nlt, m1_nle, m1_ne, m1_ne2, m4_lt, m4_le, m4_nlt, m4_nle, m4_ne, m4_ne2, q_0, q_1, q_2, q_3, q_4, q_5, q_6, q_8, q_12, q_15, q_16, q_20, q_24, q_30, q_31, q_32, q_80, q_9, q_99, q_126, q_48, q_57, q_58, q_59, q_97, q_101, q_10, q_21, q_255, q_46656, q_wM]
    · simp (disch := omega) only [f_X7_writes, f_X7_writes_L19, d_let, d_lef, d_ltt, d_ltf, d_eqt, d_eqf, ↓reduceIte, or_false, false_or, or_true, true_or, and_true, true_and, and_false, false_and, not_true_eq_false, not_false_eq_true, Bool.false_eq_true, Option.bind_some, q_ofNat, q_cl, q_lt, q_le, q_eq, nI_add, pk_mul, q_m1, q_m4, m1_lt, m1_le, m1_nlt, m1_nle, m1_ne, m1_ne2, m4_lt, m4_le, m4_nlt, m4_nle, m4_ne, m4_ne2, q_0, q_1, q_2, q_3, q_4, q_5, q_6, q_8, q_12, q_15, q_16, q_20, q_24, q_30, q_31, q_32, q_80, q_9, q_99, q_126, q_48, q_57, q_58, q_59, q_97, q_101, q_10, q_21, q_255, q_46656, q_wM]
  rcases hmd with q | q | q
  · obtain ⟨rfl, rfl⟩ := HN (fun z => by omega)
    rw [W0 q, if_pos q]; rfl
  · obtain ⟨rfl, rfl⟩ := HN (fun z => by omega)
    rw [W1 q, if_neg (by omega), if_pos q]
  · rw [W2 q, if_neg (by omega), if_neg (by omega)]
    unfold moS
    by_cases k1 : hMov h b = 1
    · obtain ⟨rfl, rfl⟩ := HN (fun z => by omega)
      simp (disch := omega) only [f_X7_writes_L46, d_let, d_lef, d_ltt, d_ltf, d_eqt, d_eqf, ↓reduceIte, or_false, false_or, or_true, true_or, and_true, true_and, and_false, false_and, not_true_eq_false, not_false_eq_true, Bool.false_eq_true, Option.bind_some, q_ofNat, q_cl, q_lt, q_le, q_eq, nI_add, pk_mul, q_m1, q_m4, m1_lt, m1_le, m1_nlt, m1_nle, m1_ne, m1_ne2, m4_lt, m4_le, m4_nlt, m4_nle, m4_ne, m4_ne2, q_0, q_1, q_2, q_3, q_4, q_5, q_6, q_8, q_12, q_15, q_16, q_20, q_24, q_30, q_31, q_32, q_80, q_9, q_99, q_126, q_48, q_57, q_58, q_59, q_97, q_101, q_10, q_21, q_255, q_46656, e2, O]
    · by_cases k2 : hMov h b = 2
      · obtain ⟨rfl, rfl⟩ := HN (fun z => by omega)
        simp (disch := omega) only [f_X7_writes_L46, d_let, d_lef, d_ltt, d_ltf, d_eqt, d_eqf, ↓reduceIte, or_false, false_or, or_true, true_or, and_true, true_and, and_false, false_and, not_true_eq_false, not_false_eq_true, Bool.false_eq_true, Option.bind_some, q_ofNat, q_cl, q_lt, q_le, q_eq, nI_add, pk_mul, q_m1, q_m4, m1_lt, m1_le, m1_nlt, m1_nle, m1_ne, m1_ne2, m4_lt, m4_le, m4_nlt, m4_nle, m4_ne, m4_ne2, q_0, q_1, q_2, q_3, q_4, q_5, q_6, q_8, q_12, q_15, q_16, q_20, q_24, q_30, q_31, q_32, q_80, q_9, q_99, q_126, q_48, q_57, q_58, q_59, q_97, q_101, q_10, q_21, q_255, q_46656, e2, E]
      · by_cases k3 : hMov h b = 3
        · obtain ⟨rfl, rfl⟩ := HN (fun z => by omega)
          have hd := o8 k3
          have e3 := e3 (Or.inl k3)
          have hc5 := wOK_lt ok hc (hDig h b)
          unfold foS
          by_cases h0 : c (hDig h b) = 0
          · simp (disch := omega) only [f_X7_writes_L46, f_X7_writes_L143, d_let, d_lef, d_ltt, d_ltf, d_eqt, d_eqf, ↓reduceIte, or_false, false_or, or_true, true_or, and_true, true_and, and_false, false_and, not_true_eq_false, not_false_eq_true, Bool.false_eq_true, Option.bind_some, q_ofNat, q_cl, q_lt, q_le, q_eq, nI_add, pk_mul, q_m1, q_m4, m1_lt, m1_le, m1_nlt, m1_nle, m1_ne, m1_ne2, m4_lt, m4_le, m4_nlt, m4_nle, m4_ne, m4_ne2, q_0, q_1, q_2, q_3, q_4, q_5, q_6, q_8, q_12, q_15, q_16, q_20, q_24, q_30, q_31, q_32, q_80, q_9, q_99, q_126, q_48, q_57, q_58, q_59, q_97, q_101, q_10, q_21, q_255, q_46656, e2, e3, hw, h0, wM_0, F0, ne_eq]
          · obtain ⟨k, hk2⟩ : ∃ k, c (hDig h b) = k + 1 := ⟨c (hDig h b) - 1, by omega⟩
            have P := m_place ok t hN hb (k := k) (by omega)
            have hpl := pl_le h b k
            simp only [hk2, Nat.add_sub_cancel]
            by_cases ha : al k = true
            · by_cases hp : pl h b k < hSiz h b
              · rw [if_pos hp] at P
                simp (disch := omega) only [f_X7_writes_L46, f_X7_writes_L143, d_let, d_lef, d_ltt, d_ltf, d_eqt, d_eqf, ↓reduceIte, or_false, false_or, or_true, true_or, and_true, true_and, and_false, false_and, not_true_eq_false, not_false_eq_true, Bool.false_eq_true, Option.bind_some, q_ofNat, q_cl, q_lt, q_le, q_eq, nI_add, pk_mul, q_m1, q_m4, m1_lt, m1_le, m1_nlt, m1_nle, m1_ne, m1_ne2, m4_lt, m4_le, m4_nlt, m4_nle, m4_ne, m4_ne2, q_0, q_1, q_2, q_3, q_4, q_5, q_6, q_8, q_12, q_15, q_16, q_20, q_24, q_30, q_31, q_32, q_80, q_9, q_99, q_126, q_48, q_57, q_58, q_59, q_97, q_101, q_10, q_21, q_255, q_46656, e2, e3, hw, hk2, wM_s, A, ha, P, F0, ne_eq]
              · rw [if_neg hp] at P
                simp (disch := omega) only [f_X7_writes_L46, f_X7_writes_L143, d_let, d_lef, d_ltt, d_ltf, d_eqt, d_eqf, ↓reduceIte, or_false, false_or, or_true, true_or, and_true, true_and, and_false, false_and, not_true_eq_false, not_false_eq_true, Bool.false_eq_true, Option.bind_some, q_ofNat, q_cl, q_lt, q_le, q_eq, nI_add, pk_mul, q_m1, q_m4, m1_lt, m1_le, m1_nlt, m1_nle, m1_ne, m1_ne2, m4_lt, m4_le, m4_nlt, m4_nle, m4_ne, m4_ne2, q_0, q_1, q_2, q_3, q_4, q_5, q_6, q_8, q_12, q_15, q_16, q_20, q_24, q_30, q_31, q_32, q_80, q_9, q_99, q_126, q_48, q_57, q_58, q_59, q_97, q_101, q_10, q_21, q_255, q_46656, e2, e3, hw, hk2, wM_s, A, ha, P, F0, ne_eq]
            · simp (disch := omega) only [f_X7_writes_L46, f_X7_writes_L143, d_let, d_lef, d_ltt, d_ltf, d_eqt, d_eqf, ↓reduceIte, or_false, false_or, or_true, true_or, and_true, true_and, and_false, false_and, not_true_eq_false, not_false_eq_true, Bool.false_eq_true, Option.bind_some, q_ofNat, q_cl, q_lt, q_le, q_eq, nI_add, pk_mul, q_m1, q_m4, m1_lt, m1_le, m1_nlt, m1_nle, m1_ne, m1_ne2, m4_lt, m4_le, m4_nlt, m4_nle, m4_ne, m4_ne2, q_0, q_1, q_2, q_3, q_4, q_5, q_6, q_8, q_12, q_15, q_16, q_20, q_24, q_30, q_31, q_32, q_80, q_9, q_99, q_126, q_48, q_57, q_58, q_59, q_97, q_101, q_10, q_21, q_255, q_46656, e2, e3, hw, hk2, wM_s, A, ha, F0, ne_eq]
        · by_cases k4 : hMov h b = 4
          · have HL := HL k4 q
            by_cases hk : lk = true
            · simp (disch := omega) only [f_X7_writes_L46, d_let, d_lef, d_ltt, d_ltf, d_eqt, d_eqf, ↓reduceIte, or_false, false_or, or_true, true_or, and_true, true_and, and_false, false_and, not_true_eq_false, not_false_eq_true, Bool.false_eq_true, Option.bind_some, q_ofNat, q_cl, q_lt, q_le, q_eq, nI_add, pk_mul, q_m1, q_m4, m1_lt, m1_le, m1_nlt, m1_nle, m1_ne, m1_ne2, m4_lt, m4_le, m4_nlt, m4_nle, m4_ne, m4_ne2, q_0, q_1, q_2, q_3, q_4, q_5, q_6, q_8, q_12, q_15, q_16, q_20, q_24, q_30, q_31, q_32, q_80, q_9, q_99, q_126, q_48, q_57, q_58, q_59, q_97, q_101, q_10, q_21, q_255, q_46656, e2, HL, hk, E]
            · simp (disch := omega) only [f_X7_writes_L46, d_let, d_lef, d_ltt, d_ltf, d_eqt, d_eqf, ↓reduceIte, or_false, false_or, or_true, true_or, and_true, true_and, and_false, false_and, not_true_eq_false, not_false_eq_true, Bool.false_eq_true, Option.bind_some, q_ofNat, q_cl, q_lt, q_le, q_eq, nI_add, pk_mul, q_m1, q_m4, m1_lt, m1_le, m1_nlt, m1_nle, m1_ne, m1_ne2, m4_lt, m4_le, m4_nlt, m4_nle, m4_ne, m4_ne2, q_0, q_1, q_2, q_3, q_4, q_5, q_6, q_8, q_12, q_15, q_16, q_20, q_24, q_30, q_31, q_32, q_80, q_9, q_99, q_126, q_48, q_57, q_58, q_59, q_97, q_101, q_10, q_21, q_255, q_46656, e2, HL, hk, F0]
          · obtain ⟨rfl, rfl⟩ := HN (fun z => by omega)
            simp (disch := omega) only [f_X7_writes_L46, d_let, d_lef, d_ltt, d_ltf, d_eqt, d_eqf, ↓reduceIte, or_false, false_or, or_true, true_or, and_true, true_and, and_false, false_and, not_true_eq_false, not_false_eq_true, Bool.false_eq_true, Option.bind_some, q_ofNat, q_cl, q_lt, q_le, q_eq, nI_add, pk_mul, q_m1, q_m4, m1_lt, m1_le, m1_nlt, m1_nle, m1_ne, m1_ne2, m4_lt, m4_le, m4_nlt, m4_nle, m4_ne, m4_ne2, q_0, q_1, q_2, q_3, q_4, q_5, q_6, q_8, q_12, q_15, q_16, q_20, q_24, q_30, q_31, q_32, q_80, q_9, q_99, q_126, q_48, q_57, q_58, q_59, q_97, q_101, q_10, q_21, q_255, q_46656, e2, F0]
theorem m_go {h : Hl} (ok : hOK h) {vb : Int32} {vme vmo vdi vsi vor : Nat → Int32} (t : tX h vb vme vmo vdi vsi vor) {N : Nat} (hN : 200000 ≤ N) {r : Br} (rok : bOK r) {vst : Nat → Int32} (hst : ∀ k, k < 5 → vst k = nI (bSt r k)) {vlo : Nat → Int32} {tt : Nat} (ht : tt < 1000) {wt wn fl : Nat} (hwt : wt ≤ 6) (hwn : wn < 1000) (hfl : fl ≤ 1) {c : Nat → Nat} {vw vth vc : Nat → Int32} (hw : ∀ b, b < 6 → vw b = wM (c b)) (hc : wOK h c) {isT tb : Int32} {cu ta : Nat → Int32} {lk : Nat → Bool} (hta : ta 0 = nI 0)
    (HL : ∀ b, b < hB h → hMov h b = 4 → mdM wt wn tt fl b = 2 → f_X7_leadsByLot (cu b) isT tb (ta b) vdi vlo (nI b) = some (if lk b = true then nI 1 else nI 0, cu (b + 1), ta (b + 1)))
    (HN : ∀ b, b < hB h → ¬ (hMov h b = 4 ∧ mdM wt wn tt fl b = 2) → cu (b + 1) = cu b ∧ ta (b + 1) = ta b) :
    ∃ vw' vth' vc', f_X7_go N vb (cu 0) (wM wt) (nI wn) isT tb vme vmo vdi vsi vor vst vlo vw vth vc (nI tt) (nI fl) = some (vw', vth', vc', cu (hB h), ta (hB h)) ∧ (∀ b, b < 6 → vw' b = wM (stS h (aliv r (min tt 31)) (mdM wt wn tt fl) lk c b)) ∧ (∀ k, k < 5 → vc' k = nI (cn h (stS h (aliv r (min tt 31)) (mdM wt wn tt fl) lk c) k)) := by
  have h6 := ok.1
  have e0 := t.1
  obtain ⟨vc1, C1, C2⟩ := m_count ok t hN (vc := vc) hw hc
  have hw2 : ∀ b, b < 6 → it (wrF (it (wrF (fun b => wM (stS h (aliv r (min tt 31)) (mdM wt wn tt fl) lk c b))) vth (hB h))) vw (hB h) b = wM (stS h (aliv r (min tt 31)) (mdM wt wn tt fl) lk c b) := by
    intro b hb
    rw [wrF_at]
    by_cases hbb : b < hB h
    · rw [if_pos hbb, wrF_at, if_pos hbb]
    · rw [if_neg hbb, hw b hb, hc.2 b (by omega)]
      unfold stS; rw [if_neg hbb]
  obtain ⟨vc2, D1, D2⟩ := m_count ok t hN (vc := vc1) hw2 (stS_ok hc)
  refine ⟨it (wrF (it (wrF (fun b => wM (stS h (aliv r (min tt 31)) (mdM wt wn tt fl) lk c b))) vth (hB h))) vw (hB h), it (wrF (fun b => wM (stS h (aliv r (min tt 31)) (mdM wt wn tt fl) lk c b))) vth (hB h), vc2, ?_, hw2, D2⟩
  unfold f_X7_go
  rw [C1, Option.bind_some, m_last hN C2 (cn_le ok c), Option.bind_some]
  refine b_run (lp_for (fun k => (nI k, it (wrF (fun b => wM (stS h (aliv r (min tt 31)) (mdM wt wn tt fl) lk c b))) vth k, cu k, ta k)) (hB h) (by omega) (by rw [hta]; rfl) ?_ ?_ (r := (nI (hB h), it (wrF (fun b => wM (stS h (aliv r (min tt 31)) (mdM wt wn tt fl) lk c b))) vth (hB h), cu (hB h), ta (hB h)))) ?_
  · intro b hb
    have W := m_writes ok t hN rok hst (vlo := vlo) hb ht hwt hwn hfl hw hc C2 (HL b hb) (HN b hb)
    show _ = some (Sum.inl (nI (b + 1), upd (it (wrF (fun b => wM (stS h (aliv r (min tt 31)) (mdM wt wn tt fl) lk c b))) vth b) b (wM (stS h (aliv r (min tt 31)) (mdM wt wn tt fl) lk c b)), cu (b + 1), ta (b + 1)))
    generalize it (wrF (fun b => wM (stS h (aliv r (min tt 31)) (mdM wt wn tt fl) lk c b))) vth b = v
    unfold stS
    rw [if_pos hb]
    simp (disch := omega) only [f_X7_go_B17, d_lef, d_let, d_ltf, ↓reduceIte, false_or, Option.bind_some, q_cl, q_lt, q_le, nI_add, q_0, q_1, e0, W]
  · simp (disch := omega) only [f_X7_go_B17, d_let, d_lef, d_ltt, d_ltf, d_eqt, d_eqf, ↓reduceIte, or_false, false_or, or_true, true_or, and_true, true_and, and_false, false_and, not_true_eq_false, not_false_eq_true, Bool.false_eq_true, Option.bind_some, q_ofNat, q_cl, q_lt, q_le, q_eq, nI_add, pk_mul, q_m1, q_m4, m1_lt, m1_le, m1_nlt, m1_nle, m1_ne, m1_ne2, m4_lt, m4_le, m4_nlt, m4_nle, m4_ne, m4_ne2, q_0, q_1, q_2, q_3, q_4, q_5, q_6, q_8, q_12, q_15, q_16, q_20, q_24, q_30, q_31, q_32, q_80, q_9, q_99, q_126, q_48, q_57, q_58, q_59, q_97, q_101, q_10, q_21, q_255, q_46656, e0]
  refine b_run (lp_for (fun k => (nI k, it (wrF (it (wrF (fun b => wM (stS h (aliv r (min tt 31)) (mdM wt wn tt fl) lk c b))) vth (hB h))) vw k)) (hB h) (by omega) rfl ?_ ?_ (r := (nI (hB h), it (wrF (it (wrF (fun b => wM (stS h (aliv r (min tt 31)) (mdM wt wn tt fl) lk c b))) vth (hB h))) vw (hB h)))) ?_
  · intro b hb
    simp (disch := omega) only [f_X7_go_B51, d_let, d_lef, d_ltt, d_ltf, d_eqt, d_eqf, ↓reduceIte, or_false, false_or, or_true, true_or, and_true, true_and, and_false, false_and, not_true_eq_false, not_false_eq_true, Bool.false_eq_true, Option.bind_some, q_ofNat, q_cl, q_lt, q_le, q_eq, nI_add, pk_mul, q_m1, q_m4, m1_lt, m1_le, m1_nlt, m1_nle, m1_ne, m1_ne2, m4_lt, m4_le, m4_nlt, m4_nle, m4_ne, m4_ne2, q_0, q_1, q_2, q_3, q_4, q_5, q_6, q_8, q_12, q_15, q_16, q_20, q_24, q_30, q_31, q_32, q_80, q_9, q_99, q_126, q_48, q_57, q_58, q_59, q_97, q_101, q_10, q_21, q_255, q_46656, e0]; rfl
  · simp (disch := omega) only [f_X7_go_B51, d_let, d_lef, d_ltt, d_ltf, d_eqt, d_eqf, ↓reduceIte, or_false, false_or, or_true, true_or, and_true, true_and, and_false, false_and, not_true_eq_false, not_false_eq_true, Bool.false_eq_true, Option.bind_some, q_ofNat, q_cl, q_lt, q_le, q_eq, nI_add, pk_mul, q_m1, q_m4, m1_lt, m1_le, m1_nlt, m1_nle, m1_ne, m1_ne2, m4_lt, m4_le, m4_nlt, m4_nle, m4_ne, m4_ne2, q_0, q_1, q_2, q_3, q_4, q_5, q_6, q_8, q_12, q_15, q_16, q_20, q_24, q_30, q_31, q_32, q_80, q_9, q_99, q_126, q_48, q_57, q_58, q_59, q_97, q_101, q_10, q_21, q_255, q_46656, e0]
  exact b_run D1 rfl
theorem m_chosen {h : Hl} (ok : hOK h) {vb : Int32} {vme vmo vdi vsi vor : Nat → Int32} (t : tX h vb vme vmo vdi vsi vor) {N : Nat} (hN : 200000 ≤ N) {r : Br} (rok : bOK r) {vab vbe : Nat → Int32} (hab : ∀ d, d < 8 → vab d = nI (bAb r d) ∧ vbe d = nI (bBe r d)) {cnt : Nat → Nat} {vc : Nat → Int32} (hc : ∀ k, k < 5 → vc k = nI (cnt k)) (hc2 : ∀ k, cnt k ≤ 120) {tt : Nat} (ht : tt < 32) : f_X7_chosenIn N vb vme vab vbe vc (nI tt) = some (wM (wiS h r cnt tt)) := by
  have hw : ∀ n, n ≤ 4 → it (fun j best => if cnt best < cnt (j + 1) then j + 1 else best) 0 n ≤ n := by
    intro n
    induction n with
    | zero => intro _; exact Nat.le_refl _
    | succ n ih =>
      intro hn
      have := ih (by omega)
      unfold it
      split <;> omega
  unfold f_X7_chosenIn
  refine b_run (lp_for (fun k => (nI (it (fun j best => if cnt best < cnt (j + 1) then j + 1 else best) 0 k), nI (k + 1))) 4 (by omega) rfl ?_ ?_ (r := (nI (wiB cnt), nI 5))) ?_
  · intro k hk
    have hl := hw k (by omega)
    show _ = some (Sum.inl (nI (if cnt (it (fun j best => if cnt best < cnt (j + 1) then j + 1 else best) 0 k) < cnt (k + 1) then k + 1 else it (fun j best => if cnt best < cnt (j + 1) then j + 1 else best) 0 k), nI (k + 1 + 1)))
    generalize it (fun j best => if cnt best < cnt (j + 1) then j + 1 else best) 0 k = best at *
    have := hc2 best; have := hc2 (k + 1)
    by_cases h1 : cnt best < cnt (k + 1)
    · simp (disch := omega) only [f_X7_chosenIn_B4, f_X7_chosenIn_L29, d_let, d_lef, d_ltt, d_ltf, d_eqt, d_eqf, ↓reduceIte, or_false, false_or, or_true, true_or, and_true, true_and, and_false, false_and, not_true_eq_false, not_false_eq_true, Bool.false_eq_true, Option.bind_some, q_ofNat, q_cl, q_lt, q_le, q_eq, nI_add, pk_mul, q_m1, q_m4, m1_lt, m1_le, m1_nlt, m1_nle, m1_ne, m1_ne2, m4_lt, m4_le, m4_nlt, m4_nle, m4_ne, m4_ne2, q_0, q_1, q_2, q_3, q_4, q_5, q_6, q_8, q_12, q_15, q_16, q_20, q_24, q_30, q_31, q_32, q_80, q_9, q_99, q_126, q_48, q_57, q_58, q_59, q_97, q_101, q_10, q_21, q_255, q_46656, hc]
    · simp (disch := omega) only [f_X7_chosenIn_B4, f_X7_chosenIn_L29, d_let, d_lef, d_ltt, d_ltf, d_eqt, d_eqf, ↓reduceIte, or_false, false_or, or_true, true_or, and_true, true_and, and_false, false_and, not_true_eq_false, not_false_eq_true, Bool.false_eq_true, Option.bind_some, q_ofNat, q_cl, q_lt, q_le, q_eq, nI_add, pk_mul, q_m1, q_m4, m1_lt, m1_le, m1_nlt, m1_nle, m1_ne, m1_ne2, m4_lt, m4_le, m4_nlt, m4_nle, m4_ne, m4_ne2, q_0, q_1, q_2, q_3, q_4, q_5, q_6, q_8, q_12, q_15, q_16, q_20, q_24, q_30, q_31, q_32, q_80, q_9, q_99, q_126, q_48, q_57, q_58, q_59, q_97, q_101, q_10, q_21, q_255, q_46656, hc]
  · simp (disch := omega) only [f_X7_chosenIn_B4, d_let, d_lef, d_ltt, d_ltf, d_eqt, d_eqf, ↓reduceIte, or_false, false_or, or_true, true_or, and_true, true_and, and_false, false_and, not_true_eq_false, not_false_eq_true, Bool.false_eq_true, Option.bind_some, q_ofNat, q_cl, q_lt, q_le, q_eq, nI_add, pk_mul, q_m1, q_m4, m1_lt, m1_le, m1_nlt, m1_nle, m1_ne, m1_ne2, m4_lt, m4_le, m4_nlt, m4_nle, m4_ne, m4_ne2, q_0, q_1, q_2, q_3, q_4, q_5, q_6, q_8, q_12, q_15, q_16, q_20, q_24, q_30, q_31, q_32, q_80, q_9, q_99, q_126, q_48, q_57, q_58, q_59, q_97, q_101, q_10, q_21, q_255, q_46656]; rfl
  · have hl := wiB_le cnt
    have := hc2 (wiB cnt)
    have hd : tt / 4 < 8 := by omega
    have hne : neS h r (tt / 4) < 2147483648 := by
      have := rok.1 _ hd
      have ha := alS_le ok
      have hm : alS h * bAb r (tt / 4) ≤ 120 * 12 := Nat.mul_le_mul ha (by omega)
      have := Nat.div_le_self (alS h * bAb r (tt / 4) + bBe r (tt / 4) - 1) (bBe r (tt / 4))
      unfold neS; omega
    unfold wiS
    by_cases h1 : cnt (wiB cnt) < neS h r (tt / 4)
    · simp (disch := omega) only [d_let, d_lef, d_ltt, d_ltf, d_eqt, d_eqf, ↓reduceIte, or_false, false_or, or_true, true_or, and_true, true_and, and_false, false_and, not_true_eq_false, not_false_eq_true, Bool.false_eq_true, Option.bind_some, q_ofNat, q_cl, q_lt, q_le, q_eq, nI_add, pk_mul, q_m1, q_m4, m1_lt, m1_le, m1_nlt, m1_nle, m1_ne, m1_ne2, m4_lt, m4_le, m4_nlt, m4_nle, m4_ne, m4_ne2, q_0, q_1, q_2, q_3, q_4, q_5, q_6, q_8, q_12, q_15, q_16, q_20, q_24, q_30, q_31, q_32, q_80, q_9, q_99, q_126, q_48, q_57, q_58, q_59, q_97, q_101, q_10, q_21, q_255, q_46656, q_div, m_need ok t hN rok hab hd, hc, wM_0]
    · simp (disch := omega) only [d_let, d_lef, d_ltt, d_ltf, d_eqt, d_eqf, ↓reduceIte, or_false, false_or, or_true, true_or, and_true, true_and, and_false, false_and, not_true_eq_false, not_false_eq_true, Bool.false_eq_true, Option.bind_some, q_ofNat, q_cl, q_lt, q_le, q_eq, nI_add, pk_mul, q_m1, q_m4, m1_lt, m1_le, m1_nlt, m1_nle, m1_ne, m1_ne2, m4_lt, m4_le, m4_nlt, m4_nle, m4_ne, m4_ne2, q_0, q_1, q_2, q_3, q_4, q_5, q_6, q_8, q_12, q_15, q_16, q_20, q_24, q_30, q_31, q_32, q_80, q_9, q_99, q_126, q_48, q_57, q_58, q_59, q_97, q_101, q_10, q_21, q_255, q_46656, q_div, m_need ok t hN rok hab hd, hc, wM_s]
