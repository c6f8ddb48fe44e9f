-- what all wrote, as one number
def enF (c : Nat → Nat) (k v : Nat) : Nat := v * 6 + c (5 - k)
def enc (c : Nat → Nat) : Nat := it (enF c) 0 6
def dec (s b : Nat) : Nat := s / 6 ^ b % 6
theorem enc_eq (c : Nat → Nat) : enc c = ((((c 5 * 6 + c 4) * 6 + c 3) * 6 + c 2) * 6 + c 1) * 6 + c 0 := by
  show ((((((0 * 6 + c 5) * 6 + c 4) * 6 + c 3) * 6 + c 2) * 6 + c 1) * 6 + c 0) = _
  rw [Nat.zero_mul, Nat.zero_add]
theorem enc_lt {c : Nat → Nat} (h : ∀ b, c b ≤ 5) : enc c < 46656 := by
  have := h 0; have := h 1; have := h 2; have := h 3; have := h 4; have := h 5
  rw [enc_eq]; omega
theorem dec_enc {c : Nat → Nat} (h : ∀ b, c b ≤ 5) : ∀ b, b < 6 → dec (enc c) b = c b := by
  intro b hb
  have := h 0; have := h 1; have := h 2; have := h 3; have := h 4; have := h 5
  unfold dec
  rw [enc_eq]
  match b, hb with
  | 0, _ => show _ / 1 % 6 = c 0; omega
  | 1, _ => show _ / 6 % 6 = c 1; omega
  | 2, _ => show _ / 36 % 6 = c 2; omega
  | 3, _ => show _ / 216 % 6 = c 3; omega
  | 4, _ => show _ / 1296 % 6 = c 4; omega
  | 5, _ => show _ / 7776 % 6 = c 5; omega
theorem dec_le (s b : Nat) : dec s b ≤ 5 := by
  have : s / 6 ^ b % 6 < 6 := Nat.mod_lt _ (by decide)
  unfold dec; omega
theorem enc_dec {s : Nat} (h : s < 46656) : enc (dec s) = s := by
  rw [enc_eq]
  show ((((s / 7776 % 6 * 6 + s / 1296 % 6) * 6 + s / 216 % 6) * 6 + s / 36 % 6) * 6 + s / 6 % 6) * 6 + s / 1 % 6 = s
  omega
theorem dec_hi {s b : Nat} (h : s < 46656) (hb : 6 ≤ b) : dec s b = 0 := by
  have : 6 ^ 6 ≤ 6 ^ b := Nat.pow_le_pow_right (by decide) hb
  unfold dec
  rw [Nat.div_eq_of_lt (by omega)]
theorem dec_fun {h : Hl} (ok : hOK h) {c : Nat → Nat} (hc : wOK h c) : dec (enc c) = c := by
  have h6 := ok.1
  funext b
  have hl := wOK_lt ok hc
  by_cases hb : b < 6
  · exact dec_enc hl b hb
  · rw [dec_hi (enc_lt hl) (by omega), hc.2 b (by omega)]
theorem wX_add {a c : Nat} : (nI a + wX c) + nI 1 = nI (a + c) := by
  unfold wX
  by_cases h0 : c = 0
  · rw [if_pos h0, Int32.add_assoc, show m1 + nI 1 = nI 0 by decide, nI_add, h0]
  · rw [if_neg h0, nI_add, nI_add]; congr 1; omega
theorem wX_sub {d : Nat} : nI d - nI 1 = wX d := by
  unfold wX
  by_cases h0 : d = 0
  · rw [if_pos h0, h0]; decide
  · rw [if_neg h0, pk_sub (by omega)]
theorem x_state {N : Nat} (hN : 200000 ≤ N) {c : Nat → Nat} {vw : Nat → Int32} (hw : ∀ b, b < 6 → vw b = wX (c b)) : f_X0_state N vw = some (nI (enc c)) := by
  unfold f_X0_state
  refine b_run (lp_for (fun k => (nI (it (enF c) 0 k), dn 6 k)) 6 (by omega) rfl ?_ ?_ (r := nI (enc c))) rfl
  · intro k hk
    have e := hw (5 - k) (by omega)
    show f_X0_state_B4 vw (nI (it (enF c) 0 k)) (dn 6 k) = some (Sum.inl (nI (it (enF c) 0 k * 6 + c (5 - k)), dn 6 (k + 1)))
    rw [show dn 6 k = nI (5 - k) from by unfold dn; rw [if_pos hk]]
    unfold f_X0_state_B4
    rw [if_neg (nI_pos (by omega)), q_cl (by omega), if_neg (by rw [q_0, q_lt (by omega) (by omega)]; omega), e, q_6, pk_mul, q_1, wX_add]
    have := dn_s (n := 6) (k := k) hk
    rw [show 6 - 1 - k = 5 - k by omega] at this
    rw [← this]; rfl
  · show f_X0_state_B4 vw (nI (enc c)) (dn 6 6) = _
    rw [show dn 6 6 = m1 from if_neg (by omega)]; rfl
theorem m_code {N : Nat} (hN : 200000 ≤ N) {c : Nat → Nat} {vw : Nat → Int32} (hw : ∀ b, b < 6 → vw b = wM (c b)) (hc : ∀ b, c b ≤ 5) : f_X7_codeOf N vw = some (nI (enc c)) := by
  unfold f_X7_codeOf
  refine b_run (lp_for (fun k => (nI (it (enF c) 0 k), dn 6 k)) 6 (by omega) rfl ?_ ?_ (r := nI (enc c))) rfl
  · intro k hk
    have e := hw (5 - k) (by omega)
    have hl := hc (5 - k)
    have D := dn_s (n := 6) (k := k) hk
    rw [show 6 - 1 - k = 5 - k by omega] at D
    show f_X7_codeOf_B4 vw (nI (it (enF c) 0 k)) (dn 6 k) = some (Sum.inl (nI (it (enF c) 0 k * 6 + c (5 - k)), dn 6 (k + 1)))
    rw [show dn 6 k = nI (5 - k) from by unfold dn; rw [if_pos hk]]
    unfold f_X7_codeOf_B4 f_X7_codeOf_L33
    rw [if_neg (nI_pos (by omega)), q_cl (by omega), if_neg (by rw [q_0, q_lt (by omega) (by omega)]; omega), e, D, q_6, pk_mul]
    generalize it (enF c) 0 k = v
    by_cases h0 : c (5 - k) = 0
    · rw [if_neg (by rw [q_0, q_wMg (by omega)]; exact fun q => q h0), q_0, nI_add, h0, Nat.mul_comm]
    · rw [if_pos (by rw [q_0, q_wMg (by omega)]; exact h0), show wM (c (5 - k)) = nI (c (5 - k) - 1) from if_neg h0, nI_1, nI_add, Nat.mul_comm, show c (5 - k) - 1 + 1 = c (5 - k) by omega]
  · show f_X7_codeOf_B4 vw (nI (enc c)) (dn 6 6) = _
    rw [show dn 6 6 = m1 from if_neg (by omega)]; rfl
theorem pow6_s (s k : Nat) : s / 6 ^ k / 6 = s / 6 ^ (k + 1) := by rw [Nat.div_div_eq_div_mul, Nat.pow_succ]
theorem x_takeState {h : Hl} (ok : hOK h) {vb : Int32} {vme vmo vdi vsi vor : Nat → Int32} (t : tX h vb vme vmo vdi vsi vor) {N : Nat} (hN : 200000 ≤ N) {s : Nat} (hs : s < 46656) (hc : wOK h (dec s)) (vw vc : Nat → Int32) : ∃ vw' vc', f_X0_takeState N vw vc vb vme (nI s) = some (wX 0, nI 0, vw', vc') ∧ (∀ b, b < 6 → vw' b = wX (dec s b)) ∧ ∀ k, k < 5 → vc' k = nI (cn h (dec s) k) := by
  have L : lp (fun s : Int32 × Int32 × (Nat → Int32) => f_X0_takeState_B15 s.1 s.2.1 s.2.2) N (nI s, (0 : Int32), vw) = some (nI (s / 6 ^ 6), nI 6, it (wrF (fun b => wX (dec s b))) vw 6) := by
    refine lp_for (fun k => (nI (s / 6 ^ k), nI k, it (wrF (fun b => wX (dec s b))) vw k)) 6 (by omega) (by rw [Nat.pow_zero, Nat.div_one]; rfl) ?_ ?_
    · intro k hk
      have hd : s / 6 ^ k < 2147483648 := Nat.lt_of_le_of_lt (Nat.div_le_self _ _) (by omega)
      show f_X0_takeState_B15 (nI (s / 6 ^ k)) (nI k) (it (wrF (fun b => wX (dec s b))) vw k) = some (Sum.inl (nI (s / 6 ^ (k + 1)), nI (k + 1), upd (it (wrF (fun b => wX (dec s b))) vw k) k (wX (dec s k))))
      unfold f_X0_takeState_B15
      rw [if_neg (by rw [q_6, q_le (by omega) (by omega)]; omega), q_cl (by omega), if_neg (by rw [q_0, q_lt (by omega) (by omega)]; omega), q_6, q_rem hd (by decide) (by decide), q_div hd (by decide) (by decide), pow6_s, nI_1, q_1, wX_sub]
      rfl
    · unfold f_X0_takeState_B15
      rw [if_pos (by show (6 : Int32) ≤ nI 6; decide)]
  have hw : ∀ b, b < 6 → it (wrF (fun b => wX (dec s b))) vw 6 b = wX (dec s b) := fun b hb => by rw [wrF_at, if_pos hb]
  obtain ⟨v, V1, V2⟩ := x_tally ok t hN (vc := vc) hw hc
  refine ⟨_, v, ?_, hw, V2⟩
  unfold f_X0_takeState
  exact b_run L (b_run V1 rfl)
theorem m_lay {N : Nat} (hN : 200000 ≤ N) {s : Nat} (hs : s < 46656) (vw : Nat → Int32) : ∃ vw', f_X7_layCode N vw (nI s) = some vw' ∧ ∀ b, b < 6 → vw' b = wM (dec s b) := by
  have L : lp (fun s : Int32 × Int32 × (Nat → Int32) => f_X7_layCode_B4 s.1 s.2.1 s.2.2) N (nI s, (0 : Int32), vw) = some (it (wrF (fun b => wM (dec s b))) vw 6) := by
    refine lp_for (fun k => (nI (s / 6 ^ k), nI k, it (wrF (fun b => wM (dec s b))) vw k)) 6 (by omega) (by rw [Nat.pow_zero, Nat.div_one]; rfl) ?_ ?_
    · intro k hk
      have hd : s / 6 ^ k < 2147483648 := Nat.lt_of_le_of_lt (Nat.div_le_self _ _) (by omega)
      have hdl := dec_le s k
      show f_X7_layCode_B4 (nI (s / 6 ^ k)) (nI k) (it (wrF (fun b => wM (dec s b))) vw k) = some (Sum.inl (nI (s / 6 ^ (k + 1)), nI (k + 1), upd (it (wrF (fun b => wM (dec s b))) vw k) k (wM (dec s k))))
      unfold f_X7_layCode_B4 f_X7_layCode_L33
      rw [if_neg (by rw [q_6, q_le (by omega) (by omega)]; omega), q_cl (by omega), q_6, q_rem hd (by decide) (by decide), q_div hd (by decide) (by decide), pow6_s, nI_1]
      rw [show s / 6 ^ k % 6 = dec s k from rfl]
      by_cases d0 : dec s k = 0
      · rw [if_pos (by rw [d0]; rfl), if_neg (by rw [q_0, q_lt (by omega) (by omega)]; omega), d0]; rfl
      · rw [if_neg (nI_ne0 (by omega) (by omega)), if_neg (by rw [q_0, q_lt (by omega) (by omega)]; omega), q_1, pk_sub (by omega), show wM (dec s k) = nI (dec s k - 1) from if_neg d0]
    · unfold f_X7_layCode_B4
      rw [if_pos (by show (6 : Int32) ≤ nI 6; decide)]
  refine ⟨it (wrF (fun b => wM (dec s b))) vw 6, ?_, fun b hb => by rw [wrF_at, if_pos hb]⟩
  unfold f_X7_layCode
  exact b_run L rfl
-- lots
theorem m_lotB {h : Hl} (ok : hOK h) {vb : Int32} {vme vmo vdi vsi vor : Nat → Int32} (t : tX h vb vme vmo vdi vsi vor) {N : Nat} (hN : 200000 ≤ N) : f_X7_lotBlocks N vb vmo = some (nI (hLots h (hB h))) := by
  have h6 := ok.1
  have e0 := t.1
  unfold f_X7_lotBlocks
  refine b_run (lp_for (fun k => (nI (hLots h k), nI k)) (hB h) (by omega) rfl ?_ ?_ (r := nI (hLots h (hB h)))) rfl
  · intro b hb
    obtain ⟨e1, e2, _⟩ := t.2 b hb
    have o3 := (ok.2.1 b hb).2.2.1
    show _ = some (Sum.inl (nI (hLots h b + (if hMov h b = 4 then 1 else 0)), nI (b + 1)))
    by_cases c : hMov h b = 4
    · simp (disch := omega) only [f_X7_lotBlocks_B4, f_X7_lotBlocks_L28, d_let, d_lef, d_ltt, d_ltf, d_eqt, d_eqf, ↓reduceIte, or_false, false_or, or_true, true_or, and_true, true_and, and_false, false_and, not_true_eq_false, not_false_eq_true, Bool.false_eq_true, Option.bind_some, q_ofNat, q_cl, q_lt, q_le, q_eq, nI_add, pk_mul, q_m1, q_m4, m1_lt, m1_le, m1_nlt, m1_nle, m1_ne, m1_ne2, m4_lt, m4_le, m4_nlt, m4_nle, m4_ne, m4_ne2, q_0, q_1, q_2, q_3, q_4, q_5, q_6, q_8, q_12, q_15, q_16, q_20, q_24, q_30, q_31, q_32, q_80, q_9, q_99, q_126, q_48, q_57, q_58, q_59, q_97, q_101, q_10, q_21, q_255, q_46656, e0, e2]
    · simp (disch := omega) only [f_X7_lotBlocks_B4, f_X7_lotBlocks_L28, d_let, d_lef, d_ltt, d_ltf, d_eqt, d_eqf, ↓reduceIte, or_false, false_or, or_true, true_or, and_true, true_and, and_false, false_and, not_true_eq_false, not_false_eq_true, Bool.false_eq_true, Option.bind_some, q_ofNat, q_cl, q_lt, q_le, q_eq, nI_add, pk_mul, q_m1, q_m4, m1_lt, m1_le, m1_nlt, m1_nle, m1_ne, m1_ne2, m4_lt, m4_le, m4_nlt, m4_nle, m4_ne, m4_ne2, q_0, q_1, q_2, q_3, q_4, q_5, q_6, q_8, q_12, q_15, q_16, q_20, q_24, q_30, q_31, q_32, q_80, q_9, q_99, q_126, q_48, q_57, q_58, q_59, q_97, q_101, q_10, q_21, q_255, q_46656, e0, e2]
  · simp (disch := omega) only [f_X7_lotBlocks_B4, d_let, d_lef, d_ltt, d_ltf, d_eqt, d_eqf, ↓reduceIte, or_false, false_or, or_true, true_or, and_true, true_and, and_false, false_and, not_true_eq_false, not_false_eq_true, Bool.false_eq_true, Option.bind_some, q_ofNat, q_cl, q_lt, q_le, q_eq, nI_add, pk_mul, q_m1, q_m4, m1_lt, m1_le, m1_nlt, m1_nle, m1_ne, m1_ne2, m4_lt, m4_le, m4_nlt, m4_nle, m4_ne, m4_ne2, q_0, q_1, q_2, q_3, q_4, q_5, q_6, q_8, q_12, q_15, q_16, q_20, q_24, q_30, q_31, q_32, q_80, q_9, q_99, q_126, q_48, q_57, q_58, q_59, q_97, q_101, q_10, q_21, q_255, q_46656, e0]
def lbP (h : Hl) (i b : Nat) : Bool := decide (hMov h b = 4 ∧ hLots h b = i)
def lbS (h : Hl) (i : Nat) : Nat := ff (lbP h i) 0 (hB h)
theorem hLots_le (h : Hl) (n : Nat) : hLots h n ≤ n := by
  have := sm_le (f := fun b => if hMov h b = 4 then 1 else 0) (m := 1) n (fun k _ => by split <;> omega)
  unfold hLots; omega
theorem x_lotB {h : Hl} (ok : hOK h) {vb : Int32} {vme vmo vdi vsi vor : Nat → Int32} (t : tX h vb vme vmo vdi vsi vor) {N : Nat} (hN : 200000 ≤ N) {i : Nat} (hi : i < 1000) : f_X5_lotBlock N vb vmo (nI i) = some (if lbS h i < hB h then nI (lbS h i) else m1) := by
  have h6 := ok.1
  have e0 := t.1
  unfold f_X5_lotBlock
  refine b_run (lp_find (fun k => (nI (hLots h k), nI k)) (lbP h i) (hB h) 0 (fun k => nI k) m1 (by omega) (by omega) rfl ?_ ?_ ?_) rfl
  · intro b _ hb hP
    have hP := of_decide_eq_false hP
    obtain ⟨e1, e2, _⟩ := t.2 b hb
    have o3 := (ok.2.1 b hb).2.2.1
    have hl := hLots_le h b
    show _ = some (Sum.inl (nI (hLots h b + (if hMov h b = 4 then 1 else 0)), nI (b + 1)))
    by_cases c : hMov h b = 4
    · have : hLots h b ≠ i := fun q => hP ⟨c, q⟩
      simp (disch := omega) only [f_X5_lotBlock_B4, f_X5_lotBlock_L32, d_let, d_lef, d_ltt, d_ltf, d_eqt, d_eqf, ↓reduceIte, or_false, false_or, or_true, true_or, and_true, true_and, and_false, false_and, not_true_eq_false, not_false_eq_true, Bool.false_eq_true, Option.bind_some, q_ofNat, q_cl, q_lt, q_le, q_eq, nI_add, pk_mul, q_m1, q_m4, m1_lt, m1_le, m1_nlt, m1_nle, m1_ne, m1_ne2, m4_lt, m4_le, m4_nlt, m4_nle, m4_ne, m4_ne2, q_0, q_1, q_2, q_3, q_4, q_5, q_6, q_8, q_12, q_15, q_16, q_20, q_24, q_30, q_31, q_32, q_80, q_9, q_99, q_126, q_48, q_57, q_58, q_59, q_97, q_101, q_10, q_21, q_255, q_46656, e0, e2]
    · simp (disch := omega) only [f_X5_lotBlock_B4, f_X5_lotBlock_L32, d_let, d_lef, d_ltt, d_ltf, d_eqt, d_eqf, ↓reduceIte, or_false, false_or, or_true, true_or, and_true, true_and, and_false, false_and, not_true_eq_false, not_false_eq_true, Bool.false_eq_true, Option.bind_some, q_ofNat, q_cl, q_lt, q_le, q_eq, nI_add, pk_mul, q_m1, q_m4, m1_lt, m1_le, m1_nlt, m1_nle, m1_ne, m1_ne2, m4_lt, m4_le, m4_nlt, m4_nle, m4_ne, m4_ne2, q_0, q_1, q_2, q_3, q_4, q_5, q_6, q_8, q_12, q_15, q_16, q_20, q_24, q_30, q_31, q_32, q_80, q_9, q_99, q_126, q_48, q_57, q_58, q_59, q_97, q_101, q_10, q_21, q_255, q_46656, e0, e2, Nat.add_zero]
  · intro b _ hb hP
    obtain ⟨c, d⟩ := of_decide_eq_true hP
    obtain ⟨e1, e2, _⟩ := t.2 b hb
    have hl := hLots_le h b
    simp (disch := omega) only [f_X5_lotBlock_B4, f_X5_lotBlock_L32, d_let, d_lef, d_ltt, d_ltf, d_eqt, d_eqf, ↓reduceIte, or_false, false_or, or_true, true_or, and_true, true_and, and_false, false_and, not_true_eq_false, not_false_eq_true, Bool.false_eq_true, Option.bind_some, q_ofNat, q_cl, q_lt, q_le, q_eq, nI_add, pk_mul, q_m1, q_m4, m1_lt, m1_le, m1_nlt, m1_nle, m1_ne, m1_ne2, m4_lt, m4_le, m4_nlt, m4_nle, m4_ne, m4_ne2, q_0, q_1, q_2, q_3, q_4, q_5, q_6, q_8, q_12, q_15, q_16, q_20, q_24, q_30, q_31, q_32, q_80, q_9, q_99, q_126, q_48, q_57, q_58, q_59, q_97, q_101, q_10, q_21, q_255, q_46656, e0, e2]
  · simp (disch := omega) only [f_X5_lotBlock_B4, d_let, d_lef, d_ltt, d_ltf, d_eqt, d_eqf, ↓reduceIte, or_false, false_or, or_true, true_or, and_true, true_and, and_false, false_and, not_true_eq_false, not_false_eq_true, Bool.false_eq_true, Option.bind_some, q_ofNat, q_cl, q_lt, q_le, q_eq, nI_add, pk_mul, q_m1, q_m4, m1_lt, m1_le, m1_nlt, m1_nle, m1_ne, m1_ne2, m4_lt, m4_le, m4_nlt, m4_nle, m4_ne, m4_ne2, q_0, q_1, q_2, q_3, q_4, q_5, q_6, q_8, q_12, q_15, q_16, q_20, q_24, q_30, q_31, q_32, q_80, q_9, q_99, q_126, q_48, q_57, q_58, q_59, q_97, q_101, q_10, q_21, q_255, q_46656, e0]
-- a row of numbers that comes round
theorem pigeon : ∀ (m n : Nat) (f : Nat → Nat), (∀ i, i < n → f i < m) → (∀ i j, i < j → j < n → f i ≠ f j) → n ≤ m := by
  intro m
  induction m with
  | zero =>
    intro n f h1 _
    refine Nat.le_of_not_lt (fun q => ?_)
    have := h1 0 (by omega); omega
  | succ m ih =>
    intro n f h1 h2
    by_cases c : ∃ i, i < n ∧ f i = m
    · obtain ⟨i0, hi0, hf⟩ := c
      have := ih (n - 1) (fun i => if i = i0 then f (n - 1) else f i) (fun i hi => by
          show (if i = i0 then f (n - 1) else f i) < m
          by_cases e : i = i0
          · rw [if_pos e]
            have a := h1 (n - 1) (by omega)
            have : f (n - 1) ≠ m := fun q => h2 i0 (n - 1) (by omega) (by omega) (hf.trans q.symm)
            omega
          · rw [if_neg e]
            have a := h1 i (by omega)
            have : f i ≠ m := fun q => by
              rcases Nat.lt_or_ge i i0 with l | l
              · exact h2 i i0 l hi0 (q.trans hf.symm)
              · exact h2 i0 i (by omega) (by omega) (hf.trans q.symm)
            omega) (fun i j hij hj => by
          show (if i = i0 then f (n - 1) else f i) ≠ (if j = i0 then f (n - 1) else f j)
          by_cases e : i = i0
          · rw [if_pos e, if_neg (by omega)]; exact fun q => h2 j (n - 1) (by omega) (by omega) q.symm
          · rw [if_neg e]
            by_cases e2 : j = i0
            · rw [if_pos e2]; exact h2 i (n - 1) (by omega) (by omega)
            · rw [if_neg e2]; exact h2 i j hij (by omega))
      omega
    · have := ih n f (fun i hi => by
        have a := h1 i hi
        have : f i ≠ m := fun q => c ⟨i, hi, q⟩
        omega) h2
      omega
theorem comes_round {s : Nat → Nat} (hb : ∀ k, s k < 46656) : ∃ mu la, 0 < la ∧ mu + la ≤ 46656 ∧ (∀ i j, i < j → j < mu + la → s i ≠ s j) ∧ s (mu + la) = s mu := by
  have ex : ∃ n, ∃ i, i < n ∧ s i = s n := by
    refine Classical.byContradiction (fun q => ?_)
    have := pigeon 46656 46657 s (fun i _ => hb i) (fun i j hij _ e => q ⟨j, i, hij, e⟩)
    omega
  obtain ⟨n, ⟨i, hi, he⟩, hn⟩ := pk_least _ ex
  have inj : ∀ a b, a < b → b < n → s a ≠ s b := fun a b hab hbn e => hn b hbn ⟨a, hab, e⟩
  have := pigeon 46656 n s (fun i _ => hb i) inj
  exact ⟨i, n - i, by omega, by omega, fun a b hab hbn => inj a b hab (by omega), by rw [show i + (n - i) = n by omega]; exact he.symm⟩
section RND
variable {s : Nat → Nat} {G : Nat → Nat} {mu la : Nat}
theorem rd_shift (hG : ∀ k, s (k + 1) = G (s k)) {i j : Nat} (h : s i = s j) : ∀ m, s (i + m) = s (j + m) := by
  intro m
  induction m with
  | zero => exact h
  | succ m ih => rw [← Nat.add_assoc, ← Nat.add_assoc, hG, hG, ih]
theorem rd_per (hG : ∀ k, s (k + 1) = G (s k)) (hp : s (mu + la) = s mu) {k : Nat} (hk : mu ≤ k) : s (k + la) = s k := by
  have := rd_shift hG hp (k - mu)
  rw [show mu + la + (k - mu) = k + la by omega, show mu + (k - mu) = k by omega] at this
  exact this
theorem rd_pers (hG : ∀ k, s (k + 1) = G (s k)) (hp : s (mu + la) = s mu) {k : Nat} (hk : mu ≤ k) : ∀ t, s (k + la * t) = s k := by
  intro t
  induction t with
  | zero => rfl
  | succ t ih => rw [Nat.mul_succ, ← Nat.add_assoc, rd_per hG hp (Nat.le_trans hk (Nat.le_add_right _ _)), ih]
theorem rd_in (hG : ∀ k, s (k + 1) = G (s k)) (hl : 0 < la) (hp : s (mu + la) = s mu) : ∀ (d k : Nat), k ≤ d → mu ≤ k → ∃ j, mu ≤ j ∧ j < mu + la ∧ s k = s j := by
  intro d
  induction d with
  | zero => intro k h1 h2; exact ⟨k, h2, by omega, rfl⟩
  | succ d ih =>
    intro k h1 h2
    by_cases c : k < mu + la
    · exact ⟨k, h2, c, rfl⟩
    · obtain ⟨j, a1, a2, a3⟩ := ih (k - la) (by omega) (by omega)
      have := rd_per hG hp (k := k - la) (by omega)
      rw [show k - la + la = k by omega] at this
      exact ⟨j, a1, a2, this.trans a3⟩
theorem rd_key (hG : ∀ k, s (k + 1) = G (s k)) (hl : 0 < la) (inj : ∀ i j, i < j → j < mu + la → s i ≠ s j) (hp : s (mu + la) = s mu) {i l : Nat} (h0 : 0 < l) (he : s (i + l) = s i) : mu ≤ i := by
  refine Nat.le_of_not_lt (fun q => ?_)
  by_cases c : i + l < mu + la
  · exact inj i (i + l) (by omega) c he.symm
  · obtain ⟨j, a1, a2, a3⟩ := rd_in hG hl hp (i + l) (i + l) (Nat.le_refl _) (by omega)
    exact inj i j (by omega) a2 (he.symm.trans a3)
theorem rd_low (hG : ∀ k, s (k + 1) = G (s k)) (inj : ∀ i j, i < j → j < mu + la → s i ≠ s j) (hp : s (mu + la) = s mu) {i l : Nat} (hi : mu ≤ i) (h0 : 0 < l) (h1 : l < la) : s (i + l) ≠ s i := by
  intro he
  have a : i - mu ≤ la * (i - mu) := Nat.le_mul_of_pos_left _ (by omega)
  have e := rd_shift hG he (la * (i - mu) - (i - mu))
  have e1 : i + (la * (i - mu) - (i - mu)) = mu + la * (i - mu) := by omega
  have e2 : i + l + (la * (i - mu) - (i - mu)) = mu + l + la * (i - mu) := by omega
  rw [e1, e2, rd_pers hG hp (Nat.le_refl _), rd_pers hG hp (k := mu + l) (by omega)] at e
  exact inj mu (mu + l) (by omega) (by omega) e.symm
end RND
