theorem lp_rel {σ ρ : Type} {b : σ → Option (σ ⊕ ρ)} (I : Nat → σ → Prop) (Q : ρ → Prop) (n : Nat) (h1 : ∀ k, k < n → ∀ s, I k s → (∃ s', b s = some (.inl s') ∧ I (k + 1) s') ∨ (∃ r, b s = some (.inr r) ∧ Q r)) (h2 : ∀ s, I n s → ∃ r, b s = some (.inr r) ∧ Q r) :
    ∀ (m N k : Nat) (s : σ), k + m = n → m < N → I k s → ∃ r, lp b N s = some r ∧ Q r := by
  intro m
  induction m with
  | zero =>
    intro N k s hk hN hI
    obtain ⟨M, rfl⟩ : ∃ q, N = q + 1 := ⟨N - 1, by omega⟩
    obtain ⟨r, a1, a2⟩ := h2 s (by rw [show n = k by omega]; exact hI)
    exact ⟨r, lp_stop a1, a2⟩
  | succ m ih =>
    intro N k s hk hN hI
    obtain ⟨M, rfl⟩ : ∃ q, N = q + 1 := ⟨N - 1, by omega⟩
    rcases h1 k (by omega) s hI with ⟨s', a1, a2⟩ | ⟨r, a1, a2⟩
    · obtain ⟨r, b1, b2⟩ := ih M (k + 1) s' (by omega) (by omega) a2
      exact ⟨r, by rw [lp_step a1]; exact b1, b2⟩
    · exact ⟨r, lp_stop a1, a2⟩
theorem lp_rel0 {σ ρ : Type} {b : σ → Option (σ ⊕ ρ)} {N : Nat} {s : σ} (I : Nat → σ → Prop) (Q : ρ → Prop) (n : Nat) (hN : n < N) (h0 : I 0 s) (h1 : ∀ k, k < n → ∀ s, I k s → (∃ s', b s = some (.inl s') ∧ I (k + 1) s') ∨ (∃ r, b s = some (.inr r) ∧ Q r)) (h2 : ∀ s, I n s → ∃ r, b s = some (.inr r) ∧ Q r) : ∃ r, lp b N s = some r ∧ Q r :=
  lp_rel I Q n h1 h2 n N 0 s (by omega) hN h0
-- waiting
def woC (h : Hl) (b ch : Nat) : Nat := if ch = 0 then 9 else if pl h b (ch - 1) < hSiz h b then pl h b (ch - 1) else 9
def woS (h : Hl) (r : Br) (b w : Nat) : Nat := woC h b (goS h r (b + 1) w 32 c0).2.2.1
theorem woS_le {h : Hl} (ok : hOK h) {r : Br} {b : Nat} (hb : b < hB h) (w : Nat) : woS h r b w ≤ 9 := by
  have := (ok.2.1 b hb).2.2.2.2.1
  unfold woS woC
  split
  · omega
  · split <;> omega
theorem x_worth {h : Hl} (ok : hOK h) {vb : Int32} {vme vmo vdi vsi vor : Nat → Int32} (t : tX h vb vme vmo vdi vsi vor) {N : Nat} (hN : 200000 ≤ N) {r : Br} (rok : bOK r) {vab vbe vst vlo : Nat → Int32} (rr : rX r vab vbe vst vlo) {b w : Nat} (hb : b < hB h) (hw : w < 1000) (vw vws vc : Nat → Int32) : ∃ u : Int32 × Int32 × Int32 × Int32 × Int32 × Int32 × (Nat → Int32) × (Nat → Int32) × (Nat → Int32), f_X6_worthOfWaiting N vb vme vmo vdi vsi vor vab vbe vst vlo vw vws vc (nI b) (nI w) = some u ∧ u.1 = nI (woS h r b w) := by
  have h6 := ok.1
  obtain ⟨vw', vc', R1, R2⟩ := x_restart hN h vw vc
  obtain ⟨u, U1, U2⟩ := x_goOn ok t hN rok rr (wt := b + 1) (wn := w) (by omega) hw (n := 32) (by decide) (c0_ok h) (vws := vws) R2
  have g1 := (goS_ok ok (r := r) (wt := b + 1) (wn := w) 32 c0 (c0_ok h)).2.2.1
  have U3 := U2.2.2.1
  have hp := (ok.2.1 b hb).2.2.2.2.1
  unfold f_X6_worthOfWaiting
  rw [R1, Option.bind_some]
  show ∃ u_1, ((f_X0_goOn N (nI 0) (nI 0) (wX 0) (wX (b + 1)) (nI w) vw' vws vc' vb vme vmo vdi vsi vor vab vbe vst vlo (nI 32)).bind _) = some u_1 ∧ _
  rw [U1, Option.bind_some, U3]
  unfold woS woC
  by_cases h0 : (goS h r (b + 1) w 32 c0).2.2.1 = 0
  · have P := x_placeN ok t hN hb
    rw [h0, wX_0, P, Option.bind_some, if_pos (show m1 = -1 from rfl), if_pos rfl]
    exact ⟨_, rfl, rfl⟩
  · have P := x_place ok t hN hb (k := (goS h r (b + 1) w 32 c0).2.2.1 - 1) (by omega)
    rw [show wX (goS h r (b + 1) w 32 c0).2.2.1 = nI ((goS h r (b + 1) w 32 c0).2.2.1 - 1) from if_neg h0, P, Option.bind_some, if_neg h0]
    by_cases hl : pl h b ((goS h r (b + 1) w 32 c0).2.2.1 - 1) < hSiz h b
    · rw [if_pos hl, if_pos hl, if_neg (show ¬ nI (pl h b ((goS h r (b + 1) w 32 c0).2.2.1 - 1)) = -1 from by rw [show (-1 : Int32) = m1 from rfl, m1_ne (by omega)]; exact id)]
      exact ⟨_, rfl, rfl⟩
    · rw [if_neg hl, if_neg hl, if_pos (show m1 = -1 from rfl)]
      exact ⟨_, rfl, rfl⟩
def wtF (h : Hl) (r : Br) (b k : Nat) (s : Nat × Nat) : Nat × Nat := if woS h r b (k + 1) < s.2 then (k + 1, woS h r b (k + 1)) else s
def wtS (h : Hl) (r : Br) (b k : Nat) : Nat × Nat := it (wtF h r b) (0, woS h r b 0) k
theorem wtS_le {h : Hl} (ok : hOK h) {r : Br} {b : Nat} (hb : b < hB h) : ∀ k, (wtS h r b k).1 ≤ k ∧ (wtS h r b k).2 ≤ 9 := by
  intro k
  induction k with
  | zero => exact ⟨Nat.le_refl _, woS_le ok hb 0⟩
  | succ k ih =>
    have := woS_le ok (r := r) hb (k + 1)
    show (wtF h r b k (wtS h r b k)).1 ≤ k + 1 ∧ (wtF h r b k (wtS h r b k)).2 ≤ 9
    generalize wtS h r b k = z at *
    unfold wtF
    split
    · dsimp only; omega
    · omega
theorem x_waits {h : Hl} (ok : hOK h) {vb : Int32} {vme vmo vdi vsi vor : Nat → Int32} (t : tX h vb vme vmo vdi vsi vor) {N : Nat} (hN : 200000 ≤ N) {r : Br} (rok : bOK r) {vab vbe vst vlo : Nat → Int32} (rr : rX r vab vbe vst vlo) {b : Nat} (hb : b < hB h) {s : Int32 × Int32 × Int32 × Int32 × Int32 × Int32 × Int32 × Int32 × (Nat → Int32) × (Nat → Int32) × (Nat → Int32)} (h1 : s.1 = nI 0) (h2 : s.2.1 = nI (woS h r b 0)) (h3 : s.2.2.1 = nI 1) :
    ∃ e : Int32 × Int32 × Int32 × Int32 × Int32 × Int32 × Int32 × Int32 × (Nat → Int32) × (Nat → Int32) × (Nat → Int32), lp (fun s : Int32 × Int32 × Int32 × Int32 × Int32 × Int32 × Int32 × Int32 × (Nat → Int32) × (Nat → Int32) × (Nat → Int32) => f_X6_waits_B32 N vb vme vmo vdi vsi vor vab vbe vst vlo (nI b) s.1 s.2.1 s.2.2.1 s.2.2.2.1 s.2.2.2.2.1 s.2.2.2.2.2.1 s.2.2.2.2.2.2.1 s.2.2.2.2.2.2.2.1 s.2.2.2.2.2.2.2.2.1 s.2.2.2.2.2.2.2.2.2.1 s.2.2.2.2.2.2.2.2.2.2) N s = some e ∧ e.1 = nI (wtS h r b 4).1 ∧ e.2.1 = nI (wtS h r b 4).2 := by
  refine lp_rel0 (fun k s => s.1 = nI (wtS h r b k).1 ∧ s.2.1 = nI (wtS h r b k).2 ∧ s.2.2.1 = nI (k + 1)) _ 4 (by omega) ⟨h1, h2, h3⟩ ?_ ?_
  · rintro k hk s ⟨a1, a2, a3⟩
    left
    obtain ⟨u, U1, U2⟩ := x_worth ok t hN rok rr hb (w := k + 1) (by omega) s.2.2.2.2.2.2.2.2.1 s.2.2.2.2.2.2.2.2.2.1 s.2.2.2.2.2.2.2.2.2.2
    have hz := wtS_le ok (r := r) hb k
    have hwo := woS_le ok (r := r) hb (k + 1)
    have E : wtS h r b (k + 1) = wtF h r b k (wtS h r b k) := rfl
    rw [E]
    generalize wtS h r b k = z at *
    unfold wtF
    by_cases c : woS h r b (k + 1) < z.2
    · rw [if_pos c]
      refine ⟨(nI (k + 1), u.1, nI (k + 1 + 1), u.2.1, u.2.2.1, u.2.2.2.1, u.2.2.2.2.1, u.2.2.2.2.2.1, u.2.2.2.2.2.2.1, u.2.2.2.2.2.2.2.1, u.2.2.2.2.2.2.2.2), ?_, rfl, U2, rfl⟩
      simp (disch := omega) only [f_X6_waits_B32, f_X6_waits_L61, d_let, d_lef, d_ltt, d_ltf, d_eqt, d_eqf, ↓reduceIte, or_false, false_or, or_true, true_or, and_true, true_and, and_false, false_and, not_true_eq_false, not_false_eq_true, Bool.false_eq_true, Option.bind_some, q_ofNat, q_cl, q_lt, q_le, q_eq, nI_add, pk_mul, q_m1, q_m4, m1_lt, m1_le, m1_nlt, m1_nle, m1_ne, m1_ne2, m4_lt, m4_le, m4_nlt, m4_nle, m4_ne, m4_ne2, q_0, q_1, q_2, q_3, q_4, q_5, q_6, q_8, q_12, q_15, q_16, q_20, q_24, q_30, q_31, q_32, q_80, q_9, q_99, q_126, q_48, q_57, q_58, q_59, q_97, q_101, q_10, q_21, q_255, q_46656, a1, a2, a3, U1, U2]
    · rw [if_neg c]
      refine ⟨(nI z.1, nI z.2, nI (k + 1 + 1), u.2.1, u.2.2.1, u.2.2.2.1, u.2.2.2.2.1, u.2.2.2.2.2.1, u.2.2.2.2.2.2.1, u.2.2.2.2.2.2.2.1, u.2.2.2.2.2.2.2.2), ?_, rfl, rfl, rfl⟩
      simp (disch := omega) only [f_X6_waits_B32, f_X6_waits_L61, d_let, d_lef, d_ltt, d_ltf, d_eqt, d_eqf, ↓reduceIte, or_false, false_or, or_true, true_or, and_true, true_and, and_false, false_and, not_true_eq_false, not_false_eq_true, Bool.false_eq_true, Option.bind_some, q_ofNat, q_cl, q_lt, q_le, q_eq, nI_add, pk_mul, q_m1, q_m4, m1_lt, m1_le, m1_nlt, m1_nle, m1_ne, m1_ne2, m4_lt, m4_le, m4_nlt, m4_nle, m4_ne, m4_ne2, q_0, q_1, q_2, q_3, q_4, q_5, q_6, q_8, q_12, q_15, q_16, q_20, q_24, q_30, q_31, q_32, q_80, q_9, q_99, q_126, q_48, q_57, q_58, q_59, q_97, q_101, q_10, q_21, q_255, q_46656, a1, a2, a3, U1, U2]
  · rintro s ⟨a1, a2, a3⟩
    refine ⟨s, ?_, a1, a2⟩
    simp (disch := omega) only [f_X6_waits_B32, d_let, d_lef, d_ltt, d_ltf, d_eqt, d_eqf, ↓reduceIte, or_false, false_or, or_true, true_or, and_true, true_and, and_false, false_and, not_true_eq_false, not_false_eq_true, Bool.false_eq_true, Option.bind_some, q_ofNat, q_cl, q_lt, q_le, q_eq, nI_add, pk_mul, q_m1, q_m4, m1_lt, m1_le, m1_nlt, m1_nle, m1_ne, m1_ne2, m4_lt, m4_le, m4_nlt, m4_nle, m4_ne, m4_ne2, q_0, q_1, q_2, q_3, q_4, q_5, q_6, q_8, q_12, q_15, q_16, q_20, q_24, q_30, q_31, q_32, q_80, q_9, q_99, q_126, q_48, q_57, q_58, q_59, q_97, q_101, q_10, q_21, q_255, q_46656, a3]
    rw [← a3]
def wmS (h : Hl) (r : Br) (b : Nat) : Nat → Int32 × Int32
  | 0 => (m4, nI 99)
  | k + 1 => (nI (wtS h r b k).1, nI (wtS h r b k).2)
theorem m_worth {h : Hl} (ok : hOK h) {vb : Int32} {vme vmo vdi vsi vor : Nat → Int32} (t : tX h vb vme vmo vdi vsi vor) {N : Nat} (hN : 200000 ≤ N) {b : Nat} (hb : b < hB h) {ch : Nat} (hc : ch ≤ 5) : ∃ z, (if ch = 0 then some m4 else f_X7_placeIn N vsi vor (nI b) (nI (ch - 1))) = some z ∧ (if nI 0 ≤ z then z else nI 9) = nI (woC h b ch) := by
  have hp := (ok.2.1 b hb).2.2.2.2.1
  unfold woC
  by_cases h0 : ch = 0
  · rw [if_pos h0, if_pos h0]
    exact ⟨m4, rfl, by rw [if_neg]; decide⟩
  · rw [if_neg h0, if_neg h0]
    have P := m_place ok t hN hb (k := ch - 1) (by omega)
    rw [P]
    refine ⟨_, rfl, ?_⟩
    by_cases hl : pl h b (ch - 1) < hSiz h b
    · rw [if_pos hl, if_pos hl, if_pos (by rw [q_le (by omega) (by omega)]; omega)]
    · rw [if_neg hl, if_neg hl, if_neg (by decide)]
theorem m_waits {h : Hl} (ok : hOK h) {vb : Int32} {vme vmo vdi vsi vor : Nat → Int32} (t : tX h vb vme vmo vdi vsi vor) {N : Nat} (hN : 200000 ≤ N) {r : Br} (rok : bOK r) {vab vbe vst vlo : Nat → Int32} (rr : rX r vab vbe vst vlo) {b : Nat} (hb : b < hB h) {tb : Int32} {s : Int32 × Int32 × Int32 × (Nat → Int32) × (Nat → Int32) × (Nat → Int32) × Int32 × Int32 × Int32 × Int32 × Int32} (h1 : s.1 = m4) (h2 : s.2.1 = nI 99) (h3 : s.2.2.1 = nI 0) (h4 : ∃ q, q < 1000 ∧ s.2.2.2.2.2.2.2.1 = nI q) :
    ∃ e : Int32 × Int32 × Int32 × (Nat → Int32) × (Nat → Int32) × (Nat → Int32) × Int32 × Int32 × Int32 × Int32 × Int32, lp (fun s : Int32 × Int32 × Int32 × (Nat → Int32) × (Nat → Int32) × (Nat → Int32) × Int32 × Int32 × Int32 × Int32 × Int32 => f_X7_waits_B35 N vb (nI b) (nI 0) tb vme vmo vdi vsi vor vab vbe vst vlo (nI b) s.1 s.2.1 s.2.2.1 s.2.2.2.1 s.2.2.2.2.1 s.2.2.2.2.2.1 s.2.2.2.2.2.2.1 s.2.2.2.2.2.2.2.1 s.2.2.2.2.2.2.2.2.1 s.2.2.2.2.2.2.2.2.2.1 s.2.2.2.2.2.2.2.2.2.2) N s = some e ∧ e.1 = nI (wtS h r b 4).1 ∧ e.2.1 = nI (wtS h r b 4).2 ∧ ∃ q, q < 1000 ∧ e.2.2.2.2.2.2.2.1 = nI q := by
  have h6 := ok.1
  refine lp_rel0 (fun k s => s.1 = (wmS h r b k).1 ∧ s.2.1 = (wmS h r b k).2 ∧ s.2.2.1 = nI k ∧ ∃ q, q < 1000 ∧ s.2.2.2.2.2.2.2.1 = nI q) _ 5 (by omega) ⟨h1, h2, h3, h4⟩ ?_ ?_
  · rintro k hk s ⟨a1, a2, a3, a4⟩
    left
    obtain ⟨u, U1, U2, U3⟩ := m_findEnd ok t hN rok rr (wt := b + 1) (wn := k) (by omega) (by omega) (tb := tb) (ta := s.2.2.2.2.2.2.2.2.1) s.2.2.2.1 s.2.2.2.2.1 s.2.2.2.2.2.1
    have g1 := (goS_ok ok (r := r) (wt := b + 1) (wn := k) 32 c0 (c0_ok h)).2.2.1
    obtain ⟨z, Z1, Z2⟩ := m_worth ok t hN hb g1
    have hwo := woS_le ok (r := r) hb k
    have Z2 : (if nI 0 ≤ z then z else nI 9) = nI (woS h r b k) := Z2
    rw [wM_s] at U1
    -- the new best and least
    have key : f_X7_waits_B35 N vb (nI b) (nI 0) tb vme vmo vdi vsi vor vab vbe vst vlo (nI b) s.1 s.2.1 s.2.2.1 s.2.2.2.1 s.2.2.2.2.1 s.2.2.2.2.2.1 s.2.2.2.2.2.2.1 s.2.2.2.2.2.2.2.1 s.2.2.2.2.2.2.2.2.1 s.2.2.2.2.2.2.2.2.2.1 s.2.2.2.2.2.2.2.2.2.2 = (if s.2.1 ≤ nI (woS h r b k) then some (.inl (s.1, s.2.1, nI (k + 1), u.1, u.2.1, u.2.2.1, u.2.2.2.1, nI k, u.2.2.2.2.1, u.2.2.2.2.2.1, u.2.2.2.2.2.2)) else some (.inl (nI k, nI (woS h r b k), nI (k + 1), u.1, u.2.1, u.2.2.1, u.2.2.2.1, nI k, u.2.2.2.2.1, u.2.2.2.2.2.1, u.2.2.2.2.2.2))) := by
      have L : f_X7_waits_L72 s.1 s.2.1 (nI k) u.1 u.2.1 u.2.2.1 u.2.2.2.1 (nI k) u.2.2.2.2.1 u.2.2.2.2.2.1 u.2.2.2.2.2.2 z = (if s.2.1 ≤ nI (woS h r b k) then some (.inl (s.1, s.2.1, nI (k + 1), u.1, u.2.1, u.2.2.1, u.2.2.2.1, nI k, u.2.2.2.2.1, u.2.2.2.2.2.1, u.2.2.2.2.2.2)) else some (.inl (nI k, nI (woS h r b k), nI (k + 1), u.1, u.2.1, u.2.2.1, u.2.2.2.1, nI k, u.2.2.2.2.1, u.2.2.2.2.2.1, u.2.2.2.2.2.2))) := by
        unfold f_X7_waits_L72 f_X7_waits_L86 f_X7_waits_L102
        rw [← Z2, nI_1]
        by_cases c : nI 0 ≤ z
        · rw [if_pos c, if_pos (show (0 : Int32) ≤ z from c)]
        · rw [if_neg c, if_neg (show ¬ (0 : Int32) ≤ z from c)]; rfl
      unfold f_X7_waits_B35
      rw [a3, if_neg (by rw [show (4 : Int32) = nI 4 from rfl, q_lt (by omega) (by omega)]; omega), U1, Option.bind_some]
      by_cases c : (goS h r (b + 1) k 32 c0).2.2.1 = 0
      · rw [if_pos c] at Z1
        have := osi Z1
        subst this
        rw [if_neg (by rw [U2, c]; decide)]
        exact L
      · rw [if_neg c] at Z1
        rw [if_pos (by rw [U2, show (0 : Int32) = nI 0 from rfl, q_wMg (by omega)]; exact c), U2, show wM (goS h r (b + 1) k 32 c0).2.2.1 = nI ((goS h r (b + 1) k 32 c0).2.2.1 - 1) from if_neg c, Z1, Option.bind_some]
        rw [U2, show wM (goS h r (b + 1) k 32 c0).2.2.1 = nI ((goS h r (b + 1) k 32 c0).2.2.1 - 1) from if_neg c] at L
        exact L
    rw [key, a1, a2]
    match k, hk with
    | 0, _ =>
      show ∃ s', (if nI 99 ≤ nI (woS h r b 0) then _ else _) = _ ∧ _
      rw [if_neg (by rw [q_le (by omega) (by omega)]; omega)]
      exact ⟨_, rfl, rfl, rfl, rfl, ⟨0, by decide, rfl⟩⟩
    | k + 1, hk =>
      have hz := wtS_le ok (r := r) hb k
      have E : wmS h r b (k + 1 + 1) = (nI (wtF h r b k (wtS h r b k)).1, nI (wtF h r b k (wtS h r b k)).2) := rfl
      rw [E]
      show ∃ s', (if nI (wtS h r b k).2 ≤ nI (woS h r b (k + 1)) then _ else _) = _ ∧ _
      unfold wtF
      by_cases c : woS h r b (k + 1) < (wtS h r b k).2
      · rw [if_neg (by rw [q_le (by omega) (by omega)]; omega), if_pos c]
        exact ⟨_, rfl, rfl, rfl, rfl, ⟨k + 1, by omega, rfl⟩⟩
      · rw [if_pos (by rw [q_le (by omega) (by omega)]; omega), if_neg c]
        exact ⟨_, rfl, rfl, rfl, rfl, ⟨k + 1, by omega, rfl⟩⟩
  · rintro s ⟨a1, a2, a3, a4⟩
    refine ⟨s, ?_, a1, a2, a4⟩
    unfold f_X7_waits_B35
    rw [if_pos (by rw [a3]; decide)]
theorem ok_waits {N : Nat} (hN : 200000 ≤ N) : st_waits N Rel := by
  unfold st_waits
  intro vx_kept vx_tape_length vx_tape_at vx_tape_lotBlocks vx_tape_bytes vx_tape_digitPlaces vx_told_blocks vx_told_members vx_told_moves vx_told_digits vx_told_sizes vx_told_orders vx_told_above vx_told_below vx_told_struck vx_told_lots vx_course_ballots vx_course_used vx_course_chosen vx_course_waiter vx_course_wait vx_course_wrote vx_course_writes vx_course_counts vx_keptTold_blocks vx_keptTold_members vx_keptTold_moves vx_keptTold_digits vx_keptTold_sizes vx_keptTold_orders vx_keptTold_above vx_keptTold_below vx_keptTold_struck vx_keptTold_lots vx_keptCourse_ballots vx_keptCourse_used vx_keptCourse_chosen vx_keptCourse_waiter vx_keptCourse_wait vx_keptCourse_wrote vx_keptCourse_writes vx_keptCourse_counts vx_trialTold_blocks vx_trialTold_members vx_trialTold_moves vx_trialTold_digits vx_trialTold_sizes vx_trialTold_orders vx_trialTold_above vx_trialTold_below vx_trialTold_struck vx_trialTold_lots vx_trial_ballots vx_trial_used vx_trial_chosen vx_trial_waiter vx_trial_wait vx_trial_wrote vx_trial_writes vx_trial_counts vx_odds_above vx_odds_below vx_odds_now_size nx_odds_now_states vx_odds_now_states nx_odds_now_weights vx_odds_now_weights nx_odds_now_slots vx_odds_now_slots vx_odds_then_size nx_odds_then_states vx_odds_then_states nx_odds_then_weights vx_odds_then_weights nx_odds_then_slots vx_odds_then_slots vx_odds_trial_ballots vx_odds_trial_used vx_odds_trial_chosen vx_odds_trial_waiter vx_odds_trial_wait vx_odds_trial_wrote vx_odds_trial_writes vx_odds_trial_counts vx_sheets_lanes vx_sheets_sizes vx_sheets_items vm_blocks vm_done vm_used vm_taken vm_taped vm_at vm_readBlocks vm_copyUsed vm_waiter vm_waiting vm_isTold vm_toldBits vm_toldAt vm_endName vm_endBallot vm_isKept vm_imageAt vm_members vm_moves vm_digits vm_sizes vm_orders vm_above vm_below vm_struck vm_lotted vm_wrote vm_tape vm_readMembers vm_readMoves vm_readDigits vm_readSizes vm_readOrders vm_digitPlaces vm_copy vm_then vm_counts vm_ways vm_more vm_image vm_singles vm_lanes vm_rowSizes vm_items y0 y1 hR
  obtain ⟨RB, RK, RT, RS, RO, RW⟩ := Rel_out hR
  obtain ⟨h, r, s, ok, rok, sok, tx, rx, cx, tm, td, rm, cm⟩ := RB
  have h6 := ok.1
  have e1 := tx.1; have e2 := tm.1
  have RB' : RelB vx_told_blocks vx_told_members vx_told_moves vx_told_digits vx_told_sizes vx_told_orders vx_told_above vx_told_below vx_told_struck vx_told_lots vx_course_ballots vx_course_used vx_course_chosen vx_course_wrote vx_course_counts vm_blocks vm_done vm_used vm_taken vm_members vm_moves vm_digits vm_sizes vm_orders vm_above vm_below vm_struck vm_lotted vm_wrote := ⟨h, r, s, ok, rok, sok, tx, rx, cx, tm, td, rm, cm⟩
  have NO : (y0.toInt < 0 ∨ (hB h : Int) ≤ y0.toInt ∨ y1.toInt < 0 ∨ 1 < y1.toInt) → f_X6_waits N vx_told_blocks vx_told_members vx_told_moves vx_told_digits vx_told_sizes vx_told_orders vx_told_above vx_told_below vx_told_struck vx_told_lots vx_trial_ballots vx_trial_used vx_trial_chosen vx_trial_waiter vx_trial_wait vx_trial_wrote vx_trial_writes vx_trial_counts y0 y1 = some (m1, vx_trial_ballots, vx_trial_used, vx_trial_chosen, vx_trial_waiter, vx_trial_wait, vx_trial_wrote, vx_trial_writes, vx_trial_counts) ∧ f_X7_waits N vm_blocks vm_copyUsed vm_waiter vm_waiting vm_isTold vm_toldBits vm_toldAt vm_endName vm_endBallot vm_members vm_moves vm_digits vm_sizes vm_orders vm_above vm_below vm_struck vm_lotted vm_copy vm_then vm_counts y0 y1 = some (m1, vm_copy, vm_then, vm_counts, vm_copyUsed, vm_waiter, vm_waiting, vm_toldAt, vm_endName, vm_endBallot) := by
    clear hR RK RT RS RO RB'
    intro q
    unfold f_X6_waits f_X6_isBlock f_X7_waits
    rw [e1, e2, m_isBlock h6]
    by_cases q1 : y0.toInt < 0
    · constructor <;> simp (disch := omega) only [d_let, d_lef, d_ltt, d_ltf, d_eqt, d_eqf, ↓reduceIte, or_false, false_or, or_true, true_or, and_true, true_and, and_false, false_and, not_true_eq_false, not_false_eq_true, Bool.false_eq_true, Option.bind_some, q_ofNat, q_cl, q_lt, q_le, q_eq, nI_add, pk_mul, q_m1, q_m4, m1_lt, m1_le, m1_nlt, m1_nle, m1_ne, m1_ne2, m4_lt, m4_le, m4_nlt, m4_nle, m4_ne, m4_ne2, q_0, q_1, q_2, q_3, q_4, q_5, q_6, q_8, q_12, q_15, q_16, q_20, q_24, q_30, q_31, q_32, q_80, q_9, q_99, q_126, q_48, q_57, q_58, q_59, q_97, q_101, q_10, q_21, q_255, q_46656, i_lt, i_ltr, i_le, i_ler, i_eq, di_let, di_lef, di_ltt, di_ltf, di_eqt, di_eqf, nI_toIntq, m1_toInt, m4_toInt, mi_0_7, mi_1_12, mi_0_4, mi_0_15, mi_0_3, mi_0_32, mi_1_32, mi_0_1, mi_1_8, mi_0_2, mi_1_16, mi_1_4]
    · by_cases q2 : (hB h : Int) ≤ y0.toInt
      · constructor <;> simp (disch := omega) only [d_let, d_lef, d_ltt, d_ltf, d_eqt, d_eqf, ↓reduceIte, or_false, false_or, or_true, true_or, and_true, true_and, and_false, false_and, not_true_eq_false, not_false_eq_true, Bool.false_eq_true, Option.bind_some, q_ofNat, q_cl, q_lt, q_le, q_eq, nI_add, pk_mul, q_m1, q_m4, m1_lt, m1_le, m1_nlt, m1_nle, m1_ne, m1_ne2, m4_lt, m4_le, m4_nlt, m4_nle, m4_ne, m4_ne2, q_0, q_1, q_2, q_3, q_4, q_5, q_6, q_8, q_12, q_15, q_16, q_20, q_24, q_30, q_31, q_32, q_80, q_9, q_99, q_126, q_48, q_57, q_58, q_59, q_97, q_101, q_10, q_21, q_255, q_46656, i_lt, i_ltr, i_le, i_ler, i_eq, di_let, di_lef, di_ltt, di_ltf, di_eqt, di_eqf, nI_toIntq, m1_toInt, m4_toInt, mi_0_7, mi_1_12, mi_0_4, mi_0_15, mi_0_3, mi_0_32, mi_1_32, mi_0_1, mi_1_8, mi_0_2, mi_1_16, mi_1_4]
      · by_cases q3 : y1.toInt < 0
        · constructor <;> simp (disch := omega) only [d_let, d_lef, d_ltt, d_ltf, d_eqt, d_eqf, ↓reduceIte, or_false, false_or, or_true, true_or, and_true, true_and, and_false, false_and, not_true_eq_false, not_false_eq_true, Bool.false_eq_true, Option.bind_some, q_ofNat, q_cl, q_lt, q_le, q_eq, nI_add, pk_mul, q_m1, q_m4, m1_lt, m1_le, m1_nlt, m1_nle, m1_ne, m1_ne2, m4_lt, m4_le, m4_nlt, m4_nle, m4_ne, m4_ne2, q_0, q_1, q_2, q_3, q_4, q_5, q_6, q_8, q_12, q_15, q_16, q_20, q_24, q_30, q_31, q_32, q_80, q_9, q_99, q_126, q_48, q_57, q_58, q_59, q_97, q_101, q_10, q_21, q_255, q_46656, i_lt, i_ltr, i_le, i_ler, i_eq, di_let, di_lef, di_ltt, di_ltf, di_eqt, di_eqf, nI_toIntq, m1_toInt, m4_toInt, mi_0_7, mi_1_12, mi_0_4, mi_0_15, mi_0_3, mi_0_32, mi_1_32, mi_0_1, mi_1_8, mi_0_2, mi_1_16, mi_1_4]
        · constructor <;> simp (disch := omega) only [d_let, d_lef, d_ltt, d_ltf, d_eqt, d_eqf, ↓reduceIte, or_false, false_or, or_true, true_or, and_true, true_and, and_false, false_and, not_true_eq_false, not_false_eq_true, Bool.false_eq_true, Option.bind_some, q_ofNat, q_cl, q_lt, q_le, q_eq, nI_add, pk_mul, q_m1, q_m4, m1_lt, m1_le, m1_nlt, m1_nle, m1_ne, m1_ne2, m4_lt, m4_le, m4_nlt, m4_nle, m4_ne, m4_ne2, q_0, q_1, q_2, q_3, q_4, q_5, q_6, q_8, q_12, q_15, q_16, q_20, q_24, q_30, q_31, q_32, q_80, q_9, q_99, q_126, q_48, q_57, q_58, q_59, q_97, q_101, q_10, q_21, q_255, q_46656, i_lt, i_ltr, i_le, i_ler, i_eq, di_let, di_lef, di_ltt, di_ltf, di_eqt, di_eqf, nI_toIntq, m1_toInt, m4_toInt, mi_0_7, mi_1_12, mi_0_4, mi_0_15, mi_0_3, mi_0_32, mi_1_32, mi_0_1, mi_1_8, mi_0_2, mi_1_16, mi_1_4]
  by_cases q : (y0.toInt < 0 ∨ (hB h : Int) ≤ y0.toInt ∨ y1.toInt < 0 ∨ 1 < y1.toInt)
  · exact ⟨_, _, (NO q).1, (NO q).2, rfl, Rel_in RB' RK RT RS RO RW⟩
  · obtain ⟨b, rfl, _, hb⟩ := inR_nat (y := y0) (a := 0) (b := 5) ⟨by omega, by omega⟩
    have hb : b < hB h := by rw [nI_toInt (by omega)] at q; omega
    obtain ⟨k, rfl, _, hk⟩ := inR_nat (y := y1) (a := 0) (b := 1) ⟨by omega, by omega⟩
    clear q NO
    obtain ⟨W1, W2, W3, W4, W5⟩ := RW
    obtain ⟨u, U1, U2⟩ := x_worth ok tx hN rok rx hb (w := 0) (by decide) vx_trial_wrote vx_trial_writes vx_trial_counts
    obtain ⟨e, E1, E2, E3⟩ := x_waits ok tx hN rok rx hb (s := ((0 : Int32), u.1, (1 : Int32), u.2.1, u.2.2.1, u.2.2.2.1, u.2.2.2.2.1, u.2.2.2.2.2.1, u.2.2.2.2.2.2.1, u.2.2.2.2.2.2.2.1, u.2.2.2.2.2.2.2.2)) rfl U2 rfl
    obtain ⟨w, V1, V2, V3, V4⟩ := m_waits ok tm hN rok rm hb (tb := vm_toldBits) (s := ((-4 : Int32), (99 : Int32), (0 : Int32), vm_copy, vm_then, vm_counts, vm_copyUsed, vm_waiting, vm_toldAt, vm_endName, vm_endBallot)) rfl rfl rfl W4
    have X : ∀ z : Int32 × Int32 × Int32 × Int32 × Int32 × Int32 × (Nat → Int32) × (Nat → Int32) × (Nat → Int32), (if (nI k) = 0 then some (e.1, e.2.2.2.1, e.2.2.2.2.1, e.2.2.2.2.2.1, e.2.2.2.2.2.2.1, e.2.2.2.2.2.2.2.1, e.2.2.2.2.2.2.2.2.1, e.2.2.2.2.2.2.2.2.2.1, e.2.2.2.2.2.2.2.2.2.2) else some (e.2.1, e.2.2.2.1, e.2.2.2.2.1, e.2.2.2.2.2.1, e.2.2.2.2.2.2.1, e.2.2.2.2.2.2.2.1, e.2.2.2.2.2.2.2.2.1, e.2.2.2.2.2.2.2.2.2.1, e.2.2.2.2.2.2.2.2.2.2)) = some z → f_X6_waits N vx_told_blocks vx_told_members vx_told_moves vx_told_digits vx_told_sizes vx_told_orders vx_told_above vx_told_below vx_told_struck vx_told_lots vx_trial_ballots vx_trial_used vx_trial_chosen vx_trial_waiter vx_trial_wait vx_trial_wrote vx_trial_writes vx_trial_counts (nI b) (nI k) = some z := by
      intro z hz
      unfold f_X6_waits f_X6_isBlock
      rw [if_neg (by rw [q_0, q_lt (by omega) (by omega)]; omega), if_neg (by rw [e1, q_le (by omega) (by omega)]; omega), Option.bind_some, if_neg (by decide), if_neg (by rw [q_0, q_lt (by omega) (by omega)]; omega), if_pos (by rw [q_1, q_le (by omega) (by omega)]; omega)]
      refine b_run U1 ?_
      refine b_run E1 hz
    have Y : ∀ z : Int32 × (Nat → Int32) × (Nat → Int32) × (Nat → Int32) × Int32 × Int32 × Int32 × Int32 × Int32 × Int32, (if (nI k) = 0 then some (w.1, w.2.2.2.1, w.2.2.2.2.1, w.2.2.2.2.2.1, w.2.2.2.2.2.2.1, (-4 : Int32), w.2.2.2.2.2.2.2.1, w.2.2.2.2.2.2.2.2.1, w.2.2.2.2.2.2.2.2.2.1, w.2.2.2.2.2.2.2.2.2.2) else some (w.2.1, w.2.2.2.1, w.2.2.2.2.1, w.2.2.2.2.2.1, w.2.2.2.2.2.2.1, (-4 : Int32), w.2.2.2.2.2.2.2.1, w.2.2.2.2.2.2.2.2.1, w.2.2.2.2.2.2.2.2.2.1, w.2.2.2.2.2.2.2.2.2.2)) = some z → f_X7_waits N vm_blocks vm_copyUsed vm_waiter vm_waiting vm_isTold vm_toldBits vm_toldAt vm_endName vm_endBallot vm_members vm_moves vm_digits vm_sizes vm_orders vm_above vm_below vm_struck vm_lotted vm_copy vm_then vm_counts (nI b) (nI k) = some z := by
      intro z hz
      have Bk : f_X7_isBlock vm_blocks (nI b) = some (nI 1) := by rw [e2, m_isBlock h6, if_pos (by rw [nI_toInt (by omega)]; omega)]
      unfold f_X7_waits
      rw [Bk, Option.bind_some, if_neg (by decide), mi_0_1, if_pos (by rw [nI_toInt (by omega)]; omega), Option.bind_some, if_neg (by decide), W5]
      exact b_run V1 hz
    by_cases k0 : k = 0
    · subst k0
      exact ⟨_, _, X _ (if_pos rfl), Y _ (if_pos rfl), by show e.1 = w.1; rw [E2, V2], Rel_in RB' RK RT RS RO ⟨W1, W2, rfl, V4, W5⟩⟩
    · exact ⟨_, _, X _ (if_neg (nI_ne0 (by omega) (by omega))), Y _ (if_neg (nI_ne0 (by omega) (by omega))), by show e.2.1 = w.2.1; rw [E3, V3], Rel_in RB' RK RT RS RO ⟨W1, W2, rfl, V4, W5⟩⟩
