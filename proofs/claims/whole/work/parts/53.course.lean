-- filled rows
def fl (v : Nat → Int32) (x : Int32) (n : Nat) : Nat → Int32 := it (fun k v => upd v k x) v n
theorem fl_at (v : Nat → Int32) (x : Int32) : ∀ n j, fl v x n j = if j < n then x else v j := by
  intro n
  induction n with
  | zero => intro j; rw [if_neg (Nat.not_lt_zero j)]; rfl
  | succ n ih =>
    intro j
    show upd (fl v x n) n x j = _
    unfold upd
    by_cases h : j = n
    · rw [if_pos h, if_pos (by omega)]
    · rw [if_neg h, ih]
      by_cases h2 : j < n
      · rw [if_pos h2, if_pos (by omega)]
      · rw [if_neg h2, if_neg (by omega)]
theorem fl_in {v : Nat → Int32} {x : Int32} {n j : Nat} (h : j < n) : fl v x n j = x := by rw [fl_at, if_pos h]
theorem x_fill {N : Nat} (hN : 200000 ≤ N) {n : Nat} (hn : n < 200000) (v : Nat → Int32) (x : Int32) : f_J7_fill_53178 N n v x = some (fl v x n) := by
  unfold f_J7_fill_53178
  refine b_run (lp_for (fun k => (nI k, fl v x k)) n (by omega) rfl ?_ ?_ (r := fl v x n)) rfl
  · intro k hk
    simp (disch := omega) only [f_J7_fill_53178_B5, d_let, d_lef, d_ltt, d_ltf, d_eqt, d_eqf, ↓reduceIte, or_false, false_or, or_true, true_or, and_true, true_and, and_false, false_and, not_true_eq_false, not_false_eq_true, Bool.false_eq_true, Option.bind_some, q_ofNat, q_cl, q_lt, q_le, q_eq, nI_add, pk_mul, q_m1, q_m4, m1_lt, m1_le, m1_nlt, m1_nle, m1_ne, m1_ne2, m4_lt, m4_le, m4_nlt, m4_nle, m4_ne, m4_ne2, q_0, q_1, q_2, q_3, q_4, q_5, q_6, q_8, q_12, q_15, q_16, q_20, q_24, q_30, q_31, q_32, q_80, q_9, q_99, q_126, q_48, q_57, q_58, q_59, q_97, q_101, q_10, q_21, q_255, q_46656]; rfl
  · simp (disch := omega) only [f_J7_fill_53178_B5, d_let, d_lef, d_ltt, d_ltf, d_eqt, d_eqf, ↓reduceIte, or_false, false_or, or_true, true_or, and_true, true_and, and_false, false_and, not_true_eq_false, not_false_eq_true, Bool.false_eq_true, Option.bind_some, q_ofNat, q_cl, q_lt, q_le, q_eq, nI_add, pk_mul, q_m1, q_m4, m1_lt, m1_le, m1_nlt, m1_nle, m1_ne, m1_ne2, m4_lt, m4_le, m4_nlt, m4_nle, m4_ne, m4_ne2, q_0, q_1, q_2, q_3, q_4, q_5, q_6, q_8, q_12, q_15, q_16, q_20, q_24, q_30, q_31, q_32, q_80, q_9, q_99, q_126, q_48, q_57, q_58, q_59, q_97, q_101, q_10, q_21, q_255, q_46656]
-- lead
def mostI (cnt : Nat → Nat) (best : Nat) : Int32 := if best = 0 then m1 else nI (cnt (best - 1))
theorem x_lead {h : Hl} (ok : hOK h) {vb : Int32} {vme vmo vdi vsi vor : Nat → Int32} (t : tX h vb vme vmo vdi vsi vor) {N : Nat} (hN : 200000 ≤ N) {b : Nat} (hb : b < hB h) {al : Nat → Bool} {cnt : Nat → Nat} {vc : Nat → Int32} (hc : ∀ k, k < 5 → vc k = nI (cnt k)) (hc2 : ∀ k, cnt k ≤ 120) : f_X0_byLead N vc vsi vor (nI b) (nI (bs al 5)) = some (wX (leS h al cnt b)) := by
  have h6 := ok.1; obtain ⟨e1, e2, e3, e4, e5⟩ := t.2 b hb; obtain ⟨o1, o2, o3, o4, o5, o6, o7, o8, o9⟩ := ok.2.1 b hb
  have hle : ∀ n, n ≤ hSiz h b → it (leF h al cnt b) 0 n ≤ 5 := by
    intro n
    induction n with
    | zero => intro _; show 0 ≤ 5; omega
    | succ n ih =>
      intro hn
      have := o6 n (by omega)
      have := ih (by omega)
      show leF h al cnt b n (it (leF h al cnt b) 0 n) ≤ 5
      generalize it (leF h al cnt b) 0 n = best at *
      unfold leF
      split <;> omega
  unfold f_X0_byLead
  refine b_run (lp_for (fun k => (wX (it (leF h al cnt b) 0 k), mostI cnt (it (leF h al cnt b) 0 k), nI k)) (hSiz h b) (by omega) rfl ?_ ?_ (r := wX (leS h al cnt b))) rfl
  · intro k hk
    have := o6 k hk
    have hl := hle k (by omega)
    have hx := hc2 (hOrd h b k)
    show _ = some (Sum.inl (wX (leF h al cnt b k (it (leF h al cnt b) 0 k)), mostI cnt (leF h al cnt b k (it (leF h al cnt b) 0 k)), nI (k + 1)))
    generalize it (leF h al cnt b) 0 k = best at *
    have hy := hc2 (best - 1)
    unfold leF
    by_cases ha : al (hOrd h b k) = true
    · by_cases h0 : best = 0
      · subst h0
        rw [if_pos ⟨ha, Or.inl rfl⟩]
        simp (disch := omega) only [f_X0_byLead_B14, f_X0_byLead_L72, d_let, d_lef, d_ltt, d_ltf, d_eqt, d_eqf, ↓reduceIte, or_false, false_or, or_true, true_or, and_true, true_and, and_false, false_and, not_true_eq_false, not_false_eq_true, Bool.false_eq_true, Option.bind_some, q_ofNat, q_cl, q_lt, q_le, q_eq, nI_add, pk_mul, q_m1, q_m4, m1_lt, m1_le, m1_nlt, m1_nle, m1_ne, m1_ne2, m4_lt, m4_le, m4_nlt, m4_nle, m4_ne, m4_ne2, q_0, q_1, q_2, q_3, q_4, q_5, q_6, q_8, q_12, q_15, q_16, q_20, q_24, q_30, q_31, q_32, q_80, q_9, q_99, q_126, q_48, q_57, q_58, q_59, q_97, q_101, q_10, q_21, q_255, q_46656, e4, Nat.mul_comm b 5, e5 k hk, q_bs, ha, hc, wX_0, wX_s, mostI, Nat.add_sub_cancel]
      · by_cases hlt : cnt (best - 1) < cnt (hOrd h b k)
        · rw [if_pos ⟨ha, Or.inr hlt⟩]
          simp (disch := omega) only [f_X0_byLead_B14, f_X0_byLead_L72, d_let, d_lef, d_ltt, d_ltf, d_eqt, d_eqf, ↓reduceIte, or_false, false_or, or_true, true_or, and_true, true_and, and_false, false_and, not_true_eq_false, not_false_eq_true, Bool.false_eq_true, Option.bind_some, q_ofNat, q_cl, q_lt, q_le, q_eq, nI_add, pk_mul, q_m1, q_m4, m1_lt, m1_le, m1_nlt, m1_nle, m1_ne, m1_ne2, m4_lt, m4_le, m4_nlt, m4_nle, m4_ne, m4_ne2, q_0, q_1, q_2, q_3, q_4, q_5, q_6, q_8, q_12, q_15, q_16, q_20, q_24, q_30, q_31, q_32, q_80, q_9, q_99, q_126, q_48, q_57, q_58, q_59, q_97, q_101, q_10, q_21, q_255, q_46656, e4, Nat.mul_comm b 5, e5 k hk, q_bs, ha, hc, wX_s, mostI, Nat.add_sub_cancel]
        · rw [if_neg (fun q => q.2.elim h0 hlt)]
          simp (disch := omega) only [f_X0_byLead_B14, f_X0_byLead_L72, d_let, d_lef, d_ltt, d_ltf, d_eqt, d_eqf, ↓reduceIte, or_false, false_or, or_true, true_or, and_true, true_and, and_false, false_and, not_true_eq_false, not_false_eq_true, Bool.false_eq_true, Option.bind_some, q_ofNat, q_cl, q_lt, q_le, q_eq, nI_add, pk_mul, q_m1, q_m4, m1_lt, m1_le, m1_nlt, m1_nle, m1_ne, m1_ne2, m4_lt, m4_le, m4_nlt, m4_nle, m4_ne, m4_ne2, q_0, q_1, q_2, q_3, q_4, q_5, q_6, q_8, q_12, q_15, q_16, q_20, q_24, q_30, q_31, q_32, q_80, q_9, q_99, q_126, q_48, q_57, q_58, q_59, q_97, q_101, q_10, q_21, q_255, q_46656, e4, Nat.mul_comm b 5, e5 k hk, q_bs, ha, hc, mostI]
    · rw [if_neg (fun q => ha q.1)]
      simp (disch := omega) only [f_X0_byLead_B14, f_X0_byLead_L72, d_let, d_lef, d_ltt, d_ltf, d_eqt, d_eqf, ↓reduceIte, or_false, false_or, or_true, true_or, and_true, true_and, and_false, false_and, not_true_eq_false, not_false_eq_true, Bool.false_eq_true, Option.bind_some, q_ofNat, q_cl, q_lt, q_le, q_eq, nI_add, pk_mul, q_m1, q_m4, m1_lt, m1_le, m1_nlt, m1_nle, m1_ne, m1_ne2, m4_lt, m4_le, m4_nlt, m4_nle, m4_ne, m4_ne2, q_0, q_1, q_2, q_3, q_4, q_5, q_6, q_8, q_12, q_15, q_16, q_20, q_24, q_30, q_31, q_32, q_80, q_9, q_99, q_126, q_48, q_57, q_58, q_59, q_97, q_101, q_10, q_21, q_255, q_46656, e4, Nat.mul_comm b 5, e5 k hk, q_bs, ha]
  · simp (disch := omega) only [f_X0_byLead_B14, d_let, d_lef, d_ltt, d_ltf, d_eqt, d_eqf, ↓reduceIte, or_false, false_or, or_true, true_or, and_true, true_and, and_false, false_and, not_true_eq_false, not_false_eq_true, Bool.false_eq_true, Option.bind_some, q_ofNat, q_cl, q_lt, q_le, q_eq, nI_add, pk_mul, q_m1, q_m4, m1_lt, m1_le, m1_nlt, m1_nle, m1_ne, m1_ne2, m4_lt, m4_le, m4_nlt, m4_nle, m4_ne, m4_ne2, q_0, q_1, q_2, q_3, q_4, q_5, q_6, q_8, q_12, q_15, q_16, q_20, q_24, q_30, q_31, q_32, q_80, q_9, q_99, q_126, q_48, q_57, q_58, q_59, q_97, q_101, q_10, q_21, q_255, q_46656, e4]; rfl
-- last
theorem laF_1 {cnt : Nat → Nat} : ∀ n, (it (laF cnt) (0, 0) n).1 ≤ n ∧ (it (laF cnt) (0, 0) n).2 ≤ n := by
  intro n
  induction n with
  | zero => exact ⟨Nat.le_refl _, Nat.le_refl _⟩
  | succ n ih =>
    show (laF cnt n (it (laF cnt) (0, 0) n)).1 ≤ n + 1 ∧ (laF cnt n (it (laF cnt) (0, 0) n)).2 ≤ n + 1
    generalize it (laF cnt) (0, 0) n = s at *
    unfold laF
    split
    · omega
    · dsimp only
      split <;> omega
theorem x_last {N : Nat} (hN : 200000 ≤ N) {cnt : Nat → Nat} {vc : Nat → Int32} (hc : ∀ k, k < 5 → vc k = nI (cnt k)) (hc2 : ∀ k, cnt k ≤ 120) : f_X0_lastName N vc = some (wX (laS cnt)) := by
  unfold f_X0_lastName
  refine b_run (lp_for (fun k => (wX (it (laF cnt) (0, 0) k).1, nI (it (laF cnt) (0, 0) k).2, nI k)) 5 (by omega) rfl ?_ ?_ (r := (wX (it (laF cnt) (0, 0) 5).1, nI (it (laF cnt) (0, 0) 5).2, nI 5))) ?_
  · intro k hk
    have hl := laF_1 (cnt := cnt) k
    have hx := hc2 k
    show _ = some (Sum.inl (wX (laF cnt k (it (laF cnt) (0, 0) k)).1, nI (laF cnt k (it (laF cnt) (0, 0) k)).2, nI (k + 1)))
    generalize it (laF cnt) (0, 0) k = s at *
    have hy := hc2 (s.1 - 1)
    unfold laF
    by_cases h0 : cnt k = 0
    · rw [if_pos h0]
      simp (disch := omega) only [f_X0_lastName_B6, f_X0_lastName_L45, d_let, d_lef, d_ltt, d_ltf, d_eqt, d_eqf, ↓reduceIte, or_false, false_or, or_true, true_or, and_true, true_and, and_false, false_and, not_true_eq_false, not_false_eq_true, Bool.false_eq_true, Option.bind_some, q_ofNat, q_cl, q_lt, q_le, q_eq, nI_add, pk_mul, q_m1, q_m4, m1_lt, m1_le, m1_nlt, m1_nle, m1_ne, m1_ne2, m4_lt, m4_le, m4_nlt, m4_nle, m4_ne, m4_ne2, q_0, q_1, q_2, q_3, q_4, q_5, q_6, q_8, q_12, q_15, q_16, q_20, q_24, q_30, q_31, q_32, q_80, q_9, q_99, q_126, q_48, q_57, q_58, q_59, q_97, q_101, q_10, q_21, q_255, q_46656, hc]
    · rw [if_neg h0]
      by_cases h1 : s.1 = 0
      · simp (disch := omega) only [f_X0_lastName_B6, f_X0_lastName_L45, f_X0_lastName_L43, d_let, d_lef, d_ltt, d_ltf, d_eqt, d_eqf, ↓reduceIte, or_false, false_or, or_true, true_or, and_true, true_and, and_false, false_and, not_true_eq_false, not_false_eq_true, Bool.false_eq_true, Option.bind_some, q_ofNat, q_cl, q_lt, q_le, q_eq, nI_add, pk_mul, q_m1, q_m4, m1_lt, m1_le, m1_nlt, m1_nle, m1_ne, m1_ne2, m4_lt, m4_le, m4_nlt, m4_nle, m4_ne, m4_ne2, q_0, q_1, q_2, q_3, q_4, q_5, q_6, q_8, q_12, q_15, q_16, q_20, q_24, q_30, q_31, q_32, q_80, q_9, q_99, q_126, q_48, q_57, q_58, q_59, q_97, q_101, q_10, q_21, q_255, q_46656, hc, h1, wX_0, wX_s]
      · by_cases h2 : cnt k < cnt (s.1 - 1)
        · simp (disch := omega) only [f_X0_lastName_B6, f_X0_lastName_L45, f_X0_lastName_L43, d_let, d_lef, d_ltt, d_ltf, d_eqt, d_eqf, ↓reduceIte, or_false, false_or, or_true, true_or, and_true, true_and, and_false, false_and, not_true_eq_false, not_false_eq_true, Bool.false_eq_true, Option.bind_some, q_ofNat, q_cl, q_lt, q_le, q_eq, nI_add, pk_mul, q_m1, q_m4, m1_lt, m1_le, m1_nlt, m1_nle, m1_ne, m1_ne2, m4_lt, m4_le, m4_nlt, m4_nle, m4_ne, m4_ne2, q_0, q_1, q_2, q_3, q_4, q_5, q_6, q_8, q_12, q_15, q_16, q_20, q_24, q_30, q_31, q_32, q_80, q_9, q_99, q_126, q_48, q_57, q_58, q_59, q_97, q_101, q_10, q_21, q_255, q_46656, hc, wX, Nat.add_sub_cancel]
        · simp (disch := omega) only [f_X0_lastName_B6, f_X0_lastName_L45, f_X0_lastName_L43, d_let, d_lef, d_ltt, d_ltf, d_eqt, d_eqf, ↓reduceIte, or_false, false_or, or_true, true_or, and_true, true_and, and_false, false_and, not_true_eq_false, not_false_eq_true, Bool.false_eq_true, Option.bind_some, q_ofNat, q_cl, q_lt, q_le, q_eq, nI_add, pk_mul, q_m1, q_m4, m1_lt, m1_le, m1_nlt, m1_nle, m1_ne, m1_ne2, m4_lt, m4_le, m4_nlt, m4_nle, m4_ne, m4_ne2, q_0, q_1, q_2, q_3, q_4, q_5, q_6, q_8, q_12, q_15, q_16, q_20, q_24, q_30, q_31, q_32, q_80, q_9, q_99, q_126, q_48, q_57, q_58, q_59, q_97, q_101, q_10, q_21, q_255, q_46656, hc, wX]
  · simp (disch := omega) only [f_X0_lastName_B6, d_let, d_lef, d_ltt, d_ltf, d_eqt, d_eqf, ↓reduceIte, or_false, false_or, or_true, true_or, and_true, true_and, and_false, false_and, not_true_eq_false, not_false_eq_true, Bool.false_eq_true, Option.bind_some, q_ofNat, q_cl, q_lt, q_le, q_eq, nI_add, pk_mul, q_m1, q_m4, m1_lt, m1_le, m1_nlt, m1_nle, m1_ne, m1_ne2, m4_lt, m4_le, m4_nlt, m4_nle, m4_ne, m4_ne2, q_0, q_1, q_2, q_3, q_4, q_5, q_6, q_8, q_12, q_15, q_16, q_20, q_24, q_30, q_31, q_32, q_80, q_9, q_99, q_126, q_48, q_57, q_58, q_59, q_97, q_101, q_10, q_21, q_255, q_46656]
  · have hl := laF_1 (cnt := cnt) 5
    unfold laS
    by_cases h1 : (it (laF cnt) (0, 0) 5).2 ≤ 1
    · simp (disch := omega) only [d_let, d_lef, d_ltt, d_ltf, d_eqt, d_eqf, ↓reduceIte, or_false, false_or, or_true, true_or, and_true, true_and, and_false, false_and, not_true_eq_false, not_false_eq_true, Bool.false_eq_true, Option.bind_some, q_ofNat, q_cl, q_lt, q_le, q_eq, nI_add, pk_mul, q_m1, q_m4, m1_lt, m1_le, m1_nlt, m1_nle, m1_ne, m1_ne2, m4_lt, m4_le, m4_nlt, m4_nle, m4_ne, m4_ne2, q_0, q_1, q_2, q_3, q_4, q_5, q_6, q_8, q_12, q_15, q_16, q_20, q_24, q_30, q_31, q_32, q_80, q_9, q_99, q_126, q_48, q_57, q_58, q_59, q_97, q_101, q_10, q_21, q_255, q_46656, wX_0]
    · simp (disch := omega) only [d_let, d_lef, d_ltt, d_ltf, d_eqt, d_eqf, ↓reduceIte, or_false, false_or, or_true, true_or, and_true, true_and, and_false, false_and, not_true_eq_false, not_false_eq_true, Bool.false_eq_true, Option.bind_some, q_ofNat, q_cl, q_lt, q_le, q_eq, nI_add, pk_mul, q_m1, q_m4, m1_lt, m1_le, m1_nlt, m1_nle, m1_ne, m1_ne2, m4_lt, m4_le, m4_nlt, m4_nle, m4_ne, m4_ne2, q_0, q_1, q_2, q_3, q_4, q_5, q_6, q_8, q_12, q_15, q_16, q_20, q_24, q_30, q_31, q_32, q_80, q_9, q_99, q_126, q_48, q_57, q_58, q_59, q_97, q_101, q_10, q_21, q_255, q_46656]
-- tally
def taF (c : Nat → Nat) (vme : Nat → Int32) (b : Nat) (v : Nat → Int32) : Nat → Int32 := if c b = 0 then v else upd v (c b - 1) (v (c b - 1) + vme b)
theorem taF_at {h : Hl} {c : Nat → Nat} {vme v : Nat → Int32} (hv : ∀ k, k < 5 → v k = nI 0) : ∀ n, (∀ b, b < n → vme b = nI (hMem h b) ∧ c b ≤ 5) → ∀ k, k < 5 → it (taF c vme) v n k = nI (sm (fun b => if c b = k + 1 then hMem h b else 0) n) := by
  intro n
  induction n with
  | zero => intro _ k hk; exact hv k hk
  | succ n ih =>
    intro hb k hk
    have ih := ih (fun b q => hb b (by omega))
    have := hb n (by omega)
    show taF c vme n (it (taF c vme) v n) k = nI (sm (fun b => if c b = k + 1 then hMem h b else 0) n + (if c n = k + 1 then hMem h n else 0))
    unfold taF
    by_cases h0 : c n = 0
    · rw [if_pos h0, if_neg (by omega), Nat.add_zero]; exact ih k hk
    · rw [if_neg h0]
      by_cases h1 : c n = k + 1
      · rw [if_pos h1, show c n - 1 = k by omega, pk_us, ← nI_add, ← this.1]
        congr 1; exact ih k hk
      · rw [if_neg h1, pk_un (by omega), Nat.add_zero]; exact ih k hk
theorem x_tally {h : Hl} (ok : hOK h) {vb : Int32} {vme vmo vdi vsi vor : Nat → Int32} (t : tX h vb vme vmo vdi vsi vor) {N : Nat} (hN : 200000 ≤ N) {c : Nat → Nat} {vw vc : Nat → Int32} (hw : ∀ b, b < 6 → vw b = wX (c b)) (hc : wOK h c) : ∃ v, f_X0_tally N vw vc vb vme = some v ∧ ∀ k, k < 5 → v k = nI (cn h c k) := by
  have h6 := ok.1
  have e0 := t.1
  refine ⟨it (taF c vme) (fl vc 0 5) (hB h), ?_, taF_at (h := h) (fun k hk => fl_in hk) (hB h) (fun b hb => ⟨(t.2 b hb).1, wOK_lt ok hc b⟩)⟩
  unfold f_X0_tally
  rw [x_fill hN (by omega), Option.bind_some]
  refine b_run (lp_for (fun k => (nI k, it (taF c vme) (fl vc 0 5) k)) (hB h) (by omega) rfl ?_ ?_ (r := it (taF c vme) (fl vc 0 5) (hB h))) rfl
  · intro b hb
    have := wOK_lt ok hc b
    show _ = some (Sum.inl (nI (b + 1), taF c vme b (it (taF c vme) (fl vc 0 5) b)))
    unfold taF
    by_cases h0 : c b = 0
    · simp (disch := omega) only [f_X0_tally_B10, f_X0_tally_L50, f_X6_isName, d_let, d_lef, d_ltt, d_ltf, d_eqt, d_eqf, ↓reduceIte, or_false, false_or, or_true, true_or, and_true, true_and, and_false, false_and, not_true_eq_false, not_false_eq_true, Bool.false_eq_true, Option.bind_some, q_ofNat, q_cl, q_lt, q_le, q_eq, nI_add, pk_mul, q_m1, q_m4, m1_lt, m1_le, m1_nlt, m1_nle, m1_ne, m1_ne2, m4_lt, m4_le, m4_nlt, m4_nle, m4_ne, m4_ne2, q_0, q_1, q_2, q_3, q_4, q_5, q_6, q_8, q_12, q_15, q_16, q_20, q_24, q_30, q_31, q_32, q_80, q_9, q_99, q_126, q_48, q_57, q_58, q_59, q_97, q_101, q_10, q_21, q_255, q_46656, hw, h0, wX_0, e0]
    · simp (disch := omega) only [f_X0_tally_B10, f_X0_tally_L50, f_X6_isName, d_let, d_lef, d_ltt, d_ltf, d_eqt, d_eqf, ↓reduceIte, or_false, false_or, or_true, true_or, and_true, true_and, and_false, false_and, not_true_eq_false, not_false_eq_true, Bool.false_eq_true, Option.bind_some, q_ofNat, q_cl, q_lt, q_le, q_eq, nI_add, pk_mul, q_m1, q_m4, m1_lt, m1_le, m1_nlt, m1_nle, m1_ne, m1_ne2, m4_lt, m4_le, m4_nlt, m4_nle, m4_ne, m4_ne2, q_0, q_1, q_2, q_3, q_4, q_5, q_6, q_8, q_12, q_15, q_16, q_20, q_24, q_30, q_31, q_32, q_80, q_9, q_99, q_126, q_48, q_57, q_58, q_59, q_97, q_101, q_10, q_21, q_255, q_46656, hw, wX, e0]
  · simp (disch := omega) only [f_X0_tally_B10, d_let, d_lef, d_ltt, d_ltf, d_eqt, d_eqf, ↓reduceIte, or_false, false_or, or_true, true_or, and_true, true_and, and_false, false_and, not_true_eq_false, not_false_eq_true, Bool.false_eq_true, Option.bind_some, q_ofNat, q_cl, q_lt, q_le, q_eq, nI_add, pk_mul, q_m1, q_m4, m1_lt, m1_le, m1_nlt, m1_nle, m1_ne, m1_ne2, m4_lt, m4_le, m4_nlt, m4_nle, m4_ne, m4_ne2, q_0, q_1, q_2, q_3, q_4, q_5, q_6, q_8, q_12, q_15, q_16, q_20, q_24, q_30, q_31, q_32, q_80, q_9, q_99, q_126, q_48, q_57, q_58, q_59, q_97, q_101, q_10, q_21, q_255, q_46656, e0]
-- winner
theorem x_winner {h : Hl} (ok : hOK h) {vb : Int32} {vme vmo vdi vsi vor : Nat → Int32} (t : tX h vb vme vmo vdi vsi vor) {N : Nat} (hN : 200000 ≤ N) {r : Br} (rok : bOK r) {vab vbe : Nat → Int32} (hab : ∀ d, d < 8 → vab d = nI (bAb r d) ∧ vbe d = nI (bBe r d)) {cnt : Nat → Nat} {vc : Nat → Int32} (hc : ∀ k, k < 5 → vc k = nI (cnt k)) (hc2 : ∀ k, cnt k ≤ 120) {tt : Nat} (ht : tt < 32) : f_X0_winner N vc vb vme vab vbe (nI tt) = some (wX (wiS h r cnt tt)) := by
  have hw : ∀ n, n ≤ 4 → it (fun j best => if cnt best < cnt (j + 1) then j + 1 else best) 0 n ≤ n := by
    intro n
    induction n with
    | zero => intro _; exact Nat.le_refl _
    | succ n ih =>
      intro hn
      have := ih (by omega)
      unfold it
      split <;> omega
  unfold f_X0_winner
  refine b_run (lp_for (fun k => (nI (it (fun j best => if cnt best < cnt (j + 1) then j + 1 else best) 0 k), nI (k + 1))) 4 (by omega) rfl ?_ ?_ (r := (nI (wiB cnt), nI 5))) ?_
  · intro k hk
    have hl := hw k (by omega)
    show _ = some (Sum.inl (nI (if cnt (it (fun j best => if cnt best < cnt (j + 1) then j + 1 else best) 0 k) < cnt (k + 1) then k + 1 else it (fun j best => if cnt best < cnt (j + 1) then j + 1 else best) 0 k), nI (k + 1 + 1)))
    generalize it (fun j best => if cnt best < cnt (j + 1) then j + 1 else best) 0 k = best at *
    have := hc2 best; have := hc2 (k + 1)
    by_cases h1 : cnt best < cnt (k + 1)
    · simp (disch := omega) only [f_X0_winner_B5, f_X0_winner_L30, d_let, d_lef, d_ltt, d_ltf, d_eqt, d_eqf, ↓reduceIte, or_false, false_or, or_true, true_or, and_true, true_and, and_false, false_and, not_true_eq_false, not_false_eq_true, Bool.false_eq_true, Option.bind_some, q_ofNat, q_cl, q_lt, q_le, q_eq, nI_add, pk_mul, q_m1, q_m4, m1_lt, m1_le, m1_nlt, m1_nle, m1_ne, m1_ne2, m4_lt, m4_le, m4_nlt, m4_nle, m4_ne, m4_ne2, q_0, q_1, q_2, q_3, q_4, q_5, q_6, q_8, q_12, q_15, q_16, q_20, q_24, q_30, q_31, q_32, q_80, q_9, q_99, q_126, q_48, q_57, q_58, q_59, q_97, q_101, q_10, q_21, q_255, q_46656, hc]
    · simp (disch := omega) only [f_X0_winner_B5, f_X0_winner_L30, d_let, d_lef, d_ltt, d_ltf, d_eqt, d_eqf, ↓reduceIte, or_false, false_or, or_true, true_or, and_true, true_and, and_false, false_and, not_true_eq_false, not_false_eq_true, Bool.false_eq_true, Option.bind_some, q_ofNat, q_cl, q_lt, q_le, q_eq, nI_add, pk_mul, q_m1, q_m4, m1_lt, m1_le, m1_nlt, m1_nle, m1_ne, m1_ne2, m4_lt, m4_le, m4_nlt, m4_nle, m4_ne, m4_ne2, q_0, q_1, q_2, q_3, q_4, q_5, q_6, q_8, q_12, q_15, q_16, q_20, q_24, q_30, q_31, q_32, q_80, q_9, q_99, q_126, q_48, q_57, q_58, q_59, q_97, q_101, q_10, q_21, q_255, q_46656, hc]
  · simp (disch := omega) only [f_X0_winner_B5, d_let, d_lef, d_ltt, d_ltf, d_eqt, d_eqf, ↓reduceIte, or_false, false_or, or_true, true_or, and_true, true_and, and_false, false_and, not_true_eq_false, not_false_eq_true, Bool.false_eq_true, Option.bind_some, q_ofNat, q_cl, q_lt, q_le, q_eq, nI_add, pk_mul, q_m1, q_m4, m1_lt, m1_le, m1_nlt, m1_nle, m1_ne, m1_ne2, m4_lt, m4_le, m4_nlt, m4_nle, m4_ne, m4_ne2, q_0, q_1, q_2, q_3, q_4, q_5, q_6, q_8, q_12, q_15, q_16, q_20, q_24, q_30, q_31, q_32, q_80, q_9, q_99, q_126, q_48, q_57, q_58, q_59, q_97, q_101, q_10, q_21, q_255, q_46656]; rfl
  · have hl := wiB_le cnt
    have := hc2 (wiB cnt)
    have hd : tt / 4 < 8 := by omega
    have hne : neS h r (tt / 4) < 2147483648 := by
      have := rok.1 _ hd
      have ha := alS_le ok
      have hm : alS h * bAb r (tt / 4) ≤ 120 * 12 := Nat.mul_le_mul ha (by omega)
      have := Nat.div_le_self (alS h * bAb r (tt / 4) + bBe r (tt / 4) - 1) (bBe r (tt / 4))
      unfold neS; omega
    unfold wiS
    by_cases h1 : cnt (wiB cnt) < neS h r (tt / 4)
    · simp (disch := omega) only [d_let, d_lef, d_ltt, d_ltf, d_eqt, d_eqf, ↓reduceIte, or_false, false_or, or_true, true_or, and_true, true_and, and_false, false_and, not_true_eq_false, not_false_eq_true, Bool.false_eq_true, Option.bind_some, q_ofNat, q_cl, q_lt, q_le, q_eq, nI_add, pk_mul, q_m1, q_m4, m1_lt, m1_le, m1_nlt, m1_nle, m1_ne, m1_ne2, m4_lt, m4_le, m4_nlt, m4_nle, m4_ne, m4_ne2, q_0, q_1, q_2, q_3, q_4, q_5, q_6, q_8, q_12, q_15, q_16, q_20, q_24, q_30, q_31, q_32, q_80, q_9, q_99, q_126, q_48, q_57, q_58, q_59, q_97, q_101, q_10, q_21, q_255, q_46656, q_div, x_need ok t hN rok hab hd, hc, wX_0]
    · simp (disch := omega) only [d_let, d_lef, d_ltt, d_ltf, d_eqt, d_eqf, ↓reduceIte, or_false, false_or, or_true, true_or, and_true, true_and, and_false, false_and, not_true_eq_false, not_false_eq_true, Bool.false_eq_true, Option.bind_some, q_ofNat, q_cl, q_lt, q_le, q_eq, nI_add, pk_mul, q_m1, q_m4, m1_lt, m1_le, m1_nlt, m1_nle, m1_ne, m1_ne2, m4_lt, m4_le, m4_nlt, m4_nle, m4_ne, m4_ne2, q_0, q_1, q_2, q_3, q_4, q_5, q_6, q_8, q_12, q_15, q_16, q_20, q_24, q_30, q_31, q_32, q_80, q_9, q_99, q_126, q_48, q_57, q_58, q_59, q_97, q_101, q_10, q_21, q_255, q_46656, q_div, x_need ok t hN rok hab hd, hc, wX_s]
