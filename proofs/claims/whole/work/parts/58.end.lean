-- in a range
def inR (y : Int32) (a b : Int) : Prop := a ≤ y.toInt ∧ y.toInt ≤ b
theorem inR_nat {y : Int32} {a b : Nat} (h : inR y a b) : ∃ j : Nat, y = nI j ∧ a ≤ j ∧ j ≤ b := by
  have h1 := h.1; have h2 := h.2
  have h3 := Int32.toInt_lt y
  refine ⟨y.toInt.toNat, ?_, by omega, by omega⟩
  rw [← Int32.toInt_inj, nI_toInt (by omega)]; omega
theorem inR_I {j : Nat} {a b : Int} (hj : j < 2147483648) (h : a ≤ j ∧ j ≤ b) : inR (nI j) a b := by
  unfold inR; rw [nI_toInt hj]; exact h
theorem m_in (x : Int32) (lo hi : Int64) [d : Decidable (inR x lo.toInt hi.toInt)] : f_X7_in x.toInt64 lo hi = some (if inR x lo.toInt hi.toInt then nI 1 else nI 0) := by
  unfold f_X7_in
  have e : x.toInt64.toInt = x.toInt := Int32.toInt_toInt64 x
  by_cases h1 : x.toInt64 < lo
  · rw [if_pos ((lg_cmp_lt _ _).2 h1), if_neg]; rfl
    intro q; rw [Int64.lt_iff_toInt_lt] at h1; have := q.1; omega
  · rw [if_neg (fun q => h1 ((lg_cmp_lt _ _).1 q))]
    by_cases h2 : hi < x.toInt64
    · rw [if_pos ((lg_cmp_gt _ _).2 h2), if_neg]; rfl
      intro q; rw [Int64.lt_iff_toInt_lt] at h2; have := q.2; omega
    · rw [if_neg (fun q => h2 ((lg_cmp_gt _ _).1 q)), if_pos]; rfl
      rw [Int64.lt_iff_toInt_lt] at h1 h2
      exact ⟨by omega, by omega⟩
theorem m_inY {x : Int32} {lo hi : Int64} (h : inR x lo.toInt hi.toInt) : f_X7_in x.toInt64 lo hi = some (nI 1) := by
  have := m_in x lo hi (d := isTrue h); rw [this, if_pos h]
theorem m_inN {x : Int32} {lo hi : Int64} (h : ¬ inR x lo.toInt hi.toInt) : f_X7_in x.toInt64 lo hi = some (nI 0) := by
  have := m_in x lo hi (d := isFalse h); rw [this, if_neg h]
-- copies
theorem m_takeNone {N : Nat} (hN : 200000 ≤ N) (vw : Nat → Int32) : ∃ v, f_X7_takeNone N vw = some (v, nI 0) ∧ ∀ b, b < 6 → v b = wM 0 := by
  refine ⟨fl vw (-4) 6, ?_, fun b hb => fl_in hb⟩
  unfold f_X7_takeNone
  refine b_run (lp_for (fun k => (nI k, fl vw (-4) k)) 6 (by omega) rfl ?_ ?_ (r := (nI 6, fl vw (-4) 6))) rfl
  · intro k hk
    simp (disch := omega) only [f_X7_takeNone_B2, d_let, d_lef, d_ltt, d_ltf, d_eqt, d_eqf, ↓reduceIte, or_false, false_or, or_true, true_or, and_true, true_and, and_false, false_and, not_true_eq_false, not_false_eq_true, Bool.false_eq_true, Option.bind_some, q_ofNat, q_cl, q_lt, q_le, q_eq, nI_add, pk_mul, q_m1, q_m4, m1_lt, m1_le, m1_nlt, m1_nle, m1_ne, m1_ne2, m4_lt, m4_le, m4_nlt, m4_nle, m4_ne, m4_ne2, q_0, q_1, q_2, q_3, q_4, q_5, q_6, q_8, q_12, q_15, q_16, q_20, q_24, q_30, q_31, q_32, q_80, q_9, q_99, q_126, q_48, q_57, q_58, q_59, q_97, q_101, q_10, q_21, q_255, q_46656]; rfl
  · simp (disch := omega) only [f_X7_takeNone_B2, d_let, d_lef, d_ltt, d_ltf, d_eqt, d_eqf, ↓reduceIte, or_false, false_or, or_true, true_or, and_true, true_and, and_false, false_and, not_true_eq_false, not_false_eq_true, Bool.false_eq_true, Option.bind_some, q_ofNat, q_cl, q_lt, q_le, q_eq, nI_add, pk_mul, q_m1, q_m4, m1_lt, m1_le, m1_nlt, m1_nle, m1_ne, m1_ne2, m4_lt, m4_le, m4_nlt, m4_nle, m4_ne, m4_ne2, q_0, q_1, q_2, q_3, q_4, q_5, q_6, q_8, q_12, q_15, q_16, q_20, q_24, q_30, q_31, q_32, q_80, q_9, q_99, q_126, q_48, q_57, q_58, q_59, q_97, q_101, q_10, q_21, q_255, q_46656]
theorem m_takeNow {N : Nat} (hN : 200000 ≤ N) (u : Int32) (vw vcp : Nat → Int32) : ∃ v, f_X7_takeNow N u vw vcp = some (v, u) ∧ ∀ b, b < 6 → v b = vw b := by
  refine ⟨it (wrF vw) vcp 6, ?_, fun b hb => by rw [wrF_at, if_pos hb]⟩
  unfold f_X7_takeNow
  refine b_run (lp_for (fun k => (nI k, it (wrF vw) vcp k)) 6 (by omega) rfl ?_ ?_ (r := (nI 6, it (wrF vw) vcp 6))) rfl
  · intro k hk
    simp (disch := omega) only [f_X7_takeNow_B2, d_let, d_lef, d_ltt, d_ltf, d_eqt, d_eqf, ↓reduceIte, or_false, false_or, or_true, true_or, and_true, true_and, and_false, false_and, not_true_eq_false, not_false_eq_true, Bool.false_eq_true, Option.bind_some, q_ofNat, q_cl, q_lt, q_le, q_eq, nI_add, pk_mul, q_m1, q_m4, m1_lt, m1_le, m1_nlt, m1_nle, m1_ne, m1_ne2, m4_lt, m4_le, m4_nlt, m4_nle, m4_ne, m4_ne2, q_0, q_1, q_2, q_3, q_4, q_5, q_6, q_8, q_12, q_15, q_16, q_20, q_24, q_30, q_31, q_32, q_80, q_9, q_99, q_126, q_48, q_57, q_58, q_59, q_97, q_101, q_10, q_21, q_255, q_46656]; rfl
  · simp (disch := omega) only [f_X7_takeNow_B2, d_let, d_lef, d_ltt, d_ltf, d_eqt, d_eqf, ↓reduceIte, or_false, false_or, or_true, true_or, and_true, true_and, and_false, false_and, not_true_eq_false, not_false_eq_true, Bool.false_eq_true, Option.bind_some, q_ofNat, q_cl, q_lt, q_le, q_eq, nI_add, pk_mul, q_m1, q_m4, m1_lt, m1_le, m1_nlt, m1_nle, m1_ne, m1_ne2, m4_lt, m4_le, m4_nlt, m4_nle, m4_ne, m4_ne2, q_0, q_1, q_2, q_3, q_4, q_5, q_6, q_8, q_12, q_15, q_16, q_20, q_24, q_30, q_31, q_32, q_80, q_9, q_99, q_126, q_48, q_57, q_58, q_59, q_97, q_101, q_10, q_21, q_255, q_46656]
theorem m_forget {N : Nat} (hN : 200000 ≤ N) (vw : Nat → Int32) : ∃ v, f_X7_forget N vw = some (v, nI 0, nI 0, wM 0) ∧ ∀ b, b < 6 → v b = wM 0 := by
  refine ⟨fl vw (-4) 6, ?_, fun b hb => fl_in hb⟩
  unfold f_X7_forget
  refine b_run (lp_for (fun k => (nI k, fl vw (-4) k)) 6 (by omega) rfl ?_ ?_ (r := (nI 6, fl vw (-4) 6))) rfl
  · intro k hk
    simp (disch := omega) only [f_X7_forget_B2, d_let, d_lef, d_ltt, d_ltf, d_eqt, d_eqf, ↓reduceIte, or_false, false_or, or_true, true_or, and_true, true_and, and_false, false_and, not_true_eq_false, not_false_eq_true, Bool.false_eq_true, Option.bind_some, q_ofNat, q_cl, q_lt, q_le, q_eq, nI_add, pk_mul, q_m1, q_m4, m1_lt, m1_le, m1_nlt, m1_nle, m1_ne, m1_ne2, m4_lt, m4_le, m4_nlt, m4_nle, m4_ne, m4_ne2, q_0, q_1, q_2, q_3, q_4, q_5, q_6, q_8, q_12, q_15, q_16, q_20, q_24, q_30, q_31, q_32, q_80, q_9, q_99, q_126, q_48, q_57, q_58, q_59, q_97, q_101, q_10, q_21, q_255, q_46656]; rfl
  · simp (disch := omega) only [f_X7_forget_B2, d_let, d_lef, d_ltt, d_ltf, d_eqt, d_eqf, ↓reduceIte, or_false, false_or, or_true, true_or, and_true, true_and, and_false, false_and, not_true_eq_false, not_false_eq_true, Bool.false_eq_true, Option.bind_some, q_ofNat, q_cl, q_lt, q_le, q_eq, nI_add, pk_mul, q_m1, q_m4, m1_lt, m1_le, m1_nlt, m1_nle, m1_ne, m1_ne2, m4_lt, m4_le, m4_nlt, m4_nle, m4_ne, m4_ne2, q_0, q_1, q_2, q_3, q_4, q_5, q_6, q_8, q_12, q_15, q_16, q_20, q_24, q_30, q_31, q_32, q_80, q_9, q_99, q_126, q_48, q_57, q_58, q_59, q_97, q_101, q_10, q_21, q_255, q_46656]
-- a ballot by the lots
theorem m_go1 {h : Hl} (ok : hOK h) {vb : Int32} {vme vmo vdi vsi vor : Nat → Int32} (t : tX h vb vme vmo vdi vsi vor) {N : Nat} (hN : 200000 ≤ N) {r : Br} (rok : bOK r) {vab vbe vst vlo : Nat → Int32} (rr : rX r vab vbe vst vlo) {wt wn : Nat} (hwt : wt ≤ 6) (hwn : wn < 1000) {s : Cr} (hs : cOK h s) (hl : s.1 < 32) {tb : Int32} {vw vth vc : Nat → Int32} (hw : ∀ b, b < 6 → vw b = wM (s.2.2.2 b)) :
    ∃ vw' vth' vc', f_X7_go N vb (nI s.2.1) (wM wt) (nI wn) (nI 0) tb vme vmo vdi vsi vor vst vlo vw vth vc (nI s.1) (nI (if s.1 = 0 then 1 else 0)) = some (vw', vth', vc', nI (oneS h r wt wn s).2.1, nI 0) ∧ (∀ b, b < 6 → vw' b = wM ((oneS h r wt wn s).2.2.2 b)) ∧ (∀ k, k < 5 → vc' k = nI (cn h (oneS h r wt wn s).2.2.2 k)) ∧ f_X7_chosenIn N vb vme vab vbe vc' (nI s.1) = some (wM (oneS h r wt wn s).2.2.1) := by
  have h6 := ok.1
  have hu := hs.2.1
  have hmd : mdM wt wn s.1 (if s.1 = 0 then 1 else 0) = mdS wt wn s.1 := funext fun b => mdM_S
  have HL : ∀ b, b < hB h → hMov h b = 4 → mdM wt wn s.1 (if s.1 = 0 then 1 else 0) b = 2 → f_X7_leadsByLot (nI (s.2.1 + usS h (mdS wt wn s.1) b)) (nI 0) tb (nI 0) vdi vlo (nI b) = some (if lkS h r (mdS wt wn s.1) s.2.1 b = true then nI 1 else nI 0, nI (s.2.1 + usS h (mdS wt wn s.1) (b + 1)), nI 0) := by
    intro b hb k4 k2
    rw [hmd] at k2
    obtain ⟨e1, e2, e3, e4, e5⟩ := t.2 b hb
    obtain ⟨o1, o2, o3, o4, o5, o6, o7, o8, o9⟩ := ok.2.1 b hb
    obtain ⟨o91, o92⟩ := o9 k4
    have e3 := e3 (Or.inr k4)
    have hus := usS_le h (mdS wt wn s.1) b
    have E1 : usS h (mdS wt wn s.1) (b + 1) = usS h (mdS wt wn s.1) b + 1 := by
      show usS h (mdS wt wn s.1) b + (if hMov h b = 4 ∧ mdS wt wn s.1 b = 2 then 1 else 0) = _
      rw [if_pos ⟨k4, k2⟩]
    have hlo : (s.2.1 + usS h (mdS wt wn s.1) b) % 16 < 16 := Nat.mod_lt _ (by decide)
    have hl := rr.2.2 _ hlo
    have hl2 := rok.2.2 _ hlo
    by_cases k3 : bLo r ((s.2.1 + usS h (mdS wt wn s.1) b) % 16) < hDig h b
    · have hlk : lkS h r (mdS wt wn s.1) s.2.1 b = true := decide_eq_true ⟨k4, k2, k3⟩
      simp (disch := omega) only [f_X7_leadsByLot, d_let, d_lef, d_ltt, d_ltf, d_eqt, d_eqf, ↓reduceIte, or_false, false_or, or_true, true_or, and_true, true_and, and_false, false_and, not_true_eq_false, not_false_eq_true, Bool.false_eq_true, Option.bind_some, q_ofNat, q_cl, q_lt, q_le, q_eq, nI_add, pk_mul, q_m1, q_m4, m1_lt, m1_le, m1_nlt, m1_nle, m1_ne, m1_ne2, m4_lt, m4_le, m4_nlt, m4_nle, m4_ne, m4_ne2, q_0, q_1, q_2, q_3, q_4, q_5, q_6, q_8, q_12, q_15, q_16, q_20, q_24, q_30, q_31, q_32, q_80, q_9, q_99, q_126, q_48, q_57, q_58, q_59, q_97, q_101, q_10, q_21, q_255, q_46656, e3, q_rem, hl, hlk, E1, Nat.add_assoc]
    · have hlk : lkS h r (mdS wt wn s.1) s.2.1 b = false := decide_eq_false (fun q => k3 q.2.2)
      simp (disch := omega) only [f_X7_leadsByLot, d_let, d_lef, d_ltt, d_ltf, d_eqt, d_eqf, ↓reduceIte, or_false, false_or, or_true, true_or, and_true, true_and, and_false, false_and, not_true_eq_false, not_false_eq_true, Bool.false_eq_true, Option.bind_some, q_ofNat, q_cl, q_lt, q_le, q_eq, nI_add, pk_mul, q_m1, q_m4, m1_lt, m1_le, m1_nlt, m1_nle, m1_ne, m1_ne2, m4_lt, m4_le, m4_nlt, m4_nle, m4_ne, m4_ne2, q_0, q_1, q_2, q_3, q_4, q_5, q_6, q_8, q_12, q_15, q_16, q_20, q_24, q_30, q_31, q_32, q_80, q_9, q_99, q_126, q_48, q_57, q_58, q_59, q_97, q_101, q_10, q_21, q_255, q_46656, e3, q_rem, hl, hlk, E1, Nat.add_assoc]
  have HN : ∀ b, b < hB h → ¬ (hMov h b = 4 ∧ mdM wt wn s.1 (if s.1 = 0 then 1 else 0) b = 2) → nI (s.2.1 + usS h (mdS wt wn s.1) (b + 1)) = nI (s.2.1 + usS h (mdS wt wn s.1) b) ∧ nI 0 = nI 0 := by
    intro b hb hn
    rw [hmd] at hn
    refine ⟨?_, rfl⟩
    show nI (s.2.1 + (usS h (mdS wt wn s.1) b + (if hMov h b = 4 ∧ mdS wt wn s.1 b = 2 then 1 else 0))) = _
    rw [if_neg hn]; rfl
  obtain ⟨vw', vth', vc', G1, G2, G3⟩ := m_go ok t hN rok rr.2.1 (vlo := vlo) (tt := s.1) (by omega) hwt hwn (fl := if s.1 = 0 then 1 else 0) (by split <;> omega) (vth := vth) (vc := vc) hw hs.2.2.2 (isT := nI 0) (tb := tb) (cu := fun b => nI (s.2.1 + usS h (mdS wt wn s.1) b)) (ta := fun _ => nI 0) (lk := lkS h r (mdS wt wn s.1) s.2.1) rfl HL HN
  rw [show min s.1 31 = s.1 by omega, hmd] at G2 G3
  exact ⟨vw', vth', vc', G1, G2, G3, m_chosen ok t hN rok rr.1 G3 (cn_le ok _) hl⟩
def enS (s : Cr) : Int32 := if s.2.2.1 = 0 then m4 else nI (s.1 - 1)
theorem m_findEnd {h : Hl} (ok : hOK h) {vb : Int32} {vme vmo vdi vsi vor : Nat → Int32} (t : tX h vb vme vmo vdi vsi vor) {N : Nat} (hN : 200000 ≤ N) {r : Br} (rok : bOK r) {vab vbe vst vlo : Nat → Int32} (rr : rX r vab vbe vst vlo) {wt wn : Nat} (hwt : wt ≤ 6) (hwn : wn < 1000) {tb ta : Int32} (vw vth vc : Nat → Int32) :
    ∃ u : (Nat → Int32) × (Nat → Int32) × (Nat → Int32) × Int32 × Int32 × Int32 × Int32, f_X7_findEnd N vb (wM wt) (nI wn) (nI 0) tb ta vme vmo vdi vsi vor vab vbe vst vlo vw vth vc = some u ∧ u.2.2.2.2.2.1 = wM (goS h r wt wn 32 c0).2.2.1 ∧ u.2.2.2.2.2.2 = enS (goS h r wt wn 32 c0) := by
  have K : ∀ (m : Nat) (M : Nat), m < M → ∀ (s : Cr), cOK h s → s.1 + m = 32 → ∀ (vw vth vc : Nat → Int32) (ta : Int32), (∀ b, b < 6 → vw b = wM (s.2.2.2 b)) → ∃ u : (Nat → Int32) × (Nat → Int32) × (Nat → Int32) × Int32 × Int32 × Int32 × Int32, lp (fun s : Int32 × (Nat → Int32) × (Nat → Int32) × (Nat → Int32) × Int32 × Int32 × Int32 × Int32 => f_X7_findEnd_B18 N vb (wM wt) (nI wn) (nI 0) tb vme vmo vdi vsi vor vab vbe vst vlo s.1 s.2.1 s.2.2.1 s.2.2.2.1 s.2.2.2.2.1 s.2.2.2.2.2.1 s.2.2.2.2.2.2.1 s.2.2.2.2.2.2.2) M (nI s.1, vw, vth, vc, nI s.2.1, ta, wM s.2.2.1, enS s) = some u ∧ u.2.2.2.2.2.1 = wM (goS h r wt wn m s).2.2.1 ∧ u.2.2.2.2.2.2 = enS (goS h r wt wn m s) := by
    intro m
    induction m with
    | zero =>
      intro M hM s hs hm vw vth vc ta hw
      obtain ⟨M, rfl⟩ : ∃ k, M = k + 1 := ⟨M - 1, by omega⟩
      refine ⟨(vw, vth, vc, nI s.2.1, ta, wM s.2.2.1, enS s), lp_stop ?_, rfl, rfl⟩
      simp (disch := omega) only [f_X7_findEnd_B18, d_let, d_lef, d_ltt, d_ltf, d_eqt, d_eqf, ↓reduceIte, or_false, false_or, or_true, true_or, and_true, true_and, and_false, false_and, not_true_eq_false, not_false_eq_true, Bool.false_eq_true, Option.bind_some, q_ofNat, q_cl, q_lt, q_le, q_eq, nI_add, pk_mul, q_m1, q_m4, m1_lt, m1_le, m1_nlt, m1_nle, m1_ne, m1_ne2, m4_lt, m4_le, m4_nlt, m4_nle, m4_ne, m4_ne2, q_0, q_1, q_2, q_3, q_4, q_5, q_6, q_8, q_12, q_15, q_16, q_20, q_24, q_30, q_31, q_32, q_80, q_9, q_99, q_126, q_48, q_57, q_58, q_59, q_97, q_101, q_10, q_21, q_255, q_46656]
    | succ m ih =>
      intro M hM s hs hm vw vth vc ta hw
      obtain ⟨M, rfl⟩ : ∃ k, M = k + 1 := ⟨M - 1, by omega⟩
      have b3 := hs.2.2.1
      unfold goS
      by_cases hov : s.2.2.1 = 0
      · rw [if_neg (by omega)]
        obtain ⟨vw', vth', vc', G1, G2, G3, G4⟩ := m_go1 ok t hN rok rr hwt hwn hs (by omega) (tb := tb) (vth := vth) (vc := vc) hw
        have hok := oneS_ok ok (r := r) (wt := wt) (wn := wn) hs (by omega)
        have hlt := hok.2.2.1
        obtain ⟨u, U1, U2⟩ := ih M (by omega) (oneS h r wt wn s) hok (by show s.1 + 1 + m = 32; omega) vw' vth' vc' (nI 0) G2
        refine ⟨u, ?_, U2⟩
        rw [← U1]
        refine lp_step ?_
        have e1 : (oneS h r wt wn s).1 = s.1 + 1 := rfl
        by_cases hz : (oneS h r wt wn s).2.2.1 = 0
        · by_cases h0 : s.1 = 0
          · rw [if_pos h0] at G1
            simp (disch := omega) only [f_X7_findEnd_B18, f_X7_findEnd_L42, f_X7_findEnd_L68, d_let, d_lef, d_ltt, d_ltf, d_eqt, d_eqf, ↓reduceIte, or_false, false_or, or_true, true_or, and_true, true_and, and_false, false_and, not_true_eq_false, not_false_eq_true, Bool.false_eq_true, Option.bind_some, q_ofNat, q_cl, q_lt, q_le, q_eq, nI_add, pk_mul, q_m1, q_m4, m1_lt, m1_le, m1_nlt, m1_nle, m1_ne, m1_ne2, m4_lt, m4_le, m4_nlt, m4_nle, m4_ne, m4_ne2, q_0, q_1, q_2, q_3, q_4, q_5, q_6, q_8, q_12, q_15, q_16, q_20, q_24, q_30, q_31, q_32, q_80, q_9, q_99, q_126, q_48, q_57, q_58, q_59, q_97, q_101, q_10, q_21, q_255, q_46656, hov, wM_0, q_wMg, ne_eq, G1, G4, hz, enS, e1]
          · rw [if_neg h0] at G1
            simp (disch := omega) only [f_X7_findEnd_B18, f_X7_findEnd_L42, f_X7_findEnd_L68, d_let, d_lef, d_ltt, d_ltf, d_eqt, d_eqf, ↓reduceIte, or_false, false_or, or_true, true_or, and_true, true_and, and_false, false_and, not_true_eq_false, not_false_eq_true, Bool.false_eq_true, Option.bind_some, q_ofNat, q_cl, q_lt, q_le, q_eq, nI_add, pk_mul, q_m1, q_m4, m1_lt, m1_le, m1_nlt, m1_nle, m1_ne, m1_ne2, m4_lt, m4_le, m4_nlt, m4_nle, m4_ne, m4_ne2, q_0, q_1, q_2, q_3, q_4, q_5, q_6, q_8, q_12, q_15, q_16, q_20, q_24, q_30, q_31, q_32, q_80, q_9, q_99, q_126, q_48, q_57, q_58, q_59, q_97, q_101, q_10, q_21, q_255, q_46656, hov, wM_0, q_wMg, ne_eq, G1, G4, hz, enS, e1]
        · by_cases h0 : s.1 = 0
          · rw [if_pos h0] at G1
            simp (disch := omega) only [f_X7_findEnd_B18, f_X7_findEnd_L42, f_X7_findEnd_L68, d_let, d_lef, d_ltt, d_ltf, d_eqt, d_eqf, ↓reduceIte, or_false, false_or, or_true, true_or, and_true, true_and, and_false, false_and, not_true_eq_false, not_false_eq_true, Bool.false_eq_true, Option.bind_some, q_ofNat, q_cl, q_lt, q_le, q_eq, nI_add, pk_mul, q_m1, q_m4, m1_lt, m1_le, m1_nlt, m1_nle, m1_ne, m1_ne2, m4_lt, m4_le, m4_nlt, m4_nle, m4_ne, m4_ne2, q_0, q_1, q_2, q_3, q_4, q_5, q_6, q_8, q_12, q_15, q_16, q_20, q_24, q_30, q_31, q_32, q_80, q_9, q_99, q_126, q_48, q_57, q_58, q_59, q_97, q_101, q_10, q_21, q_255, q_46656, hov, wM_0, q_wMg, ne_eq, G1, G4, hz, enS, e1, Nat.add_sub_cancel]
          · rw [if_neg h0] at G1
            simp (disch := omega) only [f_X7_findEnd_B18, f_X7_findEnd_L42, f_X7_findEnd_L68, d_let, d_lef, d_ltt, d_ltf, d_eqt, d_eqf, ↓reduceIte, or_false, false_or, or_true, true_or, and_true, true_and, and_false, false_and, not_true_eq_false, not_false_eq_true, Bool.false_eq_true, Option.bind_some, q_ofNat, q_cl, q_lt, q_le, q_eq, nI_add, pk_mul, q_m1, q_m4, m1_lt, m1_le, m1_nlt, m1_nle, m1_ne, m1_ne2, m4_lt, m4_le, m4_nlt, m4_nle, m4_ne, m4_ne2, q_0, q_1, q_2, q_3, q_4, q_5, q_6, q_8, q_12, q_15, q_16, q_20, q_24, q_30, q_31, q_32, q_80, q_9, q_99, q_126, q_48, q_57, q_58, q_59, q_97, q_101, q_10, q_21, q_255, q_46656, hov, wM_0, q_wMg, ne_eq, G1, G4, hz, enS, e1, Nat.add_sub_cancel]
      · rw [if_pos (Or.inl hov)]
        refine ⟨(vw, vth, vc, nI s.2.1, ta, wM s.2.2.1, enS s), lp_stop ?_, rfl, rfl⟩
        simp (disch := omega) only [f_X7_findEnd_B18, d_let, d_lef, d_ltt, d_ltf, d_eqt, d_eqf, ↓reduceIte, or_false, false_or, or_true, true_or, and_true, true_and, and_false, false_and, not_true_eq_false, not_false_eq_true, Bool.false_eq_true, Option.bind_some, q_ofNat, q_cl, q_lt, q_le, q_eq, nI_add, pk_mul, q_m1, q_m4, m1_lt, m1_le, m1_nlt, m1_nle, m1_ne, m1_ne2, m4_lt, m4_le, m4_nlt, m4_nle, m4_ne, m4_ne2, q_0, q_1, q_2, q_3, q_4, q_5, q_6, q_8, q_12, q_15, q_16, q_20, q_24, q_30, q_31, q_32, q_80, q_9, q_99, q_126, q_48, q_57, q_58, q_59, q_97, q_101, q_10, q_21, q_255, q_46656, q_wMg, ne_eq]
  obtain ⟨v, V1, V2⟩ := m_takeNone hN vw
  obtain ⟨u, U1, U2⟩ := K 32 N (by omega) c0 (c0_ok h) rfl v vth vc ta V2
  refine ⟨u, ?_, U2⟩
  unfold f_X7_findEnd
  rw [V1, Option.bind_some]
  exact b_run U1 rfl
-- the reference's course says it
def cM (s : Cr) (vdo vus vta : Int32) (vw : Nat → Int32) : Prop := vdo = nI s.1 ∧ vus = nI s.2.1 ∧ vta = wM s.2.2.1 ∧ ∀ b, b < 6 → vw b = wM (s.2.2.2 b)
theorem m_ballots {h : Hl} (ok : hOK h) {vb : Int32} {vme vmo vdi vsi vor : Nat → Int32} (t : tX h vb vme vmo vdi vsi vor) {N : Nat} (hN : 200000 ≤ N) {r : Br} (rok : bOK r) {vab vbe vst vlo : Nat → Int32} (rr : rX r vab vbe vst vlo) {n : Nat} (hn : n ≤ 32) (h1 : 1 ≤ n) (h0 : 0 < hB h) {s : Cr} (hs : cOK h s) {vdo vus vta : Int32} {vw : Nat → Int32} (hc : cM s vdo vus vta vw) {cu wn tb ta : Int32} {vcp vth vc : Nat → Int32} (hwn : wn = nI 0 ∨ ∃ k, k < 1000 ∧ wn = nI k) :
    ∃ w : Int32 × (Nat → Int32) × Int32 × Int32 × Int32 × (Nat → Int32) × (Nat → Int32) × (Nat → Int32) × Int32 × Int32, f_X7_ballots N vb vdo vus vta cu (wM 0) wn (nI 0) tb ta vme vmo vdi vsi vor vab vbe vst vlo vw vcp vth vc (nI n) = some w ∧ w.1 = nI (goS h r 0 0 n s).1 ∧ cM (goS h r 0 0 n s) w.2.2.1 w.2.2.2.1 w.2.2.2.2.1 w.2.1 := by
  obtain ⟨wk, hwk, rfl⟩ : ∃ k, k < 1000 ∧ wn = nI k := hwn.elim (fun e => ⟨0, by decide, e⟩) id
  have h6 := ok.1
  have e0 := t.1
  have hmd : ∀ tt b, mdS 0 wk tt b = mdS 0 0 tt b := fun tt b => by unfold mdS; rw [show fmS 0 wk b = 0 from if_neg (by omega), show fmS 0 0 b = 0 from if_neg (by omega)]
  have hone : ∀ s, oneS h r 0 wk s = oneS h r 0 0 s := fun s => by
    have : mdS 0 wk s.1 = mdS 0 0 s.1 := funext (hmd s.1)
    unfold oneS; rw [this]
  have K : ∀ (m : Nat), m ≤ n → ∀ (M : Nat), m < M → ∀ (s : Cr), cOK h s → ∀ (vw vth vc : Nat → Int32) (ta : Int32), (∀ b, b < 6 → vw b = wM (s.2.2.2 b)) → ∃ u : Int32 × Int32 × Int32 × (Nat → Int32) × (Nat → Int32) × (Nat → Int32) × Int32 × Int32, lp (fun s : Int32 × Int32 × Int32 × (Nat → Int32) × (Nat → Int32) × (Nat → Int32) × Int32 × Int32 => f_X7_ballots_B30 N vb (wM 0) (nI wk) (nI 0) tb vme vmo vdi vsi vor vab vbe vst vlo (nI n) s.1 s.2.1 s.2.2.1 s.2.2.2.1 s.2.2.2.2.1 s.2.2.2.2.2.1 s.2.2.2.2.2.2.1 s.2.2.2.2.2.2.2) M (nI (n - m), nI s.1, wM s.2.2.1, vw, vth, vc, nI s.2.1, ta) = some u ∧ cM (goS h r 0 0 m s) u.2.1 u.2.2.2.2.2.2.1 u.2.2.1 u.2.2.2.1 := by
    intro m
    induction m with
    | zero =>
      intro hm M hM s hs vw vth vc ta hw
      obtain ⟨M, rfl⟩ : ∃ k, M = k + 1 := ⟨M - 1, by omega⟩
      refine ⟨(nI (n - 0), nI s.1, wM s.2.2.1, vw, vth, vc, nI s.2.1, ta), lp_stop ?_, rfl, rfl, rfl, hw⟩
      simp (disch := omega) only [f_X7_ballots_B30, d_let, d_lef, d_ltt, d_ltf, d_eqt, d_eqf, ↓reduceIte, or_false, false_or, or_true, true_or, and_true, true_and, and_false, false_and, not_true_eq_false, not_false_eq_true, Bool.false_eq_true, Option.bind_some, q_ofNat, q_cl, q_lt, q_le, q_eq, nI_add, pk_mul, q_m1, q_m4, m1_lt, m1_le, m1_nlt, m1_nle, m1_ne, m1_ne2, m4_lt, m4_le, m4_nlt, m4_nle, m4_ne, m4_ne2, q_0, q_1, q_2, q_3, q_4, q_5, q_6, q_8, q_12, q_15, q_16, q_20, q_24, q_30, q_31, q_32, q_80, q_9, q_99, q_126, q_48, q_57, q_58, q_59, q_97, q_101, q_10, q_21, q_255, q_46656]
    | succ m ih =>
      intro hm M hM s hs vw vth vc ta hw
      obtain ⟨M, rfl⟩ : ∃ k, M = k + 1 := ⟨M - 1, by omega⟩
      have b1 := hs.1
      have b3 := hs.2.2.1
      unfold goS
      by_cases hov : s.2.2.1 ≠ 0 ∨ 32 ≤ s.1
      · rw [if_pos hov]
        refine ⟨(nI (n - (m + 1)), nI s.1, wM s.2.2.1, vw, vth, vc, nI s.2.1, ta), lp_stop ?_, rfl, rfl, rfl, hw⟩
        by_cases hz : s.2.2.1 = 0
        · simp (disch := omega) only [f_X7_ballots_B30, d_let, d_lef, d_ltt, d_ltf, d_eqt, d_eqf, ↓reduceIte, or_false, false_or, or_true, true_or, and_true, true_and, and_false, false_and, not_true_eq_false, not_false_eq_true, Bool.false_eq_true, Option.bind_some, q_ofNat, q_cl, q_lt, q_le, q_eq, nI_add, pk_mul, q_m1, q_m4, m1_lt, m1_le, m1_nlt, m1_nle, m1_ne, m1_ne2, m4_lt, m4_le, m4_nlt, m4_nle, m4_ne, m4_ne2, q_0, q_1, q_2, q_3, q_4, q_5, q_6, q_8, q_12, q_15, q_16, q_20, q_24, q_30, q_31, q_32, q_80, q_9, q_99, q_126, q_48, q_57, q_58, q_59, q_97, q_101, q_10, q_21, q_255, q_46656, hz, wM_0]
        · simp (disch := omega) only [f_X7_ballots_B30, d_let, d_lef, d_ltt, d_ltf, d_eqt, d_eqf, ↓reduceIte, or_false, false_or, or_true, true_or, and_true, true_and, and_false, false_and, not_true_eq_false, not_false_eq_true, Bool.false_eq_true, Option.bind_some, q_ofNat, q_cl, q_lt, q_le, q_eq, nI_add, pk_mul, q_m1, q_m4, m1_lt, m1_le, m1_nlt, m1_nle, m1_ne, m1_ne2, m4_lt, m4_le, m4_nlt, m4_nle, m4_ne, m4_ne2, q_0, q_1, q_2, q_3, q_4, q_5, q_6, q_8, q_12, q_15, q_16, q_20, q_24, q_30, q_31, q_32, q_80, q_9, q_99, q_126, q_48, q_57, q_58, q_59, q_97, q_101, q_10, q_21, q_255, q_46656, q_wMg, ne_eq]
      · rw [if_neg hov]
        have hz : s.2.2.1 = 0 := by omega
        obtain ⟨vw', vth', vc', G1, G2, G3, G4⟩ := m_go1 ok t hN rok rr (wt := 0) (wn := wk) (by omega) hwk hs (by omega) (tb := tb) (vth := vth) (vc := vc) hw
        rw [hone] at G1 G2 G3 G4
        have hok := oneS_ok ok (r := r) (wt := 0) (wn := 0) hs (by omega)
        obtain ⟨u, U1, U2⟩ := ih (by omega) M (by omega) (oneS h r 0 0 s) hok vw' vth' vc' (nI 0) G2
        refine ⟨u, ?_, U2⟩
        rw [← U1]
        refine lp_step ?_
        have e1 : (oneS h r 0 0 s).1 = s.1 + 1 := rfl
        have hnm : n - (m + 1) + 1 = n - m := by omega
        by_cases hq : s.1 = 0
        · rw [if_pos hq] at G1
          rw [wM_0] at G1
          simp (disch := omega) only [f_X7_ballots_B30, f_X7_ballots_L68, d_let, d_lef, d_ltt, d_ltf, d_eqt, d_eqf, ↓reduceIte, or_false, false_or, or_true, true_or, and_true, true_and, and_false, false_and, not_true_eq_false, not_false_eq_true, Bool.false_eq_true, Option.bind_some, q_ofNat, q_cl, q_lt, q_le, q_eq, nI_add, pk_mul, q_m1, q_m4, m1_lt, m1_le, m1_nlt, m1_nle, m1_ne, m1_ne2, m4_lt, m4_le, m4_nlt, m4_nle, m4_ne, m4_ne2, q_0, q_1, q_2, q_3, q_4, q_5, q_6, q_8, q_12, q_15, q_16, q_20, q_24, q_30, q_31, q_32, q_80, q_9, q_99, q_126, q_48, q_57, q_58, q_59, q_97, q_101, q_10, q_21, q_255, q_46656, hz, wM_0, G1, G4, e1, hnm]
        · rw [if_neg hq] at G1
          rw [wM_0] at G1
          simp (disch := omega) only [f_X7_ballots_B30, f_X7_ballots_L68, d_let, d_lef, d_ltt, d_ltf, d_eqt, d_eqf, ↓reduceIte, or_false, false_or, or_true, true_or, and_true, true_and, and_false, false_and, not_true_eq_false, not_false_eq_true, Bool.false_eq_true, Option.bind_some, q_ofNat, q_cl, q_lt, q_le, q_eq, nI_add, pk_mul, q_m1, q_m4, m1_lt, m1_le, m1_nlt, m1_nle, m1_ne, m1_ne2, m4_lt, m4_le, m4_nlt, m4_nle, m4_ne, m4_ne2, q_0, q_1, q_2, q_3, q_4, q_5, q_6, q_8, q_12, q_15, q_16, q_20, q_24, q_30, q_31, q_32, q_80, q_9, q_99, q_126, q_48, q_57, q_58, q_59, q_97, q_101, q_10, q_21, q_255, q_46656, hz, wM_0, G1, G4, e1, hnm]
  obtain ⟨a1, a2, a3, a4⟩ := hc
  obtain ⟨v, V1, V2⟩ := m_takeNow hN vus vw vcp
  obtain ⟨u, U1, U2, U3, U4, U5⟩ := K n (Nat.le_refl _) N (by omega) s hs v vth vc ta (fun b hb => (V2 b hb).trans (a4 b hb))
  rw [Nat.sub_self] at U1
  refine ⟨(u.2.1, it (wrF u.2.2.2.1) vw 6, u.2.1, u.2.2.2.2.2.2.1, u.2.2.1, u.2.2.2.1, u.2.2.2.2.1, u.2.2.2.2.2.1, u.2.2.2.2.2.2.1, u.2.2.2.2.2.2.2), ?_, U2, U2, U3, U4, fun b hb => by show it (wrF u.2.2.2.1) vw 6 b = _; rw [wrF_at, if_pos hb]; exact U5 b hb⟩
  unfold f_X7_ballots
  rw [m_inY (lo := 1) (hi := 32) (inR_I (by omega) (by constructor <;> show _ ≤ _ <;> simp <;> omega)), Option.bind_some, if_neg (by decide), if_neg (by rw [e0]; exact nI_ne0 h0 (by omega)), V1, Option.bind_some]
  rw [a1, a3, a2]
  refine b_run U1 ?_
  refine b_run (lp_for (fun k => (nI k, it (wrF u.2.2.2.1) vw k)) 6 (by omega) rfl ?_ ?_ (r := (nI 6, it (wrF u.2.2.2.1) vw 6))) rfl
  · intro k hk
    simp (disch := omega) only [f_X7_ballots_B101, d_let, d_lef, d_ltt, d_ltf, d_eqt, d_eqf, ↓reduceIte, or_false, false_or, or_true, true_or, and_true, true_and, and_false, false_and, not_true_eq_false, not_false_eq_true, Bool.false_eq_true, Option.bind_some, q_ofNat, q_cl, q_lt, q_le, q_eq, nI_add, pk_mul, q_m1, q_m4, m1_lt, m1_le, m1_nlt, m1_nle, m1_ne, m1_ne2, m4_lt, m4_le, m4_nlt, m4_nle, m4_ne, m4_ne2, q_0, q_1, q_2, q_3, q_4, q_5, q_6, q_8, q_12, q_15, q_16, q_20, q_24, q_30, q_31, q_32, q_80, q_9, q_99, q_126, q_48, q_57, q_58, q_59, q_97, q_101, q_10, q_21, q_255, q_46656]; rfl
  · simp (disch := omega) only [f_X7_ballots_B101, d_let, d_lef, d_ltt, d_ltf, d_eqt, d_eqf, ↓reduceIte, or_false, false_or, or_true, true_or, and_true, true_and, and_false, false_and, not_true_eq_false, not_false_eq_true, Bool.false_eq_true, Option.bind_some, q_ofNat, q_cl, q_lt, q_le, q_eq, nI_add, pk_mul, q_m1, q_m4, m1_lt, m1_le, m1_nlt, m1_nle, m1_ne, m1_ne2, m4_lt, m4_le, m4_nlt, m4_nle, m4_ne, m4_ne2, q_0, q_1, q_2, q_3, q_4, q_5, q_6, q_8, q_12, q_15, q_16, q_20, q_24, q_30, q_31, q_32, q_80, q_9, q_99, q_126, q_48, q_57, q_58, q_59, q_97, q_101, q_10, q_21, q_255, q_46656]
