-- lots
def usS (h : Hl) (md : Nat → Nat) (n : Nat) : Nat := sm (fun b => if hMov h b = 4 ∧ md b = 2 then 1 else 0) n
def lkS (h : Hl) (r : Br) (md : Nat → Nat) (u b : Nat) : Bool := decide (hMov h b = 4 ∧ md b = 2 ∧ bLo r ((u + usS h md b) % 16) < hDig h b)
theorem usS_le (h : Hl) (md : Nat → Nat) (n : Nat) : usS h md n ≤ n := by
  have := sm_le (f := fun b => if hMov h b = 4 ∧ md b = 2 then 1 else 0) (m := 1) n (fun k _ => by split <;> omega)
  unfold usS; omega
theorem x_draw {h : Hl} (ok : hOK h) {vb : Int32} {vme vmo vdi vsi vor : Nat → Int32} (t : tX h vb vme vmo vdi vsi vor) {N : Nat} (hN : 200000 ≤ N) {r : Br} (rok : bOK r) {vab vbe vst vlo : Nat → Int32} (rr : rX r vab vbe vst vlo) {tt : Nat} (ht : tt < 1000) {wt wn : Nat} (hwt : wt ≤ 6) (hwn : wn < 1000) {u : Nat} (hu : u < 1000000) : f_X0_draw N (nI tt) (nI u) (wX wt) (nI wn) vb vmo vdi vlo = some (nI (bs (lkS h r (mdS wt wn tt) u) (hB h)), nI (u + usS h (mdS wt wn tt) (hB h))) := by
  have h6 := ok.1
  have e0 := t.1
  unfold f_X0_draw
  refine b_run (lp_for (fun k => (nI (bs (lkS h r (mdS wt wn tt) u) k), nI k, nI (u + usS h (mdS wt wn tt) k))) (hB h) (by omega) rfl ?_ ?_ (r := (nI (bs (lkS h r (mdS wt wn tt) u) (hB h)), nI (u + usS h (mdS wt wn tt) (hB h))))) rfl
  · intro b hb
    obtain ⟨e1, e2, e3, e4, e5⟩ := t.2 b hb
    obtain ⟨o1, o2, o3, o4, o5, o6, o7, o8, o9⟩ := ok.2.1 b hb
    have hfm := fmS_le (wt := wt) (wn := wn) (b := b)
    have hus := usS_le h (mdS wt wn tt) b
    have E1 : usS h (mdS wt wn tt) (b + 1) = usS h (mdS wt wn tt) b + (if hMov h b = 4 ∧ mdS wt wn tt b = 2 then 1 else 0) := rfl
    have hlo : (u + usS h (mdS wt wn tt) b) % 16 < 16 := Nat.mod_lt _ (by decide)
    have hl := rr.2.2 _ hlo
    have hl2 := rok.2.2 _ hlo
    rw [E1, bs_or]
    by_cases k4 : hMov h b = 4
    · obtain ⟨o91, o92⟩ := o9 k4
      have e3 := e3 (Or.inr k4)
      by_cases k2 : tt ≤ fmS wt wn b
      · have hm : ¬ mdS wt wn tt b = 2 := by unfold mdS; split; omega; split; omega; omega
        have hlk : lkS h r (mdS wt wn tt) u b = false := decide_eq_false (fun q => hm q.2.1)
        simp (disch := omega) only [f_X0_draw_B4, f_X0_draw_L71, f_X0_draw_L61, d_let, d_lef, d_ltt, d_ltf, d_eqt, d_eqf, ↓reduceIte, or_false, false_or, or_true, true_or, and_true, true_and, and_false, false_and, not_true_eq_false, not_false_eq_true, Bool.false_eq_true, Option.bind_some, q_ofNat, q_cl, q_lt, q_le, q_eq, nI_add, pk_mul, q_m1, q_m4, m1_lt, m1_le, m1_nlt, m1_nle, m1_ne, m1_ne2, m4_lt, m4_le, m4_nlt, m4_nle, m4_ne, m4_ne2, q_0, q_1, q_2, q_3, q_4, q_5, q_6, q_8, q_12, q_15, q_16, q_20, q_24, q_30, q_31, q_32, q_80, q_9, q_99, q_126, q_48, q_57, q_58, q_59, q_97, q_101, q_10, q_21, q_255, q_46656, e0, e2, x_firm, hm, hlk, Nat.add_zero]
      · have hm : mdS wt wn tt b = 2 := by unfold mdS; rw [if_neg (by omega), if_neg (by omega)]
        by_cases k3 : bLo r ((u + usS h (mdS wt wn tt) b) % 16) < hDig h b
        · have hlk : lkS h r (mdS wt wn tt) u b = true := decide_eq_true ⟨k4, hm, k3⟩
          simp (disch := omega) only [f_X0_draw_B4, f_X0_draw_L71, f_X0_draw_L61, d_let, d_lef, d_ltt, d_ltf, d_eqt, d_eqf, ↓reduceIte, or_false, false_or, or_true, true_or, and_true, true_and, and_false, false_and, not_true_eq_false, not_false_eq_true, Bool.false_eq_true, Option.bind_some, q_ofNat, q_cl, q_lt, q_le, q_eq, nI_add, pk_mul, q_m1, q_m4, m1_lt, m1_le, m1_nlt, m1_nle, m1_ne, m1_ne2, m4_lt, m4_le, m4_nlt, m4_nle, m4_ne, m4_ne2, q_0, q_1, q_2, q_3, q_4, q_5, q_6, q_8, q_12, q_15, q_16, q_20, q_24, q_30, q_31, q_32, q_80, q_9, q_99, q_126, q_48, q_57, q_58, q_59, q_97, q_101, q_10, q_21, q_255, q_46656, e0, e2, e3, x_firm, hm, hlk, q_rem, hl, q_shl, q_or, Nat.add_assoc]
        · have hlk : lkS h r (mdS wt wn tt) u b = false := decide_eq_false (fun q => k3 q.2.2)
          simp (disch := omega) only [f_X0_draw_B4, f_X0_draw_L71, f_X0_draw_L61, d_let, d_lef, d_ltt, d_ltf, d_eqt, d_eqf, ↓reduceIte, or_false, false_or, or_true, true_or, and_true, true_and, and_false, false_and, not_true_eq_false, not_false_eq_true, Bool.false_eq_true, Option.bind_some, q_ofNat, q_cl, q_lt, q_le, q_eq, nI_add, pk_mul, q_m1, q_m4, m1_lt, m1_le, m1_nlt, m1_nle, m1_ne, m1_ne2, m4_lt, m4_le, m4_nlt, m4_nle, m4_ne, m4_ne2, q_0, q_1, q_2, q_3, q_4, q_5, q_6, q_8, q_12, q_15, q_16, q_20, q_24, q_30, q_31, q_32, q_80, q_9, q_99, q_126, q_48, q_57, q_58, q_59, q_97, q_101, q_10, q_21, q_255, q_46656, e0, e2, e3, x_firm, hm, hlk, q_rem, hl, Nat.add_assoc]
    · have hlk : lkS h r (mdS wt wn tt) u b = false := decide_eq_false (fun q => k4 q.1)
      simp (disch := omega) only [f_X0_draw_B4, f_X0_draw_L71, f_X0_draw_L61, d_let, d_lef, d_ltt, d_ltf, d_eqt, d_eqf, ↓reduceIte, or_false, false_or, or_true, true_or, and_true, true_and, and_false, false_and, not_true_eq_false, not_false_eq_true, Bool.false_eq_true, Option.bind_some, q_ofNat, q_cl, q_lt, q_le, q_eq, nI_add, pk_mul, q_m1, q_m4, m1_lt, m1_le, m1_nlt, m1_nle, m1_ne, m1_ne2, m4_lt, m4_le, m4_nlt, m4_nle, m4_ne, m4_ne2, q_0, q_1, q_2, q_3, q_4, q_5, q_6, q_8, q_12, q_15, q_16, q_20, q_24, q_30, q_31, q_32, q_80, q_9, q_99, q_126, q_48, q_57, q_58, q_59, q_97, q_101, q_10, q_21, q_255, q_46656, e0, e2, hlk, Nat.add_zero]
  · simp (disch := omega) only [f_X0_draw_B4, d_let, d_lef, d_ltt, d_ltf, d_eqt, d_eqf, ↓reduceIte, or_false, false_or, or_true, true_or, and_true, true_and, and_false, false_and, not_true_eq_false, not_false_eq_true, Bool.false_eq_true, Option.bind_some, q_ofNat, q_cl, q_lt, q_le, q_eq, nI_add, pk_mul, q_m1, q_m4, m1_lt, m1_le, m1_nlt, m1_nle, m1_ne, m1_ne2, m4_lt, m4_le, m4_nlt, m4_nle, m4_ne, m4_ne2, q_0, q_1, q_2, q_3, q_4, q_5, q_6, q_8, q_12, q_15, q_16, q_20, q_24, q_30, q_31, q_32, q_80, q_9, q_99, q_126, q_48, q_57, q_58, q_59, q_97, q_101, q_10, q_21, q_255, q_46656, e0]
-- a course: ballots, lots used, chosen (a code), what was written
abbrev Cr : Type := Nat × Nat × Nat × (Nat → Nat)
def oneS (h : Hl) (r : Br) (wt wn : Nat) (s : Cr) : Cr :=
  (s.1 + 1, s.2.1 + usS h (mdS wt wn s.1) (hB h), wiS h r (cn h (stS h (aliv r s.1) (mdS wt wn s.1) (lkS h r (mdS wt wn s.1) s.2.1) s.2.2.2)) s.1, stS h (aliv r s.1) (mdS wt wn s.1) (lkS h r (mdS wt wn s.1) s.2.1) s.2.2.2)
def goS (h : Hl) (r : Br) (wt wn : Nat) : Nat → Cr → Cr
  | 0, s => s
  | n + 1, s => if s.2.2.1 ≠ 0 ∨ 32 ≤ s.1 then s else goS h r wt wn n (oneS h r wt wn s)
def cOK (h : Hl) (s : Cr) : Prop := s.1 ≤ 32 ∧ s.2.1 ≤ 6 * s.1 ∧ s.2.2.1 ≤ 5 ∧ wOK h s.2.2.2
theorem wiS_le (h : Hl) (r : Br) (cnt : Nat → Nat) (tt : Nat) : wiS h r cnt tt ≤ 5 := by
  have := wiB_le cnt
  unfold wiS; split <;> omega
theorem oneS_ok {h : Hl} (ok : hOK h) {r : Br} {wt wn : Nat} {s : Cr} (hs : cOK h s) (hl : s.1 < 32) : cOK h (oneS h r wt wn s) := by
  have := ok.1
  have := usS_le h (mdS wt wn s.1) (hB h)
  refine ⟨?_, ?_, wiS_le h r _ _, stS_ok hs.2.2.2⟩
  · show s.1 + 1 ≤ 32; omega
  · show s.2.1 + usS h (mdS wt wn s.1) (hB h) ≤ 6 * (s.1 + 1); have := hs.2.1; omega
theorem goS_ok {h : Hl} (ok : hOK h) {r : Br} {wt wn : Nat} : ∀ n s, cOK h s → cOK h (goS h r wt wn n s) := by
  intro n
  induction n with
  | zero => intro s hs; exact hs
  | succ n ih =>
    intro s hs
    unfold goS
    split
    · exact hs
    · rename_i hq
      exact ih _ (oneS_ok ok hs (by omega))
-- the class's course says it
def cX (h : Hl) (s : Cr) (vba vus vch : Int32) (vw vc : Nat → Int32) : Prop := vba = nI s.1 ∧ vus = nI s.2.1 ∧ vch = wX s.2.2.1 ∧ (∀ b, b < 6 → vw b = wX (s.2.2.2 b)) ∧ ∀ k, k < 5 → vc k = nI (cn h s.2.2.2 k)
theorem lp_step {σ ρ : Type} {b : σ → Option (σ ⊕ ρ)} {n : Nat} {s s' : σ} (h : b s = some (.inl s')) : lp b (n + 1) s = lp b n s' := by
  rw [lp, h]
theorem lp_stop {σ ρ : Type} {b : σ → Option (σ ⊕ ρ)} {n : Nat} {s : σ} {r : ρ} (h : b s = some (.inr r)) : lp b (n + 1) s = some r := by
  rw [lp, h]
theorem x_goOn {h : Hl} (ok : hOK h) {vb : Int32} {vme vmo vdi vsi vor : Nat → Int32} (t : tX h vb vme vmo vdi vsi vor) {N : Nat} (hN : 200000 ≤ N) {r : Br} (rok : bOK r) {vab vbe vst vlo : Nat → Int32} (rr : rX r vab vbe vst vlo) {wt wn : Nat} (hwt : wt ≤ 6) (hwn : wn < 1000) {n : Nat} (hn : n ≤ 32) {s : Cr} (hs : cOK h s) {vba vus vch : Int32} {vw vws vc : Nat → Int32} (hc : cX h s vba vus vch vw vc) :
    ∃ u : Int32 × Int32 × Int32 × (Nat → Int32) × (Nat → Int32) × (Nat → Int32), f_X0_goOn N vba vus vch (wX wt) (nI wn) vw vws vc vb vme vmo vdi vsi vor vab vbe vst vlo (nI n) = some u ∧ cX h (goS h r wt wn n s) u.1 u.2.1 u.2.2.1 u.2.2.2.1 u.2.2.2.2.2 := by
  have K : ∀ (m : Nat), m ≤ n → ∀ (M : Nat), m < M → ∀ (s : Cr), cOK h s → ∀ (vba vus vch : Int32) (vw vws vc : Nat → Int32), cX h s vba vus vch vw vc → ∃ u : Int32 × Int32 × Int32 × (Nat → Int32) × (Nat → Int32) × (Nat → Int32), lp (fun s : Int32 × Int32 × Int32 × Int32 × (Nat → Int32) × (Nat → Int32) × (Nat → Int32) => f_X0_goOn_B2 N (wX wt) (nI wn) vb vme vmo vdi vsi vor vab vbe vst vlo (nI n) s.1 s.2.1 s.2.2.1 s.2.2.2.1 s.2.2.2.2.1 s.2.2.2.2.2.1 s.2.2.2.2.2.2) M (nI (n - m), vba, vus, vch, vw, vws, vc) = some u ∧ cX h (goS h r wt wn m s) u.1 u.2.1 u.2.2.1 u.2.2.2.1 u.2.2.2.2.2 := by
    intro m
    induction m with
    | zero =>
      intro hm M hM s hs vba vus vch vw vws vc hc
      obtain ⟨M, rfl⟩ : ∃ k, M = k + 1 := ⟨M - 1, by omega⟩
      refine ⟨(vba, vus, vch, vw, vws, vc), lp_stop ?_, hc⟩
      simp (disch := omega) only [f_X0_goOn_B2, d_let, d_lef, d_ltt, d_ltf, d_eqt, d_eqf, ↓reduceIte, or_false, false_or, or_true, true_or, and_true, true_and, and_false, false_and, not_true_eq_false, not_false_eq_true, Bool.false_eq_true, Option.bind_some, q_ofNat, q_cl, q_lt, q_le, q_eq, nI_add, pk_mul, q_m1, q_m4, m1_lt, m1_le, m1_nlt, m1_nle, m1_ne, m1_ne2, m4_lt, m4_le, m4_nlt, m4_nle, m4_ne, m4_ne2, q_0, q_1, q_2, q_3, q_4, q_5, q_6, q_8, q_12, q_15, q_16, q_20, q_24, q_30, q_31, q_32, q_80, q_9, q_99, q_126, q_48, q_57, q_58, q_59, q_97, q_101, q_10, q_21, q_255, q_46656]
    | succ m ih =>
      intro hm M hM s hs vba vus vch vw vws vc hc
      obtain ⟨M, rfl⟩ : ∃ k, M = k + 1 := ⟨M - 1, by omega⟩
      obtain ⟨a1, a2, a3, a4, a5⟩ := hc
      obtain ⟨b1, b2, b3, b4⟩ := hs
      unfold goS
      by_cases hov : s.2.2.1 ≠ 0 ∨ 32 ≤ s.1
      · rw [if_pos hov]
        refine ⟨(vba, vus, vch, vw, vws, vc), lp_stop ?_, ⟨a1, a2, a3, a4, a5⟩⟩
        by_cases h0 : s.2.2.1 = 0
        · simp (disch := omega) only [f_X0_goOn_B2, f_X0_isOver, d_let, d_lef, d_ltt, d_ltf, d_eqt, d_eqf, ↓reduceIte, or_false, false_or, or_true, true_or, and_true, true_and, and_false, false_and, not_true_eq_false, not_false_eq_true, Bool.false_eq_true, Option.bind_some, q_ofNat, q_cl, q_lt, q_le, q_eq, nI_add, pk_mul, q_m1, q_m4, m1_lt, m1_le, m1_nlt, m1_nle, m1_ne, m1_ne2, m4_lt, m4_le, m4_nlt, m4_nle, m4_ne, m4_ne2, q_0, q_1, q_2, q_3, q_4, q_5, q_6, q_8, q_12, q_15, q_16, q_20, q_24, q_30, q_31, q_32, q_80, q_9, q_99, q_126, q_48, q_57, q_58, q_59, q_97, q_101, q_10, q_21, q_255, q_46656, a1, a3, q_wXm]
        · simp (disch := omega) only [f_X0_goOn_B2, f_X0_isOver, d_let, d_lef, d_ltt, d_ltf, d_eqt, d_eqf, ↓reduceIte, or_false, false_or, or_true, true_or, and_true, true_and, and_false, false_and, not_true_eq_false, not_false_eq_true, Bool.false_eq_true, Option.bind_some, q_ofNat, q_cl, q_lt, q_le, q_eq, nI_add, pk_mul, q_m1, q_m4, m1_lt, m1_le, m1_nlt, m1_nle, m1_ne, m1_ne2, m4_lt, m4_le, m4_nlt, m4_nle, m4_ne, m4_ne2, q_0, q_1, q_2, q_3, q_4, q_5, q_6, q_8, q_12, q_15, q_16, q_20, q_24, q_30, q_31, q_32, q_80, q_9, q_99, q_126, q_48, q_57, q_58, q_59, q_97, q_101, q_10, q_21, q_255, q_46656, a1, a3, q_wXm]
      · rw [if_neg hov]
        have hl : s.1 < 32 := by omega
        have h0 : s.2.2.1 = 0 := by omega
        have D := x_draw ok t hN rok rr (tt := s.1) (by omega) hwt hwn (u := s.2.1) (by omega)
        obtain ⟨w, W1, W2, W3⟩ := x_write ok t hN rok rr.2.1 (tt := s.1) (by omega) hwt hwn (lk := lkS h r (mdS wt wn s.1) s.2.1) (vws := vws) a4 b4 a5
        have V := x_winner ok t hN rok rr.1 W3 (cn_le ok _) hl
        obtain ⟨u, U1, U2⟩ := ih (by omega) M (by omega) (oneS h r wt wn s) (oneS_ok ok ⟨b1, b2, b3, b4⟩ hl) _ _ _ w.1 w.2.1 w.2.2 ⟨rfl, rfl, rfl, W2, W3⟩
        refine ⟨u, ?_, U2⟩
        rw [← U1]
        refine lp_step ?_
        have hnm : n - (m + 1) + 1 = n - m := by omega
        simp (disch := omega) only [f_X0_goOn_B2, f_X0_isOver, d_let, d_lef, d_ltt, d_ltf, d_eqt, d_eqf, ↓reduceIte, or_false, false_or, or_true, true_or, and_true, true_and, and_false, false_and, not_true_eq_false, not_false_eq_true, Bool.false_eq_true, Option.bind_some, q_ofNat, q_cl, q_lt, q_le, q_eq, nI_add, pk_mul, q_m1, q_m4, m1_lt, m1_le, m1_nlt, m1_nle, m1_ne, m1_ne2, m4_lt, m4_le, m4_nlt, m4_nle, m4_ne, m4_ne2, q_0, q_1, q_2, q_3, q_4, q_5, q_6, q_8, q_12, q_15, q_16, q_20, q_24, q_30, q_31, q_32, q_80, q_9, q_99, q_126, q_48, q_57, q_58, q_59, q_97, q_101, q_10, q_21, q_255, q_46656, a1, a2, a3, q_wXm, D, W1, V, hnm, oneS]
  obtain ⟨u, U1, U2⟩ := K n (Nat.le_refl _) N (by omega) s hs vba vus vch vw vws vc hc
  refine ⟨u, ?_, U2⟩
  unfold f_X0_goOn
  rw [Nat.sub_self] at U1
  exact b_run U1 rfl
def c0 : Cr := (0, 0, 0, fun _ => 0)
theorem c0_ok (h : Hl) : cOK h c0 := ⟨by decide, by decide, by decide, fun b _ q => absurd rfl q, fun b _ => rfl⟩
theorem cn_0 (h : Hl) (k : Nat) : cn h (fun _ => 0) k = 0 := by
  have := sm_le (f := fun b => if 0 = k + 1 then hMem h b else 0) (m := 0) (hB h) (fun b _ => by rw [if_neg (by omega)]; exact Nat.le_refl _)
  show sm (fun b => if 0 = k + 1 then hMem h b else 0) (hB h) = 0
  omega
theorem x_restart {N : Nat} (hN : 200000 ≤ N) (h : Hl) (vw vc : Nat → Int32) : ∃ vw' vc', f_X0_restart N vw vc = some (nI 0, nI 0, wX 0, wX 0, nI 0, vw', vc') ∧ cX h c0 (nI 0) (nI 0) (wX 0) vw' vc' := by
  refine ⟨fl vw (-1) 6, fl vc 0 5, ?_, rfl, rfl, rfl, fun b hb => fl_in hb, fun k hk => ?_⟩
  · unfold f_X0_restart
    rw [x_fill hN (by omega), Option.bind_some, x_fill hN (by omega), Option.bind_some]; rfl
  · rw [fl_in hk]; show nI 0 = nI (cn h (fun _ => 0) k); rw [cn_0]
theorem x_goAll {h : Hl} (ok : hOK h) {vb : Int32} {vme vmo vdi vsi vor : Nat → Int32} (t : tX h vb vme vmo vdi vsi vor) {N : Nat} (hN : 200000 ≤ N) {r : Br} (rok : bOK r) {vab vbe vst vlo : Nat → Int32} (rr : rX r vab vbe vst vlo) (vw vws vc : Nat → Int32) :
    ∃ u : Int32 × Int32 × Int32 × Int32 × Int32 × (Nat → Int32) × (Nat → Int32) × (Nat → Int32), f_X0_goAll N vw vws vc vb vme vmo vdi vsi vor vab vbe vst vlo = some u ∧ cX h (goS h r 0 0 32 c0) u.1 u.2.1 u.2.2.1 u.2.2.2.2.2.1 u.2.2.2.2.2.2.2 := by
  obtain ⟨vw', vc', R1, R2⟩ := x_restart hN h vw vc
  obtain ⟨u, U1, U2⟩ := x_goOn ok t hN rok rr (wt := 0) (wn := 0) (by decide) (by decide) (n := 32) (by decide) (c0_ok h) (vws := vws) R2
  refine ⟨(u.1, u.2.1, u.2.2.1, wX 0, nI 0, u.2.2.2.1, u.2.2.2.2.1, u.2.2.2.2.2), ?_, U2⟩
  unfold f_X0_goAll
  rw [R1, Option.bind_some]
  exact b_run U1 rfl
