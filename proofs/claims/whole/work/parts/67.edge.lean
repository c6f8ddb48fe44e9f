-- all is taken over
theorem cpy0 {f g : Nat → Int32} {n : Int32} {j : Nat} (h : j < n.toNatClampNeg) : va_cpy f g (0 : Int32).toNatClampNeg (0 : Int32).toNatClampNeg n.toNatClampNeg j = f j := by
  rw [pk_cpy_in (by show 0 ≤ j; omega) (by show j < 0 + n.toNatClampNeg; omega)]
  show f (0 + (j - 0)) = f j
  congr 1; omega
theorem x_takeAll {h : Hl} (ok : hOK h) {vb : Int32} {vme vmo vdi vsi vor : Nat → Int32} (t : tX h vb vme vmo vdi vsi vor) {r : Br} {vab vbe vst vlo : Nat → Int32} (rr : rX r vab vbe vst vlo) (a1 a2 a3 a4 a5 a6 a7 a8 a9 : Nat → Int32) :
    ∃ u : Int32 × (Nat → Int32) × (Nat → Int32) × (Nat → Int32) × (Nat → Int32) × (Nat → Int32) × (Nat → Int32) × (Nat → Int32) × (Nat → Int32) × (Nat → Int32), f_X5_takeAll a1 a2 a3 a4 a5 a6 a7 a8 a9 vb vme vmo vdi vsi vor vab vbe vst vlo = some u ∧ tX h u.1 u.2.1 u.2.2.1 u.2.2.2.1 u.2.2.2.2.1 u.2.2.2.2.2.1 ∧ rX r u.2.2.2.2.2.2.1 u.2.2.2.2.2.2.2.1 u.2.2.2.2.2.2.2.2.1 u.2.2.2.2.2.2.2.2.2 := by
  have h6 := ok.1
  have z6 : (6 : Int32).toNatClampNeg = 6 := rfl
  have z30 : (30 : Int32).toNatClampNeg = 30 := rfl
  have z8 : (8 : Int32).toNatClampNeg = 8 := rfl
  have z5 : (5 : Int32).toNatClampNeg = 5 := rfl
  have z16 : (16 : Int32).toNatClampNeg = 16 := rfl
  refine ⟨_, rfl, ⟨t.1, fun b hb => ?_⟩, fun d hd => ?_, fun k hk => ?_, fun i hi => ?_⟩
  · obtain ⟨e1, e2, e3, e4, e5⟩ := t.2 b hb
    have o5 := (ok.2.1 b hb).2.2.2.2.1
    refine ⟨(cpy0 (by omega)).trans e1, (cpy0 (by omega)).trans e2, fun q => (cpy0 (by omega)).trans (e3 q), (cpy0 (by omega)).trans e4, fun i hi => (cpy0 (by omega)).trans (e5 i hi)⟩
  · exact ⟨(cpy0 (by omega)).trans (rr.1 d hd).1, (cpy0 (by omega)).trans (rr.1 d hd).2⟩
  · exact (cpy0 (by omega)).trans (rr.2.1 k hk)
  · exact (cpy0 (by omega)).trans (rr.2.2 i hi)
-- two names changed round
def sw (i j : Nat) : Nat := if j = i then i + 1 else if j = i + 1 then i else j
def hSw (h : Hl) (b i : Nat) : Hl := (hB h, hMem h, hMov h, hDig h, hSiz h, fun x j => if x = b then hOrd h b (sw i j) else hOrd h x j)
def swp (v : Nat → Int32) (p : Nat) : Nat → Int32 := upd (upd v p (v (p + 1))) (p + 1) (v p)
theorem swp_swp (v : Nat → Int32) (p : Nat) : swp (swp v p) p = v := by
  funext j
  have a1 : swp v p (p + 1) = v p := by unfold swp; rw [pk_us]
  have a2 : swp v p p = v (p + 1) := by unfold swp; rw [pk_un (by omega), pk_us]
  show upd (upd (swp v p) p (swp v p (p + 1))) (p + 1) (swp v p p) j = v j
  rw [a1, a2]
  by_cases c1 : j = p + 1
  · subst c1; rw [pk_us]
  · rw [pk_un c1]
    by_cases c2 : j = p
    · subst c2; rw [pk_us]
    · rw [pk_un c2]; unfold swp; rw [pk_un c1, pk_un c2]
theorem hSw_ok {h : Hl} (ok : hOK h) {b i : Nat} (hi : i + 1 < hSiz h b) : hOK (hSw h b i) := by
  refine ⟨ok.1, fun x hx => ?_, ok.2.2⟩
  obtain ⟨o1, o2, o3, o4, o5, o6, o7, o8, o9⟩ := ok.2.1 x hx
  refine ⟨o1, o2, o3, o4, o5, fun j hj => ?_, fun j k hjk hk => ?_, o8, o9⟩
  · show (if x = b then hOrd h b (sw i j) else hOrd h x j) < 5
    by_cases c : x = b
    · subst c; rw [if_pos rfl]
      have hj : j < hSiz h x := hj
      exact o6 _ (by unfold sw; split; omega; split <;> omega)
    · rw [if_neg c]; exact o6 j hj
  · show (if x = b then hOrd h b (sw i j) else hOrd h x j) ≠ (if x = b then hOrd h b (sw i k) else hOrd h x k)
    have hk : k < hSiz h x := hk
    by_cases c : x = b
    · subst c; rw [if_pos rfl, if_pos rfl]
      have inj : ∀ p q, p < hSiz h x → q < hSiz h x → p ≠ q → hOrd h x p ≠ hOrd h x q := fun p q hp hq hpq => by
        rcases Nat.lt_or_ge p q with l | l
        · exact o7 p q l hq
        · exact fun e => o7 q p (by omega) hp e.symm
      refine inj _ _ ?_ ?_ ?_
      · unfold sw; split; omega; split <;> omega
      · unfold sw; split; omega; split <;> omega
      · unfold sw; split <;> split <;> (try split) <;> (try split) <;> omega
    · rw [if_neg c, if_neg c]; exact o7 j k hjk hk
theorem tX_sw {h : Hl} (ok : hOK h) {vb : Int32} {vme vmo vdi vsi vor : Nat → Int32} (t : tX h vb vme vmo vdi vsi vor) {b i : Nat} (hb : b < hB h) (hi : i + 1 < hSiz h b) : tX (hSw h b i) vb vme vmo vdi vsi (swp vor (5 * b + i)) := by
  refine ⟨t.1, fun x hx => ?_⟩
  obtain ⟨e1, e2, e3, e4, e5⟩ := t.2 x hx
  refine ⟨e1, e2, e3, e4, fun j hj => ?_⟩
  have hj : j < hSiz h x := hj
  have o5 := (ok.2.1 x hx).2.2.2.2.1
  have o5b := (ok.2.1 b hb).2.2.2.2.1
  have eb := (t.2 b hb).2.2.2.2
  show swp vor (5 * b + i) (5 * x + j) = nI (if x = b then hOrd h b (sw i j) else hOrd h x j)
  unfold swp
  by_cases c1 : 5 * x + j = 5 * b + i + 1
  · have hxb : x = b := by omega
    subst hxb
    have hji : j = i + 1 := by omega
    subst hji
    rw [show 5 * x + (i + 1) = 5 * x + i + 1 by omega, pk_us, if_pos rfl, show sw i (i + 1) = i by unfold sw; rw [if_neg (by omega), if_pos rfl]]
    exact eb i (by omega)
  · rw [pk_un c1]
    by_cases c2 : 5 * x + j = 5 * b + i
    · have hxb : x = b := by omega
      subst hxb
      have hji : j = i := by omega
      subst hji
      rw [pk_us, if_pos rfl, show sw j j = j + 1 by unfold sw; rw [if_pos rfl]]
      exact eb (j + 1) hi
    · rw [pk_un c2]
      by_cases hxb : x = b
      · subst hxb
        rw [if_pos rfl, show sw i j = j by unfold sw; rw [if_neg (by omega), if_neg (by omega)]]
        exact e5 j hj
      · rw [if_neg hxb]; exact e5 j hj
theorem x_change {v : Nat → Int32} {b i : Nat} (hb : b < 6) (hi : i + 1 < 5) : f_X5_changeRound v (nI b) (nI i) = some (swp v (5 * b + i)) := by
  unfold f_X5_changeRound
  simp (disch := omega) only [d_let, d_lef, d_ltt, d_ltf, d_eqt, d_eqf, ↓reduceIte, or_false, false_or, or_true, true_or, and_true, true_and, and_false, false_and, not_true_eq_false, not_false_eq_true, Bool.false_eq_true, Option.bind_some, q_ofNat, q_cl, q_lt, q_le, q_eq, nI_add, pk_mul, q_m1, q_m4, m1_lt, m1_le, m1_nlt, m1_nle, m1_ne, m1_ne2, m4_lt, m4_le, m4_nlt, m4_nle, m4_ne, m4_ne2, q_0, q_1, q_2, q_3, q_4, q_5, q_6, q_8, q_12, q_15, q_16, q_20, q_24, q_30, q_31, q_32, q_80, q_9, q_99, q_126, q_48, q_57, q_58, q_59, q_97, q_101, q_10, q_21, q_255, q_46656, Nat.mul_comm b 5]; rfl
theorem m_swap {v : Nat → Int32} {p : Nat} (hp : p + 1 < 30) : f_X7_swap v (nI p) = some (swp v p) := by
  unfold f_X7_swap
  simp (disch := omega) only [d_let, d_lef, d_ltt, d_ltf, d_eqt, d_eqf, ↓reduceIte, or_false, false_or, or_true, true_or, and_true, true_and, and_false, false_and, not_true_eq_false, not_false_eq_true, Bool.false_eq_true, Option.bind_some, q_ofNat, q_cl, q_lt, q_le, q_eq, nI_add, pk_mul, q_m1, q_m4, m1_lt, m1_le, m1_nlt, m1_nle, m1_ne, m1_ne2, m4_lt, m4_le, m4_nlt, m4_nle, m4_ne, m4_ne2, q_0, q_1, q_2, q_3, q_4, q_5, q_6, q_8, q_12, q_15, q_16, q_20, q_24, q_30, q_31, q_32, q_80, q_9, q_99, q_126, q_48, q_57, q_58, q_59, q_97, q_101, q_10, q_21, q_255, q_46656]; rfl
-- the edge
def edP (h : Hl) (r : Br) (b i : Nat) : Bool := decide ((goS (hSw h b i) r 0 0 32 c0).2.2.1 ≠ (goS h r 0 0 32 c0).2.2.1)
def edS (h : Hl) (r : Br) (b : Nat) : Int32 := if ff (edP h r b) 0 (hSiz h b - 1) < hSiz h b - 1 then nI (ff (edP h r b) 0 (hSiz h b - 1)) else m4
theorem ed_stop {h : Hl} {r : Br} {b i : Nat} (hi : i < hSiz h b - 1) (h1 : ∀ j, j < i → edP h r b j = false) (h2 : edP h r b i = true) : edS h r b = nI i := by
  have := ff_is (edP h r b) (n := hSiz h b - 1) (i := 0) (k := i) (by omega) (by omega) h2 (fun j _ => h1 j)
  unfold edS; rw [this, if_pos hi]
theorem ed_end {h : Hl} {r : Br} {b : Nat} (h1 : ∀ j, j < hSiz h b - 1 → edP h r b j = false) : edS h r b = m4 := by
  have := ff_end (edP h r b) (n := hSiz h b - 1) (i := 0) (fun j _ hj => h1 j (by omega))
  unfold edS; rw [this, if_neg (by omega)]
theorem wX_inj {a b : Nat} (ha : a ≤ 5) (hb : b ≤ 5) : (wX a = wX b) = (a = b) := by
  by_cases h0 : a = 0
  · subst h0; rw [wX_0]
    by_cases h1 : b = 0
    · subst h1; exact (eq_true rfl).trans (eq_true rfl).symm
    · unfold wX; rw [if_neg h1, m1_ne2 (by omega)]; exact (eq_false (by omega)).symm
  · obtain ⟨k, rfl⟩ : ∃ k, a = k + 1 := ⟨a - 1, by omega⟩
    rw [wX_s, q_wX (by omega) (by omega)]; exact propext ⟨fun q => q.symm, fun q => q.symm⟩
theorem wM_inj {a b : Nat} (ha : a ≤ 5) (hb : b ≤ 5) : (wM a = wM b) = (a = b) := by
  by_cases h0 : a = 0
  · subst h0; rw [wM_0]
    by_cases h1 : b = 0
    · subst h1; exact (eq_true rfl).trans (eq_true rfl).symm
    · unfold wM; rw [if_neg h1, m4_ne2 (by omega)]; exact (eq_false (by omega)).symm
  · obtain ⟨k, rfl⟩ : ∃ k, a = k + 1 := ⟨a - 1, by omega⟩
    rw [wM_s, q_wM (by omega) (by omega)]; exact propext ⟨fun q => q.symm, fun q => q.symm⟩
abbrev EdT : Type := Int32 × Int32 × (Nat → Int32) × (Nat → Int32) × (Nat → Int32) × (Nat → Int32) × (Nat → Int32) × (Nat → Int32) × (Nat → Int32) × (Nat → Int32) × (Nat → Int32) × Int32 × Int32 × Int32 × Int32 × Int32 × (Nat → Int32) × (Nat → Int32) × (Nat → Int32)
theorem x_edge {h : Hl} (ok : hOK h) {vb : Int32} {vme vmo vdi vsi vor : Nat → Int32} (t : tX h vb vme vmo vdi vsi vor) {N : Nat} (hN : 200000 ≤ N) {r : Br} (rok : bOK r) {vab vbe vst vlo : Nat → Int32} (rr : rX r vab vbe vst vlo) {vs0 : Nat → Int32} {b : Nat} (hb : b < hB h) (hvs : vs0 b = nI (hSiz h b)) {s : Int32 × (Nat → Int32) × Int32 × Int32 × Int32 × Int32 × Int32 × (Nat → Int32) × (Nat → Int32) × (Nat → Int32)} (h1 : s.1 = nI 0) (h2 : s.2.1 = vor) :
    ∃ e : EdT, lp (fun s : Int32 × (Nat → Int32) × Int32 × Int32 × Int32 × Int32 × Int32 × (Nat → Int32) × (Nat → Int32) × (Nat → Int32) => f_X6_edge_B42 N vs0 vb vme vmo vdi vsi vab vbe vst vlo (nI b) (wX (goS h r 0 0 32 c0).2.2.1) s.1 s.2.1 s.2.2.1 s.2.2.2.1 s.2.2.2.2.1 s.2.2.2.2.2.1 s.2.2.2.2.2.2.1 s.2.2.2.2.2.2.2.1 s.2.2.2.2.2.2.2.2.1 s.2.2.2.2.2.2.2.2.2) N s = some e ∧ e.1 = edS h r b := by
  have h6 := ok.1
  have o5 := (ok.2.1 b hb).2.2.2.2.1
  have o4 := (ok.2.1 b hb).2.2.2.1
  have g0 := (goS_ok ok (r := r) (wt := 0) (wn := 0) 32 c0 (c0_ok h)).2.2.1
  refine lp_rel0 (fun k s => s.1 = nI k ∧ s.2.1 = vor ∧ ∀ j, j < k → edP h r b j = false) _ (hSiz h b - 1) (by omega) ⟨h1, h2, fun j hj => by omega⟩ ?_ ?_
  · rintro i hi s ⟨a1, a2, a3⟩
    have t' := tX_sw ok t hb (i := i) (by omega)
    have ok' := hSw_ok ok (b := b) (i := i) (by omega)
    obtain ⟨u, U1, U2⟩ := x_goAll ok' t' hN rok rr s.2.2.2.2.2.2.2.1 s.2.2.2.2.2.2.2.2.1 s.2.2.2.2.2.2.2.2.2
    have g1 := (goS_ok ok' (r := r) (wt := 0) (wn := 0) 32 c0 (c0_ok _)).2.2.1
    have U3 := U2.2.2.1
    have C1 := x_change (v := vor) (b := b) (i := i) (by omega) (by omega)
    have C2 := x_change (v := swp vor (5 * b + i)) (b := b) (i := i) (by omega) (by omega)
    rw [swp_swp] at C2
    by_cases c : (goS (hSw h b i) r 0 0 32 c0).2.2.1 = (goS h r 0 0 32 c0).2.2.1
    · left
      refine ⟨(nI (i + 1), vor, u.1, u.2.1, u.2.2.1, u.2.2.2.1, u.2.2.2.2.1, u.2.2.2.2.2.1, u.2.2.2.2.2.2.1, u.2.2.2.2.2.2.2), ?_, rfl, rfl, fun j hj => ?_⟩
      · simp (disch := omega) only [f_X6_edge_B42, d_let, d_lef, d_ltt, d_ltf, d_eqt, d_eqf, ↓reduceIte, or_false, false_or, or_true, true_or, and_true, true_and, and_false, false_and, not_true_eq_false, not_false_eq_true, Bool.false_eq_true, Option.bind_some, q_ofNat, q_cl, q_lt, q_le, q_eq, nI_add, pk_mul, q_m1, q_m4, m1_lt, m1_le, m1_nlt, m1_nle, m1_ne, m1_ne2, m4_lt, m4_le, m4_nlt, m4_nle, m4_ne, m4_ne2, q_0, q_1, q_2, q_3, q_4, q_5, q_6, q_8, q_12, q_15, q_16, q_20, q_24, q_30, q_31, q_32, q_80, q_9, q_99, q_126, q_48, q_57, q_58, q_59, q_97, q_101, q_10, q_21, q_255, q_46656, a1, a2, hvs, C1, U1, U3, wX_inj, c, C2]
      · by_cases e : j = i
        · subst e; unfold edP; simp [c]
        · exact a3 j (by omega)
    · right
      refine ⟨(nI i, vb, vme, vmo, vdi, vsi, swp vor (5 * b + i), vab, vbe, vst, vlo, u.1, u.2.1, u.2.2.1, u.2.2.2.1, u.2.2.2.2.1, u.2.2.2.2.2.1, u.2.2.2.2.2.2.1, u.2.2.2.2.2.2.2), ?_, (ed_stop hi a3 (decide_eq_true c)).symm⟩
      simp (disch := omega) only [f_X6_edge_B42, d_let, d_lef, d_ltt, d_ltf, d_eqt, d_eqf, ↓reduceIte, or_false, false_or, or_true, true_or, and_true, true_and, and_false, false_and, not_true_eq_false, not_false_eq_true, Bool.false_eq_true, Option.bind_some, q_ofNat, q_cl, q_lt, q_le, q_eq, nI_add, pk_mul, q_m1, q_m4, m1_lt, m1_le, m1_nlt, m1_nle, m1_ne, m1_ne2, m4_lt, m4_le, m4_nlt, m4_nle, m4_ne, m4_ne2, q_0, q_1, q_2, q_3, q_4, q_5, q_6, q_8, q_12, q_15, q_16, q_20, q_24, q_30, q_31, q_32, q_80, q_9, q_99, q_126, q_48, q_57, q_58, q_59, q_97, q_101, q_10, q_21, q_255, q_46656, a1, a2, hvs, C1, U1, U3, wX_inj, c]
  · rintro s ⟨a1, a2, a3⟩
    refine ⟨(m4, vb, vme, vmo, vdi, vsi, s.2.1, vab, vbe, vst, vlo, s.2.2.1, s.2.2.2.1, s.2.2.2.2.1, s.2.2.2.2.2.1, s.2.2.2.2.2.2.1, s.2.2.2.2.2.2.2.1, s.2.2.2.2.2.2.2.2.1, s.2.2.2.2.2.2.2.2.2), ?_, (ed_end a3).symm⟩
    simp (disch := omega) only [f_X6_edge_B42, d_let, d_lef, d_ltt, d_ltf, d_eqt, d_eqf, ↓reduceIte, or_false, false_or, or_true, true_or, and_true, true_and, and_false, false_and, not_true_eq_false, not_false_eq_true, Bool.false_eq_true, Option.bind_some, q_ofNat, q_cl, q_lt, q_le, q_eq, nI_add, pk_mul, q_m1, q_m4, m1_lt, m1_le, m1_nlt, m1_nle, m1_ne, m1_ne2, m4_lt, m4_le, m4_nlt, m4_nle, m4_ne, m4_ne2, q_0, q_1, q_2, q_3, q_4, q_5, q_6, q_8, q_12, q_15, q_16, q_20, q_24, q_30, q_31, q_32, q_80, q_9, q_99, q_126, q_48, q_57, q_58, q_59, q_97, q_101, q_10, q_21, q_255, q_46656, a1, hvs]
theorem m_edge {h : Hl} (ok : hOK h) {vb : Int32} {vme vmo vdi vsi vor : Nat → Int32} (t : tX h vb vme vmo vdi vsi vor) {N : Nat} (hN : 200000 ≤ N) {r : Br} (rok : bOK r) {vab vbe vst vlo : Nat → Int32} (rr : rX r vab vbe vst vlo) {mw mn mt tb : Int32} (W3 : mw = wM 0) (W4 : ∃ k, k < 1000 ∧ mn = nI k) (W5 : mt = nI 0) {b : Nat} (hb : b < hB h) {s : Int32 × (Nat → Int32) × (Nat → Int32) × (Nat → Int32) × (Nat → Int32) × Int32 × Int32 × Int32 × Int32} (h1 : s.1 = nI 0) (h2 : s.2.1 = vor) :
    ∃ e : Int32 × (Nat → Int32) × (Nat → Int32) × (Nat → Int32) × (Nat → Int32) × Int32 × Int32 × Int32 × Int32, lp (fun s : Int32 × (Nat → Int32) × (Nat → Int32) × (Nat → Int32) × (Nat → Int32) × Int32 × Int32 × Int32 × Int32 => f_X7_edge_B21 N vb mw mn mt tb vme vmo vdi vsi vab vbe vst vlo (nI b) (wM (goS h r 0 0 32 c0).2.2.1) s.1 s.2.1 s.2.2.1 s.2.2.2.1 s.2.2.2.2.1 s.2.2.2.2.2.1 s.2.2.2.2.2.2.1 s.2.2.2.2.2.2.2.1 s.2.2.2.2.2.2.2.2) N s = some e ∧ e.1 = edS h r b ∧ e.2.1 = vor := by
  have h6 := ok.1
  have o5 := (ok.2.1 b hb).2.2.2.2.1
  have o4 := (ok.2.1 b hb).2.2.2.1
  have hvs := (t.2 b hb).2.2.2.1
  have g0 := (goS_ok ok (r := r) (wt := 0) (wn := 0) 32 c0 (c0_ok h)).2.2.1
  refine lp_rel0 (fun k s => s.1 = nI k ∧ s.2.1 = vor ∧ ∀ j, j < k → edP h r b j = false) _ (hSiz h b - 1) (by omega) ⟨h1, h2, fun j hj => by omega⟩ ?_ ?_
  · rintro i hi s ⟨a1, a2, a3⟩
    have t' := tX_sw ok t hb (i := i) (by omega)
    have ok' := hSw_ok ok (b := b) (i := i) (by omega)
    obtain ⟨u, U1, U2, U3⟩ := m_find0 ok' t' hN rok rr (tb := tb) (ta := s.2.2.2.2.2.2.1) W3 W4 W5 s.2.2.1 s.2.2.2.1 s.2.2.2.2.1
    have g1 := (goS_ok ok' (r := r) (wt := 0) (wn := 0) 32 c0 (c0_ok _)).2.2.1
    have C1 := m_swap (v := vor) (p := 5 * b + i) (by omega)
    have C2 := m_swap (v := swp vor (5 * b + i)) (p := 5 * b + i) (by omega)
    rw [swp_swp] at C2
    by_cases c : (goS (hSw h b i) r 0 0 32 c0).2.2.1 = (goS h r 0 0 32 c0).2.2.1
    · left
      refine ⟨(nI (i + 1), vor, u.1, u.2.1, u.2.2.1, u.2.2.2.1, u.2.2.2.2.1, u.2.2.2.2.2.1, u.2.2.2.2.2.2), ?_, rfl, rfl, fun j hj => ?_⟩
      · simp (disch := omega) only [f_X7_edge_B21, d_let, d_lef, d_ltt, d_ltf, d_eqt, d_eqf, ↓reduceIte, or_false, false_or, or_true, true_or, and_true, true_and, and_false, false_and, not_true_eq_false, not_false_eq_true, Bool.false_eq_true, Option.bind_some, q_ofNat, q_cl, q_lt, q_le, q_eq, nI_add, pk_mul, q_m1, q_m4, m1_lt, m1_le, m1_nlt, m1_nle, m1_ne, m1_ne2, m4_lt, m4_le, m4_nlt, m4_nle, m4_ne, m4_ne2, q_0, q_1, q_2, q_3, q_4, q_5, q_6, q_8, q_12, q_15, q_16, q_20, q_24, q_30, q_31, q_32, q_80, q_9, q_99, q_126, q_48, q_57, q_58, q_59, q_97, q_101, q_10, q_21, q_255, q_46656, a1, a2, hvs, C1, U1, U2, wM_inj, c, C2]
      · by_cases e : j = i
        · subst e; unfold edP; simp [c]
        · exact a3 j (by omega)
    · right
      refine ⟨(nI i, vor, u.1, u.2.1, u.2.2.1, u.2.2.2.1, u.2.2.2.2.1, u.2.2.2.2.2.1, u.2.2.2.2.2.2), ?_, (ed_stop hi a3 (decide_eq_true c)).symm, rfl⟩
      simp (disch := omega) only [f_X7_edge_B21, d_let, d_lef, d_ltt, d_ltf, d_eqt, d_eqf, ↓reduceIte, or_false, false_or, or_true, true_or, and_true, true_and, and_false, false_and, not_true_eq_false, not_false_eq_true, Bool.false_eq_true, Option.bind_some, q_ofNat, q_cl, q_lt, q_le, q_eq, nI_add, pk_mul, q_m1, q_m4, m1_lt, m1_le, m1_nlt, m1_nle, m1_ne, m1_ne2, m4_lt, m4_le, m4_nlt, m4_nle, m4_ne, m4_ne2, q_0, q_1, q_2, q_3, q_4, q_5, q_6, q_8, q_12, q_15, q_16, q_20, q_24, q_30, q_31, q_32, q_80, q_9, q_99, q_126, q_48, q_57, q_58, q_59, q_97, q_101, q_10, q_21, q_255, q_46656, a1, a2, hvs, C1, U1, U2, wM_inj, c, C2]
  · rintro s ⟨a1, a2, a3⟩
    refine ⟨(m4, s.2.1, s.2.2.1, s.2.2.2.1, s.2.2.2.2.1, s.2.2.2.2.2.1, s.2.2.2.2.2.2.1, s.2.2.2.2.2.2.2.1, s.2.2.2.2.2.2.2.2), ?_, (ed_end a3).symm, a2⟩
    simp (disch := omega) only [f_X7_edge_B21, d_let, d_lef, d_ltt, d_ltf, d_eqt, d_eqf, ↓reduceIte, or_false, false_or, or_true, true_or, and_true, true_and, and_false, false_and, not_true_eq_false, not_false_eq_true, Bool.false_eq_true, Option.bind_some, q_ofNat, q_cl, q_lt, q_le, q_eq, nI_add, pk_mul, q_m1, q_m4, m1_lt, m1_le, m1_nlt, m1_nle, m1_ne, m1_ne2, m4_lt, m4_le, m4_nlt, m4_nle, m4_ne, m4_ne2, q_0, q_1, q_2, q_3, q_4, q_5, q_6, q_8, q_12, q_15, q_16, q_20, q_24, q_30, q_31, q_32, q_80, q_9, q_99, q_126, q_48, q_57, q_58, q_59, q_97, q_101, q_10, q_21, q_255, q_46656, a1, hvs]
theorem ok_edge {N : Nat} (hN : 200000 ≤ N) : st_edge N Rel := by
  unfold st_edge
  intro vx_kept vx_tape_length vx_tape_at vx_tape_lotBlocks vx_tape_bytes vx_tape_digitPlaces vx_told_blocks vx_told_members vx_told_moves vx_told_digits vx_told_sizes vx_told_orders vx_told_above vx_told_below vx_told_struck vx_told_lots vx_course_ballots vx_course_used vx_course_chosen vx_course_waiter vx_course_wait vx_course_wrote vx_course_writes vx_course_counts vx_keptTold_blocks vx_keptTold_members vx_keptTold_moves vx_keptTold_digits vx_keptTold_sizes vx_keptTold_orders vx_keptTold_above vx_keptTold_below vx_keptTold_struck vx_keptTold_lots vx_keptCourse_ballots vx_keptCourse_used vx_keptCourse_chosen vx_keptCourse_waiter vx_keptCourse_wait vx_keptCourse_wrote vx_keptCourse_writes vx_keptCourse_counts vx_trialTold_blocks vx_trialTold_members vx_trialTold_moves vx_trialTold_digits vx_trialTold_sizes vx_trialTold_orders vx_trialTold_above vx_trialTold_below vx_trialTold_struck vx_trialTold_lots vx_trial_ballots vx_trial_used vx_trial_chosen vx_trial_waiter vx_trial_wait vx_trial_wrote vx_trial_writes vx_trial_counts vx_odds_above vx_odds_below vx_odds_now_size nx_odds_now_states vx_odds_now_states nx_odds_now_weights vx_odds_now_weights nx_odds_now_slots vx_odds_now_slots vx_odds_then_size nx_odds_then_states vx_odds_then_states nx_odds_then_weights vx_odds_then_weights nx_odds_then_slots vx_odds_then_slots vx_odds_trial_ballots vx_odds_trial_used vx_odds_trial_chosen vx_odds_trial_waiter vx_odds_trial_wait vx_odds_trial_wrote vx_odds_trial_writes vx_odds_trial_counts vx_sheets_lanes vx_sheets_sizes vx_sheets_items vm_blocks vm_done vm_used vm_taken vm_taped vm_at vm_readBlocks vm_copyUsed vm_waiter vm_waiting vm_isTold vm_toldBits vm_toldAt vm_endName vm_endBallot vm_isKept vm_imageAt vm_members vm_moves vm_digits vm_sizes vm_orders vm_above vm_below vm_struck vm_lotted vm_wrote vm_tape vm_readMembers vm_readMoves vm_readDigits vm_readSizes vm_readOrders vm_digitPlaces vm_copy vm_then vm_counts vm_ways vm_more vm_image vm_singles vm_lanes vm_rowSizes vm_items y0 hR
  obtain ⟨RB, RK, RT, RS, RO, RW⟩ := Rel_out hR
  obtain ⟨h, r, s, ok, rok, sok, tx, rx, cx, tm, td, rm, cm⟩ := RB
  have h6 := ok.1
  have e1 := tx.1; have e2 := tm.1
  have RB' : RelB vx_told_blocks vx_told_members vx_told_moves vx_told_digits vx_told_sizes vx_told_orders vx_told_above vx_told_below vx_told_struck vx_told_lots vx_course_ballots vx_course_used vx_course_chosen vx_course_wrote vx_course_counts vm_blocks vm_done vm_used vm_taken vm_members vm_moves vm_digits vm_sizes vm_orders vm_above vm_below vm_struck vm_lotted vm_wrote := ⟨h, r, s, ok, rok, sok, tx, rx, cx, tm, td, rm, cm⟩
  obtain ⟨W1, W2, W3, W4, W5⟩ := RW
  by_cases q : y0.toInt < 0 ∨ (hB h : Int) ≤ y0.toInt
  · refine ⟨(m1, vx_trialTold_blocks, vx_trialTold_members, vx_trialTold_moves, vx_trialTold_digits, vx_trialTold_sizes, vx_trialTold_orders, vx_trialTold_above, vx_trialTold_below, vx_trialTold_struck, vx_trialTold_lots, vx_trial_ballots, vx_trial_used, vx_trial_chosen, vx_trial_waiter, vx_trial_wait, vx_trial_wrote, vx_trial_writes, vx_trial_counts), (m1, vm_orders, vm_copy, vm_then, vm_counts, vm_copyUsed, vm_toldAt, vm_endName, vm_endBallot), ?_, ?_, rfl, Rel_in RB' RK RT RS RO ⟨W1, W2, W3, W4, W5⟩⟩
    · unfold f_X6_edge f_X6_isBlock
      rw [e1]
      by_cases q1 : y0.toInt < 0
      · simp (disch := omega) only [d_let, d_lef, d_ltt, d_ltf, d_eqt, d_eqf, ↓reduceIte, or_false, false_or, or_true, true_or, and_true, true_and, and_false, false_and, not_true_eq_false, not_false_eq_true, Bool.false_eq_true, Option.bind_some, q_ofNat, q_cl, q_lt, q_le, q_eq, nI_add, pk_mul, q_m1, q_m4, m1_lt, m1_le, m1_nlt, m1_nle, m1_ne, m1_ne2, m4_lt, m4_le, m4_nlt, m4_nle, m4_ne, m4_ne2, q_0, q_1, q_2, q_3, q_4, q_5, q_6, q_8, q_12, q_15, q_16, q_20, q_24, q_30, q_31, q_32, q_80, q_9, q_99, q_126, q_48, q_57, q_58, q_59, q_97, q_101, q_10, q_21, q_255, q_46656, i_lt, i_ltr, i_le, i_ler, i_eq, di_let, di_lef, di_ltt, di_ltf, di_eqt, di_eqf, nI_toIntq, m1_toInt, m4_toInt, mi_0_7, mi_1_12, mi_0_4, mi_0_15, mi_0_3, mi_0_32, mi_1_32, mi_0_1, mi_1_8, mi_0_2, mi_1_16, mi_1_4]
      · simp (disch := omega) only [d_let, d_lef, d_ltt, d_ltf, d_eqt, d_eqf, ↓reduceIte, or_false, false_or, or_true, true_or, and_true, true_and, and_false, false_and, not_true_eq_false, not_false_eq_true, Bool.false_eq_true, Option.bind_some, q_ofNat, q_cl, q_lt, q_le, q_eq, nI_add, pk_mul, q_m1, q_m4, m1_lt, m1_le, m1_nlt, m1_nle, m1_ne, m1_ne2, m4_lt, m4_le, m4_nlt, m4_nle, m4_ne, m4_ne2, q_0, q_1, q_2, q_3, q_4, q_5, q_6, q_8, q_12, q_15, q_16, q_20, q_24, q_30, q_31, q_32, q_80, q_9, q_99, q_126, q_48, q_57, q_58, q_59, q_97, q_101, q_10, q_21, q_255, q_46656, i_lt, i_ltr, i_le, i_ler, i_eq, di_let, di_lef, di_ltt, di_ltf, di_eqt, di_eqf, nI_toIntq, m1_toInt, m4_toInt, mi_0_7, mi_1_12, mi_0_4, mi_0_15, mi_0_3, mi_0_32, mi_1_32, mi_0_1, mi_1_8, mi_0_2, mi_1_16, mi_1_4]
    · unfold f_X7_edge
      rw [e2, m_isBlock h6, if_neg (by omega)]; rfl
  · obtain ⟨b, rfl, _, hb⟩ := inR_nat (y := y0) (a := 0) (b := 5) ⟨by omega, by omega⟩
    have hb : b < hB h := by rw [nI_toInt (by omega)] at q; omega
    clear q
    obtain ⟨u, U1, U2, U3⟩ := x_takeAll ok tx rx vx_trialTold_members vx_trialTold_moves vx_trialTold_digits vx_trialTold_sizes vx_trialTold_orders vx_trialTold_above vx_trialTold_below vx_trialTold_struck vx_trialTold_lots
    obtain ⟨v, V1, V2⟩ := x_goAll ok U2 hN rok U3 vx_trial_wrote vx_trial_writes vx_trial_counts
    obtain ⟨e, E1, E2⟩ := x_edge ok U2 hN rok U3 hb (tx.2 b hb).2.2.2.1 (s := ((0 : Int32), u.2.2.2.2.2.1, v.1, v.2.1, v.2.2.1, v.2.2.2.1, v.2.2.2.2.1, v.2.2.2.2.2.1, v.2.2.2.2.2.2.1, v.2.2.2.2.2.2.2)) rfl rfl
    obtain ⟨w, X1, X2, X3⟩ := m_find0 ok tm hN rok rm (tb := vm_toldBits) (ta := vm_toldAt) W3 W4 W5 vm_copy vm_then vm_counts
    obtain ⟨z, Z1, Z2, Z3⟩ := m_edge ok tm hN rok rm (tb := vm_toldBits) W3 W4 W5 hb (s := ((0 : Int32), vm_orders, w.1, w.2.1, w.2.2.1, w.2.2.2.1, w.2.2.2.2.1, w.2.2.2.2.2.1, w.2.2.2.2.2.2)) rfl rfl
    refine ⟨e, z, ?_, ?_, by rw [E2, Z2], Rel_in ⟨h, r, s, ok, rok, sok, tx, rx, cx, by rw [Z3]; exact tm, td, rm, cm⟩ RK RT RS RO ⟨W1, W2, W3, W4, W5⟩⟩
    · unfold f_X6_edge f_X6_isBlock
      rw [if_neg (by rw [q_0, q_lt (by omega) (by omega)]; omega), if_neg (by rw [e1, q_le (by omega) (by omega)]; omega), Option.bind_some, if_neg (by decide)]
      refine b_run U1 (b_run V1 ?_)
      rw [← V2.2.2.1] at E1
      exact b_run E1 rfl
    · have Bk : f_X7_isBlock vm_blocks (nI b) = some (nI 1) := by rw [e2, m_isBlock h6, if_pos (by rw [nI_toInt (by omega)]; omega)]
      unfold f_X7_edge
      rw [Bk, Option.bind_some, if_neg (by decide)]
      refine b_run X1 ?_
      rw [← X2] at Z1
      exact b_run Z1 rfl
