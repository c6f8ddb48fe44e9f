-- one ballot after another, nothing else
def rgF (h : Hl) (al : Nat → Bool) (c : Nat → Nat) : Nat → Nat := stS h al (fun _ => 2) (fun _ => false) c
def rgC (h : Hl) (al : Nat → Bool) (c : Nat → Nat) (k : Nat) : Nat → Nat := it (fun _ c => rgF h al c) c k
theorem rgC_ok {h : Hl} {al : Nat → Bool} {c : Nat → Nat} (hc : wOK h c) : ∀ k, wOK h (rgC h al c k) := by
  intro k
  induction k with
  | zero => exact hc
  | succ k ih => exact stS_ok ih
def rgS (h : Hl) (al : Nat → Bool) (c : Nat → Nat) (k : Nat) : Nat := enc (rgC h al c k)
theorem rgS_lt {h : Hl} (ok : hOK h) {al : Nat → Bool} {c : Nat → Nat} (hc : wOK h c) (k : Nat) : rgS h al c k < 46656 := enc_lt (wOK_lt ok (rgC_ok hc k))
theorem rgS_s {h : Hl} (ok : hOK h) {al : Nat → Bool} {c : Nat → Nat} (hc : wOK h c) (k : Nat) : rgS h al c (k + 1) = enc (rgF h al (dec (rgS h al c k))) := by
  unfold rgS
  rw [dec_fun ok (rgC_ok hc k)]; rfl
theorem rgS_dec {h : Hl} (ok : hOK h) {al : Nat → Bool} {c : Nat → Nat} (hc : wOK h c) (k : Nat) : dec (rgS h al c k) = rgC h al c k := dec_fun ok (rgC_ok hc k)
-- strikes frozen
def bFr (r : Br) (nb : Nat) : Br := (bAb r, bBe r, (fun k => if nb < bSt r k then 32 else 0), bLo r)
theorem bFr_ok {r : Br} (rok : bOK r) (nb : Nat) : bOK (bFr r nb) := by
  refine ⟨rok.1, fun k hk => ?_, rok.2.2⟩
  show (if nb < bSt r k then 32 else 0) ≤ 32
  split <;> omega
theorem bFr_al (r : Br) (nb : Nat) : aliv (bFr r nb) 1 = aliv r nb := by
  funext k
  show decide (1 < bSt (bFr r nb) k) = decide (nb < bSt r k)
  refine decide_eq_decide.mpr ?_
  show 1 < (if nb < bSt r k then 32 else 0) ↔ nb < bSt r k
  split <;> omega
theorem x_freeze {r : Br} (rok : bOK r) {vst : Nat → Int32} (hst : ∀ k, k < 5 → vst k = nI (bSt r k)) {N : Nat} (hN : 200000 ≤ N) {nb : Nat} (hb : nb < 1000) : ∃ v, f_X5_freezeStrikes N vst (nI nb) = some v ∧ ∀ k, k < 5 → v k = nI (bSt (bFr r nb) k) := by
  have L : lp (fun s : Int32 × (Nat → Int32) => f_X5_freezeStrikes_B2 (nI nb) s.1 s.2) N ((0 : Int32), vst) = some (it (wrF (fun k => nI (bSt (bFr r nb) k))) vst 5) := by
    refine lp_for (fun k => (nI k, it (wrF (fun k => nI (bSt (bFr r nb) k))) vst k)) 5 (by omega) rfl ?_ ?_
    · intro k hk
      have e : it (wrF (fun k => nI (bSt (bFr r nb) k))) vst k k = nI (bSt r k) := by rw [wrF_at, if_neg (by omega)]; exact hst k hk
      have := rok.2.1 k hk
      show f_X5_freezeStrikes_B2 (nI nb) (nI k) (it (wrF (fun k => nI (bSt (bFr r nb) k))) vst k) = some (Sum.inl (nI (k + 1), upd (it (wrF (fun k => nI (bSt (bFr r nb) k))) vst k) k (nI (if nb < bSt r k then 32 else 0))))
      generalize it (wrF (fun k => nI (bSt (bFr r nb) k))) vst k = v at *
      by_cases c : nb < bSt r k
      · simp (disch := omega) only [f_X5_freezeStrikes_B2, f_X5_freezeStrikes_L28, d_let, d_lef, d_ltt, d_ltf, d_eqt, d_eqf, ↓reduceIte, or_false, false_or, or_true, true_or, and_true, true_and, and_false, false_and, not_true_eq_false, not_false_eq_true, Bool.false_eq_true, Option.bind_some, q_ofNat, q_cl, q_lt, q_le, q_eq, nI_add, pk_mul, q_m1, q_m4, m1_lt, m1_le, m1_nlt, m1_nle, m1_ne, m1_ne2, m4_lt, m4_le, m4_nlt, m4_nle, m4_ne, m4_ne2, q_0, q_1, q_2, q_3, q_4, q_5, q_6, q_8, q_12, q_15, q_16, q_20, q_24, q_30, q_31, q_32, q_80, q_9, q_99, q_126, q_48, q_57, q_58, q_59, q_97, q_101, q_10, q_21, q_255, q_46656, e]
      · simp (disch := omega) only [f_X5_freezeStrikes_B2, f_X5_freezeStrikes_L28, d_let, d_lef, d_ltt, d_ltf, d_eqt, d_eqf, ↓reduceIte, or_false, false_or, or_true, true_or, and_true, true_and, and_false, false_and, not_true_eq_false, not_false_eq_true, Bool.false_eq_true, Option.bind_some, q_ofNat, q_cl, q_lt, q_le, q_eq, nI_add, pk_mul, q_m1, q_m4, m1_lt, m1_le, m1_nlt, m1_nle, m1_ne, m1_ne2, m4_lt, m4_le, m4_nlt, m4_nle, m4_ne, m4_ne2, q_0, q_1, q_2, q_3, q_4, q_5, q_6, q_8, q_12, q_15, q_16, q_20, q_24, q_30, q_31, q_32, q_80, q_9, q_99, q_126, q_48, q_57, q_58, q_59, q_97, q_101, q_10, q_21, q_255, q_46656, e]
    · simp (disch := omega) only [f_X5_freezeStrikes_B2, d_let, d_lef, d_ltt, d_ltf, d_eqt, d_eqf, ↓reduceIte, or_false, false_or, or_true, true_or, and_true, true_and, and_false, false_and, not_true_eq_false, not_false_eq_true, Bool.false_eq_true, Option.bind_some, q_ofNat, q_cl, q_lt, q_le, q_eq, nI_add, pk_mul, q_m1, q_m4, m1_lt, m1_le, m1_nlt, m1_nle, m1_ne, m1_ne2, m4_lt, m4_le, m4_nlt, m4_nle, m4_ne, m4_ne2, q_0, q_1, q_2, q_3, q_4, q_5, q_6, q_8, q_12, q_15, q_16, q_20, q_24, q_30, q_31, q_32, q_80, q_9, q_99, q_126, q_48, q_57, q_58, q_59, q_97, q_101, q_10, q_21, q_255, q_46656]
  refine ⟨it (wrF (fun k => nI (bSt (bFr r nb) k))) vst 5, ?_, fun k hk => by rw [wrF_at, if_pos hk]⟩
  unfold f_X5_freezeStrikes
  exact b_run L rfl
theorem md1 : mdS 0 0 1 = fun _ => 2 := by
  funext b; unfold mdS; rw [show fmS 0 0 b = 0 from if_neg (by omega)]; rfl
theorem bs_false (n : Nat) : bs (fun _ => false) n = 0 := by
  induction n with
  | zero => rfl
  | succ n ih => show bs (fun _ => false) n + 0 = 0; rw [ih]
abbrev SaT6 : Type := Int32 × Int32 × Int32 × (Nat → Int32) × (Nat → Int32) × (Nat → Int32)
theorem x_after {h : Hl} (ok : hOK h) {vb : Int32} {vme vmo vdi vsi vor : Nat → Int32} (t : tX h vb vme vmo vdi vsi vor) {N : Nat} (hN : 200000 ≤ N) {r : Br} (rok : bOK r) {nb : Nat} {vst : Nat → Int32} (hst : ∀ k, k < 5 → vst k = nI (bSt (bFr r nb) k)) {s : Nat} (hs : s < 46656) (hc : wOK h (dec s)) (vw vws vc : Nat → Int32) : ∃ u : SaT6, f_X6_stateAfter N vb vme vmo vdi vsi vor vst vw vws vc (nI s) = some u ∧ u.1 = nI (enc (rgF h (aliv r nb) (dec s))) := by
  obtain ⟨vw', vc', T1, T2, T3⟩ := x_takeState ok t hN hs hc vw vc
  obtain ⟨w, W1, W2, W3⟩ := x_write ok t hN (bFr_ok rok nb) hst (tt := 1) (by decide) (wt := 0) (wn := 0) (by decide) (by decide) (lk := fun _ => false) (vws := vws) T2 hc T3
  rw [bFr_al, md1] at W2
  rw [bs_false] at W1
  have S := x_state hN W2
  refine ⟨(nI (enc (rgF h (aliv r nb) (dec s))), wX 0, nI 0, w.1, w.2.1, w.2.2), ?_, rfl⟩
  unfold f_X6_stateAfter
  exact b_run T1 (b_run W1 (b_run S rfl))
section RG
variable {S : Nat → Nat} {G : Nat → Nat} {mu la : Nat}
def brI (S : Nat → Nat) (i R l : Nat) : Prop := 1 ≤ l ∧ l ≤ R ∧ R - 1 + l = i + 1 ∧ 1 ≤ R ∧ R ≤ 93312 ∧ ∀ l', 1 ≤ l' → l' < l → S (R - 1 + l') ≠ S (R - 1)
theorem br_fin (hG : ∀ k, S (k + 1) = G (S k)) (hl : 0 < la) (inj : ∀ i j, i < j → j < mu + la → S i ≠ S j) (hp : S (mu + la) = S mu) {i R l : Nat} (h : brI S i R l) (he : S (R - 1 + l) = S (R - 1)) : l = la := by
  obtain ⟨h1, h2, h3, h4, h5, h6⟩ := h
  have hmu := rd_key hG hl inj hp (i := R - 1) (l := l) (by omega) he
  by_cases c : l < la
  · exact absurd he (rd_low hG inj hp hmu (by omega) c)
  · by_cases d : la < l
    · exact absurd (rd_per hG hp hmu) (h6 la (by omega) d)
    · omega
theorem br_end (hG : ∀ k, S (k + 1) = G (S k)) (hl : 0 < la) (hs : mu + la ≤ 46656) (hp : S (mu + la) = S mu) {i R l : Nat} (h : brI S i R l) : i + 1 ≤ 139967 := by
  obtain ⟨h1, h2, h3, h4, h5, h6⟩ := h
  have : l ≤ 46656 := by
    by_cases c : mu ≤ R - 1
    · refine Nat.le_of_not_lt (fun q => ?_)
      exact h6 la (by omega) (by omega) (rd_per hG hp c)
    · omega
  omega
theorem br_go {i R l : Nat} (h : brI S i R l) (hn : S (R - 1 + l) ≠ S (R - 1)) (hlr : l < R) : brI S (i + 1) R (l + 1) := by
  obtain ⟨h1, h2, h3, h4, h5, h6⟩ := h
  refine ⟨by omega, by omega, by omega, h4, h5, fun l' a b => ?_⟩
  by_cases e : l' = l
  · subst e; exact hn
  · exact h6 l' a (by omega)
theorem br_dbl (hG : ∀ k, S (k + 1) = G (S k)) (hl : 0 < la) (hs : mu + la ≤ 46656) (hp : S (mu + la) = S mu) {i R : Nat} (h : brI S i R R) (hn : S (R - 1 + R) ≠ S (R - 1)) : brI S (i + 1) (R * 2) 1 := by
  obtain ⟨h1, h2, h3, h4, h5, h6⟩ := h
  have : R ≤ 46656 := by
    by_cases c : mu ≤ R - 1
    · refine Nat.le_of_not_lt (fun q => ?_)
      have e := rd_per hG hp c
      by_cases d : la = R
      · rw [d] at e; exact hn e
      · exact h6 la (by omega) (by omega) e
    · omega
  exact ⟨by omega, by omega, by omega, by omega, by omega, fun l' a b => by omega⟩
end RG
abbrev LoT : Type := Int32 × Int32 × Int32 × Int32 × Int32 × Int32 × Int32 × (Nat → Int32) × (Nat → Int32) × (Nat → Int32)
theorem x_loop {h : Hl} (ok : hOK h) {vb : Int32} {vme vmo vdi vsi vor : Nat → Int32} (t : tX h vb vme vmo vdi vsi vor) {N : Nat} (hN : 200000 ≤ N) {r : Br} (rok : bOK r) {nb : Nat} {vst : Nat → Int32} (hst : ∀ k, k < 5 → vst k = nI (bSt (bFr r nb) k)) {c : Nat → Nat} (hc : wOK h c) {mu la : Nat} (hl : 0 < la) (hs : mu + la ≤ 46656) (inj : ∀ i j, i < j → j < mu + la → rgS h (aliv r nb) c i ≠ rgS h (aliv r nb) c j) (hp : rgS h (aliv r nb) c (mu + la) = rgS h (aliv r nb) c mu) (vw vws vc : Nat → Int32) :
    ∃ u : SaT6, f_X6_loopFrom N vb vme vmo vdi vsi vor vst vw vws vc (nI (enc c)) = some u ∧ u.1 = nI la := by
  have hlt := rgS_lt ok (al := aliv r nb) hc
  have hG : ∀ k, rgS h (aliv r nb) c (k + 1) = enc (rgF h (aliv r nb) (dec (rgS h (aliv r nb) c k))) := rgS_s ok hc
  have A : ∀ k (vw vws vc : Nat → Int32), ∃ u : SaT6, f_X6_stateAfter N vb vme vmo vdi vsi vor vst vw vws vc (nI (rgS h (aliv r nb) c k)) = some u ∧ u.1 = nI (rgS h (aliv r nb) c (k + 1)) := fun k vw vws vc => by
    obtain ⟨u, U1, U2⟩ := x_after ok t hN rok hst (hlt k) (by rw [rgS_dec ok hc]; exact rgC_ok hc k) vw vws vc
    exact ⟨u, U1, by rw [U2, hG]⟩
  have e0 : enc c = rgS h (aliv r nb) c 0 := rfl
  generalize rgS h (aliv r nb) c = S at *
  obtain ⟨G, hG⟩ : ∃ G : Nat → Nat, ∀ k, S (k + 1) = G (S k) := ⟨fun s => enc (rgF h (aliv r nb) (dec s)), hG⟩
  obtain ⟨u, U1, U2⟩ := A 0 vw vws vc
  have L : ∃ e : SaT6, lp (fun s : LoT => f_X6_loopFrom_B17 N vb vme vmo vdi vsi vor vst s.1 s.2.1 s.2.2.1 s.2.2.2.1 s.2.2.2.2.1 s.2.2.2.2.2.1 s.2.2.2.2.2.2.1 s.2.2.2.2.2.2.2.1 s.2.2.2.2.2.2.2.2.1 s.2.2.2.2.2.2.2.2.2) N (nI (S 0), u.1, (1 : Int32), (1 : Int32), (0 : Int32), u.2.1, u.2.2.1, u.2.2.2.1, u.2.2.2.2.1, u.2.2.2.2.2) = some e ∧ e.1 = nI la := by
    refine lp_rel0 (fun i (s : LoT) => ∃ R l, brI S i R l ∧ s.1 = nI (S (R - 1)) ∧ s.2.1 = nI (S (i + 1)) ∧ s.2.2.1 = nI l ∧ s.2.2.2.1 = nI R ∧ s.2.2.2.2.1 = nI i) _ 139967 (by omega) ⟨1, 1, ⟨by omega, by omega, by omega, by omega, by omega, fun l' a b => by omega⟩, rfl, U2, rfl, rfl, rfl⟩ ?_ ?_
    · rintro i hi s ⟨R, l, hI, a1, a2, a3, a4, a5⟩
      have q1 := hlt (R - 1); have q2 := hlt (i + 1)
      have g1 : ¬ (186624 : Int32) ≤ nI i := by rw [show (186624 : Int32) = nI 186624 from rfl, q_le (by omega) (by omega)]; omega
      obtain ⟨h1, h2, h3, h4, h5, h6⟩ := hI
      have hI : brI S i R l := ⟨h1, h2, h3, h4, h5, h6⟩
      obtain ⟨w, W1, W2⟩ := A (i + 1) s.2.2.2.2.2.2.2.1 s.2.2.2.2.2.2.2.2.1 s.2.2.2.2.2.2.2.2.2
      by_cases e : S (R - 1 + l) = S (R - 1)
      · right
        have hll := br_fin hG hl inj hp hI e
        rw [h3] at e
        refine ⟨(s.2.2.1, s.2.2.2.2.2.1, s.2.2.2.2.2.2.1, s.2.2.2.2.2.2.2.1, s.2.2.2.2.2.2.2.2.1, s.2.2.2.2.2.2.2.2.2), ?_, by show s.2.2.1 = _; rw [a3, hll]⟩
        unfold f_X6_loopFrom_B17
        rw [a5, if_neg g1, a1, a2, if_pos (by rw [e])]
      · left
        have ne : ¬ nI (S (i + 1)) = nI (S (R - 1)) := by rw [q_eq (by omega) (by omega), ← h3]; exact e
        by_cases d : l = R
        · subst d
          refine ⟨(nI (S (i + 1)), w.1, nI 1, nI (l * 2), nI (i + 1), w.2.1, w.2.2.1, w.2.2.2.1, w.2.2.2.2.1, w.2.2.2.2.2), ?_, l * 2, 1, br_dbl hG hl hs hp hI e, ?_, W2, rfl, rfl, rfl⟩
          · unfold f_X6_loopFrom_B17 f_X6_loopFrom_L48
            rw [a5, if_neg g1, a1, a2, if_neg ne, a3, a4, if_pos rfl, W1, Option.bind_some, nI_1, show (0 : Int32) + 1 = nI 1 from rfl, q_2, pk_mul]
          · show nI (S (i + 1)) = nI (S (l * 2 - 1)); rw [show l * 2 - 1 = i + 1 by omega]
        · refine ⟨(nI (S (R - 1)), w.1, nI (l + 1), nI R, nI (i + 1), w.2.1, w.2.2.1, w.2.2.2.1, w.2.2.2.2.1, w.2.2.2.2.2), ?_, R, l + 1, br_go hI e (by omega), rfl, W2, rfl, rfl, rfl⟩
          unfold f_X6_loopFrom_B17 f_X6_loopFrom_L48
          rw [a5, if_neg g1, a1, a2, if_neg ne, a3, a4, if_neg (by rw [q_eq (by omega) (by omega)]; exact d), W1, Option.bind_some, nI_1, nI_1]
    · rintro s ⟨R, l, hI, _⟩
      have := br_end hG hl hs hp hI; omega
  obtain ⟨e, E1, E2⟩ := L
  refine ⟨e, ?_, E2⟩
  unfold f_X6_loopFrom
  rw [e0]
  exact b_run U1 (b_run E1 rfl)
abbrev Ta5 : Type := Int32 × Int32 × Int32 × Int32 × (Nat → Int32) × (Nat → Int32) × (Nat → Int32)
abbrev Ta9 : Type := Int32 × Int32 × Int32 × Int32 × Int32 × Int32 × (Nat → Int32) × (Nat → Int32) × (Nat → Int32)
theorem x_tail {h : Hl} (ok : hOK h) {vb : Int32} {vme vmo vdi vsi vor : Nat → Int32} (t : tX h vb vme vmo vdi vsi vor) {N : Nat} (hN : 200000 ≤ N) {r : Br} (rok : bOK r) {nb : Nat} {vst : Nat → Int32} (hst : ∀ k, k < 5 → vst k = nI (bSt (bFr r nb) k)) {c : Nat → Nat} (hc : wOK h c) {mu la : Nat} (hl : 0 < la) (hs : mu + la ≤ 46656) (inj : ∀ i j, i < j → j < mu + la → rgS h (aliv r nb) c i ≠ rgS h (aliv r nb) c j) (hp : rgS h (aliv r nb) c (mu + la) = rgS h (aliv r nb) c mu) (c1 c2 : Int32) (vw vws vc : Nat → Int32) :
    ∃ u : SaT6, f_X6_tailFrom N vb vme vmo vdi vsi vor vst c1 c2 vw vws vc (nI (enc c)) (nI la) = some u ∧ u.1 = nI mu := by
  have hlt := rgS_lt ok (al := aliv r nb) hc
  have hG : ∀ k, rgS h (aliv r nb) c (k + 1) = enc (rgF h (aliv r nb) (dec (rgS h (aliv r nb) c k))) := rgS_s ok hc
  have A : ∀ k (vw vws vc : Nat → Int32), ∃ u : SaT6, f_X6_stateAfter N vb vme vmo vdi vsi vor vst vw vws vc (nI (rgS h (aliv r nb) c k)) = some u ∧ u.1 = nI (rgS h (aliv r nb) c (k + 1)) := fun k vw vws vc => by
    obtain ⟨u, U1, U2⟩ := x_after ok t hN rok hst (hlt k) (by rw [rgS_dec ok hc]; exact rgC_ok hc k) vw vws vc
    exact ⟨u, U1, by rw [U2, hG]⟩
  have e0 : enc c = rgS h (aliv r nb) c 0 := rfl
  generalize rgS h (aliv r nb) c = S at *
  obtain ⟨G, hG⟩ : ∃ G : Nat → Nat, ∀ k, S (k + 1) = G (S k) := ⟨fun s => enc (rgF h (aliv r nb) (dec s)), hG⟩
  have L1 : ∃ e : Ta5, lp (fun s : Ta5 => f_X6_tailFrom_B5 N vb vme vmo vdi vsi vor vst (nI la) s.1 s.2.1 s.2.2.1 s.2.2.2.1 s.2.2.2.2.1 s.2.2.2.2.2.1 s.2.2.2.2.2.2) N (nI (S 0), (0 : Int32), c1, c2, vw, vws, vc) = some e ∧ e.1 = nI (S la) := by
    refine lp_rel0 (fun i (s : Ta5) => s.1 = nI (S i) ∧ s.2.1 = nI i) _ la (by omega) ⟨rfl, rfl⟩ ?_ ?_
    · rintro i hi s ⟨a1, a2⟩
      left
      obtain ⟨w, W1, W2⟩ := A i s.2.2.2.2.1 s.2.2.2.2.2.1 s.2.2.2.2.2.2
      refine ⟨(w.1, nI (i + 1), w.2.1, w.2.2.1, w.2.2.2.1, w.2.2.2.2.1, w.2.2.2.2.2), ?_, W2, rfl⟩
      unfold f_X6_tailFrom_B5
      rw [a2, if_neg (by rw [q_le (by omega) (by omega)]; omega), a1, W1, Option.bind_some, nI_1]
    · rintro s ⟨a1, a2⟩
      refine ⟨s, ?_, a1⟩
      unfold f_X6_tailFrom_B5
      rw [if_pos (by rw [a2, q_le (by omega) (by omega)]; omega)]
  obtain ⟨e, E1, E2⟩ := L1
  have L2 : ∃ z : SaT6, lp (fun s : Ta9 => f_X6_tailFrom_B32 N vb vme vmo vdi vsi vor vst s.1 s.2.1 s.2.2.1 s.2.2.2.1 s.2.2.2.2.1 s.2.2.2.2.2.1 s.2.2.2.2.2.2.1 s.2.2.2.2.2.2.2.1 s.2.2.2.2.2.2.2.2) N (e.1, nI (S 0), (0 : Int32), (0 : Int32), e.2.2.1, e.2.2.2.1, e.2.2.2.2.1, e.2.2.2.2.2.1, e.2.2.2.2.2.2) = some z ∧ z.1 = nI mu := by
    refine lp_rel0 (fun i (s : Ta9) => s.1 = nI (S (i + la)) ∧ s.2.1 = nI (S i) ∧ s.2.2.1 = nI i ∧ s.2.2.2.1 = nI i ∧ i ≤ mu) _ mu (by omega) ⟨by rw [Nat.zero_add]; exact E2, rfl, rfl, rfl, by omega⟩ ?_ ?_
    · rintro i hi s ⟨a1, a2, a3, a4, a5⟩
      left
      have q1 := hlt (i + la); have q2 := hlt i
      obtain ⟨w, W1, W2⟩ := A (i + la) s.2.2.2.2.2.2.1 s.2.2.2.2.2.2.2.1 s.2.2.2.2.2.2.2.2
      obtain ⟨z, Z1, Z2⟩ := A i w.2.2.2.1 w.2.2.2.2.1 w.2.2.2.2.2
      have ne : S (i + la) ≠ S i := fun q => by have := rd_key hG hl inj hp hl q; omega
      refine ⟨(w.1, z.1, nI (i + 1), nI (i + 1), z.2.1, z.2.2.1, z.2.2.2.1, z.2.2.2.2.1, z.2.2.2.2.2), ?_, by rw [show i + 1 + la = i + la + 1 by omega]; exact W2, Z2, rfl, rfl, by omega⟩
      unfold f_X6_tailFrom_B32
      rw [a4, if_neg (by rw [q_46656, q_le (by omega) (by omega)]; omega), a1, a2, if_neg (by rw [q_eq (by omega) (by omega)]; exact ne), W1, Option.bind_some, Z1, Option.bind_some, a3, nI_1]
    · rintro s ⟨a1, a2, a3, a4, a5⟩
      refine ⟨(s.2.2.1, s.2.2.2.2.1, s.2.2.2.2.2.1, s.2.2.2.2.2.2.1, s.2.2.2.2.2.2.2.1, s.2.2.2.2.2.2.2.2), ?_, a3⟩
      unfold f_X6_tailFrom_B32
      rw [a4, if_neg (by rw [q_46656, q_le (by omega) (by omega)]; omega), a1, a2, if_pos (by rw [hp])]
  obtain ⟨z, Z1, Z2⟩ := L2
  refine ⟨z, ?_, Z2⟩
  unfold f_X6_tailFrom
  rw [e0]
  exact b_run E1 (b_run Z1 rfl)
