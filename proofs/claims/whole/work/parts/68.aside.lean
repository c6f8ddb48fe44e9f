-- a name aside from a ballot on
def bSk (r : Br) (f k : Nat) : Br := (bAb r, bBe r, (fun j => if j = k then f else bSt r j), bLo r)
theorem bSk_ok {r : Br} (rok : bOK r) {f k : Nat} (hf : f ≤ 32) : bOK (bSk r f k) := by
  refine ⟨rok.1, fun j hj => ?_, rok.2.2⟩
  show (if j = k then f else bSt r j) ≤ 32
  split
  · exact hf
  · exact rok.2.1 j hj
theorem bSk_X {r : Br} {vab vbe vst vlo : Nat → Int32} (rr : rX r vab vbe vst vlo) (f k : Nat) : rX (bSk r f k) vab vbe (upd vst k (nI f)) vlo := by
  refine ⟨rr.1, fun j hj => ?_, rr.2.2⟩
  show upd vst k (nI f) j = nI (if j = k then f else bSt r j)
  unfold upd
  by_cases z : j = k
  · rw [if_pos z, if_pos z]
  · rw [if_neg z, if_neg z]; exact rr.2.1 j hj
theorem upd_back (v : Nat → Int32) (k : Nat) (x : Int32) : upd (upd v k x) k (v k) = v := by
  funext j
  by_cases c : j = k
  · subst c; rw [pk_us]
  · rw [pk_un c, pk_un c]
theorem upd_self (v : Nat → Int32) (k : Nat) : upd v k (v k) = v := by
  funext j
  by_cases c : j = k
  · subst c; rw [pk_us]
  · rw [pk_un c]
def edN (s : Cr) : Nat := if s.2.2.1 = 0 then 32 else s.1 - 1
theorem edN_le {h : Hl} {s : Cr} (hs : cOK h s) : edN s ≤ 32 := by
  have := hs.1; unfold edN; split <;> omega
theorem edN_lt {h : Hl} {s : Cr} (hs : cOK h s) (hp : s.2.2.1 ≠ 0 → 0 < s.1) : (edN s < 32) = (s.2.2.1 ≠ 0) := by
  have := hs.1
  unfold edN
  by_cases c : s.2.2.1 = 0
  · rw [if_pos c]; exact (eq_false (by omega)).trans (eq_false (fun q => q c)).symm
  · have := hp c; rw [if_neg c]; exact (eq_true (by omega)).trans (eq_true c).symm
theorem x_ended {h : Hl} {s : Cr} (hs : cOK h s) (hp : s.2.2.1 ≠ 0 → 0 < s.1) : f_X0_endedBy (nI s.1) (wX s.2.2.1) = some (nI (edN s)) := by
  have := hs.1; have := hs.2.2.1
  unfold f_X0_endedBy edN
  by_cases c : s.2.2.1 = 0
  · simp (disch := omega) only [d_let, d_lef, d_ltt, d_ltf, d_eqt, d_eqf, ↓reduceIte, or_false, false_or, or_true, true_or, and_true, true_and, and_false, false_and, not_true_eq_false, not_false_eq_true, Bool.false_eq_true, Option.bind_some, q_ofNat, q_cl, q_lt, q_le, q_eq, nI_add, pk_mul, q_m1, q_m4, m1_lt, m1_le, m1_nlt, m1_nle, m1_ne, m1_ne2, m4_lt, m4_le, m4_nlt, m4_nle, m4_ne, m4_ne2, q_0, q_1, q_2, q_3, q_4, q_5, q_6, q_8, q_12, q_15, q_16, q_20, q_24, q_30, q_31, q_32, q_80, q_9, q_99, q_126, q_48, q_57, q_58, q_59, q_97, q_101, q_10, q_21, q_255, q_46656, q_wXm]
  · have := hp c
    simp (disch := omega) only [d_let, d_lef, d_ltt, d_ltf, d_eqt, d_eqf, ↓reduceIte, or_false, false_or, or_true, true_or, and_true, true_and, and_false, false_and, not_true_eq_false, not_false_eq_true, Bool.false_eq_true, Option.bind_some, q_ofNat, q_cl, q_lt, q_le, q_eq, nI_add, pk_mul, q_m1, q_m4, m1_lt, m1_le, m1_nlt, m1_nle, m1_ne, m1_ne2, m4_lt, m4_le, m4_nlt, m4_nle, m4_ne, m4_ne2, q_0, q_1, q_2, q_3, q_4, q_5, q_6, q_8, q_12, q_15, q_16, q_20, q_24, q_30, q_31, q_32, q_80, q_9, q_99, q_126, q_48, q_57, q_58, q_59, q_97, q_101, q_10, q_21, q_255, q_46656, q_wXm, q_sub]
def fin (h : Hl) (r : Br) : Cr := goS h r 0 0 32 c0
theorem fin_ok {h : Hl} (ok : hOK h) (r : Br) : cOK h (fin h r) := goS_ok ok 32 c0 (c0_ok h)
theorem fin_p (h : Hl) (r : Br) : (fin h r).2.2.1 ≠ 0 → 0 < (fin h r).1 := goS_pos h r 0 0 32 c0 (fun q => absurd rfl q)
-- what is sought: how soon, and ballot and name in one number
def aeS (h : Hl) (r : Br) (f k : Nat) : Nat := if f < bSt r k then edN (fin h (bSk r f k)) else edN (fin h r)
def asK (h : Hl) (r : Br) (f k : Nat) (s : Nat × Nat) : Nat × Nat := if aeS h r f k < s.1 then (aeS h r f k, 8 * f + k) else s
def asI (h : Hl) (r : Br) (f : Nat) (s : Nat × Nat) (k : Nat) : Nat × Nat := it (asK h r f) s k
def asO (h : Hl) (r : Br) (f : Nat) : Nat × Nat := it (fun f s => asI h r f s 5) (edN (fin h r), 0) f
def asOK (E0 m : Nat) (s : Nat × Nat) : Prop := s.1 ≤ E0 ∧ s.2 ≤ m
theorem asI_ok {h : Hl} {r : Br} {E0 f : Nat} {s : Nat × Nat} (hs : asOK E0 (8 * f) s) : ∀ k, asOK E0 (8 * f + k) (asI h r f s k) := by
  intro k
  induction k with
  | zero => exact hs
  | succ k ih =>
    show asOK E0 (8 * f + (k + 1)) (asK h r f k (asI h r f s k))
    generalize asI h r f s k = z at *
    obtain ⟨i1, i2⟩ := ih
    unfold asK
    split
    · exact ⟨by show aeS h r f k ≤ E0; omega, by show 8 * f + k ≤ _; omega⟩
    · exact ⟨i1, by omega⟩
theorem asO_ok {h : Hl} {r : Br} : ∀ f, asOK (edN (fin h r)) (8 * f) (asO h r f) := by
  intro f
  induction f with
  | zero => exact ⟨Nat.le_refl _, Nat.le_refl _⟩
  | succ f ih =>
    have := asI_ok (h := h) (r := r) ih 5
    show asOK (edN (fin h r)) (8 * (f + 1)) (asI h r f (asO h r f) 5)
    exact ⟨this.1, by have := this.2; omega⟩
theorem aeS_le {h : Hl} (ok : hOK h) {r : Br} {f k : Nat} : aeS h r f k ≤ 32 := by
  unfold aeS
  split
  · exact edN_le (fin_ok ok _)
  · exact edN_le (fin_ok ok _)
theorem q_sh6 {n : Nat} (h : n ≤ 64) : nI n <<< ((6 : Int32) &&& 31) = nI (n * 64) := pk_shlN (n := n) ((6 : Int32) &&& 31) 6 (by decide) (by omega)
theorem q_sh3 {n : Nat} (h : n ≤ 64) : nI n <<< ((3 : Int32) &&& 31) = nI (n * 8) := pk_shlN (n := n) ((3 : Int32) &&& 31) 3 (by decide) (by omega)
abbrev AsT : Type := Int32 × Int32 × (Nat → Int32) × Int32 × Int32 × Int32 × Int32 × Int32 × (Nat → Int32) × (Nat → Int32) × (Nat → Int32)
theorem x_asideI {h : Hl} (ok : hOK h) {vb : Int32} {vme vmo vdi vsi vor : Nat → Int32} (t : tX h vb vme vmo vdi vsi vor) {N : Nat} (hN : 200000 ≤ N) {r : Br} (rok : bOK r) {vab vbe vst vlo : Nat → Int32} (rr : rX r vab vbe vst vlo) {f : Nat} (hf : f < 8) {z : Nat × Nat} (hz : asOK (edN (fin h r)) (8 * f) z) {s : AsT} (h1 : s.1 = nI (z.1 * 64 + z.2)) (h2 : s.2.1 = nI 0) (h3 : s.2.2.1 = vst) :
    ∃ e : AsT, lp (fun s : AsT => f_X6_soonestAside_B46 N vb vme vmo vdi vsi vor vab vbe vlo (nI f) s.1 s.2.1 s.2.2.1 s.2.2.2.1 s.2.2.2.2.1 s.2.2.2.2.2.1 s.2.2.2.2.2.2.1 s.2.2.2.2.2.2.2.1 s.2.2.2.2.2.2.2.2.1 s.2.2.2.2.2.2.2.2.2.1 s.2.2.2.2.2.2.2.2.2.2) N s = some e ∧ e.1 = nI ((asI h r f z 5).1 * 64 + (asI h r f z 5).2) ∧ e.2.2.1 = vst := by
  have hE0 := edN_le (fin_ok ok r)
  refine lp_rel0 (fun k s => s.1 = nI ((asI h r f z k).1 * 64 + (asI h r f z k).2) ∧ s.2.1 = nI k ∧ s.2.2.1 = vst) _ 5 (by omega) ⟨h1, h2, h3⟩ ?_ ?_
  · rintro k hk s ⟨a1, a2, a3⟩
    left
    have ho := asI_ok (h := h) (r := r) hz k
    have hst := rr.2.1 k hk
    have hs2 := rok.2.1 k hk
    have hae := aeS_le ok (r := r) (f := f) (k := k)
    have E : asI h r f z (k + 1) = asK h r f k (asI h r f z k) := rfl
    rw [E]
    obtain ⟨i1, i2⟩ := ho
    generalize asI h r f z k = w at *
    unfold asK
    by_cases c : f < bSt r k
    · have rok' := bSk_ok rok (f := f) (k := k) (by omega)
      have rr' := bSk_X rr f k
      obtain ⟨u, U1, U2⟩ := x_goAll ok t hN rok' rr' s.2.2.2.2.2.2.2.2.1 s.2.2.2.2.2.2.2.2.2.1 s.2.2.2.2.2.2.2.2.2.2
      have eE : aeS h r f k = edN (fin h (bSk r f k)) := if_pos c
      have D := x_ended (fin_ok ok (bSk r f k)) (fin_p h (bSk r f k))
      rw [← eE] at D
      have U3 : u.1 = nI (fin h (bSk r f k)).1 := U2.1
      have U4 : u.2.2.1 = wX (fin h (bSk r f k)).2.2.1 := U2.2.2.1
      have B := upd_back vst k (nI f)
      have S6 := q_sh6 (n := aeS h r f k) (by omega)
      have S3 := q_sh3 (n := f) (by omega)
      rw [q_6, q_31] at S6
      rw [q_3, q_31] at S3
      rw [hst] at B
      by_cases d : aeS h r f k < w.1
      · rw [if_pos d]
        refine ⟨(nI (aeS h r f k * 64 + (8 * f + k)), nI (k + 1), vst, u.1, u.2.1, u.2.2.1, u.2.2.2.1, u.2.2.2.2.1, u.2.2.2.2.2.1, u.2.2.2.2.2.2.1, u.2.2.2.2.2.2.2), ?_, rfl, rfl, rfl⟩
        have e8 : aeS h r f k * 64 + f * 8 + k = aeS h r f k * 64 + (8 * f + k) := by omega
        simp (disch := omega) only [f_X6_soonestAside_B46, f_X6_soonestAside_L126, d_let, d_lef, d_ltt, d_ltf, d_eqt, d_eqf, ↓reduceIte, or_false, false_or, or_true, true_or, and_true, true_and, and_false, false_and, not_true_eq_false, not_false_eq_true, Bool.false_eq_true, Option.bind_some, q_ofNat, q_cl, q_lt, q_le, q_eq, nI_add, pk_mul, q_m1, q_m4, m1_lt, m1_le, m1_nlt, m1_nle, m1_ne, m1_ne2, m4_lt, m4_le, m4_nlt, m4_nle, m4_ne, m4_ne2, q_0, q_1, q_2, q_3, q_4, q_5, q_6, q_8, q_12, q_15, q_16, q_20, q_24, q_30, q_31, q_32, q_80, q_9, q_99, q_126, q_48, q_57, q_58, q_59, q_97, q_101, q_10, q_21, q_255, q_46656, a1, a2, a3, hst, U1, U3, U4, D, S6, S3, B, e8]
      · rw [if_neg d]
        refine ⟨(nI (w.1 * 64 + w.2), nI (k + 1), vst, u.1, u.2.1, u.2.2.1, u.2.2.2.1, u.2.2.2.2.1, u.2.2.2.2.2.1, u.2.2.2.2.2.2.1, u.2.2.2.2.2.2.2), ?_, rfl, rfl, rfl⟩
        simp (disch := omega) only [f_X6_soonestAside_B46, f_X6_soonestAside_L126, d_let, d_lef, d_ltt, d_ltf, d_eqt, d_eqf, ↓reduceIte, or_false, false_or, or_true, true_or, and_true, true_and, and_false, false_and, not_true_eq_false, not_false_eq_true, Bool.false_eq_true, Option.bind_some, q_ofNat, q_cl, q_lt, q_le, q_eq, nI_add, pk_mul, q_m1, q_m4, m1_lt, m1_le, m1_nlt, m1_nle, m1_ne, m1_ne2, m4_lt, m4_le, m4_nlt, m4_nle, m4_ne, m4_ne2, q_0, q_1, q_2, q_3, q_4, q_5, q_6, q_8, q_12, q_15, q_16, q_20, q_24, q_30, q_31, q_32, q_80, q_9, q_99, q_126, q_48, q_57, q_58, q_59, q_97, q_101, q_10, q_21, q_255, q_46656, a1, a2, a3, hst, U1, U3, U4, D, S6, S3, B]
    · have eE : aeS h r f k = edN (fin h r) := if_neg c
      rw [if_neg (by omega)]
      refine ⟨(nI (w.1 * 64 + w.2), nI (k + 1), vst, s.2.2.2), ?_, rfl, rfl, rfl⟩
      simp (disch := omega) only [f_X6_soonestAside_B46, f_X6_soonestAside_L126, d_let, d_lef, d_ltt, d_ltf, d_eqt, d_eqf, ↓reduceIte, or_false, false_or, or_true, true_or, and_true, true_and, and_false, false_and, not_true_eq_false, not_false_eq_true, Bool.false_eq_true, Option.bind_some, q_ofNat, q_cl, q_lt, q_le, q_eq, nI_add, pk_mul, q_m1, q_m4, m1_lt, m1_le, m1_nlt, m1_nle, m1_ne, m1_ne2, m4_lt, m4_le, m4_nlt, m4_nle, m4_ne, m4_ne2, q_0, q_1, q_2, q_3, q_4, q_5, q_6, q_8, q_12, q_15, q_16, q_20, q_24, q_30, q_31, q_32, q_80, q_9, q_99, q_126, q_48, q_57, q_58, q_59, q_97, q_101, q_10, q_21, q_255, q_46656, a1, a2, a3, hst]
  · rintro s ⟨a1, a2, a3⟩
    refine ⟨s, ?_, a1, a3⟩
    simp (disch := omega) only [f_X6_soonestAside_B46, d_let, d_lef, d_ltt, d_ltf, d_eqt, d_eqf, ↓reduceIte, or_false, false_or, or_true, true_or, and_true, true_and, and_false, false_and, not_true_eq_false, not_false_eq_true, Bool.false_eq_true, Option.bind_some, q_ofNat, q_cl, q_lt, q_le, q_eq, nI_add, pk_mul, q_m1, q_m4, m1_lt, m1_le, m1_nlt, m1_nle, m1_ne, m1_ne2, m4_lt, m4_le, m4_nlt, m4_nle, m4_ne, m4_ne2, q_0, q_1, q_2, q_3, q_4, q_5, q_6, q_8, q_12, q_15, q_16, q_20, q_24, q_30, q_31, q_32, q_80, q_9, q_99, q_126, q_48, q_57, q_58, q_59, q_97, q_101, q_10, q_21, q_255, q_46656, a2]
    rw [← a2]
theorem x_asideO {h : Hl} (ok : hOK h) {vb : Int32} {vme vmo vdi vsi vor : Nat → Int32} (t : tX h vb vme vmo vdi vsi vor) {N : Nat} (hN : 200000 ≤ N) {r : Br} (rok : bOK r) {vab vbe vst vlo : Nat → Int32} (rr : rX r vab vbe vst vlo) {s : AsT} (h1 : s.1 = nI (edN (fin h r) * 64)) (h2 : s.2.1 = nI 0) (h3 : s.2.2.1 = vst) :
    ∃ e : AsT, lp (fun s : AsT => f_X6_soonestAside_B37 N vb vme vmo vdi vsi vor vab vbe vlo s.1 s.2.1 s.2.2.1 s.2.2.2.1 s.2.2.2.2.1 s.2.2.2.2.2.1 s.2.2.2.2.2.2.1 s.2.2.2.2.2.2.2.1 s.2.2.2.2.2.2.2.2.1 s.2.2.2.2.2.2.2.2.2.1 s.2.2.2.2.2.2.2.2.2.2) N s = some e ∧ e.1 = nI ((asO h r 8).1 * 64 + (asO h r 8).2) := by
  refine lp_rel0 (fun f s => s.1 = nI ((asO h r f).1 * 64 + (asO h r f).2) ∧ s.2.1 = nI f ∧ s.2.2.1 = vst) _ 8 (by omega) ⟨h1, h2, h3⟩ ?_ ?_
  · rintro f hf s ⟨a1, a2, a3⟩
    left
    obtain ⟨e, E1, E2, E3⟩ := x_asideI ok t hN rok rr hf (asO_ok f) (s := (s.1, (0 : Int32), s.2.2.1, s.2.2.2.1, s.2.2.2.2.1, s.2.2.2.2.2.1, s.2.2.2.2.2.2.1, s.2.2.2.2.2.2.2.1, s.2.2.2.2.2.2.2.2.1, s.2.2.2.2.2.2.2.2.2.1, s.2.2.2.2.2.2.2.2.2.2)) a1 rfl a3
    refine ⟨(e.1, nI (f + 1), e.2.2.1, e.2.2.2.1, e.2.2.2.2.1, e.2.2.2.2.2.1, e.2.2.2.2.2.2.1, e.2.2.2.2.2.2.2.1, e.2.2.2.2.2.2.2.2.1, e.2.2.2.2.2.2.2.2.2.1, e.2.2.2.2.2.2.2.2.2.2), ?_, E2, rfl, E3⟩
    unfold f_X6_soonestAside_B37
    rw [a2, if_neg (by rw [q_8, q_le (by omega) (by omega)]; omega), nI_1]
    exact b_run E1 rfl
  · rintro s ⟨a1, a2, a3⟩
    refine ⟨s, ?_, a1⟩
    unfold f_X6_soonestAside_B37
    rw [if_pos (by rw [a2]; decide)]
-- the reference
def smM (E : Nat) : Int32 := if E = 32 then nI 99 else nI E
def nmM (E0 E x : Nat) : Int32 := if E < E0 then nI x else m4
abbrev AmT : Type := Int32 × Int32 × Int32 × Int32 × (Nat → Int32) × (Nat → Int32) × (Nat → Int32) × (Nat → Int32) × Int32 × Int32 × Int32 × Int32
theorem m_asideI {h : Hl} (ok : hOK h) {vb : Int32} {vme vmo vdi vsi vor : Nat → Int32} (t : tX h vb vme vmo vdi vsi vor) {N : Nat} (hN : 200000 ≤ N) {r : Br} (rok : bOK r) {vab vbe vst vlo : Nat → Int32} (rr : rX r vab vbe vst vlo) {mw mn mt tb : Int32} (W3 : mw = wM 0) (W4 : ∃ k, k < 1000 ∧ mn = nI k) (W5 : mt = nI 0) {f : Nat} (hf : f < 8) {z : Nat × Nat} (hz : asOK (edN (fin h r)) (8 * f) z) {s : AmT} (h1 : s.1 = smM z.1) (h2 : s.2.1 = nmM (edN (fin h r)) z.1 (z.2 % 8)) (h3 : s.2.2.1 = nmM (edN (fin h r)) z.1 (z.2 / 8)) (h4 : s.2.2.2.1 = nI 0) (h5 : s.2.2.2.2.1 = vst) :
    ∃ e : AmT, lp (fun s : AmT => f_X7_aside_B65 N vb mw mn mt tb vme vmo vdi vsi vor vab vbe vlo (nI f) s.1 s.2.1 s.2.2.1 s.2.2.2.1 s.2.2.2.2.1 s.2.2.2.2.2.1 s.2.2.2.2.2.2.1 s.2.2.2.2.2.2.2.1 s.2.2.2.2.2.2.2.2.1 s.2.2.2.2.2.2.2.2.2.1 s.2.2.2.2.2.2.2.2.2.2.1 s.2.2.2.2.2.2.2.2.2.2.2) N s = some e ∧ e.1 = smM (asI h r f z 5).1 ∧ e.2.1 = nmM (edN (fin h r)) (asI h r f z 5).1 ((asI h r f z 5).2 % 8) ∧ e.2.2.1 = nmM (edN (fin h r)) (asI h r f z 5).1 ((asI h r f z 5).2 / 8) ∧ e.2.2.2.2.1 = vst := by
  have hE0 := edN_le (fin_ok ok r)
  refine lp_rel0 (fun k s => s.1 = smM (asI h r f z k).1 ∧ s.2.1 = nmM (edN (fin h r)) (asI h r f z k).1 ((asI h r f z k).2 % 8) ∧ s.2.2.1 = nmM (edN (fin h r)) (asI h r f z k).1 ((asI h r f z k).2 / 8) ∧ s.2.2.2.1 = nI k ∧ s.2.2.2.2.1 = vst) _ 5 (by omega) ⟨h1, h2, h3, h4, h5⟩ ?_ ?_
  · rintro k hk s ⟨a1, a2, a3, a4, a5⟩
    left
    have ho := asI_ok (h := h) (r := r) hz k
    have hst := rr.2.1 k hk
    have hs2 := rok.2.1 k hk
    have hae := aeS_le ok (r := r) (f := f) (k := k)
    have E : asI h r f z (k + 1) = asK h r f k (asI h r f z k) := rfl
    rw [E]
    obtain ⟨i1, i2⟩ := ho
    generalize asI h r f z k = w at *
    -- the call
    have C : ∃ (p : Nat) (u : (Nat → Int32) × (Nat → Int32) × (Nat → Int32) × Int32 × Int32 × Int32 × Int32), p ≤ 32 ∧ f_X7_findEnd N vb mw mn mt tb s.2.2.2.2.2.2.2.2.2.1 vme vmo vdi vsi vor vab vbe (upd vst k (nI p)) vlo s.2.2.2.2.2.1 s.2.2.2.2.2.2.1 s.2.2.2.2.2.2.2.1 = some u ∧ u.2.2.2.2.2.2 = (if aeS h r f k < 32 then nI (aeS h r f k) else m4) ∧ (if bSt r k ≤ f then p = bSt r k else p = f) := by
      by_cases c : f < bSt r k
      · have rok' := bSk_ok rok (f := f) (k := k) (by omega)
        obtain ⟨u, U1, U2, U3⟩ := m_find0 ok t hN rok' (bSk_X rr f k) (tb := tb) (ta := s.2.2.2.2.2.2.2.2.2.1) W3 W4 W5 s.2.2.2.2.2.1 s.2.2.2.2.2.2.1 s.2.2.2.2.2.2.2.1
        refine ⟨f, u, by omega, U1, ?_, by rw [if_neg (by omega)]⟩
        have eE : aeS h r f k = edN (fin h (bSk r f k)) := if_pos c
        rw [U3, eE]
        have L := edN_lt (fin_ok ok (bSk r f k)) (fin_p h (bSk r f k))
        show enS (fin h (bSk r f k)) = _
        unfold enS
        by_cases d : (fin h (bSk r f k)).2.2.1 = 0
        · rw [if_pos d, if_neg (by rw [L]; exact fun q => q d)]
        · rw [if_neg d, if_pos (by rw [L]; exact d)]
          unfold edN; rw [if_neg d]
      · obtain ⟨u, U1, U2, U3⟩ := m_find0 ok t hN rok rr (tb := tb) (ta := s.2.2.2.2.2.2.2.2.2.1) W3 W4 W5 s.2.2.2.2.2.1 s.2.2.2.2.2.2.1 s.2.2.2.2.2.2.2.1
        refine ⟨bSt r k, u, by omega, ?_, ?_, by rw [if_pos (by omega)]⟩
        · rw [← hst, upd_self]; exact U1
        · have eE : aeS h r f k = edN (fin h r) := if_neg c
          rw [U3, eE]
          have L := edN_lt (fin_ok ok r) (fin_p h r)
          show enS (fin h r) = _
          unfold enS
          by_cases d : (fin h r).2.2.1 = 0
          · rw [if_pos d, if_neg (by rw [L]; exact fun q => q d)]
          · rw [if_neg d, if_pos (by rw [L]; exact d)]
            unfold edN; rw [if_neg d]
    obtain ⟨p, u, hp, U1, U2, P⟩ := C
    have B := upd_back vst k (nI p)
    rw [hst] at B
    have key : f_X7_aside_B65 N vb mw mn mt tb vme vmo vdi vsi vor vab vbe vlo (nI f) s.1 s.2.1 s.2.2.1 s.2.2.2.1 s.2.2.2.2.1 s.2.2.2.2.2.1 s.2.2.2.2.2.2.1 s.2.2.2.2.2.2.2.1 s.2.2.2.2.2.2.2.2.1 s.2.2.2.2.2.2.2.2.2.1 s.2.2.2.2.2.2.2.2.2.2.1 s.2.2.2.2.2.2.2.2.2.2.2 = f_X7_aside_L100 N vb mw mn mt tb s.2.2.2.2.2.2.2.2.2.1 vme vmo vdi vsi vor vab vbe vst vlo s.2.2.2.2.2.1 s.2.2.2.2.2.2.1 s.2.2.2.2.2.2.2.1 s.1 s.2.1 s.2.2.1 (nI k) (nI f) (nI (bSt r k)) (nI p) (nI k) := by
      by_cases c : bSt r k ≤ f
      · rw [if_pos c] at P
        subst P
        simp (disch := omega) only [f_X7_aside_B65, d_let, d_lef, d_ltt, d_ltf, d_eqt, d_eqf, ↓reduceIte, or_false, false_or, or_true, true_or, and_true, true_and, and_false, false_and, not_true_eq_false, not_false_eq_true, Bool.false_eq_true, Option.bind_some, q_ofNat, q_cl, q_lt, q_le, q_eq, nI_add, pk_mul, q_m1, q_m4, m1_lt, m1_le, m1_nlt, m1_nle, m1_ne, m1_ne2, m4_lt, m4_le, m4_nlt, m4_nle, m4_ne, m4_ne2, q_0, q_1, q_2, q_3, q_4, q_5, q_6, q_8, q_12, q_15, q_16, q_20, q_24, q_30, q_31, q_32, q_80, q_9, q_99, q_126, q_48, q_57, q_58, q_59, q_97, q_101, q_10, q_21, q_255, q_46656, a4, a5, hst]
      · rw [if_neg c] at P
        subst P
        simp (disch := omega) only [f_X7_aside_B65, d_let, d_lef, d_ltt, d_ltf, d_eqt, d_eqf, ↓reduceIte, or_false, false_or, or_true, true_or, and_true, true_and, and_false, false_and, not_true_eq_false, not_false_eq_true, Bool.false_eq_true, Option.bind_some, q_ofNat, q_cl, q_lt, q_le, q_eq, nI_add, pk_mul, q_m1, q_m4, m1_lt, m1_le, m1_nlt, m1_nle, m1_ne, m1_ne2, m4_lt, m4_le, m4_nlt, m4_nle, m4_ne, m4_ne2, q_0, q_1, q_2, q_3, q_4, q_5, q_6, q_8, q_12, q_15, q_16, q_20, q_24, q_30, q_31, q_32, q_80, q_9, q_99, q_126, q_48, q_57, q_58, q_59, q_97, q_101, q_10, q_21, q_255, q_46656, a4, a5, hst]
    have hsm : ∀ x, x ≤ 32 → (smM w.1 ≤ nI x) = (w.1 ≤ x ∧ w.1 < 32 ) := by
      intro x hx
      unfold smM
      by_cases c : w.1 = 32
      · rw [if_pos c, q_le (by omega) (by omega)]; exact (eq_false (by omega)).trans (eq_false (by omega)).symm
      · rw [if_neg c, q_le (by omega) (by omega)]; exact propext ⟨fun q => ⟨q, by omega⟩, fun q => q.1⟩
    unfold asK
    by_cases d : aeS h r f k < w.1
    · rw [if_pos d]
      have d2 : aeS h r f k < 32 := by omega
      rw [if_pos d2] at U2
      refine ⟨(nI (aeS h r f k), nI k, nI f, nI (k + 1), vst, u.1, u.2.1, u.2.2.1, u.2.2.2.1, u.2.2.2.2.1, u.2.2.2.2.2.1, nI (aeS h r f k)), ?_, ?_, ?_, ?_, rfl, rfl⟩
      · rw [key]
        have nsm : ¬ (smM w.1 ≤ nI (aeS h r f k)) := by rw [hsm _ (by omega)]; omega
        simp (disch := omega) only [f_X7_aside_L100, f_X7_aside_L141, d_let, d_lef, d_ltt, d_ltf, d_eqt, d_eqf, ↓reduceIte, or_false, false_or, or_true, true_or, and_true, true_and, and_false, false_and, not_true_eq_false, not_false_eq_true, Bool.false_eq_true, Option.bind_some, q_ofNat, q_cl, q_lt, q_le, q_eq, nI_add, pk_mul, q_m1, q_m4, m1_lt, m1_le, m1_nlt, m1_nle, m1_ne, m1_ne2, m4_lt, m4_le, m4_nlt, m4_nle, m4_ne, m4_ne2, q_0, q_1, q_2, q_3, q_4, q_5, q_6, q_8, q_12, q_15, q_16, q_20, q_24, q_30, q_31, q_32, q_80, q_9, q_99, q_126, q_48, q_57, q_58, q_59, q_97, q_101, q_10, q_21, q_255, q_46656, a1, U1, U2, B, nsm]
      · show nI _ = smM (aeS h r f k); unfold smM; rw [if_neg (by omega)]
      · show nI k = nmM _ (aeS h r f k) ((8 * f + k) % 8); unfold nmM; rw [if_pos (by omega)]; congr 1; omega
      · show nI f = nmM _ (aeS h r f k) ((8 * f + k) / 8); unfold nmM; rw [if_pos (by omega)]; congr 1; omega
    · rw [if_neg d]
      refine ⟨(s.1, s.2.1, s.2.2.1, nI (k + 1), vst, u.1, u.2.1, u.2.2.1, u.2.2.2.1, u.2.2.2.2.1, u.2.2.2.2.2.1, u.2.2.2.2.2.2), ?_, a1, a2, a3, rfl, rfl⟩
      rw [key]
      by_cases d2 : aeS h r f k < 32
      · rw [if_pos d2] at U2
        have nsm : (smM w.1 ≤ nI (aeS h r f k)) := by rw [hsm _ (by omega)]; omega
        simp (disch := omega) only [f_X7_aside_L100, f_X7_aside_L141, d_let, d_lef, d_ltt, d_ltf, d_eqt, d_eqf, ↓reduceIte, or_false, false_or, or_true, true_or, and_true, true_and, and_false, false_and, not_true_eq_false, not_false_eq_true, Bool.false_eq_true, Option.bind_some, q_ofNat, q_cl, q_lt, q_le, q_eq, nI_add, pk_mul, q_m1, q_m4, m1_lt, m1_le, m1_nlt, m1_nle, m1_ne, m1_ne2, m4_lt, m4_le, m4_nlt, m4_nle, m4_ne, m4_ne2, q_0, q_1, q_2, q_3, q_4, q_5, q_6, q_8, q_12, q_15, q_16, q_20, q_24, q_30, q_31, q_32, q_80, q_9, q_99, q_126, q_48, q_57, q_58, q_59, q_97, q_101, q_10, q_21, q_255, q_46656, a1, U1, U2, B, nsm]
      · rw [if_neg d2] at U2
        simp (disch := omega) only [f_X7_aside_L100, f_X7_aside_L141, d_let, d_lef, d_ltt, d_ltf, d_eqt, d_eqf, ↓reduceIte, or_false, false_or, or_true, true_or, and_true, true_and, and_false, false_and, not_true_eq_false, not_false_eq_true, Bool.false_eq_true, Option.bind_some, q_ofNat, q_cl, q_lt, q_le, q_eq, nI_add, pk_mul, q_m1, q_m4, m1_lt, m1_le, m1_nlt, m1_nle, m1_ne, m1_ne2, m4_lt, m4_le, m4_nlt, m4_nle, m4_ne, m4_ne2, q_0, q_1, q_2, q_3, q_4, q_5, q_6, q_8, q_12, q_15, q_16, q_20, q_24, q_30, q_31, q_32, q_80, q_9, q_99, q_126, q_48, q_57, q_58, q_59, q_97, q_101, q_10, q_21, q_255, q_46656, U1, U2, B]
  · rintro s ⟨a1, a2, a3, a4, a5⟩
    refine ⟨s, ?_, a1, a2, a3, a5⟩
    unfold f_X7_aside_B65
    rw [if_pos (by rw [a4]; decide)]
theorem m_asideO {h : Hl} (ok : hOK h) {vb : Int32} {vme vmo vdi vsi vor : Nat → Int32} (t : tX h vb vme vmo vdi vsi vor) {N : Nat} (hN : 200000 ≤ N) {r : Br} (rok : bOK r) {vab vbe vst vlo : Nat → Int32} (rr : rX r vab vbe vst vlo) {mw mn mt tb : Int32} (W3 : mw = wM 0) (W4 : ∃ k, k < 1000 ∧ mn = nI k) (W5 : mt = nI 0) {s : AmT} (h1 : s.1 = smM (edN (fin h r))) (h2 : s.2.1 = m4) (h3 : s.2.2.1 = m4) (h4 : s.2.2.2.1 = nI 0) (h5 : s.2.2.2.2.1 = vst) :
    ∃ e : AmT, lp (fun s : AmT => f_X7_aside_B55 N vb mw mn mt tb vme vmo vdi vsi vor vab vbe vlo s.1 s.2.1 s.2.2.1 s.2.2.2.1 s.2.2.2.2.1 s.2.2.2.2.2.1 s.2.2.2.2.2.2.1 s.2.2.2.2.2.2.2.1 s.2.2.2.2.2.2.2.2.1 s.2.2.2.2.2.2.2.2.2.1 s.2.2.2.2.2.2.2.2.2.2.1 s.2.2.2.2.2.2.2.2.2.2.2) N s = some e ∧ e.1 = smM (asO h r 8).1 ∧ e.2.1 = nmM (edN (fin h r)) (asO h r 8).1 ((asO h r 8).2 % 8) ∧ e.2.2.1 = nmM (edN (fin h r)) (asO h r 8).1 ((asO h r 8).2 / 8) ∧ e.2.2.2.2.1 = vst := by
  have z0 : nmM (edN (fin h r)) (asO h r 0).1 ((asO h r 0).2 % 8) = m4 := by unfold nmM; exact if_neg (Nat.lt_irrefl _)
  have z1 : nmM (edN (fin h r)) (asO h r 0).1 ((asO h r 0).2 / 8) = m4 := by unfold nmM; exact if_neg (Nat.lt_irrefl _)
  refine lp_rel0 (fun f s => s.1 = smM (asO h r f).1 ∧ s.2.1 = nmM (edN (fin h r)) (asO h r f).1 ((asO h r f).2 % 8) ∧ s.2.2.1 = nmM (edN (fin h r)) (asO h r f).1 ((asO h r f).2 / 8) ∧ s.2.2.2.1 = nI f ∧ s.2.2.2.2.1 = vst) _ 8 (by omega) ⟨h1, by rw [z0]; exact h2, by rw [z1]; exact h3, h4, h5⟩ ?_ ?_
  · rintro f hf s ⟨a1, a2, a3, a4, a5⟩
    left
    obtain ⟨e, E1, E2, E3, E4, E5⟩ := m_asideI ok t hN rok rr (tb := tb) W3 W4 W5 hf (asO_ok f) (s := (s.1, s.2.1, s.2.2.1, (0 : Int32), s.2.2.2.2.1, s.2.2.2.2.2.1, s.2.2.2.2.2.2.1, s.2.2.2.2.2.2.2.1, s.2.2.2.2.2.2.2.2.1, s.2.2.2.2.2.2.2.2.2.1, s.2.2.2.2.2.2.2.2.2.2.1, s.2.2.2.2.2.2.2.2.2.2.2)) a1 a2 a3 rfl a5
    refine ⟨(e.1, e.2.1, e.2.2.1, nI (f + 1), e.2.2.2.2.1, e.2.2.2.2.2.1, e.2.2.2.2.2.2.1, e.2.2.2.2.2.2.2.1, e.2.2.2.2.2.2.2.2.1, e.2.2.2.2.2.2.2.2.2.1, e.2.2.2.2.2.2.2.2.2.2.1, e.2.2.2.2.2.2.2.2.2.2.2), ?_, E2, E3, E4, rfl, E5⟩
    unfold f_X7_aside_B55
    rw [a4, if_neg (by rw [q_8, q_le (by omega) (by omega)]; omega), nI_1]
    exact b_run E1 rfl
  · rintro s ⟨a1, a2, a3, a4, a5⟩
    refine ⟨s, ?_, a1, a2, a3, a5⟩
    unfold f_X7_aside_B55
    rw [if_pos (by rw [a4]; decide)]
