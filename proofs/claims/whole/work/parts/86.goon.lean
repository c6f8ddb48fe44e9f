theorem wy_le (h : Hl) (tt : Nat) : 1 ≤ wyS h tt ∧ wyS h tt ≤ 16 := by
  rcases wy_is h tt with e | e | e <;> rw [e] <;> decide
theorem qE_le {h : Hl} (ok : hOK h) (tt : Nat) {e : Nat} (he : e < 4) : qE h tt e ≤ 16 := by
  have h1 := sm_at (f := qE h tt) 4 e he
  rw [q_sum ok] at h1
  have := wy_le h tt; omega
theorem x_inner {h : Hl} (ok : hOK h) {vb : Int32} {vme vmo vdi vsi vor : Nat → Int32} (t : tX h vb vme vmo vdi vsi vor) {N : Nat} (hN : 300000 ≤ N) {r : Br} (rok : bOK r) {vab vbe vst vlo : Nat → Int32} (rr : rX r vab vbe vst vlo) {tt : Nat} (ht : tt < 32) {nm : Nat} (hnm : nm < 5) {W B : Nat → Nat} {vs : Int32} {na nb nc : Nat} {va vc : Nat → Int32} {vw : Nat → Int64} (TN : Tb (Pk h) W vs na va nb vw nc vc) {A : Nat} {vs' : Int32} {na' nb' nc' : Nat} {va' vc' : Nat → Int32} {vw' : Nat → Int64} (TT : Tb (Pk h) B vs' na' va' nb' vw' nc' vc') {i : Nat} (hi : i < 2) (k1 k2 : Int32) (w1 w2 w3 : Nat → Int32) :
    ∃ u : SpT, lp (fun s : SpT => f_X1_goOn_B100 N vs na va nb vw vb vme vmo vdi vsi vor vab vbe vst (nI tt) (nI nm) (nI i) (fiI h tt 0) (fiI h tt 1) s.1 s.2.1 s.2.2.1 s.2.2.2.1 s.2.2.2.2.1 s.2.2.2.2.2.1 s.2.2.2.2.2.2.1 s.2.2.2.2.2.2.2.1 s.2.2.2.2.2.2.2.2.1 s.2.2.2.2.2.2.2.2.2.1 s.2.2.2.2.2.2.2.2.2.2.1 s.2.2.2.2.2.2.2.2.2.2.2.1 s.2.2.2.2.2.2.2.2.2.2.2.2.1 s.2.2.2.2.2.2.2.2.2.2.2.2.2) N ((0 : Int32), lN A, vs', na', va', nb', vw', nc', vc', k1, k2, w1, w2, w3) = some u ∧ u.2.1 = lN (A + sm (fun j => cgG h r tt (qE h tt) W nm (i + 2 * j)) 2) ∧ Tb (Pk h) (fun x => B x + sm (fun j => cgM h r tt (qE h tt) W x (i + 2 * j)) 2) u.2.2.1 u.2.2.2.1 u.2.2.2.2.1 u.2.2.2.2.2.1 u.2.2.2.2.2.2.1 u.2.2.2.2.2.2.2.1 u.2.2.2.2.2.2.2.2.1 := by
  refine lp_rel0 (fun j (s : SpT) => s.1 = nI j ∧ s.2.1 = lN (A + sm (fun j => cgG h r tt (qE h tt) W nm (i + 2 * j)) j) ∧ Tb (Pk h) (fun x => B x + sm (fun j => cgM h r tt (qE h tt) W x (i + 2 * j)) j) s.2.2.1 s.2.2.2.1 s.2.2.2.2.1 s.2.2.2.2.2.1 s.2.2.2.2.2.2.1 s.2.2.2.2.2.2.2.1 s.2.2.2.2.2.2.2.2.1) _ 2 (by omega) ⟨rfl, rfl, TT⟩ ?_ ?_
  · rintro j hj s ⟨h1, h2, h3⟩
    left
    have X0 := x_share ok t (by omega : 200000 ≤ N) (tt := tt) (k := 0) hi
    have X1 := x_share ok t (by omega : 200000 ≤ N) (tt := tt) (k := 1) hj
    have eq : shE h tt 0 i * shE h tt 1 j = qE h tt (i + 2 * j) := by
      unfold qE
      rw [show (i + 2 * j) % 2 = i by omega, show (i + 2 * j) / 2 = j by omega]
    have ql := qE_le ok tt (e := i + 2 * j) (by omega)
    by_cases c : qE h tt (i + 2 * j) = 0
    · refine ⟨(nI (j + 1), s.2), ?_, rfl, ?_, Tb_cong h3 (fun x => ?_)⟩
      · unfold f_X1_goOn_B100
        rw [h1, if_neg (by rw [q_2, q_le (by omega) (by omega)]; omega)]
        refine b_run X0 (b_run X1 ?_)
        rw [lN_mul, eq, if_pos ((l_pos (by omega)).2 c)]
        unfold f_X1_goOn_L156
        rw [nI_1]
      · show s.2.1 = lN (A + (sm (fun j => cgG h r tt (qE h tt) W nm (i + 2 * j)) j + cgG h r tt (qE h tt) W nm (i + 2 * j)))
        rw [h2, show cgG h r tt (qE h tt) W nm (i + 2 * j) = 0 from sm_zero 46656 (fun s _ => by rw [c, Nat.mul_zero]; split <;> rfl)]; rfl
      · show B x + (sm (fun j => cgM h r tt (qE h tt) W x (i + 2 * j)) j + cgM h r tt (qE h tt) W x (i + 2 * j)) = B x + sm (fun j => cgM h r tt (qE h tt) W x (i + 2 * j)) j
        rw [show cgM h r tt (qE h tt) W x (i + 2 * j) = 0 from sm_zero 46656 (fun s _ => by rw [c, Nat.mul_zero]; split <;> rfl)]; rfl
    · obtain ⟨u, U1, U2, U3⟩ := x_spread ok t hN rok rr ht hnm (i + 2 * j) (qE h tt (i + 2 * j)) TN (A := A + sm (fun j => cgG h r tt (qE h tt) W nm (i + 2 * j)) j) h3 s.2.2.2.2.2.2.2.2.2.1 s.2.2.2.2.2.2.2.2.2.2.1 s.2.2.2.2.2.2.2.2.2.2.2.1 s.2.2.2.2.2.2.2.2.2.2.2.2.1 s.2.2.2.2.2.2.2.2.2.2.2.2.2
      refine ⟨(nI (j + 1), u), ?_, rfl, ?_, Tb_cong U3 (fun x => ?_)⟩
      · unfold f_X1_goOn_B100
        rw [h1, if_neg (by rw [q_2, q_le (by omega) (by omega)]; omega)]
        refine b_run X0 (b_run X1 ?_)
        rw [lN_mul, eq, if_neg (fun z => c ((l_pos (by omega)).1 z))]
        refine b_run (x_luck ok hi) (b_run (x_luck ok hj) ?_)
        rw [q_or, lu_bs ok hi hj c, h2]
        refine b_run U1 ?_
        unfold f_X1_goOn_L156
        rw [nI_1]
      · show u.1 = lN (A + (sm (fun j => cgG h r tt (qE h tt) W nm (i + 2 * j)) j + cgG h r tt (qE h tt) W nm (i + 2 * j)))
        rw [U2, Nat.add_assoc]; rfl
      · show B x + (sm (fun j => cgM h r tt (qE h tt) W x (i + 2 * j)) j + cgM h r tt (qE h tt) W x (i + 2 * j)) = B x + sm (fun j => cgM h r tt (qE h tt) W x (i + 2 * j)) j + cgM h r tt (fun _ => qE h tt (i + 2 * j)) W x (i + 2 * j)
        rw [Nat.add_assoc]; rfl
  · rintro s ⟨h1, h2, h3⟩
    refine ⟨s, ?_, h2, h3⟩
    unfold f_X1_goOn_B100
    rw [if_pos (by rw [h1, q_2, q_le (by omega) (by omega)]; omega)]
theorem x_outer {h : Hl} (ok : hOK h) {vb : Int32} {vme vmo vdi vsi vor : Nat → Int32} (t : tX h vb vme vmo vdi vsi vor) {N : Nat} (hN : 300000 ≤ N) {r : Br} (rok : bOK r) {vab vbe vst vlo : Nat → Int32} (rr : rX r vab vbe vst vlo) {tt : Nat} (ht : tt < 32) {nm : Nat} (hnm : nm < 5) {W B : Nat → Nat} {vs : Int32} {na nb nc : Nat} {va vc : Nat → Int32} {vw : Nat → Int64} (TN : Tb (Pk h) W vs na va nb vw nc vc) {A : Nat} {vs' : Int32} {na' nb' nc' : Nat} {va' vc' : Nat → Int32} {vw' : Nat → Int64} (TT : Tb (Pk h) B vs' na' va' nb' vw' nc' vc') (k1 k2 : Int32) (w1 w2 w3 : Nat → Int32) :
    ∃ u : SpT, lp (fun s : SpT => f_X1_goOn_B91 N vs na va nb vw vb vme vmo vdi vsi vor vab vbe vst (nI tt) (nI nm) (fiI h tt 0) (fiI h tt 1) s.1 s.2.1 s.2.2.1 s.2.2.2.1 s.2.2.2.2.1 s.2.2.2.2.2.1 s.2.2.2.2.2.2.1 s.2.2.2.2.2.2.2.1 s.2.2.2.2.2.2.2.2.1 s.2.2.2.2.2.2.2.2.2.1 s.2.2.2.2.2.2.2.2.2.2.1 s.2.2.2.2.2.2.2.2.2.2.2.1 s.2.2.2.2.2.2.2.2.2.2.2.2.1 s.2.2.2.2.2.2.2.2.2.2.2.2.2) N ((0 : Int32), lN A, vs', na', va', nb', vw', nc', vc', k1, k2, w1, w2, w3) = some u ∧ u.2.1 = lN (A + gaW 46656 (wiE h r tt) (qE h tt) W nm) ∧ Tb (Pk h) (fun x => B x + stW 46656 (nxE h r tt) (wiE h r tt) (qE h tt) W x) u.2.2.1 u.2.2.2.1 u.2.2.2.2.1 u.2.2.2.2.2.1 u.2.2.2.2.2.2.1 u.2.2.2.2.2.2.2.1 u.2.2.2.2.2.2.2.2.1 := by
  refine lp_rel0 (fun i (s : SpT) => s.1 = nI i ∧ s.2.1 = lN (A + sm (fun i => sm (fun j => cgG h r tt (qE h tt) W nm (i + 2 * j)) 2) i) ∧ Tb (Pk h) (fun x => B x + sm (fun i => sm (fun j => cgM h r tt (qE h tt) W x (i + 2 * j)) 2) i) s.2.2.1 s.2.2.2.1 s.2.2.2.2.1 s.2.2.2.2.2.1 s.2.2.2.2.2.2.1 s.2.2.2.2.2.2.2.1 s.2.2.2.2.2.2.2.2.1) _ 2 (by omega) ⟨rfl, rfl, TT⟩ ?_ ?_
  · rintro i hi s ⟨h1, h2, h3⟩
    left
    obtain ⟨u, U1, U2, U3⟩ := x_inner ok t hN rok rr ht hnm TN (A := A + sm (fun i => sm (fun j => cgG h r tt (qE h tt) W nm (i + 2 * j)) 2) i) h3 hi s.2.2.2.2.2.2.2.2.2.1 s.2.2.2.2.2.2.2.2.2.2.1 s.2.2.2.2.2.2.2.2.2.2.2.1 s.2.2.2.2.2.2.2.2.2.2.2.2.1 s.2.2.2.2.2.2.2.2.2.2.2.2.2
    refine ⟨(nI (i + 1), u.2), ?_, rfl, ?_, Tb_cong U3 (fun x => ?_)⟩
    · unfold f_X1_goOn_B91
      rw [h1, if_neg (by rw [q_2, q_le (by omega) (by omega)]; omega), h2]
      refine b_run U1 ?_
      rw [nI_1]
    · show u.2.1 = lN (A + (sm (fun i => sm (fun j => cgG h r tt (qE h tt) W nm (i + 2 * j)) 2) i + sm (fun j => cgG h r tt (qE h tt) W nm (i + 2 * j)) 2))
      rw [U2, Nat.add_assoc]
    · show B x + (sm (fun i => sm (fun j => cgM h r tt (qE h tt) W x (i + 2 * j)) 2) i + sm (fun j => cgM h r tt (qE h tt) W x (i + 2 * j)) 2) = B x + sm (fun i => sm (fun j => cgM h r tt (qE h tt) W x (i + 2 * j)) 2) i + sm (fun j => cgM h r tt (qE h tt) W x (i + 2 * j)) 2
      rw [Nat.add_assoc]
  · rintro s ⟨h1, h2, h3⟩
    rw [sm22 (cgG h r tt (qE h tt) W nm), cgG_sum] at h2
    refine ⟨s, ?_, h2, Tb_cong h3 (fun x => ?_)⟩
    · unfold f_X1_goOn_B91
      rw [if_pos (by rw [h1, q_2, q_le (by omega) (by omega)]; omega)]
    · show B x + stW 46656 (nxE h r tt) (wiE h r tt) (qE h tt) W x = B x + sm (fun i => sm (fun j => cgM h r tt (qE h tt) W x (i + 2 * j)) 2) 2
      rw [sm22 (cgM h r tt (qE h tt) W x), cgM_sum]
theorem x_wyE {h : Hl} (ok : hOK h) (tt k : Nat) : (fiI h tt k = -1 ∧ wyE h tt k = 1) ∨ (¬ fiI h tt k = -1 ∧ wyE h tt k = 4) := by
  have h6 := ok.1
  unfold fiI wyE
  by_cases c : tt = 0 ∨ hLots h (hB h) ≤ k
  · left; rw [if_pos c, if_pos c]; exact ⟨rfl, rfl⟩
  · right; rw [if_neg c, if_neg c]
    have l := (lb_yes (h := h) (k := k) (by omega)).1
    exact ⟨by rw [show (-1 : Int32) = m1 from rfl, m1_ne (by omega)]; exact id, rfl⟩
abbrev GoT : Type := Int64 × Int64 × Int32 × Nat × (Nat → Int32) × Nat × (Nat → Int64) × Nat × (Nat → Int32) × Int32 × Nat × (Nat → Int32) × Nat × (Nat → Int64) × Nat × (Nat → Int32) × Int32 × Int32 × (Nat → Int32) × (Nat → Int32) × (Nat → Int32)
theorem x_oGo {h : Hl} (ok : hOK h) {vb : Int32} {vme vmo vdi vsi vor : Nat → Int32} (t : tX h vb vme vmo vdi vsi vor) {N : Nat} (hN : 300000 ≤ N) {r : Br} (rok : bOK r) {vab vbe vst vlo : Nat → Int32} (rr : rX r vab vbe vst vlo) {tt : Nat} (ht : tt < 32) {nm : Nat} (hnm : nm < 5) {W : Nat → Nat} {vs : Int32} {na nb nc : Nat} {va vc : Nat → Int32} {vw : Nat → Int64} (TN : Tb (Pk h) W vs na va nb vw nc vc) (A D : Nat) {na' nb' nc' : Nat} (len : lenO na' nb' nc') (va' vc' : Nat → Int32) (vw' : Nat → Int64) (k1 k2 : Int32) (w1 w2 w3 : Nat → Int32) :
    ∃ u : GoT, f_X1_goOn N (lN A) (lN D) vs na va nb vw nc vc na' va' nb' vw' nc' vc' k1 k2 w1 w2 w3 vb vme vmo vdi vsi vor vab vbe vst (nI tt) (nI nm) = some u ∧ u.1 = lN (A * wyS h tt + gaW 46656 (wiE h r tt) (qE h tt) W nm) ∧ u.2.1 = lN (D * wyS h tt) ∧ Tb (Pk h) (fun x => stW 46656 (nxE h r tt) (wiE h r tt) (qE h tt) W x) u.2.2.1 u.2.2.2.1 u.2.2.2.2.1 u.2.2.2.2.2.1 u.2.2.2.2.2.2.1 u.2.2.2.2.2.2.2.1 u.2.2.2.2.2.2.2.2.1 ∧ lenO u.2.2.2.2.2.2.2.2.2.2.1 u.2.2.2.2.2.2.2.2.2.2.2.2.1 u.2.2.2.2.2.2.2.2.2.2.2.2.2.2.1 := by
  have h6 := ok.1
  obtain ⟨v, V1, V2⟩ := x_empty hN (Pk h) len va' vw' vc'
  obtain ⟨u, U1, U2, U3⟩ := x_outer ok t hN rok rr ht hnm TN (A := A * wyS h tt) V2 k1 k2 w1 w2 w3
  have R56 : f_X1_goOn_L56 N (lN A) (lN D) vs na va nb vw nc vc na' va' nb' vw' nc' vc' k1 k2 w1 w2 w3 vb vme vmo vdi vsi vor vab vbe vst (nI tt) (nI nm) (fiI h tt 0) (fiI h tt 1) (lN (wyE h tt 1)) (lN (wyE h tt 0)) = some (u.2.1, lN (D * wyS h tt), u.2.2.1, u.2.2.2.1, u.2.2.2.2.1, u.2.2.2.2.2.1, u.2.2.2.2.2.2.1, u.2.2.2.2.2.2.2.1, u.2.2.2.2.2.2.2.2.1, vs, na, va, nb, vw, nc, vc, u.2.2.2.2.2.2.2.2.2.1, u.2.2.2.2.2.2.2.2.2.2.1, u.2.2.2.2.2.2.2.2.2.2.2.1, u.2.2.2.2.2.2.2.2.2.2.2.2.1, u.2.2.2.2.2.2.2.2.2.2.2.2.2) := by
    unfold f_X1_goOn_L56
    refine b_run V1 ?_
    rw [lN_mul, lN_mul, lN_mul, show wyE h tt 0 * wyE h tt 1 = wyS h tt from rfl]
    exact b_run U1 rfl
  have R28 : f_X1_goOn_L28 N (lN A) (lN D) vs na va nb vw nc vc na' va' nb' vw' nc' vc' k1 k2 w1 w2 w3 vb vme vmo vdi vsi vor vab vbe vst (nI tt) (nI nm) (fiI h tt 0) (fiI h tt 1) = some (u.2.1, lN (D * wyS h tt), u.2.2.1, u.2.2.2.1, u.2.2.2.2.1, u.2.2.2.2.2.1, u.2.2.2.2.2.2.1, u.2.2.2.2.2.2.2.1, u.2.2.2.2.2.2.2.2.1, vs, na, va, nb, vw, nc, vc, u.2.2.2.2.2.2.2.2.2.1, u.2.2.2.2.2.2.2.2.2.2.1, u.2.2.2.2.2.2.2.2.2.2.2.1, u.2.2.2.2.2.2.2.2.2.2.2.2.1, u.2.2.2.2.2.2.2.2.2.2.2.2.2) := by
    unfold f_X1_goOn_L28 f_X1_goOn_L43
    rcases x_wyE ok tt 0 with ⟨a, b⟩ | ⟨a, b⟩ <;> rcases x_wyE ok tt 1 with ⟨c, d⟩ | ⟨c, d⟩
    · rw [if_pos a, if_pos c]; rw [b, d] at R56; exact R56
    · rw [if_pos a, if_neg c]; rw [b, d] at R56; exact R56
    · rw [if_neg a, if_pos c]; rw [b, d] at R56; exact R56
    · rw [if_neg a, if_neg c]; rw [b, d] at R56; exact R56
  refine ⟨(u.2.1, lN (D * wyS h tt), u.2.2.1, u.2.2.2.1, u.2.2.2.2.1, u.2.2.2.2.2.1, u.2.2.2.2.2.2.1, u.2.2.2.2.2.2.2.1, u.2.2.2.2.2.2.2.2.1, vs, na, va, nb, vw, nc, vc, u.2.2.2.2.2.2.2.2.2.1, u.2.2.2.2.2.2.2.2.2.2.1, u.2.2.2.2.2.2.2.2.2.2.2.1, u.2.2.2.2.2.2.2.2.2.2.2.2.1, u.2.2.2.2.2.2.2.2.2.2.2.2.2), ?_, U2, rfl, Tb_cong U3 (fun x => (Nat.zero_add _).symm), Tb_len TN⟩
  by_cases c : tt = 0
  · have f0 : ∀ k, fiI h tt k = m1 := fun k => if_pos (Or.inl c)
    unfold f_X1_goOn f_X1_goOn_L13
    rw [if_pos (by rw [c]; rfl), if_pos (by rw [c]; rfl)]
    rw [f0, f0] at R28
    exact R28
  · have n0 : ¬ nI tt = 0 := nI_ne0 (by omega) (by omega)
    have L0 := x_lotB ok t (by omega : 200000 ≤ N) (i := 0) (by decide)
    have L1 := x_lotB ok t (by omega : 200000 ≤ N) (i := 1) (by decide)
    rw [fiI_t c] at L0 L1
    unfold f_X1_goOn f_X1_goOn_L13
    rw [if_neg n0]
    refine b_run L0 ?_
    rw [if_neg n0]
    exact b_run L1 R28
-- the course of the weights
def chW (h : Hl) (r : Br) (b0 : Nat) (c : Nat → Nat) : Nat → Nat → Nat
  | 0, x => if enc c = x then 1 else 0
  | k + 1, x => stW 46656 (nxE h r (b0 + k)) (wiE h r (b0 + k)) (qE h (b0 + k)) (chW h r b0 c k) x
def chA (h : Hl) (r : Br) (b0 : Nat) (c : Nat → Nat) (nm : Nat) : Nat → Nat
  | 0 => 0
  | k + 1 => chA h r b0 c nm k * wyS h (b0 + k) + gaW 46656 (wiE h r (b0 + k)) (qE h (b0 + k)) (chW h r b0 c k) nm
def chB (h : Hl) (b0 : Nat) : Nat → Nat
  | 0 => 1
  | k + 1 => chB h b0 k * wyS h (b0 + k)
def chF (h : Hl) (b0 : Nat) : Nat → Nat
  | 0 => 1
  | k + 1 => chF h b0 k * (16 / wyS h (b0 + k))
theorem chW_s (h : Hl) (r : Br) (b0 : Nat) (c : Nat → Nat) (k : Nat) : chW h r b0 c (k + 1) = stW 46656 (nxE h r (b0 + k)) (wiE h r (b0 + k)) (qE h (b0 + k)) (chW h r b0 c k) := rfl
theorem chBF (h : Hl) (b0 : Nat) : ∀ k, chB h b0 k * chF h b0 k = 16 ^ k := by
  intro k
  induction k with
  | zero => rfl
  | succ k ih =>
    show chB h b0 k * wyS h (b0 + k) * (chF h b0 k * (16 / wyS h (b0 + k))) = 16 ^ (k + 1)
    rw [Nat.mul_mul_mul_comm, ih, wy_16, Nat.pow_succ]
theorem chF_pos (h : Hl) (b0 : Nat) : ∀ k, 0 < chF h b0 k := by
  intro k
  induction k with
  | zero => show 0 < 1; decide
  | succ k ih =>
    refine Nat.mul_pos ih ?_
    have := wy_16 h (b0 + k)
    refine Nat.pos_of_ne_zero (fun z => ?_)
    rw [z] at this; omega
theorem chB_pow (h : Hl) (b0 : Nat) : ∀ k, ∃ j, j ≤ 4 * k ∧ chB h b0 k = 2 ^ j := by
  intro k
  induction k with
  | zero => exact ⟨0, by omega, rfl⟩
  | succ k ih =>
    obtain ⟨j, h1, h2⟩ := ih
    have e : chB h b0 (k + 1) = 2 ^ j * wyS h (b0 + k) := by rw [← h2]; rfl
    rcases wy_is h (b0 + k) with w | w | w
    · exact ⟨j, by omega, by rw [e, w, Nat.mul_one]⟩
    · exact ⟨j + 2, by omega, by rw [e, w, Nat.pow_add]⟩
    · exact ⟨j + 4, by omega, by rw [e, w, Nat.pow_add]⟩
theorem ch_mass {h : Hl} (ok : hOK h) (r : Br) (b0 : Nat) (c : Nat → Nat) (nm : Nat) : ∀ k, sm (chW h r b0 c k) 46656 + chA h r b0 c nm k ≤ chB h b0 k := by
  intro k
  induction k with
  | zero =>
    show sm (fun x => if enc c = x then (fun _ => 1) x else 0) 46656 + 0 ≤ 1
    rw [sm_one (fun _ => 1)]
    split <;> omega
  | succ k ih =>
    have m := mass (K := 46656) (nx := nxE h r (b0 + k)) (wi := wiE h r (b0 + k)) (q := qE h (b0 + k)) (W := chW h r b0 c k) nm
    rw [q_sum ok] at m
    have i2 := Nat.mul_le_mul_right (wyS h (b0 + k)) ih
    rw [Nat.add_mul] at i2
    rw [chW_s]
    show _ + (chA h r b0 c nm k * wyS h (b0 + k) + gaW 46656 (wiE h r (b0 + k)) (qE h (b0 + k)) (chW h r b0 c k) nm) ≤ chB h b0 k * wyS h (b0 + k)
    generalize sm (stW 46656 (nxE h r (b0 + k)) (wiE h r (b0 + k)) (qE h (b0 + k)) (chW h r b0 c k)) 46656 = X1 at *
    generalize gaW 46656 (wiE h r (b0 + k)) (qE h (b0 + k)) (chW h r b0 c k) nm = X2 at *
    generalize sm (chW h r b0 c k) 46656 * wyS h (b0 + k) = X3 at *
    generalize chA h r b0 c nm k * wyS h (b0 + k) = X4 at *
    generalize chB h b0 k * wyS h (b0 + k) = X5 at *
    omega
theorem chW_ok {h : Hl} (ok : hOK h) {r : Br} {b0 : Nat} {c : Nat → Nat} (hc : wOK h c) : ∀ k x, chW h r b0 c k x ≠ 0 → x < 46656 ∧ Pk h x := by
  intro k
  induction k with
  | zero =>
    intro x hx
    have e : enc c = x := Classical.byContradiction (fun z => hx (if_neg z))
    rw [← e]
    refine ⟨enc_lt (wOK_lt ok hc), ?_⟩
    show wOK h (dec (enc c))
    rw [dec_fun ok hc]; exact hc
  | succ k ih =>
    intro x hx
    obtain ⟨s, e, _, h2, h3⟩ := stW_nz hx
    rw [← h3]
    exact nxE_ok ok (ih s h2).2
abbrev RkT : Type := Int32 × Int64 × Int64 × Int32 × Nat × (Nat → Int32) × Nat × (Nat → Int64) × Nat × (Nat → Int32) × Int32 × Nat × (Nat → Int32) × Nat × (Nat → Int64) × Nat × (Nat → Int32) × Int32 × Int32 × (Nat → Int32) × (Nat → Int32) × (Nat → Int32)
def rkE (h : Hl) (r : Br) (b0 : Nat) (c : Nat → Nat) (nm n : Nat) (e : RkT) : Prop := ∃ k, k ≤ n ∧ b0 + k ≤ 32 ∧ (k = n ∨ b0 + k = 32 ∨ ∀ x, x < 46656 → chW h r b0 c k x = 0) ∧ e.2.1 = lN (chA h r b0 c nm k) ∧ e.2.2.1 = lN (chB h b0 k) ∧ lenO e.2.2.2.2.1 e.2.2.2.2.2.2.1 e.2.2.2.2.2.2.2.2.1 ∧ lenO e.2.2.2.2.2.2.2.2.2.2.2.1 e.2.2.2.2.2.2.2.2.2.2.2.2.2.1 e.2.2.2.2.2.2.2.2.2.2.2.2.2.2.2.1
theorem Tb_0 {P : Nat → Prop} {W : Nat → Nat} {vs : Int32} {a b c : Nat} {va vc : Nat → Int32} {vb : Nat → Int64} (h : Tb P W vs a va b vb c vc) : ∃ n, n ≤ 65536 ∧ vs = nI n ∧ (n = 0 → ∀ x, W x = 0) := by
  obtain ⟨k, n, st, wt, sl, h1, h2, _, _, _, h6, _, _, _, _, h11⟩ := h
  have := p_k h1
  exact ⟨n, by omega, h6, fun z x => by rw [← h11 x, z]; rfl⟩
theorem x_rkLoop {h : Hl} (ok : hOK h) {vb : Int32} {vme vmo vdi vsi vor : Nat → Int32} (t : tX h vb vme vmo vdi vsi vor) {N : Nat} (hN : 300000 ≤ N) {r : Br} (rok : bOK r) {vab vbe vst vlo : Nat → Int32} (rr : rX r vab vbe vst vlo) {b0 : Nat} (hb : b0 ≤ 32) {c : Nat → Nat} {nm : Nat} (hnm : nm < 5) {n : Nat} (hn : n ≤ 12) {s : RkT} (h1 : s.1 = nI 0) (h2 : s.2.1 = lN 0) (h3 : s.2.2.1 = lN 1) (h4 : Tb (Pk h) (chW h r b0 c 0) s.2.2.2.1 s.2.2.2.2.1 s.2.2.2.2.2.1 s.2.2.2.2.2.2.1 s.2.2.2.2.2.2.2.1 s.2.2.2.2.2.2.2.2.1 s.2.2.2.2.2.2.2.2.2.1) (h5 : lenO s.2.2.2.2.2.2.2.2.2.2.2.1 s.2.2.2.2.2.2.2.2.2.2.2.2.2.1 s.2.2.2.2.2.2.2.2.2.2.2.2.2.2.2.1) :
    ∃ e : RkT, lp (fun s : RkT => f_X1_reckon_B52 N vb vme vmo vdi vsi vor vab vbe vst (nI b0) (nI nm) (nI n) s.1 s.2.1 s.2.2.1 s.2.2.2.1 s.2.2.2.2.1 s.2.2.2.2.2.1 s.2.2.2.2.2.2.1 s.2.2.2.2.2.2.2.1 s.2.2.2.2.2.2.2.2.1 s.2.2.2.2.2.2.2.2.2.1 s.2.2.2.2.2.2.2.2.2.2.1 s.2.2.2.2.2.2.2.2.2.2.2.1 s.2.2.2.2.2.2.2.2.2.2.2.2.1 s.2.2.2.2.2.2.2.2.2.2.2.2.2.1 s.2.2.2.2.2.2.2.2.2.2.2.2.2.2.1 s.2.2.2.2.2.2.2.2.2.2.2.2.2.2.2.1 s.2.2.2.2.2.2.2.2.2.2.2.2.2.2.2.2.1 s.2.2.2.2.2.2.2.2.2.2.2.2.2.2.2.2.2.1 s.2.2.2.2.2.2.2.2.2.2.2.2.2.2.2.2.2.2.1 s.2.2.2.2.2.2.2.2.2.2.2.2.2.2.2.2.2.2.2.1 s.2.2.2.2.2.2.2.2.2.2.2.2.2.2.2.2.2.2.2.2.1 s.2.2.2.2.2.2.2.2.2.2.2.2.2.2.2.2.2.2.2.2.2) N s = some e ∧ rkE h r b0 c nm n e := by
  refine lp_rel0 (fun k (s : RkT) => s.1 = nI k ∧ b0 + k ≤ 32 ∧ s.2.1 = lN (chA h r b0 c nm k) ∧ s.2.2.1 = lN (chB h b0 k) ∧ Tb (Pk h) (chW h r b0 c k) s.2.2.2.1 s.2.2.2.2.1 s.2.2.2.2.2.1 s.2.2.2.2.2.2.1 s.2.2.2.2.2.2.2.1 s.2.2.2.2.2.2.2.2.1 s.2.2.2.2.2.2.2.2.2.1 ∧ lenO s.2.2.2.2.2.2.2.2.2.2.2.1 s.2.2.2.2.2.2.2.2.2.2.2.2.2.1 s.2.2.2.2.2.2.2.2.2.2.2.2.2.2.2.1) _ n (by omega) ⟨h1, by omega, h2, h3, h4, h5⟩ ?_ ?_
  · rintro k hk s ⟨a1, a2, a3, a4, a5, a6⟩
    obtain ⟨m, m1, m2, m3⟩ := Tb_0 a5
    by_cases d : b0 + k = 32
    · right
      refine ⟨s, ?_, k, by omega, a2, Or.inr (Or.inl d), a3, a4, Tb_len a5, a6⟩
      unfold f_X1_reckon_B52
      rw [if_neg (by rw [a1, q_le (by omega) (by omega)]; omega), if_pos (by rw [a1, nI_add, q_32, q_le (by omega) (by omega)]; omega)]
    · by_cases z : m = 0
      · right
        refine ⟨s, ?_, k, by omega, a2, Or.inr (Or.inr (fun x _ => m3 z x)), a3, a4, Tb_len a5, a6⟩
        unfold f_X1_reckon_B52
        rw [if_neg (by rw [a1, q_le (by omega) (by omega)]; omega), if_neg (by rw [a1, nI_add, q_32, q_le (by omega) (by omega)]; omega), if_pos (by rw [m2, z]; decide)]
      · left
        obtain ⟨u, U1, U2, U3, U4, U5⟩ := x_oGo ok t hN rok rr (tt := b0 + k) (by omega) hnm a5 (chA h r b0 c nm k) (chB h b0 k) a6 s.2.2.2.2.2.2.2.2.2.2.2.2.1 s.2.2.2.2.2.2.2.2.2.2.2.2.2.2.2.2.1 s.2.2.2.2.2.2.2.2.2.2.2.2.2.2.1 s.2.2.2.2.2.2.2.2.2.2.2.2.2.2.2.2.2.1 s.2.2.2.2.2.2.2.2.2.2.2.2.2.2.2.2.2.2.1 s.2.2.2.2.2.2.2.2.2.2.2.2.2.2.2.2.2.2.2.1 s.2.2.2.2.2.2.2.2.2.2.2.2.2.2.2.2.2.2.2.2.1 s.2.2.2.2.2.2.2.2.2.2.2.2.2.2.2.2.2.2.2.2.2
        refine ⟨(nI (k + 1), u), ?_, rfl, by omega, U2, U3, U4, U5⟩
        unfold f_X1_reckon_B52
        rw [if_neg (by rw [a1, q_le (by omega) (by omega)]; omega), if_neg (by rw [a1, nI_add, q_32, q_le (by omega) (by omega)]; omega), if_neg (by rw [m2, q_0, q_le (by omega) (by omega)]; omega), a1, nI_add, a3, a4]
        refine b_run U1 ?_
        rw [nI_1]
  · rintro s ⟨a1, a2, a3, a4, a5, a6⟩
    refine ⟨s, ?_, n, by omega, a2, Or.inl rfl, a3, a4, Tb_len a5, a6⟩
    unfold f_X1_reckon_B52
    rw [if_pos (by rw [a1, q_le (by omega) (by omega)]; omega)]
