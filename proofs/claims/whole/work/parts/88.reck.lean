-- the answer: T ballots were reckoned, a' / b' are the lowest terms
def ansS (h : Hl) (r : Br) (b0 : Nat) (c : Nat → Nat) (nm n a' b' : Nat) : Prop := ∃ T j, T ≤ n ∧ b0 + T ≤ 32 ∧ (T = n ∨ b0 + T = 32 ∨ ∀ x, x < 46656 → chW h r b0 c T x = 0) ∧ chA h r b0 c nm T = a' * 2 ^ j ∧ chB h b0 T = b' * 2 ^ j ∧ Nat.gcd a' b' = 1
theorem x_reckon {h : Hl} (ok : hOK h) {vb : Int32} {vme vmo vdi vsi vor : Nat → Int32} (t : tX h vb vme vmo vdi vsi vor) {N : Nat} (hN : 300000 ≤ N) {r : Br} (rok : bOK r) {vab vbe vst vlo : Nat → Int32} (rr : rX r vab vbe vst vlo) {b0 : Nat} (hb : b0 ≤ 32) {c : Nat → Nat} (hc : wOK h c) {vwr : Nat → Int32} (hw : ∀ b, b < 6 → vwr b = wX (c b)) {nm : Nat} (hnm : nm < 5) {n : Nat} (hn : n ≤ 12) {na nb nc : Nat} (len : lenO na nb nc) (va vc : Nat → Int32) (vw : Nat → Int64) (vs' : Int32) {na' nb' nc' : Nat} (len' : lenO na' nb' nc') (va' vc' : Nat → Int32) (vw' : Nat → Int64) (k1 k2 : Int32) (w1 w2 w3 : Nat → Int32) :
    ∃ (u : GoT) (a' b' : Nat), f_X1_reckon N na va nb vw nc vc vs' na' va' nb' vw' nc' vc' k1 k2 w1 w2 w3 vb vme vmo vdi vsi vor vab vbe vst (nI b0) (wX 0) vwr (nI nm) (nI n) = some u ∧ u.1 = lN a' ∧ u.2.1 = lN b' ∧ lenO u.2.2.2.1 u.2.2.2.2.2.1 u.2.2.2.2.2.2.2.1 ∧ lenO u.2.2.2.2.2.2.2.2.2.2.1 u.2.2.2.2.2.2.2.2.2.2.2.2.1 u.2.2.2.2.2.2.2.2.2.2.2.2.2.2.1 ∧ ansS h r b0 c nm n a' b' := by
  obtain ⟨v, V1, V2⟩ := x_empty hN (Pk h) len va vw vc
  have el := enc_lt (wOK_lt ok hc)
  have ep : Pk h (enc c) := by
    show wOK h (dec (enc c))
    rw [dec_fun ok hc]; exact hc
  have ST := x_state (by omega : 200000 ≤ N) hw
  obtain ⟨q, Q1, Q2⟩ := x_add hN V2 el ep 1
  have Q3 : Tb (Pk h) (chW h r b0 c 0) q.1 q.2.1 q.2.2.1 q.2.2.2.1 q.2.2.2.2.1 q.2.2.2.2.2.1 q.2.2.2.2.2.2 := Tb_cong Q2 (fun x => by
    show (if enc c = x then 1 else 0) = 0 + (if x = enc c then 1 else 0)
    by_cases d : enc c = x
    · rw [if_pos d, if_pos d.symm]
    · rw [if_neg d, if_neg (fun z => d z.symm)])
  obtain ⟨e, E1, T, E2, E3, E4, E5, E6, E7, E8⟩ := x_rkLoop ok t hN rok rr hb (c := c) hnm hn (s := ((0 : Int32), lN 0, lN 1, q.1, q.2.1, q.2.2.1, q.2.2.2.1, q.2.2.2.2.1, q.2.2.2.2.2.1, q.2.2.2.2.2.2, vs', na', va', nb', vw', nc', vc', k1, k2, w1, w2, w3)) rfl rfl rfl Q3 len'
  obtain ⟨j0, J1, J2⟩ := chB_pow h b0 T
  have ms := ch_mass ok r b0 c nm T
  have p48 : 2 ^ j0 ≤ 2 ^ 48 := Nat.pow_le_pow_right (by decide) (by omega)
  rw [J2] at ms
  obtain ⟨a', b', j, L1, L2, L3, L4⟩ := x_lower (by omega : 200000 ≤ N) (a := chA h r b0 c nm T) (k := j0) (by omega) (by omega)
  rw [← J2] at L1 L3
  refine ⟨(lN a', lN b', e.2.2.2.1, e.2.2.2.2.1, e.2.2.2.2.2.1, e.2.2.2.2.2.2.1, e.2.2.2.2.2.2.2.1, e.2.2.2.2.2.2.2.2.1, e.2.2.2.2.2.2.2.2.2.1, e.2.2.2.2.2.2.2.2.2.2.1, e.2.2.2.2.2.2.2.2.2.2.2.1, e.2.2.2.2.2.2.2.2.2.2.2.2.1, e.2.2.2.2.2.2.2.2.2.2.2.2.2.1, e.2.2.2.2.2.2.2.2.2.2.2.2.2.2.1, e.2.2.2.2.2.2.2.2.2.2.2.2.2.2.2.1, e.2.2.2.2.2.2.2.2.2.2.2.2.2.2.2.2.1, e.2.2.2.2.2.2.2.2.2.2.2.2.2.2.2.2.2.1, e.2.2.2.2.2.2.2.2.2.2.2.2.2.2.2.2.2.2.1, e.2.2.2.2.2.2.2.2.2.2.2.2.2.2.2.2.2.2.2.1, e.2.2.2.2.2.2.2.2.2.2.2.2.2.2.2.2.2.2.2.2.1, e.2.2.2.2.2.2.2.2.2.2.2.2.2.2.2.2.2.2.2.2.2), a', b', ?_, rfl, rfl, E7, E8, T, j, E2, E3, E4, L2, L3, L4⟩
  unfold f_X1_reckon f_X1_reckon_L14 f_X1_reckon_L49
  rw [if_neg (show ¬ wX 0 = nI nm from fun z => by rw [eq_comm, q_wX (by omega) (by omega)] at z; omega)]
  refine b_run V1 ?_
  rw [if_pos (show wX 0 = -1 from rfl)]
  refine b_run ST (b_run Q1 (b_run E1 ?_))
  rw [E5, E6]
  exact b_run L1 rfl
theorem x_low1 {N : Nat} (hN : 300000 ≤ N) {a : Nat} (ha : a ≤ 1) : f_X1_lower N (lN a) (lN 1) = some (lN a, lN 1) := by
  obtain ⟨n', rfl⟩ : ∃ n', N = n' + 1 := ⟨N - 1, by omega⟩
  unfold f_X1_lower
  refine b_run (lp_stop (r := (lN a, lN 1)) ?_) rfl
  show f_X1_lower_B2 0 (lN a) (lN 1) = _
  unfold f_X1_lower_B2
  have c1 : ¬ lg_cmp (lN 1 &&& 1) 0 = 0 := by decide
  rw [if_neg (by decide)]
  by_cases c : lg_cmp (lN a &&& 1) 0 = 0
  · rw [if_pos c, if_neg c1]
  · rw [if_neg c]
theorem x_reckonC {h : Hl} (ok : hOK h) {vb : Int32} {vme vmo vdi vsi vor : Nat → Int32} (t : tX h vb vme vmo vdi vsi vor) {N : Nat} (hN : 300000 ≤ N) (vab vbe vst : Nat → Int32) {cc : Nat} (h0 : cc ≠ 0) (hcc : cc ≤ 5) (ba : Int32) (vwr : Nat → Int32) {nm : Nat} (hnm : nm < 5) (xn : Int32) {na nb nc : Nat} (len : lenO na nb nc) (va vc : Nat → Int32) (vw : Nat → Int64) (vs' : Int32) {na' nb' nc' : Nat} (len' : lenO na' nb' nc') (va' vc' : Nat → Int32) (vw' : Nat → Int64) (k1 k2 : Int32) (w1 w2 w3 : Nat → Int32) :
    ∃ u : GoT, f_X1_reckon N na va nb vw nc vc vs' na' va' nb' vw' nc' vc' k1 k2 w1 w2 w3 vb vme vmo vdi vsi vor vab vbe vst ba (wX cc) vwr (nI nm) xn = some u ∧ u.1 = lN (if cc = nm + 1 then 1 else 0) ∧ u.2.1 = lN 1 ∧ lenO u.2.2.2.1 u.2.2.2.2.2.1 u.2.2.2.2.2.2.2.1 ∧ lenO u.2.2.2.2.2.2.2.2.2.2.1 u.2.2.2.2.2.2.2.2.2.2.2.2.1 u.2.2.2.2.2.2.2.2.2.2.2.2.2.2.1 := by
  obtain ⟨v, V1, V2⟩ := x_empty hN (Pk h) len va vw vc
  have a1 : (if cc = nm + 1 then 1 else 0) ≤ 1 := by split <;> omega
  have L1 := x_low1 hN a1
  have R : f_X1_reckon_L14 N na va nb vw nc vc vs' na' va' nb' vw' nc' vc' k1 k2 w1 w2 w3 vb vme vmo vdi vsi vor vab vbe vst ba (wX cc) vwr (nI nm) xn (lN (if cc = nm + 1 then 1 else 0)) = some (lN (if cc = nm + 1 then 1 else 0), lN 1, 0, na, va, nb, vw, nc, v, vs', na', va', nb', vw', nc', vc', k1, k2, w1, w2, w3) := by
    obtain ⟨n', rfl⟩ : ∃ n', N = n' + 1 := ⟨N - 1, by omega⟩
    unfold f_X1_reckon_L14 f_X1_reckon_L49
    refine b_run V1 ?_
    rw [if_neg (show ¬ wX cc = -1 by rw [show (-1 : Int32) = m1 from rfl, q_wXm (by omega)]; exact h0)]
    refine b_run (lp_stop (r := ((0 : Int32), lN (if cc = nm + 1 then 1 else 0), (1 : Int64), (0 : Int32), na, va, nb, vw, nc, v, vs', na', va', nb', vw', nc', vc', k1, k2, w1, w2, w3)) ?_) (b_run L1 rfl)
    dsimp only
    unfold f_X1_reckon_B52
    split
    · rfl
    · split
      · rfl
      · rw [if_pos (by decide)]
  refine ⟨(lN (if cc = nm + 1 then 1 else 0), lN 1, 0, na, va, nb, vw, nc, v, vs', na', va', nb', vw', nc', vc', k1, k2, w1, w2, w3), ?_, rfl, rfl, len, len'⟩
  unfold f_X1_reckon
  by_cases d : cc = nm + 1
  · rw [if_pos d] at R ⊢
    rw [if_pos (by rw [d]; rfl)]
    exact R
  · rw [if_neg d] at R ⊢
    rw [if_neg (fun z => by rw [eq_comm, q_wX (by omega) (by omega)] at z; exact d z)]
    exact R
theorem m_chance {h : Hl} (ok : hOK h) {vb : Int32} {vme vmo vdi vsi vor : Nat → Int32} (t : tX h vb vme vmo vdi vsi vor) {N : Nat} (hN : 200000 ≤ N) {r : Br} (rok : bOK r) {vab vbe vst vlo : Nat → Int32} (rr : rX r vab vbe vst vlo) {b0 : Nat} (hb : b0 ≤ 32) {c : Nat → Nat} (hc : wOK h c) {vwr : Nat → Int32} (hw : ∀ b, b < 6 → vwr b = wM (c b)) {wk : Nat} (hwk : wk < 1000) {nm : Nat} (hnm : nm < 5) {n : Nat} (h1n : 1 ≤ n) (hn : n ≤ 12) {wh : Nat} (hwh : wh ≤ 1) (h0 : hB h ≠ 0) {a' b' : Nat} (an : ansS h r b0 c nm n a' b') (us cu isT tb ta : Int32) (v1 v2 v3 : Nat → Int32) (wa mo : Nat → Int64) :
    ∃ u : Int64 × (Nat → Int32) × (Nat → Int32) × (Nat → Int32) × Int32 × Int32 × Int32 × Int32 × (Nat → Int64) × (Nat → Int64), f_X7_chance N vb (nI b0) us (wM 0) cu (wM 0) (nI wk) isT tb ta vme vmo vdi vsi vor vab vbe vst vlo vwr v1 v2 v3 wa mo (nI nm) (nI n) (nI wh) = some u ∧ u.1 = (if wh = 0 then lN a' else lN b') ∧ u.2.2.2.2.2.1 = nI 0 := by
  have h6 := ok.1
  obtain ⟨T, j, T1, T2, T3, A1, B1, G1⟩ := an
  obtain ⟨u, U1, U2, U3⟩ := m_waysFor ok t hN rok rr hb hc hwk hnm hn T1 T2 T3 hw us tb ta v1 v2 v3 wa mo
  have g0 : 0 < chF h b0 T * 16 ^ (n - T) := Nat.mul_pos (chF_pos h b0 T) (Nat.pow_pos (by decide))
  have wg : 2 ^ (4 * n) = chB h b0 T * (chF h b0 T * 16 ^ (n - T)) := by
    rw [← Nat.mul_assoc, chBF, ← Nat.pow_add, Nat.pow_mul, show T + (n - T) = n by omega]
  have ms := ch_mass ok r b0 c nm T
  have sl : chA h r b0 c nm T * (chF h b0 T * 16 ^ (n - T)) ≤ 2 ^ (4 * n) := by
    rw [wg]; exact Nat.mul_le_mul_right _ (by omega)
  have p48 : 2 ^ (4 * n) ≤ 2 ^ 48 := Nat.pow_le_pow_right (by decide) (by omega)
  have pp := Nat.two_pow_pos (4 * n)
  rw [Nat.mul_assoc] at U2
  have CM := m_common hN (x := chA h r b0 c nm T * (chF h b0 T * 16 ^ (n - T))) (y := 2 ^ (4 * n)) (by omega) (by omega)
  have LW := low2 A1 B1 G1 g0
  rw [← wg] at LW
  have gp : 0 < Nat.gcd (chA h r b0 c nm T * (chF h b0 T * 16 ^ (n - T))) (2 ^ (4 * n)) := Nat.gcd_pos_of_pos_right _ pp
  have gl : Nat.gcd (chA h r b0 c nm T * (chF h b0 T * 16 ^ (n - T))) (2 ^ (4 * n)) ≤ 2 ^ (4 * n) := Nat.gcd_le_right _ pp
  have SH : ((1 : Int64) <<< (((4 : Int32) * nI n).toInt64 &&& 63)) = lN (2 ^ (4 * n)) := by
    rw [q_4, pk_mul, show (1 : Int64) = lN 1 from rfl, l_shl 1 (by omega), Nat.one_mul]
  generalize Nat.gcd (chA h r b0 c nm T * (chF h b0 T * 16 ^ (n - T))) (2 ^ (4 * n)) = g at *
  have gz : ¬ lN g = 0 := by rw [show (0 : Int64) = lN 0 from rfl, pk_lEQ (by omega) (by decide)]; omega
  refine ⟨((if wh = 0 then lN a' else lN b'), u.2.1, u.2.2.1, u.2.2.2.1, u.2.2.2.2.1, u.2.2.2.2.2.1, u.2.2.2.2.2.2.1, u.2.2.2.2.2.2.2.1, u.2.2.2.2.2.2.2.2.1, u.2.2.2.2.2.2.2.2.2), ?_, rfl, U3⟩
  unfold f_X7_chance f_X7_isName
  rw [mi_0_4, mi_1_12, mi_0_1, if_pos (by rw [nI_toInt (by omega)]; omega), if_pos (by rw [nI_toInt (by omega)]; omega), if_pos (by rw [nI_toInt (by omega)]; omega)]
  refine b_run (b_run rfl (if_neg (by decide))) ?_
  rw [if_neg (show ¬ nI 1 = 0 by decide), Option.bind_some, if_neg (show ¬ nI 1 = 0 by decide), Option.bind_some, if_neg (show ¬ nI 1 = 0 by decide), if_neg (by rw [t.1]; exact nI_ne0 (by omega) (by omega)), if_pos (show wM 0 < 0 by decide)]
  refine b_run U1 ?_
  rw [SH, U2]
  refine b_run CM ?_
  by_cases z : wh = 0
  · rw [if_pos (by rw [z]; rfl), if_neg gz, if_pos z, pk_lDiv (by omega) gp (by omega), LW.1]
  · rw [if_neg (nI_ne0 (by omega) (by omega)), if_neg gz, if_neg z, pk_lDiv (by omega) gp (by omega), LW.2]
theorem len_bd {a b c : Nat} (h : lenO a b c) : 192 ≤ a + b + c ∧ a + b + c ≤ 393216 := by
  obtain ⟨k, hk, rfl, rfl, rfl⟩ := h
  have := p_k hk
  omega
