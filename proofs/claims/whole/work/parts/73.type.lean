def by8 (w : Int64) (i : Nat) : Nat := w.toBitVec.toNat / 2 ^ (8 * i) % 256
theorem by8_lt (w : Int64) (i : Nat) : by8 w i < 256 := Nat.mod_lt _ (by decide)
theorem sh_u {i : Nat} (hi : i < 8) : (((8 : Int32) * nI i).toInt64.toUInt64 &&& Int64.toUInt64 63) = UInt64.ofNat (8 * i) := co_dec (N := 8) (P := fun i => (((8 : Int32) * nI i).toInt64.toUInt64 &&& Int64.toUInt64 63) = UInt64.ofNat (8 * i)) (by decide +kernel) hi
theorem sh_s {i : Nat} (hi : i < 8) : ((((8 : Int32) * nI i).toInt64 &&& 63).toBitVec.smod 64).toNat = 8 * i := co_dec (N := 8) (P := fun i => ((((8 : Int32) * nI i).toInt64 &&& 63).toBitVec.smod 64).toNat = 8 * i) (by decide +kernel) hi
theorem un_nat (w : Int64) {i : Nat} (hi : i < 8) : (w.toUInt64 >>> UInt64.ofNat (8 * i)).toInt64.toBitVec.toNat = w.toBitVec.toNat / 2 ^ (8 * i) := by
  show (w.toUInt64 >>> UInt64.ofNat (8 * i)).toNat = _
  rw [UInt64.toNat_shiftRight, UInt64.toNat_ofNat', Nat.mod_eq_of_lt (show 8 * i % 2 ^ 64 < 64 by rw [Nat.mod_eq_of_lt (by omega)]; omega), Nat.mod_eq_of_lt (by omega), Nat.shiftRight_eq_div_pow]
  rfl
theorem l_255 {x : Int64} {n : Nat} (h : x.toBitVec.toNat % 256 = n) : x &&& 255 = lN n := by
  apply Int64.toBitVec_inj.1
  apply BitVec.eq_of_toNat_eq
  show (x.toBitVec &&& (255 : Int64).toBitVec).toNat = (BitVec.ofNat 64 n).toNat
  rw [BitVec.toNat_and, BitVec.toNat_ofNat, show (255 : Int64).toBitVec.toNat = 2 ^ 8 - 1 from rfl, Nat.and_two_pow_sub_one_eq_mod]
  have : x.toBitVec.toNat % 256 < 256 := Nat.mod_lt _ (by decide)
  rw [show (2 : Nat) ^ 8 = 256 from rfl, h, Nat.mod_eq_of_lt (by omega)]
theorem cl_byte (w : Int64) {i : Nat} (hi : i < 8) : ((w.toUInt64 >>> (((8 : Int32) * nI i).toInt64.toUInt64 &&& Int64.toUInt64 63)).toInt64 &&& 255) = lN (by8 w i) := by
  rw [sh_u hi]
  exact l_255 (by rw [un_nat w hi]; rfl)
theorem mo_byte (w : Int64) {i : Nat} (hi : i < 8) : ((w >>> (((8 : Int32) * nI i).toInt64 &&& 63)) &&& 255) = lN (by8 w i) := by
  rw [← cl_byte w hi, sh_u hi]
  apply Int64.toBitVec_inj.1
  show (w.toBitVec.sshiftRight ((((8 : Int32) * nI i).toInt64 &&& 63).toBitVec.smod 64).toNat) &&& 255#64 = (w.toUInt64 >>> UInt64.ofNat (8 * i)).toInt64.toBitVec &&& 255#64
  rw [sh_s hi]
  have e : (w.toUInt64 >>> UInt64.ofNat (8 * i)).toInt64.toBitVec = w.toBitVec >>> (8 * i) := by
    apply BitVec.eq_of_toNat_eq
    rw [un_nat w hi, BitVec.toNat_ushiftRight, Nat.shiftRight_eq_div_pow]
  rw [e]
  apply BitVec.eq_of_getLsbD_eq
  intro j hj
  rw [BitVec.getLsbD_and, BitVec.getLsbD_and]
  by_cases c : j < 8
  · rw [BitVec.getLsbD_sshiftRight, BitVec.getLsbD_ushiftRight]
    rw [if_pos (by omega)]
    simp [show ¬ 64 ≤ j by omega]
  · have : (255#64).getLsbD j = false := by
      have h255 : (255#64).toNat = 2 ^ 8 - 1 := rfl
      rw [BitVec.getLsbD, h255, Nat.testBit_two_pow_sub_one]
      exact decide_eq_false c
    rw [this, Bool.and_false, Bool.and_false]
theorem cl_store (w : Int64) {i : Nat} (hi : i < 8) (hb : by8 w i ≤ 126) : vp_nar .byte (((w.toUInt64 >>> (((8 : Int32) * nI i).toInt64.toUInt64 &&& Int64.toUInt64 63)).toInt64).toInt32.toInt8.toInt32) = nI (by8 w i) := by
  rw [pk_vb, sh_u hi]
  have h1 := un_nat w hi
  generalize (w.toUInt64 >>> UInt64.ofNat (8 * i)).toInt64 = x at *
  apply Int32.toInt_inj.1
  rw [nI_toInt (by omega), Int8.toInt_toInt32, Int32.toInt_toInt8, Int64.toInt_toInt32]
  have h3 : x.toInt = if 2 * x.toBitVec.toNat < 2 ^ 64 then (x.toBitVec.toNat : Int) else (x.toBitVec.toNat : Int) - (2 ^ 64 : Nat) := BitVec.toInt_eq_toNat_cond _
  have h4 := x.toBitVec.isLt
  have h5 : by8 w i = x.toBitVec.toNat % 256 := by rw [h1]; rfl
  rw [h5] at hb ⊢
  rw [h3]
  generalize x.toBitVec.toNat = n at *
  clear h1 h3 h5
  rw [Int.bmod_def, Int.bmod_def]
  split <;> split <;> split <;> omega
def gd (w : Int64) (i : Nat) : Prop := 32 ≤ by8 w i ∧ by8 w i ≤ 126
theorem gd_c (w : Int64) (i : Nat) : (lg_cmp (lN (by8 w i)) 32 < 0) = (by8 w i < 32) ∧ (lg_cmp (lN (by8 w i)) 126 ≤ 0) = (by8 w i ≤ 126) ∧ (0 < lg_cmp (lN (by8 w i)) 126) = (126 < by8 w i) := by
  have h := by8_lt w i
  refine ⟨propext ((lg_cmp_lt _ _).trans ?_), propext ((lg_cmp_le _ _).trans ?_), propext ((lg_cmp_gt _ _).trans ?_)⟩
  · exact lN_lt (a := by8 w i) (b := 32) (by omega) (by decide)
  · exact lN_le (a := by8 w i) (b := 126) (by omega) (by decide)
  · exact lN_lt (a := 126) (b := by8 w i) (by decide) (by omega)
theorem x_print {N : Nat} (hN : 200000 ≤ N) (w : Int64) {n : Nat} (hn : n ≤ 8) : ((∀ i, i < n → gd w i) → f_X4_printable N w (nI n) = some (nI 1)) ∧ (¬ (∀ i, i < n → gd w i) → f_X4_printable N w (nI n) = some (nI 0)) := by
  have L : f_X4_printable N w (nI n) = some (if ff (fun i => @decide (¬ gd w i) (Classical.propDecidable _)) 0 n < n then nI 0 else nI 1) := by
    unfold f_X4_printable
    refine b_run (lp_find (fun i => nI i) (fun i => @decide (¬ gd w i) (Classical.propDecidable _)) n 0 (fun _ => nI 0) (nI 1) (by omega) (by omega) rfl ?_ ?_ ?_) rfl
    · intro i _ hi hP
      have hP : gd w i := Classical.not_not.mp (@of_decide_eq_false _ (Classical.propDecidable _) hP)
      have B := cl_byte w (i := i) (by omega)
      obtain ⟨C1, C2, C3⟩ := gd_c w i
      have := hP.1; have := hP.2
      unfold f_X4_printable_B2
      rw [B, if_neg (by rw [q_le (by omega) (by omega)]; omega), if_neg (by rw [C1]; omega), if_pos (by rw [C2]; omega), nI_1]
    · intro i _ hi hP
      have hP : ¬ gd w i := @of_decide_eq_true _ (Classical.propDecidable _) hP
      have B := cl_byte w (i := i) (by omega)
      obtain ⟨C1, C2, C3⟩ := gd_c w i
      unfold gd at hP
      unfold f_X4_printable_B2
      rw [B, if_neg (by rw [q_le (by omega) (by omega)]; omega)]
      by_cases c : by8 w i < 32
      · rw [if_pos (by rw [C1]; exact c)]; rfl
      · rw [if_neg (by rw [C1]; exact c), if_neg (by rw [C2]; omega)]; rfl
    · unfold f_X4_printable_B2
      rw [if_pos (by rw [q_le (by omega) (by omega)]; omega)]; rfl
  rw [L]
  constructor
  · intro h
    have := ff_end (fun i => @decide (¬ gd w i) (Classical.propDecidable _)) (n := n) (i := 0) (fun j _ hj => @decide_eq_false _ (Classical.propDecidable _) (fun q => q (h j (by omega))))
    rw [this, if_neg (by omega)]
  · intro h
    rw [if_pos]
    refine Classical.byContradiction (fun q => h (fun i hi => ?_))
    have a := ff_le (fun i => @decide (¬ gd w i) (Classical.propDecidable _)) n 0
    have := ff_no (fun i => @decide (¬ gd w i) (Classical.propDecidable _)) n 0 i (by omega) (by omega)
    exact Classical.not_not.mp (@of_decide_eq_false _ (Classical.propDecidable _) this)
def dn (n k : Nat) : Int32 := if k < n then nI (n - 1 - k) else m1
theorem dn_s {n k : Nat} (h : k < n) : nI (n - 1 - k) + (-1) = dn n (k + 1) := by
  unfold dn
  by_cases c : k + 1 < n
  · rw [if_pos c]
    obtain ⟨m, hm⟩ : ∃ m, n - 1 - k = m + 1 := ⟨n - 1 - k - 1, by omega⟩
    rw [hm, show n - 1 - (k + 1) = m by omega]; exact pk_m1 m
  · rw [if_neg c, show n - 1 - k = 0 by omega]; rfl
theorem dn_0 {n : Nat} (h : 1 ≤ n) : nI n - 1 = dn n 0 := by
  obtain ⟨m, rfl⟩ : ∃ m, n = m + 1 := ⟨n - 1, by omega⟩
  unfold dn; rw [if_pos (by omega)]; exact nI_pred m
theorem m_inB (w : Int64) (i : Nat) : f_X7_in (lN (by8 w i)) 32 126 = some (@ite _ (gd w i) (Classical.propDecidable _) (nI 1) (nI 0)) := by
  obtain ⟨C1, C2, C3⟩ := gd_c w i
  unfold f_X7_in
  by_cases c : by8 w i < 32
  · rw [if_pos (by rw [C1]; exact c), if_neg (fun q : gd w i => by have := q.1; omega)]; rfl
  · rw [if_neg (by rw [C1]; exact c)]
    by_cases d : 126 < by8 w i
    · rw [if_pos (by rw [C3]; exact d), if_neg (fun q : gd w i => by have := q.2; omega)]; rfl
    · rw [if_neg (by rw [C3]; exact d), if_pos (show gd w i from ⟨by omega, by omega⟩)]; rfl
theorem m_typeA {N : Nat} (hN : 200000 ≤ N) (w : Int64) {n : Nat} (hn1 : 1 ≤ n) (hn : n ≤ 8) (vt : Int32) (vta : Nat → Int32) : ((∀ i, i < n → gd w i) → lp (fun s => f_X7_type_B19 vt vta w s) N (nI n - 1) = some (.inl m1)) ∧ (¬ (∀ i, i < n → gd w i) → lp (fun s => f_X7_type_B19 vt vta w s) N (nI n - 1) = some (.inr (m1, vta, vt))) := by
  have L : lp (fun s => f_X7_type_B19 vt vta w s) N (nI n - 1) = some (if ff (fun k => @decide (¬ gd w (n - 1 - k)) (Classical.propDecidable _)) 0 n < n then Sum.inr (m1, vta, vt) else Sum.inl m1) := by
    refine lp_find (fun k => dn n k) (fun k => @decide (¬ gd w (n - 1 - k)) (Classical.propDecidable _)) n 0 (fun _ => Sum.inr (m1, vta, vt)) (Sum.inl m1) (by omega) (by omega) (dn_0 hn1) ?_ ?_ ?_
    · intro k _ hk hP
      have hP : gd w (n - 1 - k) := Classical.not_not.mp (@of_decide_eq_false _ (Classical.propDecidable _) hP)
      have I := m_inB w (n - 1 - k)
      rw [if_pos hP] at I
      show f_X7_type_B19 vt vta w (dn n k) = _
      rw [show dn n k = nI (n - 1 - k) from if_pos hk]
      unfold f_X7_type_B19
      rw [if_neg (nI_pos (by omega)), mo_byte w (i := n - 1 - k) (by omega), I, Option.bind_some, if_neg (by decide), dn_s hk]
    · intro k _ hk hP
      have hP : ¬ gd w (n - 1 - k) := @of_decide_eq_true _ (Classical.propDecidable _) hP
      have I := m_inB w (n - 1 - k)
      rw [if_neg hP] at I
      show f_X7_type_B19 vt vta w (dn n k) = _
      rw [show dn n k = nI (n - 1 - k) from if_pos hk]
      unfold f_X7_type_B19
      rw [if_neg (nI_pos (by omega)), mo_byte w (i := n - 1 - k) (by omega), I]; rfl
    · show f_X7_type_B19 vt vta w (dn n n) = _
      rw [show dn n n = m1 from if_neg (by omega)]; rfl
  rw [L]
  constructor
  · intro h
    have := ff_end (fun k => @decide (¬ gd w (n - 1 - k)) (Classical.propDecidable _)) (n := n) (i := 0) (fun j _ hj => @decide_eq_false _ (Classical.propDecidable _) (fun q => q (h _ (by omega))))
    rw [this, if_neg (by omega)]
  · intro h
    rw [if_pos]
    refine Classical.byContradiction (fun q => h (fun i hi => ?_))
    have a := ff_le (fun k => @decide (¬ gd w (n - 1 - k)) (Classical.propDecidable _)) n 0
    have := ff_no (fun k => @decide (¬ gd w (n - 1 - k)) (Classical.propDecidable _)) n 0 (n - 1 - i) (by omega) (by omega)
    have := Classical.not_not.mp (@of_decide_eq_false _ (Classical.propDecidable _) this)
    rw [show n - 1 - (n - 1 - i) = i by omega] at this
    exact this
def tyF (w : Int64) (n T : Nat) (k : Nat) (v : Nat → Int32) : Nat → Int32 := upd v (T + k) (nI (by8 w (n - 1 - k)))
theorem tyF_at (w : Int64) (n T : Nat) (v : Nat → Int32) : ∀ k j, it (tyF w n T) v k j = if T ≤ j ∧ j < T + k then nI (by8 w (n - 1 - (j - T))) else v j := by
  intro k
  induction k with
  | zero => intro j; rw [if_neg (by omega)]; rfl
  | succ k ih =>
    intro j
    show upd (it (tyF w n T) v k) (T + k) (nI (by8 w (n - 1 - k))) j = _
    unfold upd
    by_cases c : j = T + k
    · rw [if_pos c, if_pos (by omega), show j - T = k by omega]
    · rw [if_neg c, ih]
      by_cases d : T ≤ j ∧ j < T + k
      · rw [if_pos d, if_pos (by omega)]
      · rw [if_neg d, if_neg (by omega)]
theorem x_append {N : Nat} (hN : 200000 ≤ N) (w : Int64) {n T : Nat} (hn1 : 1 ≤ n) (hn : n ≤ 8) (hT : T + n ≤ 80) (hg : ∀ i, i < n → gd w i) (v : Nat → Int32) : f_X4_append N (nI T) v w (nI n) = some (it (tyF w n T) v n, nI (T + n)) := by
  unfold f_X4_append
  refine b_run (lp_for (fun k => (dn n k, it (tyF w n T) v k, nI (T + k))) n (by omega) (by rw [dn_0 hn1]; rfl) ?_ ?_ (r := (it (tyF w n T) v n, nI (T + n)))) rfl
  · intro k hk
    have S := cl_store w (i := n - 1 - k) (by omega) (hg _ (by omega)).2
    show f_X4_append_B5 w (dn n k) (it (tyF w n T) v k) (nI (T + k)) = some (Sum.inl (dn n (k + 1), upd (it (tyF w n T) v k) (T + k) (nI (by8 w (n - 1 - k))), nI (T + k + 1)))
    rw [show dn n k = nI (n - 1 - k) from if_pos hk]
    unfold f_X4_append_B5
    rw [S, if_neg (nI_pos (by omega)), if_neg (by rw [q_80, q_le (by omega) (by omega)]; omega), q_cl (by omega), if_neg (by rw [q_0, q_lt (by omega) (by omega)]; omega), dn_s hk, nI_1]
  · show f_X4_append_B5 w (dn n n) (it (tyF w n T) v n) (nI (T + n)) = _
    rw [show dn n n = m1 from if_neg (by omega)]; rfl
theorem m_append {N : Nat} (hN : 200000 ≤ N) (w : Int64) {n T : Nat} (hn1 : 1 ≤ n) (hn : n ≤ 8) (hT : T + n ≤ 80) (v : Nat → Int32) : lp (fun s : Int32 × (Nat → Int32) × Int32 => f_X7_type_B74 w s.1 s.2.1 s.2.2) N (nI n - 1, v, nI T) = some (m1, it (tyF w n T) v n, nI (T + n)) := by
  refine lp_for (fun k => (dn n k, it (tyF w n T) v k, nI (T + k))) n (by omega) (by rw [dn_0 hn1]; rfl) ?_ ?_
  · intro k hk
    show f_X7_type_B74 w (dn n k) (it (tyF w n T) v k) (nI (T + k)) = some (Sum.inl (dn n (k + 1), upd (it (tyF w n T) v k) (T + k) (nI (by8 w (n - 1 - k))), nI (T + k + 1)))
    rw [show dn n k = nI (n - 1 - k) from if_pos hk]
    unfold f_X7_type_B74
    rw [mo_byte w (i := n - 1 - k) (by omega), lN_i, if_neg (nI_pos (by omega)), q_cl (by omega), if_neg (by rw [q_0, q_lt (by omega) (by omega)]; omega), dn_s hk, nI_1]
  · show f_X7_type_B74 w (dn n n) (it (tyF w n T) v n) (nI (T + n)) = _
    rw [show dn n n = m1 from if_neg (by omega)]; rfl
theorem ok_type {N : Nat} (hN : 200000 ≤ N) : st_type N Rel := by
  unfold st_type
  intro vx_kept vx_tape_length vx_tape_at vx_tape_lotBlocks vx_tape_bytes vx_tape_digitPlaces vx_told_blocks vx_told_members vx_told_moves vx_told_digits vx_told_sizes vx_told_orders vx_told_above vx_told_below vx_told_struck vx_told_lots vx_course_ballots vx_course_used vx_course_chosen vx_course_waiter vx_course_wait vx_course_wrote vx_course_writes vx_course_counts vx_keptTold_blocks vx_keptTold_members vx_keptTold_moves vx_keptTold_digits vx_keptTold_sizes vx_keptTold_orders vx_keptTold_above vx_keptTold_below vx_keptTold_struck vx_keptTold_lots vx_keptCourse_ballots vx_keptCourse_used vx_keptCourse_chosen vx_keptCourse_waiter vx_keptCourse_wait vx_keptCourse_wrote vx_keptCourse_writes vx_keptCourse_counts vx_trialTold_blocks vx_trialTold_members vx_trialTold_moves vx_trialTold_digits vx_trialTold_sizes vx_trialTold_orders vx_trialTold_above vx_trialTold_below vx_trialTold_struck vx_trialTold_lots vx_trial_ballots vx_trial_used vx_trial_chosen vx_trial_waiter vx_trial_wait vx_trial_wrote vx_trial_writes vx_trial_counts vx_odds_above vx_odds_below vx_odds_now_size nx_odds_now_states vx_odds_now_states nx_odds_now_weights vx_odds_now_weights nx_odds_now_slots vx_odds_now_slots vx_odds_then_size nx_odds_then_states vx_odds_then_states nx_odds_then_weights vx_odds_then_weights nx_odds_then_slots vx_odds_then_slots vx_odds_trial_ballots vx_odds_trial_used vx_odds_trial_chosen vx_odds_trial_waiter vx_odds_trial_wait vx_odds_trial_wrote vx_odds_trial_writes vx_odds_trial_counts vx_sheets_lanes vx_sheets_sizes vx_sheets_items vm_blocks vm_done vm_used vm_taken vm_taped vm_at vm_readBlocks vm_copyUsed vm_waiter vm_waiting vm_isTold vm_toldBits vm_toldAt vm_endName vm_endBallot vm_isKept vm_imageAt vm_members vm_moves vm_digits vm_sizes vm_orders vm_above vm_below vm_struck vm_lotted vm_wrote vm_tape vm_readMembers vm_readMoves vm_readDigits vm_readSizes vm_readOrders vm_digitPlaces vm_copy vm_then vm_counts vm_ways vm_more vm_image vm_singles vm_lanes vm_rowSizes vm_items y0 y1 hR
  obtain ⟨RB, RK, RT, RS, RO, RW⟩ := Rel_out hR
  obtain ⟨T, g, hT, t1, t2, t3⟩ := RT
  have NT : RelT vx_tape_length vx_tape_bytes vm_taped vm_tape := ⟨T, g, hT, t1, t2, t3⟩
  rcases arg y1 1 8 with hy | hy | ⟨n, hn1, hn2, rfl⟩
  · refine ⟨(m1, vx_tape_bytes, vx_tape_length), (m1, vm_tape, vm_taped), ?_, ?_, rfl, Rel_in RB RK NT RS RO RW⟩
    · unfold f_X6_type; rw [if_pos (by rw [q_1, i_lt (by omega)]; omega)]; rfl
    · unfold f_X7_type; rw [mi_1_8, if_neg (by omega)]; rfl
  · refine ⟨(m1, vx_tape_bytes, vx_tape_length), (m1, vm_tape, vm_taped), ?_, ?_, rfl, Rel_in RB RK NT RS RO RW⟩
    · unfold f_X6_type; rw [if_neg (by rw [q_1, i_lt (by omega)]; omega), if_pos (by rw [q_8, i_ltr (by omega)]; omega)]; rfl
    · unfold f_X7_type; rw [mi_1_8, if_neg (by omega)]; rfl
  · have g1 : ¬ nI n < 1 := by rw [q_1, q_lt (by omega) (by omega)]; omega
    have g2 : ¬ (8 : Int32) < nI n := by rw [q_8, q_lt (by omega) (by omega)]; omega
    have gi : f_X7_in (nI n).toInt64 1 8 = some (nI 1) := by rw [mi_1_8, if_pos (by rw [nI_toInt (by omega)]; omega)]
    obtain ⟨P1, P2⟩ := x_print hN y0 hn2
    obtain ⟨Q1, Q2⟩ := m_typeA hN y0 hn1 hn2 vm_taped vm_tape
    by_cases c : ∀ i, i < n → gd y0 i
    · have P1 := P1 c; have Q1 := Q1 c
      by_cases d : T + n ≤ 80
      · have A := x_append hN y0 hn1 hn2 d c vx_tape_bytes
        have B := m_append hN y0 hn1 hn2 d vm_tape
        rw [← t1] at A; rw [← t2] at B
        refine ⟨(nI (T + n), it (tyF y0 n T) vx_tape_bytes n, nI (T + n)), (nI (T + n), it (tyF y0 n T) vm_tape n, nI (T + n)), ?_, ?_, rfl, Rel_in RB RK ⟨T + n, fun i => if i < T then g i else by8 y0 (n - 1 - (i - T)), d, rfl, rfl, fun i hi => ?_⟩ RS RO RW⟩
        · unfold f_X6_type
          rw [if_neg g1, if_neg g2, P1, Option.bind_some, if_neg (by decide), if_pos (by rw [t1, nI_add, q_80, q_le (by omega) (by omega)]; omega)]
          exact b_run A rfl
        · unfold f_X7_type
          rw [gi, Option.bind_some, if_neg (by decide), Q1, Option.bind_some, Sum.elim_inl, if_pos (by rw [t2, nI_add, q_80, q_le (by omega) (by omega)]; omega)]
          exact b_run B rfl
        · show it (tyF y0 n T) vx_tape_bytes n i = nI (if i < T then g i else by8 y0 (n - 1 - (i - T))) ∧ it (tyF y0 n T) vm_tape n i = nI (if i < T then g i else by8 y0 (n - 1 - (i - T))) ∧ 32 ≤ (if i < T then g i else by8 y0 (n - 1 - (i - T))) ∧ (if i < T then g i else by8 y0 (n - 1 - (i - T))) ≤ 126
          rw [tyF_at, tyF_at]
          by_cases e : i < T
          · rw [if_neg (show ¬ (T ≤ i ∧ i < T + n) by omega), if_neg (show ¬ (T ≤ i ∧ i < T + n) by omega), if_pos e]; exact t3 i e
          · rw [if_pos (show T ≤ i ∧ i < T + n by omega), if_pos (show T ≤ i ∧ i < T + n by omega), if_neg e]
            exact ⟨rfl, rfl, c _ (by omega)⟩
      · refine ⟨(-3, vx_tape_bytes, vx_tape_length), (-3, vm_tape, vm_taped), ?_, ?_, rfl, Rel_in RB RK NT RS RO RW⟩
        · unfold f_X6_type
          rw [if_neg g1, if_neg g2, P1, Option.bind_some, if_neg (by decide), if_neg (by rw [t1, nI_add, q_80, q_le (by omega) (by omega)]; omega)]
        · unfold f_X7_type
          rw [gi, Option.bind_some, if_neg (by decide), Q1, Option.bind_some, Sum.elim_inl, if_neg (by rw [t2, nI_add, q_80, q_le (by omega) (by omega)]; omega)]
    · have P2 := P2 c; have Q2 := Q2 c
      refine ⟨(m1, vx_tape_bytes, vx_tape_length), (m1, vm_tape, vm_taped), ?_, ?_, rfl, Rel_in RB RK NT RS RO RW⟩
      · unfold f_X6_type
        rw [if_neg g1, if_neg g2, P2]; rfl
      · unfold f_X7_type
        rw [gi, Option.bind_some, if_neg (by decide), Q2]; rfl
