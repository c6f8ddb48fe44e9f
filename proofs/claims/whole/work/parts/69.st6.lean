abbrev SaT : Type := Int32 × Int32 × (Nat → Int32) × (Nat → Int32) × (Nat → Int32) × (Nat → Int32) × (Nat → Int32) × (Nat → Int32) × (Nat → Int32) × (Nat → Int32) × (Nat → Int32) × Int32 × Int32 × Int32 × Int32 × Int32 × (Nat → Int32) × (Nat → Int32) × (Nat → Int32)
theorem asO_s (h : Hl) (r : Br) (f : Nat) : asO h r (f + 1) = asI h r f (asO h r f) 5 := rfl
theorem asO_8 {h : Hl} {r : Br} : (asO h r 8).1 ≤ edN (fin h r) ∧ (asO h r 8).2 ≤ 61 := by
  have q := asI_ok (h := h) (r := r) (asO_ok (h := h) (r := r) 7) 5
  rw [← asO_s] at q
  exact ⟨q.1, q.2⟩
theorem x_soonest {h : Hl} (ok : hOK h) {vb : Int32} {vme vmo vdi vsi vor : Nat → Int32} (t : tX h vb vme vmo vdi vsi vor) {N : Nat} (hN : 200000 ≤ N) {r : Br} (rok : bOK r) {vab vbe vst vlo : Nat → Int32} (rr : rX r vab vbe vst vlo) (a1 a2 a3 a4 a5 a6 a7 a8 a9 b1 b2 b3 : Nat → Int32) : ∃ u : SaT, f_X6_soonestAside N vb vme vmo vdi vsi vor vab vbe vst vlo a1 a2 a3 a4 a5 a6 a7 a8 a9 b1 b2 b3 = some u ∧ u.1 = (if (asO h r 8).1 < edN (fin h r) then nI ((asO h r 8).1 * 64 + (asO h r 8).2) else m4) := by
  have hE0 := edN_le (fin_ok ok r)
  have ho := asO_8 (h := h) (r := r)
  obtain ⟨u, U1, U2, U3⟩ := x_takeAll ok t rr a1 a2 a3 a4 a5 a6 a7 a8 a9
  obtain ⟨v, V1, V2⟩ := x_goAll ok U2 hN rok U3 b1 b2 b3
  have D := x_ended (fin_ok ok r) (fin_p h r)
  have V3 : v.1 = nI (fin h r).1 := V2.1
  have V4 : v.2.2.1 = wX (fin h r).2.2.1 := V2.2.2.1
  rw [← V3, ← V4] at D
  have S6 := q_sh6 (n := edN (fin h r)) (by omega)
  obtain ⟨e, E1, E2⟩ := x_asideO ok U2 hN rok U3 (s := (nI (edN (fin h r) * 64), (0 : Int32), u.2.2.2.2.2.2.2.2.1, v.1, v.2.1, v.2.2.1, v.2.2.2.1, v.2.2.2.2.1, v.2.2.2.2.2.1, v.2.2.2.2.2.2.1, v.2.2.2.2.2.2.2)) rfl rfl rfl
  have X : ∀ z : SaT, (if nI (edN (fin h r) * 64) ≤ e.1 then some ((-4 : Int32), u.1, u.2.1, u.2.2.1, u.2.2.2.1, u.2.2.2.2.1, u.2.2.2.2.2.1, u.2.2.2.2.2.2.1, u.2.2.2.2.2.2.2.1, e.2.2.1, u.2.2.2.2.2.2.2.2.2, e.2.2.2.1, e.2.2.2.2.1, e.2.2.2.2.2.1, e.2.2.2.2.2.2.1, e.2.2.2.2.2.2.2.1, e.2.2.2.2.2.2.2.2.1, e.2.2.2.2.2.2.2.2.2.1, e.2.2.2.2.2.2.2.2.2.2) else some (e.1, u.1, u.2.1, u.2.2.1, u.2.2.2.1, u.2.2.2.2.1, u.2.2.2.2.2.1, u.2.2.2.2.2.2.1, u.2.2.2.2.2.2.2.1, e.2.2.1, u.2.2.2.2.2.2.2.2.2, e.2.2.2.1, e.2.2.2.2.1, e.2.2.2.2.2.1, e.2.2.2.2.2.2.1, e.2.2.2.2.2.2.2.1, e.2.2.2.2.2.2.2.2.1, e.2.2.2.2.2.2.2.2.2.1, e.2.2.2.2.2.2.2.2.2.2)) = some z → f_X6_soonestAside N vb vme vmo vdi vsi vor vab vbe vst vlo a1 a2 a3 a4 a5 a6 a7 a8 a9 b1 b2 b3 = some z := by
    intro z hz
    unfold f_X6_soonestAside
    refine b_run U1 (b_run V1 (b_run D ?_))
    rw [S6]
    exact b_run E1 hz
  by_cases c : (asO h r 8).1 < edN (fin h r)
  · refine ⟨_, X _ (if_neg (by rw [E2, q_le (by omega) (by omega)]; omega)), ?_⟩
    rw [if_pos c]; exact E2
  · refine ⟨_, X _ (if_pos (by rw [E2, q_le (by omega) (by omega)]; omega)), ?_⟩
    rw [if_neg c]; rfl
theorem q_a7 {n : Nat} (h : n < 2147483648) : nI n &&& (7 : Int32) = nI (n % 8) := pk_andN (by omega) 3 (by decide)
theorem q_r3 {n : Nat} (h : n < 2147483648) : nI n >>> ((3 : Int32) &&& 31) = nI (n / 8) := pk_shrN h _ 3 (by decide)
theorem q_r6 {n : Nat} (h : n < 2147483648) : nI n >>> ((6 : Int32) &&& 31) = nI (n / 64) := pk_shrN h _ 6 (by decide)
def asA (h : Hl) (r : Br) (k : Nat) : Int32 := if (asO h r 8).1 < edN (fin h r) then (if k = 0 then nI ((asO h r 8).2 % 8) else if k = 1 then nI ((asO h r 8).2 / 8) else nI (asO h r 8).1) else m4
theorem x_asideA {h : Hl} (ok : hOK h) {vb : Int32} {vme vmo vdi vsi vor : Nat → Int32} (t : tX h vb vme vmo vdi vsi vor) {N : Nat} (hN : 200000 ≤ N) {r : Br} (rok : bOK r) {vab vbe vst vlo : Nat → Int32} (rr : rX r vab vbe vst vlo) (h0 : 0 < hB h) {k : Nat} (hk : k ≤ 2) (T0 : Int32) (a1 a2 a3 a4 a5 a6 a7 a8 a9 : Nat → Int32) (c1 c2 c3 c4 c5 : Int32) (b1 b2 b3 : Nat → Int32) : ∃ u : SaT, f_X6_aside N vb vme vmo vdi vsi vor vab vbe vst vlo T0 a1 a2 a3 a4 a5 a6 a7 a8 a9 c1 c2 c3 c4 c5 b1 b2 b3 (nI k) = some u ∧ u.1 = asA h r k := by
  have h6 := ok.1
  have e0 := t.1
  have hE0 := edN_le (fin_ok ok r)
  have ho := asO_8 (h := h) (r := r)
  obtain ⟨u, U1, U2⟩ := x_soonest ok t hN rok rr a1 a2 a3 a4 a5 a6 a7 a8 a9 b1 b2 b3
  unfold f_X6_aside
  rw [if_neg (by rw [q_0, q_lt (by omega) (by omega)]; omega), if_pos (by rw [q_2, q_le (by omega) (by omega)]; omega), show f_X6_isEmpty vb = some (nI 0) by rw [e0, e_empty h6, if_neg (by omega)], Option.bind_some, if_pos (show nI 0 = 0 from rfl), U1, Option.bind_some, U2]
  unfold asA
  generalize asO h r 8 = A at *
  generalize edN (fin h r) = E0 at *
  by_cases c : A.1 < E0
  · rw [if_pos c, if_pos c, if_pos (by rw [q_0, q_le (by omega) (by omega)]; omega)]
    by_cases k0 : k = 0
    · rw [if_pos (by rw [k0]; rfl), if_pos k0, q_a7 (by omega)]
      exact ⟨_, rfl, by show nI _ = nI _; congr 1; omega⟩
    · rw [if_neg (nI_ne0 (by omega) (by omega)), if_neg k0]
      by_cases k1 : k = 1
      · rw [if_pos (by rw [k1]; rfl), if_pos k1, q_r3 (by omega), q_a7 (by omega)]
        exact ⟨_, rfl, by show nI _ = nI _; congr 1; omega⟩
      · rw [if_neg (by rw [q_1, q_eq (by omega) (by omega)]; omega), if_neg k1, q_r6 (by omega)]
        exact ⟨_, rfl, by show nI _ = nI _; congr 1; omega⟩
  · rw [if_neg c, if_neg c, if_neg (by decide)]
    exact ⟨_, rfl, rfl⟩
theorem m_asideA {h : Hl} (ok : hOK h) {vb : Int32} {vme vmo vdi vsi vor : Nat → Int32} (t : tX h vb vme vmo vdi vsi vor) {N : Nat} (hN : 200000 ≤ N) {r : Br} (rok : bOK r) {vab vbe vst vlo : Nat → Int32} (rr : rX r vab vbe vst vlo) (h0 : 0 < hB h) {mw mn mt tb ta cu n1 n2 : Int32} (W3 : mw = wM 0) (W4 : ∃ k, k < 1000 ∧ mn = nI k) (W5 : mt = nI 0) {k : Nat} (hk : k ≤ 2) (b1 b2 b3 : Nat → Int32) : ∃ w : Int32 × (Nat → Int32) × (Nat → Int32) × (Nat → Int32) × (Nat → Int32) × Int32 × Int32 × Int32 × Int32, f_X7_aside N vb cu mw mn mt tb ta n1 n2 vme vmo vdi vsi vor vab vbe vst vlo b1 b2 b3 (nI k) = some w ∧ w.1 = asA h r k ∧ w.2.1 = vst := by
  have h6 := ok.1
  have e0 := t.1
  have hE0 := edN_le (fin_ok ok r)
  have ho := asO_8 (h := h) (r := r)
  have L := edN_lt (fin_ok ok r) (fin_p h r)
  obtain ⟨u, U1, U2, U3⟩ := m_find0 ok t hN rok rr (tb := tb) (ta := ta) W3 W4 W5 b1 b2 b3
  have U3 : u.2.2.2.2.2.2 = enS (fin h r) := U3
  have K : ∀ (v : Int32), v = smM (edN (fin h r)) → ∃ w : Int32 × (Nat → Int32) × (Nat → Int32) × (Nat → Int32) × (Nat → Int32) × Int32 × Int32 × Int32 × Int32, f_X7_aside_L44 N vb mw mn mt tb vme vmo vdi vsi vor vab vbe vst vlo (nI k) u.1 u.2.1 u.2.2.1 u.2.2.2.1 u.2.2.2.2.1 u.2.2.2.2.2.1 u.2.2.2.2.2.2 v = some w ∧ w.1 = asA h r k ∧ w.2.1 = vst := by
    intro v hv
    obtain ⟨e, E1, E2, E3, E4, E5⟩ := m_asideO ok t hN rok rr (tb := tb) W3 W4 W5 (s := (v, (-4 : Int32), (-4 : Int32), (0 : Int32), vst, u.1, u.2.1, u.2.2.1, u.2.2.2.1, u.2.2.2.2.1, u.2.2.2.2.2.1, u.2.2.2.2.2.2)) hv rfl rfl rfl rfl
    unfold f_X7_aside_L44
    rw [E1, Option.bind_some, E3, E4, E2]
    unfold asA nmM
    generalize asO h r 8 = A at *
    by_cases c : (A).1 < edN (fin h r)
    · rw [if_pos c, if_pos c, if_pos c, if_pos (by rw [q_0, q_le (by omega) (by omega)]; omega)]
      by_cases k0 : k = 0
      · rw [if_pos (by rw [k0]; rfl), if_pos k0]
        exact ⟨_, rfl, rfl, E5⟩
      · rw [if_neg (nI_ne0 (by omega) (by omega)), if_neg k0]
        by_cases k1 : k = 1
        · rw [if_pos (by rw [k1]; rfl), if_pos k1]
          exact ⟨_, rfl, rfl, E5⟩
        · rw [if_neg (by rw [q_1, q_eq (by omega) (by omega)]; omega), if_neg k1]
          exact ⟨_, rfl, by show smM _ = _; unfold smM; rw [if_neg (by omega)], E5⟩
    · rw [if_neg c, if_neg c, if_neg c, if_neg (by decide)]
      exact ⟨_, rfl, rfl, E5⟩
  unfold f_X7_aside
  rw [mi_0_2, if_pos (by rw [nI_toInt (by omega)]; omega), Option.bind_some, if_neg (by decide), if_neg (by rw [e0]; exact nI_ne0 h0 (by omega)), U1, Option.bind_some]
  by_cases c : (fin h r).2.2.1 = 0
  · have e : u.2.2.2.2.2.2 = m4 := by rw [U3]; unfold enS; rw [if_pos c]
    rw [if_neg (by rw [e]; decide)]
    exact K _ (by unfold smM edN; rw [if_pos c]; rfl)
  · have e : u.2.2.2.2.2.2 = nI (edN (fin h r)) := by rw [U3]; unfold enS edN; rw [if_neg c, if_neg c]
    have hl : edN (fin h r) < 32 := by rw [L]; exact c
    rw [if_pos (by rw [e, q_0, q_le (by omega) (by omega)]; omega)]
    exact K _ (by rw [e]; unfold smM; rw [if_neg (by omega)])
theorem ok_aside {N : Nat} (hN : 200000 ≤ N) : st_aside N Rel := by
  unfold st_aside
  intro vx_kept vx_tape_length vx_tape_at vx_tape_lotBlocks vx_tape_bytes vx_tape_digitPlaces vx_told_blocks vx_told_members vx_told_moves vx_told_digits vx_told_sizes vx_told_orders vx_told_above vx_told_below vx_told_struck vx_told_lots vx_course_ballots vx_course_used vx_course_chosen vx_course_waiter vx_course_wait vx_course_wrote vx_course_writes vx_course_counts vx_keptTold_blocks vx_keptTold_members vx_keptTold_moves vx_keptTold_digits vx_keptTold_sizes vx_keptTold_orders vx_keptTold_above vx_keptTold_below vx_keptTold_struck vx_keptTold_lots vx_keptCourse_ballots vx_keptCourse_used vx_keptCourse_chosen vx_keptCourse_waiter vx_keptCourse_wait vx_keptCourse_wrote vx_keptCourse_writes vx_keptCourse_counts vx_trialTold_blocks vx_trialTold_members vx_trialTold_moves vx_trialTold_digits vx_trialTold_sizes vx_trialTold_orders vx_trialTold_above vx_trialTold_below vx_trialTold_struck vx_trialTold_lots vx_trial_ballots vx_trial_used vx_trial_chosen vx_trial_waiter vx_trial_wait vx_trial_wrote vx_trial_writes vx_trial_counts vx_odds_above vx_odds_below vx_odds_now_size nx_odds_now_states vx_odds_now_states nx_odds_now_weights vx_odds_now_weights nx_odds_now_slots vx_odds_now_slots vx_odds_then_size nx_odds_then_states vx_odds_then_states nx_odds_then_weights vx_odds_then_weights nx_odds_then_slots vx_odds_then_slots vx_odds_trial_ballots vx_odds_trial_used vx_odds_trial_chosen vx_odds_trial_waiter vx_odds_trial_wait vx_odds_trial_wrote vx_odds_trial_writes vx_odds_trial_counts vx_sheets_lanes vx_sheets_sizes vx_sheets_items vm_blocks vm_done vm_used vm_taken vm_taped vm_at vm_readBlocks vm_copyUsed vm_waiter vm_waiting vm_isTold vm_toldBits vm_toldAt vm_endName vm_endBallot vm_isKept vm_imageAt vm_members vm_moves vm_digits vm_sizes vm_orders vm_above vm_below vm_struck vm_lotted vm_wrote vm_tape vm_readMembers vm_readMoves vm_readDigits vm_readSizes vm_readOrders vm_digitPlaces vm_copy vm_then vm_counts vm_ways vm_more vm_image vm_singles vm_lanes vm_rowSizes vm_items y0 hR
  obtain ⟨RB, RK, RT, RS, RO, RW⟩ := Rel_out hR
  obtain ⟨h, r, s, ok, rok, sok, tx, rx, cx, tm, td, rm, cm⟩ := RB
  have h6 := ok.1
  have e1 := tx.1; have e2 := tm.1
  have RB' : RelB vx_told_blocks vx_told_members vx_told_moves vx_told_digits vx_told_sizes vx_told_orders vx_told_above vx_told_below vx_told_struck vx_told_lots vx_course_ballots vx_course_used vx_course_chosen vx_course_wrote vx_course_counts vm_blocks vm_done vm_used vm_taken vm_members vm_moves vm_digits vm_sizes vm_orders vm_above vm_below vm_struck vm_lotted vm_wrote := ⟨h, r, s, ok, rok, sok, tx, rx, cx, tm, td, rm, cm⟩
  rcases arg y0 0 2 with hy | hy | ⟨k, _, hk, rfl⟩
  · refine ⟨(m1, vx_trialTold_blocks, vx_trialTold_members, vx_trialTold_moves, vx_trialTold_digits, vx_trialTold_sizes, vx_trialTold_orders, vx_trialTold_above, vx_trialTold_below, vx_trialTold_struck, vx_trialTold_lots, vx_trial_ballots, vx_trial_used, vx_trial_chosen, vx_trial_waiter, vx_trial_wait, vx_trial_wrote, vx_trial_writes, vx_trial_counts), (m1, vm_struck, vm_copy, vm_then, vm_counts, vm_copyUsed, vm_toldAt, vm_endName, vm_endBallot), ?_, ?_, rfl, Rel_in RB' RK RT RS RO RW⟩
    · unfold f_X6_aside; rw [if_pos (by rw [q_0, i_lt (by omega)]; omega)]; rfl
    · unfold f_X7_aside; rw [mi_0_2, if_neg (by omega)]; rfl
  · refine ⟨(m1, vx_trialTold_blocks, vx_trialTold_members, vx_trialTold_moves, vx_trialTold_digits, vx_trialTold_sizes, vx_trialTold_orders, vx_trialTold_above, vx_trialTold_below, vx_trialTold_struck, vx_trialTold_lots, vx_trial_ballots, vx_trial_used, vx_trial_chosen, vx_trial_waiter, vx_trial_wait, vx_trial_wrote, vx_trial_writes, vx_trial_counts), (m1, vm_struck, vm_copy, vm_then, vm_counts, vm_copyUsed, vm_toldAt, vm_endName, vm_endBallot), ?_, ?_, rfl, Rel_in RB' RK RT RS RO RW⟩
    · unfold f_X6_aside; rw [if_neg (by rw [q_0, i_lt (by omega)]; omega), if_neg (by rw [q_2, i_le (by omega)]; omega)]; rfl
    · unfold f_X7_aside; rw [mi_0_2, if_neg (by omega)]; rfl
  · by_cases h0 : hB h = 0
    · refine ⟨(-2, vx_trialTold_blocks, vx_trialTold_members, vx_trialTold_moves, vx_trialTold_digits, vx_trialTold_sizes, vx_trialTold_orders, vx_trialTold_above, vx_trialTold_below, vx_trialTold_struck, vx_trialTold_lots, vx_trial_ballots, vx_trial_used, vx_trial_chosen, vx_trial_waiter, vx_trial_wait, vx_trial_wrote, vx_trial_writes, vx_trial_counts), (-2, vm_struck, vm_copy, vm_then, vm_counts, vm_copyUsed, vm_toldAt, vm_endName, vm_endBallot), ?_, ?_, rfl, Rel_in RB' RK RT RS RO RW⟩
      · unfold f_X6_aside
        rw [if_neg (by rw [q_0, q_lt (by omega) (by omega)]; omega), if_pos (by rw [q_2, q_le (by omega) (by omega)]; omega), show f_X6_isEmpty vx_told_blocks = some (nI 1) by rw [e1, e_empty h6, if_pos h0], Option.bind_some, if_neg (by decide)]
      · unfold f_X7_aside
        rw [mi_0_2, if_pos (by rw [nI_toInt (by omega)]; omega), Option.bind_some, if_neg (by decide), if_pos (by rw [e2, h0]; rfl)]
    · obtain ⟨u, U1, U2⟩ := x_asideA ok tx hN rok rx (by omega) hk vx_trialTold_blocks vx_trialTold_members vx_trialTold_moves vx_trialTold_digits vx_trialTold_sizes vx_trialTold_orders vx_trialTold_above vx_trialTold_below vx_trialTold_struck vx_trialTold_lots vx_trial_ballots vx_trial_used vx_trial_chosen vx_trial_waiter vx_trial_wait vx_trial_wrote vx_trial_writes vx_trial_counts
      obtain ⟨w, V1, V2, V3⟩ := m_asideA ok tm hN rok rm (by omega) (tb := vm_toldBits) (ta := vm_toldAt) (cu := vm_copyUsed) (n1 := vm_endName) (n2 := vm_endBallot) RW.2.2.1 RW.2.2.2.1 RW.2.2.2.2 hk vm_copy vm_then vm_counts
      exact ⟨u, w, U1, V1, by rw [U2, V2], Rel_in ⟨h, r, s, ok, rok, sok, tx, rx, cx, tm, td, by rw [V3]; exact rm, cm⟩ RK RT RS RO RW⟩
