abbrev ChU : Type := Int64 × Int64 × Int64 × Int32 × Nat × (Nat → Int32) × Nat × (Nat → Int64) × Nat × (Nat → Int32) × Int32 × Nat × (Nat → Int32) × Nat × (Nat → Int64) × Nat × (Nat → Int32) × Int32 × Int32 × (Nat → Int32) × (Nat → Int32) × (Nat → Int32)
abbrev ChW : Type := Int64 × (Nat → Int32) × (Nat → Int32) × (Nat → Int32) × Int32 × Int32 × Int32 × Int32 × (Nat → Int64) × (Nat → Int64)
set_option maxRecDepth 4000 in
theorem ok_chance {N : Nat} (hN : 300000 ≤ N) : st_chance N Rel := by
  unfold st_chance
  intro vx_kept vx_tape_length vx_tape_at vx_tape_lotBlocks vx_tape_bytes vx_tape_digitPlaces vx_told_blocks vx_told_members vx_told_moves vx_told_digits vx_told_sizes vx_told_orders vx_told_above vx_told_below vx_told_struck vx_told_lots vx_course_ballots vx_course_used vx_course_chosen vx_course_waiter vx_course_wait vx_course_wrote vx_course_writes vx_course_counts vx_keptTold_blocks vx_keptTold_members vx_keptTold_moves vx_keptTold_digits vx_keptTold_sizes vx_keptTold_orders vx_keptTold_above vx_keptTold_below vx_keptTold_struck vx_keptTold_lots vx_keptCourse_ballots vx_keptCourse_used vx_keptCourse_chosen vx_keptCourse_waiter vx_keptCourse_wait vx_keptCourse_wrote vx_keptCourse_writes vx_keptCourse_counts vx_trialTold_blocks vx_trialTold_members vx_trialTold_moves vx_trialTold_digits vx_trialTold_sizes vx_trialTold_orders vx_trialTold_above vx_trialTold_below vx_trialTold_struck vx_trialTold_lots vx_trial_ballots vx_trial_used vx_trial_chosen vx_trial_waiter vx_trial_wait vx_trial_wrote vx_trial_writes vx_trial_counts vx_odds_above vx_odds_below vx_odds_now_size nx_odds_now_states vx_odds_now_states nx_odds_now_weights vx_odds_now_weights nx_odds_now_slots vx_odds_now_slots vx_odds_then_size nx_odds_then_states vx_odds_then_states nx_odds_then_weights vx_odds_then_weights nx_odds_then_slots vx_odds_then_slots vx_odds_trial_ballots vx_odds_trial_used vx_odds_trial_chosen vx_odds_trial_waiter vx_odds_trial_wait vx_odds_trial_wrote vx_odds_trial_writes vx_odds_trial_counts vx_sheets_lanes vx_sheets_sizes vx_sheets_items vm_blocks vm_done vm_used vm_taken vm_taped vm_at vm_readBlocks vm_copyUsed vm_waiter vm_waiting vm_isTold vm_toldBits vm_toldAt vm_endName vm_endBallot vm_isKept vm_imageAt vm_members vm_moves vm_digits vm_sizes vm_orders vm_above vm_below vm_struck vm_lotted vm_wrote vm_tape vm_readMembers vm_readMoves vm_readDigits vm_readSizes vm_readOrders vm_digitPlaces vm_copy vm_then vm_counts vm_ways vm_more vm_image vm_singles vm_lanes vm_rowSizes vm_items y0 y1 y2 hR
  obtain ⟨RB, RK, RT, RS, RO, RW⟩ := Rel_out hR
  obtain ⟨h, r, s, ok, rok, sok, tx, rx, cx, tm, td, rm, cm⟩ := RB
  have h6 := ok.1
  have e1 := tx.1; have e2 := tm.1
  have RB' : RelB vx_told_blocks vx_told_members vx_told_moves vx_told_digits vx_told_sizes vx_told_orders vx_told_above vx_told_below vx_told_struck vx_told_lots vx_course_ballots vx_course_used vx_course_chosen vx_course_wrote vx_course_counts vm_blocks vm_done vm_used vm_taken vm_members vm_moves vm_digits vm_sizes vm_orders vm_above vm_below vm_struck vm_lotted vm_wrote := ⟨h, r, s, ok, rok, sok, tx, rx, cx, tm, td, rm, cm⟩
  obtain ⟨RO1, RO2⟩ := RO
  suffices K : ∃ (u : ChU) (w : ChW), f_X6_chance N vx_told_blocks vx_told_members vx_told_moves vx_told_digits vx_told_sizes vx_told_orders vx_told_above vx_told_below vx_told_struck vx_course_ballots vx_course_chosen vx_course_wrote vx_odds_above vx_odds_below vx_odds_now_size nx_odds_now_states vx_odds_now_states nx_odds_now_weights vx_odds_now_weights nx_odds_now_slots vx_odds_now_slots vx_odds_then_size nx_odds_then_states vx_odds_then_states nx_odds_then_weights vx_odds_then_weights nx_odds_then_slots vx_odds_then_slots vx_odds_trial_waiter vx_odds_trial_wait vx_odds_trial_wrote vx_odds_trial_writes vx_odds_trial_counts y0 y1 y2 = some u ∧ f_X7_chance N vm_blocks vm_done vm_used vm_taken vm_copyUsed vm_waiter vm_waiting vm_isTold vm_toldBits vm_toldAt vm_members vm_moves vm_digits vm_sizes vm_orders vm_above vm_below vm_struck vm_lotted vm_wrote vm_copy vm_then vm_counts vm_ways vm_more y0 y1 y2 = some w ∧ u.1 = w.1 ∧ RelO u.2.2.2.2.1 u.2.2.2.2.2.2.1 u.2.2.2.2.2.2.2.2.1 u.2.2.2.2.2.2.2.2.2.2.2.1 u.2.2.2.2.2.2.2.2.2.2.2.2.2.1 u.2.2.2.2.2.2.2.2.2.2.2.2.2.2.2.1 ∧ w.2.2.2.2.2.1 = nI 0 by
    obtain ⟨u, w, k1, k2, k3, k4, k5⟩ := K
    have b1 := len_bd RO1; have b2 := len_bd RO2
    have b3 := len_bd k4.1; have b4 := len_bd k4.2
    exact ⟨u, w, k1, k2, k3, Rel_in RB' RK RT RS k4 ⟨RW.1, RW.2.1, RW.2.2.1, RW.2.2.2.1, k5⟩, by omega, by omega, by omega⟩
  clear hR RB' RK RT RS
  have NO : ∀ {z : Int64}, f_X6_chance N vx_told_blocks vx_told_members vx_told_moves vx_told_digits vx_told_sizes vx_told_orders vx_told_above vx_told_below vx_told_struck vx_course_ballots vx_course_chosen vx_course_wrote vx_odds_above vx_odds_below vx_odds_now_size nx_odds_now_states vx_odds_now_states nx_odds_now_weights vx_odds_now_weights nx_odds_now_slots vx_odds_now_slots vx_odds_then_size nx_odds_then_states vx_odds_then_states nx_odds_then_weights vx_odds_then_weights nx_odds_then_slots vx_odds_then_slots vx_odds_trial_waiter vx_odds_trial_wait vx_odds_trial_wrote vx_odds_trial_writes vx_odds_trial_counts y0 y1 y2 = some (z, vx_odds_above, vx_odds_below, vx_odds_now_size, nx_odds_now_states, vx_odds_now_states, nx_odds_now_weights, vx_odds_now_weights, nx_odds_now_slots, vx_odds_now_slots, vx_odds_then_size, nx_odds_then_states, vx_odds_then_states, nx_odds_then_weights, vx_odds_then_weights, nx_odds_then_slots, vx_odds_then_slots, vx_odds_trial_waiter, vx_odds_trial_wait, vx_odds_trial_wrote, vx_odds_trial_writes, vx_odds_trial_counts) → f_X7_chance N vm_blocks vm_done vm_used vm_taken vm_copyUsed vm_waiter vm_waiting vm_isTold vm_toldBits vm_toldAt vm_members vm_moves vm_digits vm_sizes vm_orders vm_above vm_below vm_struck vm_lotted vm_wrote vm_copy vm_then vm_counts vm_ways vm_more y0 y1 y2 = some (z, vm_copy, vm_then, vm_counts, vm_copyUsed, vm_isTold, vm_toldBits, vm_toldAt, vm_ways, vm_more) → ∃ (u : ChU) (w : ChW), f_X6_chance N vx_told_blocks vx_told_members vx_told_moves vx_told_digits vx_told_sizes vx_told_orders vx_told_above vx_told_below vx_told_struck vx_course_ballots vx_course_chosen vx_course_wrote vx_odds_above vx_odds_below vx_odds_now_size nx_odds_now_states vx_odds_now_states nx_odds_now_weights vx_odds_now_weights nx_odds_now_slots vx_odds_now_slots vx_odds_then_size nx_odds_then_states vx_odds_then_states nx_odds_then_weights vx_odds_then_weights nx_odds_then_slots vx_odds_then_slots vx_odds_trial_waiter vx_odds_trial_wait vx_odds_trial_wrote vx_odds_trial_writes vx_odds_trial_counts y0 y1 y2 = some u ∧ f_X7_chance N vm_blocks vm_done vm_used vm_taken vm_copyUsed vm_waiter vm_waiting vm_isTold vm_toldBits vm_toldAt vm_members vm_moves vm_digits vm_sizes vm_orders vm_above vm_below vm_struck vm_lotted vm_wrote vm_copy vm_then vm_counts vm_ways vm_more y0 y1 y2 = some w ∧ u.1 = w.1 ∧ RelO u.2.2.2.2.1 u.2.2.2.2.2.2.1 u.2.2.2.2.2.2.2.2.1 u.2.2.2.2.2.2.2.2.2.2.2.1 u.2.2.2.2.2.2.2.2.2.2.2.2.2.1 u.2.2.2.2.2.2.2.2.2.2.2.2.2.2.2.1 ∧ w.2.2.2.2.2.1 = nI 0 := fun h1 h2 => ⟨_, _, h1, h2, rfl, ⟨RO1, RO2⟩, RW.2.2.2.2⟩
  rcases arg y0 0 4 with hy | hy | ⟨nm, _, hnm, rfl⟩
  · refine NO (z := -1) ?_ ?_
    · unfold f_X6_chance f_X6_isName f_X6_chance_L27; rw [if_pos (by rw [q_0, i_lt (by omega)]; omega)]; rfl
    · unfold f_X7_chance f_X7_isName f_X7_chance_L29; rw [mi_0_4, if_neg (by omega)]; rfl
  · refine NO (z := -1) ?_ ?_
    · unfold f_X6_chance f_X6_isName f_X6_chance_L27; rw [if_neg (by rw [q_0, i_lt (by omega)]; omega), if_pos (by rw [q_5, i_ler (by omega)]; omega)]; rfl
    · unfold f_X7_chance f_X7_isName f_X7_chance_L29; rw [mi_0_4, if_neg (by omega)]; rfl
  · have XN : f_X6_isName (nI nm) = some (1 : Int32) := by
      unfold f_X6_isName; rw [if_neg (nI_pos (by omega)), if_neg (by rw [q_5, q_le (by omega) (by omega)]; omega)]
    have MN : f_X7_isName (nI nm) = some (nI 1) := by
      unfold f_X7_isName; rw [mi_0_4, if_pos (by rw [nI_toInt (by omega)]; omega)]; rfl
    have i1 : ¬ (1 : Int32) = 0 := by decide
    have i2 : ¬ nI 1 = 0 := by decide
    rcases arg y1 1 12 with hy | hy | ⟨n, hn1, hn, rfl⟩
    · refine NO (z := -1) ?_ ?_
      · unfold f_X6_chance f_X6_chance_L27; rw [XN, Option.bind_some, if_neg i1, if_pos (by rw [q_1, i_lt (by omega)]; omega)]
      · unfold f_X7_chance f_X7_chance_L29; rw [MN, Option.bind_some, if_neg i2, mi_1_12, if_neg (by omega)]; rfl
    · refine NO (z := -1) ?_ ?_
      · unfold f_X6_chance f_X6_chance_L27; rw [XN, Option.bind_some, if_neg i1, if_neg (by rw [q_1, i_lt (by omega)]; omega), if_pos (by rw [q_12, i_ltr (by omega)]; omega)]
      · unfold f_X7_chance f_X7_chance_L29; rw [MN, Option.bind_some, if_neg i2, mi_1_12, if_neg (by omega)]; rfl
    · have X1 : ¬ nI n < 1 := by rw [q_1, q_lt (by omega) (by omega)]; omega
      have X2 : ¬ (12 : Int32) < nI n := by rw [q_12, q_lt (by omega) (by omega)]; omega
      have M1 : f_X7_in (nI n).toInt64 1 12 = some (nI 1) := by rw [mi_1_12, if_pos (by rw [nI_toInt (by omega)]; omega)]
      rcases arg y2 0 1 with hy | hy | ⟨wh, _, hwh, rfl⟩
      · refine NO (z := -1) ?_ ?_
        · unfold f_X6_chance f_X6_chance_L27; rw [XN, Option.bind_some, if_neg i1, if_neg X1, if_neg X2, if_pos (by rw [q_0, i_lt (by omega)]; omega)]
        · unfold f_X7_chance f_X7_chance_L29; rw [MN, Option.bind_some, if_neg i2, M1, Option.bind_some, if_neg i2, mi_0_1, if_neg (by omega)]; rfl
      · refine NO (z := -1) ?_ ?_
        · unfold f_X6_chance f_X6_chance_L27; rw [XN, Option.bind_some, if_neg i1, if_neg X1, if_neg X2, if_neg (by rw [q_0, i_lt (by omega)]; omega), if_neg (by rw [q_1, i_le (by omega)]; omega)]
        · unfold f_X7_chance f_X7_chance_L29; rw [MN, Option.bind_some, if_neg i2, M1, Option.bind_some, if_neg i2, mi_0_1, if_neg (by omega)]; rfl
      · have X3 : ¬ nI wh < 0 := nI_pos (by omega)
        have X4 : nI wh ≤ 1 := by rw [q_1, q_le (by omega) (by omega)]; omega
        have M2 : f_X7_in (nI wh).toInt64 0 1 = some (nI 1) := by rw [mi_0_1, if_pos (by rw [nI_toInt (by omega)]; omega)]
        by_cases h0 : hB h = 0
        · refine NO (z := -2) ?_ ?_
          · unfold f_X6_chance
            rw [XN, Option.bind_some, if_neg i1, if_neg X1, if_neg X2, if_neg X3, if_pos X4, show f_X6_isEmpty vx_told_blocks = some (nI 1) by rw [e1, e_empty h6, if_pos h0], Option.bind_some, if_neg i2]
          · unfold f_X7_chance
            rw [MN, Option.bind_some, if_neg i2, M1, Option.bind_some, if_neg i2, M2, Option.bind_some, if_neg i2, if_pos (by rw [e2, h0]; rfl)]
        · have EE : f_X6_isEmpty vx_told_blocks = some (nI 0) := by rw [e1, e_empty h6, if_neg h0]
          have c5 := sok.2.2.1
          have XX : ∀ {q : GoT}, f_X1_reckon N nx_odds_now_states vx_odds_now_states nx_odds_now_weights vx_odds_now_weights nx_odds_now_slots vx_odds_now_slots vx_odds_then_size nx_odds_then_states vx_odds_then_states nx_odds_then_weights vx_odds_then_weights nx_odds_then_slots vx_odds_then_slots vx_odds_trial_waiter vx_odds_trial_wait vx_odds_trial_wrote vx_odds_trial_writes vx_odds_trial_counts vx_told_blocks vx_told_members vx_told_moves vx_told_digits vx_told_sizes vx_told_orders vx_told_above vx_told_below vx_told_struck vx_course_ballots vx_course_chosen vx_course_wrote (nI nm) (nI n) = some q → f_X6_chance N vx_told_blocks vx_told_members vx_told_moves vx_told_digits vx_told_sizes vx_told_orders vx_told_above vx_told_below vx_told_struck vx_course_ballots vx_course_chosen vx_course_wrote vx_odds_above vx_odds_below vx_odds_now_size nx_odds_now_states vx_odds_now_states nx_odds_now_weights vx_odds_now_weights nx_odds_now_slots vx_odds_now_slots vx_odds_then_size nx_odds_then_states vx_odds_then_states nx_odds_then_weights vx_odds_then_weights nx_odds_then_slots vx_odds_then_slots vx_odds_trial_waiter vx_odds_trial_wait vx_odds_trial_wrote vx_odds_trial_writes vx_odds_trial_counts (nI nm) (nI n) (nI wh) = some ((if wh = 0 then q.1 else q.2.1), q.1, q.2.1, q.2.2.1, q.2.2.2.1, q.2.2.2.2.1, q.2.2.2.2.2.1, q.2.2.2.2.2.2.1, q.2.2.2.2.2.2.2.1, q.2.2.2.2.2.2.2.2.1, q.2.2.2.2.2.2.2.2.2.1, q.2.2.2.2.2.2.2.2.2.2.1, q.2.2.2.2.2.2.2.2.2.2.2.1, q.2.2.2.2.2.2.2.2.2.2.2.2.1, q.2.2.2.2.2.2.2.2.2.2.2.2.2.1, q.2.2.2.2.2.2.2.2.2.2.2.2.2.2.1, q.2.2.2.2.2.2.2.2.2.2.2.2.2.2.2.1, q.2.2.2.2.2.2.2.2.2.2.2.2.2.2.2.2.1, q.2.2.2.2.2.2.2.2.2.2.2.2.2.2.2.2.2.1, q.2.2.2.2.2.2.2.2.2.2.2.2.2.2.2.2.2.2.1, q.2.2.2.2.2.2.2.2.2.2.2.2.2.2.2.2.2.2.2.1, q.2.2.2.2.2.2.2.2.2.2.2.2.2.2.2.2.2.2.2.2) := by
            intro q hq
            unfold f_X6_chance
            rw [XN, Option.bind_some, if_neg i1, if_neg X1, if_neg X2, if_neg X3, if_pos X4, EE, Option.bind_some, if_pos (show nI 0 = 0 from rfl), hq, Option.bind_some]
            by_cases z : wh = 0
            · rw [if_pos (by rw [z]; rfl), if_pos z]
            · rw [if_neg (nI_ne0 (by omega) (by omega)), if_neg z]
          obtain ⟨wk, hwk, W4⟩ := RW.2.2.2.1
          by_cases cc : s.2.2.1 = 0
          · obtain ⟨q, a', b', Q1, Q2, Q3, Q4, Q5, Q6⟩ := x_reckon ok tx hN rok rx sok.1 sok.2.2.2 cx.2.2.2.1 (nm := nm) (by omega) hn RO1 vx_odds_now_states vx_odds_now_slots vx_odds_now_weights vx_odds_then_size RO2 vx_odds_then_states vx_odds_then_slots vx_odds_then_weights vx_odds_trial_waiter vx_odds_trial_wait vx_odds_trial_wrote vx_odds_trial_writes vx_odds_trial_counts
            obtain ⟨w, K1, K2, K3⟩ := m_chance ok tm (by omega : 200000 ≤ N) rok rm sok.1 sok.2.2.2 cm.2.2.2 hwk (nm := nm) (by omega) hn1 hn hwh h0 Q6 vm_used vm_copyUsed vm_isTold vm_toldBits vm_toldAt vm_copy vm_then vm_counts vm_ways vm_more
            rw [← cx.1, show wX 0 = vx_course_chosen from by rw [cx.2.2.1, cc]] at Q1
            rw [← cm.1, ← W4, show f_X7_chance N vm_blocks vm_done vm_used (wM 0) vm_copyUsed (wM 0) = f_X7_chance N vm_blocks vm_done vm_used vm_taken vm_copyUsed vm_waiter from by rw [cm.2.2.1, cc, RW.2.2.1]] at K1
            refine ⟨_, w, XX Q1, K1, ?_, ⟨Q4, Q5⟩, K3⟩
            show (if wh = 0 then q.1 else q.2.1) = w.1
            rw [K2, Q2, Q3]
          · obtain ⟨q, Q1, Q2, Q3, Q4, Q5⟩ := x_reckonC ok tx hN vx_told_above vx_told_below vx_told_struck cc c5 vx_course_ballots vx_course_wrote (nm := nm) (by omega) (nI n) RO1 vx_odds_now_states vx_odds_now_slots vx_odds_now_weights vx_odds_then_size RO2 vx_odds_then_states vx_odds_then_slots vx_odds_then_weights vx_odds_trial_waiter vx_odds_trial_wait vx_odds_trial_wrote vx_odds_trial_writes vx_odds_trial_counts
            rw [← cx.2.2.1] at Q1
            have tn : ¬ vm_taken < 0 := by rw [cm.2.2.1, q_0, q_wMl (by omega)]; exact cc
            refine ⟨_, ((if wh = 0 then q.1 else q.2.1), vm_copy, vm_then, vm_counts, vm_copyUsed, vm_isTold, vm_toldBits, vm_toldAt, vm_ways, vm_more), XX Q1, ?_, rfl, ⟨Q4, Q5⟩, RW.2.2.2.2⟩
            unfold f_X7_chance
            rw [MN, Option.bind_some, if_neg i2, M1, Option.bind_some, if_neg i2, M2, Option.bind_some, if_neg i2, if_neg (by rw [e2]; exact nI_ne0 (by omega) (by omega)), if_neg tn]
            by_cases z : wh = 0
            · rw [if_pos (by rw [z]; rfl), if_pos z, Q2]
              by_cases d : s.2.2.1 = nm + 1
              · rw [if_pos (by rw [cm.2.2.1, d]; rfl), if_pos d]; rfl
              · rw [if_neg (fun q => by rw [cm.2.2.1, eq_comm, q_wM (by omega) (by omega)] at q; exact d q), if_neg d]; rfl
            · rw [if_neg (nI_ne0 (by omega) (by omega)), if_neg z, Q3]; rfl
