def awP (h : Hl) (B b : Nat) : Bool := decide (hMov h b = 3 ∧ B ≤ hDig h b)
theorem x_answer {N : Nat} (hN : 200000 ≤ N) {B L : Nat} {h : Hl} {dq : Nat → Nat} {cdp cme cmo cdi csi cor mme mmo mdi msi mor mdp : Nat → Int32} (hB6 : B ≤ 6) (P : pI B h dq L cdp cme cmo cdi csi cor mme mmo mdi msi mor mdp) : f_X4_answerOf N cdp (nI B) cmo cdi = some (if ff (awP h B) 0 B < B then -20 - nI (dq (ff (awP h B) 0 B)) else nI B) := by
  obtain ⟨p1, p2, p3, p4, p5, p6, p7, p8⟩ := P
  have L : lp (fun s => f_X4_answerOf_B2 cdp (nI B) cmo cdi s) N (0 : Int32) = some (if ff (awP h B) 0 B < B then Sum.inr (-20 - nI (dq (ff (awP h B) 0 B))) else Sum.inl (nI B)) := by
    refine lp_find (fun i => nI i) (awP h B) B 0 (fun b => Sum.inr (-20 - nI (dq b))) (Sum.inl (nI B)) (by omega) (by omega) rfl ?_ ?_ ?_
    · intro b _ hb hP
      have hP := of_decide_eq_false hP
      obtain ⟨e1, e2, e3, e4, e5⟩ := p5.2 b (by omega)
      obtain ⟨o1, o2, o3, o4, o5, o6, o7, o8, o9⟩ := p2 b hb
      by_cases c : hMov h b = 3
      · have e3 := e3 (Or.inl c)
        have o8 := o8 c
        have : hDig h b < B := by
          refine Nat.lt_of_not_le (fun q => hP ⟨c, q⟩)
        simp (disch := omega) only [f_X4_answerOf_B2, f_X4_answerOf_L43, d_let, d_lef, d_ltt, d_ltf, d_eqt, d_eqf, ↓reduceIte, or_false, false_or, or_true, true_or, and_true, true_and, and_false, false_and, not_true_eq_false, not_false_eq_true, Bool.false_eq_true, Option.bind_some, q_ofNat, q_cl, q_lt, q_le, q_eq, nI_add, pk_mul, q_m1, q_m4, m1_lt, m1_le, m1_nlt, m1_nle, m1_ne, m1_ne2, m4_lt, m4_le, m4_nlt, m4_nle, m4_ne, m4_ne2, q_0, q_1, q_2, q_3, q_4, q_5, q_6, q_8, q_12, q_15, q_16, q_20, q_24, q_30, q_31, q_32, q_80, q_9, q_99, q_126, q_48, q_57, q_58, q_59, q_97, q_101, q_10, q_21, q_255, q_46656, e2, e3]
      · simp (disch := omega) only [f_X4_answerOf_B2, f_X4_answerOf_L43, d_let, d_lef, d_ltt, d_ltf, d_eqt, d_eqf, ↓reduceIte, or_false, false_or, or_true, true_or, and_true, true_and, and_false, false_and, not_true_eq_false, not_false_eq_true, Bool.false_eq_true, Option.bind_some, q_ofNat, q_cl, q_lt, q_le, q_eq, nI_add, pk_mul, q_m1, q_m4, m1_lt, m1_le, m1_nlt, m1_nle, m1_ne, m1_ne2, m4_lt, m4_le, m4_nlt, m4_nle, m4_ne, m4_ne2, q_0, q_1, q_2, q_3, q_4, q_5, q_6, q_8, q_12, q_15, q_16, q_20, q_24, q_30, q_31, q_32, q_80, q_9, q_99, q_126, q_48, q_57, q_58, q_59, q_97, q_101, q_10, q_21, q_255, q_46656, e2]
    · intro b _ hb hP
      obtain ⟨c, d⟩ := of_decide_eq_true hP
      obtain ⟨e1, e2, e3, e4, e5⟩ := p5.2 b (by omega)
      obtain ⟨o1, o2, o3, o4, o5, o6, o7, o8, o9⟩ := p2 b hb
      have e3 := e3 (Or.inl c)
      have o8 := o8 c
      have q1 := (p8 b hb c).1
      simp (disch := omega) only [f_X4_answerOf_B2, f_X4_answerOf_L43, d_let, d_lef, d_ltt, d_ltf, d_eqt, d_eqf, ↓reduceIte, or_false, false_or, or_true, true_or, and_true, true_and, and_false, false_and, not_true_eq_false, not_false_eq_true, Bool.false_eq_true, Option.bind_some, q_ofNat, q_cl, q_lt, q_le, q_eq, nI_add, pk_mul, q_m1, q_m4, m1_lt, m1_le, m1_nlt, m1_nle, m1_ne, m1_ne2, m4_lt, m4_le, m4_nlt, m4_nle, m4_ne, m4_ne2, q_0, q_1, q_2, q_3, q_4, q_5, q_6, q_8, q_12, q_15, q_16, q_20, q_24, q_30, q_31, q_32, q_80, q_9, q_99, q_126, q_48, q_57, q_58, q_59, q_97, q_101, q_10, q_21, q_255, q_46656, e2, e3, q1]
    · simp (disch := omega) only [f_X4_answerOf_B2, d_let, d_lef, d_ltt, d_ltf, d_eqt, d_eqf, ↓reduceIte, or_false, false_or, or_true, true_or, and_true, true_and, and_false, false_and, not_true_eq_false, not_false_eq_true, Bool.false_eq_true, Option.bind_some, q_ofNat, q_cl, q_lt, q_le, q_eq, nI_add, pk_mul, q_m1, q_m4, m1_lt, m1_le, m1_nlt, m1_nle, m1_ne, m1_ne2, m4_lt, m4_le, m4_nlt, m4_nle, m4_ne, m4_ne2, q_0, q_1, q_2, q_3, q_4, q_5, q_6, q_8, q_12, q_15, q_16, q_20, q_24, q_30, q_31, q_32, q_80, q_9, q_99, q_126, q_48, q_57, q_58, q_59, q_97, q_101, q_10, q_21, q_255, q_46656]
  unfold f_X4_answerOf
  refine b_run L ?_
  by_cases c : ff (awP h B) 0 B < B
  · rw [if_pos c, if_pos c]; rfl
  · rw [if_neg c, if_neg c]; rfl
theorem m_areThere {N : Nat} (hN : 200000 ≤ N) {B L p : Nat} {h : Hl} {dq : Nat → Nat} {cdp cme cmo cdi csi cor mme mmo mdi msi mor mdp : Nat → Int32} (hB6 : B ≤ 6) (P : pI B h dq L cdp cme cmo cdi csi cor mme mmo mdi msi mor mdp) : f_X7_areThere N (nI p) (nI B) mmo mdi mdp = some (if ff (awP h B) 0 B < B then (nI 0, nI (dq (ff (awP h B) 0 B))) else (nI 1, nI p)) := by
  obtain ⟨p1, p2, p3, p4, p5, p6, p7, p8⟩ := P
  have L : lp (fun s => f_X7_areThere_B2 (nI p) (nI B) mmo mdi s) N (0 : Int32) = some (if ff (awP h B) 0 B < B then Sum.inl (nI (ff (awP h B) 0 B)) else Sum.inr (nI 1, nI p)) := by
    refine lp_find (fun i => nI i) (awP h B) B 0 (fun b => Sum.inl (nI b)) (Sum.inr (nI 1, nI p)) (by omega) (by omega) rfl ?_ ?_ ?_
    · intro b _ hb hP
      have hP := of_decide_eq_false hP
      obtain ⟨e1, e2, e3, e4, e5⟩ := p6.2 b (by omega)
      obtain ⟨o1, o2, o3, o4, o5, o6, o7, o8, o9⟩ := p2 b hb
      by_cases c : hMov h b = 3
      · have e3 := e3 (Or.inl c)
        have o8 := o8 c
        have : hDig h b < B := by
          refine Nat.lt_of_not_le (fun q => hP ⟨c, q⟩)
        simp (disch := omega) only [f_X7_areThere_B2, f_X7_areThere_L45, d_let, d_lef, d_ltt, d_ltf, d_eqt, d_eqf, ↓reduceIte, or_false, false_or, or_true, true_or, and_true, true_and, and_false, false_and, not_true_eq_false, not_false_eq_true, Bool.false_eq_true, Option.bind_some, q_ofNat, q_cl, q_lt, q_le, q_eq, nI_add, pk_mul, q_m1, q_m4, m1_lt, m1_le, m1_nlt, m1_nle, m1_ne, m1_ne2, m4_lt, m4_le, m4_nlt, m4_nle, m4_ne, m4_ne2, q_0, q_1, q_2, q_3, q_4, q_5, q_6, q_8, q_12, q_15, q_16, q_20, q_24, q_30, q_31, q_32, q_80, q_9, q_99, q_126, q_48, q_57, q_58, q_59, q_97, q_101, q_10, q_21, q_255, q_46656, e2, e3]
      · simp (disch := omega) only [f_X7_areThere_B2, f_X7_areThere_L45, d_let, d_lef, d_ltt, d_ltf, d_eqt, d_eqf, ↓reduceIte, or_false, false_or, or_true, true_or, and_true, true_and, and_false, false_and, not_true_eq_false, not_false_eq_true, Bool.false_eq_true, Option.bind_some, q_ofNat, q_cl, q_lt, q_le, q_eq, nI_add, pk_mul, q_m1, q_m4, m1_lt, m1_le, m1_nlt, m1_nle, m1_ne, m1_ne2, m4_lt, m4_le, m4_nlt, m4_nle, m4_ne, m4_ne2, q_0, q_1, q_2, q_3, q_4, q_5, q_6, q_8, q_12, q_15, q_16, q_20, q_24, q_30, q_31, q_32, q_80, q_9, q_99, q_126, q_48, q_57, q_58, q_59, q_97, q_101, q_10, q_21, q_255, q_46656, e2]
    · intro b _ hb hP
      obtain ⟨c, d⟩ := of_decide_eq_true hP
      obtain ⟨e1, e2, e3, e4, e5⟩ := p6.2 b (by omega)
      obtain ⟨o1, o2, o3, o4, o5, o6, o7, o8, o9⟩ := p2 b hb
      have e3 := e3 (Or.inl c)
      have o8 := o8 c
      simp (disch := omega) only [f_X7_areThere_B2, f_X7_areThere_L45, d_let, d_lef, d_ltt, d_ltf, d_eqt, d_eqf, ↓reduceIte, or_false, false_or, or_true, true_or, and_true, true_and, and_false, false_and, not_true_eq_false, not_false_eq_true, Bool.false_eq_true, Option.bind_some, q_ofNat, q_cl, q_lt, q_le, q_eq, nI_add, pk_mul, q_m1, q_m4, m1_lt, m1_le, m1_nlt, m1_nle, m1_ne, m1_ne2, m4_lt, m4_le, m4_nlt, m4_nle, m4_ne, m4_ne2, q_0, q_1, q_2, q_3, q_4, q_5, q_6, q_8, q_12, q_15, q_16, q_20, q_24, q_30, q_31, q_32, q_80, q_9, q_99, q_126, q_48, q_57, q_58, q_59, q_97, q_101, q_10, q_21, q_255, q_46656, e2, e3]
    · simp (disch := omega) only [f_X7_areThere_B2, d_let, d_lef, d_ltt, d_ltf, d_eqt, d_eqf, ↓reduceIte, or_false, false_or, or_true, true_or, and_true, true_and, and_false, false_and, not_true_eq_false, not_false_eq_true, Bool.false_eq_true, Option.bind_some, q_ofNat, q_cl, q_lt, q_le, q_eq, nI_add, pk_mul, q_m1, q_m4, m1_lt, m1_le, m1_nlt, m1_nle, m1_ne, m1_ne2, m4_lt, m4_le, m4_nlt, m4_nle, m4_ne, m4_ne2, q_0, q_1, q_2, q_3, q_4, q_5, q_6, q_8, q_12, q_15, q_16, q_20, q_24, q_30, q_31, q_32, q_80, q_9, q_99, q_126, q_48, q_57, q_58, q_59, q_97, q_101, q_10, q_21, q_255, q_46656]
  unfold f_X7_areThere
  refine b_run L ?_
  by_cases c : ff (awP h B) 0 B < B
  · have hy := of_decide_eq_true (ff_yes (awP h B) B 0 (by omega))
    have q2 := (p8 _ c hy.1).2.1
    rw [if_pos c, if_pos c, Sum.elim_inl, q_cl (by omega), if_neg (by rw [q_0, q_lt (by omega) (by omega)]; omega), q2]; rfl
  · rw [if_neg c, if_neg c]; rfl
theorem m_copyO {N : Nat} (hN : 200000 ≤ N) {x : Nat} (hx : x < 6) (ror or : Nat → Int32) : lp (fun s : Int32 × (Nat → Int32) => f_X7_hall_B105 ror (nI x) s.1 s.2) N ((0 : Int32), it (wrF ror) or (5 * x)) = some (nI 5, it (wrF ror) or (5 * x + 5)) := by
  refine lp_for (fun k => (nI k, it (wrF ror) or (5 * x + k))) 5 (by omega) rfl ?_ ?_
  · intro k hk
    simp (disch := omega) only [f_X7_hall_B105, d_let, d_lef, d_ltt, d_ltf, d_eqt, d_eqf, ↓reduceIte, or_false, false_or, or_true, true_or, and_true, true_and, and_false, false_and, not_true_eq_false, not_false_eq_true, Bool.false_eq_true, Option.bind_some, q_ofNat, q_cl, q_lt, q_le, q_eq, nI_add, pk_mul, q_m1, q_m4, m1_lt, m1_le, m1_nlt, m1_nle, m1_ne, m1_ne2, m4_lt, m4_le, m4_nlt, m4_nle, m4_ne, m4_ne2, q_0, q_1, q_2, q_3, q_4, q_5, q_6, q_8, q_12, q_15, q_16, q_20, q_24, q_30, q_31, q_32, q_80, q_9, q_99, q_126, q_48, q_57, q_58, q_59, q_97, q_101, q_10, q_21, q_255, q_46656]; rfl
  · simp (disch := omega) only [f_X7_hall_B105, d_let, d_lef, d_ltt, d_ltf, d_eqt, d_eqf, ↓reduceIte, or_false, false_or, or_true, true_or, and_true, true_and, and_false, false_and, not_true_eq_false, not_false_eq_true, Bool.false_eq_true, Option.bind_some, q_ofNat, q_cl, q_lt, q_le, q_eq, nI_add, pk_mul, q_m1, q_m4, m1_lt, m1_le, m1_nlt, m1_nle, m1_ne, m1_ne2, m4_lt, m4_le, m4_nlt, m4_nle, m4_ne, m4_ne2, q_0, q_1, q_2, q_3, q_4, q_5, q_6, q_8, q_12, q_15, q_16, q_20, q_24, q_30, q_31, q_32, q_80, q_9, q_99, q_126, q_48, q_57, q_58, q_59, q_97, q_101, q_10, q_21, q_255, q_46656]
theorem m_copyH {N : Nat} (hN : 200000 ≤ N) {B : Nat} (hB6 : B ≤ 6) (rme rmo rdi rsi ror me mo di si or : Nat → Int32) : lp (fun s : Int32 × (Nat → Int32) × (Nat → Int32) × (Nat → Int32) × (Nat → Int32) × (Nat → Int32) => f_X7_hall_B47 N (nI B) rme rmo rdi rsi ror s.1 s.2.1 s.2.2.1 s.2.2.2.1 s.2.2.2.2.1 s.2.2.2.2.2) N ((0 : Int32), me, mo, di, si, or) = some (nI B, it (wrF rme) me B, it (wrF rmo) mo B, it (wrF rdi) di B, it (wrF rsi) si B, it (wrF ror) or (5 * B)) := by
  refine lp_for (fun k => (nI k, it (wrF rme) me k, it (wrF rmo) mo k, it (wrF rdi) di k, it (wrF rsi) si k, it (wrF ror) or (5 * k))) B (by omega) rfl ?_ ?_
  · intro k hk
    have C := m_copyO hN (x := k) (by omega) ror or
    rw [q_0] at C
    have e5 : 5 * (k + 1) = 5 * k + 5 := by omega
    rw [e5]
    simp (disch := omega) only [f_X7_hall_B47, d_let, d_lef, d_ltt, d_ltf, d_eqt, d_eqf, ↓reduceIte, or_false, false_or, or_true, true_or, and_true, true_and, and_false, false_and, not_true_eq_false, not_false_eq_true, Bool.false_eq_true, Option.bind_some, q_ofNat, q_cl, q_lt, q_le, q_eq, nI_add, pk_mul, q_m1, q_m4, m1_lt, m1_le, m1_nlt, m1_nle, m1_ne, m1_ne2, m4_lt, m4_le, m4_nlt, m4_nle, m4_ne, m4_ne2, q_0, q_1, q_2, q_3, q_4, q_5, q_6, q_8, q_12, q_15, q_16, q_20, q_24, q_30, q_31, q_32, q_80, q_9, q_99, q_126, q_48, q_57, q_58, q_59, q_97, q_101, q_10, q_21, q_255, q_46656, C]; rfl
  · simp (disch := omega) only [f_X7_hall_B47, d_let, d_lef, d_ltt, d_ltf, d_eqt, d_eqf, ↓reduceIte, or_false, false_or, or_true, true_or, and_true, true_and, and_false, false_and, not_true_eq_false, not_false_eq_true, Bool.false_eq_true, Option.bind_some, q_ofNat, q_cl, q_lt, q_le, q_eq, nI_add, pk_mul, q_m1, q_m4, m1_lt, m1_le, m1_nlt, m1_nle, m1_ne, m1_ne2, m4_lt, m4_le, m4_nlt, m4_nle, m4_ne, m4_ne2, q_0, q_1, q_2, q_3, q_4, q_5, q_6, q_8, q_12, q_15, q_16, q_20, q_24, q_30, q_31, q_32, q_80, q_9, q_99, q_126, q_48, q_57, q_58, q_59, q_97, q_101, q_10, q_21, q_255, q_46656]
theorem neg20 {q : Nat} (h : q ≤ 80) : (-20 - nI q : Int32) ≤ 0 := co_dec (N := 81) (P := fun q => (-20 - nI q : Int32) ≤ 0) (by decide +kernel) (by omega)
set_option maxRecDepth 4000 in
theorem ok_hall {N : Nat} (hN : 200000 ≤ N) : st_hall N Rel := by
  unfold st_hall
  intro vx_kept vx_tape_length vx_tape_at vx_tape_lotBlocks vx_tape_bytes vx_tape_digitPlaces vx_told_blocks vx_told_members vx_told_moves vx_told_digits vx_told_sizes vx_told_orders vx_told_above vx_told_below vx_told_struck vx_told_lots vx_course_ballots vx_course_used vx_course_chosen vx_course_waiter vx_course_wait vx_course_wrote vx_course_writes vx_course_counts vx_keptTold_blocks vx_keptTold_members vx_keptTold_moves vx_keptTold_digits vx_keptTold_sizes vx_keptTold_orders vx_keptTold_above vx_keptTold_below vx_keptTold_struck vx_keptTold_lots vx_keptCourse_ballots vx_keptCourse_used vx_keptCourse_chosen vx_keptCourse_waiter vx_keptCourse_wait vx_keptCourse_wrote vx_keptCourse_writes vx_keptCourse_counts vx_trialTold_blocks vx_trialTold_members vx_trialTold_moves vx_trialTold_digits vx_trialTold_sizes vx_trialTold_orders vx_trialTold_above vx_trialTold_below vx_trialTold_struck vx_trialTold_lots vx_trial_ballots vx_trial_used vx_trial_chosen vx_trial_waiter vx_trial_wait vx_trial_wrote vx_trial_writes vx_trial_counts vx_odds_above vx_odds_below vx_odds_now_size nx_odds_now_states vx_odds_now_states nx_odds_now_weights vx_odds_now_weights nx_odds_now_slots vx_odds_now_slots vx_odds_then_size nx_odds_then_states vx_odds_then_states nx_odds_then_weights vx_odds_then_weights nx_odds_then_slots vx_odds_then_slots vx_odds_trial_ballots vx_odds_trial_used vx_odds_trial_chosen vx_odds_trial_waiter vx_odds_trial_wait vx_odds_trial_wrote vx_odds_trial_writes vx_odds_trial_counts vx_sheets_lanes vx_sheets_sizes vx_sheets_items vm_blocks vm_done vm_used vm_taken vm_taped vm_at vm_readBlocks vm_copyUsed vm_waiter vm_waiting vm_isTold vm_toldBits vm_toldAt vm_endName vm_endBallot vm_isKept vm_imageAt vm_members vm_moves vm_digits vm_sizes vm_orders vm_above vm_below vm_struck vm_lotted vm_wrote vm_tape vm_readMembers vm_readMoves vm_readDigits vm_readSizes vm_readOrders vm_digitPlaces vm_copy vm_then vm_counts vm_ways vm_more vm_image vm_singles vm_lanes vm_rowSizes vm_items  hR
  obtain ⟨RB, RK, RT, RS, RO, RW⟩ := Rel_out hR
  obtain ⟨h, r, s, ok, rok, sok, tx, rx, cx, tm, td, rm, cm⟩ := RB
  have RB' : RelB vx_told_blocks vx_told_members vx_told_moves vx_told_digits vx_told_sizes vx_told_orders vx_told_above vx_told_below vx_told_struck vx_told_lots vx_course_ballots vx_course_used vx_course_chosen vx_course_wrote vx_course_counts vm_blocks vm_done vm_used vm_taken vm_members vm_moves vm_digits vm_sizes vm_orders vm_above vm_below vm_struck vm_lotted vm_wrote := ⟨h, r, s, ok, rok, sok, tx, rx, cx, tm, td, rm, cm⟩
  obtain ⟨T, g, hT, t1, t2, t3⟩ := RT
  have tc : tOK g T vx_tape_bytes := ⟨hT, fun i hi => ⟨(t3 i hi).1, (t3 i hi).2.2⟩⟩
  have tw : tOK g T vm_tape := ⟨hT, fun i hi => ⟨(t3 i hi).2.1, (t3 i hi).2.2⟩⟩
  have NT : ∀ b1 b2 : Nat → Int32, RelT (nI 0) b1 (nI 0) b2 := fun b1 b2 => ⟨0, g, by omega, rfl, rfl, fun i hi => by omega⟩
  have P0 : pI 0 (0, (fun _ => 0), (fun _ => 0), (fun _ => 0), (fun _ => 0), fun _ _ => 0) (fun _ => 0) 0 vx_tape_digitPlaces vx_trialTold_members vx_trialTold_moves vx_trialTold_digits vx_trialTold_sizes vx_trialTold_orders vm_readMembers vm_readMoves vm_readDigits vm_readSizes vm_readOrders vm_digitPlaces := ⟨rfl, fun b hb => by omega, rfl, by decide, ⟨rfl, fun b hb => absurd hb (Nat.not_lt_zero b)⟩, ⟨rfl, fun b hb => absurd hb (Nat.not_lt_zero b)⟩, fun b hb => by omega, fun b hb => by omega⟩
  -- the class reads: f_X4_read is the clause, the loop, the tail
  have RD : f_X4_read N vx_tape_length vx_tape_bytes vx_tape_digitPlaces vx_trialTold_members vx_trialTold_moves vx_trialTold_digits vx_trialTold_sizes vx_trialTold_orders = (f_X4_readClause N (nI T) (nI 0) (nI 0) vx_tape_bytes vx_tape_digitPlaces (nI 0) vx_trialTold_members vx_trialTold_moves vx_trialTold_digits vx_trialTold_sizes vx_trialTold_orders).bind (fun u => (lp (cBody N T vx_tape_bytes) N (u.1, nI (0 + 1), u.2.1, u.2.2.1, u.2.2.2.1, u.2.2.2.2.1, u.2.2.2.2.2.1, u.2.2.2.2.2.2.1, u.2.2.2.2.2.2.2.1, u.2.2.2.2.2.2.2.2.1, u.2.2.2.2.2.2.2.2.2)).bind (cTail N T vx_tape_bytes)) := by
    rw [t1]; rfl
  have RM : f_X7_readHall N vm_taped vm_readBlocks vm_tape vm_readMembers vm_readMoves vm_readDigits vm_readSizes vm_readOrders vm_digitPlaces = lp (mBody N T vm_tape) N (nI 0, nI 0, nI 0, vm_readBlocks, vm_readMembers, vm_readMoves, vm_readDigits, vm_readSizes, vm_readOrders, vm_digitPlaces) := by
    rw [t2]
    show (lp (mBody N T vm_tape) N (nI 0, nI 0, nI 0, vm_readBlocks, vm_readMembers, vm_readMoves, vm_readDigits, vm_readSizes, vm_readOrders, vm_digitPlaces)).bind (fun e16 => some e16) = _
    cases lp (mBody N T vm_tape) N (nI 0, nI 0, nI 0, vm_readBlocks, vm_readMembers, vm_readMoves, vm_readDigits, vm_readSizes, vm_readOrders, vm_digitPlaces) <;> rfl
  have CASES : (∃ (q : Nat) (u : RcT) (rb' : Int32) (rme rmo rdi rsi ror rdp : Nat → Int32), q ≤ 80 ∧ u.1 = -20 - nI q ∧ f_X4_read N vx_tape_length vx_tape_bytes vx_tape_digitPlaces vx_trialTold_members vx_trialTold_moves vx_trialTold_digits vx_trialTold_sizes vx_trialTold_orders = some u ∧ f_X7_hall N vm_blocks vm_done vm_used vm_taken vm_taped vm_readBlocks vm_members vm_moves vm_digits vm_sizes vm_orders vm_wrote vm_tape vm_readMembers vm_readMoves vm_readDigits vm_readSizes vm_readOrders vm_digitPlaces = f_X7_hall_L18 N vm_blocks vm_done vm_used vm_taken vm_members vm_moves vm_digits vm_sizes vm_orders vm_wrote (nI q) rb' rme rmo rdi rsi ror rdp) ∨
      (∃ (B L' p : Nat) (h' : Hl) (dq' : Nat → Nat) (cdp' cme' cmo' cdi' csi' cor' mme' mmo' mdi' msi' mor' mdp' : Nat → Int32), 1 ≤ B ∧ B ≤ 6 ∧ pI B h' dq' L' cdp' cme' cmo' cdi' csi' cor' mme' mmo' mdi' msi' mor' mdp' ∧ (∀ b, b < B → hMov h' b = 3 → hDig h' b < B) ∧ f_X4_read N vx_tape_length vx_tape_bytes vx_tape_digitPlaces vx_trialTold_members vx_trialTold_moves vx_trialTold_digits vx_trialTold_sizes vx_trialTold_orders = some (nI B, nI p, nI L', cdp', nI B, cme', cmo', cdi', csi', cor') ∧ f_X7_hall N vm_blocks vm_done vm_used vm_taken vm_taped vm_readBlocks vm_members vm_moves vm_digits vm_sizes vm_orders vm_wrote vm_tape vm_readMembers vm_readMoves vm_readDigits vm_readSizes vm_readOrders vm_digitPlaces = f_X7_hall_L19 N vm_blocks vm_done vm_used vm_taken vm_members vm_moves vm_digits vm_sizes vm_orders vm_wrote (nI p) (nI B) mme' mmo' mdi' msi' mor' mdp' (1 : Int32)) := by
    rcases parse_both tc tw hN 5 0 rfl 0 0 0 _ _ _ _ _ _ _ _ _ _ _ _ _ _ vm_readBlocks N N (by omega) (by omega) (by omega) (by omega) rfl P0 with ⟨B, L', p, h', dq', cdp', cme', cmo', cdi', csi', cor', mme', mmo', mdi', msi', mor', mdp', b1, b2, b3, b4, D1, D2⟩ | ⟨q, u, z, b1, D1, b2, D2, b3, b4⟩
    · rw [← RD] at D1; rw [← RM] at D2
      have A1 := x_answer hN b2 b4
      have A2 := m_areThere hN (p := p) b2 b4
      by_cases c : ff (awP h' B) 0 B < B
      · left
        have hy := of_decide_eq_true (ff_yes (awP h' B) B 0 (by omega))
        have q3 := (b4.2.2.2.2.2.2.2 _ c hy.1).2.2
        rw [if_pos c] at A1 A2
        refine ⟨dq' (ff (awP h' B) 0 B), _, nI B, mme', mmo', mdi', msi', mor', mdp', q3, ?_, D1.trans (b_run A1 rfl), ?_⟩
        · rfl
        · unfold f_X7_hall
          refine b_run D2 ?_
          rw [if_neg (show ¬ nI 1 = 0 by decide)]
          refine b_run A2 ?_
          rw [if_pos (show nI 0 = 0 from rfl)]
      · right
        rw [if_neg c] at A1 A2
        refine ⟨B, L', p, h', dq', cdp', cme', cmo', cdi', csi', cor', mme', mmo', mdi', msi', mor', mdp', b1, b2, b4, fun b hb hm => ?_, D1.trans (b_run A1 rfl), ?_⟩
        · have a := ff_le (awP h' B) B 0
          have := of_decide_eq_false (ff_no (awP h' B) B 0 b (by omega) (by omega))
          exact Nat.lt_of_not_le (fun q => this ⟨hm, q⟩)
        · unfold f_X7_hall
          refine b_run D2 ?_
          rw [if_neg (show ¬ nI 1 = 0 by decide)]
          refine b_run A2 ?_
          rw [if_neg (show ¬ nI 1 = 0 by decide)]
    · rw [← RD] at D1; rw [← RM] at D2
      left
      refine ⟨q, u, z.2.2.1, z.2.2.2.1, z.2.2.2.2.1, z.2.2.2.2.2.1, z.2.2.2.2.2.2.1, z.2.2.2.2.2.2.2.1, z.2.2.2.2.2.2.2.2, b1, b2, D1, ?_⟩
      unfold f_X7_hall
      refine b_run D2 ?_
      rw [if_pos (show z.1 = 0 by rw [b3]; rfl), b4]
  clear RD RM P0
  rcases CASES with ⟨q, u, rb', rme, rmo, rdi, rsi, ror, rdp, hq, hu, R1, R2⟩ | ⟨B, L', p, h', dq', cdp', cme', cmo', cdi', csi', cor', mme', mmo', mdi', msi', mor', mdp', b1, b2, b4, b5, R1, R2⟩
  · refine ⟨(u.1, 0, u.2.1, u.2.2.1, u.2.2.2.1, vx_told_blocks, vx_told_members, vx_told_moves, vx_told_digits, vx_told_sizes, vx_told_orders, vx_course_ballots, vx_course_used, vx_course_chosen, vx_course_waiter, vx_course_wait, vx_course_wrote, vx_course_counts, u.2.2.2.2.1, u.2.2.2.2.2.1, u.2.2.2.2.2.2.1, u.2.2.2.2.2.2.2.1, u.2.2.2.2.2.2.2.2.1, u.2.2.2.2.2.2.2.2.2), ((-20 - nI q), vm_blocks, vm_members, vm_moves, vm_digits, vm_sizes, vm_orders, vm_wrote, vm_done, vm_used, vm_taken, 0, nI q, rb', rme, rmo, rdi, rsi, ror, rdp), ?_, ?_, hu, Rel_in RB' RK (NT _ _) RS RO RW⟩
    · unfold f_X6_hall
      refine b_run R1 ?_
      rw [if_pos (by rw [hu]; exact neg20 hq)]
    · rw [R2]
      unfold f_X7_hall_L18 f_X7_hall_L19
      rw [if_pos rfl]
  · obtain ⟨p1, p2, p3, p4, p5, p6, p7, p8⟩ := b4
    have hok : hOK h' := by
      refine ⟨by omega, fun b hb => ?_, by rw [p1, p3]; exact p4⟩
      obtain ⟨o1, o2, o3, o4, o5, o6, o7, o8, o9⟩ := p2 b (by omega)
      exact ⟨o1, o2, o3, o4, o5, o6, o7, fun z => by have := b5 b (by omega) z; omega, o9⟩
    obtain ⟨vw', vc', S1, S2⟩ := x_restart hN h' vx_course_wrote vx_course_counts
    obtain ⟨fv, F1, F2⟩ := m_forget hN vm_wrote
    have C := m_copyH hN b2 mme' mmo' mdi' msi' mor' vm_members vm_moves vm_digits vm_sizes vm_orders
    have z6 : (6 : Int32).toNatClampNeg = 6 := rfl
    have z30 : (30 : Int32).toNatClampNeg = 30 := rfl
    have TX : tX h' (nI B) (va_cpy cme' vx_told_members (0 : Int32).toNatClampNeg (0 : Int32).toNatClampNeg (6 : Int32).toNatClampNeg) (va_cpy cmo' vx_told_moves (0 : Int32).toNatClampNeg (0 : Int32).toNatClampNeg (6 : Int32).toNatClampNeg) (va_cpy cdi' vx_told_digits (0 : Int32).toNatClampNeg (0 : Int32).toNatClampNeg (6 : Int32).toNatClampNeg) (va_cpy csi' vx_told_sizes (0 : Int32).toNatClampNeg (0 : Int32).toNatClampNeg (6 : Int32).toNatClampNeg) (va_cpy cor' vx_told_orders (0 : Int32).toNatClampNeg (0 : Int32).toNatClampNeg (30 : Int32).toNatClampNeg) := tX_cong hok p5 rfl (fun b hb => cpy0 (by omega)) (fun b hb => cpy0 (by omega)) (fun b hb => cpy0 (by omega)) (fun b hb => cpy0 (by omega)) (fun b hb => cpy0 (by omega))
    have TM : tX h' (nI B) (it (wrF mme') vm_members B) (it (wrF mmo') vm_moves B) (it (wrF mdi') vm_digits B) (it (wrF msi') vm_sizes B) (it (wrF mor') vm_orders (5 * B)) := by
      refine ⟨by rw [p1], fun b hb => ?_⟩
      obtain ⟨e1, e2, e3, e4, e5⟩ := p6.2 b hb
      have o5 := (hok.2.1 b hb).2.2.2.2.1
      have hbB : b < B := by omega
      refine ⟨by rw [wrF_at, if_pos hbB]; exact e1, by rw [wrF_at, if_pos hbB]; exact e2, fun z => by rw [wrF_at, if_pos hbB]; exact e3 z, by rw [wrF_at, if_pos hbB]; exact e4, fun i hi => by rw [wrF_at, if_pos (by omega)]; exact e5 i hi⟩
    have TD : ∀ b, b < hB h' → hMov h' b < 3 → it (wrF mdi') vm_digits B b = m4 := fun b hb hm => by rw [wrF_at, if_pos (by omega)]; exact p7 b (by omega) hm
    refine ⟨(nI B, 0, nI p, nI L', cdp', nI B, _, _, _, _, _, nI 0, nI 0, wX 0, wX 0, nI 0, vw', vc', nI B, cme', cmo', cdi', csi', cor'), (nI B, nI B, _, _, _, _, _, fv, nI 0, nI 0, wM 0, 0, nI p, nI B, mme', mmo', mdi', msi', mor', mdp'), ?_, ?_, rfl, Rel_in ⟨h', r, c0, hok, rok, c0_ok h', TX, rx, S2, TM, TD, rm, ⟨rfl, rfl, rfl, F2⟩⟩ RK (NT _ _) RS RO ⟨rfl, rfl, RW.2.2⟩⟩
    · unfold f_X6_hall
      refine b_run R1 ?_
      rw [if_neg (by show ¬ nI B ≤ 0; rw [q_0, q_le (by omega) (by omega)]; omega)]
      refine b_run rfl (b_run S1 rfl)
    · rw [R2]
      unfold f_X7_hall_L19
      rw [if_neg (by decide)]
      refine b_run C (b_run F1 rfl)
