def kpF (img : Nat → Int32) (a : Nat) (row : Nat → Int32) (k : Nat) : Nat → Int32 := fun j => if a ≤ j ∧ j < a + k then row (j - a) else img j
theorem kp_s (img : Nat → Int32) (a : Nat) (row : Nat → Int32) (k : Nat) : upd (kpF img a row k) (a + k) (row k) = kpF img a row (k + 1) := by
  funext j
  unfold upd kpF
  by_cases c : j = a + k
  · rw [if_pos c, if_pos (by omega)]; congr 1; omega
  · rw [if_neg c]
    by_cases d : a ≤ j ∧ j < a + k
    · rw [if_pos d, if_pos (by omega)]
    · rw [if_neg d, if_neg (by omega)]
theorem kp_0 (img : Nat → Int32) (a : Nat) (row : Nat → Int32) : kpF img a row 0 = img := by
  funext j; unfold kpF; rw [if_neg (by omega)]
theorem m_keep {N : Nat} (hN : 200000 ≤ N) (a : Nat) (img : Nat → Int32) (n : Nat) (row : Nat → Int32) (h : a + n ≤ 110) : f_X7_keep N (nI a) img n row = some (kpF img a row n, nI (a + n)) := by
  unfold f_X7_keep
  refine b_run (lp_for (fun k => (nI k, kpF img a row k, nI (a + k))) n (by omega) (by rw [kp_0]; rfl) ?_ ?_ (r := (kpF img a row n, nI (a + n)))) rfl
  · intro k hk
    simp (disch := omega) only [f_X7_keep_B2, d_let, d_lef, d_ltt, d_ltf, d_eqt, d_eqf, ↓reduceIte, or_false, false_or, or_true, true_or, and_true, true_and, and_false, false_and, not_true_eq_false, not_false_eq_true, Bool.false_eq_true, Option.bind_some, q_ofNat, q_cl, q_lt, q_le, q_eq, nI_add, pk_mul, q_m1, q_m4, m1_lt, m1_le, m1_nlt, m1_nle, m1_ne, m1_ne2, m4_lt, m4_le, m4_nlt, m4_nle, m4_ne, m4_ne2, q_0, q_1, q_2, q_3, q_4, q_5, q_6, q_8, q_12, q_15, q_16, q_20, q_24, q_30, q_31, q_32, q_80, q_9, q_99, q_126, q_48, q_57, q_58, q_59, q_97, q_101, q_10, q_21, q_255, q_46656, kp_s, Nat.add_assoc]
  · simp (disch := omega) only [f_X7_keep_B2, d_let, d_lef, d_ltt, d_ltf, d_eqt, d_eqf, ↓reduceIte, or_false, false_or, or_true, true_or, and_true, true_and, and_false, false_and, not_true_eq_false, not_false_eq_true, Bool.false_eq_true, Option.bind_some, q_ofNat, q_cl, q_lt, q_le, q_eq, nI_add, pk_mul, q_m1, q_m4, m1_lt, m1_le, m1_nlt, m1_nle, m1_ne, m1_ne2, m4_lt, m4_le, m4_nlt, m4_nle, m4_ne, m4_ne2, q_0, q_1, q_2, q_3, q_4, q_5, q_6, q_8, q_12, q_15, q_16, q_20, q_24, q_30, q_31, q_32, q_80, q_9, q_99, q_126, q_48, q_57, q_58, q_59, q_97, q_101, q_10, q_21, q_255, q_46656]
def brF (img : Nat → Int32) (a : Nat) (row : Nat → Int32) (k : Nat) : Nat → Int32 := fun j => if j < k then img (a + j) else row j
theorem br_s (img : Nat → Int32) (a : Nat) (row : Nat → Int32) (k : Nat) : upd (brF img a row k) k (img (a + k)) = brF img a row (k + 1) := by
  funext j
  unfold upd brF
  by_cases c : j = k
  · rw [if_pos c, if_pos (by omega), c]
  · rw [if_neg c]
    by_cases d : j < k
    · rw [if_pos d, if_pos (by omega)]
    · rw [if_neg d, if_neg (by omega)]
theorem m_bring {N : Nat} (hN : 200000 ≤ N) (a : Nat) (img : Nat → Int32) (n : Nat) (row : Nat → Int32) (h : a + n ≤ 110) : f_X7_bring N (nI a) img n row = some (nI (a + n), brF img a row n) := by
  unfold f_X7_bring
  refine b_run (lp_for (fun k => (nI k, nI (a + k), brF img a row k)) n (by omega) rfl ?_ ?_ (r := (nI (a + n), brF img a row n))) rfl
  · intro k hk
    simp (disch := omega) only [f_X7_bring_B2, d_let, d_lef, d_ltt, d_ltf, d_eqt, d_eqf, ↓reduceIte, or_false, false_or, or_true, true_or, and_true, true_and, and_false, false_and, not_true_eq_false, not_false_eq_true, Bool.false_eq_true, Option.bind_some, q_ofNat, q_cl, q_lt, q_le, q_eq, nI_add, pk_mul, q_m1, q_m4, m1_lt, m1_le, m1_nlt, m1_nle, m1_ne, m1_ne2, m4_lt, m4_le, m4_nlt, m4_nle, m4_ne, m4_ne2, q_0, q_1, q_2, q_3, q_4, q_5, q_6, q_8, q_12, q_15, q_16, q_20, q_24, q_30, q_31, q_32, q_80, q_9, q_99, q_126, q_48, q_57, q_58, q_59, q_97, q_101, q_10, q_21, q_255, q_46656, br_s, Nat.add_assoc]
  · simp (disch := omega) only [f_X7_bring_B2, d_let, d_lef, d_ltt, d_ltf, d_eqt, d_eqf, ↓reduceIte, or_false, false_or, or_true, true_or, and_true, true_and, and_false, false_and, not_true_eq_false, not_false_eq_true, Bool.false_eq_true, Option.bind_some, q_ofNat, q_cl, q_lt, q_le, q_eq, nI_add, pk_mul, q_m1, q_m4, m1_lt, m1_le, m1_nlt, m1_nle, m1_ne, m1_ne2, m4_lt, m4_le, m4_nlt, m4_nle, m4_ne, m4_ne2, q_0, q_1, q_2, q_3, q_4, q_5, q_6, q_8, q_12, q_15, q_16, q_20, q_24, q_30, q_31, q_32, q_80, q_9, q_99, q_126, q_48, q_57, q_58, q_59, q_97, q_101, q_10, q_21, q_255, q_46656]
theorem kp_in {img : Nat → Int32} {a : Nat} {row : Nat → Int32} {n i : Nat} (h : i < n) : kpF img a row n (a + i) = row i := by
  unfold kpF; rw [if_pos (by omega)]; congr 1; omega
theorem kp_out {img : Nat → Int32} {a : Nat} {row : Nat → Int32} {n i : Nat} (h : i < a) : kpF img a row n i = img i := by
  unfold kpF; rw [if_neg (by omega)]
theorem x_cTake {h : Hl} {s : Cr} {vba vus vch : Int32} {vw vc : Nat → Int32} (c : cX h s vba vus vch vw vc) (a1 a2 : Nat → Int32) : ∃ u : Int32 × Int32 × Int32 × (Nat → Int32) × (Nat → Int32), f_X0_takeAll a1 a2 vba vus vch vw vc = some u ∧ cX h s u.1 u.2.1 u.2.2.1 u.2.2.2.1 u.2.2.2.2 := by
  have z6 : (6 : Int32).toNatClampNeg = 6 := rfl
  have z5 : (5 : Int32).toNatClampNeg = 5 := rfl
  exact ⟨_, rfl, c.1, c.2.1, c.2.2.1, fun b hb => (cpy0 (by omega)).trans (c.2.2.2.1 b hb), fun k hk => (cpy0 (by omega)).trans (c.2.2.2.2 k hk)⟩
-- the rows of an image
theorem tX_cong {h : Hl} (ok : hOK h) {vb vb' : Int32} {vme vmo vdi vsi vor vme' vmo' vdi' vsi' vor' : Nat → Int32} (t : tX h vb vme vmo vdi vsi vor) (h0 : vb' = vb) (h1 : ∀ b, b < 6 → vme' b = vme b) (h2 : ∀ b, b < 6 → vmo' b = vmo b) (h3 : ∀ b, b < 6 → vdi' b = vdi b) (h4 : ∀ b, b < 6 → vsi' b = vsi b) (h5 : ∀ b, b < 30 → vor' b = vor b) : tX h vb' vme' vmo' vdi' vsi' vor' := by
  have h6 := ok.1
  refine ⟨h0.trans t.1, fun b hb => ?_⟩
  obtain ⟨e1, e2, e3, e4, e5⟩ := t.2 b hb
  have o5 := (ok.2.1 b hb).2.2.2.2.1
  exact ⟨(h1 b (by omega)).trans e1, (h2 b (by omega)).trans e2, fun q => (h3 b (by omega)).trans (e3 q), (h4 b (by omega)).trans e4, fun i hi => (h5 _ (by omega)).trans (e5 i hi)⟩
theorem rX_cong {r : Br} {vab vbe vst vlo vab' vbe' vst' vlo' : Nat → Int32} (rr : rX r vab vbe vst vlo) (h1 : ∀ d, d < 8 → vab' d = vab d) (h2 : ∀ d, d < 8 → vbe' d = vbe d) (h3 : ∀ d, d < 5 → vst' d = vst d) (h4 : ∀ d, d < 16 → vlo' d = vlo d) : rX r vab' vbe' vst' vlo' :=
  ⟨fun d hd => ⟨(h1 d hd).trans (rr.1 d hd).1, (h2 d hd).trans (rr.1 d hd).2⟩, fun k hk => (h3 k hk).trans (rr.2.1 k hk), fun i hi => (h4 i hi).trans (rr.2.2 i hi)⟩
theorem ok_image {N : Nat} (hN : 200000 ≤ N) : st_image N Rel := by
  unfold st_image
  intro vx_kept vx_tape_length vx_tape_at vx_tape_lotBlocks vx_tape_bytes vx_tape_digitPlaces vx_told_blocks vx_told_members vx_told_moves vx_told_digits vx_told_sizes vx_told_orders vx_told_above vx_told_below vx_told_struck vx_told_lots vx_course_ballots vx_course_used vx_course_chosen vx_course_waiter vx_course_wait vx_course_wrote vx_course_writes vx_course_counts vx_keptTold_blocks vx_keptTold_members vx_keptTold_moves vx_keptTold_digits vx_keptTold_sizes vx_keptTold_orders vx_keptTold_above vx_keptTold_below vx_keptTold_struck vx_keptTold_lots vx_keptCourse_ballots vx_keptCourse_used vx_keptCourse_chosen vx_keptCourse_waiter vx_keptCourse_wait vx_keptCourse_wrote vx_keptCourse_writes vx_keptCourse_counts vx_trialTold_blocks vx_trialTold_members vx_trialTold_moves vx_trialTold_digits vx_trialTold_sizes vx_trialTold_orders vx_trialTold_above vx_trialTold_below vx_trialTold_struck vx_trialTold_lots vx_trial_ballots vx_trial_used vx_trial_chosen vx_trial_waiter vx_trial_wait vx_trial_wrote vx_trial_writes vx_trial_counts vx_odds_above vx_odds_below vx_odds_now_size nx_odds_now_states vx_odds_now_states nx_odds_now_weights vx_odds_now_weights nx_odds_now_slots vx_odds_now_slots vx_odds_then_size nx_odds_then_states vx_odds_then_states nx_odds_then_weights vx_odds_then_weights nx_odds_then_slots vx_odds_then_slots vx_odds_trial_ballots vx_odds_trial_used vx_odds_trial_chosen vx_odds_trial_waiter vx_odds_trial_wait vx_odds_trial_wrote vx_odds_trial_writes vx_odds_trial_counts vx_sheets_lanes vx_sheets_sizes vx_sheets_items vm_blocks vm_done vm_used vm_taken vm_taped vm_at vm_readBlocks vm_copyUsed vm_waiter vm_waiting vm_isTold vm_toldBits vm_toldAt vm_endName vm_endBallot vm_isKept vm_imageAt vm_members vm_moves vm_digits vm_sizes vm_orders vm_above vm_below vm_struck vm_lotted vm_wrote vm_tape vm_readMembers vm_readMoves vm_readDigits vm_readSizes vm_readOrders vm_digitPlaces vm_copy vm_then vm_counts vm_ways vm_more vm_image vm_singles vm_lanes vm_rowSizes vm_items  hR
  obtain ⟨RB, RK, RT, RS, RO, RW⟩ := Rel_out hR
  obtain ⟨h, r, s, ok, rok, sok, tx, rx, cx, tm, td, rm, cm⟩ := RB
  have h6 := ok.1
  have RB' : RelB vx_told_blocks vx_told_members vx_told_moves vx_told_digits vx_told_sizes vx_told_orders vx_told_above vx_told_below vx_told_struck vx_told_lots vx_course_ballots vx_course_used vx_course_chosen vx_course_wrote vx_course_counts vm_blocks vm_done vm_used vm_taken vm_members vm_moves vm_digits vm_sizes vm_orders vm_above vm_below vm_struck vm_lotted vm_wrote := ⟨h, r, s, ok, rok, sok, tx, rx, cx, tm, td, rm, cm⟩
  obtain ⟨u, U1, U2, U3⟩ := x_takeAll ok tx rx vx_keptTold_members vx_keptTold_moves vx_keptTold_digits vx_keptTold_sizes vx_keptTold_orders vx_keptTold_above vx_keptTold_below vx_keptTold_struck vx_keptTold_lots
  obtain ⟨v, V1, V2⟩ := x_cTake cx vx_keptCourse_wrote vx_keptCourse_counts
  generalize hsg : upd (upd (upd (upd vm_singles 0 vm_blocks) 1 vm_done) 2 vm_used) 3 vm_taken = sg
  have g0 : sg 0 = vm_blocks := by subst hsg; rfl
  have g1 : sg 1 = vm_done := by subst hsg; rfl
  have g2 : sg 2 = vm_used := by subst hsg; rfl
  have g3 : sg 3 = vm_taken := by subst hsg; rfl
  have K1 := m_keep hN 0 vm_image 4 sg (by decide)
  generalize hI1 : kpF vm_image 0 sg 4 = I1 at K1
  have K2 := m_keep hN 4 I1 6 vm_members (by decide)
  generalize hI2 : kpF I1 4 vm_members 6 = I2 at K2
  have K3 := m_keep hN 10 I2 6 vm_moves (by decide)
  generalize hI3 : kpF I2 10 vm_moves 6 = I3 at K3
  have K4 := m_keep hN 16 I3 6 vm_digits (by decide)
  generalize hI4 : kpF I3 16 vm_digits 6 = I4 at K4
  have K5 := m_keep hN 22 I4 6 vm_sizes (by decide)
  generalize hI5 : kpF I4 22 vm_sizes 6 = I5 at K5
  have K6 := m_keep hN 28 I5 30 vm_orders (by decide)
  generalize hI6 : kpF I5 28 vm_orders 30 = I6 at K6
  have K7 := m_keep hN 58 I6 8 vm_above (by decide)
  generalize hI7 : kpF I6 58 vm_above 8 = I7 at K7
  have K8 := m_keep hN 66 I7 8 vm_below (by decide)
  generalize hI8 : kpF I7 66 vm_below 8 = I8 at K8
  have K9 := m_keep hN 74 I8 5 vm_struck (by decide)
  generalize hI9 : kpF I8 74 vm_struck 5 = I9 at K9
  have K10 := m_keep hN 79 I9 16 vm_lotted (by decide)
  generalize hI10 : kpF I9 79 vm_lotted 16 = I10 at K10
  have K11 := m_keep hN 95 I10 6 vm_wrote (by decide)
  generalize hI11 : kpF I10 95 vm_wrote 6 = I11 at K11
  have o11 : ∀ i, i < 95 → I11 i = I10 i := fun i hi => by rw [← hI11]; exact kp_out hi
  have o10 : ∀ i, i < 79 → I11 i = I9 i := fun i hi => (o11 i (by omega)).trans (by rw [← hI10]; exact kp_out hi)
  have o9 : ∀ i, i < 74 → I11 i = I8 i := fun i hi => (o10 i (by omega)).trans (by rw [← hI9]; exact kp_out hi)
  have o8 : ∀ i, i < 66 → I11 i = I7 i := fun i hi => (o9 i (by omega)).trans (by rw [← hI8]; exact kp_out hi)
  have o7 : ∀ i, i < 58 → I11 i = I6 i := fun i hi => (o8 i (by omega)).trans (by rw [← hI7]; exact kp_out hi)
  have o6 : ∀ i, i < 28 → I11 i = I5 i := fun i hi => (o7 i (by omega)).trans (by rw [← hI6]; exact kp_out hi)
  have o5 : ∀ i, i < 22 → I11 i = I4 i := fun i hi => (o6 i (by omega)).trans (by rw [← hI5]; exact kp_out hi)
  have o4 : ∀ i, i < 16 → I11 i = I3 i := fun i hi => (o5 i (by omega)).trans (by rw [← hI4]; exact kp_out hi)
  have o3 : ∀ i, i < 10 → I11 i = I2 i := fun i hi => (o4 i (by omega)).trans (by rw [← hI3]; exact kp_out hi)
  have o2 : ∀ i, i < 4 → I11 i = I1 i := fun i hi => (o3 i (by omega)).trans (by rw [← hI2]; exact kp_out hi)
  have p0 : ∀ i, i < 4 → I11 i = sg i := fun i hi => (o2 i hi).trans (by rw [← hI1]; have := kp_in (img := vm_image) (a := 0) (row := sg) hi; rw [Nat.zero_add] at this; exact this)
  have p1 : ∀ i, i < 6 → I11 (4 + i) = vm_members i := fun i hi => (o3 _ (by omega)).trans (by rw [← hI2]; exact kp_in hi)
  have p2 : ∀ i, i < 6 → I11 (10 + i) = vm_moves i := fun i hi => (o4 _ (by omega)).trans (by rw [← hI3]; exact kp_in hi)
  have p3 : ∀ i, i < 6 → I11 (16 + i) = vm_digits i := fun i hi => (o5 _ (by omega)).trans (by rw [← hI4]; exact kp_in hi)
  have p4 : ∀ i, i < 6 → I11 (22 + i) = vm_sizes i := fun i hi => (o6 _ (by omega)).trans (by rw [← hI5]; exact kp_in hi)
  have p5 : ∀ i, i < 30 → I11 (28 + i) = vm_orders i := fun i hi => (o7 _ (by omega)).trans (by rw [← hI6]; exact kp_in hi)
  have p6 : ∀ i, i < 8 → I11 (58 + i) = vm_above i := fun i hi => (o8 _ (by omega)).trans (by rw [← hI7]; exact kp_in hi)
  have p7 : ∀ i, i < 8 → I11 (66 + i) = vm_below i := fun i hi => (o9 _ (by omega)).trans (by rw [← hI8]; exact kp_in hi)
  have p8 : ∀ i, i < 5 → I11 (74 + i) = vm_struck i := fun i hi => (o10 _ (by omega)).trans (by rw [← hI9]; exact kp_in hi)
  have p9 : ∀ i, i < 16 → I11 (79 + i) = vm_lotted i := fun i hi => (o11 _ (by omega)).trans (by rw [← hI10]; exact kp_in hi)
  have p10 : ∀ i, i < 6 → I11 (95 + i) = vm_wrote i := fun i hi => by rw [← hI11]; exact kp_in hi
  refine ⟨(nI 1, u.1, u.2.1, u.2.2.1, u.2.2.2.1, u.2.2.2.2.1, u.2.2.2.2.2.1, u.2.2.2.2.2.2.1, u.2.2.2.2.2.2.2.1, u.2.2.2.2.2.2.2.2.1, u.2.2.2.2.2.2.2.2.2, v.1, v.2.1, v.2.2.1, v.2.2.2.1, v.2.2.2.2, nI 1), (nI 1, nI 1, I11, nI 101, sg), ?_, ?_, rfl, ?_⟩
  · unfold f_X6_image
    exact b_run U1 (b_run V1 rfl)
  · unfold f_X7_image
    rw [show upd (upd (upd (upd vm_singles (0 : Int32).toNatClampNeg vm_blocks) (1 : Int32).toNatClampNeg vm_done) (2 : Int32).toNatClampNeg vm_used) (3 : Int32).toNatClampNeg vm_taken = sg from hsg]
    exact b_run K1 (b_run K2 (b_run K3 (b_run K4 (b_run K5 (b_run K6 (b_run K7 (b_run K8 (b_run K9 (b_run K10 (b_run K11 rfl))))))))))
  · refine Rel_in RB' (Or.inr ⟨rfl, rfl, h, r, s, ok, rok, sok, U2, U3, V2, ?_, ?_, ?_, ?_⟩) RT RS RO RW
    · exact tX_cong ok tm ((p0 0 (by decide)).trans g0) p1 p2 p3 p4 p5
    · exact fun b hb hm => (p3 b (by omega)).trans (td b hb hm)
    · exact rX_cong rm p6 p7 p8 p9
    · exact ⟨((p0 1 (by decide)).trans g1).trans cm.1, ((p0 2 (by decide)).trans g2).trans cm.2.1, ((p0 3 (by decide)).trans g3).trans cm.2.2.1, fun b hb => (p10 b hb).trans (cm.2.2.2 b hb)⟩
theorem br_in {img : Nat → Int32} {a : Nat} {row : Nat → Int32} {n i : Nat} (h : i < n) : brF img a row n i = img (a + i) := by
  unfold brF; rw [if_pos h]
theorem ok_restore {N : Nat} (hN : 200000 ≤ N) : st_restore N Rel := by
  unfold st_restore
  intro vx_kept vx_tape_length vx_tape_at vx_tape_lotBlocks vx_tape_bytes vx_tape_digitPlaces vx_told_blocks vx_told_members vx_told_moves vx_told_digits vx_told_sizes vx_told_orders vx_told_above vx_told_below vx_told_struck vx_told_lots vx_course_ballots vx_course_used vx_course_chosen vx_course_waiter vx_course_wait vx_course_wrote vx_course_writes vx_course_counts vx_keptTold_blocks vx_keptTold_members vx_keptTold_moves vx_keptTold_digits vx_keptTold_sizes vx_keptTold_orders vx_keptTold_above vx_keptTold_below vx_keptTold_struck vx_keptTold_lots vx_keptCourse_ballots vx_keptCourse_used vx_keptCourse_chosen vx_keptCourse_waiter vx_keptCourse_wait vx_keptCourse_wrote vx_keptCourse_writes vx_keptCourse_counts vx_trialTold_blocks vx_trialTold_members vx_trialTold_moves vx_trialTold_digits vx_trialTold_sizes vx_trialTold_orders vx_trialTold_above vx_trialTold_below vx_trialTold_struck vx_trialTold_lots vx_trial_ballots vx_trial_used vx_trial_chosen vx_trial_waiter vx_trial_wait vx_trial_wrote vx_trial_writes vx_trial_counts vx_odds_above vx_odds_below vx_odds_now_size nx_odds_now_states vx_odds_now_states nx_odds_now_weights vx_odds_now_weights nx_odds_now_slots vx_odds_now_slots vx_odds_then_size nx_odds_then_states vx_odds_then_states nx_odds_then_weights vx_odds_then_weights nx_odds_then_slots vx_odds_then_slots vx_odds_trial_ballots vx_odds_trial_used vx_odds_trial_chosen vx_odds_trial_waiter vx_odds_trial_wait vx_odds_trial_wrote vx_odds_trial_writes vx_odds_trial_counts vx_sheets_lanes vx_sheets_sizes vx_sheets_items vm_blocks vm_done vm_used vm_taken vm_taped vm_at vm_readBlocks vm_copyUsed vm_waiter vm_waiting vm_isTold vm_toldBits vm_toldAt vm_endName vm_endBallot vm_isKept vm_imageAt vm_members vm_moves vm_digits vm_sizes vm_orders vm_above vm_below vm_struck vm_lotted vm_wrote vm_tape vm_readMembers vm_readMoves vm_readDigits vm_readSizes vm_readOrders vm_digitPlaces vm_copy vm_then vm_counts vm_ways vm_more vm_image vm_singles vm_lanes vm_rowSizes vm_items  hR
  obtain ⟨RB, RK, RT, RS, RO, RW⟩ := Rel_out hR
  have RKK : RelK vx_kept vm_isKept (RelB vx_keptTold_blocks vx_keptTold_members vx_keptTold_moves vx_keptTold_digits vx_keptTold_sizes vx_keptTold_orders vx_keptTold_above vx_keptTold_below vx_keptTold_struck vx_keptTold_lots vx_keptCourse_ballots vx_keptCourse_used vx_keptCourse_chosen vx_keptCourse_wrote vx_keptCourse_counts (vm_image 0) (vm_image 1) (vm_image 2) (vm_image 3) (fun i => vm_image (4 + i)) (fun i => vm_image (10 + i)) (fun i => vm_image (16 + i)) (fun i => vm_image (22 + i)) (fun i => vm_image (28 + i)) (fun i => vm_image (58 + i)) (fun i => vm_image (66 + i)) (fun i => vm_image (74 + i)) (fun i => vm_image (79 + i)) (fun i => vm_image (95 + i))) := RK
  rcases RK with ⟨K1, K2⟩ | ⟨K1, K2, h, r, s, ok, rok, sok, tx, rx, cx, tm, td, rm, cm⟩
  · refine ⟨(m4, vx_told_blocks, vx_told_members, vx_told_moves, vx_told_digits, vx_told_sizes, vx_told_orders, vx_told_above, vx_told_below, vx_told_struck, vx_told_lots, vx_course_ballots, vx_course_used, vx_course_chosen, vx_course_wrote, vx_course_counts), (m4, vm_blocks, vm_members, vm_moves, vm_digits, vm_sizes, vm_orders, vm_above, vm_below, vm_struck, vm_lotted, vm_wrote, vm_done, vm_used, vm_taken, vm_imageAt, vm_singles), ?_, ?_, rfl, Rel_in RB RKK RT RS RO RW⟩
    · unfold f_X6_restore; rw [if_pos (by rw [K1]; rfl)]; rfl
    · unfold f_X7_restore; rw [if_pos (by rw [K2]; rfl)]; rfl
  · have h6 := ok.1
    obtain ⟨u, U1, U2, U3⟩ := x_takeAll ok tx rx vx_told_members vx_told_moves vx_told_digits vx_told_sizes vx_told_orders vx_told_above vx_told_below vx_told_struck vx_told_lots
    obtain ⟨v, V1, V2⟩ := x_cTake cx vx_course_wrote vx_course_counts
    have B1 := m_bring hN 0 vm_image 4 vm_singles (by decide)
    have B2 := m_bring hN 4 vm_image 6 vm_members (by decide)
    have B3 := m_bring hN 10 vm_image 6 vm_moves (by decide)
    have B4 := m_bring hN 16 vm_image 6 vm_digits (by decide)
    have B5 := m_bring hN 22 vm_image 6 vm_sizes (by decide)
    have B6 := m_bring hN 28 vm_image 30 vm_orders (by decide)
    have B7 := m_bring hN 58 vm_image 8 vm_above (by decide)
    have B8 := m_bring hN 66 vm_image 8 vm_below (by decide)
    have B9 := m_bring hN 74 vm_image 5 vm_struck (by decide)
    have B10 := m_bring hN 79 vm_image 16 vm_lotted (by decide)
    have B11 := m_bring hN 95 vm_image 6 vm_wrote (by decide)
    refine ⟨(nI 1, u.1, u.2.1, u.2.2.1, u.2.2.2.1, u.2.2.2.2.1, u.2.2.2.2.2.1, u.2.2.2.2.2.2.1, u.2.2.2.2.2.2.2.1, u.2.2.2.2.2.2.2.2.1, u.2.2.2.2.2.2.2.2.2, v.1, v.2.1, v.2.2.1, v.2.2.2.1, v.2.2.2.2), (nI 1, brF vm_image 0 vm_singles 4 0, brF vm_image 4 vm_members 6, brF vm_image 10 vm_moves 6, brF vm_image 16 vm_digits 6, brF vm_image 22 vm_sizes 6, brF vm_image 28 vm_orders 30, brF vm_image 58 vm_above 8, brF vm_image 66 vm_below 8, brF vm_image 74 vm_struck 5, brF vm_image 79 vm_lotted 16, brF vm_image 95 vm_wrote 6, brF vm_image 0 vm_singles 4 1, brF vm_image 0 vm_singles 4 2, brF vm_image 0 vm_singles 4 3, nI 101, brF vm_image 0 vm_singles 4), ?_, ?_, rfl, ?_⟩
    · unfold f_X6_restore
      rw [if_neg (by rw [K1]; decide)]
      exact b_run U1 (b_run V1 rfl)
    · unfold f_X7_restore
      rw [if_neg (by rw [K2]; decide)]
      exact b_run B1 (b_run B2 (b_run B3 (b_run B4 (b_run B5 (b_run B6 (b_run B7 (b_run B8 (b_run B9 (b_run B10 (b_run B11 rfl))))))))))
    · refine Rel_in ⟨h, r, s, ok, rok, sok, U2, U3, V2, ?_, ?_, ?_, ?_⟩ RKK RT RS RO RW
      · exact tX_cong ok tm rfl (fun b hb => br_in hb) (fun b hb => br_in hb) (fun b hb => br_in hb) (fun b hb => br_in hb) (fun b hb => br_in hb)
      · exact fun b hb hm => (br_in (by omega)).trans (td b hb hm)
      · exact rX_cong rm (fun b hb => br_in hb) (fun b hb => br_in hb) (fun b hb => br_in hb) (fun b hb => br_in hb)
      · exact ⟨cm.1, cm.2.1, cm.2.2.1, fun b hb => (br_in hb).trans (cm.2.2.2 b hb)⟩
