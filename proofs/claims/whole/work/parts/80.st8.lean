-- the reference's ring
theorem m_goR {h : Hl} (ok : hOK h) {vb : Int32} {vme vmo vdi vsi vor : Nat → Int32} (t : tX h vb vme vmo vdi vsi vor) {N : Nat} (hN : 200000 ≤ N) {r : Br} (rok : bOK r) {vst vlo : Nat → Int32} (hst : ∀ k, k < 5 → vst k = nI (bSt r k)) {tt : Nat} (ht : tt < 1000) {mw mn mt tb cu : Int32} (W3 : mw = wM 0) (W4 : ∃ k, k < 1000 ∧ mn = nI k) (h4 : ∀ b, b < hB h → hMov h b ≠ 4) {c : Nat → Nat} {vw vth vc : Nat → Int32} (hw : ∀ b, b < 6 → vw b = wM (c b)) (hc : wOK h c) :
    ∃ vw' vth' vc', f_X7_go N vb cu mw mn mt tb vme vmo vdi vsi vor vst vlo vw vth vc (nI tt) (nI 0) = some (vw', vth', vc', cu, nI 0) ∧ (∀ b, b < 6 → vw' b = wM (rgF h (aliv r (min tt 31)) c b)) := by
  obtain ⟨wk, hwk, rfl⟩ := W4
  subst W3
  have hmd : mdM 0 wk tt 0 = fun _ => 2 := by
    funext b; unfold mdM; rw [if_neg (by omega), if_neg (by omega)]
  obtain ⟨vw', vth', vc', G1, G2, G3⟩ := m_go ok t hN rok hst (vlo := vlo) ht (wt := 0) (wn := wk) (by omega) hwk (fl := 0) (by omega) (vth := vth) (vc := vc) hw hc (isT := mt) (tb := tb) (cu := fun _ => cu) (ta := fun _ => nI 0) (lk := fun _ => false) rfl (fun b hb q => absurd q (h4 b hb)) (fun b hb _ => ⟨rfl, rfl⟩)
  rw [hmd] at G2
  exact ⟨vw', vth', vc', G1, G2⟩
def wyI (S : Nat → Nat) (k : Nat) (w : Nat → Int64) : Prop := (∀ j, j < k → w (S j) = lN j) ∧ ∀ x, x < 46656 → (∀ j, j < k → S j ≠ x) → w x = -1
abbrev RgT : Type := Int32 × (Nat → Int32) × (Nat → Int32) × (Nat → Int32) × Int32 × Int32 × (Nat → Int64)
theorem m_fillW {N : Nat} (hN : 200000 ≤ N) (w : Nat → Int64) : ∃ w', lp (fun s : Int32 × (Nat → Int64) => f_X7_ring_B31 s.1 s.2) N ((0 : Int32), w) = some (nI 46656, w') ∧ ∀ x, x < 46656 → w' x = -1 := by
  have hat : ∀ k x, it (fun k v => vp_updL v k (-1)) w k x = if x < k then -1 else w x := by
    intro k
    induction k with
    | zero => intro x; rw [if_neg (Nat.not_lt_zero x)]; rfl
    | succ k ih =>
      intro x
      show vp_updL (it (fun k v => vp_updL v k (-1)) w k) k (-1) x = _
      by_cases c : x = k
      · subst c; rw [pk_uLs, if_pos (by omega)]
      · rw [pk_uLn c, ih]
        by_cases d : x < k
        · rw [if_pos d, if_pos (by omega)]
        · rw [if_neg d, if_neg (by omega)]
  refine ⟨it (fun k v => vp_updL v k (-1)) w 46656, ?_, fun x hx => by rw [hat, if_pos hx]⟩
  refine lp_for (fun k => (nI k, it (fun k v => vp_updL v k (-1)) w k)) 46656 (by omega) rfl ?_ ?_
  · intro k hk
    show f_X7_ring_B31 (nI k) (it (fun k v => vp_updL v k (-1)) w k) = some (Sum.inl (nI (k + 1), vp_updL (it (fun k v => vp_updL v k (-1)) w k) k (-1)))
    generalize it (fun k v => vp_updL v k (-1)) w k = z
    unfold f_X7_ring_B31
    rw [if_neg (by rw [q_46656, q_le (by omega) (by omega)]; omega), q_cl (by omega), if_neg (by rw [q_0, q_lt (by omega) (by omega)]; omega), nI_1]
  · show f_X7_ring_B31 (nI 46656) (it (fun k v => vp_updL v k (-1)) w 46656) = _
    generalize it (fun k v => vp_updL v k (-1)) w 46656 = z
    unfold f_X7_ring_B31
    rw [if_pos (show (46656 : Int32) ≤ nI 46656 by decide)]
theorem m_ring {h : Hl} (ok : hOK h) {vb : Int32} {vme vmo vdi vsi vor : Nat → Int32} (t : tX h vb vme vmo vdi vsi vor) {N : Nat} (hN : 200000 ≤ N) {r : Br} (rok : bOK r) {vst vlo : Nat → Int32} (hst : ∀ k, k < 5 → vst k = nI (bSt r k)) {tt : Nat} (ht : tt < 1000) {mw mn mt tb : Int32} (W3 : mw = wM 0) (W4 : ∃ k, k < 1000 ∧ mn = nI k) (h4 : ∀ b, b < hB h → hMov h b ≠ 4) {c : Nat → Nat} (hc : wOK h c) {mu la : Nat} (hl : 0 < la) (hs : mu + la ≤ 46656) (inj : ∀ i j, i < j → j < mu + la → rgS h (aliv r (min tt 31)) c i ≠ rgS h (aliv r (min tt 31)) c j) (hp : rgS h (aliv r (min tt 31)) c (mu + la) = rgS h (aliv r (min tt 31)) c mu) {s : RgT} (h1 : s.1 = nI 0) (h2 : ∀ b, b < 6 → s.2.1 b = wM (c b)) (h3 : ∀ x, x < 46656 → s.2.2.2.2.2.2 x = -1) :
    ∃ e : RgT, lp (fun s : RgT => f_X7_ring_B58 N vb (nI tt) mw mn mt tb vme vmo vdi vsi vor vst vlo s.1 s.2.1 s.2.2.1 s.2.2.2.1 s.2.2.2.2.1 s.2.2.2.2.2.1 s.2.2.2.2.2.2) N s = some e ∧ e.1 = nI (mu + la) ∧ f_X7_codeOf N e.2.1 = some (nI (rgS h (aliv r (min tt 31)) c mu)) ∧ e.2.2.2.2.2.2 (rgS h (aliv r (min tt 31)) c mu) = lN mu := by
  have hlt := rgS_lt ok (al := aliv r (min tt 31)) hc
  refine lp_rel0 (fun k (s : RgT) => s.1 = nI k ∧ (∀ b, b < 6 → s.2.1 b = wM (rgC h (aliv r (min tt 31)) c k b)) ∧ wyI (rgS h (aliv r (min tt 31)) c) k s.2.2.2.2.2.2) _ (mu + la) (by omega) ⟨h1, h2, fun j hj => by omega, fun x hx _ => h3 x hx⟩ ?_ ?_
  · rintro k hk s ⟨a1, a2, a3⟩
    left
    have C := m_code hN a2 (wOK_lt ok (rgC_ok hc k))
    have C : f_X7_codeOf N s.2.1 = some (nI (rgS h (aliv r (min tt 31)) c k)) := C
    have q1 := hlt k
    obtain ⟨vw', vth', vc', G1, G2⟩ := m_goR ok t hN rok hst ht (vlo := vlo) (tb := tb) (mt := mt) (cu := s.2.2.2.2.1) W3 W4 h4 (vth := s.2.2.1) (vc := s.2.2.2.1) a2 (rgC_ok hc k)
    have hw : s.2.2.2.2.2.2 (rgS h (aliv r (min tt 31)) c k) = -1 := a3.2 _ q1 (fun j hj => inj j k hj hk)
    refine ⟨(nI (k + 1), vw', vth', vc', s.2.2.2.2.1, nI 0, vp_updL s.2.2.2.2.2.2 (rgS h (aliv r (min tt 31)) c k) (lN k)), ?_, rfl, G2, ?_, ?_⟩
    · unfold f_X7_ring_B58
      rw [C, Option.bind_some, q_cl (by omega), if_neg (by rw [q_0, q_lt (by omega) (by omega)]; omega), hw, if_neg (by decide), Option.bind_some, q_cl (by omega), if_neg (by rw [q_0, q_lt (by omega) (by omega)]; omega), q_0, G1, Option.bind_some, a1, nI_1, nI_l (by omega)]
    · intro j hj
      show vp_updL s.2.2.2.2.2.2 (rgS h (aliv r (min tt 31)) c k) (lN k) (rgS h (aliv r (min tt 31)) c j) = lN j
      by_cases e : j = k
      · subst e; rw [pk_uLs]
      · rw [pk_uLn (inj j k (by omega) hk)]; exact a3.1 j (by omega)
    · intro x hx hn
      show vp_updL s.2.2.2.2.2.2 (rgS h (aliv r (min tt 31)) c k) (lN k) x = -1
      rw [pk_uLn (fun q => hn k (by omega) q.symm)]
      exact a3.2 x hx (fun j hj => hn j (by omega))
  · rintro s ⟨a1, a2, a3⟩
    have C := m_code hN a2 (wOK_lt ok (rgC_ok hc _))
    have C : f_X7_codeOf N s.2.1 = some (nI (rgS h (aliv r (min tt 31)) c (mu + la))) := C
    rw [hp] at C
    have q1 := hlt mu
    have hw := a3.1 mu (by omega)
    refine ⟨s, ?_, a1, C, hw⟩
    unfold f_X7_ring_B58
    rw [C, Option.bind_some, q_cl (by omega), if_neg (by rw [q_0, q_lt (by omega) (by omega)]; omega), hw, if_pos (show (0 : Int32) ≤ lg_cmp (lN mu) (0 : Int64) from (lg_cmp_ge _ _).2 (show (0 : Int64) ≤ lN mu from (lN_le (a := 0) (b := mu) (by decide) (by omega)).2 (by omega)))]
theorem lots0 {h : Hl} (hl : hLots h (hB h) = 0) : ∀ b, b < hB h → hMov h b ≠ 4 := by
  have : ∀ n, hLots h n = 0 → ∀ b, b < n → hMov h b ≠ 4 := by
    intro n
    induction n with
    | zero => intro _ b hb; omega
    | succ n ih =>
      intro hz b hb
      have hz : hLots h n + (if hMov h n = 4 then 1 else 0) = 0 := hz
      by_cases c : hMov h n = 4
      · rw [if_pos c] at hz; omega
      · rw [if_neg c] at hz
        by_cases e : b = n
        · subst e; exact c
        · exact ih hz b (by omega)
  exact this _ hl
theorem lb0 {h : Hl} : (lbS h 0 < hB h) ↔ 0 < hLots h (hB h) := by
  constructor
  · intro q
    have hy := of_decide_eq_true (ff_yes (lbP h 0) (hB h) 0 (by unfold lbS at q; omega))
    refine Nat.pos_of_ne_zero (fun z => ?_)
    exact lots0 z _ q hy.1
  · intro q
    refine Classical.byContradiction (fun n => ?_)
    have a := ff_le (lbP h 0) (hB h) 0
    have key : ∀ k, k ≤ hB h → hLots h k = 0 := by
      intro k
      induction k with
      | zero => intro _; rfl
      | succ k ih =>
        intro hk
        have i0 := ih (by omega)
        have := of_decide_eq_false (ff_no (lbP h 0) (hB h) 0 k (by omega) (by unfold lbS at n; omega))
        show hLots h k + (if hMov h k = 4 then 1 else 0) = 0
        rw [if_neg (fun c => this ⟨c, i0⟩), i0]
    have := key _ (Nat.le_refl _); omega
abbrev RrT : Type := Int32 × Int32 × (Nat → Int32) × (Nat → Int32) × (Nat → Int32) × (Nat → Int32) × (Nat → Int32) × (Nat → Int32) × (Nat → Int32) × (Nat → Int32) × (Nat → Int32) × Int32 × Int32 × (Nat → Int32) × (Nat → Int32) × (Nat → Int32)
set_option maxRecDepth 4000 in
theorem ok_ring {N : Nat} (hN : 200000 ≤ N) : st_ring N Rel := by
  unfold st_ring
  intro vx_kept vx_tape_length vx_tape_at vx_tape_lotBlocks vx_tape_bytes vx_tape_digitPlaces vx_told_blocks vx_told_members vx_told_moves vx_told_digits vx_told_sizes vx_told_orders vx_told_above vx_told_below vx_told_struck vx_told_lots vx_course_ballots vx_course_used vx_course_chosen vx_course_waiter vx_course_wait vx_course_wrote vx_course_writes vx_course_counts vx_keptTold_blocks vx_keptTold_members vx_keptTold_moves vx_keptTold_digits vx_keptTold_sizes vx_keptTold_orders vx_keptTold_above vx_keptTold_below vx_keptTold_struck vx_keptTold_lots vx_keptCourse_ballots vx_keptCourse_used vx_keptCourse_chosen vx_keptCourse_waiter vx_keptCourse_wait vx_keptCourse_wrote vx_keptCourse_writes vx_keptCourse_counts vx_trialTold_blocks vx_trialTold_members vx_trialTold_moves vx_trialTold_digits vx_trialTold_sizes vx_trialTold_orders vx_trialTold_above vx_trialTold_below vx_trialTold_struck vx_trialTold_lots vx_trial_ballots vx_trial_used vx_trial_chosen vx_trial_waiter vx_trial_wait vx_trial_wrote vx_trial_writes vx_trial_counts vx_odds_above vx_odds_below vx_odds_now_size nx_odds_now_states vx_odds_now_states nx_odds_now_weights vx_odds_now_weights nx_odds_now_slots vx_odds_now_slots vx_odds_then_size nx_odds_then_states vx_odds_then_states nx_odds_then_weights vx_odds_then_weights nx_odds_then_slots vx_odds_then_slots vx_odds_trial_ballots vx_odds_trial_used vx_odds_trial_chosen vx_odds_trial_waiter vx_odds_trial_wait vx_odds_trial_wrote vx_odds_trial_writes vx_odds_trial_counts vx_sheets_lanes vx_sheets_sizes vx_sheets_items vm_blocks vm_done vm_used vm_taken vm_taped vm_at vm_readBlocks vm_copyUsed vm_waiter vm_waiting vm_isTold vm_toldBits vm_toldAt vm_endName vm_endBallot vm_isKept vm_imageAt vm_members vm_moves vm_digits vm_sizes vm_orders vm_above vm_below vm_struck vm_lotted vm_wrote vm_tape vm_readMembers vm_readMoves vm_readDigits vm_readSizes vm_readOrders vm_digitPlaces vm_copy vm_then vm_counts vm_ways vm_more vm_image vm_singles vm_lanes vm_rowSizes vm_items y0 hR
  obtain ⟨RB, RK, RT, RS, RO, RW⟩ := Rel_out hR
  obtain ⟨h, r, s, ok, rok, sok, tx, rx, cx, tm, td, rm, cm⟩ := RB
  have h6 := ok.1
  have e1 := tx.1; have e2 := tm.1
  have b1 := sok.1
  have RB' : RelB vx_told_blocks vx_told_members vx_told_moves vx_told_digits vx_told_sizes vx_told_orders vx_told_above vx_told_below vx_told_struck vx_told_lots vx_course_ballots vx_course_used vx_course_chosen vx_course_wrote vx_course_counts vm_blocks vm_done vm_used vm_taken vm_members vm_moves vm_digits vm_sizes vm_orders vm_above vm_below vm_struck vm_lotted vm_wrote := ⟨h, r, s, ok, rok, sok, tx, rx, cx, tm, td, rm, cm⟩
  have NO : ∀ {z : Int32}, f_X6_ring N vx_told_blocks vx_told_members vx_told_moves vx_told_digits vx_told_sizes vx_told_orders vx_told_above vx_told_below vx_told_struck vx_told_lots vx_course_ballots vx_course_wrote vx_trialTold_blocks vx_trialTold_members vx_trialTold_moves vx_trialTold_digits vx_trialTold_sizes vx_trialTold_orders vx_trialTold_above vx_trialTold_below vx_trialTold_struck vx_trialTold_lots vx_trial_waiter vx_trial_wait vx_trial_wrote vx_trial_writes vx_trial_counts y0 = some (z, vx_trialTold_blocks, vx_trialTold_members, vx_trialTold_moves, vx_trialTold_digits, vx_trialTold_sizes, vx_trialTold_orders, vx_trialTold_above, vx_trialTold_below, vx_trialTold_struck, vx_trialTold_lots, vx_trial_waiter, vx_trial_wait, vx_trial_wrote, vx_trial_writes, vx_trial_counts) → f_X7_ring N vm_blocks vm_done vm_used vm_copyUsed vm_waiter vm_waiting vm_isTold vm_toldBits vm_toldAt vm_members vm_moves vm_digits vm_sizes vm_orders vm_struck vm_lotted vm_wrote vm_copy vm_then vm_counts vm_ways y0 = some (z, vm_copy, vm_then, vm_counts, vm_copyUsed, vm_toldAt, vm_ways) → ∃ (u : RrT) (w : Int32 × (Nat → Int32) × (Nat → Int32) × (Nat → Int32) × Int32 × Int32 × (Nat → Int64)), f_X6_ring N vx_told_blocks vx_told_members vx_told_moves vx_told_digits vx_told_sizes vx_told_orders vx_told_above vx_told_below vx_told_struck vx_told_lots vx_course_ballots vx_course_wrote vx_trialTold_blocks vx_trialTold_members vx_trialTold_moves vx_trialTold_digits vx_trialTold_sizes vx_trialTold_orders vx_trialTold_above vx_trialTold_below vx_trialTold_struck vx_trialTold_lots vx_trial_waiter vx_trial_wait vx_trial_wrote vx_trial_writes vx_trial_counts y0 = some u ∧ f_X7_ring N vm_blocks vm_done vm_used vm_copyUsed vm_waiter vm_waiting vm_isTold vm_toldBits vm_toldAt vm_members vm_moves vm_digits vm_sizes vm_orders vm_struck vm_lotted vm_wrote vm_copy vm_then vm_counts vm_ways y0 = some w ∧ u.1 = w.1 := fun h1 h2 => ⟨_, _, h1, h2, rfl⟩
  suffices K : ∃ (u : RrT) (w : Int32 × (Nat → Int32) × (Nat → Int32) × (Nat → Int32) × Int32 × Int32 × (Nat → Int64)), f_X6_ring N vx_told_blocks vx_told_members vx_told_moves vx_told_digits vx_told_sizes vx_told_orders vx_told_above vx_told_below vx_told_struck vx_told_lots vx_course_ballots vx_course_wrote vx_trialTold_blocks vx_trialTold_members vx_trialTold_moves vx_trialTold_digits vx_trialTold_sizes vx_trialTold_orders vx_trialTold_above vx_trialTold_below vx_trialTold_struck vx_trialTold_lots vx_trial_waiter vx_trial_wait vx_trial_wrote vx_trial_writes vx_trial_counts y0 = some u ∧ f_X7_ring N vm_blocks vm_done vm_used vm_copyUsed vm_waiter vm_waiting vm_isTold vm_toldBits vm_toldAt vm_members vm_moves vm_digits vm_sizes vm_orders vm_struck vm_lotted vm_wrote vm_copy vm_then vm_counts vm_ways y0 = some w ∧ u.1 = w.1 by
    obtain ⟨u, w, k1, k2, k3⟩ := K
    exact ⟨u, w, k1, k2, k3, Rel_in RB' RK RT RS RO RW⟩
  rcases arg y0 0 1 with hy | hy | ⟨k, _, hk, rfl⟩
  · refine NO (z := -1) ?_ ?_
    · unfold f_X6_ring; rw [if_pos (by rw [q_0, i_lt (by omega)]; omega)]
    · unfold f_X7_ring; rw [mi_0_1, if_neg (by omega)]; rfl
  · refine NO (z := -1) ?_ ?_
    · unfold f_X6_ring; rw [if_neg (by rw [q_0, i_lt (by omega)]; omega), if_neg (by rw [q_1, i_le (by omega)]; omega)]
    · unfold f_X7_ring; rw [mi_0_1, if_neg (by omega)]; rfl
  · have g1 : ¬ nI k < 0 := nI_pos (by omega)
    have g2 : nI k ≤ 1 := by rw [q_1, q_le (by omega) (by omega)]; omega
    have gi : f_X7_in (nI k).toInt64 0 1 = some (nI 1) := by rw [mi_0_1, if_pos (by rw [nI_toInt (by omega)]; omega)]
    by_cases h0 : hB h = 0
    · refine NO (z := -2) ?_ ?_
      · unfold f_X6_ring
        rw [if_neg g1, if_pos g2, show f_X6_isEmpty vx_told_blocks = some (nI 1) by rw [e1, e_empty h6, if_pos h0], Option.bind_some, if_neg (show ¬ nI 1 = 0 by decide)]
      · unfold f_X7_ring
        rw [gi, Option.bind_some, if_neg (show ¬ nI 1 = 0 by decide), if_pos (by rw [e2, h0]; rfl)]
    · have EE : f_X6_isEmpty vx_told_blocks = some (nI 0) := by rw [e1, e_empty h6, if_neg h0]
      have nb0 : ¬ vm_blocks = 0 := by rw [e2]; exact nI_ne0 (by omega) (by omega)
      have LB := x_lotB ok tx hN (i := 0) (by decide)
      have LM := m_lotB ok tm hN
      have hll := hLots_le h (hB h)
      by_cases hlo : 0 < hLots h (hB h)
      · have hb := lb0.2 hlo
        rw [if_pos hb] at LB
        refine NO (z := -2) ?_ ?_
        · unfold f_X6_ring
          rw [if_neg g1, if_pos g2, EE, Option.bind_some, if_pos (show nI 0 = 0 from rfl), q_0, LB, Option.bind_some, if_neg (show ¬ nI (lbS h 0) = -1 from fun q => by have := m1_ne (a := lbS h 0) (by omega); rw [show (-1 : Int32) = m1 from rfl, this] at q; exact q)]
        · unfold f_X7_ring
          rw [gi, Option.bind_some, if_neg (show ¬ nI 1 = 0 by decide), if_neg nb0, LM, Option.bind_some, if_neg (by rw [q_0, q_le (by omega) (by omega)]; omega)]
      · have hb : ¬ lbS h 0 < hB h := fun q => hlo (lb0.1 q)
        have h4 := lots0 (h := h) (by omega)
        rw [if_neg hb] at LB
        obtain ⟨u, U1, U2, U3⟩ := x_takeAll ok tx rx vx_trialTold_members vx_trialTold_moves vx_trialTold_digits vx_trialTold_sizes vx_trialTold_orders vx_trialTold_above vx_trialTold_below vx_trialTold_struck vx_trialTold_lots
        have NB := nb_S b1
        obtain ⟨fz, F1, F2⟩ := x_freeze rok U3.2.1 hN (nb := min s.1 31) (by omega)
        have ST := x_state hN cx.2.2.2.1
        obtain ⟨mu, la, l1, l2, l3, l4⟩ := comes_round (rgS_lt ok (al := aliv r (min s.1 31)) sok.2.2.2)
        obtain ⟨lo, L1, L2⟩ := x_loop ok U2 hN rok F2 sok.2.2.2 l1 l2 l3 l4 vx_trial_wrote vx_trial_writes vx_trial_counts
        obtain ⟨ta, T1, T2⟩ := x_tail ok U2 hN rok F2 sok.2.2.2 l1 l2 l3 l4 lo.2.1 lo.2.2.1 lo.2.2.2.1 lo.2.2.2.2.1 lo.2.2.2.2.2
        obtain ⟨wf, V1, V2⟩ := m_fillW hN vm_ways
        obtain ⟨cp, C1, C2⟩ := m_takeNow hN vm_used vm_wrote vm_copy
        obtain ⟨e, E1, E2, E3, E4⟩ := m_ring ok tm hN rok rm.2.1 (tt := s.1) (by omega) (vlo := vm_lotted) (tb := vm_toldBits) (mt := vm_isTold) RW.2.2.1 RW.2.2.2.1 h4 sok.2.2.2 l1 l2 l3 l4 (s := ((0 : Int32), cp, vm_then, vm_counts, vm_used, vm_toldAt, wf)) rfl (fun b hb => (C2 b hb).trans (cm.2.2.2 b hb)) V2
        have q1 := rgS_lt ok (al := aliv r (min s.1 31)) sok.2.2.2 mu
        rw [← L2] at T1
        have X : ∀ z : RrT, (if nI k = 0 then ((f_X6_tailFrom N u.1 u.2.1 u.2.2.1 u.2.2.2.1 u.2.2.2.2.1 u.2.2.2.2.2.1 fz lo.2.1 lo.2.2.1 lo.2.2.2.1 lo.2.2.2.2.1 lo.2.2.2.2.2 (nI (enc s.2.2.2)) lo.1).bind (fun u13 => some (u13.1, u.1, u.2.1, u.2.2.1, u.2.2.2.1, u.2.2.2.2.1, u.2.2.2.2.2.1, u.2.2.2.2.2.2.1, u.2.2.2.2.2.2.2.1, fz, u.2.2.2.2.2.2.2.2.2, u13.2.1, u13.2.2.1, u13.2.2.2.1, u13.2.2.2.2.1, u13.2.2.2.2.2))) else some (lo.1, u.1, u.2.1, u.2.2.1, u.2.2.2.1, u.2.2.2.2.1, u.2.2.2.2.2.1, u.2.2.2.2.2.2.1, u.2.2.2.2.2.2.2.1, fz, u.2.2.2.2.2.2.2.2.2, lo.2.1, lo.2.2.1, lo.2.2.2.1, lo.2.2.2.2.1, lo.2.2.2.2.2)) = some z → f_X6_ring N vx_told_blocks vx_told_members vx_told_moves vx_told_digits vx_told_sizes vx_told_orders vx_told_above vx_told_below vx_told_struck vx_told_lots vx_course_ballots vx_course_wrote vx_trialTold_blocks vx_trialTold_members vx_trialTold_moves vx_trialTold_digits vx_trialTold_sizes vx_trialTold_orders vx_trialTold_above vx_trialTold_below vx_trialTold_struck vx_trialTold_lots vx_trial_waiter vx_trial_wait vx_trial_wrote vx_trial_writes vx_trial_counts (nI k) = some z := by
          intro z hz
          unfold f_X6_ring
          rw [if_neg g1, if_pos g2, EE, Option.bind_some, if_pos (show nI 0 = 0 from rfl)]
          refine b_run LB ?_
          rw [if_pos (show m1 = -1 from rfl)]
          refine b_run U1 ?_
          rw [cx.1]
          exact b_run NB (b_run F1 (b_run ST (b_run L1 hz)))
        have Y : ∀ z : Int32 × (Nat → Int32) × (Nat → Int32) × (Nat → Int32) × Int32 × Int32 × (Nat → Int64), (if nI k = 0 then some (nI mu, e.2.1, e.2.2.1, e.2.2.2.1, e.2.2.2.2.1, e.2.2.2.2.2.1, e.2.2.2.2.2.2) else some (nI la, e.2.1, e.2.2.1, e.2.2.2.1, e.2.2.2.2.1, e.2.2.2.2.2.1, e.2.2.2.2.2.2)) = some z → f_X7_ring N vm_blocks vm_done vm_used vm_copyUsed vm_waiter vm_waiting vm_isTold vm_toldBits vm_toldAt vm_members vm_moves vm_digits vm_sizes vm_orders vm_struck vm_lotted vm_wrote vm_copy vm_then vm_counts vm_ways (nI k) = some z := by
          intro z hz
          unfold f_X7_ring
          rw [gi, Option.bind_some, if_neg (show ¬ nI 1 = 0 by decide), if_neg nb0, LM, Option.bind_some, if_pos (by rw [q_0, q_le (by omega) (by omega)]; omega)]
          refine b_run V1 (b_run C1 ?_)
          rw [cm.1]
          refine b_run E1 (b_run E3 ?_)
          rw [q_cl (by omega), if_neg (by rw [q_0, q_lt (by omega) (by omega)]; omega), E4, lN_i, E2, pk_sub (by omega), show mu + la - mu = la by omega]
          exact hz
        by_cases k0 : k = 0
        · subst k0
          exact ⟨_, _, X _ (by rw [if_pos (show nI 0 = 0 from rfl)]; exact b_run T1 rfl), Y _ (if_pos rfl), T2⟩
        · exact ⟨_, _, X _ (if_neg (nI_ne0 (by omega) (by omega))), Y _ (if_neg (nI_ne0 (by omega) (by omega))), L2⟩
