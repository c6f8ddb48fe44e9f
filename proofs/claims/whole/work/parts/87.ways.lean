-- the reference's ballots with told lots
theorem md_told (wk tt : Nat) : mdM 0 wk tt (if tt = 0 then 1 else 0) = mdS 0 0 tt := by
  funext b
  rw [mdM_S]
  unfold mdS
  rw [show fmS 0 wk b = 0 from if_neg (by omega), show fmS 0 0 b = 0 from if_neg (by omega)]
theorem m_toldGo {h : Hl} (ok : hOK h) {vb : Int32} {vme vmo vdi vsi vor : Nat → Int32} (t : tX h vb vme vmo vdi vsi vor) {N : Nat} (hN : 200000 ≤ N) {r : Br} (rok : bOK r) {vab vbe vst vlo : Nat → Int32} (rr : rX r vab vbe vst vlo) {tt : Nat} (ht : tt < 32) {wk : Nat} (hwk : wk < 1000) {s e : Nat} (he : e < 4) (hs : Pk h s) (cu : Int32) {vw : Nat → Int32} (vth vc : Nat → Int32) (hw : ∀ b, b < 6 → vw b = wM (dec s b)) :
    ∃ vw' vth' vc' ta, f_X7_go N vb cu (wM 0) (nI wk) (1 : Int32) (nI e) vme vmo vdi vsi vor vst vlo vw vth vc (nI tt) (nI (if tt = 0 then 1 else 0)) = some (vw', vth', vc', cu, ta) ∧ (∀ b, b < 6 → vw' b = wM (nxC h r tt s e b)) ∧ (∀ k, k < 5 → vc' k = nI (cn h (nxC h r tt s e) k)) ∧ f_X7_chosenIn N vb vme vab vbe vc' (nI tt) = some (wM (wiE h r tt s e)) := by
  have h6 := ok.1
  have hmd := md_told wk tt
  have HL : ∀ b, b < hB h → hMov h b = 4 → mdM 0 wk tt (if tt = 0 then 1 else 0) b = 2 → f_X7_leadsByLot cu (nI 1) (nI e) (nI (if tt = 0 then 0 else hLots h b)) vdi vlo (nI b) = some (if lke h e b = true then nI 1 else nI 0, cu, nI (if tt = 0 then 0 else hLots h (b + 1))) := by
    intro b hb k4 k2
    rw [hmd] at k2
    have t0 : tt ≠ 0 := fun z => by
      unfold mdS at k2
      rw [show fmS 0 0 b = 0 from if_neg (by omega), z, if_neg (by omega), if_pos rfl] at k2
      omega
    have hll := hLots_le h b
    rw [if_neg t0, if_neg t0, hLots_s, if_pos k4]
    unfold f_X7_leadsByLot f_X7_leadsByLot_L27
    rw [if_neg (show ¬ nI 1 = 0 by decide), q_31, q_1, q_bit (by omega) (by omega), nI_add]
    by_cases c : e / 2 ^ hLots h b % 2 = 1
    · rw [if_pos (by rw [c]), if_neg (by decide), if_pos (show lke h e b = true from decide_eq_true ⟨k4, c⟩)]
    · rw [if_neg (by rw [q_eq (by omega) (by omega)]; exact c), if_neg (by decide), if_neg (show ¬ lke h e b = true from fun z => c (of_decide_eq_true z).2)]
      rfl
  have HN : ∀ b, b < hB h → ¬ (hMov h b = 4 ∧ mdM 0 wk tt (if tt = 0 then 1 else 0) b = 2) → cu = cu ∧ nI (if tt = 0 then 0 else hLots h (b + 1)) = nI (if tt = 0 then 0 else hLots h b) := by
    intro b hb hn
    rw [hmd] at hn
    refine ⟨rfl, ?_⟩
    by_cases z : tt = 0
    · rw [if_pos z, if_pos z]
    · have k2 : mdS 0 0 tt b = 2 := by
        unfold mdS
        rw [show fmS 0 0 b = 0 from if_neg (by omega), if_neg (by omega), if_neg z]
      rw [if_neg z, if_neg z, hLots_s, if_neg (fun k4 => hn ⟨k4, k2⟩)]; rfl
  obtain ⟨vw', vth', vc', G1, G2, G3⟩ := m_go ok t hN rok rr.2.1 (vlo := vlo) (tt := tt) (by omega) (wt := 0) (by omega) hwk (fl := if tt = 0 then 1 else 0) (by split <;> omega) (vth := vth) (vc := vc) hw hs (isT := nI 1) (tb := nI e) (cu := fun _ => cu) (ta := fun b => nI (if tt = 0 then 0 else hLots h b)) (lk := lke h e) (by show nI (if tt = 0 then 0 else hLots h 0) = nI 0; split <;> rfl) HL HN
  rw [show min tt 31 = tt by omega, hmd] at G2 G3
  exact ⟨vw', vth', vc', _, G1, G2, G3, m_chosen ok t hN rok rr.1 G3 (cn_le ok _) ht⟩
abbrev W9 : Type := Int64 × Int32 × (Nat → Int32) × (Nat → Int32) × (Nat → Int32) × Int32 × Int32 × Int32 × (Nat → Int64)
abbrev W10 : Type := Int64 × Int32 × (Nat → Int32) × (Nat → Int32) × (Nat → Int32) × Int32 × Int32 × Int32 × (Nat → Int64) × (Nat → Int64)
def geS (h : Hl) (r : Br) (tt nm w cd e : Nat) : Nat := if wiE h r tt cd e = nm + 1 then w * qrE h tt e else 0
def meS (h : Hl) (r : Br) (tt x w cd e : Nat) : Nat := if wiE h r tt cd e = 0 ∧ nxE h r tt cd e = x then w * qrE h tt e else 0
theorem qr_0 {h : Hl} {e : Nat} (he : e < 4) : qrE h 0 e = if e = 0 then 16 else 0 := by
  unfold qrE
  rw [q_0t he, show wyS h 0 = 1 from by unfold wyS wyE; rw [if_pos (Or.inl rfl), if_pos (Or.inl rfl)]]
  split <;> rfl
theorem qr_le {h : Hl} (ok : hOK h) (tt : Nat) {e : Nat} (he : e < 4) : qrE h tt e ≤ 256 := by
  unfold qrE
  have h1 := qE_le ok tt he
  have h2 : 16 / wyS h tt ≤ 16 := Nat.div_le_self _ _
  exact Nat.mul_le_mul h1 h2
theorem m_l159 {h : Hl} (ok : hOK h) {vb : Int32} {vme vmo vdi vsi vor : Nat → Int32} (t : tX h vb vme vmo vdi vsi vor) {N : Nat} (hN : 200000 ≤ N) {r : Br} (rok : bOK r) {vab vbe vst vlo : Nat → Int32} (rr : rX r vab vbe vst vlo) {tt : Nat} (ht : tt < 32) {wk : Nat} (hwk : wk < 1000) {nm n k : Nat} (hnm : nm < 5) (hk : k < n) (hn : n ≤ 12) {cd e w : Nat} (hcd : cd < 46656) (he : e < 4) (hw : w < 2 ^ 50) (hP : w ≠ 0 → Pk h cd) {S : Nat} {B : Nat → Nat} (v1 v2 v3 : Nat → Int32) (i1 i2 i3 : Int32) {mo : Nat → Int64} (hmo : ∀ x, x < 46656 → mo x = lN (B x)) :
    ∃ u : W9, f_X7_waysFor_L159 N vb i1 (wM 0) (nI wk) (1 : Int32) i2 i3 vme vmo vdi vsi vor vab vbe vst vlo v1 v2 v3 mo (nI nm) (nI n) (lN S) (nI e) (nI cd) (nI tt) (nI k) (nI (qrE h tt e)) (lN w) = some (.inl u) ∧ u.1 = lN (S + geS h r tt nm w cd e * 2 ^ (4 * (n - k - 1))) ∧ u.2.1 = nI (e + 1) ∧ ∀ x, x < 46656 → u.2.2.2.2.2.2.2.2 x = lN (B x + meS h r tt x w cd e) := by
  have ql := qr_le ok tt he
  have wq : w * qrE h tt e < 2 ^ 63 := by
    have : w * qrE h tt e ≤ w * 256 := Nat.mul_le_mul_left _ ql
    omega
  by_cases c : w * qrE h tt e = 0
  · refine ⟨(lN S, nI (e + 1), v1, v2, v3, i1, i2, i3, mo), ?_, ?_, rfl, fun x hx => ?_⟩
    · unfold f_X7_waysFor_L159
      rw [nI_l (by omega), lN_mul, if_pos ((l_pos wq).2 c)]
      unfold f_X7_waysFor_L249
      rw [nI_1]
    · unfold geS; rw [c]
      split <;> rw [Nat.zero_mul] <;> rfl
    · show mo x = _
      unfold meS; rw [c, hmo x hx]
      split <;> rfl
  · have w0 : w ≠ 0 := fun z => c (by rw [z, Nat.zero_mul])
    have P := hP w0
    obtain ⟨lv, L1, L2⟩ := m_lay hN hcd v1
    obtain ⟨gw, gt, gc, ta, G1, G2, G3, G4⟩ := m_toldGo ok t hN rok rr ht hwk he P i1 v2 v3 L2
    have wl : wiE h r tt cd e ≤ 5 := wiS_le _ _ _ _
    obtain ⟨n1, n2⟩ := nxE_ok ok (r := r) (tt := tt) (e := e) P
    have C := m_code hN G2 (wOK_lt ok (stS_ok P))
    have C : f_X7_codeOf N gw = some (nI (nxE h r tt cd e)) := C
    have Z : ∀ z : Option (W9 ⊕ W9), f_X7_waysFor_L195 N vb i1 (wM 0) (nI wk) (1 : Int32) vme vmo vdi vsi vor vab vbe vst vlo v2 v3 mo (nI nm) (nI n) (lN S) (nI e) (nI tt) (nI k) (lN (w * qrE h tt e)) lv (nI e) (nI (if tt = 0 then 1 else 0)) (nI tt) = z → f_X7_waysFor_L159 N vb i1 (wM 0) (nI wk) (1 : Int32) i2 i3 vme vmo vdi vsi vor vab vbe vst vlo v1 v2 v3 mo (nI nm) (nI n) (lN S) (nI e) (nI cd) (nI tt) (nI k) (nI (qrE h tt e)) (lN w) = z := by
      intro z hz
      unfold f_X7_waysFor_L159
      rw [nI_l (by omega), lN_mul, if_neg (fun q => c ((l_pos wq).1 q))]
      refine b_run L1 ?_
      by_cases t0 : tt = 0
      · rw [if_pos (by rw [t0]; rfl)]
        rw [if_pos t0] at hz
        exact hz
      · rw [if_neg (nI_ne0 (by omega) (by omega))]
        rw [if_neg t0] at hz
        exact hz
    have F : ∀ (g : Int32) (m : Nat → Int64), f_X7_waysFor_L225 (nI nm) (nI n) (lN S) (nI e) (nI k) (lN (w * qrE h tt e)) (wM (wiE h r tt cd e)) gw gt gc i1 g ta m = some (.inl (lN (S + geS h r tt nm w cd e * 2 ^ (4 * (n - k - 1))), nI (e + 1), gw, gt, gc, i1, g, ta, m)) := by
      intro g m
      unfold f_X7_waysFor_L225 f_X7_waysFor_L247 f_X7_waysFor_L249 geS
      by_cases d : wiE h r tt cd e = nm + 1
      · rw [if_pos (by rw [d]; rfl), if_pos d, pk_sub (by omega), q_1, pk_sub (by omega), q_4, pk_mul, l_shl _ (by omega), lN_add, nI_add]
      · rw [if_neg (fun q => by rw [eq_comm, q_wM (by omega) (by omega)] at q; exact d q), if_neg d, Nat.zero_mul, show (0 : Int64) = lN 0 from rfl, lN_add, nI_1]
    by_cases d : wiE h r tt cd e = 0
    · refine ⟨(lN (S + geS h r tt nm w cd e * 2 ^ (4 * (n - k - 1))), nI (e + 1), gw, gt, gc, i1, nI e, ta, vp_updL mo (nxE h r tt cd e) (lN (B (nxE h r tt cd e) + w * qrE h tt e))), Z _ ?_, rfl, rfl, fun x hx => ?_⟩
      · unfold f_X7_waysFor_L195
        refine b_run G1 (b_run G4 ?_)
        rw [if_neg (by rw [q_0, q_wMg (by omega)]; exact fun q => q d)]
        refine b_run C ?_
        rw [q_cl (by omega), if_neg (by rw [q_0, q_lt (by omega) (by omega)]; omega), hmo _ n1, lN_add]
        exact F _ _
      · show vp_updL mo (nxE h r tt cd e) (lN (B (nxE h r tt cd e) + w * qrE h tt e)) x = _
        unfold meS
        by_cases f : nxE h r tt cd e = x
        · rw [if_pos ⟨d, f⟩, f, pk_uLs]
        · rw [if_neg (fun q => f q.2), pk_uLn (fun q => f q.symm)]; exact hmo x hx
    · refine ⟨(lN (S + geS h r tt nm w cd e * 2 ^ (4 * (n - k - 1))), nI (e + 1), gw, gt, gc, i1, nI e, ta, mo), Z _ ?_, rfl, rfl, fun x hx => ?_⟩
      · unfold f_X7_waysFor_L195
        refine b_run G1 (b_run G4 ?_)
        rw [if_pos (by rw [q_0, q_wMg (by omega)]; exact d)]
        exact F _ _
      · show mo x = _
        unfold meS
        rw [if_neg (fun q => d q.1)]; exact hmo x hx
theorem ge_hi {h : Hl} {r : Br} {tt nm w cd e : Nat} (h1 : 2 ^ hLots h (hB h) ≤ e) (h2 : e < 4) : geS h r tt nm w cd e = 0 := by
  unfold geS qrE
  rw [q_hi h1 h2, Nat.zero_mul, Nat.mul_zero]; split <;> rfl
theorem me_hi {h : Hl} {r : Br} {tt x w cd e : Nat} (h1 : 2 ^ hLots h (hB h) ≤ e) (h2 : e < 4) : meS h r tt x w cd e = 0 := by
  unfold meS qrE
  rw [q_hi h1 h2, Nat.zero_mul, Nat.mul_zero]; split <;> rfl
theorem m_inner {h : Hl} (ok : hOK h) {vb : Int32} {vme vmo vdi vsi vor : Nat → Int32} (t : tX h vb vme vmo vdi vsi vor) {N : Nat} (hN : 200000 ≤ N) {r : Br} (rok : bOK r) {vab vbe vst vlo : Nat → Int32} (rr : rX r vab vbe vst vlo) {tt : Nat} (ht : tt < 32) {wk : Nat} (hwk : wk < 1000) {nm n k : Nat} (hnm : nm < 5) (hk : k < n) (hn : n ≤ 12) {cd : Nat} (hcd : cd < 46656) {w : Nat} {wa : Nat → Int64} (hwa : wa cd = lN w) (hw : w < 2 ^ 50) (hP : w ≠ 0 → Pk h cd) {S : Nat} {B : Nat → Nat} {s : W9} (h1 : s.1 = lN S) (h2 : s.2.1 = nI 0) (h3 : ∀ x, x < 46656 → s.2.2.2.2.2.2.2.2 x = lN (B x)) :
    ∃ u : W9, lp (fun s : W9 => f_X7_waysFor_B104 N vb (wM 0) (nI wk) (1 : Int32) vme vmo vdi vsi vor vab vbe vst vlo wa (nI nm) (nI n) (nI cd) (nI tt) (nI k) s.1 s.2.1 s.2.2.1 s.2.2.2.1 s.2.2.2.2.1 s.2.2.2.2.2.1 s.2.2.2.2.2.2.1 s.2.2.2.2.2.2.2.1 s.2.2.2.2.2.2.2.2) N s = some u ∧ u.1 = lN (S + sm (geS h r tt nm w cd) 4 * 2 ^ (4 * (n - k - 1))) ∧ ∀ x, x < 46656 → u.2.2.2.2.2.2.2.2 x = lN (B x + sm (meS h r tt x w cd) 4) := by
  have hl2 := ok.2.2
  have LM := m_lotB ok t hN
  have pl : 2 ^ hLots h (hB h) ≤ 2 ^ 2 := Nat.pow_le_pow_right (by decide) hl2
  have pl : 2 ^ hLots h (hB h) ≤ 4 := pl
  have sh : ((1 : Int32) <<< (nI (hLots h (hB h)) &&& 31)) = nI (2 ^ hLots h (hB h)) := by rw [q_1, q_31, q_shl (by omega)]
  rw [sm_tail 4 pl (fun e a b => ge_hi a b)]
  have eM : ∀ x, sm (meS h r tt x w cd) 4 = sm (meS h r tt x w cd) (2 ^ hLots h (hB h)) := fun x => sm_tail 4 pl (fun e a b => me_hi a b)
  refine lp_rel0 (fun e (s : W9) => s.1 = lN (S + sm (geS h r tt nm w cd) e * 2 ^ (4 * (n - k - 1))) ∧ s.2.1 = nI e ∧ ∀ x, x < 46656 → s.2.2.2.2.2.2.2.2 x = lN (B x + sm (meS h r tt x w cd) e)) _ (2 ^ hLots h (hB h)) (by omega) ⟨by rw [h1]; show lN S = lN (S + 0 * _); rw [Nat.zero_mul]; rfl, h2, h3⟩ ?_ ?_
  · rintro e he s ⟨a1, a2, a3⟩
    by_cases z : w = 0
    · right
      refine ⟨s, ?_, ?_, fun x hx => ?_⟩
      · unfold f_X7_waysFor_B104
        refine b_run LM ?_
        rw [a2, sh, if_neg (by rw [q_le (by omega) (by omega)]; omega), q_cl (by omega), if_neg (by rw [q_0, q_lt (by omega) (by omega)]; omega), hwa, if_pos ((l_pos (by omega)).2 z), ← a2]
      · have g0 : ∀ m, sm (geS h r tt nm w cd) m = 0 := fun m => sm_zero m (fun e _ => by unfold geS; rw [z, Nat.zero_mul]; split <;> rfl)
        rw [a1, g0, g0]
      · have m0 : ∀ m, sm (meS h r tt x w cd) m = 0 := fun m => sm_zero m (fun e _ => by unfold meS; rw [z, Nat.zero_mul]; split <;> rfl)
        rw [a3 x hx, eM, m0, m0]
    · left
      obtain ⟨u, U1, U2, U3, U4⟩ := m_l159 ok t hN rok rr ht hwk hnm hk hn hcd (e := e) (by omega) hw hP (S := S + sm (geS h r tt nm w cd) e * 2 ^ (4 * (n - k - 1))) s.2.2.1 s.2.2.2.1 s.2.2.2.2.1 s.2.2.2.2.2.1 s.2.2.2.2.2.2.1 s.2.2.2.2.2.2.2.1 a3
      refine ⟨u, ?_, ?_, U3, fun x hx => ?_⟩
      · unfold f_X7_waysFor_B104
        refine b_run LM ?_
        rw [a2, sh, if_neg (by rw [q_le (by omega) (by omega)]; omega), q_cl (by omega), if_neg (by rw [q_0, q_lt (by omega) (by omega)]; omega), hwa, if_neg (fun q => z ((l_pos (by omega)).1 q)), a1]
        by_cases t0 : tt = 0
        · rw [if_pos (by rw [t0]; rfl)]
          by_cases e0 : e = 0
          · rw [if_pos (by rw [e0]; rfl)]
            rw [t0, qr_0 (by omega), if_pos e0] at U1
            rw [t0]; exact U1
          · rw [if_neg (nI_ne0 (by omega) (by omega))]
            rw [t0, qr_0 (by omega), if_neg e0] at U1
            rw [t0]; exact U1
        · rw [if_neg (nI_ne0 (by omega) (by omega))]
          exact b_run (m_weight ok t hN t0 (by omega) he) U1
      · show u.1 = lN (S + (sm (geS h r tt nm w cd) e + geS h r tt nm w cd e) * 2 ^ (4 * (n - k - 1)))
        rw [U2, Nat.add_mul, Nat.add_assoc]
      · show _ = lN (B x + (sm (meS h r tt x w cd) e + meS h r tt x w cd e))
        rw [U4 x hx, Nat.add_assoc]
  · rintro s ⟨a1, a2, a3⟩
    refine ⟨s, ?_, a1, fun x hx => by rw [eM]; exact a3 x hx⟩
    unfold f_X7_waysFor_B104
    refine b_run LM ?_
    rw [a2, sh, if_pos (by rw [q_le (by omega) (by omega)]; omega), ← a2]
theorem m_mid {h : Hl} (ok : hOK h) {vb : Int32} {vme vmo vdi vsi vor : Nat → Int32} (t : tX h vb vme vmo vdi vsi vor) {N : Nat} (hN : 200000 ≤ N) {r : Br} (rok : bOK r) {vab vbe vst vlo : Nat → Int32} (rr : rX r vab vbe vst vlo) {tt : Nat} (ht : tt < 32) {wk : Nat} (hwk : wk < 1000) {nm n k : Nat} (hnm : nm < 5) (hk : k < n) (hn : n ≤ 12) {W : Nat → Nat} {wa : Nat → Int64} (hwa : ∀ x, x < 46656 → wa x = lN (W x) ∧ W x < 2 ^ 50 ∧ (W x ≠ 0 → Pk h x)) {S : Nat} {s : W9} (h1 : s.1 = lN S) (h2 : s.2.1 = nI 0) (h3 : ∀ x, x < 46656 → s.2.2.2.2.2.2.2.2 x = lN 0) :
    ∃ u : W9, lp (fun s : W9 => f_X7_waysFor_B87 N vb (wM 0) (nI wk) (1 : Int32) vme vmo vdi vsi vor vab vbe vst vlo wa (nI nm) (nI n) (nI tt) (nI k) s.1 s.2.1 s.2.2.1 s.2.2.2.1 s.2.2.2.2.1 s.2.2.2.2.2.1 s.2.2.2.2.2.2.1 s.2.2.2.2.2.2.2.1 s.2.2.2.2.2.2.2.2) N s = some u ∧ u.1 = lN (S + gaW 46656 (wiE h r tt) (qrE h tt) W nm * 2 ^ (4 * (n - k - 1))) ∧ ∀ x, x < 46656 → u.2.2.2.2.2.2.2.2 x = lN (stW 46656 (nxE h r tt) (wiE h r tt) (qrE h tt) W x) := by
  refine lp_rel0 (fun cd (s : W9) => s.1 = lN (S + sm (fun c => sm (geS h r tt nm (W c) c) 4) cd * 2 ^ (4 * (n - k - 1))) ∧ s.2.1 = nI cd ∧ ∀ x, x < 46656 → s.2.2.2.2.2.2.2.2 x = lN (sm (fun c => sm (meS h r tt x (W c) c) 4) cd)) _ 46656 (by omega) ⟨by rw [h1]; show lN S = lN (S + 0 * _); rw [Nat.zero_mul]; rfl, h2, h3⟩ ?_ ?_
  · rintro cd hcd s ⟨a1, a2, a3⟩
    left
    obtain ⟨w1, w2, w3⟩ := hwa cd hcd
    obtain ⟨u, U1, U2, U3⟩ := m_inner ok t hN rok rr ht hwk hnm hk hn hcd w1 w2 w3 (s := (s.1, (0 : Int32), s.2.2.1, s.2.2.2.1, s.2.2.2.2.1, s.2.2.2.2.2.1, s.2.2.2.2.2.2.1, s.2.2.2.2.2.2.2.1, s.2.2.2.2.2.2.2.2)) a1 rfl a3
    refine ⟨(u.1, nI (cd + 1), u.2.2), ?_, ?_, rfl, fun x hx => ?_⟩
    · unfold f_X7_waysFor_B87
      rw [a2, if_neg (by rw [q_46656, q_le (by omega) (by omega)]; omega), if_neg (by rw [q_32, q_le (by omega) (by omega)]; omega)]
      refine b_run U1 ?_
      rw [nI_1]
    · show u.1 = lN (S + (sm (fun c => sm (geS h r tt nm (W c) c) 4) cd + sm (geS h r tt nm (W cd) cd) 4) * 2 ^ (4 * (n - k - 1)))
      rw [U2, Nat.add_mul, Nat.add_assoc]
    · show u.2.2.2.2.2.2.2.2 x = lN (sm (fun c => sm (meS h r tt x (W c) c) 4) cd + sm (meS h r tt x (W cd) cd) 4)
      rw [U3 x hx]
  · rintro s ⟨a1, a2, a3⟩
    refine ⟨s, ?_, a1, a3⟩
    unfold f_X7_waysFor_B87
    rw [if_pos (by rw [a2, q_46656, q_le (by omega) (by omega)]; omega)]
def flL (v : Nat → Int64) (g : Nat → Int64) (n : Nat) : Nat → Int64 := it (fun k v => vp_updL v k (g k)) v n
theorem flL_at (v g : Nat → Int64) : ∀ n x, flL v g n x = if x < n then g x else v x := by
  intro n
  induction n with
  | zero => intro x; rw [if_neg (Nat.not_lt_zero x)]; rfl
  | succ n ih =>
    intro x
    show vp_updL (flL v g n) n (g n) x = _
    by_cases c : x = n
    · subst c; rw [pk_uLs, if_pos (by omega)]
    · rw [pk_uLn c, ih]
      by_cases d : x < n
      · rw [if_pos d, if_pos (by omega)]
      · rw [if_neg d, if_neg (by omega)]
theorem m_fillM {N : Nat} (hN : 200000 ≤ N) (v : Nat → Int64) : lp (fun s : Int32 × (Nat → Int64) => f_X7_waysFor_B63 s.1 s.2) N ((0 : Int32), v) = some (nI 46656, flL v (fun _ => 0) 46656) := by
  refine lp_for (fun k => (nI k, flL v (fun _ => 0) k)) 46656 (by omega) rfl ?_ ?_
  · intro k hk
    show f_X7_waysFor_B63 (nI k) (flL v (fun _ => 0) k) = some (Sum.inl (nI (k + 1), vp_updL (flL v (fun _ => 0) k) k 0))
    generalize flL v (fun _ => 0) k = z
    unfold f_X7_waysFor_B63
    rw [if_neg (by rw [q_46656, q_le (by omega) (by omega)]; omega), q_cl (by omega), if_neg (by rw [q_0, q_lt (by omega) (by omega)]; omega), nI_1]
  · show f_X7_waysFor_B63 (nI 46656) (flL v (fun _ => 0) 46656) = _
    generalize flL v (fun _ => 0) 46656 = z
    unfold f_X7_waysFor_B63
    rw [if_pos (show (46656 : Int32) ≤ nI 46656 by decide)]
theorem m_fillV {N : Nat} (hN : 200000 ≤ N) (v : Nat → Int64) : lp (fun s : Int32 × (Nat → Int64) => f_X7_waysFor_B2 s.1 s.2) N ((0 : Int32), v) = some (nI 46656, flL v (fun _ => 0) 46656) := by
  refine lp_for (fun k => (nI k, flL v (fun _ => 0) k)) 46656 (by omega) rfl ?_ ?_
  · intro k hk
    show f_X7_waysFor_B2 (nI k) (flL v (fun _ => 0) k) = some (Sum.inl (nI (k + 1), vp_updL (flL v (fun _ => 0) k) k 0))
    generalize flL v (fun _ => 0) k = z
    unfold f_X7_waysFor_B2
    rw [if_neg (by rw [q_46656, q_le (by omega) (by omega)]; omega), q_cl (by omega), if_neg (by rw [q_0, q_lt (by omega) (by omega)]; omega), nI_1]
  · show f_X7_waysFor_B2 (nI 46656) (flL v (fun _ => 0) 46656) = _
    generalize flL v (fun _ => 0) 46656 = z
    unfold f_X7_waysFor_B2
    rw [if_pos (show (46656 : Int32) ≤ nI 46656 by decide)]
theorem m_copyW {N : Nat} (hN : 200000 ≤ N) (v g : Nat → Int64) : lp (fun s : Int32 × (Nat → Int64) => f_X7_waysFor_B264 g s.1 s.2) N ((0 : Int32), v) = some (nI 46656, flL v g 46656) := by
  refine lp_for (fun k => (nI k, flL v g k)) 46656 (by omega) rfl ?_ ?_
  · intro k hk
    show f_X7_waysFor_B264 g (nI k) (flL v g k) = some (Sum.inl (nI (k + 1), vp_updL (flL v g k) k (g k)))
    generalize flL v g k = z
    unfold f_X7_waysFor_B264
    rw [if_neg (by rw [q_46656, q_le (by omega) (by omega)]; omega), q_cl (by omega), if_neg (by rw [q_0, q_lt (by omega) (by omega)]; omega), nI_1]
  · show f_X7_waysFor_B264 g (nI 46656) (flL v g 46656) = _
    generalize flL v g 46656 = z
    unfold f_X7_waysFor_B264
    rw [if_pos (show (46656 : Int32) ≤ nI 46656 by decide)]
-- the whole reckoning
theorem ch_sum {h : Hl} {r : Br} {b0 : Nat} {c : Nat → Nat} {nm n k : Nat} (hk : k < n) : chA h r b0 c nm k * chF h b0 k * 16 ^ (n - k) + gaW 46656 (wiE h r (b0 + k)) (qrE h (b0 + k)) (fun x => chW h r b0 c k x * chF h b0 k) nm * 2 ^ (4 * (n - k - 1)) = chA h r b0 c nm (k + 1) * chF h b0 (k + 1) * 16 ^ (n - (k + 1)) := by
  rw [gaW_sc (q' := qrE h (b0 + k)) (q := qE h (b0 + k)) (W := chW h r b0 c k) (a := chF h b0 k) (b := 16 / wyS h (b0 + k)) (fun _ _ => rfl) (fun _ _ => rfl)]
  show _ = (chA h r b0 c nm k * wyS h (b0 + k) + gaW 46656 (wiE h r (b0 + k)) (qE h (b0 + k)) (chW h r b0 c k) nm) * (chF h b0 k * (16 / wyS h (b0 + k))) * 16 ^ (n - (k + 1))
  rw [Nat.add_mul, Nat.add_mul]
  congr 1
  · rw [Nat.mul_mul_mul_comm, wy_16, show n - k = (n - (k + 1)) + 1 by omega, Nat.pow_succ, Nat.mul_comm (16 ^ (n - (k + 1))) 16, Nat.mul_assoc (chA h r b0 c nm k * chF h b0 k) 16]
  · rw [Nat.pow_mul, show n - k - 1 = n - (k + 1) by omega]
theorem ch_small {h : Hl} (ok : hOK h) {r : Br} {b0 : Nat} {c : Nat → Nat} {k : Nat} (hk : k ≤ 12) {x : Nat} (hx : x < 46656) : chW h r b0 c k x * chF h b0 k < 2 ^ 50 := by
  have m := ch_mass ok r b0 c 0 k
  have a := sm_at (f := chW h r b0 c k) 46656 x hx
  have b : chW h r b0 c k x * chF h b0 k ≤ chB h b0 k * chF h b0 k := Nat.mul_le_mul_right _ (by omega)
  rw [chBF] at b
  have d : 16 ^ k ≤ 16 ^ 12 := Nat.pow_le_pow_right (by decide) hk
  have : (16 : Nat) ^ 12 < 2 ^ 50 := by decide
  omega
def wkS (h : Hl) (r : Br) (b0 : Nat) (c : Nat → Nat) (nm n T k : Nat) (sum : Int64) (wa : Nat → Int64) : Prop :=
  (k ≤ T ∧ sum = lN (chA h r b0 c nm k * chF h b0 k * 16 ^ (n - k)) ∧ ∀ x, x < 46656 → wa x = lN (chW h r b0 c k x * chF h b0 k)) ∨
  (T < k ∧ sum = lN (chA h r b0 c nm T * chF h b0 T * 16 ^ (n - T)) ∧ ∀ x, x < 46656 → wa x = lN 0)
theorem m_waysFor {h : Hl} (ok : hOK h) {vb : Int32} {vme vmo vdi vsi vor : Nat → Int32} (t : tX h vb vme vmo vdi vsi vor) {N : Nat} (hN : 200000 ≤ N) {r : Br} (rok : bOK r) {vab vbe vst vlo : Nat → Int32} (rr : rX r vab vbe vst vlo) {b0 : Nat} (hb : b0 ≤ 32) {c : Nat → Nat} (hc : wOK h c) {wk : Nat} (hwk : wk < 1000) {nm n T : Nat} (hnm : nm < 5) (hn : n ≤ 12) (hT : T ≤ n) (hT2 : b0 + T ≤ 32) (hT3 : T = n ∨ b0 + T = 32 ∨ ∀ x, x < 46656 → chW h r b0 c T x = 0) {vwr : Nat → Int32} (hw : ∀ b, b < 6 → vwr b = wM (c b)) (us tb ta : Int32) (v1 v2 v3 : Nat → Int32) (wa mo : Nat → Int64) :
    ∃ u : Int64 × (Nat → Int32) × (Nat → Int32) × (Nat → Int32) × Int32 × Int32 × Int32 × Int32 × (Nat → Int64) × (Nat → Int64), f_X7_waysFor N vb (nI b0) us (wM 0) (nI wk) tb ta vme vmo vdi vsi vor vab vbe vst vlo vwr v1 v2 v3 wa mo (nI nm) (nI n) = some u ∧ u.1 = lN (chA h r b0 c nm T * chF h b0 T * 16 ^ (n - T)) ∧ u.2.2.2.2.2.1 = nI 0 := by
  have el := enc_lt (wOK_lt ok hc)
  obtain ⟨cp, C1, C2⟩ := m_takeNow hN us vwr v1
  have CD := m_code hN (fun b hb => (C2 b hb).trans (hw b hb)) (wOK_lt ok hc)
  have L : ∃ u : W10, lp (fun s : W10 => f_X7_waysFor_B45 N vb (nI b0) (wM 0) (nI wk) (1 : Int32) vme vmo vdi vsi vor vab vbe vst vlo (nI nm) (nI n) s.1 s.2.1 s.2.2.1 s.2.2.2.1 s.2.2.2.2.1 s.2.2.2.2.2.1 s.2.2.2.2.2.2.1 s.2.2.2.2.2.2.2.1 s.2.2.2.2.2.2.2.2.1 s.2.2.2.2.2.2.2.2.2) N ((0 : Int64), (0 : Int32), cp, v2, v3, us, tb, ta, vp_updL (flL wa (fun _ => 0) 46656) (enc c) (1 : Int64), mo) = some u ∧ u.1 = lN (chA h r b0 c nm T * chF h b0 T * 16 ^ (n - T)) := by
    refine lp_rel0 (fun k (s : W10) => s.2.1 = nI k ∧ wkS h r b0 c nm n T k s.1 s.2.2.2.2.2.2.2.2.1) _ n (by omega) ⟨rfl, Or.inl ⟨by omega, ?_, fun x hx => ?_⟩⟩ ?_ ?_
    · show lN 0 = lN (0 * 1 * 16 ^ (n - 0))
      rw [Nat.zero_mul]
    · show vp_updL (flL wa (fun _ => 0) 46656) (enc c) 1 x = lN ((if enc c = x then 1 else 0) * 1)
      by_cases d : enc c = x
      · rw [if_pos d, d, pk_uLs]; rfl
      · rw [if_neg d, pk_uLn (fun q => d q.symm), flL_at, if_pos hx]; rfl
    · rintro k hk s ⟨a1, a2⟩
      left
      have M := m_fillM hN s.2.2.2.2.2.2.2.2.2
      have M0 : ∀ x, x < 46656 → flL s.2.2.2.2.2.2.2.2.2 (fun _ => 0) 46656 x = lN 0 := fun x hx => by rw [flL_at, if_pos hx]; rfl
      have FIN : ∀ {u : W9}, lp (fun z : W9 => f_X7_waysFor_B87 N vb (wM 0) (nI wk) (1 : Int32) vme vmo vdi vsi vor vab vbe vst vlo s.2.2.2.2.2.2.2.2.1 (nI nm) (nI n) (nI (b0 + k)) (nI k) z.1 z.2.1 z.2.2.1 z.2.2.2.1 z.2.2.2.2.1 z.2.2.2.2.2.1 z.2.2.2.2.2.2.1 z.2.2.2.2.2.2.2.1 z.2.2.2.2.2.2.2.2) N (s.1, (0 : Int32), s.2.2.1, s.2.2.2.1, s.2.2.2.2.1, s.2.2.2.2.2.1, s.2.2.2.2.2.2.1, s.2.2.2.2.2.2.2.1, flL s.2.2.2.2.2.2.2.2.2 (fun _ => 0) 46656) = some u → wkS h r b0 c nm n T (k + 1) u.1 u.2.2.2.2.2.2.2.2 → ∃ s' : W10, f_X7_waysFor_B45 N vb (nI b0) (wM 0) (nI wk) (1 : Int32) vme vmo vdi vsi vor vab vbe vst vlo (nI nm) (nI n) s.1 s.2.1 s.2.2.1 s.2.2.2.1 s.2.2.2.2.1 s.2.2.2.2.2.1 s.2.2.2.2.2.2.1 s.2.2.2.2.2.2.2.1 s.2.2.2.2.2.2.2.2.1 s.2.2.2.2.2.2.2.2.2 = some (.inl s') ∧ s'.2.1 = nI (k + 1) ∧ wkS h r b0 c nm n T (k + 1) s'.1 s'.2.2.2.2.2.2.2.2.1 := by
        intro u hu hS
        refine ⟨(u.1, nI (k + 1), u.2.2.1, u.2.2.2.1, u.2.2.2.2.1, u.2.2.2.2.2.1, u.2.2.2.2.2.2.1, u.2.2.2.2.2.2.2.1, flL s.2.2.2.2.2.2.2.2.1 u.2.2.2.2.2.2.2.2 46656, u.2.2.2.2.2.2.2.2), ?_, rfl, ?_⟩
        · unfold f_X7_waysFor_B45
          rw [a1, if_neg (by rw [q_le (by omega) (by omega)]; omega), nI_add]
          refine b_run M (b_run hu (b_run (m_copyW hN _ _) ?_))
          rw [nI_1]
        · have F : ∀ x, x < 46656 → flL s.2.2.2.2.2.2.2.2.1 u.2.2.2.2.2.2.2.2 46656 x = u.2.2.2.2.2.2.2.2 x := fun x hx => by rw [flL_at, if_pos hx]
          rcases hS with ⟨p1, p2, p3⟩ | ⟨p1, p2, p3⟩
          · exact Or.inl ⟨p1, p2, fun x hx => (F x hx).trans (p3 x hx)⟩
          · exact Or.inr ⟨p1, p2, fun x hx => (F x hx).trans (p3 x hx)⟩
      have SKIP : (32 ≤ b0 + k ∨ ∀ x, x < 46656 → s.2.2.2.2.2.2.2.2.1 x = lN 0) → ∀ {S : Nat}, s.1 = lN S → ∃ u : W9, lp (fun z : W9 => f_X7_waysFor_B87 N vb (wM 0) (nI wk) (1 : Int32) vme vmo vdi vsi vor vab vbe vst vlo s.2.2.2.2.2.2.2.2.1 (nI nm) (nI n) (nI (b0 + k)) (nI k) z.1 z.2.1 z.2.2.1 z.2.2.2.1 z.2.2.2.2.1 z.2.2.2.2.2.1 z.2.2.2.2.2.2.1 z.2.2.2.2.2.2.2.1 z.2.2.2.2.2.2.2.2) N (s.1, (0 : Int32), s.2.2.1, s.2.2.2.1, s.2.2.2.2.1, s.2.2.2.2.2.1, s.2.2.2.2.2.2.1, s.2.2.2.2.2.2.2.1, flL s.2.2.2.2.2.2.2.2.2 (fun _ => 0) 46656) = some u ∧ u.1 = lN S ∧ ∀ x, x < 46656 → u.2.2.2.2.2.2.2.2 x = lN 0 := by
        intro hz S hS
        by_cases d : 32 ≤ b0 + k
        · obtain ⟨n', rfl⟩ : ∃ n', N = n' + 1 := ⟨N - 1, by omega⟩
          refine ⟨(s.1, (0 : Int32), s.2.2.1, s.2.2.2.1, s.2.2.2.2.1, s.2.2.2.2.2.1, s.2.2.2.2.2.2.1, s.2.2.2.2.2.2.2.1, flL s.2.2.2.2.2.2.2.2.2 (fun _ => 0) 46656), lp_stop ?_, hS, M0⟩
          show f_X7_waysFor_B87 (n' + 1) vb (wM 0) (nI wk) (1 : Int32) vme vmo vdi vsi vor vab vbe vst vlo _ _ _ (nI (b0 + k)) _ s.1 (0 : Int32) _ _ _ _ _ _ _ = _
          unfold f_X7_waysFor_B87
          rw [if_neg (show ¬ (46656 : Int32) ≤ 0 by decide), if_pos (by rw [q_32, q_le (by omega) (by omega)]; omega)]
        · have hz := hz.resolve_left d
          obtain ⟨u, U1, U2, U3⟩ := m_mid ok t hN rok rr (tt := b0 + k) (by omega) hwk hnm hk hn (W := fun _ => 0) (wa := s.2.2.2.2.2.2.2.2.1) (fun x hx => ⟨hz x hx, by decide, fun q => absurd rfl q⟩) (s := (s.1, (0 : Int32), s.2.2.1, s.2.2.2.1, s.2.2.2.2.1, s.2.2.2.2.2.1, s.2.2.2.2.2.2.1, s.2.2.2.2.2.2.2.1, flL s.2.2.2.2.2.2.2.2.2 (fun _ => 0) 46656)) hS rfl M0
          rw [gaW_0 (fun _ _ => rfl), Nat.zero_mul, Nat.add_zero] at U2
          exact ⟨u, U1, U2, fun x hx => by rw [U3 x hx, stW_0 (fun _ _ => rfl)]⟩
      rcases a2 with ⟨p1, p2, p3⟩ | ⟨p1, p2, p3⟩
      · by_cases d : k = T
        · have hz : 32 ≤ b0 + k ∨ ∀ x, x < 46656 → s.2.2.2.2.2.2.2.2.1 x = lN 0 := by
            rcases hT3 with q | q | q
            · omega
            · left; omega
            · right; intro x hx; rw [p3 x hx, d, q x hx, Nat.zero_mul]
          obtain ⟨u, U1, U2, U3⟩ := SKIP hz p2
          exact FIN U1 (Or.inr ⟨by omega, by rw [U2, d], U3⟩)
        · obtain ⟨u, U1, U2, U3⟩ := m_mid ok t hN rok rr (tt := b0 + k) (by omega) hwk hnm hk hn (W := fun x => chW h r b0 c k x * chF h b0 k) (wa := s.2.2.2.2.2.2.2.2.1) (fun x hx => ⟨p3 x hx, ch_small ok (by omega) hx, fun q => (chW_ok ok hc k x (fun z => q (by show chW h r b0 c k x * chF h b0 k = 0; rw [z, Nat.zero_mul]))).2⟩) (s := (s.1, (0 : Int32), s.2.2.1, s.2.2.2.1, s.2.2.2.2.1, s.2.2.2.2.2.1, s.2.2.2.2.2.2.1, s.2.2.2.2.2.2.2.1, flL s.2.2.2.2.2.2.2.2.2 (fun _ => 0) 46656)) p2 rfl M0
          refine FIN U1 (Or.inl ⟨by omega, ?_, fun x hx => ?_⟩)
          · rw [U2, ch_sum hk]
          · rw [U3 x hx, stW_sc (q' := qrE h (b0 + k)) (q := qE h (b0 + k)) (W := chW h r b0 c k) (a := chF h b0 k) (b := 16 / wyS h (b0 + k)) (fun _ _ => rfl) (fun _ _ => rfl)]; rfl
      · obtain ⟨u, U1, U2, U3⟩ := SKIP (Or.inr p3) p2
        exact FIN U1 (Or.inr ⟨by omega, U2, U3⟩)
    · rintro s ⟨a1, a2⟩
      refine ⟨s, ?_, ?_⟩
      · unfold f_X7_waysFor_B45
        rw [if_pos (by rw [a1, q_le (by omega) (by omega)]; omega)]
      · rcases a2 with ⟨p1, p2, p3⟩ | ⟨p1, p2, p3⟩
        · rw [p2, show T = n by omega]
        · exact p2
  obtain ⟨u, U1, U2⟩ := L
  refine ⟨(u.1, u.2.2.1, u.2.2.2.1, u.2.2.2.2.1, u.2.2.2.2.2.1, (0 : Int32), u.2.2.2.2.2.2.1, u.2.2.2.2.2.2.2.1, u.2.2.2.2.2.2.2.2.1, u.2.2.2.2.2.2.2.2.2), ?_, U2, rfl⟩
  unfold f_X7_waysFor
  refine b_run (m_fillV hN wa) (b_run C1 (b_run CD ?_))
  rw [q_cl (by omega), if_neg (by rw [q_0, q_lt (by omega) (by omega)]; omega)]
  exact b_run U1 rfl
